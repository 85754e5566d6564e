/-! ===== MergePostModel: what cannot stand in a template ===== -/
/-- where a row of at most m digits ends -/
def dgE (L : List Int32) (hi : Int32) : Nat → Nat → Nat
  | 0, p => p
  | m + 1, p => if 48 ≤ L.getD p 0 ∧ L.getD p 0 ≤ hi then dgE L hi m (p + 1) else p
theorem dgE_t {L : List Int32} {hi : Int32} {m p : Nat} (h : isDg (L.getD p 0) hi) : dgE L hi (m + 1) p = dgE L hi m (p + 1) := if_pos h
theorem dgE_f {L : List Int32} {hi : Int32} {m p : Nat} (h : ¬ isDg (L.getD p 0) hi) : dgE L hi (m + 1) p = p := if_neg h
theorem dgE_le {L : List Int32} {hi : Int32} : ∀ m p, p ≤ dgE L hi m p ∧ dgE L hi m p ≤ p + m
  | 0, p => ⟨Nat.le_refl _, Nat.le_refl _⟩
  | m + 1, p => by
    by_cases h : isDg (L.getD p 0) hi
    · rw [dgE_t h]; have := dgE_le (L := L) (hi := hi) m (p + 1); omega
    · rw [dgE_f h]; omega
theorem tNum_1 {L : List Int32} {hi : Int32} : ∀ m p acc, (tNum L hi m p acc).1 = dgE L hi m p
  | 0, p, acc => rfl
  | m + 1, p, acc => by
    by_cases h : isDg (L.getD p 0) hi
    · rw [dgE_t h, ← tNum_1 m (p + 1) ((if acc = -1 then 0 else acc * 10) + (L.getD p 0 - 48))]
      exact congrArg Prod.fst (if_pos h)
    · rw [dgE_f h]
      exact congrArg Prod.fst (if_neg h)
/-- the number of k digits from p on, behind a -/
def nmb (L : List Int32) : Nat → Nat → Int32 → Int32
  | 0, _, a => a
  | k + 1, p, a => nmb L k (p + 1) (a * 10 + (L.getD p 0 - 48))
theorem tNv {L : List Int32} {hi : Int32} (hh : ∀ c, isDg c hi → isDg c 57) : ∀ (m p a : Nat), m ≤ 3 → a < 10 ^ (7 - m) → ∃ b, (tNum L hi m p (nI a)).2 = nI b ∧ b + 1 ≤ (a + 1) * 10 ^ m ∧ nmb L (dgE L hi m p - p) p (nI a) = nI b := by
  intro m
  induction m with
  | zero => intro p a _ _; exact ⟨a, rfl, by omega, by rw [show dgE L hi 0 p = p from rfl, Nat.sub_self]; rfl⟩
  | succ m ih =>
    intro p a hm ha
    have hb : 10 ^ (7 - m) ≤ 10 ^ 7 := Nat.pow_le_pow_right (by decide) (by omega)
    have hs : 10 ^ (7 - m) = 10 * 10 ^ (7 - (m + 1)) := by rw [← Nat.pow_succ']; congr 1; omega
    by_cases q : isDg (L.getD p 0) hi
    · have e2 : tNum L hi (m + 1) p (nI a) = tNum L hi m (p + 1) ((if nI a = -1 then 0 else nI a * 10) + (L.getD p 0 - 48)) := if_pos q
      obtain ⟨j, hj, ec⟩ := dg_j (k := 9) (hh _ q) (by decide)
      obtain ⟨b, h1, h2, h3⟩ := ih (p + 1) (a * 10 + j) (by omega) (by omega)
      have e3 : (if nI a = -1 then 0 else nI a * 10) + (L.getD p 0 - 48) = nI (a * 10 + j) := by rw [if_neg (m1_ne (by omega)), ec, dg_sub, show nI a * 10 = nI (a * 10) from pk_mul a 10, nI_add]
      refine ⟨b, by rw [e2, e3]; exact h1, ?_, ?_⟩
      · have h4 : (a * 10 + j + 1) * 10 ^ m ≤ ((a + 1) * 10) * 10 ^ m := Nat.mul_le_mul_right _ (by omega)
        rw [Nat.pow_succ', ← Nat.mul_assoc]
        omega
      · have h5 := (dgE_le (L := L) (hi := hi) m (p + 1)).1
        rw [dgE_t q, show dgE L hi m (p + 1) - p = (dgE L hi m (p + 1) - (p + 1)) + 1 by omega]
        show nmb L _ (p + 1) (nI a * 10 + (L.getD p 0 - 48)) = _
        rw [ec, dg_sub, show nI a * 10 = nI (a * 10) from pk_mul a 10, nI_add]
        exact h3
    · have e2 : tNum L hi (m + 1) p (nI a) = (p, nI a) := if_neg q
      refine ⟨a, by rw [e2], ?_, by rw [dgE_f q, Nat.sub_self]; rfl⟩
      exact Nat.le_mul_of_pos_right _ (Nat.pow_pos (by decide))
/-- a number that begins here: none, or its value -/
theorem tNw {L : List Int32} {hi : Int32} (hh : ∀ c, isDg c hi → isDg c 57) (m p : Nat) (hm : m ≤ 2) : (dgE L hi (m + 1) p = p ∧ (tNum L hi (m + 1) p (-1)).2 = -1) ∨ (p < dgE L hi (m + 1) p ∧ ∃ b, b < 10 ^ (m + 1) ∧ (tNum L hi (m + 1) p (-1)).2 = nI b ∧ nmb L (dgE L hi (m + 1) p - p) p 0 = nI b) := by
  by_cases q : isDg (L.getD p 0) hi
  · have e2 : tNum L hi (m + 1) p (-1) = tNum L hi m (p + 1) ((if (-1 : Int32) = -1 then 0 else (-1) * 10) + (L.getD p 0 - 48)) := if_pos q
    obtain ⟨j, hj, ec⟩ := dg_j (k := 9) (hh _ q) (by decide)
    have hb : 10 ≤ 10 ^ (7 - m) := Nat.le_self_pow (n := 7 - m) (by omega) 10
    obtain ⟨b, h1, h2, h3⟩ := tNv (L := L) (hi := hi) hh m (p + 1) j (by omega) (by omega)
    have e3 : (if (-1 : Int32) = -1 then 0 else (-1) * 10) + (L.getD p 0 - 48) = nI j := by rw [if_pos rfl, ec, dg_sub, show (0 : Int32) + nI j = nI (0 + j) from nI_add 0 j, Nat.zero_add]
    have h5 := (dgE_le (L := L) (hi := hi) m (p + 1)).1
    refine Or.inr ⟨by rw [dgE_t q]; omega, b, ?_, by rw [e2, e3]; exact h1, ?_⟩
    · have h4 : (j + 1) * 10 ^ m ≤ 10 * 10 ^ m := Nat.mul_le_mul_right _ (by omega)
      rw [Nat.pow_succ']
      omega
    · rw [dgE_t q, show dgE L hi m (p + 1) - p = (dgE L hi m (p + 1) - (p + 1)) + 1 by omega]
      show nmb L _ (p + 1) (0 * 10 + (L.getD p 0 - 48)) = _
      rw [ec, dg_sub, show (0 : Int32) * 10 + nI j = nI (0 * 10 + j) from nI_add 0 j, Nat.zero_mul, Nat.zero_add]
      exact h3
  · have e2 : tNum L hi (m + 1) p (-1) = (p, -1) := if_neg q
    exact Or.inl ⟨dgE_f q, by rw [e2]⟩
theorem hN_iff {L : List Int32} {p : Nat} : hN L p = -1 ↔ hE L p = p + 3 := by
  unfold hN hE
  rw [tNum_1]
  rcases tNw (L := L) (hi := 57) (fun _ h => h) 2 (p + 3) (by decide) with ⟨h1, h2⟩ | ⟨h1, b, h2, h3, -⟩
  · exact ⟨fun _ => h1, fun _ => h2⟩
  · rw [h3]
    have h9 : b < 10 ^ 3 := h2
    have h8 : p + 3 < dgE L 57 3 (p + 3) := h1
    exact ⟨fun z => absurd z (m1_ne (by omega)), fun z => by omega⟩
/-- the head of a choice: where it is wrong, or where its first text begins -/
noncomputable def hdE (L : List Int32) (p : Nat) : Nat ⊕ Nat := if ¬ isFd (L.getD (p + 1) 0) then .inl (p + 1) else if ¬ isRl (L.getD (p + 2) 0) then .inl (p + 2) else if hE L p = p + 3 then .inl (hE L p) else if L.getD (hE L p) 0 = 63 then .inr (hE L p + 1) else .inl (hE L p)
def hdV : Nat ⊕ Nat → Int32
  | .inl q => -1 - nI q
  | .inr q => nI q
theorem hE_lt {L : List Int32} {p : Nat} : hE L p ≤ p + 6 := by unfold hE; rw [tNum_1]; exact (dgE_le 3 (p + 3)).2
set_option maxHeartbeats 4000000 in
theorem he_loop {mc ms kc ks : Nat} {V : aV} {L : List Int32} {p : Nat} {rl : Int32} (hR : MR V) (hl : ML V L) (hp : p < 1000) {Q : Option Value → aS → aV → Prop} {QX : String → aS → aV → Prop} (hK : R mX12_headEnd 1 mc ms Q QX kc ks 80 [some (.ref 504), some (.int (nI p)), some (.int rl), some (.int (nI (hE L p)))] [] Sh V) : ∀ (m j : Nat), j + m = 3 → hE L p = dgE L 57 m (p + 3 + j) → R mX12_headEnd 1 mc ms Q QX kc ks 55 [some (.ref 504), some (.int (nI p)), some (.int rl), some (.int (nI (p + 3 + j)))] [] Sh V := by
  intro m
  induction m with
  | zero =>
    intro j hj he
    have hj' : j = 3 := by omega
    subst hj'
    have he' : hE L p = p + 3 + 3 := he
    have c9 : nI p + 6 ≤ nI (p + 3 + 3) := by rw [show nI p + 6 = nI (p + 6) from nI_add p 6]; exact nI_le (by omega) (by omega)
    refine R_iload_3 dX12_headEnd_55 ?_
    refine R_iload_1 dX12_headEnd_56 ?_
    refine R_bipush (v := 6) dX12_headEnd_57 (by decide) ?_
    refine R_iadd dX12_headEnd_59 ?_
    refine R_icmp_ge 80 dX12_headEnd_60 (by decide) (fun c60 => ?_) (fun c60 => absurd c9 c60)
    rw [he'] at hK
    exact hK
  | succ m ih =>
    intro j hj he
    have b9 : ¬ nI p + 6 ≤ nI (p + 3 + j) := by rw [show nI p + 6 = nI (p + 6) from nI_add p 6]; exact nI_ge (by omega) (by omega)
    refine R_iload_3 dX12_headEnd_55 ?_
    refine R_iload_1 dX12_headEnd_56 ?_
    refine R_bipush (v := 6) dX12_headEnd_57 (by decide) ?_
    refine R_iadd dX12_headEnd_59 ?_
    refine R_icmp_ge 80 dX12_headEnd_60 (by decide) (fun c60 => absurd c60 b9) (fun c60 => ?_)
    refine R_aload_0 dX12_headEnd_63 ?_
    refine R_iload_3 dX12_headEnd_64 ?_
    refine R_callV_e (T := mX12_headEnd) (T' := mX12_signAt) (As := [_]) (ci := 12) okX12_signAt mlX12_132 rfl (by decide) sh_504 (ct_msignAt (p := p + 3 + j) hR hl (by omega)) rfl (by decide) (by decide) (Nat.le_of_ble_eq_true rfl) dX12_headEnd_65 ?_
    refine R_callS_e (T := mX12_headEnd) (T' := mX12_isDigit) (As := [_]) okX12_isDigit mlX12_142 rfl (ct_misDigit _) rfl (by decide) (by decide) (Nat.le_of_ble_eq_true rfl) dX12_headEnd_68 ?_
    refine R_if_eq 80 dX12_headEnd_71 (by decide) (fun c71 => ?_) (fun c71 => ?_)
    · have e9 : hE L p = p + 3 + j := he.trans (dgE_f (fun z => bI_eq c71 (lm_dg.2 z)))
      rw [e9] at hK
      exact hK
    · have e9 : hE L p = dgE L 57 m (p + 3 + j + 1) := he.trans (dgE_t (lm_dg.1 (bI_ne c71)))
      refine R_iinc_3 rfl (by decide) dX12_headEnd_74 rfl ?_
      rw [show nI (p + 3 + j) + Int32.ofInt 1 = nI (p + 3 + j + 1) from nI_1 _]
      refine R_goto 55 dX12_headEnd_77 (by decide) ?_
      exact ih (j + 1) (by omega) e9
set_option maxHeartbeats 4000000 in
theorem ct_headEnd {V : aV} {L : List Int32} (hR : MR V) (hl : ML V L) {p : Nat} (hp : p < 1000) : CT mX12_headEnd 1 0 0 [.ref 504, .int (nI p)] Sh V (aRet (some (.int (hdV (hdE L p)))) Sh V) aNo := by
  refine CT_of (by decide +kernel) (Nat.le_of_ble_eq_true rfl) ?_
  show R _ _ _ _ _ _ _ _ 0 [some (.ref 504), some (.int (nI p)), none, none] [] _ _
  refine R_aload_0 dX12_headEnd_0 ?_
  refine R_iload_1 dX12_headEnd_1 ?_
  refine R_iconst (v := 1) dX12_headEnd_2 (by decide) ?_
  refine R_iadd dX12_headEnd_3 ?_
  rw [show nI p + 1 = nI (p + 1) from nI_1 p]
  refine R_callV_e (T := mX12_headEnd) (T' := mX12_signAt) (As := [_]) (ci := 12) okX12_signAt mlX12_132 rfl (by decide) sh_504 (ct_msignAt (p := p + 1) hR hl (by omega)) rfl (by decide) (by decide) (Nat.le_of_ble_eq_true rfl) dX12_headEnd_4 ?_
  refine R_callS_e (T := mX12_headEnd) (T' := mX12_isField) (As := [_]) okX12_isField mlX12_136 rfl (ct_misField _) rfl (by decide) (by decide) (Nat.le_of_ble_eq_true rfl) dX12_headEnd_7 ?_
  refine R_if_ne 19 dX12_headEnd_10 (by decide) (fun c10 => ?_) (fun c10 => ?_)
  · have hf : isFd (L.getD (p + 1) 0) := lm_fd.1 (bI_ne c10)
    refine R_aload_0 dX12_headEnd_19 ?_
    refine R_iload_1 dX12_headEnd_20 ?_
    refine R_iconst (v := 2) dX12_headEnd_21 (by decide) ?_
    refine R_iadd dX12_headEnd_22 ?_
    rw [show nI p + 2 = nI (p + 2) from nI_add p 2]
    refine R_callV_e (T := mX12_headEnd) (T' := mX12_signAt) (As := [_]) (ci := 12) okX12_signAt mlX12_132 rfl (by decide) sh_504 (ct_msignAt (p := p + 2) hR hl (by omega)) rfl (by decide) (by decide) (Nat.le_of_ble_eq_true rfl) dX12_headEnd_23 ?_
    refine R_istore_2 rfl (by decide) dX12_headEnd_26 ?_
    refine R_iload_2 dX12_headEnd_27 ?_
    refine R_bipush (v := 61) dX12_headEnd_28 (by decide) ?_
    refine R_icmp_eq 51 dX12_headEnd_30 (by decide) (fun c30 => ?_) (fun c30 => ?_)
    · have hr : isRl (L.getD (p + 2) 0) := (by first | exact Or.inl ((lm_eq (by decide) (by decide)).1 c30) | exact Or.inr (Or.inl ((lm_eq (by decide) (by decide)).1 c36)) | exact Or.inr (Or.inr ((lm_eq (by decide) (by decide)).1 c42)))
      have hh := hE_le hr
      have hh2 := hE_lt (L := L) (p := p)
      refine R_iload_1 dX12_headEnd_51 ?_
      refine R_iconst (v := 3) dX12_headEnd_52 (by decide) ?_
      refine R_iadd dX12_headEnd_53 ?_
      rw [show nI p + 3 = nI (p + 3) from nI_add p 3]
      refine R_istore_3 rfl (by decide) dX12_headEnd_54 ?_
      refine he_loop (hK := ?_) hR hl hp 3 0 rfl (by unfold hE; rw [tNum_1])
      refine R_iload_3 dX12_headEnd_80 ?_
      refine R_iload_1 dX12_headEnd_81 ?_
      refine R_iconst (v := 3) dX12_headEnd_82 (by decide) ?_
      refine R_iadd dX12_headEnd_83 ?_
      rw [show nI p + 3 = nI (p + 3) from nI_add p 3]
      refine R_icmp_eq 97 dX12_headEnd_84 (by decide) (fun c84 => ?_) (fun c84 => ?_)
      · refine R_iconst (v := -1) dX12_headEnd_97 (by decide) ?_
        refine R_iload_3 dX12_headEnd_98 ?_
        refine R_isub dX12_headEnd_99 ?_
        refine R_iret rfl dX12_headEnd_100 ⟨by unfold hdE; rw [if_neg (not_not_intro hf), if_neg (not_not_intro hr)]; first | rw [if_pos ((nI_eq (by omega) (by omega)).1 c84)]; rfl | (rw [if_neg (fun z => c84 (by rw [z])), if_neg (fun z => c94 ((lm_eq (by decide) (by decide)).2 z))]; rfl), rfl, rfl⟩
      · refine R_aload_0 dX12_headEnd_87 ?_
        refine R_iload_3 dX12_headEnd_88 ?_
        refine R_callV_e (T := mX12_headEnd) (T' := mX12_signAt) (As := [_]) (ci := 12) okX12_signAt mlX12_132 rfl (by decide) sh_504 (ct_msignAt (p := hE L p) hR hl (by omega)) rfl (by decide) (by decide) (Nat.le_of_ble_eq_true rfl) dX12_headEnd_89 ?_
        refine R_bipush (v := 63) dX12_headEnd_92 (by decide) ?_
        refine R_icmp_eq 101 dX12_headEnd_94 (by decide) (fun c94 => ?_) (fun c94 => ?_)
        · refine R_iload_3 dX12_headEnd_101 ?_
          refine R_iconst (v := 1) dX12_headEnd_102 (by decide) ?_
          refine R_iadd dX12_headEnd_103 ?_
          rw [nI_1]
          refine R_iret rfl dX12_headEnd_104 ⟨by unfold hdE; rw [if_neg (not_not_intro hf), if_neg (not_not_intro hr), if_neg (fun z => c84 (by rw [z])), if_pos ((lm_eq (by decide) (by decide)).1 c94)]; rfl, rfl, rfl⟩
        · refine R_iconst (v := -1) dX12_headEnd_97 (by decide) ?_
          refine R_iload_3 dX12_headEnd_98 ?_
          refine R_isub dX12_headEnd_99 ?_
          refine R_iret rfl dX12_headEnd_100 ⟨by unfold hdE; rw [if_neg (not_not_intro hf), if_neg (not_not_intro hr)]; first | rw [if_pos ((nI_eq (by omega) (by omega)).1 c84)]; rfl | (rw [if_neg (fun z => c84 (by rw [z])), if_neg (fun z => c94 ((lm_eq (by decide) (by decide)).2 z))]; rfl), rfl, rfl⟩
    · refine R_iload_2 dX12_headEnd_33 ?_
      refine R_bipush (v := 60) dX12_headEnd_34 (by decide) ?_
      refine R_icmp_eq 51 dX12_headEnd_36 (by decide) (fun c36 => ?_) (fun c36 => ?_)
      · have hr : isRl (L.getD (p + 2) 0) := (by first | exact Or.inl ((lm_eq (by decide) (by decide)).1 c30) | exact Or.inr (Or.inl ((lm_eq (by decide) (by decide)).1 c36)) | exact Or.inr (Or.inr ((lm_eq (by decide) (by decide)).1 c42)))
        have hh := hE_le hr
        have hh2 := hE_lt (L := L) (p := p)
        refine R_iload_1 dX12_headEnd_51 ?_
        refine R_iconst (v := 3) dX12_headEnd_52 (by decide) ?_
        refine R_iadd dX12_headEnd_53 ?_
        rw [show nI p + 3 = nI (p + 3) from nI_add p 3]
        refine R_istore_3 rfl (by decide) dX12_headEnd_54 ?_
        refine he_loop (hK := ?_) hR hl hp 3 0 rfl (by unfold hE; rw [tNum_1])
        refine R_iload_3 dX12_headEnd_80 ?_
        refine R_iload_1 dX12_headEnd_81 ?_
        refine R_iconst (v := 3) dX12_headEnd_82 (by decide) ?_
        refine R_iadd dX12_headEnd_83 ?_
        rw [show nI p + 3 = nI (p + 3) from nI_add p 3]
        refine R_icmp_eq 97 dX12_headEnd_84 (by decide) (fun c84 => ?_) (fun c84 => ?_)
        · refine R_iconst (v := -1) dX12_headEnd_97 (by decide) ?_
          refine R_iload_3 dX12_headEnd_98 ?_
          refine R_isub dX12_headEnd_99 ?_
          refine R_iret rfl dX12_headEnd_100 ⟨by unfold hdE; rw [if_neg (not_not_intro hf), if_neg (not_not_intro hr)]; first | rw [if_pos ((nI_eq (by omega) (by omega)).1 c84)]; rfl | (rw [if_neg (fun z => c84 (by rw [z])), if_neg (fun z => c94 ((lm_eq (by decide) (by decide)).2 z))]; rfl), rfl, rfl⟩
        · refine R_aload_0 dX12_headEnd_87 ?_
          refine R_iload_3 dX12_headEnd_88 ?_
          refine R_callV_e (T := mX12_headEnd) (T' := mX12_signAt) (As := [_]) (ci := 12) okX12_signAt mlX12_132 rfl (by decide) sh_504 (ct_msignAt (p := hE L p) hR hl (by omega)) rfl (by decide) (by decide) (Nat.le_of_ble_eq_true rfl) dX12_headEnd_89 ?_
          refine R_bipush (v := 63) dX12_headEnd_92 (by decide) ?_
          refine R_icmp_eq 101 dX12_headEnd_94 (by decide) (fun c94 => ?_) (fun c94 => ?_)
          · refine R_iload_3 dX12_headEnd_101 ?_
            refine R_iconst (v := 1) dX12_headEnd_102 (by decide) ?_
            refine R_iadd dX12_headEnd_103 ?_
            rw [nI_1]
            refine R_iret rfl dX12_headEnd_104 ⟨by unfold hdE; rw [if_neg (not_not_intro hf), if_neg (not_not_intro hr), if_neg (fun z => c84 (by rw [z])), if_pos ((lm_eq (by decide) (by decide)).1 c94)]; rfl, rfl, rfl⟩
          · refine R_iconst (v := -1) dX12_headEnd_97 (by decide) ?_
            refine R_iload_3 dX12_headEnd_98 ?_
            refine R_isub dX12_headEnd_99 ?_
            refine R_iret rfl dX12_headEnd_100 ⟨by unfold hdE; rw [if_neg (not_not_intro hf), if_neg (not_not_intro hr)]; first | rw [if_pos ((nI_eq (by omega) (by omega)).1 c84)]; rfl | (rw [if_neg (fun z => c84 (by rw [z])), if_neg (fun z => c94 ((lm_eq (by decide) (by decide)).2 z))]; rfl), rfl, rfl⟩
      · refine R_iload_2 dX12_headEnd_39 ?_
        refine R_bipush (v := 62) dX12_headEnd_40 (by decide) ?_
        refine R_icmp_eq 51 dX12_headEnd_42 (by decide) (fun c42 => ?_) (fun c42 => ?_)
        · have hr : isRl (L.getD (p + 2) 0) := (by first | exact Or.inl ((lm_eq (by decide) (by decide)).1 c30) | exact Or.inr (Or.inl ((lm_eq (by decide) (by decide)).1 c36)) | exact Or.inr (Or.inr ((lm_eq (by decide) (by decide)).1 c42)))
          have hh := hE_le hr
          have hh2 := hE_lt (L := L) (p := p)
          refine R_iload_1 dX12_headEnd_51 ?_
          refine R_iconst (v := 3) dX12_headEnd_52 (by decide) ?_
          refine R_iadd dX12_headEnd_53 ?_
          rw [show nI p + 3 = nI (p + 3) from nI_add p 3]
          refine R_istore_3 rfl (by decide) dX12_headEnd_54 ?_
          refine he_loop (hK := ?_) hR hl hp 3 0 rfl (by unfold hE; rw [tNum_1])
          refine R_iload_3 dX12_headEnd_80 ?_
          refine R_iload_1 dX12_headEnd_81 ?_
          refine R_iconst (v := 3) dX12_headEnd_82 (by decide) ?_
          refine R_iadd dX12_headEnd_83 ?_
          rw [show nI p + 3 = nI (p + 3) from nI_add p 3]
          refine R_icmp_eq 97 dX12_headEnd_84 (by decide) (fun c84 => ?_) (fun c84 => ?_)
          · refine R_iconst (v := -1) dX12_headEnd_97 (by decide) ?_
            refine R_iload_3 dX12_headEnd_98 ?_
            refine R_isub dX12_headEnd_99 ?_
            refine R_iret rfl dX12_headEnd_100 ⟨by unfold hdE; rw [if_neg (not_not_intro hf), if_neg (not_not_intro hr)]; first | rw [if_pos ((nI_eq (by omega) (by omega)).1 c84)]; rfl | (rw [if_neg (fun z => c84 (by rw [z])), if_neg (fun z => c94 ((lm_eq (by decide) (by decide)).2 z))]; rfl), rfl, rfl⟩
          · refine R_aload_0 dX12_headEnd_87 ?_
            refine R_iload_3 dX12_headEnd_88 ?_
            refine R_callV_e (T := mX12_headEnd) (T' := mX12_signAt) (As := [_]) (ci := 12) okX12_signAt mlX12_132 rfl (by decide) sh_504 (ct_msignAt (p := hE L p) hR hl (by omega)) rfl (by decide) (by decide) (Nat.le_of_ble_eq_true rfl) dX12_headEnd_89 ?_
            refine R_bipush (v := 63) dX12_headEnd_92 (by decide) ?_
            refine R_icmp_eq 101 dX12_headEnd_94 (by decide) (fun c94 => ?_) (fun c94 => ?_)
            · refine R_iload_3 dX12_headEnd_101 ?_
              refine R_iconst (v := 1) dX12_headEnd_102 (by decide) ?_
              refine R_iadd dX12_headEnd_103 ?_
              rw [nI_1]
              refine R_iret rfl dX12_headEnd_104 ⟨by unfold hdE; rw [if_neg (not_not_intro hf), if_neg (not_not_intro hr), if_neg (fun z => c84 (by rw [z])), if_pos ((lm_eq (by decide) (by decide)).1 c94)]; rfl, rfl, rfl⟩
            · refine R_iconst (v := -1) dX12_headEnd_97 (by decide) ?_
              refine R_iload_3 dX12_headEnd_98 ?_
              refine R_isub dX12_headEnd_99 ?_
              refine R_iret rfl dX12_headEnd_100 ⟨by unfold hdE; rw [if_neg (not_not_intro hf), if_neg (not_not_intro hr)]; first | rw [if_pos ((nI_eq (by omega) (by omega)).1 c84)]; rfl | (rw [if_neg (fun z => c84 (by rw [z])), if_neg (fun z => c94 ((lm_eq (by decide) (by decide)).2 z))]; rfl), rfl, rfl⟩
        · have hr : ¬ isRl (L.getD (p + 2) 0) := fun z => z.elim (fun z => c30 ((lm_eq (by decide) (by decide)).2 z)) (fun z => z.elim (fun z => c36 ((lm_eq (by decide) (by decide)).2 z)) (fun z => c42 ((lm_eq (by decide) (by decide)).2 z)))
          refine R_iconst (v := -1) dX12_headEnd_45 (by decide) ?_
          refine R_iload_1 dX12_headEnd_46 ?_
          refine R_iconst (v := 2) dX12_headEnd_47 (by decide) ?_
          refine R_iadd dX12_headEnd_48 ?_
          rw [show nI p + 2 = nI (p + 2) from nI_add p 2]
          refine R_isub dX12_headEnd_49 ?_
          refine R_iret rfl dX12_headEnd_50 ⟨by unfold hdE; rw [if_neg (not_not_intro hf), if_pos hr]; rfl, rfl, rfl⟩
  · have hf : ¬ isFd (L.getD (p + 1) 0) := fun z => bI_eq c10 (lm_fd.2 z)
    refine R_iconst (v := -1) dX12_headEnd_13 (by decide) ?_
    refine R_iload_1 dX12_headEnd_14 ?_
    refine R_iconst (v := 1) dX12_headEnd_15 (by decide) ?_
    refine R_iadd dX12_headEnd_16 ?_
    rw [show nI p + 1 = nI (p + 1) from nI_1 p]
    refine R_isub dX12_headEnd_17 ?_
    refine R_iret rfl dX12_headEnd_18 ⟨by unfold hdE; rw [if_pos hf]; rfl, rfl, rfl⟩

