/-! ===== Press: choose, writePart, write ===== -/
def cNum (A : List Int32) : Nat → Int32 → Int32 → Int32 × Int32
  | 0, b, x => (b, x)
  | m + 1, b, x => if 48 ≤ lAt A b ∧ lAt A b ≤ 57 then cNum A m (b + 1) (x * 10 + (lAt A b - 48)) else (b, x)
def jq (jp : Nat → Nat → Option Nat) (n : Nat) (p : Int32) : Int32 := nI ((jp n p.toNatClampNeg).getD 0)
def hVal (vl : Nat → Nat) (c : Int32) : Int32 := if fIx c < 0 then 0 else nI (vl (fIx c).toNatClampNeg)
def pCh (A : List Int32) (jp : Nat → Nat → Option Nat) (vl : Nat → Nat) (s : PS) (l n : Nat) : PS :=
  if hld (hVal vl (lAt A (s.2.2.2.2.1 l + 1))) (lAt A (s.2.2.2.2.1 l + 2)) (cNum A 3 (s.2.2.2.2.1 l + 3) 0).2 then pMv s l ((cNum A 3 (s.2.2.2.2.1 l + 3) 0).1 + 1) else pMv s l (jq jp n (s.2.2.2.2.1 l))
/-- a jump is known -/
def JK (jp : Nat → Nat → Option Nat) (n : Nat) (p : Int32) : Prop := ∃ q u, q < 96 ∧ p = nI q ∧ jp n q = some u
theorem lAt_chr {S : aS} {V : aV} {s cap : Nat} {L : List Int32} (h : SL S V s cap L) (p : Int32) : 0 ≤ (lAt L p).toInt ∧ (lAt L p).toInt < 65536 := by
  unfold lAt sAt
  split
  · exact h.getD _
  · decide
theorem lAt_n0 {S : aS} {V : aV} {s cap : Nat} {L : List Int32} (h : SL S V s cap L) (p : Int32) : ¬ lAt L p < 0 := fun q => by
  have := i32_lt0 q
  have := lAt_chr h p
  omega
set_option maxHeartbeats 4000000 in
theorem cNum_loop {mc ms kc ks : Nat} {V : aV} {tn l : Nat} {A : List Int32} {p fi rl : Int32} (hT : TS V tn A) {Q : Option Value → aS → aV → Prop} {QX : String → aS → aV → Prop} : ∀ (m j : Nat) (b x : Int32), j + m = 3 → R mX7_choose 4 mc ms Q QX kc ks 99 [some (.ref 4), some (.int (nI l)), some (.ref tn), some (.int p), some (.int fi), some (.int rl), some (.int (cNum A m b x).1), some (.int (cNum A m b x).2), none] [] Sh V → R mX7_choose 4 mc ms Q QX kc ks 47 [some (.ref 4), some (.int (nI l)), some (.ref tn), some (.int p), some (.int fi), some (.int rl), some (.int b), some (.int x), some (.int (nI j))] [] Sh V := by
  obtain ⟨⟨s1, s2, s3, ht⟩, ⟨f0, f1, f2⟩, hsl⟩ := hT
  intro m
  induction m with
  | zero =>
    intro j b x hj hk
    have hj' : j = 3 := by omega
    subst hj'
    refine R_iload_8 dX7_choose_47 ?_
    refine R_iconst (v := 3) dX7_choose_49 (by decide) ?_
    refine R_icmp_ge 99 dX7_choose_50 (by decide) (fun c50 => ?_) (fun c50 => absurd (by decide) c50)
    refine R_drop_8 ?_
    exact hk
  | succ m ih =>
    intro j b x hj hk
    have h3 : ¬ (3 : Int32) ≤ nI j := nI_ge (a := j) (b := 3) (by omega) (by omega)
    refine R_iload_8 dX7_choose_47 ?_
    refine R_iconst (v := 3) dX7_choose_49 (by decide) ?_
    refine R_icmp_ge 99 dX7_choose_50 (by decide) (fun c50 => absurd c50 h3) (fun c50 => ?_)
    refine R_aload_2 dX7_choose_53 ?_
    refine gfX7_90 rfl dX7_choose_54 s1 (by first | assumption | exact a_up_self _ _ _ _ | exact (a_up_ne (by omega)).trans (by assumption) | exact (a_up_ne (by omega)).trans (a_up_self _ _ _ _) | exact (a_up_ne (by omega)).trans ((a_up_ne (by omega)).trans (by assumption)) | exact (a_up_ne (by omega)).trans ((a_up_ne (by omega)).trans (a_up_self _ _ _ _)) | exact (a_up_ne (by omega)).trans ((a_up_ne (by omega)).trans ((a_up_ne (by omega)).trans (by assumption))) | exact (a_up_ne (by omega)).trans ((a_up_ne (by omega)).trans ((a_up_ne (by omega)).trans (a_up_self _ _ _ _))) | exact (a_up_ne (by omega)).trans ((a_up_ne (by omega)).trans ((a_up_ne (by omega)).trans ((a_up_ne (by omega)).trans (by assumption)))) | exact (a_up_ne (by omega)).trans ((a_up_ne (by omega)).trans ((a_up_ne (by omega)).trans ((a_up_ne (by omega)).trans (a_up_self _ _ _ _)))) | exact (a_up_ne (by omega)).trans ((a_up_ne (by omega)).trans ((a_up_ne (by omega)).trans ((a_up_ne (by omega)).trans ((a_up_ne (by omega)).trans (by assumption))))) | exact (a_up_ne (by omega)).trans ((a_up_ne (by omega)).trans ((a_up_ne (by omega)).trans ((a_up_ne (by omega)).trans ((a_up_ne (by omega)).trans (a_up_self _ _ _ _)))))) ?_
    refine R_iload_6 dX7_choose_57 ?_
    refine R_callVN_e (T := mX7_choose) (T' := mX9_signAt) (As := [_]) (ci := 9) okX9_signAt mlX7_93 rfl (by decide) hsl.1 (ct_signAtL hsl b) rfl (by decide) (by decide) (Nat.le_of_ble_eq_true rfl) dX7_choose_59 ?_
    refine R_bipush (v := 57) dX7_choose_62 (by decide) ?_
    refine R_callSN_e (T := mX7_choose) (T' := mX11_isDigit) (As := [_, _]) okX11_isDigit mlX7_129 (ct_isDigit (lAt A b) 57) rfl (by decide) (by decide) (Nat.le_of_ble_eq_true rfl) dX7_choose_64 ?_
    refine R_if_eq 99 dX7_choose_67 (by decide) (fun c67 => ?_) (fun c67 => ?_)
    · have e : cNum A (m + 1) b x = (b, x) := if_neg (bI_eq c67)
      refine R_drop_8 ?_
      rw [e] at hk
      exact hk
    · refine R_iload_7 dX7_choose_70 ?_
      refine R_bipush (v := 10) dX7_choose_72 (by decide) ?_
      refine R_imul dX7_choose_74 ?_
      refine R_aload_2 dX7_choose_75 ?_
      refine gfX7_90 rfl dX7_choose_76 s1 (by first | assumption | exact a_up_self _ _ _ _ | exact (a_up_ne (by omega)).trans (by assumption) | exact (a_up_ne (by omega)).trans (a_up_self _ _ _ _) | exact (a_up_ne (by omega)).trans ((a_up_ne (by omega)).trans (by assumption)) | exact (a_up_ne (by omega)).trans ((a_up_ne (by omega)).trans (a_up_self _ _ _ _)) | exact (a_up_ne (by omega)).trans ((a_up_ne (by omega)).trans ((a_up_ne (by omega)).trans (by assumption))) | exact (a_up_ne (by omega)).trans ((a_up_ne (by omega)).trans ((a_up_ne (by omega)).trans (a_up_self _ _ _ _))) | exact (a_up_ne (by omega)).trans ((a_up_ne (by omega)).trans ((a_up_ne (by omega)).trans ((a_up_ne (by omega)).trans (by assumption)))) | exact (a_up_ne (by omega)).trans ((a_up_ne (by omega)).trans ((a_up_ne (by omega)).trans ((a_up_ne (by omega)).trans (a_up_self _ _ _ _)))) | exact (a_up_ne (by omega)).trans ((a_up_ne (by omega)).trans ((a_up_ne (by omega)).trans ((a_up_ne (by omega)).trans ((a_up_ne (by omega)).trans (by assumption))))) | exact (a_up_ne (by omega)).trans ((a_up_ne (by omega)).trans ((a_up_ne (by omega)).trans ((a_up_ne (by omega)).trans ((a_up_ne (by omega)).trans (a_up_self _ _ _ _)))))) ?_
      refine R_iload_6 dX7_choose_79 ?_
      refine R_callVN_e (T := mX7_choose) (T' := mX9_signAt) (As := [_]) (ci := 9) okX9_signAt mlX7_93 rfl (by decide) hsl.1 (ct_signAtL hsl b) rfl (by decide) (by decide) (Nat.le_of_ble_eq_true rfl) dX7_choose_81 ?_
      refine R_bipush (v := 48) dX7_choose_84 (by decide) ?_
      refine R_isub dX7_choose_86 ?_
      refine R_iadd dX7_choose_87 ?_
      refine R_istore_7 rfl (by decide) dX7_choose_88 ?_
      have e : cNum A (m + 1) b x = cNum A m (b + 1) (x * 10 + (lAt A b - 48)) := if_pos (bI_ne c67)
      rw [e] at hk
      refine R_iinc_6 rfl (by decide) dX7_choose_90 rfl ?_
      refine R_iinc_8 rfl (by decide) dX7_choose_93 rfl ?_
      refine R_goto 47 dX7_choose_96 (by decide) ?_
      rw [show nI j + Int32.ofInt 1 = nI (j + 1) from nI_1 j]
      exact ih (j + 1) _ _ (by omega) hk
set_option maxHeartbeats 4000000 in
theorem choose_tail {mc ms kc ks : Nat} {V : aV} {tl : Nat → Nat} {T : Nat → List Int32} {to : Nat → Bool} {jp : Nat → Nat → Option Nat} {s : PS} {l n : Nat} {fi rl b x vv : Int32} (hC : PC V) (hT : PT V tl T to jp) (hP : PW V s) (hl : l < s.2.2.1) (hn : n < 8) (hJ : JK jp n (s.2.2.2.2.1 l)) {Q : Option Value → aS → aV → Prop} {QX : String → aS → aV → Prop} (hQ : ∀ V', PW V' (if hld vv rl x then pMv s l (b + 1) else pMv s l (jq jp n (s.2.2.2.2.1 l))) → FrP V V' → Q none Sh V') : R mX7_choose 4 mc ms Q QX kc ks 125 [some (.ref 4), some (.int (nI l)), some (.ref (tl n)), some (.int (s.2.2.2.2.1 l)), some (.int fi), some (.int rl), some (.int b), some (.int x), none] [.int vv] Sh V := by
  have hC0 := hC
  obtain ⟨k0, k2, k3, k4, k5, k6, k28, k11, k111, k12⟩ := hC
  have hP0 := hP
  obtain ⟨p1, p2, p3, p4, p5, p6⟩ := hP
  have p11 := p1.len1
  have px := p1.len
  obtain ⟨q1, q2, q3⟩ := p6 l hl
  obtain ⟨jn, ju, j1, j2, j3⟩ := hJ
  obtain ⟨t1, t2, t3, t4, t5⟩ := hT n hn
  obtain ⟨⟨s1, s2, s3, ht⟩, ⟨f0, f1, f2⟩, hsl⟩ := t3
  have ej : jq jp n (s.2.2.2.2.1 l) = nI ju := by unfold jq; rw [j2, show (nI jn).toNatClampNeg = jn from nI_clamp (by omega), j3]; rfl
  refine R_istore_8 rfl (by decide) dX7_choose_125 ?_
  refine R_aload_0 dX7_choose_127 ?_
  refine gfX7_40 rfl dX7_choose_128 sh_4 k5 ?_
  refine R_iload_1 dX7_choose_131 ?_
  refine R_iload_8 dX7_choose_132 ?_
  refine R_iload_5 dX7_choose_134 ?_
  refine R_iload_7 dX7_choose_136 ?_
  refine R_callS_e (T := mX7_choose) (T' := mX7_holds) (As := [_, _, _]) okX7_holds mlX7_136 rfl (ct_holds vv rl x) rfl (by decide) (by decide) (Nat.le_of_ble_eq_true rfl) dX7_choose_138 ?_
  refine R_if_eq 151 dX7_choose_141 (by decide) (fun c141 => ?_) (fun c141 => ?_)
  · refine R_aload_2 dX7_choose_151 ?_
    refine R_iload_3 dX7_choose_152 ?_
    rw [j2]
    refine R_callVN_e (T := mX7_choose) (T' := mX10_jumpAt) (As := [_]) (ci := 10) okX10_jumpAt mlX7_111 rfl (by decide) s1 (ct_jumpAt s1 s2 f1 j1 (t5 jn ju j3)) rfl (by decide) (by decide) (Nat.le_of_ble_eq_true rfl) dX7_choose_153 ?_
    refine R_iast dX7_choose_156 sh_32 (vp_in_nI (by omega) (by decide)) (nI_clamp (by omega)) ?_
    refine R_vret rfl dX7_choose_157 (by first | (rw [if_pos (bI_ne c141)] at hQ; exact hQ _ (hP0.pl l _) (FrP.row (by decide) (by decide))) | (rw [if_neg (bI_eq c141), ej] at hQ; exact hQ _ (hP0.pl l _) (FrP.row (by decide) (by decide))))
  · refine R_iload_6 dX7_choose_144 ?_
    refine R_iconst (v := 1) dX7_choose_146 (by decide) ?_
    refine R_iadd dX7_choose_147 ?_
    refine R_goto 156 dX7_choose_148 (by decide) ?_
    refine R_iast dX7_choose_156 sh_32 (vp_in_nI (by omega) (by decide)) (nI_clamp (by omega)) ?_
    refine R_vret rfl dX7_choose_157 (by first | (rw [if_pos (bI_ne c141)] at hQ; exact hQ _ (hP0.pl l _) (FrP.row (by decide) (by decide))) | (rw [if_neg (bI_eq c141), ej] at hQ; exact hQ _ (hP0.pl l _) (FrP.row (by decide) (by decide))))
set_option maxHeartbeats 4000000 in
theorem ct_choose {V : aV} {tl : Nat → Nat} {T : Nat → List Int32} {to : Nat → Bool} {jp : Nat → Nat → Option Nat} {w : Nat → List Int32} {vl : Nat → Nat} {s : PS} {l n : Nat} (hC : PC V) (hT : PT V tl T to jp) (hP : PW V s) (hW : HD V w vl) (hl : l < s.2.2.1) (hn : n < 8) (hJ : JK jp n (s.2.2.2.2.1 l)) : CT mX7_choose 4 0 0 [.ref 4, .int (nI l), .ref (tl n)] Sh V (PPost V (pCh (T n) jp vl s l n)) aNo := by
  refine CT_of (by decide +kernel) (Nat.le_of_ble_eq_true rfl) ?_
  show R _ _ _ _ _ _ _ _ 0 [some (.ref 4), some (.int (nI l)), some (.ref (tl n)), none, none, none, none, none, none] [] _ _
  have hC0 := hC
  obtain ⟨k0, k2, k3, k4, k5, k6, k28, k11, k111, k12⟩ := hC
  have hP0 := hP
  obtain ⟨p1, p2, p3, p4, p5, p6⟩ := hP
  have p11 := p1.len1
  have px := p1.len
  obtain ⟨q1, q2, q3⟩ := p6 l hl
  have hT0 := hT
  obtain ⟨t1, t2, t3, t4, t5⟩ := hT n hn
  have t30 := t3
  obtain ⟨⟨s1, s2, s3, ht⟩, ⟨f0, f1, f2⟩, hsl⟩ := t3
  have hc0 := lAt_n0 hsl (s.2.2.2.2.1 l + 1)
  refine R_aload_0 dX7_choose_0 ?_
  refine gfX7_40 rfl dX7_choose_1 sh_4 k5 ?_
  refine R_iload_1 dX7_choose_4 ?_
  refine R_iald dX7_choose_5 sh_32 (vp_in_nI (by omega) (by decide)) (nI_clamp (by omega)) q2 ?_
  refine R_istore_3 rfl (by decide) dX7_choose_6 ?_
  refine R_ldcF srX7_122 dX7_choose_7 ?_
  refine R_aload_2 dX7_choose_9 ?_
  refine gfX7_90 rfl dX7_choose_10 s1 (by first | assumption | exact a_up_self _ _ _ _ | exact (a_up_ne (by omega)).trans (by assumption) | exact (a_up_ne (by omega)).trans (a_up_self _ _ _ _) | exact (a_up_ne (by omega)).trans ((a_up_ne (by omega)).trans (by assumption)) | exact (a_up_ne (by omega)).trans ((a_up_ne (by omega)).trans (a_up_self _ _ _ _)) | exact (a_up_ne (by omega)).trans ((a_up_ne (by omega)).trans ((a_up_ne (by omega)).trans (by assumption))) | exact (a_up_ne (by omega)).trans ((a_up_ne (by omega)).trans ((a_up_ne (by omega)).trans (a_up_self _ _ _ _))) | exact (a_up_ne (by omega)).trans ((a_up_ne (by omega)).trans ((a_up_ne (by omega)).trans ((a_up_ne (by omega)).trans (by assumption)))) | exact (a_up_ne (by omega)).trans ((a_up_ne (by omega)).trans ((a_up_ne (by omega)).trans ((a_up_ne (by omega)).trans (a_up_self _ _ _ _)))) | exact (a_up_ne (by omega)).trans ((a_up_ne (by omega)).trans ((a_up_ne (by omega)).trans ((a_up_ne (by omega)).trans ((a_up_ne (by omega)).trans (by assumption))))) | exact (a_up_ne (by omega)).trans ((a_up_ne (by omega)).trans ((a_up_ne (by omega)).trans ((a_up_ne (by omega)).trans ((a_up_ne (by omega)).trans (a_up_self _ _ _ _)))))) ?_
  refine R_iload_3 dX7_choose_13 ?_
  refine R_iconst (v := 1) dX7_choose_14 (by decide) ?_
  refine R_iadd dX7_choose_15 ?_
  refine R_callVN_e (T := mX7_choose) (T' := mX9_signAt) (As := [_]) (ci := 9) okX9_signAt mlX7_93 rfl (by decide) hsl.1 (ct_signAtL hsl (s.2.2.2.2.1 l + 1)) rfl (by decide) (by decide) (Nat.le_of_ble_eq_true rfl) dX7_choose_16 ?_
  refine R_callVT_e (T' := mJ0_indexOf_0f7a4) (As := [_]) okJ0_indexOf_0f7a4 rfl mlX7_124 (ct_indexOf _ hc0) rfl (by decide) (by decide) (Nat.le_of_ble_eq_true rfl) dX7_choose_19 ?_
  refine R_istore_4 rfl (by decide) dX7_choose_22 ?_
  refine R_aload_2 dX7_choose_24 ?_
  refine gfX7_90 rfl dX7_choose_25 s1 (by first | assumption | exact a_up_self _ _ _ _ | exact (a_up_ne (by omega)).trans (by assumption) | exact (a_up_ne (by omega)).trans (a_up_self _ _ _ _) | exact (a_up_ne (by omega)).trans ((a_up_ne (by omega)).trans (by assumption)) | exact (a_up_ne (by omega)).trans ((a_up_ne (by omega)).trans (a_up_self _ _ _ _)) | exact (a_up_ne (by omega)).trans ((a_up_ne (by omega)).trans ((a_up_ne (by omega)).trans (by assumption))) | exact (a_up_ne (by omega)).trans ((a_up_ne (by omega)).trans ((a_up_ne (by omega)).trans (a_up_self _ _ _ _))) | exact (a_up_ne (by omega)).trans ((a_up_ne (by omega)).trans ((a_up_ne (by omega)).trans ((a_up_ne (by omega)).trans (by assumption)))) | exact (a_up_ne (by omega)).trans ((a_up_ne (by omega)).trans ((a_up_ne (by omega)).trans ((a_up_ne (by omega)).trans (a_up_self _ _ _ _)))) | exact (a_up_ne (by omega)).trans ((a_up_ne (by omega)).trans ((a_up_ne (by omega)).trans ((a_up_ne (by omega)).trans ((a_up_ne (by omega)).trans (by assumption))))) | exact (a_up_ne (by omega)).trans ((a_up_ne (by omega)).trans ((a_up_ne (by omega)).trans ((a_up_ne (by omega)).trans ((a_up_ne (by omega)).trans (a_up_self _ _ _ _)))))) ?_
  refine R_iload_3 dX7_choose_28 ?_
  refine R_iconst (v := 2) dX7_choose_29 (by decide) ?_
  refine R_iadd dX7_choose_30 ?_
  refine R_callVN_e (T := mX7_choose) (T' := mX9_signAt) (As := [_]) (ci := 9) okX9_signAt mlX7_93 rfl (by decide) hsl.1 (ct_signAtL hsl (s.2.2.2.2.1 l + 2)) rfl (by decide) (by decide) (Nat.le_of_ble_eq_true rfl) dX7_choose_31 ?_
  refine R_istore_5 rfl (by decide) dX7_choose_34 ?_
  refine R_iload_3 dX7_choose_36 ?_
  refine R_iconst (v := 3) dX7_choose_37 (by decide) ?_
  refine R_iadd dX7_choose_38 ?_
  refine R_istore_6 rfl (by decide) dX7_choose_39 ?_
  refine R_iconst (v := 0) dX7_choose_41 (by decide) ?_
  refine R_istore_7 rfl (by decide) dX7_choose_42 ?_
  refine R_iconst (v := 0) dX7_choose_44 (by decide) ?_
  refine R_istore_8 rfl (by decide) dX7_choose_45 ?_
  refine cNum_loop t30 3 0 _ _ rfl ?_
  refine R_iload_4 dX7_choose_99 ?_
  refine R_if_lt 124 dX7_choose_101 (by decide) (fun c101 => ?_) (fun c101 => ?_)
  · have ev : hVal vl (lAt (T n) (s.2.2.2.2.1 l + 1)) = 0 := if_pos c101
    refine R_iconst (v := 0) dX7_choose_124 (by decide) ?_
    exact choose_tail hC0 hT0 hP0 hl hn hJ (fun V9 u1 u2 => ⟨rfl, rfl, by unfold pCh; rw [ev]; exact u1, u2⟩)
  · refine R_iload_4 dX7_choose_104 ?_
    refine R_bipush (v := 6) dX7_choose_106 (by decide) ?_
    refine R_icmp_ge 124 dX7_choose_108 (by decide) (fun c108 => absurd c108 (fx6 _)) (fun c108 => ?_)
    obtain ⟨f, hf6, ef⟩ := fx_nI c101
    have ec : (fIx (lAt (T n) (s.2.2.2.2.1 l + 1))).toNatClampNeg = f := by rw [ef]; exact nI_clamp (by omega)
    have ev : hVal vl (lAt (T n) (s.2.2.2.2.1 l + 1)) = nI (vl f) := by unfold hVal; rw [if_neg c101, ec]
    have wf := hW f hf6
    refine R_aload_0 dX7_choose_111 ?_
    refine gfX7_25 rfl dX7_choose_112 sh_4 k2 ?_
    refine gfX7_133 rfl dX7_choose_115 sh_11 k111 ?_
    refine R_iload_4 dX7_choose_118 ?_
    rw [ef]
    refine R_iald dX7_choose_120 sh_13 (vp_in_nI (by omega) (by decide)) (nI_clamp (by omega)) wf.2 ?_
    refine R_goto 125 dX7_choose_121 (by decide) ?_
    exact choose_tail hC0 hT0 hP0 hl hn hJ (fun V9 u1 u2 => ⟨rfl, rfl, by unfold pCh; rw [ev]; exact u1, u2⟩)

def pSt (T : Nat → List Int32) (to : Nat → Bool) (jp : Nat → Nat → Option Nat) (wr : Nat → List Int32) (vl : Nat → Nat) (s : PS) (l : Nat) : PS :=
  if ¬ isTo to (s.2.2.2.1 l) then s
  else if nI (T (s.2.2.2.1 l).toNatClampNeg).length ≤ s.2.2.2.2.1 l then pCl s l
  else if lAt (T (s.2.2.2.1 l).toNatClampNeg) (s.2.2.2.2.1 l) = 64 then pEn to s l (lAt (T (s.2.2.2.1 l).toNatClampNeg) (s.2.2.2.2.1 l + 1) - 48)
  else if lAt (T (s.2.2.2.1 l).toNatClampNeg) (s.2.2.2.2.1 l) = 60 then pWf wr s l (lAt (T (s.2.2.2.1 l).toNatClampNeg) (s.2.2.2.2.1 l + 1))
  else if lAt (T (s.2.2.2.1 l).toNatClampNeg) (s.2.2.2.2.1 l) = 91 then pCh (T (s.2.2.2.1 l).toNatClampNeg) jp vl s l (s.2.2.2.1 l).toNatClampNeg
  else if lAt (T (s.2.2.2.1 l).toNatClampNeg) (s.2.2.2.2.1 l) = 124 then pMv s l (jq jp (s.2.2.2.1 l).toNatClampNeg (s.2.2.2.2.1 l))
  else if lAt (T (s.2.2.2.1 l).toNatClampNeg) (s.2.2.2.2.1 l) = 93 then pMv s l (s.2.2.2.2.1 l + 1)
  else pWs s l (lAt (T (s.2.2.2.1 l).toNatClampNeg) (s.2.2.2.2.1 l))
/-- where a jump is needed, it is known -/
def JOK (T : Nat → List Int32) (jp : Nat → Nat → Option Nat) (s : PS) (l : Nat) : Prop := (lAt (T (s.2.2.2.1 l).toNatClampNeg) (s.2.2.2.2.1 l) = 91 ∨ lAt (T (s.2.2.2.1 l).toNatClampNeg) (s.2.2.2.2.1 l) = 124) → JK jp (s.2.2.2.1 l).toNatClampNeg (s.2.2.2.2.1 l)
set_option maxHeartbeats 4000000 in
theorem ct_writePart {V : aV} {tl : Nat → Nat} {T : Nat → List Int32} {to : Nat → Bool} {jp : Nat → Nat → Option Nat} {w : Nat → List Int32} {vl : Nat → Nat} {s : PS} {l : Nat} (hC : PC V) (hT : PT V tl T to jp) (hP : PW V s) (hW : HD V w vl) (hl : l < s.2.2.1) (hJ : isTo to (s.2.2.2.1 l) → JOK T jp s l) : CT mX7_writePart 5 0 0 [.ref 4, .int (nI l)] Sh V (PPost V (pSt T to jp w vl s l)) aNo := by
  refine CT_of (by decide +kernel) (Nat.le_of_ble_eq_true rfl) ?_
  show R _ _ _ _ _ _ _ _ 0 [some (.ref 4), some (.int (nI l)), none, none, none] [] _ _
  have hC0 := hC
  obtain ⟨k0, k2, k3, k4, k5, k6, k28, k11, k111, k12⟩ := hC
  have hP0 := hP
  obtain ⟨p1, p2, p3, p4, p5, p6⟩ := hP
  have p11 := p1.len1
  have px := p1.len
  obtain ⟨q1, q2, q3⟩ := p6 l hl
  have hT0 := hT
  have b6 : ¬ (5 : Int32) ≤ nI l := nI_ge (a := l) (b := 5) (by omega) (by omega)
  refine R_iload_1 dX7_writePart_0 ?_
  refine R_if_lt 22 dX7_writePart_1 (by decide) (fun c1 => absurd c1 (nI_pos (by omega))) (fun c1 => ?_)
  refine R_iload_1 dX7_writePart_4 ?_
  refine R_iconst (v := 5) dX7_writePart_5 (by decide) ?_
  refine R_icmp_ge 22 dX7_writePart_6 (by decide) (fun c6 => absurd c6 b6) (fun c6 => ?_)
  refine R_aload_0 dX7_writePart_9 ?_
  refine R_aload_0 dX7_writePart_10 ?_
  refine gfX7_36 rfl dX7_writePart_11 sh_4 k4 ?_
  refine R_iload_1 dX7_writePart_14 ?_
  refine R_iald dX7_writePart_15 sh_31 (vp_in_nI (by omega) (by decide)) (nI_clamp (by omega)) q1 ?_
  refine R_callV_e (T := mX7_writePart) (T' := mX7_isTold) (As := [_]) (ci := 7) okX7_isTold mlX7_70 rfl (by decide) sh_4 (ct_isTold hC0 hT0 (s.2.2.2.1 l)) rfl (by decide) (by decide) (Nat.le_of_ble_eq_true rfl) dX7_writePart_16 ?_
  refine R_if_ne 23 dX7_writePart_19 (by decide) (fun c19 => ?_) (fun c19 => ?_)
  · have hto := bI_ne c19
    have hJJ := hJ hto
    obtain ⟨n, hn, en⟩ := i8_nI (n := 8) (by decide) hto.1 hto.2.1
    obtain ⟨t1, t2, t3, t4, t5⟩ := hT n hn
    obtain ⟨⟨s1, s2, s3, ht⟩, ⟨f0, f1, f2⟩, hsl⟩ := t3
    have ec : (s.2.2.2.1 l).toNatClampNeg = n := by rw [en]; exact nI_clamp (by omega)
    have eS : pSt T to jp w vl s l = _ := if_neg (not_not_intro hto)
    unfold JOK at hJJ
    rw [ec] at eS hJJ
    rw [eS]
    refine R_aload_0 dX7_writePart_23 ?_
    refine gfX7_11 rfl dX7_writePart_24 sh_4 k0 ?_
    refine R_aload_0 dX7_writePart_27 ?_
    refine gfX7_36 rfl dX7_writePart_28 sh_4 k4 ?_
    refine R_iload_1 dX7_writePart_31 ?_
    refine R_iald dX7_writePart_32 sh_31 (vp_in_nI (by omega) (by decide)) (nI_clamp (by omega)) q1 ?_
    rw [en]
    refine R_aald_20 dX7_writePart_33 sh_5 (vp_in_nI (by omega) (by decide)) (nI_clamp (by omega)) t1 ?_
    refine R_astore_2 rfl (by decide) dX7_writePart_34 ?_
    refine R_aload_0 dX7_writePart_35 ?_
    refine gfX7_40 rfl dX7_writePart_36 sh_4 k5 ?_
    refine R_iload_1 dX7_writePart_39 ?_
    refine R_iald dX7_writePart_40 sh_32 (vp_in_nI (by omega) (by decide)) (nI_clamp (by omega)) q2 ?_
    refine R_istore_3 rfl (by decide) dX7_writePart_41 ?_
    refine R_aload_2 dX7_writePart_42 ?_
    refine gfX7_90 rfl dX7_writePart_43 s1 (by first | assumption | exact a_up_self _ _ _ _ | exact (a_up_ne (by omega)).trans (by assumption) | exact (a_up_ne (by omega)).trans (a_up_self _ _ _ _) | exact (a_up_ne (by omega)).trans ((a_up_ne (by omega)).trans (by assumption)) | exact (a_up_ne (by omega)).trans ((a_up_ne (by omega)).trans (a_up_self _ _ _ _)) | exact (a_up_ne (by omega)).trans ((a_up_ne (by omega)).trans ((a_up_ne (by omega)).trans (by assumption))) | exact (a_up_ne (by omega)).trans ((a_up_ne (by omega)).trans ((a_up_ne (by omega)).trans (a_up_self _ _ _ _))) | exact (a_up_ne (by omega)).trans ((a_up_ne (by omega)).trans ((a_up_ne (by omega)).trans ((a_up_ne (by omega)).trans (by assumption)))) | exact (a_up_ne (by omega)).trans ((a_up_ne (by omega)).trans ((a_up_ne (by omega)).trans ((a_up_ne (by omega)).trans (a_up_self _ _ _ _)))) | exact (a_up_ne (by omega)).trans ((a_up_ne (by omega)).trans ((a_up_ne (by omega)).trans ((a_up_ne (by omega)).trans ((a_up_ne (by omega)).trans (by assumption))))) | exact (a_up_ne (by omega)).trans ((a_up_ne (by omega)).trans ((a_up_ne (by omega)).trans ((a_up_ne (by omega)).trans ((a_up_ne (by omega)).trans (a_up_self _ _ _ _)))))) ?_
    refine R_iload_3 dX7_writePart_46 ?_
    refine R_callVN_e (T := mX7_writePart) (T' := mX9_signAt) (As := [_]) (ci := 9) okX9_signAt mlX7_93 rfl (by decide) hsl.1 (ct_signAtL hsl (s.2.2.2.2.1 l)) rfl (by decide) (by decide) (Nat.le_of_ble_eq_true rfl) dX7_writePart_47 ?_
    refine R_istore_4 rfl (by decide) dX7_writePart_50 ?_
    refine R_iload_3 dX7_writePart_52 ?_
    refine R_aload_2 dX7_writePart_53 ?_
    refine gfX7_90 rfl dX7_writePart_54 s1 (by first | assumption | exact a_up_self _ _ _ _ | exact (a_up_ne (by omega)).trans (by assumption) | exact (a_up_ne (by omega)).trans (a_up_self _ _ _ _) | exact (a_up_ne (by omega)).trans ((a_up_ne (by omega)).trans (by assumption)) | exact (a_up_ne (by omega)).trans ((a_up_ne (by omega)).trans (a_up_self _ _ _ _)) | exact (a_up_ne (by omega)).trans ((a_up_ne (by omega)).trans ((a_up_ne (by omega)).trans (by assumption))) | exact (a_up_ne (by omega)).trans ((a_up_ne (by omega)).trans ((a_up_ne (by omega)).trans (a_up_self _ _ _ _))) | exact (a_up_ne (by omega)).trans ((a_up_ne (by omega)).trans ((a_up_ne (by omega)).trans ((a_up_ne (by omega)).trans (by assumption)))) | exact (a_up_ne (by omega)).trans ((a_up_ne (by omega)).trans ((a_up_ne (by omega)).trans ((a_up_ne (by omega)).trans (a_up_self _ _ _ _)))) | exact (a_up_ne (by omega)).trans ((a_up_ne (by omega)).trans ((a_up_ne (by omega)).trans ((a_up_ne (by omega)).trans ((a_up_ne (by omega)).trans (by assumption))))) | exact (a_up_ne (by omega)).trans ((a_up_ne (by omega)).trans ((a_up_ne (by omega)).trans ((a_up_ne (by omega)).trans ((a_up_ne (by omega)).trans (a_up_self _ _ _ _)))))) ?_
    refine gfX7_58 rfl dX7_writePart_57 hsl.1 hsl.len1 ?_
    refine R_icmp_lt 71 dX7_writePart_60 (by decide) (fun c60 => ?_) (fun c60 => ?_)
    · rw [if_neg (Int32.not_le.2 c60)]
      refine R_iload_4 dX7_writePart_71 ?_
      refine R_bipush (v := 64) dX7_writePart_73 (by decide) ?_
      refine R_icmp_ne 99 dX7_writePart_75 (by decide) (fun c75 => ?_) (fun c75 => ?_)
      · rw [if_neg c75]
        refine R_iload_4 dX7_writePart_99 ?_
        refine R_bipush (v := 60) dX7_writePart_101 (by decide) ?_
        refine R_icmp_ne 124 dX7_writePart_103 (by decide) (fun c103 => ?_) (fun c103 => ?_)
        · rw [if_neg c103]
          refine R_iload_4 dX7_writePart_124 ?_
          refine R_bipush (v := 91) dX7_writePart_126 (by decide) ?_
          refine R_icmp_ne 140 dX7_writePart_128 (by decide) (fun c128 => ?_) (fun c128 => ?_)
          · rw [if_neg c128]
            refine R_iload_4 dX7_writePart_140 ?_
            refine R_bipush (v := 124) dX7_writePart_142 (by decide) ?_
            refine R_icmp_ne 161 dX7_writePart_144 (by decide) (fun c144 => ?_) (fun c144 => ?_)
            · rw [if_neg c144]
              refine R_iload_4 dX7_writePart_161 ?_
              refine R_bipush (v := 93) dX7_writePart_163 (by decide) ?_
              refine R_icmp_ne 181 dX7_writePart_165 (by decide) (fun c165 => ?_) (fun c165 => ?_)
              · rw [if_neg c165]
                refine R_aload_0 dX7_writePart_181 ?_
                refine R_iload_1 dX7_writePart_182 ?_
                refine R_iload_4 dX7_writePart_183 ?_
                refine R_callV (T := mX7_writePart) (T' := mX7_writeSign) (As := [_, _]) (ci := 7) okX7_writeSign mlX7_115 rfl (by decide) sh_4 (ct_writeSign hC0 hP0 hl _ (lAt_chr hsl _)) rfl (by decide) (by decide) (Nat.le_of_ble_eq_true rfl) dX7_writePart_185 (fun v9 S9 V9 h9 => ?_) (fun E S9 V9 h9 => h9.elim)
                obtain ⟨rfl, rfl, u3, u4⟩ := h9
                refine R_vret rfl dX7_writePart_188 (by first | exact ⟨rfl, rfl, u3, u4⟩ | exact ⟨rfl, rfl, by rw [ej2]; exact hP0.pl l _, FrP.row (by decide) (by decide)⟩ | exact ⟨rfl, rfl, hP0.pl l _, FrP.row (by decide) (by decide)⟩)
              · rw [if_pos c165]
                refine R_aload_0 dX7_writePart_168 ?_
                refine gfX7_40 rfl dX7_writePart_169 sh_4 k5 ?_
                refine R_iload_1 dX7_writePart_172 ?_
                refine R_dup2_11 dX7_writePart_173 rfl rfl ?_
                refine R_iald dX7_writePart_174 sh_32 (vp_in_nI (by omega) (by decide)) (nI_clamp (by omega)) q2 ?_
                refine R_iconst (v := 1) dX7_writePart_175 (by decide) ?_
                refine R_iadd dX7_writePart_176 ?_
                refine R_iast dX7_writePart_177 sh_32 (vp_in_nI (by omega) (by decide)) (nI_clamp (by omega)) ?_
                refine R_goto 188 dX7_writePart_178 (by decide) ?_
                refine R_vret rfl dX7_writePart_188 (by first | exact ⟨rfl, rfl, u3, u4⟩ | exact ⟨rfl, rfl, by rw [ej2]; exact hP0.pl l _, FrP.row (by decide) (by decide)⟩ | exact ⟨rfl, rfl, hP0.pl l _, FrP.row (by decide) (by decide)⟩)
            · rw [if_pos c144]
              obtain ⟨jn, ju, j1, j2, j3⟩ := hJJ (Or.inr c144)
              have ej : jq jp n (s.2.2.2.2.1 l) = nI ju := by unfold jq; rw [j2, show (nI jn).toNatClampNeg = jn from nI_clamp (by omega), j3]; rfl
              have ej2 : jq jp n (nI jn) = nI ju := by rw [← j2]; exact ej
              refine R_aload_0 dX7_writePart_147 ?_
              refine gfX7_40 rfl dX7_writePart_148 sh_4 k5 ?_
              refine R_iload_1 dX7_writePart_151 ?_
              refine R_aload_2 dX7_writePart_152 ?_
              refine R_iload_3 dX7_writePart_153 ?_
              rw [j2]
              refine R_callVN_e (T := mX7_writePart) (T' := mX10_jumpAt) (As := [_]) (ci := 10) okX10_jumpAt mlX7_111 rfl (by decide) s1 (ct_jumpAt s1 s2 f1 j1 (t5 jn ju j3)) rfl (by decide) (by decide) (Nat.le_of_ble_eq_true rfl) dX7_writePart_154 ?_
              refine R_iast dX7_writePart_157 sh_32 (vp_in_nI (by omega) (by decide)) (nI_clamp (by omega)) ?_
              refine R_goto 188 dX7_writePart_158 (by decide) ?_
              refine R_vret rfl dX7_writePart_188 (by first | exact ⟨rfl, rfl, u3, u4⟩ | exact ⟨rfl, rfl, by rw [ej2]; exact hP0.pl l _, FrP.row (by decide) (by decide)⟩ | exact ⟨rfl, rfl, hP0.pl l _, FrP.row (by decide) (by decide)⟩)
          · rw [if_pos c128]
            have hK := hJJ (Or.inl c128)
            refine R_aload_0 dX7_writePart_131 ?_
            refine R_iload_1 dX7_writePart_132 ?_
            refine R_aload_2 dX7_writePart_133 ?_
            refine R_callV (T := mX7_writePart) (T' := mX7_choose) (As := [_, _]) (ci := 7) okX7_choose mlX7_107 rfl (by decide) sh_4 (ct_choose hC0 hT0 hP0 hW hl hn hK) rfl (by decide) (by decide) (Nat.le_of_ble_eq_true rfl) dX7_writePart_134 (fun v9 S9 V9 h9 => ?_) (fun E S9 V9 h9 => h9.elim)
            obtain ⟨rfl, rfl, u3, u4⟩ := h9
            refine R_goto 188 dX7_writePart_137 (by decide) ?_
            refine R_vret rfl dX7_writePart_188 (by first | exact ⟨rfl, rfl, u3, u4⟩ | exact ⟨rfl, rfl, by rw [ej2]; exact hP0.pl l _, FrP.row (by decide) (by decide)⟩ | exact ⟨rfl, rfl, hP0.pl l _, FrP.row (by decide) (by decide)⟩)
        · rw [if_pos c103]
          refine R_aload_0 dX7_writePart_106 ?_
          refine R_iload_1 dX7_writePart_107 ?_
          refine R_aload_2 dX7_writePart_108 ?_
          refine gfX7_90 rfl dX7_writePart_109 s1 (by first | assumption | exact a_up_self _ _ _ _ | exact (a_up_ne (by omega)).trans (by assumption) | exact (a_up_ne (by omega)).trans (a_up_self _ _ _ _) | exact (a_up_ne (by omega)).trans ((a_up_ne (by omega)).trans (by assumption)) | exact (a_up_ne (by omega)).trans ((a_up_ne (by omega)).trans (a_up_self _ _ _ _)) | exact (a_up_ne (by omega)).trans ((a_up_ne (by omega)).trans ((a_up_ne (by omega)).trans (by assumption))) | exact (a_up_ne (by omega)).trans ((a_up_ne (by omega)).trans ((a_up_ne (by omega)).trans (a_up_self _ _ _ _))) | exact (a_up_ne (by omega)).trans ((a_up_ne (by omega)).trans ((a_up_ne (by omega)).trans ((a_up_ne (by omega)).trans (by assumption)))) | exact (a_up_ne (by omega)).trans ((a_up_ne (by omega)).trans ((a_up_ne (by omega)).trans ((a_up_ne (by omega)).trans (a_up_self _ _ _ _)))) | exact (a_up_ne (by omega)).trans ((a_up_ne (by omega)).trans ((a_up_ne (by omega)).trans ((a_up_ne (by omega)).trans ((a_up_ne (by omega)).trans (by assumption))))) | exact (a_up_ne (by omega)).trans ((a_up_ne (by omega)).trans ((a_up_ne (by omega)).trans ((a_up_ne (by omega)).trans ((a_up_ne (by omega)).trans (a_up_self _ _ _ _)))))) ?_
          refine R_iload_3 dX7_writePart_112 ?_
          refine R_iconst (v := 1) dX7_writePart_113 (by decide) ?_
          refine R_iadd dX7_writePart_114 ?_
          refine R_callVN_e (T := mX7_writePart) (T' := mX9_signAt) (As := [_]) (ci := 9) okX9_signAt mlX7_93 rfl (by decide) hsl.1 (ct_signAtL hsl (s.2.2.2.2.1 l + 1)) rfl (by decide) (by decide) (Nat.le_of_ble_eq_true rfl) dX7_writePart_115 ?_
          refine R_callV (T := mX7_writePart) (T' := mX7_writeField) (As := [_, _]) (ci := 7) okX7_writeField mlX7_103 rfl (by decide) sh_4 (ct_writeField hC0 hP0 hW hl _ (lAt_n0 hsl _)) rfl (by decide) (by decide) (Nat.le_of_ble_eq_true rfl) dX7_writePart_118 (fun v9 S9 V9 h9 => ?_) (fun E S9 V9 h9 => h9.elim)
          obtain ⟨rfl, rfl, u3, u4⟩ := h9
          refine R_goto 188 dX7_writePart_121 (by decide) ?_
          refine R_vret rfl dX7_writePart_188 (by first | exact ⟨rfl, rfl, u3, u4⟩ | exact ⟨rfl, rfl, by rw [ej2]; exact hP0.pl l _, FrP.row (by decide) (by decide)⟩ | exact ⟨rfl, rfl, hP0.pl l _, FrP.row (by decide) (by decide)⟩)
      · rw [if_pos c75]
        refine R_aload_0 dX7_writePart_78 ?_
        refine R_iload_1 dX7_writePart_79 ?_
        refine R_aload_2 dX7_writePart_80 ?_
        refine gfX7_90 rfl dX7_writePart_81 s1 (by first | assumption | exact a_up_self _ _ _ _ | exact (a_up_ne (by omega)).trans (by assumption) | exact (a_up_ne (by omega)).trans (a_up_self _ _ _ _) | exact (a_up_ne (by omega)).trans ((a_up_ne (by omega)).trans (by assumption)) | exact (a_up_ne (by omega)).trans ((a_up_ne (by omega)).trans (a_up_self _ _ _ _)) | exact (a_up_ne (by omega)).trans ((a_up_ne (by omega)).trans ((a_up_ne (by omega)).trans (by assumption))) | exact (a_up_ne (by omega)).trans ((a_up_ne (by omega)).trans ((a_up_ne (by omega)).trans (a_up_self _ _ _ _))) | exact (a_up_ne (by omega)).trans ((a_up_ne (by omega)).trans ((a_up_ne (by omega)).trans ((a_up_ne (by omega)).trans (by assumption)))) | exact (a_up_ne (by omega)).trans ((a_up_ne (by omega)).trans ((a_up_ne (by omega)).trans ((a_up_ne (by omega)).trans (a_up_self _ _ _ _)))) | exact (a_up_ne (by omega)).trans ((a_up_ne (by omega)).trans ((a_up_ne (by omega)).trans ((a_up_ne (by omega)).trans ((a_up_ne (by omega)).trans (by assumption))))) | exact (a_up_ne (by omega)).trans ((a_up_ne (by omega)).trans ((a_up_ne (by omega)).trans ((a_up_ne (by omega)).trans ((a_up_ne (by omega)).trans (a_up_self _ _ _ _)))))) ?_
        refine R_iload_3 dX7_writePart_84 ?_
        refine R_iconst (v := 1) dX7_writePart_85 (by decide) ?_
        refine R_iadd dX7_writePart_86 ?_
        refine R_callVN_e (T := mX7_writePart) (T' := mX9_signAt) (As := [_]) (ci := 9) okX9_signAt mlX7_93 rfl (by decide) hsl.1 (ct_signAtL hsl (s.2.2.2.2.1 l + 1)) rfl (by decide) (by decide) (Nat.le_of_ble_eq_true rfl) dX7_writePart_87 ?_
        refine R_bipush (v := 48) dX7_writePart_90 (by decide) ?_
        refine R_isub dX7_writePart_92 ?_
        refine R_callV (T := mX7_writePart) (T' := mX7_enter) (As := [_, _]) (ci := 7) okX7_enter mlX7_100 rfl (by decide) sh_4 (ct_enter hC0 hT0 hP0 hl _) rfl (by decide) (by decide) (Nat.le_of_ble_eq_true rfl) dX7_writePart_93 (fun v9 S9 V9 h9 => ?_) (fun E S9 V9 h9 => h9.elim)
        obtain ⟨rfl, rfl, u3, u4⟩ := h9
        refine R_goto 188 dX7_writePart_96 (by decide) ?_
        refine R_vret rfl dX7_writePart_188 (by first | exact ⟨rfl, rfl, u3, u4⟩ | exact ⟨rfl, rfl, by rw [ej2]; exact hP0.pl l _, FrP.row (by decide) (by decide)⟩ | exact ⟨rfl, rfl, hP0.pl l _, FrP.row (by decide) (by decide)⟩)
    · rw [if_pos (Int32.not_lt.1 c60)]
      refine R_aload_0 dX7_writePart_63 ?_
      refine R_iload_1 dX7_writePart_64 ?_
      refine R_callV (T := mX7_writePart) (T' := mX7_close) (As := [_]) (ci := 7) okX7_close mlX7_97 rfl (by decide) sh_4 (ct_close hC0 hP0 hl) rfl (by decide) (by decide) (Nat.le_of_ble_eq_true rfl) dX7_writePart_65 (fun v9 S9 V9 h9 => ?_) (fun E S9 V9 h9 => h9.elim)
      obtain ⟨rfl, rfl, u3, u4⟩ := h9
      refine R_goto 188 dX7_writePart_68 (by decide) ?_
      refine R_vret rfl dX7_writePart_188 (by first | exact ⟨rfl, rfl, u3, u4⟩ | exact ⟨rfl, rfl, by rw [ej2]; exact hP0.pl l _, FrP.row (by decide) (by decide)⟩ | exact ⟨rfl, rfl, hP0.pl l _, FrP.row (by decide) (by decide)⟩)
  · have e : pSt T to jp w vl s l = s := if_pos (bI_eq c19)
    rw [e]
    refine R_vret rfl dX7_writePart_22 ⟨rfl, rfl, hP0, FrP.refl⟩

/-- the writing, at most so many steps on -/
def pRun (T : Nat → List Int32) (to : Nat → Bool) (jp : Nat → Nat → Option Nat) (wr : Nat → List Int32) (vl : Nat → Nat) : Nat → PS → PS
  | 0, s => s
  | n + 1, s => if s.2.2.1 = 0 ∨ ¬ s.2.1 = 0 then s else pRun T to jp wr vl n (pSt T to jp wr vl s (s.2.2.1 - 1))
def ps0 (s : PS) : PS := ([], 0, 0, s.2.2.2.1, s.2.2.2.2.1, s.2.2.2.2.2.1, 0)
def pWr (T : Nat → List Int32) (to : Nat → Bool) (jp : Nat → Nat → Option Nat) (wr : Nat → List Int32) (vl : Nat → Nat) (s : PS) (t : Int32) : PS :=
  if ¬ isTo to t then pTr (pOp (ps0 s) t) 1 else pRun T to jp wr vl 1000000 (pOp (ps0 s) t)
/-- along the way every jump that is needed is known -/
def JRun (T : Nat → List Int32) (to : Nat → Bool) (jp : Nat → Nat → Option Nat) (wr : Nat → List Int32) (vl : Nat → Nat) (s : PS) : Prop := ∀ n, isTo to ((pRun T to jp wr vl n s).2.2.2.1 ((pRun T to jp wr vl n s).2.2.1 - 1)) → JOK T jp (pRun T to jp wr vl n s) ((pRun T to jp wr vl n s).2.2.1 - 1)
set_option maxHeartbeats 4000000 in
theorem wr_loop {mc ms kc ks : Nat} {V0 : aV} {tl : Nat → Nat} {T : Nat → List Int32} {to : Nat → Bool} {jp : Nat → Nat → Option Nat} {w : Nat → List Int32} {vl : Nat → Nat} {t : Int32} {Q : Option Value → aS → aV → Prop} {QX : String → aS → aV → Prop} : ∀ (m j : Nat) (s : PS) (V : aV), j + m = 1000000 → PC V → PT V tl T to jp → PW V s → HD V w vl → FrP V0 V → JRun T to jp w vl s → (∀ V', PW V' (pRun T to jp w vl m s) → FrP V0 V' → Q none Sh V') → R mX7_write 6 mc ms Q QX kc ks 51 [some (.ref 4), some (.int t), some (.int (nI j))] [] Sh V := by
  intro m
  induction m with
  | zero =>
    intro j s V hj hC hT hP hW hF hJ hQ
    have hj' : j = 1000000 := by omega
    subst hj'
    refine R_iload_2 dX7_write_51 ?_
    refine R_ldc dX7_write_52 cwX7_82 ?_
    refine R_icmp_ge 90 dX7_write_54 (by decide) (fun c54 => ?_) (fun c54 => absurd (by decide) c54)
    refine R_vret rfl dX7_write_90 (hQ V hP hF)
  | succ m ih =>
    intro j s V hj hC hT hP hW hF hJ hQ
    have hC0 := hC
    obtain ⟨k0, k2, k3, k4, k5, k6, k28, k11, k111, k12⟩ := hC
    have hP0 := hP
    obtain ⟨p1, p2, p3, p4, p5, p6⟩ := hP
    have p11 := p1.len1
    have px := p1.len
    have hj9 : ¬ (1000000 : Int32) ≤ nI j := nI_ge (a := j) (b := 1000000) (by omega) (by omega)
    have hJ0 : isTo to (s.2.2.2.1 (s.2.2.1 - 1)) → JOK T jp s (s.2.2.1 - 1) := hJ 0
    refine R_iload_2 dX7_write_51 ?_
    refine R_ldc dX7_write_52 cwX7_82 ?_
    refine R_icmp_ge 90 dX7_write_54 (by decide) (fun c54 => absurd c54 hj9) (fun c54 => ?_)
    refine R_aload_0 dX7_write_57 ?_
    refine gfX7_50 rfl dX7_write_58 sh_4 p3 ?_
    refine R_if_le 90 dX7_write_61 (by decide) (fun c61 => ?_) (fun c61 => ?_)
    · have e : pRun T to jp w vl (m + 1) s = s := by
        refine if_pos ?_
        first
          | exact Or.inr c71
          | exact Or.inl (nI_z (by omega) c61)
      rw [e] at hQ
      refine R_vret rfl dX7_write_90 (hQ V hP0 hF)
    · have hl0 : 0 < s.2.2.1 := Nat.pos_of_ne_zero (fun q => c61 (by rw [q]; decide))
      refine R_aload_0 dX7_write_64 ?_
      refine gfX7_32 rfl dX7_write_65 sh_4 k3 ?_
      refine gfX7_63 rfl dX7_write_68 sh_28 p2 ?_
      refine R_if_ne 90 dX7_write_71 (by decide) (fun c71 => ?_) (fun c71 => ?_)
      · have e : pRun T to jp w vl (m + 1) s = s := by
          refine if_pos ?_
          first
            | exact Or.inr c71
            | exact Or.inl (nI_z (by omega) c61)
        rw [e] at hQ
        refine R_vret rfl dX7_write_90 (hQ V hP0 hF)
      · refine R_aload_0 dX7_write_74 ?_
        refine R_aload_0 dX7_write_75 ?_
        refine gfX7_50 rfl dX7_write_76 sh_4 p3 ?_
        refine R_iconst (v := 1) dX7_write_79 (by decide) ?_
        refine R_isub dX7_write_80 ?_
        rw [show nI s.2.2.1 - 1 = nI (s.2.2.1 - 1) from pk_sub (b := 1) hl0]
        refine R_callV (T := mX7_write) (T' := mX7_writePart) (As := [_]) (ci := 7) okX7_writePart mlX7_83 rfl (by decide) sh_4 (ct_writePart hC0 hT hP0 hW (by omega) hJ0) rfl (by decide) (by decide) (Nat.le_of_ble_eq_true rfl) dX7_write_81 (fun v9 S9 V9 h9 => ?_) (fun E S9 V9 h9 => h9.elim)
        obtain ⟨rfl, rfl, u3, u4⟩ := h9
        have e : ∀ n, pRun T to jp w vl (n + 1) s = pRun T to jp w vl n (pSt T to jp w vl s (s.2.2.1 - 1)) := fun n => if_neg (fun q => q.elim (fun z => by omega) (fun z => z c71))
        rw [e m] at hQ
        refine R_iinc_2 rfl (by decide) dX7_write_84 rfl ?_
        rw [show nI j + Int32.ofInt 1 = nI (j + 1) from nI_1 j]
        refine R_goto 51 dX7_write_87 (by decide) ?_
        exact ih (j + 1) _ V9 (by omega) (hC0.fr u4) (hT.fr u4) u3 (hW.frP u4) (hF.trans u4) (fun n => by rw [← e n]; exact hJ (n + 1)) hQ
theorem PW.zero {V : aV} {s : PS} (h : PW V s) : PW (a_up (a_up (a_up (a_up V 29 1 (.int 0)) 28 2 (.int 0)) 4 8 (.long 0)) 4 7 (.int (nI 0))) (ps0 s) := ((((h.tx h.1.clear Fr1.up).tr 0).sil 0).lv 0 (Nat.zero_le _))
theorem FrP.zero {V : aV} : FrP V (a_up (a_up (a_up (a_up V 29 1 (.int 0)) 28 2 (.int 0)) 4 8 (.long 0)) 4 7 (.int (nI 0))) := (((FrP.tx Fr1.up).trans FrP.tr).trans (FrP.f4 (by decide))).trans (FrP.f4 (by decide))
set_option maxHeartbeats 4000000 in
theorem ct_write {V : aV} {tl : Nat → Nat} {T : Nat → List Int32} {to : Nat → Bool} {jp : Nat → Nat → Option Nat} {w : Nat → List Int32} {vl : Nat → Nat} {s : PS} (hC : PC V) (hT : PT V tl T to jp) (hP : PW V s) (hW : HD V w vl) (t : Int32) (hJ : isTo to t → JRun T to jp w vl (pOp (ps0 s) t)) : CT mX7_write 6 0 0 [.ref 4, .int t] Sh V (PPost V (pWr T to jp w vl s t)) aNo := by
  refine CT_of (by decide +kernel) (Nat.le_of_ble_eq_true rfl) ?_
  show R _ _ _ _ _ _ _ _ 0 [some (.ref 4), some (.int t), none] [] _ _
  have hC0 := hC
  obtain ⟨k0, k2, k3, k4, k5, k6, k28, k11, k111, k12⟩ := hC
  have hP0 := hP
  obtain ⟨p1, p2, p3, p4, p5, p6⟩ := hP
  have p11 := p1.len1
  have px := p1.len
  have hP1 := hP0.zero
  have hF1 := FrP.zero (V := V)
  have hC1 := hC0.fr hF1
  have hT1 := hT.fr hF1
  have hW1 := hW.frP hF1
  refine R_aload_0 dX7_write_0 ?_
  refine gfX7_32 rfl dX7_write_1 sh_4 k3 ?_
  refine gfX7_54 rfl dX7_write_4 sh_28 k28 ?_
  refine R_iconst (v := 0) dX7_write_7 (by decide) ?_
  refine pfX7_58 rfl dX7_write_8 sh_29 ?_
  refine R_aload_0 dX7_write_11 ?_
  refine gfX7_32 rfl dX7_write_12 sh_4 ((a_up_ne (Or.inl (by decide))).trans k3) ?_
  refine R_iconst (v := 0) dX7_write_15 (by decide) ?_
  refine pfX7_63 rfl dX7_write_16 sh_28 ?_
  refine R_aload_0 dX7_write_19 ?_
  refine R_lconst (v := 0) dX7_write_20 (by decide) ?_
  refine pfX7_66 rfl dX7_write_21 sh_4 ?_
  refine R_aload_0 dX7_write_24 ?_
  refine R_iconst (v := 0) dX7_write_25 (by decide) ?_
  refine pfX7_50 rfl dX7_write_26 sh_4 ?_
  show R mX7_write 6 0 0 _ aNo _ _ 29 _ _ _ (a_up (a_up (a_up (a_up V 29 1 (.int 0)) 28 2 (.int 0)) 4 8 (.long 0)) 4 7 (.int (nI 0)))
  refine R_aload_0 dX7_write_29 ?_
  refine R_iload_1 dX7_write_30 ?_
  refine R_callV_e (T := mX7_write) (T' := mX7_isTold) (As := [_]) (ci := 7) okX7_isTold mlX7_70 rfl (by decide) sh_4 (ct_isTold hC1 hT1 t) rfl (by decide) (by decide) (Nat.le_of_ble_eq_true rfl) dX7_write_31 ?_
  refine R_if_ne 44 dX7_write_34 (by decide) (fun c34 => ?_) (fun c34 => ?_)
  · have e : pWr T to jp w vl s t = pRun T to jp w vl 1000000 (pOp (ps0 s) t) := if_neg (not_not_intro (bI_ne c34))
    rw [e]
    have hJ1 := hJ (bI_ne c34)
    refine R_aload_0 dX7_write_44 ?_
    refine R_iload_1 dX7_write_45 ?_
    refine R_callV (T := mX7_write) (T' := mX7_open) (As := [_]) (ci := 7) okX7_open mlX7_78 rfl (by decide) sh_4 (ct_open hC1 hP1 t) rfl (by decide) (by decide) (Nat.le_of_ble_eq_true rfl) dX7_write_46 (fun v9 S9 V9 h9 => ?_) (fun E S9 V9 h9 => h9.elim)
    obtain ⟨rfl, rfl, u3, u4⟩ := h9
    refine R_iconst (v := 0) dX7_write_49 (by decide) ?_
    refine R_istore_2 rfl (by decide) dX7_write_50 ?_
    exact wr_loop (V0 := V) 1000000 0 _ V9 rfl (hC1.fr u4) (hT1.fr u4) u3 (hW1.frP u4) (hF1.trans u4) hJ1 (fun V8 z1 z2 => ⟨rfl, rfl, z1, z2⟩)
  · have e : pWr T to jp w vl s t = pTr (pOp (ps0 s) t) 1 := if_pos (bI_eq c34)
    rw [e]
    refine R_aload_0 dX7_write_37 ?_
    refine R_iload_1 dX7_write_38 ?_
    refine R_iconst (v := 1) dX7_write_39 (by decide) ?_
    refine R_callV (T := mX7_write) (T' := mX7_blameWhole) (As := [_, _]) (ci := 7) okX7_blameWhole mlX7_74 rfl (by decide) sh_4 (ct_blameWhole hC1 hP1 t 1) rfl (by decide) (by decide) (Nat.le_of_ble_eq_true rfl) dX7_write_40 (fun v9 S9 V9 h9 => ?_) (fun E S9 V9 h9 => h9.elim)
    obtain ⟨rfl, rfl, u3, u4⟩ := h9
    refine R_vret rfl dX7_write_43 ⟨rfl, rfl, u3, hF1.trans u4⟩

set_option maxHeartbeats 4000000 in
theorem ct_templateAt {V : aV} {s : PS} {l : Nat} (hC : PC V) (hP : PW V s) (hl : l < s.2.2.1) : CT mX7_templateAt 0 0 0 [.ref 4, .int (nI l)] Sh V (aRet (some (.int (s.2.2.2.1 l))) Sh V) aNo := by
  refine CT_of (by decide +kernel) (Nat.le_of_ble_eq_true rfl) ?_
  show R _ _ _ _ _ _ _ _ 0 [some (.ref 4), some (.int (nI l))] [] _ _
  have hC0 := hC
  obtain ⟨k0, k2, k3, k4, k5, k6, k28, k11, k111, k12⟩ := hC
  have hP0 := hP
  obtain ⟨p1, p2, p3, p4, p5, p6⟩ := hP
  have p11 := p1.len1
  have px := p1.len
  have pj := (p6 l hl).1
  refine R_iload_1 dX7_templateAt_0 ?_
  refine R_if_lt 26 dX7_templateAt_1 (by decide) (fun c1 => absurd c1 (nI_pos (by omega))) (fun c1 => ?_)
  refine R_iload_1 dX7_templateAt_4 ?_
  refine R_aload_0 dX7_templateAt_5 ?_
  refine gfX7_50 rfl dX7_templateAt_6 sh_4 p3 ?_
  refine R_icmp_ge 26 dX7_templateAt_9 (by decide) (fun c9 => absurd c9 (nI_ge hl (by omega))) (fun c9 => ?_)
  refine R_iload_1 dX7_templateAt_12 ?_
  refine R_iconst (v := 5) dX7_templateAt_13 (by decide) ?_
  refine R_icmp_ge 26 dX7_templateAt_14 (by decide) (fun c14 => absurd c14 (nI_ge (a := l) (b := 5) (by omega) (by omega))) (fun c14 => ?_)
  refine R_aload_0 dX7_templateAt_17 ?_
  refine gfX7_36 rfl dX7_templateAt_18 sh_4 k4 ?_
  refine R_iload_1 dX7_templateAt_21 ?_
  refine R_iald dX7_templateAt_22 sh_31 (vp_in_nI (by omega) (by decide)) (nI_clamp (by omega)) pj ?_
  refine R_goto 27 dX7_templateAt_23 (by decide) ?_
  refine R_iret rfl dX7_templateAt_27 ⟨rfl, rfl, rfl⟩

set_option maxHeartbeats 4000000 in
theorem ct_templateAt0 {V : aV} {s : PS} {l : Nat} (hC : PC V) (hP : PW V s) (hl : s.2.2.1 ≤ l) (h9 : l < 1000) : CT mX7_templateAt 0 0 0 [.ref 4, .int (nI l)] Sh V (aRet (some (.int (-1))) Sh V) aNo := by
  refine CT_of (by decide +kernel) (Nat.le_of_ble_eq_true rfl) ?_
  show R _ _ _ _ _ _ _ _ 0 [some (.ref 4), some (.int (nI l))] [] _ _
  have hC0 := hC
  obtain ⟨k0, k2, k3, k4, k5, k6, k28, k11, k111, k12⟩ := hC
  have hP0 := hP
  obtain ⟨p1, p2, p3, p4, p5, p6⟩ := hP
  have p11 := p1.len1
  have px := p1.len
  refine R_iload_1 dX7_templateAt_0 ?_
  refine R_if_lt 26 dX7_templateAt_1 (by decide) (fun c1 => absurd c1 (nI_pos (by omega))) (fun c1 => ?_)
  refine R_iload_1 dX7_templateAt_4 ?_
  refine R_aload_0 dX7_templateAt_5 ?_
  refine gfX7_50 rfl dX7_templateAt_6 sh_4 p3 ?_
  refine R_icmp_ge 26 dX7_templateAt_9 (by decide) (fun c9 => ?_) (fun c9 => absurd (nI_le hl (by omega)) c9)
  refine R_iconst (v := -1) dX7_templateAt_26 (by decide) ?_
  refine R_iret rfl dX7_templateAt_27 ⟨rfl, rfl, rfl⟩

set_option maxHeartbeats 4000000 in
theorem ct_placeAt {V : aV} {s : PS} {l : Nat} (hC : PC V) (hP : PW V s) (hl : l < s.2.2.1) : CT mX7_placeAt 0 0 0 [.ref 4, .int (nI l)] Sh V (aRet (some (.int (s.2.2.2.2.1 l))) Sh V) aNo := by
  refine CT_of (by decide +kernel) (Nat.le_of_ble_eq_true rfl) ?_
  show R _ _ _ _ _ _ _ _ 0 [some (.ref 4), some (.int (nI l))] [] _ _
  have hC0 := hC
  obtain ⟨k0, k2, k3, k4, k5, k6, k28, k11, k111, k12⟩ := hC
  have hP0 := hP
  obtain ⟨p1, p2, p3, p4, p5, p6⟩ := hP
  have p11 := p1.len1
  have px := p1.len
  have pj := (p6 l hl).2.1
  refine R_iload_1 dX7_placeAt_0 ?_
  refine R_if_lt 26 dX7_placeAt_1 (by decide) (fun c1 => absurd c1 (nI_pos (by omega))) (fun c1 => ?_)
  refine R_iload_1 dX7_placeAt_4 ?_
  refine R_aload_0 dX7_placeAt_5 ?_
  refine gfX7_50 rfl dX7_placeAt_6 sh_4 p3 ?_
  refine R_icmp_ge 26 dX7_placeAt_9 (by decide) (fun c9 => absurd c9 (nI_ge hl (by omega))) (fun c9 => ?_)
  refine R_iload_1 dX7_placeAt_12 ?_
  refine R_iconst (v := 5) dX7_placeAt_13 (by decide) ?_
  refine R_icmp_ge 26 dX7_placeAt_14 (by decide) (fun c14 => absurd c14 (nI_ge (a := l) (b := 5) (by omega) (by omega))) (fun c14 => ?_)
  refine R_aload_0 dX7_placeAt_17 ?_
  refine gfX7_40 rfl dX7_placeAt_18 sh_4 k5 ?_
  refine R_iload_1 dX7_placeAt_21 ?_
  refine R_iald dX7_placeAt_22 sh_32 (vp_in_nI (by omega) (by decide)) (nI_clamp (by omega)) pj ?_
  refine R_goto 27 dX7_placeAt_23 (by decide) ?_
  refine R_iret rfl dX7_placeAt_27 ⟨rfl, rfl, rfl⟩

set_option maxHeartbeats 4000000 in
theorem ct_placeAt0 {V : aV} {s : PS} {l : Nat} (hC : PC V) (hP : PW V s) (hl : s.2.2.1 ≤ l) (h9 : l < 1000) : CT mX7_placeAt 0 0 0 [.ref 4, .int (nI l)] Sh V (aRet (some (.int (-1))) Sh V) aNo := by
  refine CT_of (by decide +kernel) (Nat.le_of_ble_eq_true rfl) ?_
  show R _ _ _ _ _ _ _ _ 0 [some (.ref 4), some (.int (nI l))] [] _ _
  have hC0 := hC
  obtain ⟨k0, k2, k3, k4, k5, k6, k28, k11, k111, k12⟩ := hC
  have hP0 := hP
  obtain ⟨p1, p2, p3, p4, p5, p6⟩ := hP
  have p11 := p1.len1
  have px := p1.len
  refine R_iload_1 dX7_placeAt_0 ?_
  refine R_if_lt 26 dX7_placeAt_1 (by decide) (fun c1 => absurd c1 (nI_pos (by omega))) (fun c1 => ?_)
  refine R_iload_1 dX7_placeAt_4 ?_
  refine R_aload_0 dX7_placeAt_5 ?_
  refine gfX7_50 rfl dX7_placeAt_6 sh_4 p3 ?_
  refine R_icmp_ge 26 dX7_placeAt_9 (by decide) (fun c9 => ?_) (fun c9 => absurd (nI_le hl (by omega)) c9)
  refine R_iconst (v := -1) dX7_placeAt_26 (by decide) ?_
  refine R_iret rfl dX7_placeAt_27 ⟨rfl, rfl, rfl⟩

