/-! ===== Press: its steps ===== -/
def sBit (l t : Int32) : Int64 := 1 <<< ((l * 8 + t).toInt64 &&& 63)
def pC2 (s : PS) (l : Nat) : PS := (s.1, s.2.1, l, s.2.2.2.1, if 0 < l then upN s.2.2.2.2.1 (l - 1) (s.2.2.2.2.1 (l - 1) + 2) else s.2.2.2.2.1, s.2.2.2.2.2.1, s.2.2.2.2.2.2)
def pCl (s : PS) (l : Nat) : PS := if nI s.1.length = s.2.2.2.2.2.1 l then pC2 (s.1, s.2.1, s.2.2.1, s.2.2.2.1, s.2.2.2.2.1, s.2.2.2.2.2.1, s.2.2.2.2.2.2 ||| sBit (nI l) (s.2.2.2.1 l)) l else pC2 s l
def pTr (s : PS) (x : Int32) : PS := (s.1, x, s.2.2)
def pMv (s : PS) (l : Nat) (x : Int32) : PS := (s.1, s.2.1, s.2.2.1, s.2.2.2.1, upN s.2.2.2.2.1 l x, s.2.2.2.2.2)
def pWs (s : PS) (l : Nat) (c : Int32) : PS := if 160 ≤ s.1.length then pTr s 3 else pMv (s.1 ++ [c], s.2) l (s.2.2.2.2.1 l + 1)
def pWf (w : Nat → List Int32) (s : PS) (l : Nat) (c : Int32) : PS := if fIx c < 0 ∨ 160 - s.1.length < (w (fIx c).toNatClampNeg).length then pTr s 3 else pMv (s.1 ++ w (fIx c).toNatClampNeg, s.2) l (s.2.2.2.2.1 l + 3)
def pEn (to : Nat → Bool) (s : PS) (l : Nat) (t : Int32) : PS := if ¬ isTo to t then pTr s 1 else if 5 ≤ s.2.2.1 then pTr s 2 else if s.2.2.2.2.2.2 &&& sBit (nI s.2.2.1) t = 0 then pOp s t else pMv s l (s.2.2.2.2.1 l + 2)
theorem fx6 (c : Int32) : ¬ (6 : Int32) ≤ fIx c := by
  unfold fIx
  repeat' split
  all_goals decide
theorem fx_nI {c : Int32} (h : ¬ fIx c < 0) : ∃ f, f < 6 ∧ fIx c = nI f := i8_nI (n := 6) (by decide) h (fx6 c)
theorem lg_eq0 {x : Int64} : lg_cmp x 0 = 0 ↔ x = 0 := by
  unfold lg_cmp
  by_cases q : x > 0
  · rw [if_pos q]
    exact ⟨fun z => absurd z (by decide), fun z => by rw [z] at q; exact absurd q (by decide)⟩
  · rw [if_neg q]
    by_cases q2 : x = 0
    · rw [if_pos q2]; exact ⟨fun _ => q2, fun _ => rfl⟩
    · rw [if_neg q2]; exact ⟨fun z => absurd z (by decide), fun z => absurd z q2⟩
abbrev hld (v r n : Int32) : Prop := if r = 61 then v = n else if r = 60 then v < n else ¬ v ≤ n
set_option maxHeartbeats 4000000 in
theorem ct_silentBit {S : aS} {V : aV} (l t : Int32) : CT mX7_silentBit 0 0 0 [.int l, .int t] S V (aRet (some (.long (sBit l t))) S V) aNo := by
  refine CT_of (by decide +kernel) (Nat.le_of_ble_eq_true rfl) ?_
  show R _ _ _ _ _ _ _ _ 0 [some (.int l), some (.int t)] [] _ _
  refine R_lconst (v := 1) dX7_silentBit_0 (by decide) ?_
  refine R_iload_0 dX7_silentBit_1 ?_
  refine R_bipush (v := 8) dX7_silentBit_2 (by decide) ?_
  refine R_imul dX7_silentBit_4 ?_
  refine R_iload_1 dX7_silentBit_5 ?_
  refine R_iadd dX7_silentBit_6 ?_
  refine R_lshl dX7_silentBit_7 ?_
  refine R_lret rfl dX7_silentBit_8 ⟨rfl, rfl, rfl⟩

set_option maxHeartbeats 4000000 in
theorem ct_holds {S : aS} {V : aV} (v r n : Int32) : CT mX7_holds 0 0 0 [.int v, .int r, .int n] S V (aRet (some (.int (bI (hld v r n)))) S V) aNo := by
  refine CT_of (by decide +kernel) (Nat.le_of_ble_eq_true rfl) ?_
  show R _ _ _ _ _ _ _ _ 0 [some (.int v), some (.int r), some (.int n)] [] _ _
  refine R_iload_1 dX7_holds_0 ?_
  refine R_bipush (v := 61) dX7_holds_1 (by decide) ?_
  refine R_icmp_ne 19 dX7_holds_3 (by decide) (fun c3 => ?_) (fun c3 => ?_)
  · refine R_iload_1 dX7_holds_19 ?_
    refine R_bipush (v := 60) dX7_holds_20 (by decide) ?_
    refine R_icmp_ne 38 dX7_holds_22 (by decide) (fun c22 => ?_) (fun c22 => ?_)
    · refine R_iload_0 dX7_holds_38 ?_
      refine R_iload_2 dX7_holds_39 ?_
      refine R_icmp_le 47 dX7_holds_40 (by decide) (fun c40 => ?_) (fun c40 => ?_)
      · refine R_iconst (v := 0) dX7_holds_47 (by decide) ?_
        refine R_zret rfl (by first | rfl | assumption) dX7_holds_48 (by first
  | exact ret_b (bI_t (by unfold hld; rw [if_pos c3]; exact c8))
  | exact ret_b (bI_f (by unfold hld; rw [if_pos c3]; exact c8))
  | exact ret_b (bI_f (by unfold hld; rw [if_neg c3, if_pos c22]; exact Int32.not_lt.2 c27))
  | exact ret_b (bI_t (by unfold hld; rw [if_neg c3, if_pos c22]; exact Int32.not_le.1 c27))
  | exact ret_b (bI_f (by unfold hld; rw [if_neg c3, if_neg c22]; exact not_not_intro c40))
  | exact ret_b (bI_t (by unfold hld; rw [if_neg c3, if_neg c22]; exact c40)))
      · refine R_iconst (v := 1) dX7_holds_43 (by decide) ?_
        refine R_goto 48 dX7_holds_44 (by decide) ?_
        refine R_zret rfl (by first | rfl | assumption) dX7_holds_48 (by first
  | exact ret_b (bI_t (by unfold hld; rw [if_pos c3]; exact c8))
  | exact ret_b (bI_f (by unfold hld; rw [if_pos c3]; exact c8))
  | exact ret_b (bI_f (by unfold hld; rw [if_neg c3, if_pos c22]; exact Int32.not_lt.2 c27))
  | exact ret_b (bI_t (by unfold hld; rw [if_neg c3, if_pos c22]; exact Int32.not_le.1 c27))
  | exact ret_b (bI_f (by unfold hld; rw [if_neg c3, if_neg c22]; exact not_not_intro c40))
  | exact ret_b (bI_t (by unfold hld; rw [if_neg c3, if_neg c22]; exact c40)))
    · refine R_iload_0 dX7_holds_25 ?_
      refine R_iload_2 dX7_holds_26 ?_
      refine R_icmp_ge 34 dX7_holds_27 (by decide) (fun c27 => ?_) (fun c27 => ?_)
      · refine R_iconst (v := 0) dX7_holds_34 (by decide) ?_
        refine R_goto 48 dX7_holds_35 (by decide) ?_
        refine R_zret rfl (by first | rfl | assumption) dX7_holds_48 (by first
  | exact ret_b (bI_t (by unfold hld; rw [if_pos c3]; exact c8))
  | exact ret_b (bI_f (by unfold hld; rw [if_pos c3]; exact c8))
  | exact ret_b (bI_f (by unfold hld; rw [if_neg c3, if_pos c22]; exact Int32.not_lt.2 c27))
  | exact ret_b (bI_t (by unfold hld; rw [if_neg c3, if_pos c22]; exact Int32.not_le.1 c27))
  | exact ret_b (bI_f (by unfold hld; rw [if_neg c3, if_neg c22]; exact not_not_intro c40))
  | exact ret_b (bI_t (by unfold hld; rw [if_neg c3, if_neg c22]; exact c40)))
      · refine R_iconst (v := 1) dX7_holds_30 (by decide) ?_
        refine R_goto 48 dX7_holds_31 (by decide) ?_
        refine R_zret rfl (by first | rfl | assumption) dX7_holds_48 (by first
  | exact ret_b (bI_t (by unfold hld; rw [if_pos c3]; exact c8))
  | exact ret_b (bI_f (by unfold hld; rw [if_pos c3]; exact c8))
  | exact ret_b (bI_f (by unfold hld; rw [if_neg c3, if_pos c22]; exact Int32.not_lt.2 c27))
  | exact ret_b (bI_t (by unfold hld; rw [if_neg c3, if_pos c22]; exact Int32.not_le.1 c27))
  | exact ret_b (bI_f (by unfold hld; rw [if_neg c3, if_neg c22]; exact not_not_intro c40))
  | exact ret_b (bI_t (by unfold hld; rw [if_neg c3, if_neg c22]; exact c40)))
  · refine R_iload_0 dX7_holds_6 ?_
    refine R_iload_2 dX7_holds_7 ?_
    refine R_icmp_ne 15 dX7_holds_8 (by decide) (fun c8 => ?_) (fun c8 => ?_)
    · refine R_iconst (v := 0) dX7_holds_15 (by decide) ?_
      refine R_goto 48 dX7_holds_16 (by decide) ?_
      refine R_zret rfl (by first | rfl | assumption) dX7_holds_48 (by first
  | exact ret_b (bI_t (by unfold hld; rw [if_pos c3]; exact c8))
  | exact ret_b (bI_f (by unfold hld; rw [if_pos c3]; exact c8))
  | exact ret_b (bI_f (by unfold hld; rw [if_neg c3, if_pos c22]; exact Int32.not_lt.2 c27))
  | exact ret_b (bI_t (by unfold hld; rw [if_neg c3, if_pos c22]; exact Int32.not_le.1 c27))
  | exact ret_b (bI_f (by unfold hld; rw [if_neg c3, if_neg c22]; exact not_not_intro c40))
  | exact ret_b (bI_t (by unfold hld; rw [if_neg c3, if_neg c22]; exact c40)))
    · refine R_iconst (v := 1) dX7_holds_11 (by decide) ?_
      refine R_goto 48 dX7_holds_12 (by decide) ?_
      refine R_zret rfl (by first | rfl | assumption) dX7_holds_48 (by first
  | exact ret_b (bI_t (by unfold hld; rw [if_pos c3]; exact c8))
  | exact ret_b (bI_f (by unfold hld; rw [if_pos c3]; exact c8))
  | exact ret_b (bI_f (by unfold hld; rw [if_neg c3, if_pos c22]; exact Int32.not_lt.2 c27))
  | exact ret_b (bI_t (by unfold hld; rw [if_neg c3, if_pos c22]; exact Int32.not_le.1 c27))
  | exact ret_b (bI_f (by unfold hld; rw [if_neg c3, if_neg c22]; exact not_not_intro c40))
  | exact ret_b (bI_t (by unfold hld; rw [if_neg c3, if_neg c22]; exact c40)))

set_option maxHeartbeats 4000000 in
theorem ct_blameWhole {V : aV} {s : PS} (hC : PC V) (hP : PW V s) (t x : Int32) : CT mX7_blameWhole 1 0 0 [.ref 4, .int t, .int x] Sh V (PPost V (pTr (pOp (s.1, s.2.1, 0, s.2.2.2) t) x)) aNo := by
  refine CT_of (by decide +kernel) (Nat.le_of_ble_eq_true rfl) ?_
  show R _ _ _ _ _ _ _ _ 0 [some (.ref 4), some (.int t), some (.int x)] [] _ _
  have hC0 := hC
  obtain ⟨k0, k2, k3, k4, k5, k6, k28, k11, k111, k12⟩ := hC
  refine R_aload_0 dX7_blameWhole_0 ?_
  refine R_iconst (v := 0) dX7_blameWhole_1 (by decide) ?_
  refine pfX7_50 rfl dX7_blameWhole_2 sh_4 ?_
  have hP1 := hP.lv 0 (Nat.zero_le _)
  have hC1 : PC (a_up V 4 7 (.int (nI 0))) := hC0.fr (FrP.f4 (by decide))
  show R mX7_blameWhole 1 0 0 _ aNo _ _ 5 _ _ _ (a_up V 4 7 (.int (nI 0)))
  refine R_aload_0 dX7_blameWhole_5 ?_
  refine R_iload_1 dX7_blameWhole_6 ?_
  refine R_callV (T := mX7_blameWhole) (T' := mX7_open) (As := [_]) (ci := 7) okX7_open mlX7_78 rfl (by decide) sh_4 (ct_open hC1 hP1 t) rfl (by decide) (by decide) (Nat.le_of_ble_eq_true rfl) dX7_blameWhole_7 (fun v9 S9 V9 h9 => ?_) (fun E S9 V9 h9 => h9.elim)
  obtain ⟨rfl, rfl, u3, u4⟩ := h9
  have j3 := (hC1.fr u4).2.2.1
  refine R_aload_0 dX7_blameWhole_10 ?_
  refine gfX7_32 rfl dX7_blameWhole_11 sh_4 j3 ?_
  refine R_iload_2 dX7_blameWhole_14 ?_
  refine pfX7_63 rfl dX7_blameWhole_15 sh_28 ?_
  refine R_vret rfl dX7_blameWhole_18 ⟨rfl, rfl, u3.tr x, ((FrP.f4 (by decide)).trans u4).trans FrP.tr⟩

set_option maxHeartbeats 4000000 in
theorem close_tail {mc ms kc ks : Nat} {V : aV} {s : PS} {l : Nat} (hC : PC V) (hP : PW V s) (hl : l < s.2.2.1) {Q : Option Value → aS → aV → Prop} {QX : String → aS → aV → Prop} (hQ : ∀ V', PW V' (pC2 s l) → FrP V V' → Q none Sh V') : R mX7_close 1 mc ms Q QX kc ks 38 [some (.ref 4), some (.int (nI l))] [] Sh V := by
  have hC0 := hC
  obtain ⟨k0, k2, k3, k4, k5, k6, k28, k11, k111, k12⟩ := hC
  have hP0 := hP
  obtain ⟨p1, p2, p3, p4, p5, p6⟩ := hP
  have p11 := p1.len1
  have px := p1.len
  have hP1 := hP0.lv l (Nat.le_of_lt hl)
  refine R_aload_0 dX7_close_38 ?_
  refine R_iload_1 dX7_close_39 ?_
  refine pfX7_50 rfl dX7_close_40 sh_4 ?_
  refine R_iload_1 dX7_close_43 ?_
  refine R_if_le 59 dX7_close_44 (by decide) (fun c44 => ?_) (fun c44 => ?_)
  · refine R_vret rfl dX7_close_59 (by first | (have e : pC2 s l = pMv (s.1, s.2.1, l, s.2.2.2) (l - 1) (s.2.2.2.2.1 (l - 1) + 2) := (by unfold pC2 pMv; rw [if_pos hl0]); rw [e] at hQ; exact hQ _ (hP1.pl (l - 1) _) ((FrP.f4 (by decide)).trans (FrP.row (by decide) (by decide)))) | (have hl0 : ¬ 0 < l := (fun q => absurd c44 (nI_nle q (by omega))); have e : pC2 s l = (s.1, s.2.1, l, s.2.2.2) := (by unfold pC2; rw [if_neg hl0]); rw [e] at hQ; exact hQ _ hP1 (FrP.f4 (by decide))))
  · have hl0 : 0 < l := Nat.pos_of_ne_zero (fun q => c44 (by rw [q]; decide))
    have pv := (p6 (l - 1) (by omega)).2.1
    refine R_aload_0 dX7_close_47 ?_
    refine gfX7_40 rfl dX7_close_48 sh_4 ((a_up_ne (Or.inr (by decide))).trans k5) ?_
    refine R_iload_1 dX7_close_51 ?_
    refine R_iconst (v := 1) dX7_close_52 (by decide) ?_
    refine R_isub dX7_close_53 ?_
    rw [show nI l - 1 = nI (l - 1) from pk_sub (b := 1) hl0]
    refine R_dup2_11 dX7_close_54 rfl rfl ?_
    refine R_iald dX7_close_55 sh_32 (vp_in_nI (by omega) (by decide)) (nI_clamp (by omega)) ((a_up_ne (Or.inl (by decide))).trans pv) ?_
    refine R_iconst (v := 2) dX7_close_56 (by decide) ?_
    refine R_iadd dX7_close_57 ?_
    refine R_iast dX7_close_58 sh_32 (vp_in_nI (by omega) (by decide)) (nI_clamp (by omega)) ?_
    refine R_vret rfl dX7_close_59 (by first | (have e : pC2 s l = pMv (s.1, s.2.1, l, s.2.2.2) (l - 1) (s.2.2.2.2.1 (l - 1) + 2) := (by unfold pC2 pMv; rw [if_pos hl0]); rw [e] at hQ; exact hQ _ (hP1.pl (l - 1) _) ((FrP.f4 (by decide)).trans (FrP.row (by decide) (by decide)))) | (have hl0 : ¬ 0 < l := (fun q => absurd c44 (nI_nle q (by omega))); have e : pC2 s l = (s.1, s.2.1, l, s.2.2.2) := (by unfold pC2; rw [if_neg hl0]); rw [e] at hQ; exact hQ _ hP1 (FrP.f4 (by decide))))
set_option maxHeartbeats 4000000 in
theorem ct_close {V : aV} {s : PS} {l : Nat} (hC : PC V) (hP : PW V s) (hl : l < s.2.2.1) : CT mX7_close 1 0 0 [.ref 4, .int (nI l)] Sh V (PPost V (pCl s l)) aNo := by
  refine CT_of (by decide +kernel) (Nat.le_of_ble_eq_true rfl) ?_
  show R _ _ _ _ _ _ _ _ 0 [some (.ref 4), some (.int (nI l))] [] _ _
  have hC0 := hC
  obtain ⟨k0, k2, k3, k4, k5, k6, k28, k11, k111, k12⟩ := hC
  have hP0 := hP
  obtain ⟨p1, p2, p3, p4, p5, p6⟩ := hP
  have p11 := p1.len1
  have px := p1.len
  obtain ⟨q1, q2, q3⟩ := p6 l hl
  refine R_aload_0 dX7_close_0 ?_
  refine gfX7_32 rfl dX7_close_1 sh_4 k3 ?_
  refine gfX7_54 rfl dX7_close_4 sh_28 k28 ?_
  refine gfX7_58 rfl dX7_close_7 sh_29 p11 ?_
  refine R_aload_0 dX7_close_10 ?_
  refine gfX7_43 rfl dX7_close_11 sh_4 k6 ?_
  refine R_iload_1 dX7_close_14 ?_
  refine R_iald dX7_close_15 sh_33 (vp_in_nI (by omega) (by decide)) (nI_clamp (by omega)) q3 ?_
  refine R_icmp_ne 38 dX7_close_16 (by decide) (fun c16 => ?_) (fun c16 => ?_)
  · first
      | (have e : pCl s l = pC2 s l := if_neg c16
         rw [e]
         exact close_tail hC0 hP0 hl (fun V9 u1 u2 => ⟨rfl, rfl, u1, u2⟩))
      | (have e : pCl s l = pC2 (s.1, s.2.1, s.2.2.1, s.2.2.2.1, s.2.2.2.2.1, s.2.2.2.2.2.1, s.2.2.2.2.2.2 ||| sBit (nI l) (s.2.2.2.1 l)) l := if_pos c16
         rw [e]
         exact close_tail (hC0.fr (FrP.f4 (by decide))) (hP0.sil (s.2.2.2.2.2.2 ||| sBit (nI l) (s.2.2.2.1 l))) hl (fun V9 u1 u2 => ⟨rfl, rfl, u1, (FrP.f4 (by decide)).trans u2⟩))
  · refine R_aload_0 dX7_close_19 ?_
    refine R_dup dX7_close_20 rfl ?_
    refine gfX7_66 rfl dX7_close_21 sh_4 p5 ?_
    refine R_iload_1 dX7_close_24 ?_
    refine R_aload_0 dX7_close_25 ?_
    refine gfX7_36 rfl dX7_close_26 sh_4 k4 ?_
    refine R_iload_1 dX7_close_29 ?_
    refine R_iald dX7_close_30 sh_31 (vp_in_nI (by omega) (by decide)) (nI_clamp (by omega)) q1 ?_
    refine R_callS_e (T := mX7_close) (T' := mX7_silentBit) (As := [_, _]) okX7_silentBit mlX7_118 rfl (ct_silentBit (nI l) (s.2.2.2.1 l)) rfl (by decide) (by decide) (Nat.le_of_ble_eq_true rfl) dX7_close_31 ?_
    refine R_lor dX7_close_34 ?_
    refine pfX7_66 rfl dX7_close_35 sh_4 ?_
    first
      | (have e : pCl s l = pC2 s l := if_neg c16
         rw [e]
         exact close_tail hC0 hP0 hl (fun V9 u1 u2 => ⟨rfl, rfl, u1, u2⟩))
      | (have e : pCl s l = pC2 (s.1, s.2.1, s.2.2.1, s.2.2.2.1, s.2.2.2.2.1, s.2.2.2.2.2.1, s.2.2.2.2.2.2 ||| sBit (nI l) (s.2.2.2.1 l)) l := if_pos c16
         rw [e]
         exact close_tail (hC0.fr (FrP.f4 (by decide))) (hP0.sil (s.2.2.2.2.2.2 ||| sBit (nI l) (s.2.2.2.1 l))) hl (fun V9 u1 u2 => ⟨rfl, rfl, u1, (FrP.f4 (by decide)).trans u2⟩))

set_option maxHeartbeats 4000000 in
theorem ct_writeSign {V : aV} {s : PS} {l : Nat} (hC : PC V) (hP : PW V s) (hl : l < s.2.2.1) (c : Int32) (hc : 0 ≤ c.toInt ∧ c.toInt < 65536) : CT mX7_writeSign 1 0 0 [.ref 4, .int (nI l), .int c] Sh V (PPost V (pWs s l c)) aNo := by
  refine CT_of (by decide +kernel) (Nat.le_of_ble_eq_true rfl) ?_
  show R _ _ _ _ _ _ _ _ 0 [some (.ref 4), some (.int (nI l)), some (.int c)] [] _ _
  have hC0 := hC
  obtain ⟨k0, k2, k3, k4, k5, k6, k28, k11, k111, k12⟩ := hC
  have hP0 := hP
  obtain ⟨p1, p2, p3, p4, p5, p6⟩ := hP
  have p11 := p1.len1
  have px := p1.len
  obtain ⟨q1, q2, q3⟩ := p6 l hl
  refine R_aload_0 dX7_writeSign_0 ?_
  refine gfX7_32 rfl dX7_writeSign_1 sh_4 k3 ?_
  refine gfX7_54 rfl dX7_writeSign_4 sh_28 k28 ?_
  refine R_callVN_e (T := mX7_writeSign) (T' := mX9_room) (As := []) (ci := 9) okX9_room mlX7_144 rfl (by decide) sh_29 (ct_room p1) rfl (by decide) (by decide) (Nat.le_of_ble_eq_true rfl) dX7_writeSign_7 ?_
  refine R_iconst (v := 1) dX7_writeSign_10 (by decide) ?_
  rw [show Int32.ofNat 160 - nI s.1.length = nI (160 - s.1.length) from pk_sub (a := 160) px]
  refine R_icmp_ge 23 dX7_writeSign_11 (by decide) (fun c11 => ?_) (fun c11 => ?_)
  · have hf : ¬ 160 ≤ s.1.length := fun q => absurd c11 (by rw [show 160 - s.1.length = 0 by omega]; decide)
    have e : pWs s l c = pMv (s.1 ++ [c], s.2) l (s.2.2.2.2.1 l + 1) := if_neg hf
    rw [e]
    refine R_aload_0 dX7_writeSign_23 ?_
    refine gfX7_32 rfl dX7_writeSign_24 sh_4 k3 ?_
    refine gfX7_54 rfl dX7_writeSign_27 sh_28 k28 ?_
    refine R_iload_2 dX7_writeSign_30 ?_
    refine R_callVN (T := mX7_writeSign) (T' := mX9_add) (As := [_]) (ci := 9) okX9_add mlX7_152 rfl (by decide) sh_29 (ct_addL p1 c hc (by omega)) rfl (by decide) (by decide) (Nat.le_of_ble_eq_true rfl) dX7_writeSign_31 (fun v9 S9 V9 h9 => ?_) (fun E S9 V9 h9 => h9.elim)
    obtain ⟨rfl, rfl, u3, u4⟩ := h9
    have hP1 := hP0.tx u3 u4
    have hC1 := hC0.fr (FrP.tx u4)
    have j5 := hC1.2.2.2.2.1
    have y2 : V9 32 l = .int (s.2.2.2.2.1 l) := (hP1.2.2.2.2.2 l hl).2.1
    refine R_aload_0 dX7_writeSign_34 ?_
    refine gfX7_40 rfl dX7_writeSign_35 sh_4 j5 ?_
    refine R_iload_1 dX7_writeSign_38 ?_
    refine R_dup2_11 dX7_writeSign_39 rfl rfl ?_
    refine R_iald dX7_writeSign_40 sh_32 (vp_in_nI (by omega) (by decide)) (nI_clamp (by omega)) y2 ?_
    refine R_iconst (v := 1) dX7_writeSign_41 (by decide) ?_
    refine R_iadd dX7_writeSign_42 ?_
    refine R_iast dX7_writeSign_43 sh_32 (vp_in_nI (by omega) (by decide)) (nI_clamp (by omega)) ?_
    refine R_vret rfl dX7_writeSign_44 ⟨rfl, rfl, hP1.pl l _, (FrP.tx u4).trans (FrP.row (by decide) (by decide))⟩
  · have hf : 160 ≤ s.1.length := Nat.le_of_not_lt (fun q => c11 (nI_le (a := 1) (b := 160 - s.1.length) (by omega) (by omega)))
    have e : pWs s l c = pTr s 3 := if_pos hf
    rw [e]
    refine R_aload_0 dX7_writeSign_14 ?_
    refine gfX7_32 rfl dX7_writeSign_15 sh_4 k3 ?_
    refine R_iconst (v := 3) dX7_writeSign_18 (by decide) ?_
    refine pfX7_63 rfl dX7_writeSign_19 sh_28 ?_
    refine R_vret rfl dX7_writeSign_22 ⟨rfl, rfl, hP0.tr 3, FrP.tr⟩

set_option maxHeartbeats 4000000 in
theorem ct_writeField {V : aV} {w : Nat → List Int32} {vl : Nat → Nat} {s : PS} {l : Nat} (hC : PC V) (hP : PW V s) (hW : HD V w vl) (hl : l < s.2.2.1) (c : Int32) (hc : ¬ c < 0) : CT mX7_writeField 4 0 0 [.ref 4, .int (nI l), .int c] Sh V (PPost V (pWf w s l c)) aNo := by
  refine CT_of (by decide +kernel) (Nat.le_of_ble_eq_true rfl) ?_
  show R _ _ _ _ _ _ _ _ 0 [some (.ref 4), some (.int (nI l)), some (.int c), none] [] _ _
  have hC0 := hC
  obtain ⟨k0, k2, k3, k4, k5, k6, k28, k11, k111, k12⟩ := hC
  have hP0 := hP
  obtain ⟨p1, p2, p3, p4, p5, p6⟩ := hP
  have p11 := p1.len1
  have px := p1.len
  obtain ⟨q1, q2, q3⟩ := p6 l hl
  refine R_ldcF srX7_122 dX7_writeField_0 ?_
  refine R_iload_2 dX7_writeField_2 ?_
  refine R_callVT_e (T' := mJ0_indexOf_0f7a4) (As := [_]) okJ0_indexOf_0f7a4 rfl mlX7_124 (ct_indexOf c hc) rfl (by decide) (by decide) (Nat.le_of_ble_eq_true rfl) dX7_writeField_3 ?_
  refine R_istore_3 rfl (by decide) dX7_writeField_6 ?_
  refine R_iload_3 dX7_writeField_7 ?_
  refine R_if_lt 42 dX7_writeField_8 (by decide) (fun c8 => ?_) (fun c8 => ?_)
  · have e : pWf w s l c = pTr s 3 := by
      unfold pWf
      first
        | exact if_pos (Or.inl c8)
        | (rw [ec]; exact if_pos (Or.inr (Nat.lt_of_not_le (fun q => c39 (nI_le q (by omega))))))
    rw [e]
    refine R_aload_0 dX7_writeField_42 ?_
    refine gfX7_32 rfl dX7_writeField_43 sh_4 k3 ?_
    refine R_iconst (v := 3) dX7_writeField_46 (by decide) ?_
    refine pfX7_63 rfl dX7_writeField_47 sh_28 ?_
    refine R_vret rfl dX7_writeField_50 ⟨rfl, rfl, hP0.tr 3, FrP.tr⟩
  · refine R_iload_3 dX7_writeField_11 ?_
    refine R_bipush (v := 6) dX7_writeField_12 (by decide) ?_
    refine R_icmp_ge 42 dX7_writeField_14 (by decide) (fun c14 => absurd c14 (fx6 c)) (fun c14 => ?_)
    obtain ⟨f, hf6, ef⟩ := fx_nI c8
    have ec : (fIx c).toNatClampNeg = f := by rw [ef]; exact nI_clamp (by omega)
    rw [ef]
    have wf := hW f hf6
    have kf := k12 f hf6
    have wl := wf.1.len
    have cpf : cp f ≤ 177 := by unfold cp; split; omega; split <;> omega
    refine R_aload_0 dX7_writeField_17 ?_
    refine gfX7_25 rfl dX7_writeField_18 sh_4 k2 ?_
    refine gfX7_140 rfl dX7_writeField_21 sh_11 k11 ?_
    refine R_iload_3 dX7_writeField_24 ?_
    refine R_aald_19 dX7_writeField_25 sh_12 (vp_in_nI (by omega) (by decide)) (nI_clamp (by omega)) kf ?_
    refine gfX7_58 rfl dX7_writeField_26 wf.1.1 wf.1.len1 ?_
    refine R_aload_0 dX7_writeField_29 ?_
    refine gfX7_32 rfl dX7_writeField_30 sh_4 k3 ?_
    refine gfX7_54 rfl dX7_writeField_33 sh_28 k28 ?_
    refine R_callVN_e (T := mX7_writeField) (T' := mX9_room) (As := []) (ci := 9) okX9_room mlX7_144 rfl (by decide) sh_29 (ct_room p1) rfl (by decide) (by decide) (Nat.le_of_ble_eq_true rfl) dX7_writeField_36 ?_
    rw [show Int32.ofNat 160 - nI s.1.length = nI (160 - s.1.length) from pk_sub (a := 160) px]
    refine R_icmp_le 51 dX7_writeField_39 (by decide) (fun c39 => ?_) (fun c39 => ?_)
    · have hle : (w f).length ≤ 160 - s.1.length := (nI_leI (by omega) (by omega)).1 c39
      have e : pWf w s l c = pMv (s.1 ++ w f, s.2) l (s.2.2.2.2.1 l + 3) := by
        unfold pWf
        rw [ec]
        exact if_neg (fun q => q.elim c8 (fun z => absurd hle (Nat.not_le_of_lt z)))
      rw [e]
      refine R_aload_0 dX7_writeField_51 ?_
      refine gfX7_32 rfl dX7_writeField_52 sh_4 k3 ?_
      refine gfX7_54 rfl dX7_writeField_55 sh_28 k28 ?_
      refine R_aload_0 dX7_writeField_58 ?_
      refine gfX7_25 rfl dX7_writeField_59 sh_4 k2 ?_
      refine gfX7_140 rfl dX7_writeField_62 sh_11 k11 ?_
      refine R_iload_3 dX7_writeField_65 ?_
      refine R_aald_19 dX7_writeField_66 sh_12 (vp_in_nI (by omega) (by decide)) (nI_clamp (by omega)) kf ?_
      refine R_callVN (T := mX7_writeField) (T' := mX9_addAll) (As := [_]) (ci := 9) okX9_addAll mlX7_148 rfl (by decide) sh_29 (ct_addAll rfl p1 wf.1 (by omega)) rfl (by decide) (by decide) (Nat.le_of_ble_eq_true rfl) dX7_writeField_67 (fun v9 S9 V9 h9 => ?_) (fun E S9 V9 h9 => h9.elim)
      obtain ⟨rfl, rfl, u3, u4⟩ := h9
      rw [List.take_of_length_le (by omega)] at u3
      have hP1 := hP0.tx u3 u4
      have hC1 := hC0.fr (FrP.tx u4)
      have j5 := hC1.2.2.2.2.1
      have y2 : V9 32 l = .int (s.2.2.2.2.1 l) := (hP1.2.2.2.2.2 l hl).2.1
      refine R_aload_0 dX7_writeField_70 ?_
      refine gfX7_40 rfl dX7_writeField_71 sh_4 j5 ?_
      refine R_iload_1 dX7_writeField_74 ?_
      refine R_dup2_11 dX7_writeField_75 rfl rfl ?_
      refine R_iald dX7_writeField_76 sh_32 (vp_in_nI (by omega) (by decide)) (nI_clamp (by omega)) y2 ?_
      refine R_iconst (v := 3) dX7_writeField_77 (by decide) ?_
      refine R_iadd dX7_writeField_78 ?_
      refine R_iast dX7_writeField_79 sh_32 (vp_in_nI (by omega) (by decide)) (nI_clamp (by omega)) ?_
      refine R_vret rfl dX7_writeField_80 ⟨rfl, rfl, hP1.pl l _, (FrP.tx u4).trans (FrP.row (by decide) (by decide))⟩
    · have e : pWf w s l c = pTr s 3 := by
        unfold pWf
        first
          | exact if_pos (Or.inl c8)
          | (rw [ec]; exact if_pos (Or.inr (Nat.lt_of_not_le (fun q => c39 (nI_le q (by omega))))))
      rw [e]
      refine R_aload_0 dX7_writeField_42 ?_
      refine gfX7_32 rfl dX7_writeField_43 sh_4 k3 ?_
      refine R_iconst (v := 3) dX7_writeField_46 (by decide) ?_
      refine pfX7_63 rfl dX7_writeField_47 sh_28 ?_
      refine R_vret rfl dX7_writeField_50 ⟨rfl, rfl, hP0.tr 3, FrP.tr⟩

set_option maxHeartbeats 4000000 in
theorem ct_enter {V : aV} {tl : Nat → Nat} {T : Nat → List Int32} {to : Nat → Bool} {jp : Nat → Nat → Option Nat} {s : PS} {l : Nat} (hC : PC V) (hT : PT V tl T to jp) (hP : PW V s) (hl : l < s.2.2.1) (t : Int32) : CT mX7_enter 1 0 0 [.ref 4, .int (nI l), .int t] Sh V (PPost V (pEn to s l t)) aNo := by
  refine CT_of (by decide +kernel) (Nat.le_of_ble_eq_true rfl) ?_
  show R _ _ _ _ _ _ _ _ 0 [some (.ref 4), some (.int (nI l)), some (.int t)] [] _ _
  have hC0 := hC
  obtain ⟨k0, k2, k3, k4, k5, k6, k28, k11, k111, k12⟩ := hC
  have hP0 := hP
  obtain ⟨p1, p2, p3, p4, p5, p6⟩ := hP
  have p11 := p1.len1
  have px := p1.len
  obtain ⟨q1, q2, q3⟩ := p6 l hl
  refine R_aload_0 dX7_enter_0 ?_
  refine R_iload_2 dX7_enter_1 ?_
  refine R_callV_e (T := mX7_enter) (T' := mX7_isTold) (As := [_]) (ci := 7) okX7_isTold mlX7_70 rfl (by decide) sh_4 (ct_isTold hC0 hT t) rfl (by decide) (by decide) (Nat.le_of_ble_eq_true rfl) dX7_enter_2 ?_
  refine R_if_ne 19 dX7_enter_5 (by decide) (fun c5 => ?_) (fun c5 => ?_)
  · have h1 : ¬ ¬ isTo to t := not_not_intro (bI_ne c5)
    refine R_aload_0 dX7_enter_19 ?_
    refine gfX7_50 rfl dX7_enter_20 sh_4 p3 ?_
    refine R_iconst (v := 5) dX7_enter_23 (by decide) ?_
    refine R_icmp_lt 38 dX7_enter_24 (by decide) (fun c24 => ?_) (fun c24 => ?_)
    · have h2 : ¬ 5 ≤ s.2.2.1 := fun q => absurd c24 (Int32.not_lt.2 (nI_le (a := 5) (b := s.2.2.1) q (by omega)))
      refine R_aload_0 dX7_enter_38 ?_
      refine gfX7_66 rfl dX7_enter_39 sh_4 p5 ?_
      refine R_aload_0 dX7_enter_42 ?_
      refine gfX7_50 rfl dX7_enter_43 sh_4 p3 ?_
      refine R_iload_2 dX7_enter_46 ?_
      refine R_callS_e (T := mX7_enter) (T' := mX7_silentBit) (As := [_, _]) okX7_silentBit mlX7_118 rfl (ct_silentBit (nI s.2.2.1) t) rfl (by decide) (by decide) (Nat.le_of_ble_eq_true rfl) dX7_enter_47 ?_
      refine R_land dX7_enter_50 ?_
      refine R_lconst (v := 0) dX7_enter_51 (by decide) ?_
      refine R_lcmp dX7_enter_52 ?_
      refine R_if_eq 69 dX7_enter_53 (by decide) (fun c53 => ?_) (fun c53 => ?_)
      · have e : pEn to s l t = pOp s t := by
          unfold pEn
          rw [if_neg h1, if_neg h2, if_pos (lg_eq0.1 c53)]
        rw [e]
        refine R_aload_0 dX7_enter_69 ?_
        refine R_iload_2 dX7_enter_70 ?_
        refine R_callV (T := mX7_enter) (T' := mX7_open) (As := [_]) (ci := 7) okX7_open mlX7_78 rfl (by decide) sh_4 (ct_open hC0 hP0 t) rfl (by decide) (by decide) (Nat.le_of_ble_eq_true rfl) dX7_enter_71 (fun v9 S9 V9 h9 => ?_) (fun E S9 V9 h9 => h9.elim)
        obtain ⟨rfl, rfl, u3, u4⟩ := h9
        refine R_vret rfl dX7_enter_74 (by first | exact ⟨rfl, rfl, u3, u4⟩ | exact ⟨rfl, rfl, hP0.tr _, FrP.tr⟩ | exact ⟨rfl, rfl, hP0.pl l _, FrP.row (by decide) (by decide)⟩)
      · have e : pEn to s l t = pMv s l (s.2.2.2.2.1 l + 2) := by
          unfold pEn
          rw [if_neg h1, if_neg h2, if_neg (fun q => c53 (lg_eq0.2 q))]
        rw [e]
        refine R_aload_0 dX7_enter_56 ?_
        refine gfX7_40 rfl dX7_enter_57 sh_4 k5 ?_
        refine R_iload_1 dX7_enter_60 ?_
        refine R_dup2_11 dX7_enter_61 rfl rfl ?_
        refine R_iald dX7_enter_62 sh_32 (vp_in_nI (by omega) (by decide)) (nI_clamp (by omega)) q2 ?_
        refine R_iconst (v := 2) dX7_enter_63 (by decide) ?_
        refine R_iadd dX7_enter_64 ?_
        refine R_iast dX7_enter_65 sh_32 (vp_in_nI (by omega) (by decide)) (nI_clamp (by omega)) ?_
        refine R_goto 74 dX7_enter_66 (by decide) ?_
        refine R_vret rfl dX7_enter_74 (by first | exact ⟨rfl, rfl, u3, u4⟩ | exact ⟨rfl, rfl, hP0.tr _, FrP.tr⟩ | exact ⟨rfl, rfl, hP0.pl l _, FrP.row (by decide) (by decide)⟩)
    · have e : pEn to s l t = pTr s 2 := by
        unfold pEn
        rw [if_neg h1, if_pos (Nat.le_of_not_lt (fun q => c24 (nI_lt (a := s.2.2.1) (b := 5) q (by decide))))]
      rw [e]
      refine R_aload_0 dX7_enter_27 ?_
      refine gfX7_32 rfl dX7_enter_28 sh_4 k3 ?_
      refine R_iconst (v := 2) dX7_enter_31 (by decide) ?_
      refine pfX7_63 rfl dX7_enter_32 sh_28 ?_
      refine R_goto 74 dX7_enter_35 (by decide) ?_
      refine R_vret rfl dX7_enter_74 (by first | exact ⟨rfl, rfl, u3, u4⟩ | exact ⟨rfl, rfl, hP0.tr _, FrP.tr⟩ | exact ⟨rfl, rfl, hP0.pl l _, FrP.row (by decide) (by decide)⟩)
  · have e : pEn to s l t = pTr s 1 := if_pos (bI_eq c5)
    rw [e]
    refine R_aload_0 dX7_enter_8 ?_
    refine gfX7_32 rfl dX7_enter_9 sh_4 k3 ?_
    refine R_iconst (v := 1) dX7_enter_12 (by decide) ?_
    refine pfX7_63 rfl dX7_enter_13 sh_28 ?_
    refine R_goto 74 dX7_enter_16 (by decide) ?_
    refine R_vret rfl dX7_enter_74 (by first | exact ⟨rfl, rfl, u3, u4⟩ | exact ⟨rfl, rfl, hP0.tr _, FrP.tr⟩ | exact ⟨rfl, rfl, hP0.pl l _, FrP.row (by decide) (by decide)⟩)

