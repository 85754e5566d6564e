/-! ===== Template: one part, the whole ===== -/
theorem RPost.of {V : aV} {t : Nat} {L : List Int32} {r r2 : RRes} {v : Option Value} {S' : aS} {V' : aV} (e : r2 = r) (h : RPost V t L r v S' V') : RPost V t L r2 v S' V' := by rw [e]; exact h
theorem RPost.bool {V : aV} {t : Nat} {L : List Int32} {r : RRes} {v : Option Value} {S' : aS} {V' : aV} (h : RPost V t L r v S' V') : Sh = S' ∧ ∃ P : Prop, ∃ _ : Decidable P, some (.int (bI P)) = v := by
  obtain ⟨h1, _, h3⟩ := h
  refine ⟨h1, ?_⟩
  cases r with
  | inl q => exact ⟨False, inferInstance, h3.1⟩
  | inr q => exact ⟨True, inferInstance, h3.1⟩

set_option maxHeartbeats 4000000 in
theorem ct_readPart {V : aV} {t : Nat} {L : List Int32} {p : Nat} {mks : List Nat} {jm : Nat → Option Nat} (h : TR V t L p mks jm) (hp : p < L.length) : CT mX10_readPart 6 0 0 [.ref t, .ref 1] Sh V (RPost V t L (rPart L p mks jm)) aNo := by
  refine CT_of (by decide +kernel) (Nat.le_of_ble_eq_true rfl) ?_
  show R _ _ _ _ _ _ _ _ 0 [some (.ref t), some (.ref 1), none] [] _ _
  have hT := h
  obtain ⟨h1, ⟨s1, s2, s3, ht⟩, ⟨f0, f1, f2⟩, h4, h5, h6, h7⟩ := h
  have hL := h1.len
  have hln := h1
  have hF0 : FrT t V V := FrT.refl
  obtain ⟨l1, l2, l3, l4⟩ := h1
  refine R_aload_1 dX10_readPart_0 ?_
  refine R_callVN_e (T := mX10_readPart) (T' := mX6_here) (As := []) (ci := 6) okX6_here mlX10_53 rfl (by decide) sh_1 (ct_here hln) rfl (by decide) (by decide) (Nat.le_of_ble_eq_true rfl) dX10_readPart_1 ?_
  refine R_istore_2 rfl (by decide) dX10_readPart_4 ?_
  refine R_iload_2 dX10_readPart_5 ?_
  refine R_bipush (v := 60) dX10_readPart_6 (by decide) ?_
  refine R_icmp_ne 41 dX10_readPart_8 (by decide) (fun c8 => ?_) (fun c8 => ?_)
  · refine R_iload_2 dX10_readPart_41 ?_
    refine R_bipush (v := 64) dX10_readPart_42 (by decide) ?_
    refine R_icmp_ne 70 dX10_readPart_44 (by decide) (fun c44 => ?_) (fun c44 => ?_)
    · refine R_iload_2 dX10_readPart_70 ?_
      refine R_bipush (v := 91) dX10_readPart_71 (by decide) ?_
      refine R_icmp_ne 82 dX10_readPart_73 (by decide) (fun c73 => ?_) (fun c73 => ?_)
      · refine R_iload_2 dX10_readPart_82 ?_
        refine R_bipush (v := 124) dX10_readPart_83 (by decide) ?_
        refine R_icmp_ne 94 dX10_readPart_85 (by decide) (fun c85 => ?_) (fun c85 => ?_)
        · refine R_iload_2 dX10_readPart_94 ?_
          refine R_bipush (v := 93) dX10_readPart_95 (by decide) ?_
          refine R_icmp_ne 106 dX10_readPart_97 (by decide) (fun c97 => ?_) (fun c97 => ?_)
          · refine R_aload_1 dX10_readPart_106 ?_
            refine R_iload_2 dX10_readPart_107 ?_
            refine R_callVN (T := mX10_readPart) (T' := mX6_take) (As := [_]) (ci := 6) okX6_take mlX10_57 rfl (by decide) sh_1 (ct_take2 hln (L.getD p 0)) rfl (by decide) (by decide) (Nat.le_of_ble_eq_true rfl) dX10_readPart_108 (fun v9 S9 V9 h9 => ?_) (fun E S9 V9 h9 => h9.elim)
            obtain ⟨rfl, h9⟩ := h9
            rcases h9 with ⟨hP, rfl, rfl⟩ | ⟨hP, rfl, rfl⟩
            · have e9 : rPart L p mks jm = .inr (p + 1, mks, jm) := by unfold rPart; rw [if_neg c8, if_neg c44, if_neg c73, if_neg c85, if_neg c97]
              refine R_zret rfl (by first | rfl | assumption) dX10_readPart_111 (by rw [e9]; exact ⟨rfl, FrT.at ht, rfl, hT.at (p + 1) hp (Nat.le_succ _)⟩)
            · exact absurd ⟨hp, rfl⟩ hP
          · refine R_aload_0 dX10_readPart_100 ?_
            refine R_aload_1 dX10_readPart_101 ?_
            have e9 : rPart L p mks jm = rClose L p mks jm := by unfold rPart; rw [if_neg c8, if_neg c44, if_neg c73, if_neg c85, if_pos c97]
            rw [e9]
            refine R_callV (T := mX10_readPart) (T' := mX10_closeChoice) (As := [_]) (ci := 10) okX10_closeChoice mlX10_73 rfl (by decide) s1 (ct_closeChoice hT hp c97) rfl (by decide) (by decide) (Nat.le_of_ble_eq_true rfl) dX10_readPart_102 (fun v9 S9 V9 h9 => ?_) (fun E S9 V9 h9 => h9.elim)
            obtain ⟨rfl, P9, i9, rfl⟩ := h9.bool
            exact R_zret rfl bI_nar dX10_readPart_105 h9
        · refine R_aload_0 dX10_readPart_88 ?_
          refine R_aload_1 dX10_readPart_89 ?_
          have e9 : rPart L p mks jm = rTurn L p mks jm := by unfold rPart; rw [if_neg c8, if_neg c44, if_neg c73, if_pos c85]
          rw [e9]
          refine R_callV (T := mX10_readPart) (T' := mX10_turnChoice) (As := [_]) (ci := 10) okX10_turnChoice mlX10_70 rfl (by decide) s1 (ct_turnChoice hT hp c85) rfl (by decide) (by decide) (Nat.le_of_ble_eq_true rfl) dX10_readPart_90 (fun v9 S9 V9 h9 => ?_) (fun E S9 V9 h9 => h9.elim)
          obtain ⟨rfl, P9, i9, rfl⟩ := h9.bool
          exact R_zret rfl bI_nar dX10_readPart_93 h9
      · refine R_aload_0 dX10_readPart_76 ?_
        refine R_aload_1 dX10_readPart_77 ?_
        have e9 : rPart L p mks jm = rOpen L p mks jm := by unfold rPart; rw [if_neg c8, if_neg c44, if_pos c73]
        rw [e9]
        refine R_callV (T := mX10_readPart) (T' := mX10_openChoice) (As := [_]) (ci := 10) okX10_openChoice mlX10_67 rfl (by decide) s1 (ct_openChoice hT hp c73) rfl (by decide) (by decide) (Nat.le_of_ble_eq_true rfl) dX10_readPart_78 (fun v9 S9 V9 h9 => ?_) (fun E S9 V9 h9 => h9.elim)
        obtain ⟨rfl, P9, i9, rfl⟩ := h9.bool
        exact R_zret rfl bI_nar dX10_readPart_81 h9
    · refine R_aload_1 dX10_readPart_47 ?_
      refine R_iload_2 dX10_readPart_48 ?_
      refine R_callVN (T := mX10_readPart) (T' := mX6_take) (As := [_]) (ci := 6) okX6_take mlX10_57 rfl (by decide) sh_1 (ct_take2 hln (L.getD p 0)) rfl (by decide) (by decide) (Nat.le_of_ble_eq_true rfl) dX10_readPart_49 (fun v9 S9 V9 h9 => ?_) (fun E S9 V9 h9 => h9.elim)
      obtain ⟨rfl, h9⟩ := h9
      rcases h9 with ⟨hP, rfl, rfl⟩ | ⟨hP, rfl, rfl⟩
      · have hT1 := hT.at (p + 1) hp (Nat.le_succ p)
        have hF1 := hF0.trans (FrT.at (p := p + 1) ht)
        refine R_if_eq 68 dX10_readPart_52 (by decide) (fun c52 => absurd c52 (by decide)) (fun c52 => ?_)
        refine R_aload_1 dX10_readPart_55 ?_
        refine R_bipush (v := 55) dX10_readPart_56 (by decide) ?_
        refine R_callVN (T := mX10_readPart) (T' := mX6_takeDigit) (As := [_]) (ci := 6) okX6_takeDigit mlX10_64 rfl (by decide) sh_1 (ct_takeDigit2 hT1.1 55) rfl (by decide) (by decide) (Nat.le_of_ble_eq_true rfl) dX10_readPart_58 (fun v9 S9 V9 h9 => ?_) (fun E S9 V9 h9 => h9.elim)
        obtain ⟨rfl, h9⟩ := h9
        rcases h9 with ⟨hQ, rfl, rfl⟩ | ⟨hQ, rfl, rfl⟩
        · have q2 := dg_lt l3 hQ
          have e9 : rPart L p mks jm = .inr (p + 2, mks, jm) := by unfold rPart; rw [if_neg c8, if_pos c44, if_pos hQ]
          refine R_if_eq 68 dX10_readPart_61 (by decide) (fun c61 => absurd c61 (by decide)) (fun c61 => ?_)
          refine R_iconst (v := 1) dX10_readPart_64 (by decide) ?_
          refine R_goto 69 dX10_readPart_65 (by decide) ?_
          refine R_zret rfl (by first | rfl | assumption) dX10_readPart_69 (by rw [e9]; exact ⟨rfl, hF1.trans (FrT.at ht), rfl, hT1.at (p + 2) q2 (Nat.le_succ _)⟩)
        · have e9 : rPart L p mks jm = .inl (p + 1) := by unfold rPart; rw [if_neg c8, if_pos c44, if_neg hQ]
          refine R_if_eq 68 dX10_readPart_61 (by decide) (fun c61 => ?_) (fun c61 => absurd rfl c61)
          refine R_iconst (v := 0) dX10_readPart_68 (by decide) ?_
          refine R_zret rfl (by first | rfl | assumption) dX10_readPart_69 (by rw [e9]; exact ⟨rfl, hF1, rfl, hT1.1⟩)
      · exact absurd ⟨hp, rfl⟩ hP
  · refine R_aload_1 dX10_readPart_11 ?_
    refine R_iload_2 dX10_readPart_12 ?_
    refine R_callVN (T := mX10_readPart) (T' := mX6_take) (As := [_]) (ci := 6) okX6_take mlX10_57 rfl (by decide) sh_1 (ct_take2 hln (L.getD p 0)) rfl (by decide) (by decide) (Nat.le_of_ble_eq_true rfl) dX10_readPart_13 (fun v9 S9 V9 h9 => ?_) (fun E S9 V9 h9 => h9.elim)
    obtain ⟨rfl, h9⟩ := h9
    rcases h9 with ⟨hP, rfl, rfl⟩ | ⟨hP, rfl, rfl⟩
    · have hT1 := hT.at (p + 1) hp (Nat.le_succ p)
      have hF1 := hF0.trans (FrT.at (p := p + 1) ht)
      refine R_if_eq 39 dX10_readPart_16 (by decide) (fun c16 => absurd c16 (by decide)) (fun c16 => ?_)
      refine R_aload_1 dX10_readPart_19 ?_
      refine R_callVN (T := mX10_readPart) (T' := mX6_takeField) (As := []) (ci := 6) okX6_takeField mlX10_61 rfl (by decide) sh_1 (ct_takeField2 hT1.1) rfl (by decide) (by decide) (Nat.le_of_ble_eq_true rfl) dX10_readPart_20 (fun v9 S9 V9 h9 => ?_) (fun E S9 V9 h9 => h9.elim)
      obtain ⟨rfl, h9⟩ := h9
      rcases h9 with ⟨hQ, rfl, rfl⟩ | ⟨hQ, rfl, rfl⟩
      · have q2 := fd_lt hQ
        have hT2 := hT1.at (p + 2) q2 (by omega)
        have hF2 := hF1.trans (FrT.at (p := p + 2) ht)
        refine R_if_eq 39 dX10_readPart_23 (by decide) (fun c23 => absurd c23 (by decide)) (fun c23 => ?_)
        refine R_aload_1 dX10_readPart_26 ?_
        refine R_bipush (v := 62) dX10_readPart_27 (by decide) ?_
        refine R_callVN (T := mX10_readPart) (T' := mX6_take) (As := [_]) (ci := 6) okX6_take mlX10_57 rfl (by decide) sh_1 (ct_take2 hT2.1 62) rfl (by decide) (by decide) (Nat.le_of_ble_eq_true rfl) dX10_readPart_29 (fun v9 S9 V9 h9 => ?_) (fun E S9 V9 h9 => h9.elim)
        obtain ⟨rfl, h9⟩ := h9
        rcases h9 with ⟨hU, rfl, rfl⟩ | ⟨hU, rfl, rfl⟩
        · have e9 : rPart L p mks jm = .inr (p + 3, mks, jm) := by unfold rPart; rw [if_pos c8, if_neg (not_not_intro hQ), if_pos hU]
          refine R_if_eq 39 dX10_readPart_32 (by decide) (fun c32 => absurd c32 (by decide)) (fun c32 => ?_)
          refine R_iconst (v := 1) dX10_readPart_35 (by decide) ?_
          refine R_goto 40 dX10_readPart_36 (by decide) ?_
          refine R_zret rfl (by first | rfl | assumption) dX10_readPart_40 (by rw [e9]; exact ⟨rfl, hF2.trans (FrT.at ht), rfl, hT2.at (p + 3) hU.1 (Nat.le_succ _)⟩)
        · have e9 : rPart L p mks jm = .inl (p + 2) := by unfold rPart; rw [if_pos c8, if_neg (not_not_intro hQ), if_neg hU]
          refine R_if_eq 39 dX10_readPart_32 (by decide) (fun c32 => ?_) (fun c32 => absurd rfl c32)
          refine R_iconst (v := 0) dX10_readPart_39 (by decide) ?_
          refine R_zret rfl (by first | rfl | assumption) dX10_readPart_40 (by rw [e9]; exact ⟨rfl, hF2, rfl, hT2.1⟩)
      · have e9 : rPart L p mks jm = .inl (p + 1) := by unfold rPart; rw [if_pos c8, if_pos hQ]
        refine R_if_eq 39 dX10_readPart_23 (by decide) (fun c23 => ?_) (fun c23 => absurd rfl c23)
        refine R_iconst (v := 0) dX10_readPart_39 (by decide) ?_
        refine R_zret rfl (by first | rfl | assumption) dX10_readPart_40 (by rw [e9]; exact ⟨rfl, hF1, rfl, hT1.1⟩)
    · exact absurd ⟨hp, rfl⟩ hP

set_option maxHeartbeats 4000000 in
theorem ct_jumpAt {S : aS} {V : aV} {t q n : Nat} (hS : (S.1 t).1 = 10) (hJ : S.1 (t + 3) = (14, 96)) (h1 : V t 1 = .ref (t + 3)) (hq : q < 96) (hv : V (t + 3) q = .int (nI n)) : CT mX10_jumpAt 0 0 0 [.ref t, .int (nI q)] S V (aRet (some (.int (nI n))) S V) aNo := by
  refine CT_of (by decide +kernel) (Nat.le_of_ble_eq_true rfl) ?_
  show R _ _ _ _ _ _ _ _ 0 [some (.ref t), some (.int (nI q))] [] _ _
  refine R_iload_1 dX10_jumpAt_0 ?_
  refine R_if_lt 19 dX10_jumpAt_1 (by decide) (fun c1 => absurd c1 (nI_pos (by omega))) (fun c1 => ?_)
  refine R_iload_1 dX10_jumpAt_4 ?_
  refine R_bipush (v := 96) dX10_jumpAt_5 (by decide) ?_
  refine R_icmp_ge 19 dX10_jumpAt_7 (by decide) (fun c7 => absurd c7 (nI_ge (a := q) (b := 96) (by omega) (by omega))) (fun c7 => ?_)
  refine R_aload_0 dX10_jumpAt_10 ?_
  refine gfX10_20 rfl dX10_jumpAt_11 hS (by first | assumption | exact a_up_self _ _ _ _ | exact (a_up_ne (by omega)).trans (by assumption) | exact (a_up_ne (by omega)).trans (a_up_self _ _ _ _) | exact (a_up_ne (by omega)).trans ((a_up_ne (by omega)).trans (by assumption)) | exact (a_up_ne (by omega)).trans ((a_up_ne (by omega)).trans (a_up_self _ _ _ _)) | exact (a_up_ne (by omega)).trans ((a_up_ne (by omega)).trans ((a_up_ne (by omega)).trans (by assumption))) | exact (a_up_ne (by omega)).trans ((a_up_ne (by omega)).trans ((a_up_ne (by omega)).trans (a_up_self _ _ _ _))) | exact (a_up_ne (by omega)).trans ((a_up_ne (by omega)).trans ((a_up_ne (by omega)).trans ((a_up_ne (by omega)).trans (by assumption)))) | exact (a_up_ne (by omega)).trans ((a_up_ne (by omega)).trans ((a_up_ne (by omega)).trans ((a_up_ne (by omega)).trans (a_up_self _ _ _ _)))) | exact (a_up_ne (by omega)).trans ((a_up_ne (by omega)).trans ((a_up_ne (by omega)).trans ((a_up_ne (by omega)).trans ((a_up_ne (by omega)).trans (by assumption))))) | exact (a_up_ne (by omega)).trans ((a_up_ne (by omega)).trans ((a_up_ne (by omega)).trans ((a_up_ne (by omega)).trans ((a_up_ne (by omega)).trans (a_up_self _ _ _ _)))))) ?_
  refine R_iload_1 dX10_jumpAt_14 ?_
  refine R_iald dX10_jumpAt_15 hJ (vp_in_nI (by omega) (by decide)) (nI_clamp (by omega)) hv ?_
  refine R_goto 21 dX10_jumpAt_16 (by decide) ?_
  refine R_iret rfl dX10_jumpAt_21 ⟨rfl, rfl, rfl⟩

/-- the parts, one after another -/
noncomputable def rAll (L : List Int32) : Nat → Nat → List Nat → (Nat → Option Nat) → RRes
  | 0, p, mks, jm => .inr (p, mks, jm)
  | m + 1, p, mks, jm => if L.length ≤ p then .inr (p, mks, jm) else match rPart L p mks jm with
    | .inl p' => .inl p'
    | .inr r => rAll L m r.1 r.2.1 r.2.2
theorem rAll_end {L : List Int32} {m p : Nat} {mks : List Nat} {jm : Nat → Option Nat} (h : L.length ≤ p) : rAll L m p mks jm = .inr (p, mks, jm) := by cases m with | zero => rfl | succ m => exact if_pos h
theorem rAll_l {L : List Int32} {m p p' : Nat} {mks : List Nat} {jm : Nat → Option Nat} (h : ¬ L.length ≤ p) (e : rPart L p mks jm = .inl p') : rAll L (m + 1) p mks jm = .inl p' := by
  show (if L.length ≤ p then _ else _) = _
  rw [if_neg h, e]
theorem rAll_r {L : List Int32} {m p : Nat} {mks : List Nat} {jm : Nat → Option Nat} {r : Nat × List Nat × (Nat → Option Nat)} (h : ¬ L.length ≤ p) (e : rPart L p mks jm = .inr r) : rAll L (m + 1) p mks jm = rAll L m r.1 r.2.1 r.2.2 := by
  show (if L.length ≤ p then _ else _) = _
  rw [if_neg h, e]

set_option maxHeartbeats 4000000 in
theorem rd_loop {mc ms kc ks : Nat} {V0 : aV} {t : Nat} {L : List Int32} : ∀ (m j p : Nat) (mks : List Nat) (jm : Nat → Option Nat) (V : aV), j + m = 96 → TR V t L p mks jm → FrT t V0 V → ∀ {Q : Option Value → aS → aV → Prop} {QX : String → aS → aV → Prop},
    (∀ p' V', rAll L m p mks jm = .inl p' → FrT t V0 V' → LN V' L p' → Q (some (.int 0)) Sh V') →
    (∀ p' mks' jm' V', rAll L m p mks jm = .inr (p', mks', jm') → FrT t V0 V' → TR V' t L p' mks' jm' → R mX10_read 7 mc ms Q QX kc ks 41 [some (.ref t), some (.ref 1), none] [] Sh V') →
    R mX10_read 7 mc ms Q QX kc ks 12 [some (.ref t), some (.ref 1), some (.int (nI j))] [] Sh V := by
  intro m
  induction m with
  | zero =>
    intro j p mks jm V hj hT hF Q QX hQ0 hQ1
    have ej : nI j = 96 := by rw [show j = 96 by omega]; rfl
    refine R_iload_2 dX10_read_12 ?_
    refine R_bipush (v := 96) dX10_read_13 (by decide) ?_
    refine R_icmp_ge 41 dX10_read_15 (by decide) (fun c15 => ?_) (fun c15 => absurd (by rw [ej]; decide) c15)
    refine R_drop_2 ?_
    exact hQ1 _ _ _ _ rfl hF hT
  | succ m ih =>
    intro j p mks jm V hj hT hF Q QX hQ0 hQ1
    have s1 := hT.2.1.1
    have hL := hT.1.len
    have hj9 : ¬ (96 : Int32) ≤ nI j := nI_ge (a := j) (b := 96) (by omega) (by omega)
    refine R_iload_2 dX10_read_12 ?_
    refine R_bipush (v := 96) dX10_read_13 (by decide) ?_
    refine R_icmp_ge 41 dX10_read_15 (by decide) (fun c15 => absurd c15 hj9) (fun c15 => ?_)
    refine R_aload_1 dX10_read_18 ?_
    refine R_callVN_e (T := mX10_read) (T' := mX6_atEnd) (As := []) (ci := 6) okX6_atEnd mlX10_36 rfl (by decide) sh_1 (ct_atEnd hT.1) rfl (by decide) (by decide) (Nat.le_of_ble_eq_true rfl) dX10_read_19 ?_
    refine R_if_ne 41 dX10_read_22 (by decide) (fun c22 => ?_) (fun c22 => ?_)
    · refine R_drop_2 ?_
      exact hQ1 _ _ _ _ (rAll_end (bI_ne c22)) hF hT
    · have hp : p < L.length := Nat.lt_of_not_le (bI_eq c22)
      refine R_aload_0 dX10_read_25 ?_
      refine R_aload_1 dX10_read_26 ?_
      refine R_callV (T := mX10_read) (T' := mX10_readPart) (As := [_]) (ci := 10) okX10_readPart mlX10_40 rfl (by decide) s1 (ct_readPart hT hp) rfl (by decide) (by decide) (Nat.le_of_ble_eq_true rfl) dX10_read_27 (fun v9 S9 V9 h9 => ?_) (fun E S9 V9 h9 => h9.elim)
      obtain ⟨rfl, hF9, h9⟩ := h9
      generalize e9 : rPart L p mks jm = r9 at h9
      cases r9 with
      | inl p' =>
        obtain ⟨rfl, hl9⟩ := h9
        refine R_if_ne 35 dX10_read_30 (by decide) (fun c30 => absurd c30 (by decide)) (fun c30 => ?_)
        refine R_iconst (v := 0) dX10_read_33 (by decide) ?_
        exact R_zret rfl (by rfl) dX10_read_34 (hQ0 _ _ (rAll_l (Nat.not_le_of_lt hp) e9) (hF.trans hF9) hl9)
      | inr r9 =>
        obtain ⟨rfl, hT9⟩ := h9
        refine R_if_ne 35 dX10_read_30 (by decide) (fun c30 => ?_) (fun c30 => absurd c30 (by decide))
        refine R_iinc_2 rfl (by decide) dX10_read_35 rfl ?_
        refine R_goto 12 dX10_read_38 (by decide) ?_
        rw [show nI j + Int32.ofInt 1 = nI (j + 1) from nI_1 j]
        refine ih (j + 1) _ _ _ _ (by omega) hT9 (hF.trans hF9) (fun p2 V2 e2 => hQ0 p2 V2 ?_) (fun p2 m2 j2 V2 e2 => hQ1 p2 m2 j2 V2 ?_)
        · rw [rAll_r (Nat.not_le_of_lt hp) e9]; exact e2
        · rw [rAll_r (Nat.not_le_of_lt hp) e9]; exact e2
/-- the line between the calls -/
def LI (V : aV) (L : List Int32) : Prop := V 1 0 = .ref 2 ∧ SL Sh V 2 96 L
theorem LI.start {V : aV} {L : List Int32} (h : LI V L) : LN (atV V 0) L 0 := ⟨(a_up_ne (Or.inr (by decide))).trans h.1, a_up_self _ _ _ _, h.2.frame (a_up_row (by decide)) (a_up_row (by decide)), Nat.zero_le _⟩
theorem LN.li {V : aV} {L : List Int32} {p : Nat} (h : LN V L p) : LI V L := ⟨h.1, h.2.2.1⟩
/-- a template as it lies -/
def TS (V : aV) (t : Nat) (A : List Int32) : Prop := ((Sh.1 t).1 = 10 ∧ Sh.1 (t + 3) = (14, 96) ∧ Sh.1 (t + 4) = (14, 5) ∧ 3 < t) ∧ (V t 0 = .ref (t + 1) ∧ V t 1 = .ref (t + 3) ∧ V t 2 = .ref (t + 4)) ∧ SL Sh V (t + 1) 96 A
def RdPost (V : aV) (t : Nat) (L : List Int32) (res : RRes) : Option Value → aS → aV → Prop := fun v S' V' => Sh = S' ∧ (∀ b, b ≠ 1 → b ≠ t → b ≠ t + 1 → b ≠ t + 2 → b ≠ t + 3 → b ≠ t + 4 → V' b = V b) ∧ match res with
  | .inl p' => some (.int 0) = v ∧ LN V' L p' ∧ (∀ k, k ≠ 3 → V' t k = V t k) ∧ V' (t + 1) = V (t + 1) ∧ V' (t + 2) = V (t + 2)
  | .inr r => some (.int (bI (r.2.1.length = 0))) = v ∧ LN V' L r.1 ∧ TS V' t L ∧ V' t 4 = .int (bI (r.2.1.length = 0)) ∧ ∀ q u, r.2.2 q = some u → V' (t + 3) q = .int (nI u)

set_option maxHeartbeats 4000000 in
theorem ct_tread {V : aV} {t : Nat} {L A : List Int32} (h : TS V t A) (hl : LI V L) : CT mX10_read 7 0 0 [.ref t, .ref 1] Sh V (RdPost V t L (rAll L 96 0 [] (fun _ => none))) aNo := by
  refine CT_of (by decide +kernel) (Nat.le_of_ble_eq_true rfl) ?_
  show R _ _ _ _ _ _ _ _ 0 [some (.ref t), some (.ref 1), none] [] _ _
  have hTS := h
  obtain ⟨⟨s1, s2, s3, ht⟩, ⟨f0, f1, f2⟩, hsl⟩ := h
  obtain ⟨l1, l3⟩ := hl
  have hL : 0 ≤ L.length ∧ L.length ≤ 96 := ⟨Nat.zero_le _, l3.len⟩
  have hV2 : TR (a_up (atV V 0) t 3 (.int 0)) t L 0 [] (fun _ => none) := ⟨⟨(a_up_ne (Or.inl (by omega))).trans ((a_up_ne (Or.inr (by decide))).trans l1), (a_up_ne (Or.inl (by omega))).trans (a_up_self _ _ _ _), l3.frame ((a_up_row (by omega)).trans (a_up_row (by decide))) ((a_up_row (by omega)).trans (a_up_row (by decide))), Nat.zero_le _⟩, ⟨s1, s2, s3, ht⟩, ⟨(a_up_ne (Or.inr (by decide))).trans ((a_up_ne (Or.inl (by omega))).trans f0), (a_up_ne (Or.inr (by decide))).trans ((a_up_ne (Or.inl (by omega))).trans f1), (a_up_ne (Or.inr (by decide))).trans ((a_up_ne (Or.inl (by omega))).trans f2)⟩, a_up_self _ _ _ _, Nat.zero_le _, fun i hi => absurd hi (Nat.not_lt_zero i), fun q v hq => nomatch hq⟩
  have hF2 : FrT t V (a_up (atV V 0) t 3 (.int 0)) := (FrT.at (p := 0) ht).trans FrT.opn
  refine R_aload_1 dX10_read_0 ?_
  refine R_iconst (v := 0) dX10_read_1 (by decide) ?_
  refine pfX10_27 rfl dX10_read_2 sh_1 ?_
  refine R_aload_0 dX10_read_5 ?_
  refine R_iconst (v := 0) dX10_read_6 (by decide) ?_
  refine pfX10_33 rfl dX10_read_7 s1 ?_
  refine R_iconst (v := 0) dX10_read_10 (by decide) ?_
  refine R_istore_2 rfl (by decide) dX10_read_11 ?_
  show R mX10_read 7 0 0 _ aNo 0 0 12 [some (.ref t), some (.ref 1), some (.int (nI 0))] [] Sh (a_up (atV V 0) t 3 (.int 0))
  refine rd_loop 96 0 0 [] (fun _ => none) _ rfl hV2 hF2 (fun p9 V9 e9 hF9 hl9 => ?_) (fun p9 m9 j9 V9 e9 hF9 hT9 => ?_)
  · rw [e9]
    exact ⟨rfl, fun b a1 a2 _ _ a3 a4 => hF9.1 b a1 a2 a3 a4, rfl, hl9, hF9.2, hF9.1 _ (by omega) (by omega) (by omega) (by omega), hF9.1 _ (by omega) (by omega) (by omega) (by omega)⟩
  rw [e9]
  have hs9 : SL Sh V9 (t + 1) 96 A := hsl.frame (hF9.1 _ (by omega) (by omega) (by omega) (by omega)) (hF9.1 _ (by omega) (by omega) (by omega) (by omega))
  obtain ⟨g1, g2, g3, g4, g5, g6, g7⟩ := hT9
  have g10 : V9 1 0 = .ref 2 := g1.1
  have gl := g1.2.2.1
  have g0 := g3.1
  refine R_aload_0 dX10_read_41 ?_
  refine gfX10_14 rfl dX10_read_42 s1 g0 ?_
  refine R_aload_1 dX10_read_45 ?_
  refine gfX10_44 rfl dX10_read_46 sh_1 g10 ?_
  refine R_callVN (T := mX10_read) (T' := mX9_become) (As := [_]) (ci := 9) okX9_become mlX10_45 rfl (by decide) hs9.1 (ct_become rfl hs9 gl (by omega) (by omega)) rfl (by decide) (by decide) (Nat.le_of_ble_eq_true rfl) dX10_read_49 (fun v8 S8 V8 h9 => ?_) (fun E S9 V9 h9 => h9.elim)
  obtain ⟨rfl, rfl, u3, u4⟩ := h9
  have u5 : V8 t 3 = .int (nI m9.length) := (congrFun (u4 t (by omega) (by omega)) 3).trans g4
  rw [List.take_of_length_le hL.2] at u3
  refine R_aload_0 dX10_read_52 ?_
  refine R_aload_0 dX10_read_53 ?_
  refine gfX10_33 rfl dX10_read_54 s1 u5 ?_
  refine R_if_ne 64 dX10_read_57 (by decide) (fun c57 => ?_) (fun c57 => ?_)
  · have hb9 : bI (m9.length = 0) = 0 := bI_f (fun z => c57 (by rw [z]; rfl))
    refine R_iconst (v := 0) dX10_read_64 (by decide) ?_
    refine pfX10_49 rfl dX10_read_65 s1 rfl rfl ?_
    refine R_aload_0 dX10_read_68 ?_
    refine gfX10_49 rfl dX10_read_69 s1 (a_up_self _ _ _ _) ?_
    refine R_zret rfl (by first | rfl | assumption) dX10_read_72 (by
  have hb : bI (m9.length = 0) = _ := hb9
  refine ⟨rfl, fun b a1 a2 a3 a4 a5 a6 => (a_up_row a2).trans ((u4 b a3 a4).trans (hF9.1 b a1 a2 a5 a6)), by rw [hb], ?_, ⟨⟨s1, s2, s3, ht⟩, ⟨(a_up_ne (Or.inr (by decide))).trans ((congrFun (u4 t (by omega) (by omega)) 0).trans g3.1), (a_up_ne (Or.inr (by decide))).trans ((congrFun (u4 t (by omega) (by omega)) 1).trans g3.2.1), (a_up_ne (Or.inr (by decide))).trans ((congrFun (u4 t (by omega) (by omega)) 2).trans g3.2.2)⟩, u3.frame (a_up_row (by omega)) (a_up_row (by omega))⟩, by rw [hb]; exact a_up_self _ _ _ _, fun q u hq => (a_up_ne (Or.inl (by omega))).trans ((congrFun (u4 (t + 3) (by omega) (by omega)) q).trans (g7 q u hq))⟩
  exact ⟨(a_up_ne (Or.inl (by omega))).trans ((congrFun (u4 1 (by omega) (by omega)) 0).trans g1.1), (a_up_ne (Or.inl (by omega))).trans ((congrFun (u4 1 (by omega) (by omega)) 1).trans g1.2.1), (gl.fr u4 (by omega) (by omega) (by omega)).frame (a_up_row (by omega)) (a_up_row (by omega)), g1.2.2.2⟩)
  · have hb9 : bI (m9.length = 0) = 1 := bI_t (nI_z (by omega) (by rw [c57]; exact Int32.le_refl _))
    refine R_iconst (v := 1) dX10_read_60 (by decide) ?_
    refine R_goto 65 dX10_read_61 (by decide) ?_
    refine pfX10_49 rfl dX10_read_65 s1 rfl rfl ?_
    refine R_aload_0 dX10_read_68 ?_
    refine gfX10_49 rfl dX10_read_69 s1 (a_up_self _ _ _ _) ?_
    refine R_zret rfl (by first | rfl | assumption) dX10_read_72 (by
  have hb : bI (m9.length = 0) = _ := hb9
  refine ⟨rfl, fun b a1 a2 a3 a4 a5 a6 => (a_up_row a2).trans ((u4 b a3 a4).trans (hF9.1 b a1 a2 a5 a6)), by rw [hb], ?_, ⟨⟨s1, s2, s3, ht⟩, ⟨(a_up_ne (Or.inr (by decide))).trans ((congrFun (u4 t (by omega) (by omega)) 0).trans g3.1), (a_up_ne (Or.inr (by decide))).trans ((congrFun (u4 t (by omega) (by omega)) 1).trans g3.2.1), (a_up_ne (Or.inr (by decide))).trans ((congrFun (u4 t (by omega) (by omega)) 2).trans g3.2.2)⟩, u3.frame (a_up_row (by omega)) (a_up_row (by omega))⟩, by rw [hb]; exact a_up_self _ _ _ _, fun q u hq => (a_up_ne (Or.inl (by omega))).trans ((congrFun (u4 (t + 3) (by omega) (by omega)) q).trans (g7 q u hq))⟩
  exact ⟨(a_up_ne (Or.inl (by omega))).trans ((congrFun (u4 1 (by omega) (by omega)) 0).trans g1.1), (a_up_ne (Or.inl (by omega))).trans ((congrFun (u4 1 (by omega) (by omega)) 1).trans g1.2.1), (gl.fr u4 (by omega) (by omega) (by omega)).frame (a_up_row (by omega)) (a_up_row (by omega)), g1.2.2.2⟩)

