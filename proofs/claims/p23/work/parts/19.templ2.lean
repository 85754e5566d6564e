/-! ===== Template: choices, parts, the whole ===== -/
/-- a jump written -/
theorem TR.jump {V : aV} {t : Nat} {L : List Int32} {p : Nat} {mks : List Nat} {jm : Nat → Option Nat} (h : TR V t L p mks jm) (m v : Nat) : TR (a_up V (t + 3) m (.int (nI v))) t L p mks (jSet jm m v) := by
  obtain ⟨h1, h2, h3, h4, h5, h6, h7⟩ := h
  have ht := h2.2.2.2
  have key : ∀ b, b ≠ t + 3 → a_up V (t + 3) m (.int (nI v)) b = V b := fun b a1 => a_up_row a1
  obtain ⟨l1, l2, l3, l4⟩ := h1
  refine ⟨⟨by rw [key 1 (by omega)]; exact l1, by rw [key 1 (by omega)]; exact l2, l3.frame (key 2 (by omega)) (key 3 (by omega)), l4⟩, h2, by rw [key t (by omega)]; exact h3, by rw [key t (by omega)]; exact h4, h5, fun i hi => by rw [key (t + 4) (by omega)]; exact h6 i hi, fun q u hq => ?_⟩
  unfold jSet at hq
  by_cases e : q = m
  · rw [if_pos e] at hq
    cases hq
    subst e
    exact a_up_self _ _ _ _
  · rw [if_neg e] at hq
    rw [a_up_ne (Or.inr e)]
    exact h7 q u hq
theorem FrT.jump {V : aV} {t m : Nat} {v : Value} : FrT t V (a_up V (t + 3) m v) := ⟨fun b _ _ a3 _ => a_up_row a3, fun k _ => a_up_ne (Or.inl (by omega))⟩
theorem FrT.mark {V : aV} {t m : Nat} {v : Value} : FrT t V (a_up V (t + 4) m v) := ⟨fun b _ _ _ a4 => a_up_row a4, fun k _ => a_up_ne (Or.inl (by omega))⟩
theorem FrT.opn {V : aV} {t : Nat} {v : Value} : FrT t V (a_up V t 3 v) := ⟨fun b _ a2 _ _ => a_up_row a2, fun k hk => a_up_ne (Or.inr hk)⟩
/-- the innermost mark becomes p -/
theorem TR.remark {V : aV} {t : Nat} {L : List Int32} {p m : Nat} {r : List Nat} {jm : Nat → Option Nat} (h : TR V t L p (m :: r) jm) (hp : p < L.length) : TR (atV (a_up V (t + 4) r.length (.int (nI p))) (p + 1)) t L (p + 1) (p :: r) jm := by
  obtain ⟨h1, h2, h3, h4, h5, h6, h7⟩ := h
  have ht := h2.2.2.2
  have key : ∀ b, b ≠ 1 → b ≠ t + 4 → atV (a_up V (t + 4) r.length (.int (nI p))) (p + 1) b = V b := fun b a1 a2 => (a_up_row a1).trans (a_up_row a2)
  obtain ⟨l1, l2, l3, l4⟩ := h1
  refine ⟨⟨(a_up_ne (Or.inr (by decide))).trans ((a_up_ne (Or.inl (by omega))).trans l1), a_up_self _ _ _ _, l3.frame (key 2 (by omega) (by omega)) (key 3 (by omega) (by omega)), hp⟩, h2, by rw [key t (by omega) (by omega)]; exact h3, by rw [key t (by omega) (by omega)]; exact h4, h5, fun i hi => ?_, fun q u hq => by rw [key (t + 3) (by omega) (by omega)]; exact h7 q u hq⟩
  have hi' : i < r.length + 1 := hi
  show atV (a_up V (t + 4) r.length (.int (nI p))) (p + 1) (t + 4) (r.length + 1 - 1 - i) = _ ∧ _
  unfold atV
  rw [a_up_ne (Or.inl (by omega))]
  cases i with
  | zero => exact ⟨by rw [show r.length + 1 - 1 - 0 = r.length by omega, a_up_self]; rfl, Nat.lt_succ_self p⟩
  | succ i =>
    rw [a_up_ne (Or.inr (by omega))]
    have h9 := h6 (i + 1) hi
    exact ⟨h9.1, Nat.lt_succ_of_lt h9.2⟩
/-- the innermost mark goes -/
theorem TR.pop {V : aV} {t : Nat} {L : List Int32} {p m : Nat} {r : List Nat} {jm : Nat → Option Nat} (h : TR V t L p (m :: r) jm) (hp : p < L.length) : TR (atV (a_up V t 3 (.int (nI r.length))) (p + 1)) t L (p + 1) r jm := by
  obtain ⟨h1, h2, h3, h4, h5, h6, h7⟩ := h
  have ht := h2.2.2.2
  have key : ∀ b, b ≠ 1 → b ≠ t → atV (a_up V t 3 (.int (nI r.length))) (p + 1) b = V b := fun b a1 a2 => (a_up_row a1).trans (a_up_row a2)
  have kt : ∀ k, k ≠ 3 → atV (a_up V t 3 (.int (nI r.length))) (p + 1) t k = V t k := fun k hk => (a_up_ne (Or.inl (by omega))).trans (a_up_ne (Or.inr hk))
  obtain ⟨l1, l2, l3, l4⟩ := h1
  have h5' : r.length + 1 ≤ 5 := h5
  refine ⟨⟨(a_up_ne (Or.inr (by decide))).trans ((a_up_ne (Or.inl (by omega))).trans l1), a_up_self _ _ _ _, l3.frame (key 2 (by omega) (by omega)) (key 3 (by omega) (by omega)), hp⟩, h2, ⟨(kt 0 (by decide)).trans h3.1, (kt 1 (by decide)).trans h3.2.1, (kt 2 (by decide)).trans h3.2.2⟩, (a_up_ne (Or.inl (by omega))).trans (a_up_self _ _ _ _), by omega, fun i hi => ?_, fun q u hq => by rw [key (t + 3) (by omega) (by omega)]; exact h7 q u hq⟩
  rw [key (t + 4) (by omega) (by omega)]
  have h9 := h6 (i + 1) (Nat.succ_lt_succ hi)
  have e : (m :: r).length - 1 - (i + 1) = r.length - 1 - i := by show r.length + 1 - 1 - (i + 1) = _; omega
  rw [e] at h9
  exact ⟨h9.1, Nat.lt_succ_of_lt h9.2⟩

set_option maxHeartbeats 4000000 in
theorem ct_jfm0 {V : aV} {t : Nat} {L : List Int32} {p : Nat} {jm : Nat → Option Nat} (h : TR V t L p [] jm) (c : Int32) : CT mX10_jumpFromMark 1 0 0 [.ref t, .ref 1, .int c] Sh V (aRet (some (.int 0)) Sh V) aNo := by
  refine CT_of (by decide +kernel) (Nat.le_of_ble_eq_true rfl) ?_
  show R _ _ _ _ _ _ _ _ 0 [some (.ref t), some (.ref 1), some (.int c), none] [] _ _
  have hT := h
  obtain ⟨h1, ⟨s1, s2, s3, ht⟩, ⟨f0, f1, f2⟩, h4, h5, h6, h7⟩ := h
  have hL := h1.len
  have hln := h1
  obtain ⟨l1, l2, l3, l4⟩ := h1
  have h40 : V t 3 = .int 0 := h4
  refine R_aload_0 dX10_jumpFromMark_0 ?_
  refine gfX10_33 rfl dX10_jumpFromMark_1 s1 h40 ?_
  refine R_if_le 15 dX10_jumpFromMark_4 (by decide) (fun c4 => ?_) (fun c4 => absurd (by decide) c4)
  refine R_iconst (v := 0) dX10_jumpFromMark_15 (by decide) ?_
  refine R_zret rfl (by first | rfl | assumption) dX10_jumpFromMark_16 ⟨rfl, rfl, rfl⟩

set_option maxHeartbeats 4000000 in
theorem ct_jfm1 {V : aV} {t : Nat} {L : List Int32} {p m : Nat} {r : List Nat} {jm : Nat → Option Nat} (h : TR V t L p (m :: r) jm) (c : Int32) : CT mX10_jumpFromMark 1 0 0 [.ref t, .ref 1, .int c] Sh V (BS (L.getD m 0 = c) Sh (a_up V (t + 3) m (.int (nI (p + 1)))) V) aNo := by
  refine CT_of (by decide +kernel) (Nat.le_of_ble_eq_true rfl) ?_
  show R _ _ _ _ _ _ _ _ 0 [some (.ref t), some (.ref 1), some (.int c), none] [] _ _
  have hT := h
  obtain ⟨h1, ⟨s1, s2, s3, ht⟩, ⟨f0, f1, f2⟩, h4, h5, h6, h7⟩ := h
  have hL := h1.len
  have hln := h1
  obtain ⟨l1, l2, l3, l4⟩ := h1
  have h4' : V t 3 = .int (nI (r.length + 1)) := h4
  have h5' : r.length + 1 ≤ 5 := h5
  have hm := h6 0 (Nat.succ_pos _)
  have hm1 : V (t + 4) r.length = .int (nI m) := hm.1
  have hm2 : m < p := hm.2
  have hb1 : ¬ nI (r.length + 1) ≤ 0 := nI_nle (Nat.succ_pos _) (by omega)
  have hb2 : nI (r.length + 1) ≤ 5 := nI_le (b := 5) (by omega) (by decide)
  have hb3 : ¬ nI m < 0 := nI_pos (by omega)
  have hb4 : ¬ (96 : Int32) ≤ nI m := nI_ge (a := m) (b := 96) (by omega) (by decide)
  refine R_aload_0 dX10_jumpFromMark_0 ?_
  refine gfX10_33 rfl dX10_jumpFromMark_1 s1 (by first | assumption | exact a_up_self _ _ _ _ | exact (a_up_ne (by omega)).trans (by assumption) | exact (a_up_ne (by omega)).trans (a_up_self _ _ _ _) | exact (a_up_ne (by omega)).trans ((a_up_ne (by omega)).trans (by assumption)) | exact (a_up_ne (by omega)).trans ((a_up_ne (by omega)).trans (a_up_self _ _ _ _)) | exact (a_up_ne (by omega)).trans ((a_up_ne (by omega)).trans ((a_up_ne (by omega)).trans (by assumption))) | exact (a_up_ne (by omega)).trans ((a_up_ne (by omega)).trans ((a_up_ne (by omega)).trans (a_up_self _ _ _ _))) | exact (a_up_ne (by omega)).trans ((a_up_ne (by omega)).trans ((a_up_ne (by omega)).trans ((a_up_ne (by omega)).trans (by assumption)))) | exact (a_up_ne (by omega)).trans ((a_up_ne (by omega)).trans ((a_up_ne (by omega)).trans ((a_up_ne (by omega)).trans (a_up_self _ _ _ _)))) | exact (a_up_ne (by omega)).trans ((a_up_ne (by omega)).trans ((a_up_ne (by omega)).trans ((a_up_ne (by omega)).trans ((a_up_ne (by omega)).trans (by assumption))))) | exact (a_up_ne (by omega)).trans ((a_up_ne (by omega)).trans ((a_up_ne (by omega)).trans ((a_up_ne (by omega)).trans ((a_up_ne (by omega)).trans (a_up_self _ _ _ _)))))) ?_
  refine R_if_le 15 dX10_jumpFromMark_4 (by decide) (fun c4 => absurd c4 hb1) (fun c4 => ?_)
  refine R_aload_0 dX10_jumpFromMark_7 ?_
  refine gfX10_33 rfl dX10_jumpFromMark_8 s1 (by first | assumption | exact a_up_self _ _ _ _ | exact (a_up_ne (by omega)).trans (by assumption) | exact (a_up_ne (by omega)).trans (a_up_self _ _ _ _) | exact (a_up_ne (by omega)).trans ((a_up_ne (by omega)).trans (by assumption)) | exact (a_up_ne (by omega)).trans ((a_up_ne (by omega)).trans (a_up_self _ _ _ _)) | exact (a_up_ne (by omega)).trans ((a_up_ne (by omega)).trans ((a_up_ne (by omega)).trans (by assumption))) | exact (a_up_ne (by omega)).trans ((a_up_ne (by omega)).trans ((a_up_ne (by omega)).trans (a_up_self _ _ _ _))) | exact (a_up_ne (by omega)).trans ((a_up_ne (by omega)).trans ((a_up_ne (by omega)).trans ((a_up_ne (by omega)).trans (by assumption)))) | exact (a_up_ne (by omega)).trans ((a_up_ne (by omega)).trans ((a_up_ne (by omega)).trans ((a_up_ne (by omega)).trans (a_up_self _ _ _ _)))) | exact (a_up_ne (by omega)).trans ((a_up_ne (by omega)).trans ((a_up_ne (by omega)).trans ((a_up_ne (by omega)).trans ((a_up_ne (by omega)).trans (by assumption))))) | exact (a_up_ne (by omega)).trans ((a_up_ne (by omega)).trans ((a_up_ne (by omega)).trans ((a_up_ne (by omega)).trans ((a_up_ne (by omega)).trans (a_up_self _ _ _ _)))))) ?_
  refine R_iconst (v := 5) dX10_jumpFromMark_11 (by decide) ?_
  refine R_icmp_le 17 dX10_jumpFromMark_12 (by decide) (fun c12 => ?_) (fun c12 => absurd hb2 c12)
  refine R_aload_0 dX10_jumpFromMark_17 ?_
  refine gfX10_24 rfl dX10_jumpFromMark_18 s1 (by first | assumption | exact a_up_self _ _ _ _ | exact (a_up_ne (by omega)).trans (by assumption) | exact (a_up_ne (by omega)).trans (a_up_self _ _ _ _) | exact (a_up_ne (by omega)).trans ((a_up_ne (by omega)).trans (by assumption)) | exact (a_up_ne (by omega)).trans ((a_up_ne (by omega)).trans (a_up_self _ _ _ _)) | exact (a_up_ne (by omega)).trans ((a_up_ne (by omega)).trans ((a_up_ne (by omega)).trans (by assumption))) | exact (a_up_ne (by omega)).trans ((a_up_ne (by omega)).trans ((a_up_ne (by omega)).trans (a_up_self _ _ _ _))) | exact (a_up_ne (by omega)).trans ((a_up_ne (by omega)).trans ((a_up_ne (by omega)).trans ((a_up_ne (by omega)).trans (by assumption)))) | exact (a_up_ne (by omega)).trans ((a_up_ne (by omega)).trans ((a_up_ne (by omega)).trans ((a_up_ne (by omega)).trans (a_up_self _ _ _ _)))) | exact (a_up_ne (by omega)).trans ((a_up_ne (by omega)).trans ((a_up_ne (by omega)).trans ((a_up_ne (by omega)).trans ((a_up_ne (by omega)).trans (by assumption))))) | exact (a_up_ne (by omega)).trans ((a_up_ne (by omega)).trans ((a_up_ne (by omega)).trans ((a_up_ne (by omega)).trans ((a_up_ne (by omega)).trans (a_up_self _ _ _ _)))))) ?_
  refine R_aload_0 dX10_jumpFromMark_21 ?_
  refine gfX10_33 rfl dX10_jumpFromMark_22 s1 (by first | assumption | exact a_up_self _ _ _ _ | exact (a_up_ne (by omega)).trans (by assumption) | exact (a_up_ne (by omega)).trans (a_up_self _ _ _ _) | exact (a_up_ne (by omega)).trans ((a_up_ne (by omega)).trans (by assumption)) | exact (a_up_ne (by omega)).trans ((a_up_ne (by omega)).trans (a_up_self _ _ _ _)) | exact (a_up_ne (by omega)).trans ((a_up_ne (by omega)).trans ((a_up_ne (by omega)).trans (by assumption))) | exact (a_up_ne (by omega)).trans ((a_up_ne (by omega)).trans ((a_up_ne (by omega)).trans (a_up_self _ _ _ _))) | exact (a_up_ne (by omega)).trans ((a_up_ne (by omega)).trans ((a_up_ne (by omega)).trans ((a_up_ne (by omega)).trans (by assumption)))) | exact (a_up_ne (by omega)).trans ((a_up_ne (by omega)).trans ((a_up_ne (by omega)).trans ((a_up_ne (by omega)).trans (a_up_self _ _ _ _)))) | exact (a_up_ne (by omega)).trans ((a_up_ne (by omega)).trans ((a_up_ne (by omega)).trans ((a_up_ne (by omega)).trans ((a_up_ne (by omega)).trans (by assumption))))) | exact (a_up_ne (by omega)).trans ((a_up_ne (by omega)).trans ((a_up_ne (by omega)).trans ((a_up_ne (by omega)).trans ((a_up_ne (by omega)).trans (a_up_self _ _ _ _)))))) ?_
  refine R_iconst (v := 1) dX10_jumpFromMark_25 (by decide) ?_
  refine R_isub dX10_jumpFromMark_26 ?_
  rw [nI_pred]
  refine R_iald dX10_jumpFromMark_27 s3 (vp_in_nI (by omega) (by decide)) (nI_clamp (by omega)) hm1 ?_
  refine R_istore_3 rfl (by decide) dX10_jumpFromMark_28 ?_
  refine R_iload_3 dX10_jumpFromMark_29 ?_
  refine R_if_lt 51 dX10_jumpFromMark_30 (by decide) (fun c30 => absurd c30 hb3) (fun c30 => ?_)
  refine R_iload_3 dX10_jumpFromMark_33 ?_
  refine R_bipush (v := 96) dX10_jumpFromMark_34 (by decide) ?_
  refine R_icmp_ge 51 dX10_jumpFromMark_36 (by decide) (fun c36 => absurd c36 hb4) (fun c36 => ?_)
  refine R_aload_1 dX10_jumpFromMark_39 ?_
  refine gfX10_44 rfl dX10_jumpFromMark_40 sh_1 (by first | assumption | exact a_up_self _ _ _ _ | exact (a_up_ne (by omega)).trans (by assumption) | exact (a_up_ne (by omega)).trans (a_up_self _ _ _ _) | exact (a_up_ne (by omega)).trans ((a_up_ne (by omega)).trans (by assumption)) | exact (a_up_ne (by omega)).trans ((a_up_ne (by omega)).trans (a_up_self _ _ _ _)) | exact (a_up_ne (by omega)).trans ((a_up_ne (by omega)).trans ((a_up_ne (by omega)).trans (by assumption))) | exact (a_up_ne (by omega)).trans ((a_up_ne (by omega)).trans ((a_up_ne (by omega)).trans (a_up_self _ _ _ _))) | exact (a_up_ne (by omega)).trans ((a_up_ne (by omega)).trans ((a_up_ne (by omega)).trans ((a_up_ne (by omega)).trans (by assumption)))) | exact (a_up_ne (by omega)).trans ((a_up_ne (by omega)).trans ((a_up_ne (by omega)).trans ((a_up_ne (by omega)).trans (a_up_self _ _ _ _)))) | exact (a_up_ne (by omega)).trans ((a_up_ne (by omega)).trans ((a_up_ne (by omega)).trans ((a_up_ne (by omega)).trans ((a_up_ne (by omega)).trans (by assumption))))) | exact (a_up_ne (by omega)).trans ((a_up_ne (by omega)).trans ((a_up_ne (by omega)).trans ((a_up_ne (by omega)).trans ((a_up_ne (by omega)).trans (a_up_self _ _ _ _)))))) ?_
  refine R_iload_3 dX10_jumpFromMark_43 ?_
  refine R_callVN_e (T := mX10_jumpFromMark) (T' := mX9_signAt) (As := [_]) (ci := 9) okX9_signAt mlX10_87 rfl (by decide) sh_2 (ct_signAtL l3 (nI m)) rfl (by decide) (by decide) (Nat.le_of_ble_eq_true rfl) dX10_jumpFromMark_44 ?_
  rw [lAt_nI (by omega)]
  refine R_iload_2 dX10_jumpFromMark_47 ?_
  refine R_icmp_eq 53 dX10_jumpFromMark_48 (by decide) (fun c48 => ?_) (fun c48 => ?_)
  · refine R_aload_0 dX10_jumpFromMark_53 ?_
    refine gfX10_20 rfl dX10_jumpFromMark_54 s1 (by first | assumption | exact a_up_self _ _ _ _ | exact (a_up_ne (by omega)).trans (by assumption) | exact (a_up_ne (by omega)).trans (a_up_self _ _ _ _) | exact (a_up_ne (by omega)).trans ((a_up_ne (by omega)).trans (by assumption)) | exact (a_up_ne (by omega)).trans ((a_up_ne (by omega)).trans (a_up_self _ _ _ _)) | exact (a_up_ne (by omega)).trans ((a_up_ne (by omega)).trans ((a_up_ne (by omega)).trans (by assumption))) | exact (a_up_ne (by omega)).trans ((a_up_ne (by omega)).trans ((a_up_ne (by omega)).trans (a_up_self _ _ _ _))) | exact (a_up_ne (by omega)).trans ((a_up_ne (by omega)).trans ((a_up_ne (by omega)).trans ((a_up_ne (by omega)).trans (by assumption)))) | exact (a_up_ne (by omega)).trans ((a_up_ne (by omega)).trans ((a_up_ne (by omega)).trans ((a_up_ne (by omega)).trans (a_up_self _ _ _ _)))) | exact (a_up_ne (by omega)).trans ((a_up_ne (by omega)).trans ((a_up_ne (by omega)).trans ((a_up_ne (by omega)).trans ((a_up_ne (by omega)).trans (by assumption))))) | exact (a_up_ne (by omega)).trans ((a_up_ne (by omega)).trans ((a_up_ne (by omega)).trans ((a_up_ne (by omega)).trans ((a_up_ne (by omega)).trans (a_up_self _ _ _ _)))))) ?_
    refine R_iload_3 dX10_jumpFromMark_57 ?_
    refine R_aload_1 dX10_jumpFromMark_58 ?_
    refine gfX10_27 rfl dX10_jumpFromMark_59 sh_1 (by first | assumption | exact a_up_self _ _ _ _ | exact (a_up_ne (by omega)).trans (by assumption) | exact (a_up_ne (by omega)).trans (a_up_self _ _ _ _) | exact (a_up_ne (by omega)).trans ((a_up_ne (by omega)).trans (by assumption)) | exact (a_up_ne (by omega)).trans ((a_up_ne (by omega)).trans (a_up_self _ _ _ _)) | exact (a_up_ne (by omega)).trans ((a_up_ne (by omega)).trans ((a_up_ne (by omega)).trans (by assumption))) | exact (a_up_ne (by omega)).trans ((a_up_ne (by omega)).trans ((a_up_ne (by omega)).trans (a_up_self _ _ _ _))) | exact (a_up_ne (by omega)).trans ((a_up_ne (by omega)).trans ((a_up_ne (by omega)).trans ((a_up_ne (by omega)).trans (by assumption)))) | exact (a_up_ne (by omega)).trans ((a_up_ne (by omega)).trans ((a_up_ne (by omega)).trans ((a_up_ne (by omega)).trans (a_up_self _ _ _ _)))) | exact (a_up_ne (by omega)).trans ((a_up_ne (by omega)).trans ((a_up_ne (by omega)).trans ((a_up_ne (by omega)).trans ((a_up_ne (by omega)).trans (by assumption))))) | exact (a_up_ne (by omega)).trans ((a_up_ne (by omega)).trans ((a_up_ne (by omega)).trans ((a_up_ne (by omega)).trans ((a_up_ne (by omega)).trans (a_up_self _ _ _ _)))))) ?_
    refine R_iconst (v := 1) dX10_jumpFromMark_62 (by decide) ?_
    refine R_iadd dX10_jumpFromMark_63 ?_
    rw [nI_1]
    refine R_iast dX10_jumpFromMark_64 s2 (vp_in_nI (by omega) (by decide)) (nI_clamp (by omega)) ?_
    refine R_iconst (v := 1) dX10_jumpFromMark_65 (by decide) ?_
    refine R_zret rfl (by first | rfl | assumption) dX10_jumpFromMark_66 ⟨rfl, Or.inl ⟨c48, rfl, rfl⟩⟩
  · refine R_iconst (v := 0) dX10_jumpFromMark_51 (by decide) ?_
    refine R_zret rfl (by first | rfl | assumption) dX10_jumpFromMark_52 ⟨rfl, Or.inr ⟨c48, rfl, rfl⟩⟩

set_option maxHeartbeats 4000000 in
theorem ct_turnChoice {V : aV} {t : Nat} {L : List Int32} {p : Nat} {mks : List Nat} {jm : Nat → Option Nat} (h : TR V t L p mks jm) (hp : p < L.length) (hc : L.getD p 0 = 124) : CT mX10_turnChoice 3 0 0 [.ref t, .ref 1] Sh V (RPost V t L (rTurn L p mks jm)) aNo := by
  cases mks with
  | nil =>
    refine CT_of (by decide +kernel) (Nat.le_of_ble_eq_true rfl) ?_
    show R _ _ _ _ _ _ _ _ 0 [some (.ref t), some (.ref 1)] [] _ _
    have s1 := h.2.1.1
    have e9 : rTurn L p [] jm = .inl p := rfl
    refine R_aload_0 dX10_turnChoice_0 ?_
    refine R_aload_1 dX10_turnChoice_1 ?_
    refine R_bipush (v := 91) dX10_turnChoice_2 (by decide) ?_
    refine R_callV_e (T := mX10_turnChoice) (T' := mX10_jumpFromMark) (As := [_, _]) (ci := 10) okX10_jumpFromMark mlX10_83 rfl (by decide) s1 (ct_jfm0 h 91) rfl (by decide) (by decide) (Nat.le_of_ble_eq_true rfl) dX10_turnChoice_4 ?_
    refine R_if_ne 12 dX10_turnChoice_7 (by decide) (fun c7 => absurd (by decide) c7) (fun c7 => ?_)
    refine R_iconst (v := 0) dX10_turnChoice_10 (by decide) ?_
    refine R_zret rfl (by first | rfl | assumption) dX10_turnChoice_11 (by rw [e9]; exact ⟨rfl, FrT.refl, rfl, h.1⟩)
  | cons m r =>
    refine CT_of (by decide +kernel) (Nat.le_of_ble_eq_true rfl) ?_
    show R _ _ _ _ _ _ _ _ 0 [some (.ref t), some (.ref 1)] [] _ _
    have hT := h
    obtain ⟨h1, ⟨s1, s2, s3, ht⟩, ⟨f0, f1, f2⟩, h4, h5, h6, h7⟩ := h
    have hL := h1.len
    have hln := h1
    have hJ := hT.jump m (p + 1)
    have h4' : V t 3 = .int (nI (r.length + 1)) := h4
    have h5' : r.length + 1 ≤ 5 := h5
    have k4 : a_up V (t + 3) m (.int (nI (p + 1))) t 3 = .int (nI (r.length + 1)) := (a_up_ne (Or.inl (by omega))).trans h4'
    have k1 : a_up V (t + 3) m (.int (nI (p + 1))) 1 1 = .int (nI p) := (a_up_ne (Or.inl (by omega))).trans h1.2.1
    have k2 : a_up V (t + 3) m (.int (nI (p + 1))) t 2 = .ref (t + 4) := (a_up_ne (Or.inl (by omega))).trans f2
    refine R_aload_0 dX10_turnChoice_0 ?_
    refine R_aload_1 dX10_turnChoice_1 ?_
    refine R_bipush (v := 91) dX10_turnChoice_2 (by decide) ?_
    refine R_callV (T := mX10_turnChoice) (T' := mX10_jumpFromMark) (As := [_, _]) (ci := 10) okX10_jumpFromMark mlX10_83 rfl (by decide) s1 (ct_jfm1 hT 91) rfl (by decide) (by decide) (Nat.le_of_ble_eq_true rfl) dX10_turnChoice_4 (fun v9 S9 V9 h9 => ?_) (fun E S9 V9 h9 => h9.elim)
    obtain ⟨rfl, h9⟩ := h9
    rcases h9 with ⟨hP, rfl, rfl⟩ | ⟨hP, rfl, rfl⟩
    · have e9 : rTurn L p (m :: r) jm = .inr (p + 1, p :: r, jSet jm m (p + 1)) := if_pos hP
      refine R_if_ne 12 dX10_turnChoice_7 (by decide) (fun c7 => ?_) (fun c7 => absurd c7 (by decide))
      refine R_aload_0 dX10_turnChoice_12 ?_
      refine gfX10_24 rfl dX10_turnChoice_13 s1 k2 ?_
      refine R_aload_0 dX10_turnChoice_16 ?_
      refine gfX10_33 rfl dX10_turnChoice_17 s1 k4 ?_
      refine R_iconst (v := 1) dX10_turnChoice_20 (by decide) ?_
      refine R_isub dX10_turnChoice_21 ?_
      refine R_aload_1 dX10_turnChoice_22 ?_
      refine gfX10_27 rfl dX10_turnChoice_23 sh_1 k1 ?_
      rw [nI_pred]
      refine R_iast dX10_turnChoice_26 s3 (vp_in_nI (by omega) (by decide)) (nI_clamp (by omega)) ?_
      refine R_aload_1 dX10_turnChoice_27 ?_
      refine R_bipush (v := 124) dX10_turnChoice_28 (by decide) ?_
      refine R_callVN_e (T := mX10_turnChoice) (T' := mX6_take) (As := [_]) (ci := 6) okX6_take mlX10_57 rfl (by decide) sh_1 (CT_mono (ct_take (show LN (a_up (a_up V (t + 3) m (.int (nI (p + 1)))) (t + 4) r.length (.int (nI p))) L p from ⟨(a_up_ne (Or.inl (by omega))).trans hJ.1.1, (a_up_ne (Or.inl (by omega))).trans hJ.1.2.1, hJ.1.2.2.1.frame (a_up_row (by omega)) (a_up_row (by omega)), hJ.1.2.2.2⟩) 124) (fun v S9 V9 q => (by rw [bI_t ⟨hp, hc⟩, if_pos ⟨hp, hc⟩] at q; exact q : aRet (some (.int 1)) Sh (atV (a_up (a_up V (t + 3) m (.int (nI (p + 1)))) (t + 4) r.length (.int (nI p))) (p + 1)) v S9 V9)) (fun _ _ _ q => q)) rfl (by decide) (by decide) (Nat.le_of_ble_eq_true rfl) dX10_turnChoice_30 ?_
      refine R_zret rfl (by first | rfl | assumption) dX10_turnChoice_33 (by rw [e9]; exact ⟨rfl, (FrT.jump.trans FrT.mark).trans (FrT.at ht), rfl, hJ.remark hp⟩)
    · have e9 : rTurn L p (m :: r) jm = .inl p := if_neg hP
      refine R_if_ne 12 dX10_turnChoice_7 (by decide) (fun c7 => absurd (by decide) c7) (fun c7 => ?_)
      refine R_iconst (v := 0) dX10_turnChoice_10 (by decide) ?_
      refine R_zret rfl (by first | rfl | assumption) dX10_turnChoice_11 (by rw [e9]; exact ⟨rfl, FrT.refl, rfl, hln⟩)
set_option maxHeartbeats 4000000 in
theorem ct_closeChoice {V : aV} {t : Nat} {L : List Int32} {p : Nat} {mks : List Nat} {jm : Nat → Option Nat} (h : TR V t L p mks jm) (hp : p < L.length) (hc : L.getD p 0 = 93) : CT mX10_closeChoice 3 0 0 [.ref t, .ref 1] Sh V (RPost V t L (rClose L p mks jm)) aNo := by
  cases mks with
  | nil =>
    refine CT_of (by decide +kernel) (Nat.le_of_ble_eq_true rfl) ?_
    show R _ _ _ _ _ _ _ _ 0 [some (.ref t), some (.ref 1)] [] _ _
    have s1 := h.2.1.1
    have e9 : rClose L p [] jm = .inl p := rfl
    refine R_aload_0 dX10_closeChoice_0 ?_
    refine R_aload_1 dX10_closeChoice_1 ?_
    refine R_bipush (v := 124) dX10_closeChoice_2 (by decide) ?_
    refine R_callV_e (T := mX10_closeChoice) (T' := mX10_jumpFromMark) (As := [_, _]) (ci := 10) okX10_jumpFromMark mlX10_83 rfl (by decide) s1 (ct_jfm0 h 124) rfl (by decide) (by decide) (Nat.le_of_ble_eq_true rfl) dX10_closeChoice_4 ?_
    refine R_if_ne 12 dX10_closeChoice_7 (by decide) (fun c7 => absurd (by decide) c7) (fun c7 => ?_)
    refine R_iconst (v := 0) dX10_closeChoice_10 (by decide) ?_
    refine R_zret rfl (by first | rfl | assumption) dX10_closeChoice_11 (by rw [e9]; exact ⟨rfl, FrT.refl, rfl, h.1⟩)
  | cons m r =>
    refine CT_of (by decide +kernel) (Nat.le_of_ble_eq_true rfl) ?_
    show R _ _ _ _ _ _ _ _ 0 [some (.ref t), some (.ref 1)] [] _ _
    have hT := h
    obtain ⟨h1, ⟨s1, s2, s3, ht⟩, ⟨f0, f1, f2⟩, h4, h5, h6, h7⟩ := h
    have hL := h1.len
    have hln := h1
    have hJ := hT.jump m (p + 1)
    have h4' : V t 3 = .int (nI (r.length + 1)) := h4
    have h5' : r.length + 1 ≤ 5 := h5
    have k4 : a_up V (t + 3) m (.int (nI (p + 1))) t 3 = .int (nI (r.length + 1)) := (a_up_ne (Or.inl (by omega))).trans h4'
    have k1 : a_up V (t + 3) m (.int (nI (p + 1))) 1 1 = .int (nI p) := (a_up_ne (Or.inl (by omega))).trans h1.2.1
    have k2 : a_up V (t + 3) m (.int (nI (p + 1))) t 2 = .ref (t + 4) := (a_up_ne (Or.inl (by omega))).trans f2
    refine R_aload_0 dX10_closeChoice_0 ?_
    refine R_aload_1 dX10_closeChoice_1 ?_
    refine R_bipush (v := 124) dX10_closeChoice_2 (by decide) ?_
    refine R_callV (T := mX10_closeChoice) (T' := mX10_jumpFromMark) (As := [_, _]) (ci := 10) okX10_jumpFromMark mlX10_83 rfl (by decide) s1 (ct_jfm1 hT 124) rfl (by decide) (by decide) (Nat.le_of_ble_eq_true rfl) dX10_closeChoice_4 (fun v9 S9 V9 h9 => ?_) (fun E S9 V9 h9 => h9.elim)
    obtain ⟨rfl, h9⟩ := h9
    rcases h9 with ⟨hP, rfl, rfl⟩ | ⟨hP, rfl, rfl⟩
    · have e9 : rClose L p (m :: r) jm = .inr (p + 1, r, jSet jm m (p + 1)) := if_pos hP
      refine R_if_ne 12 dX10_closeChoice_7 (by decide) (fun c7 => ?_) (fun c7 => absurd c7 (by decide))
      refine R_aload_0 dX10_closeChoice_12 ?_
      refine R_dup dX10_closeChoice_13 rfl ?_
      refine gfX10_33 rfl dX10_closeChoice_14 s1 k4 ?_
      refine R_iconst (v := 1) dX10_closeChoice_17 (by decide) ?_
      refine R_isub dX10_closeChoice_18 ?_
      rw [nI_pred]
      refine pfX10_33 rfl dX10_closeChoice_19 s1 ?_
      refine R_aload_1 dX10_closeChoice_22 ?_
      refine R_bipush (v := 93) dX10_closeChoice_23 (by decide) ?_
      refine R_callVN_e (T := mX10_closeChoice) (T' := mX6_take) (As := [_]) (ci := 6) okX6_take mlX10_57 rfl (by decide) sh_1 (CT_mono (ct_take (show LN (a_up (a_up V (t + 3) m (.int (nI (p + 1)))) t 3 (.int (nI r.length))) L p from ⟨(a_up_ne (Or.inl (by omega))).trans hJ.1.1, (a_up_ne (Or.inl (by omega))).trans hJ.1.2.1, hJ.1.2.2.1.frame (a_up_row (by omega)) (a_up_row (by omega)), hJ.1.2.2.2⟩) 93) (fun v S9 V9 q => (by rw [bI_t ⟨hp, hc⟩, if_pos ⟨hp, hc⟩] at q; exact q : aRet (some (.int 1)) Sh (atV (a_up (a_up V (t + 3) m (.int (nI (p + 1)))) t 3 (.int (nI r.length))) (p + 1)) v S9 V9)) (fun _ _ _ q => q)) rfl (by decide) (by decide) (Nat.le_of_ble_eq_true rfl) dX10_closeChoice_25 ?_
      refine R_zret rfl (by first | rfl | assumption) dX10_closeChoice_28 (by rw [e9]; exact ⟨rfl, (FrT.jump.trans FrT.opn).trans (FrT.at ht), rfl, hJ.pop hp⟩)
    · have e9 : rClose L p (m :: r) jm = .inl p := if_neg hP
      refine R_if_ne 12 dX10_closeChoice_7 (by decide) (fun c7 => absurd (by decide) c7) (fun c7 => ?_)
      refine R_iconst (v := 0) dX10_closeChoice_10 (by decide) ?_
      refine R_zret rfl (by first | rfl | assumption) dX10_closeChoice_11 (by rw [e9]; exact ⟨rfl, FrT.refl, rfl, hln⟩)
