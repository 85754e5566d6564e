/-! ===== Line ===== -/
def bI (P : Prop) [Decidable P] : Int32 := if P then 1 else 0
theorem bI_t {P : Prop} [Decidable P] (h : P) : bI P = 1 := if_pos h
theorem bI_f {P : Prop} [Decidable P] (h : ¬ P) : bI P = 0 := if_neg h
theorem bI_nar {P : Prop} [Decidable P] : narrow .boolean (.int (bI P)) = .int (bI P) := by
  by_cases h : P
  · rw [bI_t h]; rfl
  · rw [bI_f h]; rfl
theorem bI_ne {P : Prop} [Decidable P] (h : ¬ bI P = 0) : P := Classical.byContradiction fun q => h (bI_f q)
theorem bI_eq {P : Prop} [Decidable P] (h : bI P = 0) : ¬ P := fun q => by rw [bI_t q] at h; exact absurd h (by decide)
theorem a_up_up {V : aV} {a k : Nat} {v u : Value} : a_up (a_up V a k v) a k u = a_up V a k u := by
  funext b j
  unfold a_up
  by_cases h : b = a ∧ j = k
  · rw [if_pos h, if_pos h]
  · rw [if_neg h, if_neg h, if_neg h]
theorem a_up_id {V : aV} {a k : Nat} {v : Value} (h : V a k = v) : a_up V a k v = V := by
  funext b j
  unfold a_up
  by_cases q : b = a ∧ j = k
  · rw [if_pos q, q.1, q.2, h]
  · rw [if_neg q]
/-- the line holds L, read as far as p -/
def LN (V : aV) (L : List Int32) (p : Nat) : Prop := V 1 0 = .ref 2 ∧ V 1 1 = .int (nI p) ∧ SL Sh V 2 96 L ∧ p ≤ L.length
/-- the reader stands at p -/
def atV (V : aV) (p : Nat) : aV := a_up V 1 1 (.int (nI p))
theorem atV_atV {V : aV} {p q : Nat} : atV (atV V p) q = atV V q := a_up_up
theorem LN.at {V : aV} {L : List Int32} {p : Nat} (h : LN V L p) (q : Nat) (hq : q ≤ L.length) : LN (atV V q) L q :=
  ⟨(a_up_ne (Or.inr (by decide))).trans h.1, a_up_self _ _ _ _, h.2.2.1.frame (a_up_row (by decide)) (a_up_row (by decide)), hq⟩
theorem LN.same {V : aV} {L : List Int32} {p : Nat} (h : LN V L p) : atV V p = V := a_up_id h.2.1
theorem LN.len {V : aV} {L : List Int32} {p : Nat} (h : LN V L p) : p ≤ L.length ∧ L.length ≤ 96 := ⟨h.2.2.2, h.2.2.1.len⟩
theorem lAt_nI {L : List Int32} {p : Nat} (hp : p < 2 ^ 31) : lAt L (nI p) = L.getD p 0 := by
  unfold lAt sAt
  rw [nI_toInt hp, nI_clamp hp]
  by_cases h : p < L.length
  · rw [if_pos (by omega)]
  · rw [if_neg (by omega)]
    simp [List.getD_eq_getElem?_getD, Nat.le_of_not_lt h]
theorem SL.getD {S : aS} {V : aV} {s cap : Nat} {L : List Int32} (h : SL S V s cap L) (p : Nat) : 0 ≤ (L.getD p 0).toInt ∧ (L.getD p 0).toInt < 65536 := by
  by_cases e : p < L.length
  · exact h.2.2.2.2.2.2.2 p e
  · have : L.getD p 0 = 0 := by simp [List.getD_eq_getElem?_getD, Nat.le_of_not_lt e]
    rw [this]; decide
abbrev isDg (c hi : Int32) : Prop := 48 ≤ c ∧ c ≤ hi


set_option maxHeartbeats 4000000 in
theorem ct_here {V : aV} {L : List Int32} {p : Nat} (h : LN V L p) : CT mX6_here 1 0 0 [.ref 1] Sh V (aRet (some (.int (L.getD p 0))) Sh V) aNo := by
  refine CT_of (by decide +kernel) (Nat.le_of_ble_eq_true rfl) ?_
  show R _ _ _ _ _ _ _ _ 0 [some (.ref 1)] [] _ _
  have hh := h
  obtain ⟨h1, h2, h3, h4⟩ := h
  have hlen := h3.len
  have hl1 := h3.len1
  refine R_aload_0 dX6_here_0 ?_
  refine gfX6_14 rfl dX6_here_1 sh_1 (by first | assumption | exact a_up_self _ _ _ _ | exact (a_up_ne (by omega)).trans (by assumption) | exact (a_up_ne (by omega)).trans (a_up_self _ _ _ _) | exact (a_up_ne (by omega)).trans ((a_up_ne (by omega)).trans (by assumption)) | exact (a_up_ne (by omega)).trans ((a_up_ne (by omega)).trans (a_up_self _ _ _ _)) | exact (a_up_ne (by omega)).trans ((a_up_ne (by omega)).trans ((a_up_ne (by omega)).trans (by assumption))) | exact (a_up_ne (by omega)).trans ((a_up_ne (by omega)).trans ((a_up_ne (by omega)).trans (a_up_self _ _ _ _))) | exact (a_up_ne (by omega)).trans ((a_up_ne (by omega)).trans ((a_up_ne (by omega)).trans ((a_up_ne (by omega)).trans (by assumption)))) | exact (a_up_ne (by omega)).trans ((a_up_ne (by omega)).trans ((a_up_ne (by omega)).trans ((a_up_ne (by omega)).trans (a_up_self _ _ _ _)))) | exact (a_up_ne (by omega)).trans ((a_up_ne (by omega)).trans ((a_up_ne (by omega)).trans ((a_up_ne (by omega)).trans ((a_up_ne (by omega)).trans (by assumption))))) | exact (a_up_ne (by omega)).trans ((a_up_ne (by omega)).trans ((a_up_ne (by omega)).trans ((a_up_ne (by omega)).trans ((a_up_ne (by omega)).trans (a_up_self _ _ _ _)))))) ?_
  refine R_aload_0 dX6_here_4 ?_
  refine gfX6_24 rfl dX6_here_5 sh_1 (by first | assumption | exact a_up_self _ _ _ _ | exact (a_up_ne (by omega)).trans (by assumption) | exact (a_up_ne (by omega)).trans (a_up_self _ _ _ _) | exact (a_up_ne (by omega)).trans ((a_up_ne (by omega)).trans (by assumption)) | exact (a_up_ne (by omega)).trans ((a_up_ne (by omega)).trans (a_up_self _ _ _ _)) | exact (a_up_ne (by omega)).trans ((a_up_ne (by omega)).trans ((a_up_ne (by omega)).trans (by assumption))) | exact (a_up_ne (by omega)).trans ((a_up_ne (by omega)).trans ((a_up_ne (by omega)).trans (a_up_self _ _ _ _))) | exact (a_up_ne (by omega)).trans ((a_up_ne (by omega)).trans ((a_up_ne (by omega)).trans ((a_up_ne (by omega)).trans (by assumption)))) | exact (a_up_ne (by omega)).trans ((a_up_ne (by omega)).trans ((a_up_ne (by omega)).trans ((a_up_ne (by omega)).trans (a_up_self _ _ _ _)))) | exact (a_up_ne (by omega)).trans ((a_up_ne (by omega)).trans ((a_up_ne (by omega)).trans ((a_up_ne (by omega)).trans ((a_up_ne (by omega)).trans (by assumption))))) | exact (a_up_ne (by omega)).trans ((a_up_ne (by omega)).trans ((a_up_ne (by omega)).trans ((a_up_ne (by omega)).trans ((a_up_ne (by omega)).trans (a_up_self _ _ _ _)))))) ?_
  refine R_callVN_e (T := mX6_here) (T' := mX9_signAt) (As := [_]) (ci := 9) okX9_signAt mlX6_27 rfl (by decide) sh_2 (ct_signAtL h3 (nI p)) rfl (by decide) (by decide) (Nat.le_of_ble_eq_true rfl) dX6_here_8 ?_
  rw [lAt_nI (by omega)]
  refine R_zret rfl (narc_of (h3.getD p)) dX6_here_11 ⟨rfl, rfl, rfl⟩

set_option maxHeartbeats 4000000 in
theorem ct_atEnd {V : aV} {L : List Int32} {p : Nat} (h : LN V L p) : CT mX6_atEnd 0 0 0 [.ref 1] Sh V (aRet (some (.int (bI (L.length ≤ p)))) Sh V) aNo := by
  refine CT_of (by decide +kernel) (Nat.le_of_ble_eq_true rfl) ?_
  show R _ _ _ _ _ _ _ _ 0 [some (.ref 1)] [] _ _
  have hh := h
  obtain ⟨h1, h2, h3, h4⟩ := h
  have hlen := h3.len
  have hl1 := h3.len1
  refine R_aload_0 dX6_atEnd_0 ?_
  refine gfX6_24 rfl dX6_atEnd_1 sh_1 (by first | assumption | exact a_up_self _ _ _ _ | exact (a_up_ne (by omega)).trans (by assumption) | exact (a_up_ne (by omega)).trans (a_up_self _ _ _ _) | exact (a_up_ne (by omega)).trans ((a_up_ne (by omega)).trans (by assumption)) | exact (a_up_ne (by omega)).trans ((a_up_ne (by omega)).trans (a_up_self _ _ _ _)) | exact (a_up_ne (by omega)).trans ((a_up_ne (by omega)).trans ((a_up_ne (by omega)).trans (by assumption))) | exact (a_up_ne (by omega)).trans ((a_up_ne (by omega)).trans ((a_up_ne (by omega)).trans (a_up_self _ _ _ _))) | exact (a_up_ne (by omega)).trans ((a_up_ne (by omega)).trans ((a_up_ne (by omega)).trans ((a_up_ne (by omega)).trans (by assumption)))) | exact (a_up_ne (by omega)).trans ((a_up_ne (by omega)).trans ((a_up_ne (by omega)).trans ((a_up_ne (by omega)).trans (a_up_self _ _ _ _)))) | exact (a_up_ne (by omega)).trans ((a_up_ne (by omega)).trans ((a_up_ne (by omega)).trans ((a_up_ne (by omega)).trans ((a_up_ne (by omega)).trans (by assumption))))) | exact (a_up_ne (by omega)).trans ((a_up_ne (by omega)).trans ((a_up_ne (by omega)).trans ((a_up_ne (by omega)).trans ((a_up_ne (by omega)).trans (a_up_self _ _ _ _)))))) ?_
  refine R_aload_0 dX6_atEnd_4 ?_
  refine gfX6_14 rfl dX6_atEnd_5 sh_1 (by first | assumption | exact a_up_self _ _ _ _ | exact (a_up_ne (by omega)).trans (by assumption) | exact (a_up_ne (by omega)).trans (a_up_self _ _ _ _) | exact (a_up_ne (by omega)).trans ((a_up_ne (by omega)).trans (by assumption)) | exact (a_up_ne (by omega)).trans ((a_up_ne (by omega)).trans (a_up_self _ _ _ _)) | exact (a_up_ne (by omega)).trans ((a_up_ne (by omega)).trans ((a_up_ne (by omega)).trans (by assumption))) | exact (a_up_ne (by omega)).trans ((a_up_ne (by omega)).trans ((a_up_ne (by omega)).trans (a_up_self _ _ _ _))) | exact (a_up_ne (by omega)).trans ((a_up_ne (by omega)).trans ((a_up_ne (by omega)).trans ((a_up_ne (by omega)).trans (by assumption)))) | exact (a_up_ne (by omega)).trans ((a_up_ne (by omega)).trans ((a_up_ne (by omega)).trans ((a_up_ne (by omega)).trans (a_up_self _ _ _ _)))) | exact (a_up_ne (by omega)).trans ((a_up_ne (by omega)).trans ((a_up_ne (by omega)).trans ((a_up_ne (by omega)).trans ((a_up_ne (by omega)).trans (by assumption))))) | exact (a_up_ne (by omega)).trans ((a_up_ne (by omega)).trans ((a_up_ne (by omega)).trans ((a_up_ne (by omega)).trans ((a_up_ne (by omega)).trans (a_up_self _ _ _ _)))))) ?_
  refine gfX6_20 rfl dX6_atEnd_8 sh_2 (by first | assumption | exact a_up_self _ _ _ _ | exact (a_up_ne (by omega)).trans (by assumption) | exact (a_up_ne (by omega)).trans (a_up_self _ _ _ _) | exact (a_up_ne (by omega)).trans ((a_up_ne (by omega)).trans (by assumption)) | exact (a_up_ne (by omega)).trans ((a_up_ne (by omega)).trans (a_up_self _ _ _ _)) | exact (a_up_ne (by omega)).trans ((a_up_ne (by omega)).trans ((a_up_ne (by omega)).trans (by assumption))) | exact (a_up_ne (by omega)).trans ((a_up_ne (by omega)).trans ((a_up_ne (by omega)).trans (a_up_self _ _ _ _))) | exact (a_up_ne (by omega)).trans ((a_up_ne (by omega)).trans ((a_up_ne (by omega)).trans ((a_up_ne (by omega)).trans (by assumption)))) | exact (a_up_ne (by omega)).trans ((a_up_ne (by omega)).trans ((a_up_ne (by omega)).trans ((a_up_ne (by omega)).trans (a_up_self _ _ _ _)))) | exact (a_up_ne (by omega)).trans ((a_up_ne (by omega)).trans ((a_up_ne (by omega)).trans ((a_up_ne (by omega)).trans ((a_up_ne (by omega)).trans (by assumption))))) | exact (a_up_ne (by omega)).trans ((a_up_ne (by omega)).trans ((a_up_ne (by omega)).trans ((a_up_ne (by omega)).trans ((a_up_ne (by omega)).trans (a_up_self _ _ _ _)))))) ?_
  refine R_icmp_lt 18 dX6_atEnd_11 (by decide) (fun c11 => ?_) (fun c11 => ?_)
  · refine R_iconst (v := 0) dX6_atEnd_18 (by decide) ?_
    refine R_zret rfl (by first | rfl | assumption) dX6_atEnd_19 ⟨by first | (rw [bI_f (fun q => absurd c11 (nI_nlt q (by omega)))]) | (rw [bI_t (Nat.le_of_not_lt fun q => c11 (nI_lt q (by omega)))]), rfl, rfl⟩
  · refine R_iconst (v := 1) dX6_atEnd_14 (by decide) ?_
    refine R_goto 19 dX6_atEnd_15 (by decide) ?_
    refine R_zret rfl (by first | rfl | assumption) dX6_atEnd_19 ⟨by first | (rw [bI_f (fun q => absurd c11 (nI_nlt q (by omega)))]) | (rw [bI_t (Nat.le_of_not_lt fun q => c11 (nI_lt q (by omega)))]), rfl, rfl⟩

set_option maxHeartbeats 4000000 in
theorem ct_takeIf {V : aV} {L : List Int32} {p : Nat} (h : LN V L p) (P : Prop) [Decidable P] : CT mX6_takeIf 0 0 0 [.ref 1, .int (bI P)] Sh V (aRet (some (.int (bI P))) Sh (if P then atV V (p + 1) else V)) aNo := by
  refine CT_of (by decide +kernel) (Nat.le_of_ble_eq_true rfl) ?_
  show R _ _ _ _ _ _ _ _ 0 [some (.ref 1), some (.int (bI P))] [] _ _
  have hh := h
  obtain ⟨h1, h2, h3, h4⟩ := h
  have hlen := h3.len
  have hl1 := h3.len1
  refine R_iload_1 dX6_takeIf_0 ?_
  refine R_if_eq 14 dX6_takeIf_1 (by decide) (fun c1 => ?_) (fun c1 => ?_)
  · refine R_iload_1 dX6_takeIf_14 ?_
    refine R_zret rfl bI_nar dX6_takeIf_15 ⟨rfl, rfl, by first | (rw [if_neg (bI_eq c1)]) | (rw [if_pos (bI_ne c1)]; rfl)⟩
  · refine R_aload_0 dX6_takeIf_4 ?_
    refine R_dup dX6_takeIf_5 rfl ?_
    refine gfX6_24 rfl dX6_takeIf_6 sh_1 (by first | assumption | exact a_up_self _ _ _ _ | exact (a_up_ne (by omega)).trans (by assumption) | exact (a_up_ne (by omega)).trans (a_up_self _ _ _ _) | exact (a_up_ne (by omega)).trans ((a_up_ne (by omega)).trans (by assumption)) | exact (a_up_ne (by omega)).trans ((a_up_ne (by omega)).trans (a_up_self _ _ _ _)) | exact (a_up_ne (by omega)).trans ((a_up_ne (by omega)).trans ((a_up_ne (by omega)).trans (by assumption))) | exact (a_up_ne (by omega)).trans ((a_up_ne (by omega)).trans ((a_up_ne (by omega)).trans (a_up_self _ _ _ _))) | exact (a_up_ne (by omega)).trans ((a_up_ne (by omega)).trans ((a_up_ne (by omega)).trans ((a_up_ne (by omega)).trans (by assumption)))) | exact (a_up_ne (by omega)).trans ((a_up_ne (by omega)).trans ((a_up_ne (by omega)).trans ((a_up_ne (by omega)).trans (a_up_self _ _ _ _)))) | exact (a_up_ne (by omega)).trans ((a_up_ne (by omega)).trans ((a_up_ne (by omega)).trans ((a_up_ne (by omega)).trans ((a_up_ne (by omega)).trans (by assumption))))) | exact (a_up_ne (by omega)).trans ((a_up_ne (by omega)).trans ((a_up_ne (by omega)).trans ((a_up_ne (by omega)).trans ((a_up_ne (by omega)).trans (a_up_self _ _ _ _)))))) ?_
    refine R_iconst (v := 1) dX6_takeIf_9 (by decide) ?_
    refine R_iadd dX6_takeIf_10 ?_
    rw [nI_1]
    refine pfX6_24 rfl dX6_takeIf_11 sh_1 ?_
    refine R_iload_1 dX6_takeIf_14 ?_
    refine R_zret rfl bI_nar dX6_takeIf_15 ⟨rfl, rfl, by first | (rw [if_neg (bI_eq c1)]) | (rw [if_pos (bI_ne c1)]; rfl)⟩

theorem ct_takeIfb {V : aV} {L : List Int32} {p : Nat} (h : LN V L p) {P : Prop} [Decidable P] {b : Int32} (hb : b = bI P) : CT mX6_takeIf 0 0 0 [.ref 1, .int b] Sh V (aRet (some (.int (bI P))) Sh (if P then atV V (p + 1) else V)) aNo := by
  subst hb; exact ct_takeIf h P
set_option maxHeartbeats 4000000 in
theorem ct_isDigit {S : aS} {V : aV} (c hi : Int32) [Decidable (isDg c hi)] : CT mX11_isDigit 0 0 0 [.int c, .int hi] S V (aRet (some (.int (bI (isDg c hi)))) S V) aNo := by
  refine CT_of (by decide +kernel) (Nat.le_of_ble_eq_true rfl) ?_
  show R _ _ _ _ _ _ _ _ 0 [some (.int c), some (.int hi)] [] _ _
  refine R_iload_0 dX11_isDigit_0 ?_
  refine R_bipush (v := 48) dX11_isDigit_1 (by decide) ?_
  refine R_icmp_lt 15 dX11_isDigit_3 (by decide) (fun c3 => ?_) (fun c3 => ?_)
  · have hP : ¬ isDg c hi := by first | exact fun q => absurd q.1 (Int32.not_le.mpr c3) | exact fun q => absurd q.2 (Int32.not_le.mpr c8)
    refine R_iconst (v := 0) dX11_isDigit_15 (by decide) ?_
    refine R_zret rfl (by first | rfl | assumption) dX11_isDigit_16 ⟨by first | (rw [bI_t hP]) | (rw [bI_f hP]), rfl, rfl⟩
  · refine R_iload_0 dX11_isDigit_6 ?_
    refine R_iload_1 dX11_isDigit_7 ?_
    refine R_icmp_gt 15 dX11_isDigit_8 (by decide) (fun c8 => ?_) (fun c8 => ?_)
    · have hP : ¬ isDg c hi := by first | exact fun q => absurd q.1 (Int32.not_le.mpr c3) | exact fun q => absurd q.2 (Int32.not_le.mpr c8)
      refine R_iconst (v := 0) dX11_isDigit_15 (by decide) ?_
      refine R_zret rfl (by first | rfl | assumption) dX11_isDigit_16 ⟨by first | (rw [bI_t hP]) | (rw [bI_f hP]), rfl, rfl⟩
    · have hP : isDg c hi := ⟨Int32.not_lt.mp c3, Int32.not_lt.mp c8⟩
      refine R_iconst (v := 1) dX11_isDigit_11 (by decide) ?_
      refine R_goto 16 dX11_isDigit_12 (by decide) ?_
      refine R_zret rfl (by first | rfl | assumption) dX11_isDigit_16 ⟨by first | (rw [bI_t hP]) | (rw [bI_f hP]), rfl, rfl⟩

set_option maxHeartbeats 4000000 in
theorem ct_take {V : aV} {L : List Int32} {p : Nat} (h : LN V L p) (c : Int32) : CT mX6_take 2 0 0 [.ref 1, .int c] Sh V (aRet (some (.int (bI (p < L.length ∧ L.getD p 0 = c)))) Sh (if p < L.length ∧ L.getD p 0 = c then atV V (p + 1) else V)) aNo := by
  refine CT_of (by decide +kernel) (Nat.le_of_ble_eq_true rfl) ?_
  show R _ _ _ _ _ _ _ _ 0 [some (.ref 1), some (.int c)] [] _ _
  have hh := h
  obtain ⟨h1, h2, h3, h4⟩ := h
  have hlen := h3.len
  have hl1 := h3.len1
  refine R_aload_0 dX6_take_0 ?_
  refine R_aload_0 dX6_take_1 ?_
  refine R_callV_e (T := mX6_take) (T' := mX6_atEnd) (As := []) (ci := 6) okX6_atEnd mlX6_31 rfl (by decide) sh_1 (ct_atEnd hh) rfl (by decide) (by decide) (Nat.le_of_ble_eq_true rfl) dX6_take_2 ?_
  refine R_if_ne 20 dX6_take_5 (by decide) (fun c5 => ?_) (fun c5 => ?_)
  · have hP : ¬ (p < L.length ∧ L.getD p 0 = c) := by first | exact fun q => c13 q.2 | exact fun q => absurd q.1 (Nat.not_lt.mpr (bI_ne c5))
    have eP : (0 : Int32) = bI (p < L.length ∧ L.getD p 0 = c) := (bI_f hP).symm
    refine R_iconst (v := 0) dX6_take_20 (by decide) ?_
    refine R_callV_e (T := mX6_take) (T' := mX6_takeIf) (As := [_]) (ci := 6) okX6_takeIf mlX6_39 rfl (by decide) sh_1 (ct_takeIfb hh eP) rfl (by decide) (by decide) (Nat.le_of_ble_eq_true rfl) dX6_take_21 ?_
    refine R_zret rfl bI_nar dX6_take_24 ⟨rfl, rfl, rfl⟩
  · refine R_aload_0 dX6_take_8 ?_
    refine R_callV_e (T := mX6_take) (T' := mX6_here) (As := []) (ci := 6) okX6_here mlX6_35 rfl (by decide) sh_1 (ct_here hh) rfl (by decide) (by decide) (Nat.le_of_ble_eq_true rfl) dX6_take_9 ?_
    refine R_iload_1 dX6_take_12 ?_
    refine R_icmp_ne 20 dX6_take_13 (by decide) (fun c13 => ?_) (fun c13 => ?_)
    · have hP : ¬ (p < L.length ∧ L.getD p 0 = c) := by first | exact fun q => c13 q.2 | exact fun q => absurd q.1 (Nat.not_lt.mpr (bI_ne c5))
      have eP : (0 : Int32) = bI (p < L.length ∧ L.getD p 0 = c) := (bI_f hP).symm
      refine R_iconst (v := 0) dX6_take_20 (by decide) ?_
      refine R_callV_e (T := mX6_take) (T' := mX6_takeIf) (As := [_]) (ci := 6) okX6_takeIf mlX6_39 rfl (by decide) sh_1 (ct_takeIfb hh eP) rfl (by decide) (by decide) (Nat.le_of_ble_eq_true rfl) dX6_take_21 ?_
      refine R_zret rfl bI_nar dX6_take_24 ⟨rfl, rfl, rfl⟩
    · have hP : p < L.length ∧ L.getD p 0 = c := ⟨Nat.lt_of_not_le (bI_eq c5), c13⟩
      have eP : (1 : Int32) = bI (p < L.length ∧ L.getD p 0 = c) := (bI_t hP).symm
      refine R_iconst (v := 1) dX6_take_16 (by decide) ?_
      refine R_goto 21 dX6_take_17 (by decide) ?_
      refine R_callV_e (T := mX6_take) (T' := mX6_takeIf) (As := [_]) (ci := 6) okX6_takeIf mlX6_39 rfl (by decide) sh_1 (ct_takeIfb hh eP) rfl (by decide) (by decide) (Nat.le_of_ble_eq_true rfl) dX6_take_21 ?_
      refine R_zret rfl bI_nar dX6_take_24 ⟨rfl, rfl, rfl⟩

set_option maxHeartbeats 4000000 in
theorem ct_takeDigit {V : aV} {L : List Int32} {p : Nat} (h : LN V L p) (hi : Int32) [Decidable (isDg (L.getD p 0) hi)] : CT mX6_takeDigit 2 0 0 [.ref 1, .int hi] Sh V (aRet (some (.int (bI (isDg (L.getD p 0) hi)))) Sh (if isDg (L.getD p 0) hi then atV V (p + 1) else V)) aNo := by
  refine CT_of (by decide +kernel) (Nat.le_of_ble_eq_true rfl) ?_
  show R _ _ _ _ _ _ _ _ 0 [some (.ref 1), some (.int hi)] [] _ _
  have hh := h
  obtain ⟨h1, h2, h3, h4⟩ := h
  have hlen := h3.len
  have hl1 := h3.len1
  refine R_aload_0 dX6_takeDigit_0 ?_
  refine R_aload_0 dX6_takeDigit_1 ?_
  refine R_callV_e (T := mX6_takeDigit) (T' := mX6_here) (As := []) (ci := 6) okX6_here mlX6_35 rfl (by decide) sh_1 (ct_here hh) rfl (by decide) (by decide) (Nat.le_of_ble_eq_true rfl) dX6_takeDigit_2 ?_
  refine R_iload_1 dX6_takeDigit_5 ?_
  refine R_callSN_e (T := mX6_takeDigit) (T' := mX11_isDigit) (As := [_, _]) okX11_isDigit mlX6_43 (ct_isDigit (L.getD p 0) hi) rfl (by decide) (by decide) (Nat.le_of_ble_eq_true rfl) dX6_takeDigit_6 ?_
  refine R_callV_e (T := mX6_takeDigit) (T' := mX6_takeIf) (As := [_]) (ci := 6) okX6_takeIf mlX6_39 rfl (by decide) sh_1 (ct_takeIf hh (isDg (L.getD p 0) hi)) rfl (by decide) (by decide) (Nat.le_of_ble_eq_true rfl) dX6_takeDigit_9 ?_
  refine R_zret rfl bI_nar dX6_takeDigit_12 ⟨rfl, rfl, rfl⟩

abbrev isFd (c : Int32) : Prop := 0 ≤ fIx c
abbrev isRl (c : Int32) : Prop := c = 61 ∨ c = 60 ∨ c = 62
set_option maxHeartbeats 4000000 in
theorem ct_takeField {V : aV} {L : List Int32} {p : Nat} (h : LN V L p) [Decidable (isFd (L.getD p 0))] : CT mX6_takeField 4 0 0 [.ref 1] Sh V (aRet (some (.int (bI (isFd (L.getD p 0))))) Sh (if isFd (L.getD p 0) then atV V (p + 1) else V)) aNo := by
  refine CT_of (by decide +kernel) (Nat.le_of_ble_eq_true rfl) ?_
  show R _ _ _ _ _ _ _ _ 0 [some (.ref 1)] [] _ _
  have hh := h
  obtain ⟨h1, h2, h3, h4⟩ := h
  have hlen := h3.len
  have hl1 := h3.len1
  have hch := h3.getD p
  have hc0 : ¬ L.getD p 0 < 0 := fun q => by have := i32_lt0 q; omega
  refine R_aload_0 dX6_takeField_0 ?_
  refine R_ldcF srX6_47 dX6_takeField_1 ?_
  refine R_aload_0 dX6_takeField_3 ?_
  refine R_callV_e (T := mX6_takeField) (T' := mX6_here) (As := []) (ci := 6) okX6_here mlX6_35 rfl (by decide) sh_1 (ct_here hh) rfl (by decide) (by decide) (Nat.le_of_ble_eq_true rfl) dX6_takeField_4 ?_
  refine R_callVT_e (T' := mJ0_indexOf_0f7a4) (As := [_]) okJ0_indexOf_0f7a4 rfl mlX6_49 (ct_indexOf _ hc0) rfl (by decide) (by decide) (Nat.le_of_ble_eq_true rfl) dX6_takeField_7 ?_
  refine R_if_lt 17 dX6_takeField_10 (by decide) (fun c10 => ?_) (fun c10 => ?_)
  · have hP : ¬ isFd (L.getD p 0) := Int32.not_le.mpr c10
    have eP : (0 : Int32) = bI (isFd (L.getD p 0)) := (bI_f hP).symm
    refine R_iconst (v := 0) dX6_takeField_17 (by decide) ?_
    refine R_callV_e (T := mX6_takeField) (T' := mX6_takeIf) (As := [_]) (ci := 6) okX6_takeIf mlX6_39 rfl (by decide) sh_1 (ct_takeIfb hh eP) rfl (by decide) (by decide) (Nat.le_of_ble_eq_true rfl) dX6_takeField_18 ?_
    refine R_zret rfl bI_nar dX6_takeField_21 ⟨rfl, rfl, rfl⟩
  · have hP : isFd (L.getD p 0) := Int32.not_lt.mp c10
    have eP : (1 : Int32) = bI (isFd (L.getD p 0)) := (bI_t hP).symm
    refine R_iconst (v := 1) dX6_takeField_13 (by decide) ?_
    refine R_goto 18 dX6_takeField_14 (by decide) ?_
    refine R_callV_e (T := mX6_takeField) (T' := mX6_takeIf) (As := [_]) (ci := 6) okX6_takeIf mlX6_39 rfl (by decide) sh_1 (ct_takeIfb hh eP) rfl (by decide) (by decide) (Nat.le_of_ble_eq_true rfl) dX6_takeField_18 ?_
    refine R_zret rfl bI_nar dX6_takeField_21 ⟨rfl, rfl, rfl⟩

set_option maxHeartbeats 4000000 in
theorem ct_takeRelation {V : aV} {L : List Int32} {p : Nat} (h : LN V L p) [Decidable (isRl (L.getD p 0))] : CT mX6_takeRelation 2 0 0 [.ref 1] Sh V (aRet (some (.int (bI (isRl (L.getD p 0))))) Sh (if isRl (L.getD p 0) then atV V (p + 1) else V)) aNo := by
  refine CT_of (by decide +kernel) (Nat.le_of_ble_eq_true rfl) ?_
  show R _ _ _ _ _ _ _ _ 0 [some (.ref 1)] [] _ _
  have hh := h
  obtain ⟨h1, h2, h3, h4⟩ := h
  have hlen := h3.len
  have hl1 := h3.len1
  refine R_aload_0 dX6_takeRelation_0 ?_
  refine R_aload_0 dX6_takeRelation_1 ?_
  refine R_callV_e (T := mX6_takeRelation) (T' := mX6_here) (As := []) (ci := 6) okX6_here mlX6_35 rfl (by decide) sh_1 (ct_here hh) rfl (by decide) (by decide) (Nat.le_of_ble_eq_true rfl) dX6_takeRelation_2 ?_
  refine R_bipush (v := 61) dX6_takeRelation_5 (by decide) ?_
  refine R_icmp_eq 28 dX6_takeRelation_7 (by decide) (fun c7 => ?_) (fun c7 => ?_)
  · have hP : isRl (L.getD p 0) := by first | exact Or.inl c7 | exact Or.inr (Or.inl c16) | exact Or.inr (Or.inr c25)
    have eP : (1 : Int32) = bI (isRl (L.getD p 0)) := (bI_t hP).symm
    refine R_iconst (v := 1) dX6_takeRelation_28 (by decide) ?_
    refine R_goto 33 dX6_takeRelation_29 (by decide) ?_
    refine R_callV_e (T := mX6_takeRelation) (T' := mX6_takeIf) (As := [_]) (ci := 6) okX6_takeIf mlX6_39 rfl (by decide) sh_1 (ct_takeIfb hh eP) rfl (by decide) (by decide) (Nat.le_of_ble_eq_true rfl) dX6_takeRelation_33 ?_
    refine R_zret rfl bI_nar dX6_takeRelation_36 ⟨rfl, rfl, rfl⟩
  · refine R_aload_0 dX6_takeRelation_10 ?_
    refine R_callV_e (T := mX6_takeRelation) (T' := mX6_here) (As := []) (ci := 6) okX6_here mlX6_35 rfl (by decide) sh_1 (ct_here hh) rfl (by decide) (by decide) (Nat.le_of_ble_eq_true rfl) dX6_takeRelation_11 ?_
    refine R_bipush (v := 60) dX6_takeRelation_14 (by decide) ?_
    refine R_icmp_eq 28 dX6_takeRelation_16 (by decide) (fun c16 => ?_) (fun c16 => ?_)
    · have hP : isRl (L.getD p 0) := by first | exact Or.inl c7 | exact Or.inr (Or.inl c16) | exact Or.inr (Or.inr c25)
      have eP : (1 : Int32) = bI (isRl (L.getD p 0)) := (bI_t hP).symm
      refine R_iconst (v := 1) dX6_takeRelation_28 (by decide) ?_
      refine R_goto 33 dX6_takeRelation_29 (by decide) ?_
      refine R_callV_e (T := mX6_takeRelation) (T' := mX6_takeIf) (As := [_]) (ci := 6) okX6_takeIf mlX6_39 rfl (by decide) sh_1 (ct_takeIfb hh eP) rfl (by decide) (by decide) (Nat.le_of_ble_eq_true rfl) dX6_takeRelation_33 ?_
      refine R_zret rfl bI_nar dX6_takeRelation_36 ⟨rfl, rfl, rfl⟩
    · refine R_aload_0 dX6_takeRelation_19 ?_
      refine R_callV_e (T := mX6_takeRelation) (T' := mX6_here) (As := []) (ci := 6) okX6_here mlX6_35 rfl (by decide) sh_1 (ct_here hh) rfl (by decide) (by decide) (Nat.le_of_ble_eq_true rfl) dX6_takeRelation_20 ?_
      refine R_bipush (v := 62) dX6_takeRelation_23 (by decide) ?_
      refine R_icmp_ne 32 dX6_takeRelation_25 (by decide) (fun c25 => ?_) (fun c25 => ?_)
      · have hP : ¬ isRl (L.getD p 0) := by rintro (q | q | q); exact c7 q; exact c16 q; exact c25 q
        have eP : (0 : Int32) = bI (isRl (L.getD p 0)) := (bI_f hP).symm
        refine R_iconst (v := 0) dX6_takeRelation_32 (by decide) ?_
        refine R_callV_e (T := mX6_takeRelation) (T' := mX6_takeIf) (As := [_]) (ci := 6) okX6_takeIf mlX6_39 rfl (by decide) sh_1 (ct_takeIfb hh eP) rfl (by decide) (by decide) (Nat.le_of_ble_eq_true rfl) dX6_takeRelation_33 ?_
        refine R_zret rfl bI_nar dX6_takeRelation_36 ⟨rfl, rfl, rfl⟩
      · have hP : isRl (L.getD p 0) := by first | exact Or.inl c7 | exact Or.inr (Or.inl c16) | exact Or.inr (Or.inr c25)
        have eP : (1 : Int32) = bI (isRl (L.getD p 0)) := (bI_t hP).symm
        refine R_iconst (v := 1) dX6_takeRelation_28 (by decide) ?_
        refine R_goto 33 dX6_takeRelation_29 (by decide) ?_
        refine R_callV_e (T := mX6_takeRelation) (T' := mX6_takeIf) (As := [_]) (ci := 6) okX6_takeIf mlX6_39 rfl (by decide) sh_1 (ct_takeIfb hh eP) rfl (by decide) (by decide) (Nat.le_of_ble_eq_true rfl) dX6_takeRelation_33 ?_
        refine R_zret rfl bI_nar dX6_takeRelation_36 ⟨rfl, rfl, rfl⟩

set_option maxHeartbeats 4000000 in
theorem ct_clear {V : aV} {L : List Int32} {p : Nat} (h : LN V L p) : CT mX6_clear 0 0 0 [.ref 1] Sh V (aRet none Sh (a_up V 2 1 (.int 0))) aNo := by
  refine CT_of (by decide +kernel) (Nat.le_of_ble_eq_true rfl) ?_
  show R _ _ _ _ _ _ _ _ 0 [some (.ref 1)] [] _ _
  have hh := h
  obtain ⟨h1, h2, h3, h4⟩ := h
  have hlen := h3.len
  have hl1 := h3.len1
  refine R_aload_0 dX6_clear_0 ?_
  refine gfX6_14 rfl dX6_clear_1 sh_1 (by first | assumption | exact a_up_self _ _ _ _ | exact (a_up_ne (by omega)).trans (by assumption) | exact (a_up_ne (by omega)).trans (a_up_self _ _ _ _) | exact (a_up_ne (by omega)).trans ((a_up_ne (by omega)).trans (by assumption)) | exact (a_up_ne (by omega)).trans ((a_up_ne (by omega)).trans (a_up_self _ _ _ _)) | exact (a_up_ne (by omega)).trans ((a_up_ne (by omega)).trans ((a_up_ne (by omega)).trans (by assumption))) | exact (a_up_ne (by omega)).trans ((a_up_ne (by omega)).trans ((a_up_ne (by omega)).trans (a_up_self _ _ _ _))) | exact (a_up_ne (by omega)).trans ((a_up_ne (by omega)).trans ((a_up_ne (by omega)).trans ((a_up_ne (by omega)).trans (by assumption)))) | exact (a_up_ne (by omega)).trans ((a_up_ne (by omega)).trans ((a_up_ne (by omega)).trans ((a_up_ne (by omega)).trans (a_up_self _ _ _ _)))) | exact (a_up_ne (by omega)).trans ((a_up_ne (by omega)).trans ((a_up_ne (by omega)).trans ((a_up_ne (by omega)).trans ((a_up_ne (by omega)).trans (by assumption))))) | exact (a_up_ne (by omega)).trans ((a_up_ne (by omega)).trans ((a_up_ne (by omega)).trans ((a_up_ne (by omega)).trans ((a_up_ne (by omega)).trans (a_up_self _ _ _ _)))))) ?_
  refine R_iconst (v := 0) dX6_clear_4 (by decide) ?_
  refine pfX6_20 rfl dX6_clear_5 sh_2 ?_
  refine R_vret rfl dX6_clear_8 ⟨rfl, rfl, rfl⟩

/-- a number of at most m digits from p on: where it ends, and its value -/
noncomputable def tNum (L : List Int32) (hi : Int32) : Nat → Nat → Int32 → Nat × Int32
  | 0, p, acc => (p, acc)
  | m + 1, p, acc => if 48 ≤ L.getD p 0 ∧ L.getD p 0 ≤ hi then tNum L hi m (p + 1) ((if acc = -1 then 0 else acc * 10) + (L.getD p 0 - 48)) else (p, acc)
theorem dg_lt {S : aS} {V : aV} {s cap : Nat} {L : List Int32} (h : SL S V s cap L) {p : Nat} {hi : Int32} (q : isDg (L.getD p 0) hi) : p < L.length := by
  refine Nat.lt_of_not_le fun z => ?_
  have : L.getD p 0 = 0 := by simp [List.getD_eq_getElem?_getD, z]
  rw [this] at q
  exact absurd q.1 (by decide)
set_option maxHeartbeats 4000000 in
theorem tNum_loop {mc ms kc ks : Nat} {L : List Int32} {hi : Int32} {most : Nat} (hmost : most < 100) : ∀ (m j p : Nat) (acc : Int32) (V : aV), j + m = most → LN V L p → ∀ {Q : Option Value → aS → aV → Prop} {QX : String → aS → aV → Prop}, (Q (some (.int (tNum L hi m p acc).2)) Sh (atV V (tNum L hi m p acc).1)) → R mX6_takeNumber 2 mc ms Q QX kc ks 5 [some (.ref 1), some (.int (nI most)), some (.int hi), some (.int acc), some (.int (nI j))] [] Sh V := by
  intro m
  induction m with
  | zero =>
    intro j p acc V hj h Q QX hQ
    have hjm : j = most := by omega
    subst hjm
    refine R_iload_4 dX6_takeNumber_5 ?_
    refine R_iload_1 dX6_takeNumber_7 ?_
    refine R_icmp_ge 60 dX6_takeNumber_8 (by decide) (fun _ => ?_) (fun c => absurd (Int32.le_refl _) c)
    refine R_iload_3 dX6_takeNumber_60 ?_
    have e9 : tNum L hi 0 p acc = (p, acc) := rfl
    rw [e9] at hQ
    refine R_iret rfl dX6_takeNumber_61 (by rw [h.same] at hQ; exact hQ)
  | succ m ih =>
    intro j p acc V hjm h Q QX hQ
    have hj : j < most := by omega
    have hh := h
    obtain ⟨h1, h2, h3, h4⟩ := h
    have hlen := h3.len
    have hl1 := h3.len1
    have dec9 : Decidable (isDg (L.getD p 0) hi) := Classical.propDecidable _
    refine R_iload_4 dX6_takeNumber_5 ?_
    refine R_iload_1 dX6_takeNumber_7 ?_
    refine R_icmp_ge 60 dX6_takeNumber_8 (by decide) (fun c8 => absurd c8 (nI_ge hj (by omega))) (fun c8 => ?_)
    refine R_aload_0 dX6_takeNumber_11 ?_
    refine R_callV_e (T := mX6_takeNumber) (T' := mX6_here) (As := []) (ci := 6) okX6_here mlX6_35 rfl (by decide) sh_1 (ct_here hh) rfl (by decide) (by decide) (Nat.le_of_ble_eq_true rfl) dX6_takeNumber_12 ?_
    refine R_iload_2 dX6_takeNumber_15 ?_
    refine R_callSN_e (T := mX6_takeNumber) (T' := mX11_isDigit) (As := [_, _]) okX11_isDigit mlX6_43 (ct_isDigit (L.getD p 0) hi) rfl (by decide) (by decide) (Nat.le_of_ble_eq_true rfl) dX6_takeNumber_16 ?_
    refine R_if_eq 60 dX6_takeNumber_19 (by decide) (fun c19 => ?_) (fun c19 => ?_)
    · have hP : ¬ isDg (L.getD p 0) hi := bI_eq c19
      have e9 : tNum L hi (m + 1) p acc = (p, acc) := if_neg hP
      rw [e9] at hQ
      refine R_iload_3 dX6_takeNumber_60 ?_
      refine R_iret rfl dX6_takeNumber_61 (by have hQ2 : Q (some (.int acc)) Sh (atV V p) := hQ; rw [hh.same] at hQ2; exact hQ2)
    · have hP : isDg (L.getD p 0) hi := bI_ne c19
      have hp2 := dg_lt h3 hP
      have e9 : tNum L hi (m + 1) p acc = tNum L hi m (p + 1) ((if acc = -1 then 0 else acc * 10) + (L.getD p 0 - 48)) := if_pos hP
      rw [e9] at hQ
      refine R_iload_3 dX6_takeNumber_22 ?_
      refine R_iconst (v := -1) dX6_takeNumber_23 (by decide) ?_
      refine R_icmp_ne 31 dX6_takeNumber_24 (by decide) (fun c24 => ?_) (fun c24 => ?_)
      · refine R_iload_3 dX6_takeNumber_31 ?_
        refine R_bipush (v := 10) dX6_takeNumber_32 (by decide) ?_
        refine R_imul dX6_takeNumber_34 ?_
        refine R_aload_0 dX6_takeNumber_35 ?_
        refine R_callV_e (T := mX6_takeNumber) (T' := mX6_here) (As := []) (ci := 6) okX6_here mlX6_35 rfl (by decide) sh_1 (ct_here hh) rfl (by decide) (by decide) (Nat.le_of_ble_eq_true rfl) dX6_takeNumber_36 ?_
        refine R_bipush (v := 48) dX6_takeNumber_39 (by decide) ?_
        refine R_isub dX6_takeNumber_41 ?_
        refine R_iadd dX6_takeNumber_42 ?_
        refine R_istore_3 rfl (by decide) dX6_takeNumber_43 ?_
        refine R_aload_0 dX6_takeNumber_44 ?_
        refine R_dup dX6_takeNumber_45 rfl ?_
        refine gfX6_24 rfl dX6_takeNumber_46 sh_1 (by first | assumption | exact a_up_self _ _ _ _ | exact (a_up_ne (by omega)).trans (by assumption) | exact (a_up_ne (by omega)).trans (a_up_self _ _ _ _) | exact (a_up_ne (by omega)).trans ((a_up_ne (by omega)).trans (by assumption)) | exact (a_up_ne (by omega)).trans ((a_up_ne (by omega)).trans (a_up_self _ _ _ _)) | exact (a_up_ne (by omega)).trans ((a_up_ne (by omega)).trans ((a_up_ne (by omega)).trans (by assumption))) | exact (a_up_ne (by omega)).trans ((a_up_ne (by omega)).trans ((a_up_ne (by omega)).trans (a_up_self _ _ _ _))) | exact (a_up_ne (by omega)).trans ((a_up_ne (by omega)).trans ((a_up_ne (by omega)).trans ((a_up_ne (by omega)).trans (by assumption)))) | exact (a_up_ne (by omega)).trans ((a_up_ne (by omega)).trans ((a_up_ne (by omega)).trans ((a_up_ne (by omega)).trans (a_up_self _ _ _ _)))) | exact (a_up_ne (by omega)).trans ((a_up_ne (by omega)).trans ((a_up_ne (by omega)).trans ((a_up_ne (by omega)).trans ((a_up_ne (by omega)).trans (by assumption))))) | exact (a_up_ne (by omega)).trans ((a_up_ne (by omega)).trans ((a_up_ne (by omega)).trans ((a_up_ne (by omega)).trans ((a_up_ne (by omega)).trans (a_up_self _ _ _ _)))))) ?_
        refine R_iconst (v := 1) dX6_takeNumber_49 (by decide) ?_
        refine R_iadd dX6_takeNumber_50 ?_
        rw [nI_1]
        refine pfX6_24 rfl dX6_takeNumber_51 sh_1 ?_
        have hh2 := hh.at (p + 1) hp2
        refine R_iinc_4 rfl (by decide) dX6_takeNumber_54 rfl ?_
        rw [show nI j + Int32.ofInt 1 = nI (j + 1) from nI_1 j]
        refine R_goto 5 dX6_takeNumber_57 (by decide) ?_
        refine ih (j + 1) (p + 1) _ (atV V (p + 1)) (by omega) hh2 ?_
        rw [atV_atV]
        first | (rw [if_pos c24] at hQ; exact hQ) | (rw [if_neg c24] at hQ; exact hQ)
      · refine R_iconst (v := 0) dX6_takeNumber_27 (by decide) ?_
        refine R_goto 35 dX6_takeNumber_28 (by decide) ?_
        refine R_aload_0 dX6_takeNumber_35 ?_
        refine R_callV_e (T := mX6_takeNumber) (T' := mX6_here) (As := []) (ci := 6) okX6_here mlX6_35 rfl (by decide) sh_1 (ct_here hh) rfl (by decide) (by decide) (Nat.le_of_ble_eq_true rfl) dX6_takeNumber_36 ?_
        refine R_bipush (v := 48) dX6_takeNumber_39 (by decide) ?_
        refine R_isub dX6_takeNumber_41 ?_
        refine R_iadd dX6_takeNumber_42 ?_
        refine R_istore_3 rfl (by decide) dX6_takeNumber_43 ?_
        refine R_aload_0 dX6_takeNumber_44 ?_
        refine R_dup dX6_takeNumber_45 rfl ?_
        refine gfX6_24 rfl dX6_takeNumber_46 sh_1 (by first | assumption | exact a_up_self _ _ _ _ | exact (a_up_ne (by omega)).trans (by assumption) | exact (a_up_ne (by omega)).trans (a_up_self _ _ _ _) | exact (a_up_ne (by omega)).trans ((a_up_ne (by omega)).trans (by assumption)) | exact (a_up_ne (by omega)).trans ((a_up_ne (by omega)).trans (a_up_self _ _ _ _)) | exact (a_up_ne (by omega)).trans ((a_up_ne (by omega)).trans ((a_up_ne (by omega)).trans (by assumption))) | exact (a_up_ne (by omega)).trans ((a_up_ne (by omega)).trans ((a_up_ne (by omega)).trans (a_up_self _ _ _ _))) | exact (a_up_ne (by omega)).trans ((a_up_ne (by omega)).trans ((a_up_ne (by omega)).trans ((a_up_ne (by omega)).trans (by assumption)))) | exact (a_up_ne (by omega)).trans ((a_up_ne (by omega)).trans ((a_up_ne (by omega)).trans ((a_up_ne (by omega)).trans (a_up_self _ _ _ _)))) | exact (a_up_ne (by omega)).trans ((a_up_ne (by omega)).trans ((a_up_ne (by omega)).trans ((a_up_ne (by omega)).trans ((a_up_ne (by omega)).trans (by assumption))))) | exact (a_up_ne (by omega)).trans ((a_up_ne (by omega)).trans ((a_up_ne (by omega)).trans ((a_up_ne (by omega)).trans ((a_up_ne (by omega)).trans (a_up_self _ _ _ _)))))) ?_
        refine R_iconst (v := 1) dX6_takeNumber_49 (by decide) ?_
        refine R_iadd dX6_takeNumber_50 ?_
        rw [nI_1]
        refine pfX6_24 rfl dX6_takeNumber_51 sh_1 ?_
        have hh2 := hh.at (p + 1) hp2
        refine R_iinc_4 rfl (by decide) dX6_takeNumber_54 rfl ?_
        rw [show nI j + Int32.ofInt 1 = nI (j + 1) from nI_1 j]
        refine R_goto 5 dX6_takeNumber_57 (by decide) ?_
        refine ih (j + 1) (p + 1) _ (atV V (p + 1)) (by omega) hh2 ?_
        rw [atV_atV]
        first | (rw [if_pos c24] at hQ; exact hQ) | (rw [if_neg c24] at hQ; exact hQ)
set_option maxHeartbeats 4000000 in
theorem ct_takeNumber {V : aV} {L : List Int32} {p : Nat} (h : LN V L p) (most : Nat) (hm : most < 100) (hi : Int32) : CT mX6_takeNumber 2 0 0 [.ref 1, .int (nI most), .int hi] Sh V (aRet (some (.int (tNum L hi most p (-1)).2)) Sh (atV V (tNum L hi most p (-1)).1)) aNo := by
  refine CT_of (by decide +kernel) (Nat.le_of_ble_eq_true rfl) ?_
  show R _ _ _ _ _ _ _ _ 0 [some (.ref 1), some (.int (nI most)), some (.int hi), none, none] [] _ _
  refine R_iconst (v := -1) dX6_takeNumber_0 (by decide) ?_
  refine R_istore_3 rfl (by decide) dX6_takeNumber_1 ?_
  refine R_iconst (v := 0) dX6_takeNumber_2 (by decide) ?_
  refine R_istore_4 rfl (by decide) dX6_takeNumber_3 ?_
  exact tNum_loop hm most 0 p (-1) V (by omega) h ⟨rfl, rfl, rfl⟩

/-- a word of at most m signs more, from p on: where it ends, and its signs -/
def tWord (L : List Int32) : Nat → Nat → List Int32 → Nat × List Int32
  | 0, p, acc => (p, acc)
  | m + 1, p, acc => if p < L.length ∧ ¬ L.getD p 0 = 44 then tWord L m (p + 1) (acc ++ [L.getD p 0]) else (p, acc)
/-- what a reader of a word leaves -/
def TWp (V : aV) (L : List Int32) (q : Nat) (p' : Nat) (W : List Int32) (V' : aV) : Prop := LN V' L p' ∧ SL Sh V' q 12 W ∧ ∀ b, b ≠ 1 → b ≠ q → b ≠ q + 1 → V' b = V b
theorem LN.fr {V V' : aV} {L : List Int32} {p q : Nat} (h : LN V L p) (hF : Fr1 V V' q) (hq : 3 < q) : LN V' L p := by
  obtain ⟨h1, h2, h3, h4⟩ := h
  have e1 : V' 1 = V 1 := hF 1 (by omega) (by omega)
  exact ⟨by rw [e1]; exact h1, by rw [e1]; exact h2, h3.frame (hF 2 (by omega) (by omega)) (hF 3 (by omega) (by omega)), h4⟩
set_option maxHeartbeats 4000000 in
theorem tWord_loop {mc ms kc ks : Nat} {L : List Int32} {q : Nat} (hq : 3 < q) : ∀ (m j p : Nat) (acc : List Int32) (V : aV), j + m = 12 → acc.length = j → LN V L p → SL Sh V q 12 acc → ∀ {Q : Option Value → aS → aV → Prop} {QX : String → aS → aV → Prop}, (∀ V', TWp V L q (tWord L m p acc).1 (tWord L m p acc).2 V' → Q (some (.int (bI (0 < (tWord L m p acc).2.length)))) Sh V') → R mX6_takeWord 2 mc ms Q QX kc ks 7 [some (.ref 1), some (.ref q), some (.int (nI j))] [] Sh V := by
  intro m
  induction m with
  | zero =>
    intro j p acc V hj hja h hW Q QX hQ
    have hjm : j = 12 := by omega
    subst hjm
    have hh := h
    have e9 : tWord L 0 p acc = (p, acc) := rfl
    rw [e9] at hQ
    refine R_iload_2 dX6_takeWord_7 ?_
    refine R_bipush (v := 12) dX6_takeWord_8 (by decide) ?_
    refine R_icmp_ge 53 dX6_takeWord_10 (by decide) (fun c10 => ?_) (fun c10 => absurd (Int32.le_refl _) c10)
    refine R_aload_1 dX6_takeWord_53 ?_
    refine gfX6_20 rfl dX6_takeWord_54 hW.1 hW.len1 ?_
    refine R_if_le 64 dX6_takeWord_57 (by decide) (fun c57 => ?_) (fun c57 => ?_)
    · refine R_iconst (v := 0) dX6_takeWord_64 (by decide) ?_
      refine R_zret rfl rfl dX6_takeWord_65 (by first | (have e8 := hQ V ⟨hh, hW, fun _ _ _ _ => rfl⟩; rw [bI_t (by rcases Nat.eq_zero_or_pos acc.length with z | z; exact absurd (by rw [z]; decide) c57; exact z)] at e8; exact e8) | (have e8 := hQ V ⟨hh, hW, fun _ _ _ _ => rfl⟩; rw [bI_f (by rw [nI_z (by omega) c57]; omega)] at e8; exact e8))
    · refine R_iconst (v := 1) dX6_takeWord_60 (by decide) ?_
      refine R_goto 65 dX6_takeWord_61 (by decide) ?_
      refine R_zret rfl rfl dX6_takeWord_65 (by first | (have e8 := hQ V ⟨hh, hW, fun _ _ _ _ => rfl⟩; rw [bI_t (by rcases Nat.eq_zero_or_pos acc.length with z | z; exact absurd (by rw [z]; decide) c57; exact z)] at e8; exact e8) | (have e8 := hQ V ⟨hh, hW, fun _ _ _ _ => rfl⟩; rw [bI_f (by rw [nI_z (by omega) c57]; omega)] at e8; exact e8))
  | succ m ih =>
    intro j p acc V hjm hja h hW Q QX hQ
    have hj : j < 12 := by omega
    have hh := h
    obtain ⟨h1, h2, h3, h4⟩ := h
    have hlen := h3.len
    have hl1 := h3.len1
    refine R_iload_2 dX6_takeWord_7 ?_
    refine R_bipush (v := 12) dX6_takeWord_8 (by decide) ?_
    refine R_icmp_ge 53 dX6_takeWord_10 (by decide) (fun c10 => absurd c10 (nI_ge (b := 12) (by omega) (by decide))) (fun c10 => ?_)
    refine R_aload_0 dX6_takeWord_13 ?_
    refine R_callV_e (T := mX6_takeWord) (T' := mX6_atEnd) (As := []) (ci := 6) okX6_atEnd mlX6_31 rfl (by decide) sh_1 (ct_atEnd hh) rfl (by decide) (by decide) (Nat.le_of_ble_eq_true rfl) dX6_takeWord_14 ?_
    refine R_if_ne 53 dX6_takeWord_17 (by decide) (fun c17 => ?_) (fun c17 => ?_)
    · have hP : ¬ (p < L.length ∧ ¬ L.getD p 0 = 44) := by first | exact fun z => z.2 c26 | exact fun z => absurd z.1 (Nat.not_lt.mpr (bI_ne c17))
      have e9 : tWord L (m + 1) p acc = (p, acc) := if_neg hP
      rw [e9] at hQ
      refine R_aload_1 dX6_takeWord_53 ?_
      refine gfX6_20 rfl dX6_takeWord_54 hW.1 hW.len1 ?_
      refine R_if_le 64 dX6_takeWord_57 (by decide) (fun c57 => ?_) (fun c57 => ?_)
      · refine R_iconst (v := 0) dX6_takeWord_64 (by decide) ?_
        refine R_zret rfl rfl dX6_takeWord_65 (by first | (have e8 := hQ V ⟨hh, hW, fun _ _ _ _ => rfl⟩; rw [bI_t (by rcases Nat.eq_zero_or_pos acc.length with z | z; exact absurd (by rw [z]; decide) c57; exact z)] at e8; exact e8) | (have e8 := hQ V ⟨hh, hW, fun _ _ _ _ => rfl⟩; rw [bI_f (by rw [nI_z (by omega) c57]; omega)] at e8; exact e8))
      · refine R_iconst (v := 1) dX6_takeWord_60 (by decide) ?_
        refine R_goto 65 dX6_takeWord_61 (by decide) ?_
        refine R_zret rfl rfl dX6_takeWord_65 (by first | (have e8 := hQ V ⟨hh, hW, fun _ _ _ _ => rfl⟩; rw [bI_t (by rcases Nat.eq_zero_or_pos acc.length with z | z; exact absurd (by rw [z]; decide) c57; exact z)] at e8; exact e8) | (have e8 := hQ V ⟨hh, hW, fun _ _ _ _ => rfl⟩; rw [bI_f (by rw [nI_z (by omega) c57]; omega)] at e8; exact e8))
    · refine R_aload_0 dX6_takeWord_20 ?_
      refine R_callV_e (T := mX6_takeWord) (T' := mX6_here) (As := []) (ci := 6) okX6_here mlX6_35 rfl (by decide) sh_1 (ct_here hh) rfl (by decide) (by decide) (Nat.le_of_ble_eq_true rfl) dX6_takeWord_21 ?_
      refine R_bipush (v := 44) dX6_takeWord_24 (by decide) ?_
      refine R_icmp_eq 53 dX6_takeWord_26 (by decide) (fun c26 => ?_) (fun c26 => ?_)
      · have hP : ¬ (p < L.length ∧ ¬ L.getD p 0 = 44) := by first | exact fun z => z.2 c26 | exact fun z => absurd z.1 (Nat.not_lt.mpr (bI_ne c17))
        have e9 : tWord L (m + 1) p acc = (p, acc) := if_neg hP
        rw [e9] at hQ
        refine R_aload_1 dX6_takeWord_53 ?_
        refine gfX6_20 rfl dX6_takeWord_54 hW.1 hW.len1 ?_
        refine R_if_le 64 dX6_takeWord_57 (by decide) (fun c57 => ?_) (fun c57 => ?_)
        · refine R_iconst (v := 0) dX6_takeWord_64 (by decide) ?_
          refine R_zret rfl rfl dX6_takeWord_65 (by first | (have e8 := hQ V ⟨hh, hW, fun _ _ _ _ => rfl⟩; rw [bI_t (by rcases Nat.eq_zero_or_pos acc.length with z | z; exact absurd (by rw [z]; decide) c57; exact z)] at e8; exact e8) | (have e8 := hQ V ⟨hh, hW, fun _ _ _ _ => rfl⟩; rw [bI_f (by rw [nI_z (by omega) c57]; omega)] at e8; exact e8))
        · refine R_iconst (v := 1) dX6_takeWord_60 (by decide) ?_
          refine R_goto 65 dX6_takeWord_61 (by decide) ?_
          refine R_zret rfl rfl dX6_takeWord_65 (by first | (have e8 := hQ V ⟨hh, hW, fun _ _ _ _ => rfl⟩; rw [bI_t (by rcases Nat.eq_zero_or_pos acc.length with z | z; exact absurd (by rw [z]; decide) c57; exact z)] at e8; exact e8) | (have e8 := hQ V ⟨hh, hW, fun _ _ _ _ => rfl⟩; rw [bI_f (by rw [nI_z (by omega) c57]; omega)] at e8; exact e8))
      · have hP : p < L.length ∧ ¬ L.getD p 0 = 44 := ⟨Nat.lt_of_not_le (bI_eq c17), c26⟩
        have hp2 : p + 1 ≤ L.length := hP.1
        have e9 : tWord L (m + 1) p acc = tWord L m (p + 1) (acc ++ [L.getD p 0]) := if_pos hP
        rw [e9] at hQ
        refine R_aload_1 dX6_takeWord_29 ?_
        refine R_aload_0 dX6_takeWord_30 ?_
        refine R_callV_e (T := mX6_takeWord) (T' := mX6_here) (As := []) (ci := 6) okX6_here mlX6_35 rfl (by decide) sh_1 (ct_here hh) rfl (by decide) (by decide) (Nat.le_of_ble_eq_true rfl) dX6_takeWord_31 ?_
        refine R_callVN (T := mX6_takeWord) (T' := mX9_add) (As := [_]) (ci := 9) okX9_add mlX6_55 rfl (by decide) hW.1 (ct_addL hW (L.getD p 0) (h3.getD p) (by omega)) rfl (by decide) (by decide) (Nat.le_of_ble_eq_true rfl) dX6_takeWord_34 (fun v9 S9 V9 h9 => ?_) (fun E S9 V9 h9 => h9.elim)
        obtain ⟨rfl, rfl, hW9, hF9⟩ := h9
        have hh9 := hh.fr hF9 hq
        obtain ⟨k1, k2, -, -⟩ := id hh9
        refine R_aload_0 dX6_takeWord_37 ?_
        refine R_dup dX6_takeWord_38 rfl ?_
        refine gfX6_24 rfl dX6_takeWord_39 sh_1 (by first | assumption | exact a_up_self _ _ _ _ | exact (a_up_ne (by omega)).trans (by assumption) | exact (a_up_ne (by omega)).trans (a_up_self _ _ _ _) | exact (a_up_ne (by omega)).trans ((a_up_ne (by omega)).trans (by assumption)) | exact (a_up_ne (by omega)).trans ((a_up_ne (by omega)).trans (a_up_self _ _ _ _)) | exact (a_up_ne (by omega)).trans ((a_up_ne (by omega)).trans ((a_up_ne (by omega)).trans (by assumption))) | exact (a_up_ne (by omega)).trans ((a_up_ne (by omega)).trans ((a_up_ne (by omega)).trans (a_up_self _ _ _ _))) | exact (a_up_ne (by omega)).trans ((a_up_ne (by omega)).trans ((a_up_ne (by omega)).trans ((a_up_ne (by omega)).trans (by assumption)))) | exact (a_up_ne (by omega)).trans ((a_up_ne (by omega)).trans ((a_up_ne (by omega)).trans ((a_up_ne (by omega)).trans (a_up_self _ _ _ _)))) | exact (a_up_ne (by omega)).trans ((a_up_ne (by omega)).trans ((a_up_ne (by omega)).trans ((a_up_ne (by omega)).trans ((a_up_ne (by omega)).trans (by assumption))))) | exact (a_up_ne (by omega)).trans ((a_up_ne (by omega)).trans ((a_up_ne (by omega)).trans ((a_up_ne (by omega)).trans ((a_up_ne (by omega)).trans (a_up_self _ _ _ _)))))) ?_
        refine R_iconst (v := 1) dX6_takeWord_42 (by decide) ?_
        refine R_iadd dX6_takeWord_43 ?_
        rw [nI_1]
        refine pfX6_24 rfl dX6_takeWord_44 sh_1 ?_
        have hh2 := hh9.at (p + 1) hp2
        have hW2 : SL Sh (atV V9 (p + 1)) q 12 (acc ++ [L.getD p 0]) := hW9.frame (a_up_row (by omega)) (a_up_row (by omega))
        refine R_iinc_2 rfl (by decide) dX6_takeWord_47 rfl ?_
        rw [show nI j + Int32.ofInt 1 = nI (j + 1) from nI_1 j]
        refine R_goto 7 dX6_takeWord_50 (by decide) ?_
        refine ih (j + 1) (p + 1) _ (atV V9 (p + 1)) (by omega) (by rw [List.length_append, hja]; rfl) hh2 hW2 (fun V8 h8 => hQ V8 ⟨h8.1, h8.2.1, fun b z1 z2 z3 => (h8.2.2 b z1 z2 z3).trans ((a_up_row z1).trans (hF9 b z2 z3))⟩)
set_option maxHeartbeats 4000000 in
theorem ct_takeWord {V : aV} {L A : List Int32} {p q : Nat} (h : LN V L p) (hA : SL Sh V q 12 A) (hq : 3 < q) : CT mX6_takeWord 2 0 0 [.ref 1, .ref q] Sh V (fun v S9 V9 => some (.int (bI (0 < (tWord L 12 p []).2.length))) = v ∧ Sh = S9 ∧ TWp V L q (tWord L 12 p []).1 (tWord L 12 p []).2 V9) aNo := by
  refine CT_of (by decide +kernel) (Nat.le_of_ble_eq_true rfl) ?_
  show R _ _ _ _ _ _ _ _ 0 [some (.ref 1), some (.ref q), none] [] _ _
  refine R_aload_1 dX6_takeWord_0 ?_
  refine R_iconst (v := 0) dX6_takeWord_1 (by decide) ?_
  refine pfX6_20 rfl dX6_takeWord_2 hA.1 ?_
  refine R_iconst (v := 0) dX6_takeWord_5 (by decide) ?_
  refine R_istore_2 rfl (by decide) dX6_takeWord_6 ?_
  refine tWord_loop hq 12 0 p [] _ rfl rfl (h.fr (q := q) Fr1.up hq) hA.clear (fun V8 h8 => ⟨rfl, rfl, h8.1, h8.2.1, fun b z1 z2 z3 => (h8.2.2 b z1 z2 z3).trans (a_up_row z2)⟩)

