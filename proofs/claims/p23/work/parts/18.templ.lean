/-! ===== Template: reading ===== -/
theorem bsplit {P : Prop} [Decidable P] {S : aS} {A B : aV} {v : Option Value} {S' : aS} {V' : aV} (h : aRet (some (.int (bI P))) S (if P then A else B) v S' V') : S = S' ∧ ((P ∧ some (.int 1) = v ∧ A = V') ∨ (¬ P ∧ some (.int 0) = v ∧ B = V')) := by
  obtain ⟨rfl, rfl, rfl⟩ := h
  refine ⟨rfl, ?_⟩
  by_cases hP : P
  · exact Or.inl ⟨hP, by rw [bI_t hP], by rw [if_pos hP]⟩
  · exact Or.inr ⟨hP, by rw [bI_f hP], by rw [if_neg hP]⟩
def BS (P : Prop) (S : aS) (A B : aV) : Option Value → aS → aV → Prop := fun v S' V' => S = S' ∧ ((P ∧ some (.int 1) = v ∧ A = V') ∨ (¬ P ∧ some (.int 0) = v ∧ B = V'))
theorem ct_take2 {V : aV} {L : List Int32} {p : Nat} (h : LN V L p) (c : Int32) : CT mX6_take 2 0 0 [.ref 1, .int c] Sh V (BS (p < L.length ∧ L.getD p 0 = c) Sh (atV V (p + 1)) V) aNo := CT_mono (ct_take h c) (fun _ _ _ q => bsplit q) (fun _ _ _ q => q)
theorem ct_takeDigit2 {V : aV} {L : List Int32} {p : Nat} (h : LN V L p) (hi : Int32) : CT mX6_takeDigit 2 0 0 [.ref 1, .int hi] Sh V (BS (isDg (L.getD p 0) hi) Sh (atV V (p + 1)) V) aNo := CT_mono (ct_takeDigit h hi) (fun _ _ _ q => bsplit q) (fun _ _ _ q => q)
theorem ct_takeField2 {V : aV} {L : List Int32} {p : Nat} (h : LN V L p) : CT mX6_takeField 4 0 0 [.ref 1] Sh V (BS (isFd (L.getD p 0)) Sh (atV V (p + 1)) V) aNo := CT_mono (ct_takeField h) (fun _ _ _ q => bsplit q) (fun _ _ _ q => q)
theorem ct_takeRelation2 {V : aV} {L : List Int32} {p : Nat} (h : LN V L p) : CT mX6_takeRelation 2 0 0 [.ref 1] Sh V (BS (isRl (L.getD p 0)) Sh (atV V (p + 1)) V) aNo := CT_mono (ct_takeRelation h) (fun _ _ _ q => bsplit q) (fun _ _ _ q => q)
theorem fd_lt {L : List Int32} {p : Nat} (q : isFd (L.getD p 0)) : p < L.length := by
  refine Nat.lt_of_not_le fun z => ?_
  have : L.getD p 0 = 0 := by simp [List.getD_eq_getElem?_getD, z]
  rw [this] at q
  exact absurd q (by decide)
theorem rl_lt {L : List Int32} {p : Nat} (q : isRl (L.getD p 0)) : p < L.length := by
  refine Nat.lt_of_not_le fun z => ?_
  have : L.getD p 0 = 0 := by simp [List.getD_eq_getElem?_getD, z]
  rw [this] at q
  exact absurd q (by decide)
theorem tNum_le {L : List Int32} {hi : Int32} {hh : Int32} : ∀ (m p : Nat) (acc : Int32), p ≤ L.length → p ≤ (tNum L hi m p acc).1 ∧ (tNum L hi m p acc).1 ≤ L.length := by
  intro m
  induction m with
  | zero => intro p acc h; exact ⟨Nat.le_refl _, h⟩
  | succ m ih =>
    intro p acc h
    by_cases q : 48 ≤ L.getD p 0 ∧ L.getD p 0 ≤ hi
    · have e : tNum L hi (m + 1) p acc = tNum L hi m (p + 1) ((if acc = -1 then 0 else acc * 10) + (L.getD p 0 - 48)) := if_pos q
      have hp : p < L.length := by
        refine Nat.lt_of_not_le fun z => ?_
        have e0 : L.getD p 0 = 0 := by simp [List.getD_eq_getElem?_getD, z]
        rw [e0] at q
        exact absurd q.1 (by decide)
      rw [e]
      have := ih (p + 1) ((if acc = -1 then 0 else acc * 10) + (L.getD p 0 - 48)) hp
      exact ⟨by omega, this.2⟩
    · have e : tNum L hi (m + 1) p acc = (p, acc) := if_neg q
      rw [e]
      exact ⟨Nat.le_refl _, h⟩
/-- a template that is read: the line at p, the marks of the choices (innermost first), what jumps are known -/
def TR (V : aV) (t : Nat) (L : List Int32) (p : Nat) (mks : List Nat) (jm : Nat → Option Nat) : Prop :=
  LN V L p ∧ ((Sh.1 t).1 = 10 ∧ Sh.1 (t + 3) = (14, 96) ∧ Sh.1 (t + 4) = (14, 5) ∧ 3 < t) ∧ (V t 0 = .ref (t + 1) ∧ V t 1 = .ref (t + 3) ∧ V t 2 = .ref (t + 4)) ∧ V t 3 = .int (nI mks.length) ∧ mks.length ≤ 5 ∧
  (∀ i, i < mks.length → V (t + 4) (mks.length - 1 - i) = .int (nI (mks.getD i 0)) ∧ mks.getD i 0 < p) ∧ ∀ q v, jm q = some v → V (t + 3) q = .int (nI v)
def FrT (t : Nat) (V V' : aV) : Prop := (∀ b, b ≠ 1 → b ≠ t → b ≠ t + 3 → b ≠ t + 4 → V' b = V b) ∧ (∀ k, k ≠ 3 → V' t k = V t k)
theorem FrT.refl {t : Nat} {V : aV} : FrT t V V := ⟨fun _ _ _ _ _ => rfl, fun _ _ => rfl⟩
theorem FrT.trans {t : Nat} {V V1 V2 : aV} (h : FrT t V V1) (h2 : FrT t V1 V2) : FrT t V V2 := ⟨fun b a1 a2 a3 a4 => (h2.1 b a1 a2 a3 a4).trans (h.1 b a1 a2 a3 a4), fun k hk => (h2.2 k hk).trans (h.2 k hk)⟩
theorem FrT.at {t : Nat} {V : aV} {p : Nat} (h : 3 < t) : FrT t V (atV V p) := ⟨fun b a1 _ _ _ => a_up_row a1, fun k _ => congrFun (a_up_row (by omega)) k⟩
theorem TR.at {V : aV} {t : Nat} {L : List Int32} {p : Nat} {mks : List Nat} {jm : Nat → Option Nat} (h : TR V t L p mks jm) (q : Nat) (hq : q ≤ L.length) (hp : p ≤ q) : TR (atV V q) t L q mks jm := by
  obtain ⟨h1, h2, h3, h4, h5, h6, h7⟩ := h
  have ht := h2.2.2.2
  have e : ∀ b, b ≠ 1 → atV V q b = V b := fun b hb => a_up_row hb
  refine ⟨h1.at q hq, h2, by rw [e t (by omega)]; exact h3, by rw [e t (by omega)]; exact h4, h5, fun i hi => ?_, fun q9 v hv => by rw [e _ (by omega)]; exact h7 q9 v hv⟩
  rw [e _ (by omega)]
  exact ⟨(h6 i hi).1, by have := (h6 i hi).2; omega⟩
/-- one more mark -/
theorem TR.push {V : aV} {t : Nat} {L : List Int32} {p : Nat} {mks : List Nat} {jm : Nat → Option Nat} (h : TR V t L p mks jm) (hl : mks.length < 5) (hp : p < L.length) : TR (atV (a_up (a_up V (t + 4) mks.length (.int (nI p))) t 3 (.int (nI (mks.length + 1)))) (p + 1)) t L (p + 1) (p :: mks) jm := by
  obtain ⟨h1, h2, h3, h4, h5, h6, h7⟩ := h
  have ht := h2.2.2.2
  have key : ∀ b, b ≠ 1 → b ≠ t → b ≠ t + 4 → atV (a_up (a_up V (t + 4) mks.length (.int (nI p))) t 3 (.int (nI (mks.length + 1)))) (p + 1) b = V b := fun b a1 a2 a3 => (a_up_row a1).trans ((a_up_row a2).trans (a_up_row a3))
  have kt : ∀ k, k ≠ 3 → atV (a_up (a_up V (t + 4) mks.length (.int (nI p))) t 3 (.int (nI (mks.length + 1)))) (p + 1) t k = V t k := fun k hk => (a_up_ne (Or.inl (by omega))).trans ((a_up_ne (Or.inr hk)).trans (a_up_ne (Or.inl (by omega))))
  have k4 : ∀ k, atV (a_up (a_up V (t + 4) mks.length (.int (nI p))) t 3 (.int (nI (mks.length + 1)))) (p + 1) (t + 4) k = a_up V (t + 4) mks.length (.int (nI p)) (t + 4) k := fun k => (a_up_ne (Or.inl (by omega))).trans (a_up_ne (Or.inl (by omega)))
  obtain ⟨l1, l2, l3, l4⟩ := h1
  refine ⟨⟨?_, a_up_self _ _ _ _, l3.frame (key 2 (by decide) (by omega) (by omega)) (key 3 (by decide) (by omega) (by omega)), hp⟩, h2, ⟨(kt 0 (by decide)).trans h3.1, (kt 1 (by decide)).trans h3.2.1, (kt 2 (by decide)).trans h3.2.2⟩, (a_up_ne (Or.inl (by omega))).trans (a_up_self _ _ _ _), hl, fun i hi => ?_, fun q9 v hv => ?_⟩
  · exact (a_up_ne (Or.inr (by decide))).trans ((a_up_ne (Or.inl (by omega))).trans ((a_up_ne (Or.inl (by omega))).trans l1))
  · rw [k4]
    have hi' : i < mks.length + 1 := hi
    show a_up V (t + 4) mks.length (.int (nI p)) (t + 4) (mks.length + 1 - 1 - i) = _ ∧ _
    cases i with
    | zero => exact ⟨by rw [show mks.length + 1 - 1 - 0 = mks.length by omega, a_up_self]; rfl, Nat.lt_succ_self p⟩
    | succ i =>
      rw [a_up_ne (Or.inr (by omega))]
      have h9 := h6 i (by omega)
      rw [show mks.length + 1 - 1 - (i + 1) = mks.length - 1 - i by omega]
      exact ⟨h9.1, by have := h9.2; show mks.getD i 0 < p + 1; omega⟩
  · rw [key (t + 3) (by omega) (by omega) (by omega)]
    exact h7 q9 v hv
/-- the innermost mark's jump told -/
def jSet (jm : Nat → Option Nat) (m v : Nat) : Nat → Option Nat := fun q => if q = m then some v else jm q
abbrev RRes : Type := Nat ⊕ (Nat × List Nat × (Nat → Option Nat))
def RPost (V : aV) (t : Nat) (L : List Int32) (res : RRes) : Option Value → aS → aV → Prop := fun v S' V' => Sh = S' ∧ FrT t V V' ∧ match res with
  | .inl p' => some (.int 0) = v ∧ LN V' L p'
  | .inr r => some (.int 1) = v ∧ TR V' t L r.1 r.2.1 r.2.2
noncomputable def rOpen (L : List Int32) (p : Nat) (mks : List Nat) (jm : Nat → Option Nat) : RRes :=
  if 5 ≤ mks.length then .inl p
  else if ¬ isFd (L.getD (p + 1) 0) then .inl (p + 1)
  else if ¬ isRl (L.getD (p + 2) 0) then .inl (p + 2)
  else if (tNum L 57 3 (p + 3) (-1)).2 = -1 then .inl (tNum L 57 3 (p + 3) (-1)).1
  else if (tNum L 57 3 (p + 3) (-1)).1 < L.length ∧ L.getD (tNum L 57 3 (p + 3) (-1)).1 0 = 63 then .inr ((tNum L 57 3 (p + 3) (-1)).1 + 1, p :: mks, jm)
  else .inl (tNum L 57 3 (p + 3) (-1)).1
noncomputable def rTurn (L : List Int32) (p : Nat) (mks : List Nat) (jm : Nat → Option Nat) : RRes := match mks with
  | [] => .inl p
  | m :: r => if L.getD m 0 = 91 then .inr (p + 1, p :: r, jSet jm m (p + 1)) else .inl p
noncomputable def rClose (L : List Int32) (p : Nat) (mks : List Nat) (jm : Nat → Option Nat) : RRes := match mks with
  | [] => .inl p
  | m :: r => if L.getD m 0 = 124 then .inr (p + 1, r, jSet jm m (p + 1)) else .inl p
noncomputable def rPart (L : List Int32) (p : Nat) (mks : List Nat) (jm : Nat → Option Nat) : RRes :=
  if L.getD p 0 = 60 then (if ¬ isFd (L.getD (p + 1) 0) then .inl (p + 1) else if p + 2 < L.length ∧ L.getD (p + 2) 0 = 62 then .inr (p + 3, mks, jm) else .inl (p + 2))
  else if L.getD p 0 = 64 then (if isDg (L.getD (p + 1) 0) 55 then .inr (p + 2, mks, jm) else .inl (p + 1))
  else if L.getD p 0 = 91 then rOpen L p mks jm
  else if L.getD p 0 = 124 then rTurn L p mks jm
  else if L.getD p 0 = 93 then rClose L p mks jm
  else .inr (p + 1, mks, jm)

set_option maxHeartbeats 4000000 in
theorem open_tail {V0 V : aV} {t : Nat} {L : List Int32} {p : Nat} {mks : List Nat} {jm : Nat → Option Nat} (hT : TR V t L (p + 1) (p :: mks) jm) (hF : FrT t V0 V) (hl : mks.length < 5) : R mX10_openChoice 5 0 0 (RPost V0 t L (rOpen L p mks jm)) aNo 0 0 49 [some (.ref t), some (.ref 1)] [] Sh V := by
  have ht := hT.2.1.2.2.2
  have hl5 : ¬ 5 ≤ mks.length := by omega
  refine R_aload_1 dX10_openChoice_49 ?_
  refine R_callVN (T := mX10_openChoice) (T' := mX6_takeField) (As := []) (ci := 6) okX6_takeField mlX10_61 rfl (by decide) sh_1 (ct_takeField2 hT.1) rfl (by decide) (by decide) (Nat.le_of_ble_eq_true rfl) dX10_openChoice_50 (fun v9 S9 V9 h9 => ?_) (fun E S9 V9 h9 => h9.elim)
  obtain ⟨rfl, h9⟩ := h9
  rcases h9 with ⟨hP, rfl, rfl⟩ | ⟨hP, rfl, rfl⟩
  · have q2 := fd_lt hP
    have hT2 := hT.at (p + 2) (by omega) (by omega)
    have hF2 := hF.trans (FrT.at (p := p + 2) ht)
    have hl2 := hT2.1
    refine R_if_eq 87 dX10_openChoice_53 (by decide) (fun c53 => absurd c53 (by decide)) (fun c53 => ?_)
    refine R_aload_1 dX10_openChoice_56 ?_
    refine R_callVN (T := mX10_openChoice) (T' := mX6_takeRelation) (As := []) (ci := 6) okX6_takeRelation mlX10_76 rfl (by decide) sh_1 (ct_takeRelation2 hT2.1) rfl (by decide) (by decide) (Nat.le_of_ble_eq_true rfl) dX10_openChoice_57 (fun v9 S9 V9 h9 => ?_) (fun E S9 V9 h9 => h9.elim)
    obtain ⟨rfl, h9⟩ := h9
    rcases h9 with ⟨hR, rfl, rfl⟩ | ⟨hR, rfl, rfl⟩
    · have q3 := rl_lt hR
      have hT3 := hT2.at (p + 3) (by omega) (by omega)
      have hF3 := hF2.trans (FrT.at (p := p + 3) ht)
      refine R_if_eq 87 dX10_openChoice_60 (by decide) (fun c60 => absurd c60 (by decide)) (fun c60 => ?_)
      refine R_aload_1 dX10_openChoice_63 ?_
      refine R_iconst (v := 3) dX10_openChoice_64 (by decide) ?_
      refine R_bipush (v := 57) dX10_openChoice_65 (by decide) ?_
      refine R_callVN_e (T := mX10_openChoice) (T' := mX6_takeNumber) (As := [_, _]) (ci := 6) okX6_takeNumber mlX10_79 rfl (by decide) sh_1 (ct_takeNumber hT3.1 3 (by decide) 57) rfl (by decide) (by decide) (Nat.le_of_ble_eq_true rfl) dX10_openChoice_67 ?_
      have hn9 := tNum_le (L := L) (hi := 57) (hh := 0) 3 (p + 3) (-1) (by omega)
      have hT4 := hT3.at (tNum L 57 3 (p + 3) (-1)).1 hn9.2 hn9.1
      have hF4 := hF3.trans (FrT.at (p := (tNum L 57 3 (p + 3) (-1)).1) ht)
      refine R_iconst (v := -1) dX10_openChoice_70 (by decide) ?_
      refine R_icmp_eq 87 dX10_openChoice_71 (by decide) (fun c71 => ?_) (fun c71 => ?_)
      · refine R_iconst (v := 0) dX10_openChoice_87 (by decide) ?_
        refine R_zret rfl (by first | rfl | assumption) dX10_openChoice_88 (by have e9 : rOpen L p mks jm = .inl (tNum L 57 3 (p + 3) (-1)).1 := (by unfold rOpen; rw [if_neg hl5, if_neg (not_not_intro hP), if_neg (not_not_intro hR), if_pos c71]); rw [e9]; exact ⟨rfl, hF4, rfl, hT4.1⟩)
      · refine R_aload_1 dX10_openChoice_74 ?_
        refine R_bipush (v := 63) dX10_openChoice_75 (by decide) ?_
        refine R_callVN (T := mX10_openChoice) (T' := mX6_take) (As := [_]) (ci := 6) okX6_take mlX10_57 rfl (by decide) sh_1 (ct_take2 hT4.1 63) rfl (by decide) (by decide) (Nat.le_of_ble_eq_true rfl) dX10_openChoice_77 (fun v9 S9 V9 h9 => ?_) (fun E S9 V9 h9 => h9.elim)
        obtain ⟨rfl, h9⟩ := h9
        rcases h9 with ⟨hQ, rfl, rfl⟩ | ⟨hQ, rfl, rfl⟩
        · have e9 : rOpen L p mks jm = .inr ((tNum L 57 3 (p + 3) (-1)).1 + 1, p :: mks, jm) := by unfold rOpen; rw [if_neg hl5, if_neg (not_not_intro hP), if_neg (not_not_intro hR), if_neg c71, if_pos hQ]
          refine R_if_eq 87 dX10_openChoice_80 (by decide) (fun c80 => absurd c80 (by decide)) (fun c80 => ?_)
          refine R_iconst (v := 1) dX10_openChoice_83 (by decide) ?_
          refine R_goto 88 dX10_openChoice_84 (by decide) ?_
          refine R_zret rfl (by first | rfl | assumption) dX10_openChoice_88 (by rw [e9]; exact ⟨rfl, hF4.trans (FrT.at ht), rfl, hT4.at ((tNum L 57 3 (p + 3) (-1)).1 + 1) hQ.1 (Nat.le_succ _)⟩)
        · have e9 : rOpen L p mks jm = .inl (tNum L 57 3 (p + 3) (-1)).1 := by unfold rOpen; rw [if_neg hl5, if_neg (not_not_intro hP), if_neg (not_not_intro hR), if_neg c71, if_neg hQ]
          refine R_if_eq 87 dX10_openChoice_80 (by decide) (fun c80 => ?_) (fun c80 => absurd rfl c80)
          refine R_iconst (v := 0) dX10_openChoice_87 (by decide) ?_
          refine R_zret rfl (by first | rfl | assumption) dX10_openChoice_88 (by rw [e9]; exact ⟨rfl, hF4, rfl, hT4.1⟩)
    · have e9 : rOpen L p mks jm = .inl (p + 2) := by unfold rOpen; rw [if_neg hl5, if_neg (not_not_intro hP), if_pos hR]
      refine R_if_eq 87 dX10_openChoice_60 (by decide) (fun c60 => ?_) (fun c60 => absurd rfl c60)
      refine R_iconst (v := 0) dX10_openChoice_87 (by decide) ?_
      refine R_zret rfl (by first | rfl | assumption) dX10_openChoice_88 (by rw [e9]; exact ⟨rfl, hF2, rfl, hT2.1⟩)
  · have e9 : rOpen L p mks jm = .inl (p + 1) := by unfold rOpen; rw [if_neg hl5, if_pos hP]
    refine R_if_eq 87 dX10_openChoice_53 (by decide) (fun c53 => ?_) (fun c53 => absurd rfl c53)
    refine R_iconst (v := 0) dX10_openChoice_87 (by decide) ?_
    refine R_zret rfl (by first | rfl | assumption) dX10_openChoice_88 (by rw [e9]; exact ⟨rfl, hF, rfl, hT.1⟩)
set_option maxHeartbeats 4000000 in
theorem ct_openChoice {V : aV} {t : Nat} {L : List Int32} {p : Nat} {mks : List Nat} {jm : Nat → Option Nat} (h : TR V t L p mks jm) (hp : p < L.length) (hc : L.getD p 0 = 91) : CT mX10_openChoice 5 0 0 [.ref t, .ref 1] Sh V (RPost V t L (rOpen L p mks jm)) aNo := by
  refine CT_of (by decide +kernel) (Nat.le_of_ble_eq_true rfl) ?_
  show R _ _ _ _ _ _ _ _ 0 [some (.ref t), some (.ref 1)] [] _ _
  have hT := h
  obtain ⟨h1, ⟨s1, s2, s3, ht⟩, ⟨f0, f1, f2⟩, h4, h5, h6, h7⟩ := h
  have hL := h1.len
  have hln := h1
  obtain ⟨l1, l2, l3, l4⟩ := h1
  have hm : ¬ nI mks.length < 0 := nI_pos (by omega)
  refine R_aload_0 dX10_openChoice_0 ?_
  refine gfX10_33 rfl dX10_openChoice_1 s1 (by first | assumption | exact a_up_self _ _ _ _ | exact (a_up_ne (by omega)).trans (by assumption) | exact (a_up_ne (by omega)).trans (a_up_self _ _ _ _) | exact (a_up_ne (by omega)).trans ((a_up_ne (by omega)).trans (by assumption)) | exact (a_up_ne (by omega)).trans ((a_up_ne (by omega)).trans (a_up_self _ _ _ _)) | exact (a_up_ne (by omega)).trans ((a_up_ne (by omega)).trans ((a_up_ne (by omega)).trans (by assumption))) | exact (a_up_ne (by omega)).trans ((a_up_ne (by omega)).trans ((a_up_ne (by omega)).trans (a_up_self _ _ _ _))) | exact (a_up_ne (by omega)).trans ((a_up_ne (by omega)).trans ((a_up_ne (by omega)).trans ((a_up_ne (by omega)).trans (by assumption)))) | exact (a_up_ne (by omega)).trans ((a_up_ne (by omega)).trans ((a_up_ne (by omega)).trans ((a_up_ne (by omega)).trans (a_up_self _ _ _ _)))) | exact (a_up_ne (by omega)).trans ((a_up_ne (by omega)).trans ((a_up_ne (by omega)).trans ((a_up_ne (by omega)).trans ((a_up_ne (by omega)).trans (by assumption))))) | exact (a_up_ne (by omega)).trans ((a_up_ne (by omega)).trans ((a_up_ne (by omega)).trans ((a_up_ne (by omega)).trans ((a_up_ne (by omega)).trans (a_up_self _ _ _ _)))))) ?_
  refine R_if_lt 15 dX10_openChoice_4 (by decide) (fun c4 => absurd c4 hm) (fun c4 => ?_)
  refine R_aload_0 dX10_openChoice_7 ?_
  refine gfX10_33 rfl dX10_openChoice_8 s1 (by first | assumption | exact a_up_self _ _ _ _ | exact (a_up_ne (by omega)).trans (by assumption) | exact (a_up_ne (by omega)).trans (a_up_self _ _ _ _) | exact (a_up_ne (by omega)).trans ((a_up_ne (by omega)).trans (by assumption)) | exact (a_up_ne (by omega)).trans ((a_up_ne (by omega)).trans (a_up_self _ _ _ _)) | exact (a_up_ne (by omega)).trans ((a_up_ne (by omega)).trans ((a_up_ne (by omega)).trans (by assumption))) | exact (a_up_ne (by omega)).trans ((a_up_ne (by omega)).trans ((a_up_ne (by omega)).trans (a_up_self _ _ _ _))) | exact (a_up_ne (by omega)).trans ((a_up_ne (by omega)).trans ((a_up_ne (by omega)).trans ((a_up_ne (by omega)).trans (by assumption)))) | exact (a_up_ne (by omega)).trans ((a_up_ne (by omega)).trans ((a_up_ne (by omega)).trans ((a_up_ne (by omega)).trans (a_up_self _ _ _ _)))) | exact (a_up_ne (by omega)).trans ((a_up_ne (by omega)).trans ((a_up_ne (by omega)).trans ((a_up_ne (by omega)).trans ((a_up_ne (by omega)).trans (by assumption))))) | exact (a_up_ne (by omega)).trans ((a_up_ne (by omega)).trans ((a_up_ne (by omega)).trans ((a_up_ne (by omega)).trans ((a_up_ne (by omega)).trans (a_up_self _ _ _ _)))))) ?_
  refine R_iconst (v := 5) dX10_openChoice_11 (by decide) ?_
  refine R_icmp_lt 17 dX10_openChoice_12 (by decide) (fun c12 => ?_) (fun c12 => ?_)
  · have hl : mks.length < 5 := (nI_ltI (a := mks.length) (b := 5) (by omega) (by decide)).mp c12
    refine R_aload_0 dX10_openChoice_17 ?_
    refine gfX10_24 rfl dX10_openChoice_18 s1 (by first | assumption | exact a_up_self _ _ _ _ | exact (a_up_ne (by omega)).trans (by assumption) | exact (a_up_ne (by omega)).trans (a_up_self _ _ _ _) | exact (a_up_ne (by omega)).trans ((a_up_ne (by omega)).trans (by assumption)) | exact (a_up_ne (by omega)).trans ((a_up_ne (by omega)).trans (a_up_self _ _ _ _)) | exact (a_up_ne (by omega)).trans ((a_up_ne (by omega)).trans ((a_up_ne (by omega)).trans (by assumption))) | exact (a_up_ne (by omega)).trans ((a_up_ne (by omega)).trans ((a_up_ne (by omega)).trans (a_up_self _ _ _ _))) | exact (a_up_ne (by omega)).trans ((a_up_ne (by omega)).trans ((a_up_ne (by omega)).trans ((a_up_ne (by omega)).trans (by assumption)))) | exact (a_up_ne (by omega)).trans ((a_up_ne (by omega)).trans ((a_up_ne (by omega)).trans ((a_up_ne (by omega)).trans (a_up_self _ _ _ _)))) | exact (a_up_ne (by omega)).trans ((a_up_ne (by omega)).trans ((a_up_ne (by omega)).trans ((a_up_ne (by omega)).trans ((a_up_ne (by omega)).trans (by assumption))))) | exact (a_up_ne (by omega)).trans ((a_up_ne (by omega)).trans ((a_up_ne (by omega)).trans ((a_up_ne (by omega)).trans ((a_up_ne (by omega)).trans (a_up_self _ _ _ _)))))) ?_
    refine R_aload_0 dX10_openChoice_21 ?_
    refine gfX10_33 rfl dX10_openChoice_22 s1 (by first | assumption | exact a_up_self _ _ _ _ | exact (a_up_ne (by omega)).trans (by assumption) | exact (a_up_ne (by omega)).trans (a_up_self _ _ _ _) | exact (a_up_ne (by omega)).trans ((a_up_ne (by omega)).trans (by assumption)) | exact (a_up_ne (by omega)).trans ((a_up_ne (by omega)).trans (a_up_self _ _ _ _)) | exact (a_up_ne (by omega)).trans ((a_up_ne (by omega)).trans ((a_up_ne (by omega)).trans (by assumption))) | exact (a_up_ne (by omega)).trans ((a_up_ne (by omega)).trans ((a_up_ne (by omega)).trans (a_up_self _ _ _ _))) | exact (a_up_ne (by omega)).trans ((a_up_ne (by omega)).trans ((a_up_ne (by omega)).trans ((a_up_ne (by omega)).trans (by assumption)))) | exact (a_up_ne (by omega)).trans ((a_up_ne (by omega)).trans ((a_up_ne (by omega)).trans ((a_up_ne (by omega)).trans (a_up_self _ _ _ _)))) | exact (a_up_ne (by omega)).trans ((a_up_ne (by omega)).trans ((a_up_ne (by omega)).trans ((a_up_ne (by omega)).trans ((a_up_ne (by omega)).trans (by assumption))))) | exact (a_up_ne (by omega)).trans ((a_up_ne (by omega)).trans ((a_up_ne (by omega)).trans ((a_up_ne (by omega)).trans ((a_up_ne (by omega)).trans (a_up_self _ _ _ _)))))) ?_
    refine R_aload_1 dX10_openChoice_25 ?_
    refine gfX10_27 rfl dX10_openChoice_26 sh_1 (by first | assumption | exact a_up_self _ _ _ _ | exact (a_up_ne (by omega)).trans (by assumption) | exact (a_up_ne (by omega)).trans (a_up_self _ _ _ _) | exact (a_up_ne (by omega)).trans ((a_up_ne (by omega)).trans (by assumption)) | exact (a_up_ne (by omega)).trans ((a_up_ne (by omega)).trans (a_up_self _ _ _ _)) | exact (a_up_ne (by omega)).trans ((a_up_ne (by omega)).trans ((a_up_ne (by omega)).trans (by assumption))) | exact (a_up_ne (by omega)).trans ((a_up_ne (by omega)).trans ((a_up_ne (by omega)).trans (a_up_self _ _ _ _))) | exact (a_up_ne (by omega)).trans ((a_up_ne (by omega)).trans ((a_up_ne (by omega)).trans ((a_up_ne (by omega)).trans (by assumption)))) | exact (a_up_ne (by omega)).trans ((a_up_ne (by omega)).trans ((a_up_ne (by omega)).trans ((a_up_ne (by omega)).trans (a_up_self _ _ _ _)))) | exact (a_up_ne (by omega)).trans ((a_up_ne (by omega)).trans ((a_up_ne (by omega)).trans ((a_up_ne (by omega)).trans ((a_up_ne (by omega)).trans (by assumption))))) | exact (a_up_ne (by omega)).trans ((a_up_ne (by omega)).trans ((a_up_ne (by omega)).trans ((a_up_ne (by omega)).trans ((a_up_ne (by omega)).trans (a_up_self _ _ _ _)))))) ?_
    refine R_iast dX10_openChoice_29 s3 (vp_in_nI hl (by decide)) (nI_clamp (by omega)) ?_
    refine R_aload_0 dX10_openChoice_30 ?_
    refine R_dup dX10_openChoice_31 rfl ?_
    refine gfX10_33 rfl dX10_openChoice_32 s1 (by first | assumption | exact a_up_self _ _ _ _ | exact (a_up_ne (by omega)).trans (by assumption) | exact (a_up_ne (by omega)).trans (a_up_self _ _ _ _) | exact (a_up_ne (by omega)).trans ((a_up_ne (by omega)).trans (by assumption)) | exact (a_up_ne (by omega)).trans ((a_up_ne (by omega)).trans (a_up_self _ _ _ _)) | exact (a_up_ne (by omega)).trans ((a_up_ne (by omega)).trans ((a_up_ne (by omega)).trans (by assumption))) | exact (a_up_ne (by omega)).trans ((a_up_ne (by omega)).trans ((a_up_ne (by omega)).trans (a_up_self _ _ _ _))) | exact (a_up_ne (by omega)).trans ((a_up_ne (by omega)).trans ((a_up_ne (by omega)).trans ((a_up_ne (by omega)).trans (by assumption)))) | exact (a_up_ne (by omega)).trans ((a_up_ne (by omega)).trans ((a_up_ne (by omega)).trans ((a_up_ne (by omega)).trans (a_up_self _ _ _ _)))) | exact (a_up_ne (by omega)).trans ((a_up_ne (by omega)).trans ((a_up_ne (by omega)).trans ((a_up_ne (by omega)).trans ((a_up_ne (by omega)).trans (by assumption))))) | exact (a_up_ne (by omega)).trans ((a_up_ne (by omega)).trans ((a_up_ne (by omega)).trans ((a_up_ne (by omega)).trans ((a_up_ne (by omega)).trans (a_up_self _ _ _ _)))))) ?_
    refine R_iconst (v := 1) dX10_openChoice_35 (by decide) ?_
    refine R_iadd dX10_openChoice_36 ?_
    rw [nI_1]
    refine pfX10_33 rfl dX10_openChoice_37 s1 ?_
    have hF2 : FrT t V (a_up (a_up V (t + 4) mks.length (.int (nI p))) t 3 (.int (nI (mks.length + 1)))) := ⟨fun b a1 a2 a3 a4 => (a_up_row a2).trans (a_up_row a4), fun k hk => (a_up_ne (Or.inr hk)).trans (a_up_ne (Or.inl (by omega)))⟩
    have hLn2 : LN (a_up (a_up V (t + 4) mks.length (.int (nI p))) t 3 (.int (nI (mks.length + 1)))) L p := ⟨(a_up_ne (Or.inl (by omega))).trans ((a_up_ne (Or.inl (by omega))).trans l1), (a_up_ne (Or.inl (by omega))).trans ((a_up_ne (Or.inl (by omega))).trans l2), l3.frame ((a_up_row (by omega)).trans (a_up_row (by omega))) ((a_up_row (by omega)).trans (a_up_row (by omega))), l4⟩
    have hT3 := hT.push hl hp
    have hF3 : FrT t V (atV (a_up (a_up V (t + 4) mks.length (.int (nI p))) t 3 (.int (nI (mks.length + 1)))) (p + 1)) := hF2.trans (FrT.at ht)
    refine R_aload_1 dX10_openChoice_40 ?_
    refine R_bipush (v := 91) dX10_openChoice_41 (by decide) ?_
    refine R_callVN_e (T := mX10_openChoice) (T' := mX6_take) (As := [_]) (ci := 6) okX6_take mlX10_57 rfl (by decide) sh_1 (CT_mono (ct_take hLn2 91) (fun v S9 V9 q => (by rw [bI_t ⟨hp, hc⟩, if_pos ⟨hp, hc⟩] at q; exact q : aRet (some (.int 1)) Sh (atV (a_up (a_up V (t + 4) mks.length (.int (nI p))) t 3 (.int (nI (mks.length + 1)))) (p + 1)) v S9 V9)) (fun _ _ _ q => q)) rfl (by decide) (by decide) (Nat.le_of_ble_eq_true rfl) dX10_openChoice_43 ?_
    refine R_if_eq 87 dX10_openChoice_46 (by decide) (fun c46 => absurd c46 (by decide)) (fun c46 => ?_)
    exact open_tail hT3 hF3 hl
  · have h5 : ¬ mks.length < 5 := fun z => c12 ((nI_ltI (by omega) (by decide)).mpr z)
    have e15 : rOpen L p mks jm = .inl p := if_pos (by omega)
    rw [e15]
    refine R_iconst (v := 0) dX10_openChoice_15 (by decide) ?_
    refine R_zret rfl (by first | rfl | assumption) dX10_openChoice_16 ⟨rfl, FrT.refl, rfl, hln⟩

