/-! ===== the text of a template: what it must be ===== -/
abbrev TxR : Type := List Int32 ⊕ (Int32 × List (Nat × Nat))
/-- which template an @ at p names -/
def dgt (L : List Int32) (p : Nat) : Nat := (L.getD (p + 1) 0 - 48).toNatClampNeg
/-- which field a < at p names -/
def fdx (L : List Int32) (p : Nat) : Nat := (fIx (L.getD (p + 1) 0)).toNatClampNeg
section GO
variable (T : Nat → List Int32) (to : Nat → Bool) (jp : Nat → Nat → Option Nat) (w : Nat → List Int32) (vl : Nat → Nat)
/-- where one goes on at a choice, at its bar, at its end -/
noncomputable def mvT (n p : Nat) : Option Nat :=
  if (T n).getD p 0 = 91 then some (if hld (hVal vl ((T n).getD (p + 1) 0)) ((T n).getD (p + 2) 0) (hN (T n) p) then hE (T n) p + 1 else (jp n p).getD 0)
  else if (T n).getD p 0 = 124 then some ((jp n p).getD 0)
  else if (T n).getD p 0 = 93 then some (p + 1) else none
/-- what comes of the template n from p on, behind x, with d levels more -/
noncomputable def go (d n p : Nat) (x : List Int32) : TxR :=
  if hl : (T n).length ≤ p then .inl x
  else if (T n).getD p 0 = 64 then
    (if to (dgt (T n) p) = true then
      (match d with
        | 0 => .inr (2, [(n, p)])
        | d + 1 => match go d (dgt (T n) p) 0 x with
          | .inl x' => go (d + 1) n (p + 2) x'
          | .inr r => .inr (r.1, (n, p) :: r.2))
      else .inr (1, [(n, p)]))
  else if (T n).getD p 0 = 60 then
    (if 160 - x.length < (w (fdx (T n) p)).length then .inr (3, [(n, p)]) else go d n (p + 3) (x ++ w (fdx (T n) p)))
  else match mvT T jp vl n p with
    | some q => if hq : p < q then go d n q x else .inl x
    | none => if 160 ≤ x.length then .inr (3, [(n, p)]) else go d n (p + 1) (x ++ [(T n).getD p 0])
termination_by (d, (T n).length - p)
decreasing_by all_goals first | (apply Prod.Lex.left; omega) | (apply Prod.Lex.right; omega) | decreasing_tactic
end GO
section GO2
variable {T : Nat → List Int32} {to : Nat → Bool} {jp : Nat → Nat → Option Nat} {w : Nat → List Int32} {vl : Nat → Nat} {d n p : Nat} {x : List Int32}
theorem go_end (h : (T n).length ≤ p) : go T to jp w vl d n p x = .inl x := by rw [go.eq_def, dif_pos h]
theorem go_at0 (h : ¬ (T n).length ≤ p) (c : (T n).getD p 0 = 64) (t : ¬ to (dgt (T n) p) = true) : go T to jp w vl d n p x = .inr (1, [(n, p)]) := by rw [go.eq_def, dif_neg h, if_pos c, if_neg t]
theorem go_at1 (h : ¬ (T n).length ≤ p) (c : (T n).getD p 0 = 64) (t : to (dgt (T n) p) = true) : go T to jp w vl 0 n p x = .inr (2, [(n, p)]) := by rw [go.eq_def, dif_neg h, if_pos c, if_pos t]
theorem go_at2 (h : ¬ (T n).length ≤ p) (c : (T n).getD p 0 = 64) (t : to (dgt (T n) p) = true) {r : Int32 × List (Nat × Nat)} (e : go T to jp w vl d (dgt (T n) p) 0 x = .inr r) : go T to jp w vl (d + 1) n p x = .inr (r.1, (n, p) :: r.2) := by
  rw [go.eq_def, dif_neg h, if_pos c, if_pos t]
  dsimp only
  rw [e]
theorem go_at3 (h : ¬ (T n).length ≤ p) (c : (T n).getD p 0 = 64) (t : to (dgt (T n) p) = true) {x1 : List Int32} (e : go T to jp w vl d (dgt (T n) p) 0 x = .inl x1) : go T to jp w vl (d + 1) n p x = go T to jp w vl (d + 1) n (p + 2) x1 := by
  rw [go.eq_def T to jp w vl (d + 1) n p x, dif_neg h, if_pos c, if_pos t]
  dsimp only
  rw [e]
theorem go_f0 (h : ¬ (T n).length ≤ p) (c : (T n).getD p 0 = 60) (l : 160 - x.length < (w (fdx (T n) p)).length) : go T to jp w vl d n p x = .inr (3, [(n, p)]) := by
  rw [go.eq_def, dif_neg h, if_neg (by rw [c]; decide), if_pos c, if_pos l]
theorem go_f1 (h : ¬ (T n).length ≤ p) (c : (T n).getD p 0 = 60) (l : ¬ 160 - x.length < (w (fdx (T n) p)).length) : go T to jp w vl d n p x = go T to jp w vl d n (p + 3) (x ++ w (fdx (T n) p)) := by
  rw [go.eq_def T to jp w vl d n p x, dif_neg h, if_neg (by rw [c]; decide), if_pos c, if_neg l]
theorem go_mv (h : ¬ (T n).length ≤ p) (c1 : ¬ (T n).getD p 0 = 64) (c2 : ¬ (T n).getD p 0 = 60) {q : Nat} (m : mvT T jp vl n p = some q) (hq : p < q) : go T to jp w vl d n p x = go T to jp w vl d n q x := by
  rw [go.eq_def T to jp w vl d n p x, dif_neg h, if_neg c1, if_neg c2, m]
  dsimp only
  rw [dif_pos hq]
theorem go_m0 (h : ¬ (T n).length ≤ p) (c1 : ¬ (T n).getD p 0 = 64) (c2 : ¬ (T n).getD p 0 = 60) {q : Nat} (m : mvT T jp vl n p = some q) (hq : ¬ p < q) : go T to jp w vl d n p x = .inl x := by
  rw [go.eq_def T to jp w vl d n p x, dif_neg h, if_neg c1, if_neg c2, m]
  dsimp only
  rw [dif_neg hq]
theorem go_s0 (h : ¬ (T n).length ≤ p) (c1 : ¬ (T n).getD p 0 = 64) (c2 : ¬ (T n).getD p 0 = 60) (m : mvT T jp vl n p = none) (l : 160 ≤ x.length) : go T to jp w vl d n p x = .inr (3, [(n, p)]) := by
  rw [go.eq_def, dif_neg h, if_neg c1, if_neg c2, m]
  dsimp only
  rw [if_pos l]
theorem go_s1 (h : ¬ (T n).length ≤ p) (c1 : ¬ (T n).getD p 0 = 64) (c2 : ¬ (T n).getD p 0 = 60) (m : mvT T jp vl n p = none) (l : ¬ 160 ≤ x.length) : go T to jp w vl d n p x = go T to jp w vl d n (p + 1) (x ++ [(T n).getD p 0]) := by
  rw [go.eq_def T to jp w vl d n p x, dif_neg h, if_neg c1, if_neg c2, m]
  dsimp only
  rw [if_neg l]
theorem mv_s (c : ¬ (T n).getD p 0 = 91) (c2 : ¬ (T n).getD p 0 = 124) (c3 : ¬ (T n).getD p 0 = 93) : mvT T jp vl n p = none := by unfold mvT; rw [if_neg c, if_neg c2, if_neg c3]
theorem mv_e (c : (T n).getD p 0 = 93) : mvT T jp vl n p = some (p + 1) := by unfold mvT; rw [if_neg (by rw [c]; decide), if_neg (by rw [c]; decide), if_pos c]
theorem mv_b (c : (T n).getD p 0 = 124) : mvT T jp vl n p = some ((jp n p).getD 0) := by unfold mvT; rw [if_neg (by rw [c]; decide), if_pos c]
theorem mv_a (c : (T n).getD p 0 = 91) : mvT T jp vl n p = some (if hld (hVal vl ((T n).getD (p + 1) 0)) ((T n).getD (p + 2) 0) (hN (T n) p) then hE (T n) p + 1 else (jp n p).getD 0) := by unfold mvT; rw [if_pos c]
end GO2
section GO3
variable {T : Nat → List Int32} {to : Nat → Bool} {jp : Nat → Nat → Option Nat} {w : Nat → List Int32} {vl : Nat → Nat}
/-- what was written stands ahead of what comes -/
theorem go_pre : ∀ (d k n p : Nat) (x x' : List Int32), (T n).length - p ≤ k → go T to jp w vl d n p x = .inl x' → x <+: x' := by
  intro d
  induction d using Nat.strongRecOn with
  | _ d ihd =>
    intro k
    induction k with
    | zero =>
      intro n p x x' hk h
      rw [go_end (by omega)] at h
      cases h
      exact List.prefix_refl _
    | succ k ih =>
      intro n p x x' hk h
      by_cases hl : (T n).length ≤ p
      · rw [go_end hl] at h
        cases h
        exact List.prefix_refl _
      by_cases c1 : (T n).getD p 0 = 64
      · by_cases t : to (dgt (T n) p) = true
        · cases d with
          | zero => rw [go_at1 hl c1 t] at h; cases h
          | succ d =>
            cases e : go T to jp w vl d (dgt (T n) p) 0 x with
            | inr r => rw [go_at2 hl c1 t e] at h; cases h
            | inl x1 =>
              rw [go_at3 hl c1 t e] at h
              exact (ihd d (by omega) _ _ _ _ _ (Nat.le_refl _) e).trans (ih _ _ _ _ (by omega) h)
        · rw [go_at0 hl c1 t] at h; cases h
      by_cases c2 : (T n).getD p 0 = 60
      · by_cases l : 160 - x.length < (w (fdx (T n) p)).length
        · rw [go_f0 hl c2 l] at h; cases h
        · rw [go_f1 hl c2 l] at h
          exact (List.prefix_append _ _).trans (ih _ _ _ _ (by omega) h)
      cases m : mvT T jp vl n p with
      | some q =>
        by_cases hq : p < q
        · rw [go_mv hl c1 c2 m hq] at h
          exact ih _ _ _ _ (by omega) h
        · rw [go_m0 hl c1 c2 m hq] at h
          cases h
          exact List.prefix_refl _
      | none =>
        by_cases l : 160 ≤ x.length
        · rw [go_s0 hl c1 c2 m l] at h; cases h
        · rw [go_s1 hl c1 c2 m l] at h
          exact (List.prefix_append _ _).trans (ih _ _ _ _ (by omega) h)
theorem pre_eq {x y : List Int32} (h : x <+: y) (g : y <+: x) : y = x := by
  have l1 := h.length_le
  have l2 := g.length_le
  exact (h.eq_of_length (by omega)).symm
/-- what writes nothing writes nothing behind any text -/
theorem go_still : ∀ (d k n p : Nat) (x y : List Int32), (T n).length - p ≤ k → y.length ≤ 160 → go T to jp w vl d n p x = .inl x → go T to jp w vl d n p y = .inl y := by
  intro d
  induction d using Nat.strongRecOn with
  | _ d ihd =>
    intro k
    induction k with
    | zero =>
      intro n p x y hk hy h
      exact go_end (by omega)
    | succ k ih =>
      intro n p x y hk hy h
      by_cases hl : (T n).length ≤ p
      · exact go_end hl
      by_cases c1 : (T n).getD p 0 = 64
      · by_cases t : to (dgt (T n) p) = true
        · cases d with
          | zero => rw [go_at1 hl c1 t] at h; cases h
          | succ d =>
            cases e : go T to jp w vl d (dgt (T n) p) 0 x with
            | inr r => rw [go_at2 hl c1 t e] at h; cases h
            | inl x1 =>
              rw [go_at3 hl c1 t e] at h
              have e1 := pre_eq (go_pre _ _ _ _ _ _ (Nat.le_refl _) e) (go_pre _ _ _ _ _ _ (Nat.le_refl _) h)
              subst e1
              rw [go_at3 hl c1 t (ihd d (by omega) _ _ _ _ y (Nat.le_refl _) hy e)]
              exact ih _ _ _ _ (by omega) hy h
        · rw [go_at0 hl c1 t] at h; cases h
      by_cases c2 : (T n).getD p 0 = 60
      · by_cases l : 160 - x.length < (w (fdx (T n) p)).length
        · rw [go_f0 hl c2 l] at h; cases h
        · rw [go_f1 hl c2 l] at h
          have e1 := pre_eq (List.prefix_append x (w (fdx (T n) p))) (go_pre _ _ _ _ _ _ (Nat.le_refl _) h)
          have e2 : w (fdx (T n) p) = [] := List.append_right_eq_self.1 e1
          rw [e1] at h
          rw [go_f1 hl c2 (by rw [e2]; simp), e2, List.append_nil]
          exact ih _ _ _ _ (by omega) hy h
      cases m : mvT T jp vl n p with
      | some q =>
        by_cases hq : p < q
        · rw [go_mv hl c1 c2 m hq] at h ⊢
          exact ih _ _ _ _ (by omega) hy h
        · exact go_m0 hl c1 c2 m hq
      | none =>
        by_cases l : 160 ≤ x.length
        · rw [go_s0 hl c1 c2 m l] at h; cases h
        · rw [go_s1 hl c1 c2 m l] at h
          have l1 := (go_pre _ _ _ _ _ _ (Nat.le_refl _) h).length_le
          rw [List.length_append] at l1
          simp at l1
          omega
/-- its kinds of trouble, and its length -/
theorem go_len : ∀ (d k n p : Nat) (x x' : List Int32), (T n).length - p ≤ k → x.length ≤ 160 → go T to jp w vl d n p x = .inl x' → x'.length ≤ 160 := by
  intro d
  induction d using Nat.strongRecOn with
  | _ d ihd =>
    intro k
    induction k with
    | zero =>
      intro n p x x' hk hx h
      rw [go_end (by omega)] at h
      cases h
      exact hx
    | succ k ih =>
      intro n p x x' hk hx h
      by_cases hl : (T n).length ≤ p
      · rw [go_end hl] at h
        cases h
        exact hx
      by_cases c1 : (T n).getD p 0 = 64
      · by_cases t : to (dgt (T n) p) = true
        · cases d with
          | zero => rw [go_at1 hl c1 t] at h; cases h
          | succ d =>
            cases e : go T to jp w vl d (dgt (T n) p) 0 x with
            | inr r => rw [go_at2 hl c1 t e] at h; cases h
            | inl x1 =>
              rw [go_at3 hl c1 t e] at h
              exact ih _ _ _ _ (by omega) (ihd d (by omega) _ _ _ _ _ (Nat.le_refl _) hx e) h
        · rw [go_at0 hl c1 t] at h; cases h
      by_cases c2 : (T n).getD p 0 = 60
      · by_cases l : 160 - x.length < (w (fdx (T n) p)).length
        · rw [go_f0 hl c2 l] at h; cases h
        · rw [go_f1 hl c2 l] at h
          exact ih _ _ _ _ (by omega) (by rw [List.length_append]; omega) h
      cases m : mvT T jp vl n p with
      | some q =>
        by_cases hq : p < q
        · rw [go_mv hl c1 c2 m hq] at h
          exact ih _ _ _ _ (by omega) hx h
        · rw [go_m0 hl c1 c2 m hq] at h
          cases h
          exact hx
      | none =>
        by_cases l : 160 ≤ x.length
        · rw [go_s0 hl c1 c2 m l] at h; cases h
        · rw [go_s1 hl c1 c2 m l] at h
          exact ih _ _ _ _ (by omega) (by simp; omega) h
/-- of what signs it is -/
theorem go_all {P : Int32 → Prop} (hT : ∀ n, ∀ c ∈ T n, P c) (hw : ∀ f, ∀ c ∈ w f, P c) : ∀ (d k n p : Nat) (x x' : List Int32), (T n).length - p ≤ k → (∀ c ∈ x, P c) → go T to jp w vl d n p x = .inl x' → ∀ c ∈ x', P c := by
  intro d
  induction d using Nat.strongRecOn with
  | _ d ihd =>
    intro k
    induction k with
    | zero =>
      intro n p x x' hk hx h
      rw [go_end (by omega)] at h
      cases h
      exact hx
    | succ k ih =>
      intro n p x x' hk hx h
      by_cases hl : (T n).length ≤ p
      · rw [go_end hl] at h
        cases h
        exact hx
      by_cases c1 : (T n).getD p 0 = 64
      · by_cases t : to (dgt (T n) p) = true
        · cases d with
          | zero => rw [go_at1 hl c1 t] at h; cases h
          | succ d =>
            cases e : go T to jp w vl d (dgt (T n) p) 0 x with
            | inr r => rw [go_at2 hl c1 t e] at h; cases h
            | inl x1 =>
              rw [go_at3 hl c1 t e] at h
              exact ih _ _ _ _ (by omega) (ihd d (by omega) _ _ _ _ _ (Nat.le_refl _) hx e) h
        · rw [go_at0 hl c1 t] at h; cases h
      by_cases c2 : (T n).getD p 0 = 60
      · by_cases l : 160 - x.length < (w (fdx (T n) p)).length
        · rw [go_f0 hl c2 l] at h; cases h
        · rw [go_f1 hl c2 l] at h
          exact ih _ _ _ _ (by omega) (fun c hc => (List.mem_append.1 hc).elim (hx c) (hw _ c)) h
      cases m : mvT T jp vl n p with
      | some q =>
        by_cases hq : p < q
        · rw [go_mv hl c1 c2 m hq] at h
          exact ih _ _ _ _ (by omega) hx h
        · rw [go_m0 hl c1 c2 m hq] at h
          cases h
          exact hx
      | none =>
        by_cases l : 160 ≤ x.length
        · rw [go_s0 hl c1 c2 m l] at h; cases h
        · rw [go_s1 hl c1 c2 m l] at h
          refine ih _ _ _ _ (by omega) (fun c hc => (List.mem_append.1 hc).elim (hx c) (fun hc => ?_)) h
          rw [List.mem_singleton.1 hc, List.getD_eq_getElem?_getD, List.getElem?_eq_getElem (by omega)]
          exact hT n _ (List.getElem_mem _)
end GO3
