/-! ===== templates: what one that was read is ===== -/
/-- where the number of a choice at p ends, and its value -/
noncomputable def hE (L : List Int32) (p : Nat) : Nat := (tNum L 57 3 (p + 3) (-1)).1
noncomputable def hN (L : List Int32) (p : Nat) : Int32 := (tNum L 57 3 (p + 3) (-1)).2
def CHd (L : List Int32) (p : Nat) : Prop := L.getD p 0 = 91 ∧ isFd (L.getD (p + 1) 0) ∧ isRl (L.getD (p + 2) 0) ∧ ¬ hN L p = -1 ∧ L.getD (hE L p) 0 = 63 ∧ p + 3 ≤ hE L p ∧ hE L p < L.length
/-- a text from p to q, within d choices, of at most n parts one behind another; where its choices go on -/
def wtx (L : List Int32) (jm : Nat → Option Nat) : Nat → Nat → Nat → Nat → Prop
  | 0, _, p, q => p = q
  | n + 1, d, p, q => p = q ∨
    (L.getD p 0 = 60 ∧ isFd (L.getD (p + 1) 0) ∧ L.getD (p + 2) 0 = 62 ∧ wtx L jm n d (p + 3) q) ∨
    (L.getD p 0 = 64 ∧ isDg (L.getD (p + 1) 0) 55 ∧ wtx L jm n d (p + 2) q) ∨
    (CHd L p ∧ d < 5 ∧ ∃ m e, L.getD m 0 = 124 ∧ L.getD e 0 = 93 ∧ jm p = some (m + 1) ∧ jm m = some (e + 1) ∧ wtx L jm n (d + 1) (hE L p + 1) m ∧ wtx L jm n (d + 1) (m + 1) e ∧ wtx L jm n d (e + 1) q) ∨
    (p < L.length ∧ (¬ L.getD p 0 = 60 ∧ ¬ L.getD p 0 = 64 ∧ ¬ L.getD p 0 = 91 ∧ ¬ L.getD p 0 = 124 ∧ ¬ L.getD p 0 = 93) ∧ wtx L jm n d (p + 1) q)
theorem wtx_le {L : List Int32} {jm : Nat → Option Nat} : ∀ {n d p q : Nat}, wtx L jm n d p q → p ≤ q := by
  intro n
  induction n with
  | zero => intro d p q h; exact Nat.le_of_eq h
  | succ n ih =>
    intro d p q h
    rcases h with h | ⟨-, -, -, h⟩ | ⟨-, -, h⟩ | ⟨hd, -, m, e, -, -, -, -, h1, h2, h3⟩ | ⟨-, -, h⟩
    · exact Nat.le_of_eq h
    · have := ih h; omega
    · have := ih h; omega
    · have := ih h1; have := ih h2; have := ih h3; have := hd.2.2.2.2.2.1; omega
    · have := ih h; omega
theorem wtx_up {L : List Int32} {jm : Nat → Option Nat} : ∀ {n d p q : Nat}, wtx L jm n d p q → wtx L jm (n + 1) d p q := by
  intro n
  induction n with
  | zero => intro d p q h; exact Or.inl h
  | succ n ih =>
    intro d p q h
    rcases h with h | ⟨a, b, c, h⟩ | ⟨a, b, h⟩ | ⟨hd, dd, m, e, a, b, c, f, h1, h2, h3⟩ | ⟨a, b, h⟩
    · exact Or.inl h
    · exact Or.inr (Or.inl ⟨a, b, c, ih h⟩)
    · exact Or.inr (Or.inr (Or.inl ⟨a, b, ih h⟩))
    · exact Or.inr (Or.inr (Or.inr (Or.inl ⟨hd, dd, m, e, a, b, c, f, ih h1, ih h2, ih h3⟩)))
    · exact Or.inr (Or.inr (Or.inr (Or.inr ⟨a, b, ih h⟩)))
theorem wtx_ge {L : List Int32} {jm : Nat → Option Nat} {n m d p q : Nat} (h : wtx L jm n d p q) (hm : n ≤ m) : wtx L jm m d p q := by
  obtain ⟨k, rfl⟩ := Nat.exists_eq_add_of_le hm
  clear hm
  induction k with
  | zero => exact h
  | succ k ih => exact wtx_up ih
theorem wtx_app {L : List Int32} {jm : Nat → Option Nat} {m d q s : Nat} (g : wtx L jm m d q s) : ∀ {n p : Nat}, wtx L jm n d p q → wtx L jm (n + m) d p s := by
  intro n
  induction n with
  | zero =>
    intro p h
    have e : p = q := h
    subst e
    rw [Nat.zero_add]; exact g
  | succ n ih =>
    intro p h
    rw [Nat.add_right_comm]
    rcases h with h | ⟨a, b, c, h⟩ | ⟨a, b, h⟩ | ⟨hd, dd, m', e, a, b, c, f, h1, h2, h3⟩ | ⟨a, b, h⟩
    · subst h; exact wtx_ge g (by omega)
    · exact Or.inr (Or.inl ⟨a, b, c, ih h⟩)
    · exact Or.inr (Or.inr (Or.inl ⟨a, b, ih h⟩))
    · exact Or.inr (Or.inr (Or.inr (Or.inl ⟨hd, dd, m', e, a, b, c, f, wtx_ge h1 (by omega), wtx_ge h2 (by omega), ih h3⟩)))
    · exact Or.inr (Or.inr (Or.inr (Or.inr ⟨a, b, ih h⟩)))
theorem wtx_cg {L : List Int32} {jm jm' : Nat → Option Nat} : ∀ {n d p q : Nat}, (∀ x, p ≤ x → x < q → jm x = jm' x) → wtx L jm n d p q → wtx L jm' n d p q := by
  intro n
  induction n with
  | zero => intro d p q _ h; exact h
  | succ n ih =>
    intro d p q hj h
    rcases h with h | ⟨a, b, c, h⟩ | ⟨a, b, h⟩ | ⟨hd, dd, m, e, a, b, c, f, h1, h2, h3⟩ | ⟨a, b, h⟩
    · exact Or.inl h
    · exact Or.inr (Or.inl ⟨a, b, c, ih (fun x q1 q2 => hj x (by omega) q2) h⟩)
    · exact Or.inr (Or.inr (Or.inl ⟨a, b, ih (fun x q1 q2 => hj x (by omega) q2) h⟩))
    · have l1 := wtx_le h1
      have l2 := wtx_le h2
      have l3 := wtx_le h3
      have l4 := hd.2.2.2.2.2.1
      exact Or.inr (Or.inr (Or.inr (Or.inl ⟨hd, dd, m, e, a, b, (hj p (by omega) (by omega)).symm.trans c, (hj m (by omega) (by omega)).symm.trans f, ih (fun x q1 q2 => hj x (by omega) (by omega)) h1, ih (fun x q1 q2 => hj x (by omega) (by omega)) h2, ih (fun x q1 q2 => hj x (by omega) (by omega)) h3⟩)))
    · exact Or.inr (Or.inr (Or.inr (Or.inr ⟨a, b, ih (fun x q1 q2 => hj x (by omega) q2) h⟩)))
/-- what has been read up to p, with the marks of the choices that are not closed -/
def cxt (L : List Int32) (jm : Nat → Option Nat) : List Nat → Nat → Prop
  | [], p => ∃ n, wtx L jm n 0 0 p
  | m :: r, p => (CHd L m ∧ cxt L jm r m ∧ ∃ n, wtx L jm n (r.length + 1) (hE L m + 1) p) ∨
    (L.getD m 0 = 124 ∧ ∃ b n k, CHd L b ∧ cxt L jm r b ∧ jm b = some (m + 1) ∧ wtx L jm n (r.length + 1) (hE L b + 1) m ∧ wtx L jm k (r.length + 1) (m + 1) p)
theorem cxt_cg {L : List Int32} {jm jm' : Nat → Option Nat} : ∀ {mks : List Nat} {p : Nat}, (∀ x, x < p → jm x = jm' x) → cxt L jm mks p → cxt L jm' mks p := by
  intro mks
  induction mks with
  | nil => intro p hj h; obtain ⟨n, h⟩ := h; exact ⟨n, wtx_cg (fun x _ q => hj x q) h⟩
  | cons m r ih =>
    intro p hj h
    rcases h with ⟨h1, h2, n, h3⟩ | ⟨h1, b, n, k, h2, h3, h4, h5, h6⟩
    · have l := wtx_le h3
      have l4 := h1.2.2.2.2.2.1
      exact Or.inl ⟨h1, ih (fun x q => hj x (by omega)) h2, n, wtx_cg (fun x _ q => hj x q) h3⟩
    · have l := wtx_le h5
      have l2 := wtx_le h6
      have l4 := h2.2.2.2.2.2.1
      exact Or.inr ⟨h1, b, n, k, h2, ih (fun x q => hj x (by omega)) h3, (hj b (by omega)).symm.trans h4, wtx_cg (fun x _ q => hj x (by omega)) h5, wtx_cg (fun x _ q => hj x q) h6⟩
theorem cxt_ext {L : List Int32} {jm : Nat → Option Nat} {mks : List Nat} {n p q : Nat} (h : cxt L jm mks p) (g : wtx L jm n mks.length p q) : cxt L jm mks q := by
  cases mks with
  | nil => obtain ⟨k, h⟩ := h; exact ⟨_, wtx_app g h⟩
  | cons m r =>
    rcases h with ⟨h1, h2, k, h3⟩ | ⟨h1, b, k, j, h2, h3, h4, h5, h6⟩
    · exact Or.inl ⟨h1, h2, _, wtx_app g h3⟩
    · exact Or.inr ⟨h1, b, k, _, h2, h3, h4, h5, wtx_app g h6⟩
theorem gd_lt {L : List Int32} {p : Nat} {c : Int32} (h : L.getD p 0 = c) (h0 : ¬ (0 : Int32) = c) : p < L.length := by
  refine Nat.lt_of_not_le fun z => h0 ?_
  rw [← h]
  simp [List.getD_eq_getElem?_getD, z]
theorem dg_lt2 {L : List Int32} {p : Nat} {hi : Int32} (q : isDg (L.getD p 0) hi) : p < L.length := by
  refine Nat.lt_of_not_le fun z => ?_
  have : L.getD p 0 = 0 := by simp [List.getD_eq_getElem?_getD, z]
  rw [this] at q
  exact absurd q.1 (by decide)
theorem hE_le {L : List Int32} {p : Nat} (h : isRl (L.getD (p + 2) 0)) : p + 3 ≤ hE L p := (tNum_le (hh := 0) 3 (p + 3) (-1) (by have := rl_lt h; omega)).1
theorem rPart_cxt {L : List Int32} {p p' : Nat} {mks mks' : List Nat} {jm jm' : Nat → Option Nat} (h : cxt L jm mks p) (h5 : mks.length ≤ 5) (hp : p < L.length) (e : rPart L p mks jm = .inr (p', mks', jm')) : cxt L jm' mks' p' ∧ mks'.length ≤ 5 ∧ p < p' ∧ p' ≤ L.length := by
  unfold rPart at e
  split at e
  · rename_i c1
    split at e
    · cases e
    · rename_i c2
      split at e
      · rename_i c3
        cases e
        exact ⟨cxt_ext (n := 1) h (Or.inr (Or.inl ⟨c1, Classical.not_not.1 c2, c3.2, rfl⟩)), h5, by omega, by omega⟩
      · cases e
  · rename_i c1
    split at e
    · rename_i c2
      split at e
      · rename_i c3
        cases e
        exact ⟨cxt_ext (n := 1) h (Or.inr (Or.inr (Or.inl ⟨c2, c3, rfl⟩))), h5, by omega, by have := dg_lt2 c3; omega⟩
      · cases e
    · rename_i c2
      split at e
      · rename_i c3
        unfold rOpen at e
        split at e
        · cases e
        · rename_i d1
          split at e
          · cases e
          · rename_i d2
            split at e
            · cases e
            · rename_i d3
              split at e
              · cases e
              · rename_i d4
                split at e
                · rename_i d5
                  cases e
                  have hr := Classical.not_not.1 d3
                  have hh := hE_le hr
                  refine ⟨Or.inl ⟨⟨c3, Classical.not_not.1 d2, hr, d4, d5.2, hh, d5.1⟩, h, 0, rfl⟩, ?_, ?_, d5.1⟩
                  · show mks.length + 1 ≤ 5
                    omega
                  · have : p + 3 ≤ (tNum L 57 3 (p + 3) (-1)).1 := hh
                    omega
                · cases e
      · rename_i c3
        split at e
        · rename_i c4
          unfold rTurn at e
          cases mks with
          | nil => cases e
          | cons m r =>
            dsimp only at e
            split at e
            · rename_i d1
              cases e
              have hx : CHd L m ∧ cxt L jm r m ∧ ∃ n, wtx L jm n (r.length + 1) (hE L m + 1) p := by
                rcases h with h | ⟨h, -⟩
                · exact h
                · rw [d1] at h; exact absurd h (by decide)
              obtain ⟨h1, h2, n, h3⟩ := hx
              have l := wtx_le h3
              have l4 := h1.2.2.2.2.2.1
              refine ⟨Or.inr ⟨c4, m, n, 0, h1, cxt_cg (fun x q => ?_) h2, if_pos rfl, wtx_cg (fun x q _ => ?_) h3, rfl⟩, h5, by omega, by omega⟩
              · exact (if_neg (by omega)).symm
              · exact (if_neg (by omega)).symm
            · cases e
        · rename_i c4
          split at e
          · rename_i c5
            unfold rClose at e
            cases mks with
            | nil => cases e
            | cons m r =>
              dsimp only at e
              split at e
              · rename_i d1
                cases e
                have hx : ∃ b n k, CHd L b ∧ cxt L jm mks' b ∧ jm b = some (m + 1) ∧ wtx L jm n (mks'.length + 1) (hE L b + 1) m ∧ wtx L jm k (mks'.length + 1) (m + 1) p := by
                  rcases h with ⟨h, -⟩ | ⟨-, h⟩
                  · have := h.1; rw [d1] at this; exact absurd this (by decide)
                  · exact h
                obtain ⟨b, n, k, h1, h2, h3, h4, h6⟩ := hx
                have l := wtx_le h4
                have l2 := wtx_le h6
                have l4 := h1.2.2.2.2.2.1
                have hr : mks'.length < 5 := h5
                refine ⟨cxt_ext (n := n + k + 1) (cxt_cg (jm' := jSet jm m (p + 1)) (fun x q => (if_neg (by omega)).symm) h2) (Or.inr (Or.inr (Or.inr (Or.inl ⟨h1, hr, m, p, d1, c5, ?_, if_pos rfl, wtx_ge (wtx_cg (fun x _ q => ?_) h4) (by omega), wtx_ge (wtx_cg (fun x q _ => ?_) h6) (by omega), wtx_ge (n := 0) rfl (by omega)⟩)))), by omega, by omega, by omega⟩
                · exact (if_neg (by omega)).trans h3
                · exact (if_neg (by omega)).symm
                · exact (if_neg (by omega)).symm
              · cases e
          · rename_i c5
            cases e
            exact ⟨cxt_ext (n := 1) h (Or.inr (Or.inr (Or.inr (Or.inr ⟨hp, ⟨c1, c2, c3, c4, c5⟩, rfl⟩)))), h5, by omega, by omega⟩
theorem rAll_cxt {L : List Int32} : ∀ {m p p' : Nat} {mks mks' : List Nat} {jm jm' : Nat → Option Nat}, cxt L jm mks p → mks.length ≤ 5 → p ≤ L.length → rAll L m p mks jm = .inr (p', mks', jm') → cxt L jm' mks' p' ∧ mks'.length ≤ 5 ∧ p' ≤ L.length ∧ (L.length ≤ p + m → p' = L.length) := by
  intro m
  induction m with
  | zero =>
    intro p p' mks mks' jm jm' h h5 hp e
    cases e
    exact ⟨h, h5, hp, fun q => by omega⟩
  | succ m ih =>
    intro p p' mks mks' jm jm' h h5 hp e
    by_cases c : L.length ≤ p
    · rw [rAll_end c] at e
      cases e
      exact ⟨h, h5, hp, fun q => by omega⟩
    · cases hr : rPart L p mks jm with
      | inl q => rw [rAll_l c hr] at e; cases e
      | inr r =>
        rw [rAll_r c hr] at e
        obtain ⟨g1, g2, g3, g4⟩ := rPart_cxt (p' := r.1) (mks' := r.2.1) (jm' := r.2.2) h h5 (by omega) hr
        obtain ⟨f1, f2, f3, f4⟩ := ih g1 g2 g4 e
        exact ⟨f1, f2, f3, fun q => f4 (by omega)⟩
/-- where a template's choices go on -/
noncomputable def jmOf (L : List Int32) : Nat → Option Nat := match rAll L 96 0 [] (fun _ => none) with
  | .inl _ => fun _ => none
  | .inr r => r.2.2
/-- it is one text -/
def TOK (L : List Int32) : Prop := L.length ≤ 96 ∧ ∃ n, wtx L (jmOf L) n 0 0 L.length
theorem rAll_tok {L : List Int32} {p : Nat} {jm : Nat → Option Nat} (hl : L.length ≤ 96) (e : rAll L 96 0 [] (fun _ => none) = .inr (p, [], jm)) : TOK L ∧ jm = jmOf L ∧ p = L.length := by
  have ej : jm = jmOf L := by unfold jmOf; rw [e]
  obtain ⟨f1, f2, f3, f4⟩ := rAll_cxt (L := L) (m := 96) (p := 0) (mks := []) (jm := fun _ => none) ⟨0, rfl⟩ (by decide) (Nat.zero_le _) e
  have hp := f4 (by omega)
  subst hp
  subst ej
  exact ⟨⟨hl, f1⟩, rfl, rfl⟩
theorem rAll_end2 {L : List Int32} {p : Nat} {mks : List Nat} {jm : Nat → Option Nat} (hl : L.length ≤ 96) (e : rAll L 96 0 [] (fun _ => none) = .inr (p, mks, jm)) : p = L.length :=
  (rAll_cxt (L := L) (m := 96) (p := 0) (mks := []) (jm := fun _ => none) ⟨0, rfl⟩ (by decide) (Nat.zero_le _) e).2.2.2 (by omega)
