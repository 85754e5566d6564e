/-! ===== the law: what a household writes ===== -/
def tl (x : Nat) : List Int32 := (if 100 ≤ x then [nI (48 + x / 100)] else []) ++ ((if 10 ≤ x then [nI (48 + x / 10 % 10)] else []) ++ [nI (48 + x % 10)])
theorem digs_tab : ((List.range 1000).all fun x => digs x == tl x) = true := by decide +kernel
theorem digs_tl {x : Nat} (h : x < 1000) : digs x = tl x := beq_iff_eq.1 (List.all_eq_true.1 digs_tab x (List.mem_range.2 h))
theorem tl_len {x : Nat} : (tl x).length ≤ 3 ∧ 1 ≤ (tl x).length := by
  unfold tl
  rw [List.length_append, List.length_append]
  split <;> split <;> simp
/-- a piece of a text -/
def PF (x : List Int32) (k : Nat) (y : List Int32) : Prop := ∃ t u, x = t ++ (y ++ u) ∧ t.length = k
theorem PF.full (x : List Int32) : PF x 0 x := ⟨[], [], by simp, rfl⟩
theorem PF.l {x y z : List Int32} {k : Nat} (h : PF x k (y ++ z)) : PF x k y := by
  obtain ⟨t, u, e, l⟩ := h
  exact ⟨t, z ++ u, by rw [e, List.append_assoc], l⟩
theorem PF.r {x y z : List Int32} {k : Nat} (h : PF x k (y ++ z)) : PF x (k + y.length) z := by
  obtain ⟨t, u, e, l⟩ := h
  exact ⟨t ++ y, u, by rw [e]; simp only [List.append_assoc], by rw [List.length_append, l]⟩
theorem PF.hd {x : List Int32} {k : Nat} {c : Int32} (h : PF x k [c]) : x.getD k 0 = c ∧ k < x.length := by
  obtain ⟨t, u, rfl, rfl⟩ := h
  exact ⟨by simp [List.getD_eq_getElem?_getD], by simp⟩
theorem PF.le {x y : List Int32} {k : Nat} (h : PF x k y) : k + y.length ≤ x.length := by
  obtain ⟨t, u, rfl, rfl⟩ := h
  simp only [List.length_append]
  omega
theorem PF.end {x : List Int32} {k : Nat} (h : k = x.length) : lAt x (nI k) = 0 ∨ 2 ^ 31 ≤ k := by
  by_cases q : k < 2 ^ 31
  · refine Or.inl ?_
    unfold lAt sAt
    rw [if_neg (by rw [nI_toInt q]; omega)]
  · exact Or.inr (by omega)
theorem lAt_n {x : List Int32} {k : Nat} (h : k < x.length) (q : k < 2 ^ 31) : lAt x (nI k) = x.getD k 0 := by
  unfold lAt sAt
  rw [if_pos (by rw [nI_toInt q]; omega), nI_clamp q]
/-! names -/
def nmP (ent : Nat → EntN) (g j : Nat) : List Int32 := if g.testBit j = true then (if bcn g j = 0 then (ent j).1 else [32, 38, 32] ++ (ent j).1) else []
theorem gW_0 (ent : Nat → EntN) (g j : Nat) : (gW ent g (j + 1)).1 0 = (gW ent g j).1 0 ++ nmP ent g j := by
  unfold nmP
  rcases q : g.testBit j with _ | _
  · rw [gW_f q, if_neg (by decide), List.append_nil]
  · rw [gW_t q, if_pos rfl]
    show amW _ _ _ 0 = _
    unfold amW
    rw [gW_bcn]
    by_cases z : bcn g j = 0
    · rw [if_pos z, if_pos z, upN_s]
    · rw [if_neg z, if_neg z, upN_s, List.append_assoc]
theorem nm_pf {ent : Nat → EntN} {g : Nat} {x : List Int32} {k : Nat} : ∀ (m j : Nat), PF x k ((gW ent g (j + m + 1)).1 0) → PF x (k + ((gW ent g j).1 0).length) (nmP ent g j) := by
  intro m
  induction m with
  | zero =>
    intro j h
    rw [Nat.add_zero, gW_0] at h
    exact h.r
  | succ m ih =>
    intro j h
    rw [show j + (m + 1) + 1 = (j + m + 1) + 1 by omega, gW_0] at h
    exact ih j h.l
theorem nm_12 {ent : Nat → EntN} {g j : Nat} {x : List Int32} {k : Nat} (hj : j < 12) (h : PF x k ((gW ent g 12).1 0)) : PF x (k + ((gW ent g j).1 0).length) (nmP ent g j) :=
  nm_pf (11 - j) j (by rw [show j + (11 - j) + 1 = 12 by omega]; exact h)
theorem nm_len {ent : Nat → EntN} {g n : Nat} (hE : ∀ k, k < n → (ent k).1.length = 2) (hg : ∀ k, g.testBit k = true → k < n) : ∀ j, ((gW ent g j).1 0).length ≤ 5 * bcn g j ∧ (1 ≤ bcn g j → ((gW ent g j).1 0).length + 3 ≤ 5 * bcn g j) := by
  intro j
  induction j with
  | zero => exact ⟨Nat.le_refl _, fun h => absurd (show 1 ≤ 0 from h) (by decide)⟩
  | succ j ih =>
    rw [gW_0, List.length_append]
    show _ ≤ 5 * (bcn g j + if _ then 1 else 0) ∧ (1 ≤ (bcn g j + if _ then 1 else 0) → _ ≤ 5 * (bcn g j + if _ then 1 else 0))
    unfold nmP
    by_cases q : g.testBit j = true
    · rw [if_pos q, if_pos q]
      have e := hE j (hg j q)
      by_cases z : bcn g j = 0
      · rw [if_pos z, e]; omega
      · rw [if_neg z, List.length_append, e]
        simp only [List.length_cons, List.length_nil]
        omega
    · rw [if_neg q, if_neg q]
      simp only [List.length_nil]
      omega
theorem pts_le {ent : Nat → EntN} {g : Nat} (hE : ∀ k, k < 12 → (ent k).2.2.2.2 < 100) : ∀ j, j ≤ 12 → (gW ent g j).2 4 ≤ 99 * bcn g j := by
  intro j
  induction j with
  | zero => intro _; exact Nat.le_refl _
  | succ j ih =>
    intro hj
    rw [gW_4]
    show _ ≤ 99 * (bcn g j + if _ then 1 else 0)
    have := ih (by omega)
    by_cases q : g.testBit j = true
    · rw [if_pos q, if_pos q]
      have := hE j (by omega)
      omega
    · rw [if_neg q, if_neg q]; omega
/-- the lowest member's -/
theorem gW_low {ent : Nat → EntN} {g a : Nat} (h1 : g.testBit a = true) (h0 : ∀ i, i < a → g.testBit i = false) : ∀ m, (gW ent g (a + m + 1)).1 1 = (ent a).2.1 ∧ (gW ent g (a + m + 1)).2 2 = (ent a).2.2.1 ∧ (gW ent g (a + m + 1)).2 3 = (ent a).2.2.2.1 ∧ (gW ent g a).1 0 = [] ∧ bcn g a = 0 := by
  have hb : ∀ j, j ≤ a → bcn g j = 0 ∧ gW ent g j = (fun _ => [], fun _ => 0) := by
    intro j
    induction j with
    | zero => intro _; exact ⟨rfl, rfl⟩
    | succ j ih =>
      intro hj
      obtain ⟨i1, i2⟩ := ih (by omega)
      have hf := h0 j (by omega)
      exact ⟨by show bcn g j + (if _ then 1 else 0) = 0; rw [if_neg (by rw [hf]; decide), i1], by rw [gW_f hf, i2]⟩
  obtain ⟨b1, b2⟩ := hb a (Nat.le_refl _)
  intro m
  induction m with
  | zero =>
    rw [Nat.add_zero, gW_t h1, b2]
    refine ⟨?_, ?_, ?_, rfl, b1⟩
    · show amW (fun _ => []) (fun _ => 0) (ent a) 1 = _
      unfold amW
      rw [if_pos rfl, upN_n (by decide), upN_s]
    · show amV (fun _ => 0) (ent a) 2 = _
      unfold amV
      rw [if_pos rfl, upN_n (by decide), upN_n (by decide), upN_n (by decide), upN_s]
    · show amV (fun _ => 0) (ent a) 3 = _
      unfold amV
      rw [if_pos rfl, upN_n (by decide), upN_n (by decide), upN_s]
  | succ m ih =>
    obtain ⟨i1, i2, i3, i4, i5⟩ := ih
    rw [show a + (m + 1) + 1 = (a + m + 1) + 1 by omega]
    rcases q : g.testBit (a + m + 1) with _ | _
    · rw [gW_f q]; exact ⟨i1, i2, i3, i4, i5⟩
    · rw [gW_t q]
      have hp : ¬ (gW ent g (a + m + 1)).2 5 = 0 := by
        rw [gW_bcn]
        have := bcn_pos h1 (a + m + 1) (by omega)
        omega
      refine ⟨?_, ?_, ?_, i4, i5⟩
      · show amW _ _ _ 1 = _
        unfold amW
        rw [if_neg hp, upN_n (by decide), i1]
      · show amV _ _ 2 = _
        unfold amV
        rw [if_neg hp, upN_n (by decide), upN_n (by decide), i2]
      · show amV _ _ 3 = _
        unfold amV
        rw [if_neg hp, upN_n (by decide), upN_n (by decide), i3]
/-- all that the law uses of a group's household -/
def HH (ent : Nat → EntN) (n g a : Nat) : Prop := g < 2 ^ 12 ∧ a < n ∧ n ≤ 9 ∧ g.testBit a = true ∧ (∀ i, i < a → g.testBit i = false) ∧ (∀ k, g.testBit k = true → k < n) ∧ (∀ k, k < n → (ent k).1.length = 2 ∧ (ent k).2.1 = [nI (97 + k)]) ∧ ∀ k, k < 12 → EB (ent k)
section HHS
variable {ent : Nat → EntN} {n g a : Nat}
theorem HH.bc (h : HH ent n g a) : 1 ≤ bcn g 12 ∧ bcn g 12 ≤ 9 := by
  obtain ⟨h1, h2, h3, h4, h5, h6, h7, h8⟩ := h
  exact ⟨bcn_pos h4 12 (by omega), Nat.le_trans (bcn_of h6 12) h3⟩
theorem HH.v (h : HH ent n g a) : fV ent g 2 = (ent a).2.2.1 ∧ fV ent g 3 = (ent a).2.2.2.1 ∧ fV ent g 4 = (gW ent g 12).2 4 ∧ fV ent g 5 = bcn g 12 ∧ (gW ent g 12).2 4 < 1000 := by
  obtain ⟨h1, h2, h3, h4, h5, h6, h7, h8⟩ := id h
  obtain ⟨q1, q2, q3, -, -⟩ := gW_low (ent := ent) h4 h5 (11 - a)
  rw [show a + (11 - a) + 1 = 12 by omega] at q1 q2 q3
  have hp := pts_le (ent := ent) (g := g) (fun k hk => (h8 k hk).2.2.2) 12 (Nat.le_refl _)
  have hb := h.bc.2
  refine ⟨?_, ?_, ?_, fV_5 ent g, by omega⟩
  · unfold fV; rw [upN_n (by decide), upN_n (by decide), q2]
  · unfold fV; rw [upN_n (by decide), upN_n (by decide), q3]
  · unfold fV; rw [upN_n (by decide), upN_n (by decide)]
theorem HH.w (h : HH ent n g a) : fW ent g 0 = (gW ent g 12).1 0 ∧ fW ent g 1 = [nI (97 + a)] ∧ fW ent g 2 = tl (ent a).2.2.1 ∧ fW ent g 3 = tl (ent a).2.2.2.1 ∧ fW ent g 4 = tl ((gW ent g 12).2 4) ∧ fW ent g 5 = tl (bcn g 12) := by
  obtain ⟨h1, h2, h3, h4, h5, h6, h7, h8⟩ := id h
  obtain ⟨q1, q2, q3, -, -⟩ := gW_low (ent := ent) h4 h5 (11 - a)
  rw [show a + (11 - a) + 1 = 12 by omega] at q1 q2 q3
  have e8 := h8 a (by omega)
  have hp := h.v.2.2.2.2
  have hb := h.bc.2
  refine ⟨rfl, q1.trans (h7 a h2).2, ?_, ?_, digs_tl hp, ?_⟩
  · show digs ((gW ent g 12).2 2) = _
    rw [q2, digs_tl e8.2.1]
  · show digs ((gW ent g 12).2 3) = _
    rw [q3, digs_tl (Nat.lt_trans e8.2.2.1 (by decide))]
  · show digs ((gW ent g 12).2 5) = _
    rw [gW_bcn, digs_tl (by omega)]
theorem HH.len (h : HH ent n g a) (t : Nat) : (txW t (fW ent g) (fV ent g)).length ≤ 114 := by
  obtain ⟨w0, w1, w2, w3, w4, w5⟩ := h.w
  have hb := h.bc.2
  obtain ⟨h1, h2, h3, h4, h5, h6, h7, h8⟩ := id h
  have hn := (nm_len (ent := ent) (fun k hk => (h7 k hk).1) h6 12).2 (bcn_pos h4 12 (by omega))
  have ha : (allW (fW ent g)).length ≤ 56 := by
    unfold allW
    rw [w0, w1, w2, w3, w4, w5]
    simp only [List.length_append, List.length_cons, List.length_nil]
    have t2 := (tl_len (x := (ent a).2.2.1)).1
    have t4 := (tl_len (x := (gW ent g 12).2 4)).1
    have t3 : (tl (ent a).2.2.2.1).length ≤ 1 := by
      have := (h8 a (by omega)).2.2.1
      unfold tl
      rw [if_neg (by omega), if_neg (by omega)]
      simp
    have t5 : (tl (bcn g 12)).length ≤ 1 := by
      unfold tl
      rw [if_neg (by omega), if_neg (by omega)]
      simp
    omega
  have hs : (someW (fW ent g) (fV ent g)).length ≤ 57 := by
    unfold someW
    rw [List.length_append]
    simp only [List.length_cons, List.length_nil]
    split
    · omega
    · split
      · rw [w4]
        have t4 := (tl_len (x := (gW ent g 12).2 4)).1
        simp only [List.length_append, List.length_cons, List.length_nil]
        omega
      · rw [w2]
        have t2 := (tl_len (x := (ent a).2.2.1)).1
        simp only [List.length_append, List.length_cons, List.length_nil]
        omega
  unfold txW
  split
  · omega
  · split
    · omega
    · rw [List.length_append]; omega
end HHS
/-- the letter of a run -/
theorem ltr_tx {ent : Nat → EntN} {n g a b st t : Nat} (h : HH ent n g a) (ht : t < 3) (hb : b < 500) (hst : st < 60) : ltr lT lTo ent b st t g = .inl (txW t (fW ent g) (fV ent g), wgt (txW t (fW ent g) (fV ent g)).length (bcn g 12), nI ((b + st * tens (wgt (txW t (fW ent g) (fV ent g)).length (bcn g 12))) * ((ent a).2.2.2.1 + 2))) ∧ (b + st * tens (wgt (txW t (fW ent g) (fV ent g)).length (bcn g 12))) * ((ent a).2.2.2.1 + 2) ≤ 5600 := by
  have hl := h.len t
  obtain ⟨v2, v3, v4, v5, vp⟩ := h.v
  have hbc := h.bc
  have hz : (ent a).2.2.2.1 < 6 := (h.2.2.2.2.2.2.2 a (by have := h.2.1; have := h.2.2.1; omega)).2.2.1
  have e := go_tx (w := fW ent g) (vl := fV ent g) ht (by omega) (by rw [v5]; omega) (by rw [v4]; omega)
  generalize hx : txW t (fW ent g) (fV ent g) = x at *
  have hw : wgt x.length (bcn g 12) ≤ 42 := by unfold wgt; omega
  have htn : tens (wgt x.length (bcn g 12)) ≤ 5 := by unfold tens; split <;> omega
  have hk : (b + st * tens (wgt x.length (bcn g 12))) * ((ent a).2.2.2.1 + 2) ≤ (499 + 59 * 5) * 7 := Nat.mul_le_mul (Nat.add_le_add (by omega) (Nat.mul_le_mul (by omega) htn)) (by omega)
  have ek : kost b st (wgt x.length (bcn g 12)) (fV ent g 3) = nI ((b + st * tens (wgt x.length (bcn g 12))) * ((ent a).2.2.2.1 + 2)) := by
    unfold kost
    rw [v3]
    exact if_pos (by omega)
  refine ⟨?_, by omega⟩
  unfold ltr
  rw [if_pos (show lTo t = true from decide_eq_true ht), e]
  dsimp only
  rw [ek, if_neg (m1_ne (by omega))]
