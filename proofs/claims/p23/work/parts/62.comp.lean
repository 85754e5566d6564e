/-! ===== the law's groups: what its rounds reach ===== -/
/-- symmetric: a closed set without a stays one without what is matched -/
def sym (mt : Nat → Nat) (n : Nat) : Prop := (∀ j, j < 12 → mt j < 2 ^ 12) ∧ ∀ i j, i < 12 → j < 12 → (mt i).testBit j = true → i < n ∧ j < n ∧ i ≠ j ∧ (mt j).testBit i = true
theorem gOf_l {mt : Nat → Nat} {n : Nat} (h : sym mt n) {a : Nat} (ha : a < 12) : gOf mt a < 2 ^ 12 := gOf_lt h.1 ha
theorem cls_diff {mt : Nat → Nat} {n : Nat} (h : sym mt n) {H K : Nat} (hH : cls mt H) (hK : cls mt K) (hl : K < 2 ^ 12) : cls mt (K &&& (4095 ^^^ H)) := by
  intro i j hi hj q1 q2
  rw [Nat.testBit_and, Bool.and_eq_true, Nat.testBit_xor] at q1
  rw [Nat.testBit_and, Bool.and_eq_true, Nat.testBit_xor]
  refine ⟨hK i j hi hj q1.1 q2, ?_⟩
  have e12 : ∀ k, k < 12 → (4095 : Nat).testBit k = true := by decide
  rw [e12 j hj]
  rw [e12 i hi] at q1
  rcases q : H.testBit j with _ | _
  · rfl
  · rw [hH j i hj hi q (h.2 i j hi hj q2).2.2.2] at q1
    exact absurd q1.2 (by decide)
theorem gOf_back {mt : Nat → Nat} {n : Nat} (h : sym mt n) {a b : Nat} (ha : a < 12) (q : (gOf mt a).testBit b = true) : (gOf mt b).testBit a = true := by
  have hb : b < 12 := bit12 (gOf_l h ha) q
  refine Classical.byContradiction fun z => ?_
  have c := cls_diff h (gOf_cls h.1 hb) (gOf_cls h.1 ha) (gOf_l h ha)
  have e12 : ∀ k, k < 12 → (4095 : Nat).testBit k = true := by decide
  have q2 := gOf_min h.1 c (a := a) (by rw [Nat.testBit_and, Nat.testBit_xor, gOf_self, e12 a ha, Bool.eq_false_iff.2 z]; rfl) b q
  rw [Nat.testBit_and, Nat.testBit_xor, gOf_self mt b, e12 b hb, Bool.and_eq_true] at q2
  exact absurd q2.2 (by decide)
theorem gOf_mem {mt : Nat → Nat} {n : Nat} (h : sym mt n) {a b : Nat} (ha : a < 12) (q : (gOf mt a).testBit b = true) : gOf mt b = gOf mt a := by
  have hb : b < 12 := bit12 (gOf_l h ha) q
  exact sb.eq (gOf_min h.1 (gOf_cls h.1 ha) q) (gOf_min h.1 (gOf_cls h.1 hb) (gOf_back h ha q))
theorem gOf_edge {mt : Nat → Nat} {n : Nat} (h : sym mt n) {a b : Nat} (ha : a < 12) (hb : b < 12) (q : (mt a).testBit b = true) : gOf mt b = gOf mt a := gOf_mem h ha (gOf_cls h.1 ha a b ha hb (gOf_self mt a) q)
theorem pm1_b (n k : Nat) : (2 ^ n - 1).testBit k = decide (k < n) := Nat.testBit_two_pow_sub_one n k
theorem gOf_n {mt : Nat → Nat} {n : Nat} (h : sym mt n) {a b : Nat} (ha : a < n) (q : (gOf mt a).testBit b = true) : b < n := by
  have hc : cls mt (2 ^ n - 1) := fun i j hi hj q1 q2 => by rw [pm1_b]; exact decide_eq_true (h.2 i j hi hj q2).2.1
  have := gOf_min h.1 hc (a := a) (by rw [pm1_b]; exact decide_eq_true ha) b q
  rw [pm1_b] at this
  exact of_decide_eq_true this
theorem bcn_of {g n : Nat} (h : ∀ k, g.testBit k = true → k < n) : ∀ m, bcn g m ≤ n := by
  intro m
  have aux : ∀ m, bcn g m ≤ min m n := by
    intro m
    induction m with
    | zero => exact Nat.zero_le _
    | succ m ih =>
      show bcn g m + (if _ then 1 else 0) ≤ _
      by_cases q : g.testBit m = true
      · have := h m q
        rw [if_pos q]; omega
      · rw [if_neg q]; omega
  have := aux m
  omega
/-- what is at most r matches away -/
def Bl (mt : Nat → Nat) : Nat → Nat → Nat → Prop
  | 0, k, j => j = k
  | r + 1, k, j => Bl mt r k j ∨ ∃ o, o < 12 ∧ (mt k).testBit o = true ∧ Bl mt r o j
theorem Bl.out {mt : Nat → Nat} : ∀ {r k j i : Nat}, Bl mt r k j → i < 12 → (mt j).testBit i = true → Bl mt (r + 1) k i := by
  intro r
  induction r with
  | zero =>
    intro k j i h hi q
    have e : j = k := h
    subst e
    exact Or.inr ⟨i, hi, q, rfl⟩
  | succ r ih =>
    intro k j i h hi q
    rcases h with h | ⟨o, ho, h1, h2⟩
    · exact Or.inl (ih h hi q)
    · exact Or.inr ⟨o, ho, h1, ih h2 hi q⟩
theorem Bl.up {mt : Nat → Nat} {k j : Nat} : ∀ {r s : Nat}, Bl mt r k j → r ≤ s → Bl mt s k j := by
  intro r s h hs
  obtain ⟨d, rfl⟩ := Nat.exists_eq_add_of_le hs
  clear hs
  induction d with
  | zero => exact h
  | succ d ih => exact Or.inl ih
theorem gLp_Bl {mt : Nat → Nat} (h : ∀ j, j < 12 → mt j < 2 ^ 12) {k : Nat} : ∀ m g b r, g < 2 ^ 12 → (∀ j, g.testBit j = true → Bl mt r k j) → r + 1 ≤ bcn g 12 → ∃ s, (∀ j, (gLp mt m g b).testBit j = true → Bl mt s k j) ∧ s + 1 ≤ bcn (gLp mt m g b) 12 := by
  intro m
  induction m with
  | zero => intro g b r _ h1 h2; exact ⟨r, h1, h2⟩
  | succ m ih =>
    intro g b r hg h1 h2
    by_cases q : g = b
    · rw [gLp_t q]; exact ⟨r, h1, h2⟩
    · rw [gLp_f q]
      have hl := Nat.or_lt_two_pow hg (mOf_lt h 12 (Nat.le_refl _) (ms := g))
      by_cases e : g ||| mOf mt g 12 = g
      · rw [e, gLp_t rfl]; exact ⟨r, h1, h2⟩
      · have h3 := bcn_sb (sb.l (a := g) (b := mOf mt g 12)) e hl
        refine ih _ _ (r + 1) hl (fun j q => ?_) (by omega)
        rcases or_b q with q | q
        · exact Or.inl (h1 j q)
        · obtain ⟨i, a1, a2, a3⟩ := (mOf_b 12).1 q
          exact (h1 i a2).out (bit12 (h i a1) a3) a3
theorem gOf_Bl {mt : Nat → Nat} {n : Nat} (h : sym mt n) {k j : Nat} (hk : k < n) (hk2 : k < 12) (q : (gOf mt k).testBit j = true) : Bl mt n k j := by
  obtain ⟨s, h1, h2⟩ := gLp_Bl h.1 (k := k) 12 (2 ^ k) 0 0 (Nat.pow_lt_pow_right (by decide) hk2) (fun j q => (tp_b q).symm) (bcn_1 k hk2)
  have : bcn (gOf mt k) 12 ≤ n := bcn_of (fun b hb => gOf_n h hk hb) 12
  exact (h1 j q).up (by show s ≤ n; have h3 : s + 1 ≤ bcn (gOf mt k) 12 := h2; omega)
/-! the law's marks -/
def GS (mt : Nat → Nat) (n : Nat) (g : Nat → Nat) : Prop := ∀ k, k < n → sb (g k) (gOf mt k) ∧ (g k).testBit k = true ∧ g k < 2 ^ 12
def GR (mt : Nat → Nat) (n r : Nat) (g : Nat → Nat) : Prop := ∀ k, k < n → ∀ j, Bl mt r k j → (g k).testBit j = true
def GM (mt : Nat → Nat) (n r k0 o0 : Nat) (g : Nat → Nat) : Prop := GS mt n g ∧ GR mt n r g ∧ ∀ k o, k < n → o < n → (mt k).testBit o = true → (k < k0 ∨ (k = k0 ∧ o < o0)) → ∀ j, Bl mt r o j → (g k).testBit j = true
theorem GS.init {mt : Nat → Nat} {n : Nat} (hn : n ≤ 12) : GS mt n (fun k => 2 ^ k) := fun k hk => ⟨fun j q => by rw [← tp_b q]; exact gOf_self mt k, Nat.testBit_two_pow_self, Nat.pow_lt_pow_right (by decide) (by omega)⟩
theorem GR.init {mt : Nat → Nat} {n : Nat} : GR mt n 0 (fun k => 2 ^ k) := fun k _ j h => by rw [show j = k from h]; exact Nat.testBit_two_pow_self
theorem GM.start {mt : Nat → Nat} {n r : Nat} {g : Nat → Nat} (h1 : GS mt n g) (h2 : GR mt n r g) : GM mt n r 0 0 g := ⟨h1, h2, fun k o _ _ _ q => by omega⟩
theorem GM.row {mt : Nat → Nat} {n r k : Nat} {g : Nat → Nat} (h : GM mt n r k n g) : GM mt n r (k + 1) 0 g := ⟨h.1, h.2.1, fun k' o h1 h2 h3 h4 => h.2.2 k' o h1 h2 h3 (by omega)⟩
theorem GM.no {mt : Nat → Nat} {n r k o : Nat} {g : Nat → Nat} (h : GM mt n r k o g) (q : ¬ (mt k).testBit o = true) : GM mt n r k (o + 1) g := ⟨h.1, h.2.1, fun k' o' h1 h2 h3 h4 => h.2.2 k' o' h1 h2 h3 (by
  rcases h4 with h4 | ⟨h4, h5⟩
  · exact Or.inl h4
  · refine Or.inr ⟨h4, Nat.lt_of_le_of_ne (by omega) (fun e => ?_)⟩
    subst h4; subst e
    exact q h3)⟩
theorem GM.fin {mt : Nat → Nat} {n r : Nat} {g : Nat → Nat} (hs : sym mt n) (h : GM mt n r n 0 g) : GS mt n g ∧ GR mt n (r + 1) g := ⟨h.1, fun k hk j hj => by
  rcases hj with hj | ⟨o, ho, h1, h2⟩
  · exact h.2.1 k hk j hj
  · by_cases k12 : k < 12
    · exact h.2.2 k o hk (hs.2 k o k12 ho h1).2.1 h1 (Or.inl hk) j h2
    · have : n ≤ 12 ∨ 12 < n := by omega
      exact h.2.2 k o hk (by
        rcases this with q | q
        · omega
        · omega) h1 (Or.inl hk) j h2⟩
/-- one match met: both become what both are -/
def stp (g : Nat → Nat) (k o : Nat) : Nat → Nat := upN (upN g k (g k ||| g o)) o (g o ||| (g k ||| g o))
theorem stp_sup {g : Nat → Nat} {k o i : Nat} : sb (g i) (stp g k o i) := by
  unfold stp
  by_cases e : i = o
  · rw [e, upN_s]; exact sb.l
  · rw [upN_n e]
    by_cases e2 : i = k
    · rw [e2, upN_s]; exact sb.l
    · rw [upN_n e2]; exact sb.refl _
theorem GM.yes {mt : Nat → Nat} {n r k o : Nat} {g : Nat → Nat} (hs : sym mt n) (hn : n ≤ 12) (hk : k < n) (ho : o < n) (h : GM mt n r k o g) (q : (mt k).testBit o = true) : GM mt n r k (o + 1) (stp g k o) := by
  have hne : k ≠ o := (hs.2 k o (by omega) (by omega) q).2.2.1
  have eg : gOf mt o = gOf mt k := gOf_edge hs (by omega) (by omega) q
  have e1 : stp g k o k = g k ||| g o := by unfold stp; rw [upN_n hne, upN_s]
  obtain ⟨s1, s2, s3⟩ := h.1 k hk
  obtain ⟨t1, t2, t3⟩ := h.1 o ho
  have hb : sb (g k ||| g o) (gOf mt k) := fun j z => (or_b z).elim (s1 j) (fun y => by rw [← eg]; exact t1 j y)
  refine ⟨fun i hi => ?_, fun i hi j hj => stp_sup j (h.2.1 i hi j hj), fun i o' hi ho' he h4 j hj => ?_⟩
  · obtain ⟨u1, u2, u3⟩ := h.1 i hi
    refine ⟨?_, stp_sup i u2, ?_⟩
    · unfold stp
      by_cases e : i = o
      · rw [e, upN_s]
        intro j z
        rw [eg]
        rcases or_b z with z | z
        · rw [← eg]; exact t1 j z
        · exact hb j z
      · rw [upN_n e]
        by_cases e2 : i = k
        · rw [e2, upN_s]; exact hb
        · rw [upN_n e2]; exact u1
    · unfold stp
      by_cases e : i = o
      · rw [e, upN_s]; exact Nat.or_lt_two_pow t3 (Nat.or_lt_two_pow s3 t3)
      · rw [upN_n e]
        by_cases e2 : i = k
        · rw [e2, upN_s]; exact Nat.or_lt_two_pow s3 t3
        · rw [upN_n e2]; exact u3
  · by_cases z : i < k ∨ (i = k ∧ o' < o)
    · exact stp_sup j (h.2.2 i o' hi ho' he z j hj)
    · have e3 : i = k := by omega
      have e4 : o' = o := by omega
      subst e3; subst e4
      rw [e1, Nat.testBit_or, h.2.1 o' ho j hj, Bool.or_true]
theorem GR.done {mt : Nat → Nat} {n : Nat} {g : Nat → Nat} (hs : sym mt n) (hn : n ≤ 12) (h1 : GS mt n g) (h2 : GR mt n n g) {k : Nat} (hk : k < n) : g k = gOf mt k :=
  sb.eq (h1 k hk).1 (fun j q => h2 k hk j (gOf_Bl hs hk (by omega) q))
