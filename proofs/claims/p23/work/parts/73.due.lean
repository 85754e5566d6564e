/-! ===== what is due, and what was posted ===== -/
def isO (G : Nat) (po : Nat → Nat) (r : Nat) (c : Bool) : Nat → Bool
  | 0 => c
  | o + 1 => isO G po r c o && (!G.testBit o || !(po o).testBit r)
theorem isO_iff {G : Nat} {po : Nat → Nat} {r : Nat} {c : Bool} : ∀ n, isO G po r c n = true ↔ (c = true ∧ ∀ o, o < n → G.testBit o = true → (po o).testBit r = false)
  | 0 => ⟨fun h => ⟨h, fun o ho => absurd ho (Nat.not_lt_zero o)⟩, fun h => h.1⟩
  | n + 1 => by
    show (isO G po r c n && (!G.testBit n || !(po n).testBit r)) = true ↔ _
    rw [Bool.and_eq_true, isO_iff n]
    constructor
    · rintro ⟨⟨h1, h2⟩, h3⟩
      refine ⟨h1, fun o ho hb => ?_⟩
      by_cases e : o = n
      · subst e
        rw [hb] at h3
        simpa using h3
      · exact h2 o (by omega) hb
    · rintro ⟨h1, h2⟩
      refine ⟨⟨h1, fun o ho => h2 o (by omega)⟩, ?_⟩
      rcases q : G.testBit n with _ | _
      · rfl
      · rw [h2 n (by omega) q]; rfl
theorem wP_iff {po : Nat → Nat} {g r : Nat} : wP po g r 0 ↔ ∃ a, a < 12 ∧ g.testBit a = true ∧ (po a).testBit r = true := by
  show ((List.range 12).any fun a => decide (0 ≤ a) && (g.testBit a && (po a).testBit r)) = true ↔ _
  rw [List.any_eq_true]
  constructor
  · rintro ⟨a, h1, h2⟩
    rw [Bool.and_eq_true, Bool.and_eq_true] at h2
    exact ⟨a, List.mem_range.1 h1, h2.2.1, h2.2.2⟩
  · rintro ⟨a, h1, h2, h3⟩
    exact ⟨a, List.mem_range.2 h1, by rw [h2, h3]; rfl⟩
theorem isO_wP {G : Nat} {po : Nat → Nat} {r n : Nat} {c : Bool} (hn : n ≤ 12) (hG : ∀ k, G.testBit k = true → k < n) : isO G po r c n = true ↔ (c = true ∧ ¬ wP po G r 0) := by
  rw [isO_iff, wP_iff]
  constructor
  · rintro ⟨h1, h2⟩
    refine ⟨h1, fun ⟨a, q1, q2, q3⟩ => ?_⟩
    rw [h2 a (hG a q2) q2] at q3
    cases q3
  · rintro ⟨h1, h2⟩
    refine ⟨h1, fun o ho hb => ?_⟩
    rcases q : (po o).testBit r with _ | _
    · rfl
    · exact absurd ⟨o, by omega, hb, q⟩ h2
theorem low_iff {g k : Nat} : g &&& (2 ^ k - 1) = 0 ↔ ∀ i, i < k → g.testBit i = false := by
  constructor
  · intro h i hi
    have e : (g &&& (2 ^ k - 1)).testBit i = false := by rw [h, Nat.zero_testBit]
    rw [Nat.testBit_and, pm1_b, decide_eq_true hi, Bool.and_true] at e
    exact e
  · intro h
    apply Nat.eq_of_testBit_eq
    intro i
    rw [Nat.testBit_and, pm1_b, Nat.zero_testBit]
    by_cases q : i < k
    · rw [h i q, Bool.false_and]
    · rw [decide_eq_false q, Bool.and_false]
theorem dLst_iff {mt po : Nat → Nat} {r G : Nat} : ∀ n, G ∈ dLst mt po r n ↔ ∃ c, c < n ∧ G = gOf mt c ∧ gOf mt c &&& (2 ^ c - 1) = 0 ∧ ¬ wP po (gOf mt c) r 0
  | 0 => ⟨fun h => absurd h List.not_mem_nil, fun ⟨c, h, _⟩ => absurd h (Nat.not_lt_zero c)⟩
  | n + 1 => by
    have ih := dLst_iff (mt := mt) (po := po) (r := r) (G := G) n
    show G ∈ (if gOf mt n &&& (2 ^ n - 1) = 0 ∧ ¬ wP po (gOf mt n) r 0 then dLst mt po r n ++ [gOf mt n] else dLst mt po r n) ↔ _
    by_cases q : gOf mt n &&& (2 ^ n - 1) = 0 ∧ ¬ wP po (gOf mt n) r 0
    · rw [if_pos q, List.mem_append, ih, List.mem_singleton]
      constructor
      · rintro (⟨c, h1, h2⟩ | h)
        · exact ⟨c, by omega, h2⟩
        · exact ⟨n, by omega, h, q⟩
      · rintro ⟨c, h1, h2, h3⟩
        by_cases e : c = n
        · subst e; exact Or.inr h2
        · exact Or.inl ⟨c, by omega, h2, h3⟩
    · rw [if_neg q, ih]
      constructor
      · rintro ⟨c, h1, h2⟩
        exact ⟨c, by omega, h2⟩
      · rintro ⟨c, h1, h2, h3⟩
        by_cases e : c = n
        · subst e; exact absurd h3 q
        · exact ⟨c, by omega, h2, h3⟩
theorem dLst_pre {mt po : Nat → Nat} {r k : Nat} : ∀ m, dLst mt po r k <+: dLst mt po r (k + m)
  | 0 => List.prefix_refl _
  | m + 1 => by
    refine (dLst_pre m).trans ?_
    show _ <+: (if gOf mt (k + m) &&& (2 ^ (k + m) - 1) = 0 ∧ ¬ wP po (gOf mt (k + m)) r 0 then dLst mt po r (k + m) ++ [gOf mt (k + m)] else dLst mt po r (k + m))
    split
    · exact List.prefix_append _ _
    · exact List.prefix_refl _
theorem dLst_at {mt po : Nat → Nat} {r k n : Nat} (hk : k < n) (h1 : gOf mt k &&& (2 ^ k - 1) = 0) (h2 : ¬ wP po (gOf mt k) r 0) : (dLst mt po r k).length < (dLst mt po r n).length ∧ (dLst mt po r n).getD (dLst mt po r k).length 0 = gOf mt k := by
  have hp := dLst_pre (mt := mt) (po := po) (r := r) (k := k + 1) (n - (k + 1))
  rw [show k + 1 + (n - (k + 1)) = n by omega, dLst_y h1 h2] at hp
  obtain ⟨t, e⟩ := hp
  rw [← e]
  refine ⟨by simp, by simp [List.getD_eq_getElem?_getD]⟩
/-- whose group has none that was posted -/
theorem due_iff {mt po : Nat → Nat} {n r a : Nat} (hs : sym mt n) (hn : n ≤ 12) (ha : a < n) : (∃ G, G ∈ dLst mt po r n ∧ G.testBit a = true) ↔ ¬ wP po (gOf mt a) r 0 := by
  constructor
  · rintro ⟨G, h1, h2⟩
    obtain ⟨c, q1, rfl, q2, q3⟩ := (dLst_iff n).1 h1
    rw [gOf_mem hs (by omega) h2]
    exact q3
  · intro h
    obtain ⟨c, c1, c2, c3⟩ := low_ex (gOf_mbr hs.1 (a := a) (by omega))
    have e := gOf_mem hs (a := a) (by omega) c2
    refine ⟨gOf mt a, (dLst_iff n).2 ⟨c, gOf_n hs ha c2, e.symm, ?_, by rw [e]; exact h⟩, gOf_self mt a⟩
    rw [e]
    exact low_iff.2 c3
theorem poF_at {r : Nat} : ∀ (K : List KL) (po : Nat → Nat) (a : Nat), a < 12 → ((∃ x, x ∈ K ∧ x.2.1.testBit a = true) → poF r K po a = po a ||| 2 ^ r) ∧ (¬ (∃ x, x ∈ K ∧ x.2.1.testBit a = true) → poF r K po a = po a)
  | [], po, a, _ => ⟨fun ⟨x, h, _⟩ => absurd h List.not_mem_nil, fun _ => rfl⟩
  | y :: K, po, a, ha => by
    obtain ⟨i1, i2⟩ := poF_at (r := r) K (nP po y.2.1 r 12) a ha
    have e : poF r (y :: K) po = poF r K (nP po y.2.1 r 12) := rfl
    rw [e]
    by_cases q : y.2.1.testBit a = true
    · have en : nP po y.2.1 r 12 a = po a ||| 2 ^ r := if_pos ⟨ha, q⟩
      rw [en] at i1 i2
      refine ⟨fun _ => ?_, fun h => absurd ⟨y, List.mem_cons_self, q⟩ h⟩
      by_cases z : ∃ x, x ∈ K ∧ x.2.1.testBit a = true
      · rw [i1 z, Nat.or_assoc, Nat.or_self]
      · exact i2 z
    · have en : nP po y.2.1 r 12 a = po a := if_neg (fun z => q z.2)
      rw [en] at i1 i2
      refine ⟨fun ⟨x, h1, h2⟩ => ?_, fun h => i2 (fun ⟨x, h1, h2⟩ => h ⟨x, List.mem_cons_of_mem _ h1, h2⟩)⟩
      rcases List.mem_cons.1 h1 with rfl | h1
      · exact absurd h2 q
      · exact i1 ⟨x, h1, h2⟩
theorem kpt_all {F : Nat → LRs} : ∀ l : List Nat, (∀ g, g ∈ l → ∃ x, F g = .inl x) → (kpt F l).map (fun x => x.2.1) = l
  | [], _ => rfl
  | g :: l, h => by
    obtain ⟨x, e⟩ := h g List.mem_cons_self
    have ih := kpt_all (F := F) l (fun g hg => h g (List.mem_cons_of_mem _ hg))
    unfold kpt at ih ⊢
    have ek : kpo F g = some (x.1, g, x.2.1, x.2.2) := by unfold kpo; rw [e]
    rw [List.filterMap_cons, ek]
    dsimp only
    rw [List.map_cons, ih]
theorem paF_all {F : Nat → LRs} {ck : Nat → Nat} : ∀ (l : List Nat) (pa : Nat), (∀ g, g ∈ l → ∃ x w, F g = .inl (x, w, nI (ck g)) ∧ ck g ≤ 5600) → pa + 5600 * l.length < 2 ^ 31 → paF (kpt F l) pa = pa + (l.map ck).sum
  | [], pa, _, _ => rfl
  | g :: l, pa, h, hp => by
    obtain ⟨x, wt, e, e2⟩ := h g List.mem_cons_self
    rw [List.length_cons] at hp
    have ih := paF_all (F := F) (ck := ck) l (pa + ck g) (fun g hg => h g (List.mem_cons_of_mem _ hg)) (by omega)
    have ek : kpo F g = some (x, g, wt, nI (ck g)) := by unfold kpo; rw [e]
    have e3 : kpt F (g :: l) = (x, g, wt, nI (ck g)) :: kpt F l := by
      unfold kpt
      rw [List.filterMap_cons, ek]
    rw [e3]
    show paF (kpt F l) (min (pa + (nI (ck g)).toNatClampNeg) 2147483647) = _
    rw [nI_clamp (by omega), show min (pa + ck g) 2147483647 = pa + ck g by omega, ih, List.map_cons, List.sum_cons]
    omega
theorem sum_le {ck : Nat → Nat} : ∀ l : List Nat, (∀ g, g ∈ l → ck g ≤ 5600) → (l.map ck).sum ≤ 5600 * l.length
  | [], _ => Nat.le_refl _
  | g :: l, h => by
    have := sum_le (ck := ck) l (fun g hg => h g (List.mem_cons_of_mem _ hg))
    have := h g List.mem_cons_self
    rw [List.map_cons, List.sum_cons, List.length_cons]
    omega
/-- what is posted, as the law has it -/
def sprd (mt po : Nat → Nat) (r n : Nat) : Nat → Nat := fun a => if a < n ∧ isO (gOf mt a) po r true n = true then po a ||| 2 ^ r else po a
theorem poF_sp {mt po : Nat → Nat} {n r : Nat} {F : Nat → LRs} (hs : sym mt n) (hn : n ≤ 12) (h : ∀ g, g ∈ dLst mt po r n → ∃ x, F g = .inl x) {a : Nat} (ha : a < 12) : poF r (kpt F (dLst mt po r n)) po a = sprd mt po r n a := by
  have hk := kpt_all (F := F) _ h
  have em : (∃ x, x ∈ kpt F (dLst mt po r n) ∧ x.2.1.testBit a = true) ↔ ∃ G, G ∈ dLst mt po r n ∧ G.testBit a = true := by
    constructor
    · rintro ⟨x, h1, h2⟩
      exact ⟨x.2.1, by rw [← hk]; exact List.mem_map_of_mem h1, h2⟩
    · rintro ⟨G, h1, h2⟩
      rw [← hk] at h1
      obtain ⟨x, q1, q2⟩ := List.mem_map.1 h1
      exact ⟨x, q1, by rw [q2]; exact h2⟩
  obtain ⟨p1, p2⟩ := poF_at (r := r) (kpt F (dLst mt po r n)) po a ha
  unfold sprd
  by_cases q : a < n
  · have d := due_iff (po := po) (r := r) hs hn q
    have i := isO_wP (G := gOf mt a) (po := po) (r := r) (c := true) hn (fun k hk => gOf_n hs q hk)
    by_cases z : wP po (gOf mt a) r 0
    · rw [if_neg (fun y => (i.1 y.2).2 z)]
      exact p2 (fun y => d.1 (em.1 y) z)
    · rw [if_pos ⟨q, i.2 ⟨rfl, z⟩⟩]
      exact p1 (em.2 (d.2 z))
  · rw [if_neg (fun y => q y.1)]
    refine p2 (fun y => ?_)
    obtain ⟨G, h1, h2⟩ := em.1 y
    obtain ⟨c, q1, rfl, -⟩ := (dLst_iff n).1 h1
    exact q (gOf_n hs q1 h2)
