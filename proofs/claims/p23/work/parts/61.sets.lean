/-! ===== sets of addresses ===== -/
theorem mb_sm {k : Nat} (hk : k < 31) : (nI k &&& 31).toBitVec.smod 32 = BitVec.ofNat 32 k := (by decide +kernel : ∀ k : Fin 31, (nI k.val &&& 31).toBitVec.smod 32 = BitVec.ofNat 32 k.val) ⟨k, hk⟩
theorem mb_sh {x k : Nat} (hx : x < 2 ^ 31) (hk : k < 31) : (nI x >>> (nI k &&& 31)) &&& 1 = bI (x.testBit k = true) := by
  have e : nI x >>> (nI k &&& 31) = nI (x >>> k) := by
    apply Int32.toBitVec_inj.1
    rw [Int32.toBitVec_shiftRight]
    rw [mb_sm hk, bk_bv, bk_bv]
    have hm : (BitVec.ofNat 32 x).msb = false := by rw [BitVec.msb_eq_decide, BitVec.toNat_ofNat]; simp; omega
    show (BitVec.ofNat 32 x).sshiftRight (BitVec.ofNat 32 k).toNat = _
    rw [BitVec.sshiftRight_eq_of_msb_false hm]
    apply BitVec.eq_of_toNat_eq
    rw [BitVec.toNat_ushiftRight, BitVec.toNat_ofNat, BitVec.toNat_ofNat, BitVec.toNat_ofNat, Nat.mod_eq_of_lt (a := x) (by omega), Nat.mod_eq_of_lt (a := k) (by omega)]
    have : x >>> k ≤ x := by rw [Nat.shiftRight_eq_div_pow]; exact Nat.div_le_self _ _
    rw [Nat.mod_eq_of_lt (by omega)]
  rw [e, show (1 : Int32) = nI 1 from rfl, bk_and]
  by_cases q : x.testBit k = true
  · rw [bI_t q, Nat.and_one_is_mod, show x >>> k % 2 = 1 by
      rw [Nat.testBit_eq_decide_div_mod_eq, decide_eq_true_eq] at q
      rw [Nat.shiftRight_eq_div_pow]; exact q]
    rfl
  · rw [bI_f q, Nat.and_one_is_mod, show x >>> k % 2 = 0 by
      rw [Nat.testBit_eq_decide_div_mod_eq, decide_eq_true_eq] at q
      rw [Nat.shiftRight_eq_div_pow]; omega]
    rfl
/-! subsets -/
def sb (g h : Nat) : Prop := ∀ k, g.testBit k = true → h.testBit k = true
theorem sb.refl (g : Nat) : sb g g := fun _ h => h
theorem sb.trans {a b c : Nat} (h : sb a b) (g : sb b c) : sb a c := fun k q => g k (h k q)
theorem sb.eq {a b : Nat} (h : sb a b) (g : sb b a) : a = b := by
  apply Nat.eq_of_testBit_eq
  intro i
  rcases q : b.testBit i with _ | _
  · rcases q2 : a.testBit i with _ | _
    · rfl
    · rw [h i q2] at q; cases q
  · exact g i q
theorem sb.l {a b : Nat} : sb a (a ||| b) := fun k q => by rw [Nat.testBit_or, q, Bool.true_or]
theorem or_b {a b k : Nat} (h : (a ||| b).testBit k = true) : a.testBit k = true ∨ b.testBit k = true := by
  rw [Nat.testBit_or] at h; exact Bool.or_eq_true_iff.1 h
theorem tp_b {j k : Nat} (h : (2 ^ j).testBit k = true) : j = k := by
  rw [Nat.testBit_two_pow] at h; exact of_decide_eq_true h
theorem bit12 {g k : Nat} (hg : g < 2 ^ 12) (h : g.testBit k = true) : k < 12 := Nat.lt_of_not_le fun q => by
  rw [Nat.testBit_lt_two_pow (Nat.lt_of_lt_of_le hg (Nat.pow_le_pow_right (by decide) q))] at h
  cases h
theorem bcn_mono {a b : Nat} (h : sb a b) : ∀ n, bcn a n ≤ bcn b n
  | 0 => Nat.le_refl _
  | n + 1 => by
    have ih := bcn_mono h n
    show bcn a n + (if _ then 1 else 0) ≤ bcn b n + (if _ then 1 else 0)
    by_cases q : a.testBit n = true
    · rw [if_pos q, if_pos (h n q)]; omega
    · rw [if_neg q]; split <;> omega
theorem bcn_lt {a b k : Nat} (h : sb a b) (ha : ¬ a.testBit k = true) (hb : b.testBit k = true) : ∀ n, k < n → bcn a n < bcn b n
  | 0, q => absurd q (Nat.not_lt_zero k)
  | n + 1, q => by
    show bcn a n + (if _ then 1 else 0) < bcn b n + (if _ then 1 else 0)
    by_cases e : k = n
    · subst e
      have := bcn_mono h k
      rw [if_neg ha, if_pos hb]; omega
    · have ih := bcn_lt h ha hb n (by omega)
      by_cases q : a.testBit n = true
      · rw [if_pos q, if_pos (h n q)]; omega
      · rw [if_neg q]; split <;> omega
theorem bcn_sb {a b : Nat} (h : sb a b) (hne : ¬ b = a) (hb : b < 2 ^ 12) : bcn a 12 + 1 ≤ bcn b 12 := by
  have : ∃ k, b.testBit k = true ∧ ¬ a.testBit k = true := Classical.byContradiction fun z => hne (sb.eq (fun k q => Classical.byContradiction fun y => z ⟨k, q, y⟩) h)
  obtain ⟨k, q1, q2⟩ := this
  exact bcn_lt h q2 q1 12 (bit12 hb q1)
theorem bcn_all {g : Nat} {j : Nat} (h : ¬ g.testBit j = true) : ∀ n, j < n → bcn g n + 1 ≤ n
  | 0, q => absurd q (Nat.not_lt_zero j)
  | n + 1, q => by
    show bcn g n + (if _ then 1 else 0) + 1 ≤ n + 1
    by_cases e : j = n
    · subst e; rw [if_neg h]; have := bcn_le g j; omega
    · have := bcn_all h n (by omega); split <;> omega
/-! closed sets -/
def cls (mt : Nat → Nat) (g : Nat) : Prop := ∀ i j, i < 12 → j < 12 → g.testBit i = true → (mt i).testBit j = true → g.testBit j = true
theorem cls_full {mt : Nat → Nat} {g : Nat} (h : 12 ≤ bcn g 12) : cls mt g := fun i j _ hj _ _ => Classical.byContradiction fun q => by
  have := bcn_all q 12 hj
  omega
theorem mOf_b {mt : Nat → Nat} {g j : Nat} : ∀ n, (mOf mt g n).testBit j = true ↔ ∃ i, i < n ∧ g.testBit i = true ∧ (mt i).testBit j = true
  | 0 => ⟨fun h => (by rw [show mOf mt g 0 = 0 from rfl, Nat.zero_testBit] at h; cases h), fun ⟨i, h, _⟩ => absurd h (Nat.not_lt_zero i)⟩
  | n + 1 => by
    have ih := mOf_b (mt := mt) (g := g) (j := j) n
    rcases q : g.testBit n with _ | _
    · rw [mOf_f q, ih]
      exact ⟨fun ⟨i, a, b⟩ => ⟨i, by omega, b⟩, fun ⟨i, a, b, c⟩ => ⟨i, Nat.lt_of_le_of_ne (by omega) (fun z => by rw [z, q] at b; cases b), b, c⟩⟩
    · rw [mOf_t q, Nat.testBit_or, Bool.or_eq_true_iff, ih]
      constructor
      · rintro (⟨i, a, b⟩ | h)
        · exact ⟨i, by omega, b⟩
        · exact ⟨n, by omega, q, h⟩
      · rintro ⟨i, a, b, c⟩
        by_cases e : i = n
        · subst e; exact Or.inr c
        · exact Or.inl ⟨i, by omega, b, c⟩
theorem mOf_cls {mt : Nat → Nat} {g : Nat} (h : g ||| mOf mt g 12 = g) : cls mt g := fun i j hi _ q1 q2 => by
  rw [← h, Nat.testBit_or, (mOf_b 12).2 ⟨i, hi, q1, q2⟩, Bool.or_true]
theorem gLp_cls {mt : Nat → Nat} (h : ∀ j, j < 12 → mt j < 2 ^ 12) : ∀ m g b, g < 2 ^ 12 → 12 ≤ bcn g 12 + m → (g = b → cls mt g) → cls mt (gLp mt m g b)
  | 0, g, b, _, hm, _ => cls_full hm
  | m + 1, g, b, hg, hm, hc => by
    by_cases q : g = b
    · rw [gLp_t q]; exact hc q
    · rw [gLp_f q]
      have hl := Nat.or_lt_two_pow hg (mOf_lt h 12 (Nat.le_refl _) (ms := g))
      by_cases e : g ||| mOf mt g 12 = g
      · rw [e, gLp_t rfl]; exact mOf_cls e
      · have := bcn_sb (sb.l (a := g) (b := mOf mt g 12)) e hl
        exact gLp_cls h m _ _ hl (by omega) (fun z => absurd z e)
theorem gLp_min {mt : Nat → Nat} {H : Nat} (h : ∀ j, j < 12 → mt j < 2 ^ 12) (hH : cls mt H) : ∀ m g b, sb g H → sb (gLp mt m g b) H
  | 0, g, b, hg => hg
  | m + 1, g, b, hg => by
    by_cases q : g = b
    · rw [gLp_t q]; exact hg
    · rw [gLp_f q]
      refine gLp_min h hH m _ _ (fun k qk => ?_)
      rcases or_b qk with z | z
      · exact hg k z
      · obtain ⟨i, a, b, c⟩ := (mOf_b 12).1 z
        exact hH i k a (bit12 (h i a) c) (hg i b) c
theorem bcn_1 (a : Nat) (ha : a < 12) : 1 ≤ bcn (2 ^ a) 12 := bcn_pos Nat.testBit_two_pow_self 12 ha
theorem gOf_cls {mt : Nat → Nat} (h : ∀ j, j < 12 → mt j < 2 ^ 12) {a : Nat} (ha : a < 12) : cls mt (gOf mt a) := by
  have := bcn_1 a ha
  exact gLp_cls h 12 _ _ (Nat.pow_lt_pow_right (by decide) ha) (by omega) (fun z => absurd z (Nat.ne_of_gt (Nat.pow_pos (by decide))))
theorem gOf_min {mt : Nat → Nat} {H a : Nat} (h : ∀ j, j < 12 → mt j < 2 ^ 12) (hH : cls mt H) (q : H.testBit a = true) : sb (gOf mt a) H := gLp_min h hH 12 _ _ (fun k z => by rw [← tp_b z]; exact q)
/-! one pass in place -/
theorem gOf_of {mt : Nat → Nat} {a g : Nat} (h : ∀ j, j < 12 → mt j < 2 ^ 12) (h1 : g.testBit a = true) (h2 : sb g (gOf mt a)) (h3 : cls mt g) : g = gOf mt a := sb.eq h2 (gOf_min h h3 h1)
theorem low_ex {g : Nat} (h : MBR g) : ∃ a, a < 12 ∧ g.testBit a = true ∧ ∀ i, i < a → g.testBit i = false := by
  obtain ⟨-, a, ha, hb⟩ := h
  induction a using Nat.strongRecOn with
  | _ a ih =>
    by_cases q : ∃ i, i < a ∧ g.testBit i = true
    · obtain ⟨i, h1, h2⟩ := q
      exact ih i h1 (by omega) h2
    · exact ⟨a, ha, hb, fun i hi => Bool.eq_false_iff.2 (fun z => q ⟨i, hi, z⟩)⟩
set_option maxHeartbeats 4000000 in
theorem bcn_s (g j : Nat) : nI (bcn g j) + bI (g.testBit j = true) = nI (bcn g (j + 1)) := by
  show _ = nI (bcn g j + if _ then 1 else 0)
  by_cases q : g.testBit j = true
  · rw [bI_t q, if_pos q]; exact nI_1 _
  · rw [bI_f q, if_neg q]; exact Int32.add_zero _
set_option maxHeartbeats 4000000 in
theorem gW_4 (ent : Nat → EntN) (g j : Nat) : (gW ent g (j + 1)).2 4 = (gW ent g j).2 4 + if g.testBit j = true then (ent j).2.2.2.2 else 0 := by
  rcases q : g.testBit j with _ | _
  · rw [gW_f q, if_neg (by decide)]; rfl
  · rw [gW_t q, if_pos rfl]
    show amV _ _ 4 = _
    unfold amV
    split <;> rfl
