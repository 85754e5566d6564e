/-! ===== MergePostModel: groups, counts ===== -/
theorem mb_sm {k : Nat} (hk : k < 31) : (nI k &&& 31).toBitVec.smod 32 = BitVec.ofNat 32 k := (by decide +kernel : ∀ k : Fin 31, (nI k.val &&& 31).toBitVec.smod 32 = BitVec.ofNat 32 k.val) ⟨k, hk⟩
theorem mb_sh {x k : Nat} (hx : x < 2 ^ 31) (hk : k < 31) : (nI x >>> (nI k &&& 31)) &&& 1 = bI (x.testBit k = true) := by
  have e : nI x >>> (nI k &&& 31) = nI (x >>> k) := by
    apply Int32.toBitVec_inj.1
    rw [Int32.toBitVec_shiftRight]
    rw [mb_sm hk, bk_bv, bk_bv]
    have hm : (BitVec.ofNat 32 x).msb = false := by rw [BitVec.msb_eq_decide, BitVec.toNat_ofNat]; simp; omega
    show (BitVec.ofNat 32 x).sshiftRight (BitVec.ofNat 32 k).toNat = _
    rw [BitVec.sshiftRight_eq_of_msb_false hm]
    apply BitVec.eq_of_toNat_eq
    rw [BitVec.toNat_ushiftRight, BitVec.toNat_ofNat, BitVec.toNat_ofNat, BitVec.toNat_ofNat, Nat.mod_eq_of_lt (a := x) (by omega), Nat.mod_eq_of_lt (a := k) (by omega)]
    have : x >>> k ≤ x := by rw [Nat.shiftRight_eq_div_pow]; exact Nat.div_le_self _ _
    rw [Nat.mod_eq_of_lt (by omega)]
  rw [e, show (1 : Int32) = nI 1 from rfl, bk_and]
  by_cases q : x.testBit k = true
  · rw [bI_t q, Nat.and_one_is_mod, show x >>> k % 2 = 1 by
      rw [Nat.testBit_eq_decide_div_mod_eq, decide_eq_true_eq] at q
      rw [Nat.shiftRight_eq_div_pow]; exact q]
    rfl
  · rw [bI_f q, Nat.and_one_is_mod, show x >>> k % 2 = 0 by
      rw [Nat.testBit_eq_decide_div_mod_eq, decide_eq_true_eq] at q
      rw [Nat.shiftRight_eq_div_pow]; omega]
    rfl
/-! subsets -/
def sb (g h : Nat) : Prop := ∀ k, g.testBit k = true → h.testBit k = true
theorem sb.refl (g : Nat) : sb g g := fun _ h => h
theorem sb.trans {a b c : Nat} (h : sb a b) (g : sb b c) : sb a c := fun k q => g k (h k q)
theorem sb.eq {a b : Nat} (h : sb a b) (g : sb b a) : a = b := by
  apply Nat.eq_of_testBit_eq
  intro i
  rcases q : b.testBit i with _ | _
  · rcases q2 : a.testBit i with _ | _
    · rfl
    · rw [h i q2] at q; cases q
  · exact g i q
theorem sb.l {a b : Nat} : sb a (a ||| b) := fun k q => by rw [Nat.testBit_or, q, Bool.true_or]
theorem or_b {a b k : Nat} (h : (a ||| b).testBit k = true) : a.testBit k = true ∨ b.testBit k = true := by
  rw [Nat.testBit_or] at h; exact Bool.or_eq_true_iff.1 h
theorem tp_b {j k : Nat} (h : (2 ^ j).testBit k = true) : j = k := by
  rw [Nat.testBit_two_pow] at h; exact of_decide_eq_true h
theorem bit12 {g k : Nat} (hg : g < 2 ^ 12) (h : g.testBit k = true) : k < 12 := Nat.lt_of_not_le fun q => by
  rw [Nat.testBit_lt_two_pow (Nat.lt_of_lt_of_le hg (Nat.pow_le_pow_right (by decide) q))] at h
  cases h
theorem bcn_mono {a b : Nat} (h : sb a b) : ∀ n, bcn a n ≤ bcn b n
  | 0 => Nat.le_refl _
  | n + 1 => by
    have ih := bcn_mono h n
    show bcn a n + (if _ then 1 else 0) ≤ bcn b n + (if _ then 1 else 0)
    by_cases q : a.testBit n = true
    · rw [if_pos q, if_pos (h n q)]; omega
    · rw [if_neg q]; split <;> omega
theorem bcn_lt {a b k : Nat} (h : sb a b) (ha : ¬ a.testBit k = true) (hb : b.testBit k = true) : ∀ n, k < n → bcn a n < bcn b n
  | 0, q => absurd q (Nat.not_lt_zero k)
  | n + 1, q => by
    show bcn a n + (if _ then 1 else 0) < bcn b n + (if _ then 1 else 0)
    by_cases e : k = n
    · subst e
      have := bcn_mono h k
      rw [if_neg ha, if_pos hb]; omega
    · have ih := bcn_lt h ha hb n (by omega)
      by_cases q : a.testBit n = true
      · rw [if_pos q, if_pos (h n q)]; omega
      · rw [if_neg q]; split <;> omega
theorem bcn_sb {a b : Nat} (h : sb a b) (hne : ¬ b = a) (hb : b < 2 ^ 12) : bcn a 12 + 1 ≤ bcn b 12 := by
  have : ∃ k, b.testBit k = true ∧ ¬ a.testBit k = true := Classical.byContradiction fun z => hne (sb.eq (fun k q => Classical.byContradiction fun y => z ⟨k, q, y⟩) h)
  obtain ⟨k, q1, q2⟩ := this
  exact bcn_lt h q2 q1 12 (bit12 hb q1)
theorem bcn_all {g : Nat} {j : Nat} (h : ¬ g.testBit j = true) : ∀ n, j < n → bcn g n + 1 ≤ n
  | 0, q => absurd q (Nat.not_lt_zero j)
  | n + 1, q => by
    show bcn g n + (if _ then 1 else 0) + 1 ≤ n + 1
    by_cases e : j = n
    · subst e; rw [if_neg h]; have := bcn_le g j; omega
    · have := bcn_all h n (by omega); split <;> omega
/-! closed sets -/
def cls (mt : Nat → Nat) (g : Nat) : Prop := ∀ i j, i < 12 → j < 12 → g.testBit i = true → (mt i).testBit j = true → g.testBit j = true
theorem cls_full {mt : Nat → Nat} {g : Nat} (h : 12 ≤ bcn g 12) : cls mt g := fun i j _ hj _ _ => Classical.byContradiction fun q => by
  have := bcn_all q 12 hj
  omega
theorem mOf_b {mt : Nat → Nat} {g j : Nat} : ∀ n, (mOf mt g n).testBit j = true ↔ ∃ i, i < n ∧ g.testBit i = true ∧ (mt i).testBit j = true
  | 0 => ⟨fun h => (by rw [show mOf mt g 0 = 0 from rfl, Nat.zero_testBit] at h; cases h), fun ⟨i, h, _⟩ => absurd h (Nat.not_lt_zero i)⟩
  | n + 1 => by
    have ih := mOf_b (mt := mt) (g := g) (j := j) n
    rcases q : g.testBit n with _ | _
    · rw [mOf_f q, ih]
      exact ⟨fun ⟨i, a, b⟩ => ⟨i, by omega, b⟩, fun ⟨i, a, b, c⟩ => ⟨i, Nat.lt_of_le_of_ne (by omega) (fun z => by rw [z, q] at b; cases b), b, c⟩⟩
    · rw [mOf_t q, Nat.testBit_or, Bool.or_eq_true_iff, ih]
      constructor
      · rintro (⟨i, a, b⟩ | h)
        · exact ⟨i, by omega, b⟩
        · exact ⟨n, by omega, q, h⟩
      · rintro ⟨i, a, b, c⟩
        by_cases e : i = n
        · subst e; exact Or.inr c
        · exact Or.inl ⟨i, by omega, b, c⟩
theorem mOf_cls {mt : Nat → Nat} {g : Nat} (h : g ||| mOf mt g 12 = g) : cls mt g := fun i j hi _ q1 q2 => by
  rw [← h, Nat.testBit_or, (mOf_b 12).2 ⟨i, hi, q1, q2⟩, Bool.or_true]
theorem gLp_cls {mt : Nat → Nat} (h : ∀ j, j < 12 → mt j < 2 ^ 12) : ∀ m g b, g < 2 ^ 12 → 12 ≤ bcn g 12 + m → (g = b → cls mt g) → cls mt (gLp mt m g b)
  | 0, g, b, _, hm, _ => cls_full hm
  | m + 1, g, b, hg, hm, hc => by
    by_cases q : g = b
    · rw [gLp_t q]; exact hc q
    · rw [gLp_f q]
      have hl := Nat.or_lt_two_pow hg (mOf_lt h 12 (Nat.le_refl _) (ms := g))
      by_cases e : g ||| mOf mt g 12 = g
      · rw [e, gLp_t rfl]; exact mOf_cls e
      · have := bcn_sb (sb.l (a := g) (b := mOf mt g 12)) e hl
        exact gLp_cls h m _ _ hl (by omega) (fun z => absurd z e)
theorem gLp_min {mt : Nat → Nat} {H : Nat} (h : ∀ j, j < 12 → mt j < 2 ^ 12) (hH : cls mt H) : ∀ m g b, sb g H → sb (gLp mt m g b) H
  | 0, g, b, hg => hg
  | m + 1, g, b, hg => by
    by_cases q : g = b
    · rw [gLp_t q]; exact hg
    · rw [gLp_f q]
      refine gLp_min h hH m _ _ (fun k qk => ?_)
      rcases or_b qk with z | z
      · exact hg k z
      · obtain ⟨i, a, b, c⟩ := (mOf_b 12).1 z
        exact hH i k a (bit12 (h i a) c) (hg i b) c
theorem bcn_1 (a : Nat) (ha : a < 12) : 1 ≤ bcn (2 ^ a) 12 := bcn_pos Nat.testBit_two_pow_self 12 ha
theorem gOf_cls {mt : Nat → Nat} (h : ∀ j, j < 12 → mt j < 2 ^ 12) {a : Nat} (ha : a < 12) : cls mt (gOf mt a) := by
  have := bcn_1 a ha
  exact gLp_cls h 12 _ _ (Nat.pow_lt_pow_right (by decide) ha) (by omega) (fun z => absurd z (Nat.ne_of_gt (Nat.pow_pos (by decide))))
theorem gOf_min {mt : Nat → Nat} {H a : Nat} (h : ∀ j, j < 12 → mt j < 2 ^ 12) (hH : cls mt H) (q : H.testBit a = true) : sb (gOf mt a) H := gLp_min h hH 12 _ _ (fun k z => by rw [← tp_b z]; exact q)
/-! one pass in place -/
def giI (mt : Nat → Nat) (i g : Nat) : Nat → Nat
  | 0 => g
  | j + 1 => if (giI mt i g j).testBit i = true ∧ (mt i).testBit j = true then giI mt i g j ||| 2 ^ j else giI mt i g j
def giO (mt : Nat → Nat) (cnt g : Nat) : Nat → Nat
  | 0 => g
  | i + 1 => giI mt i (giO mt cnt g i) cnt
theorem giI_s {mt : Nat → Nat} {i g j : Nat} : sb (giI mt i g j) (giI mt i g (j + 1)) := by
  show sb _ (if _ then _ else _)
  split
  · exact sb.l
  · exact sb.refl _
theorem giI_m {mt : Nat → Nat} {i g j : Nat} : ∀ m, sb (giI mt i g j) (giI mt i g (j + m))
  | 0 => sb.refl _
  | m + 1 => (giI_m m).trans giI_s
theorem giI_lt {mt : Nat → Nat} {i g : Nat} (hg : g < 2 ^ 12) : ∀ j, j ≤ 12 → giI mt i g j < 2 ^ 12
  | 0, _ => hg
  | j + 1, h => by
    have ih := giI_lt (mt := mt) (i := i) hg j (by omega)
    show (if _ then _ else _) < _
    split
    · exact Nat.or_lt_two_pow ih (Nat.pow_lt_pow_right (by decide) (by omega))
    · exact ih
theorem giI_H {mt : Nat → Nat} {i g H : Nat} (hH : cls mt H) (hi : i < 12) (hg : sb g H) : ∀ j, j ≤ 12 → sb (giI mt i g j) H
  | 0, _ => hg
  | j + 1, h => by
    have ih := giI_H hH hi hg j (by omega)
    show sb (if _ then _ else _) H
    split
    · rename_i q
      intro k z
      rcases or_b z with z | z
      · exact ih k z
      · rw [← tp_b z]; exact hH i j hi (by omega) (ih i q.1) q.2
    · exact ih
theorem giI_fix {mt : Nat → Nat} {i g n : Nat} (h : giI mt i g n = g) {j : Nat} (hj : j < n) (h1 : g.testBit i = true) (h2 : (mt i).testBit j = true) : g.testBit j = true := by
  have s1 : sb g (giI mt i g j) := by have := giI_m (mt := mt) (i := i) (g := g) (j := 0) j; rwa [Nat.zero_add] at this
  have e : giI mt i g (j + 1) = giI mt i g j ||| 2 ^ j := if_pos ⟨s1 i h1, h2⟩
  have s2 : sb (giI mt i g (j + 1)) g := by
    have := giI_m (mt := mt) (i := i) (g := g) (j := j + 1) (n - (j + 1))
    rwa [show j + 1 + (n - (j + 1)) = n by omega, h] at this
  refine s2 j ?_
  rw [e, Nat.testBit_or, Nat.testBit_two_pow_self, Bool.or_true]
theorem giO_s {mt : Nat → Nat} {cnt g i : Nat} : sb (giO mt cnt g i) (giO mt cnt g (i + 1)) := by
  have := giI_m (mt := mt) (i := i) (g := giO mt cnt g i) (j := 0) cnt
  rwa [Nat.zero_add] at this
theorem giO_m {mt : Nat → Nat} {cnt g i : Nat} : ∀ m, sb (giO mt cnt g i) (giO mt cnt g (i + m))
  | 0 => sb.refl _
  | m + 1 => (giO_m m).trans giO_s
theorem giO_lt {mt : Nat → Nat} {cnt g : Nat} (hg : g < 2 ^ 12) (hc : cnt ≤ 12) : ∀ i, giO mt cnt g i < 2 ^ 12
  | 0 => hg
  | i + 1 => giI_lt (giO_lt hg hc i) cnt hc
theorem giO_H {mt : Nat → Nat} {cnt g H : Nat} (hH : cls mt H) (hc : cnt ≤ 12) (hg : sb g H) : ∀ i, i ≤ 12 → sb (giO mt cnt g i) H
  | 0, _ => hg
  | i + 1, h => giI_H hH (by omega) (giO_H hH hc hg i (by omega)) cnt hc
theorem giO_cls {mt : Nat → Nat} {cnt g : Nat} (hm : MTO mt cnt) (h : giO mt cnt g cnt = g) : cls mt g := fun i j hi hj q1 q2 => by
  obtain ⟨ic, jc, -⟩ := hm.2 i j hi hj q2
  have s0 : sb g (giO mt cnt g i) := by have := giO_m (mt := mt) (cnt := cnt) (g := g) (i := 0) i; rwa [Nat.zero_add] at this
  have s1 : sb (giO mt cnt g i) g := by
    have := giO_m (mt := mt) (cnt := cnt) (g := g) (i := i) (cnt - i)
    rwa [show i + (cnt - i) = cnt by omega, h] at this
  have s2 : sb (giO mt cnt g (i + 1)) g := by
    have := giO_m (mt := mt) (cnt := cnt) (g := g) (i := i + 1) (cnt - (i + 1))
    rwa [show i + 1 + (cnt - (i + 1)) = cnt by omega, h] at this
  have e := sb.eq s1 s0
  have e2 := sb.eq s2 (s0.trans giO_s)
  have e3 : giI mt i g cnt = g := by
    have z : giO mt cnt g (i + 1) = giI mt i (giO mt cnt g i) cnt := rfl
    rw [e] at z
    exact z.symm.trans e2
  exact giI_fix e3 jc q1 q2
theorem giO_sub {mt : Nat → Nat} {cnt g : Nat} : sb g (giO mt cnt g cnt) := by have := giO_m (mt := mt) (cnt := cnt) (g := g) (i := 0) cnt; rwa [Nat.zero_add] at this
theorem gOf_of {mt : Nat → Nat} {a g : Nat} (h : ∀ j, j < 12 → mt j < 2 ^ 12) (h1 : g.testBit a = true) (h2 : sb g (gOf mt a)) (h3 : cls mt g) : g = gOf mt a := sb.eq h2 (gOf_min h h3 h1)
set_option maxHeartbeats 4000000 in
theorem gr_in {mc ms kc ks : Nat} {V : aV} {mt : Nat → Nat} {cnt a : Nat} (hR : MR V) (h5 : V 504 5 = .int (nI cnt)) (hM : MM V mt) (hm : MTO mt cnt) (hc : cnt ≤ 12) {i g b : Nat} (hi : i < cnt) (hg : g < 2 ^ 12) {Q : Option Value → aS → aV → Prop} {QX : String → aS → aV → Prop} (hK : R mX12_groupOf 0 mc ms Q QX kc ks 76 [some (.ref 504), some (.int (nI a)), some (.int (nI (giI mt i g cnt))), some (.int (nI b)), some (.int (nI i)), none] [] Sh V) : ∀ (m j : Nat), j + m = cnt → R mX12_groupOf 0 mc ms Q QX kc ks 28 [some (.ref 504), some (.int (nI a)), some (.int (nI (giI mt i g j))), some (.int (nI b)), some (.int (nI i)), some (.int (nI j))] [] Sh V := by
  intro m
  induction m with
  | zero =>
    intro j hj
    have hj' : j = cnt := by omega
    subst hj'
    refine R_iload_5 dX12_groupOf_28 ?_
    refine R_aload_0 dX12_groupOf_30 ?_
    refine gfX12_166 rfl dX12_groupOf_31 sh_504 (by first | assumption | exact a_up_self _ _ _ _ | exact (a_up_ne (by omega)).trans (by assumption) | exact (a_up_ne (by omega)).trans (a_up_self _ _ _ _) | exact (a_up_ne (by omega)).trans ((a_up_ne (by omega)).trans (by assumption)) | exact (a_up_ne (by omega)).trans ((a_up_ne (by omega)).trans (a_up_self _ _ _ _)) | exact (a_up_ne (by omega)).trans ((a_up_ne (by omega)).trans ((a_up_ne (by omega)).trans (by assumption))) | exact (a_up_ne (by omega)).trans ((a_up_ne (by omega)).trans ((a_up_ne (by omega)).trans (a_up_self _ _ _ _))) | exact (a_up_ne (by omega)).trans ((a_up_ne (by omega)).trans ((a_up_ne (by omega)).trans ((a_up_ne (by omega)).trans (by assumption)))) | exact (a_up_ne (by omega)).trans ((a_up_ne (by omega)).trans ((a_up_ne (by omega)).trans ((a_up_ne (by omega)).trans (a_up_self _ _ _ _)))) | exact (a_up_ne (by omega)).trans ((a_up_ne (by omega)).trans ((a_up_ne (by omega)).trans ((a_up_ne (by omega)).trans ((a_up_ne (by omega)).trans (by assumption))))) | exact (a_up_ne (by omega)).trans ((a_up_ne (by omega)).trans ((a_up_ne (by omega)).trans ((a_up_ne (by omega)).trans ((a_up_ne (by omega)).trans (a_up_self _ _ _ _)))))) ?_
    refine R_icmp_ge 76 dX12_groupOf_34 (by decide) (fun c34 => ?_) (fun c34 => absurd (Int32.le_refl _) c34)
    refine R_drop_5 ?_
    exact hK
  | succ m ih =>
    intro j hj
    have hl := giI_lt (mt := mt) (i := i) hg j (by omega)
    have b9 : ¬ nI cnt ≤ nI j := nI_ge (a := j) (b := cnt) (by omega) (by omega)
    refine R_iload_5 dX12_groupOf_28 ?_
    refine R_aload_0 dX12_groupOf_30 ?_
    refine gfX12_166 rfl dX12_groupOf_31 sh_504 (by first | assumption | exact a_up_self _ _ _ _ | exact (a_up_ne (by omega)).trans (by assumption) | exact (a_up_ne (by omega)).trans (a_up_self _ _ _ _) | exact (a_up_ne (by omega)).trans ((a_up_ne (by omega)).trans (by assumption)) | exact (a_up_ne (by omega)).trans ((a_up_ne (by omega)).trans (a_up_self _ _ _ _)) | exact (a_up_ne (by omega)).trans ((a_up_ne (by omega)).trans ((a_up_ne (by omega)).trans (by assumption))) | exact (a_up_ne (by omega)).trans ((a_up_ne (by omega)).trans ((a_up_ne (by omega)).trans (a_up_self _ _ _ _))) | exact (a_up_ne (by omega)).trans ((a_up_ne (by omega)).trans ((a_up_ne (by omega)).trans ((a_up_ne (by omega)).trans (by assumption)))) | exact (a_up_ne (by omega)).trans ((a_up_ne (by omega)).trans ((a_up_ne (by omega)).trans ((a_up_ne (by omega)).trans (a_up_self _ _ _ _)))) | exact (a_up_ne (by omega)).trans ((a_up_ne (by omega)).trans ((a_up_ne (by omega)).trans ((a_up_ne (by omega)).trans ((a_up_ne (by omega)).trans (by assumption))))) | exact (a_up_ne (by omega)).trans ((a_up_ne (by omega)).trans ((a_up_ne (by omega)).trans ((a_up_ne (by omega)).trans ((a_up_ne (by omega)).trans (a_up_self _ _ _ _)))))) ?_
    refine R_icmp_ge 76 dX12_groupOf_34 (by decide) (fun c34 => absurd c34 b9) (fun c34 => ?_)
    refine R_iload_2 dX12_groupOf_37 ?_
    refine R_iload_4 dX12_groupOf_38 ?_
    refine R_ishr dX12_groupOf_40 ?_
    refine R_iconst (v := 1) dX12_groupOf_41 (by decide) ?_
    refine R_iand dX12_groupOf_42 ?_
    rw [mb_sh (by omega) (by omega)]
    refine R_iconst (v := 1) dX12_groupOf_43 (by decide) ?_
    refine R_icmp_ne 70 dX12_groupOf_44 (by decide) (fun c44 => ?_) (fun c44 => ?_)
    · have e9 : giI mt i g (j + 1) = giI mt i g j := if_neg (fun z => c44 (bI_t z.1))
      rw [← e9]
      refine R_iinc_5 rfl (by decide) dX12_groupOf_70 rfl ?_
      rw [show nI j + Int32.ofInt 1 = nI (j + 1) from nI_1 j]
      refine R_goto 28 dX12_groupOf_73 (by decide) ?_
      exact ih (j + 1) (by omega)
    · refine R_aload_0 dX12_groupOf_47 ?_
      refine gfX12_52 rfl dX12_groupOf_48 sh_504 (by first | exact hR.g (k := 17) (a := 519) (by decide) | exact (a_up_ne (by omega)).trans (hR.g (k := 17) (a := 519) (by decide)) | exact (a_up_ne (by omega)).trans ((a_up_ne (by omega)).trans (hR.g (k := 17) (a := 519) (by decide))) | exact (a_up_ne (by omega)).trans ((a_up_ne (by omega)).trans ((a_up_ne (by omega)).trans (hR.g (k := 17) (a := 519) (by decide)))) | exact (a_up_ne (by omega)).trans ((a_up_ne (by omega)).trans ((a_up_ne (by omega)).trans ((a_up_ne (by omega)).trans (hR.g (k := 17) (a := 519) (by decide))))) | exact (a_up_ne (by omega)).trans ((a_up_ne (by omega)).trans ((a_up_ne (by omega)).trans ((a_up_ne (by omega)).trans ((a_up_ne (by omega)).trans (hR.g (k := 17) (a := 519) (by decide)))))) | exact (a_up_ne (by omega)).trans ((a_up_ne (by omega)).trans ((a_up_ne (by omega)).trans ((a_up_ne (by omega)).trans ((a_up_ne (by omega)).trans ((a_up_ne (by omega)).trans (hR.g (k := 17) (a := 519) (by decide)))))))) ?_
      refine R_bipush (v := 12) dX12_groupOf_51 (by decide) ?_
      refine R_iload_4 dX12_groupOf_53 ?_
      refine R_imul dX12_groupOf_55 ?_
      refine R_iload_5 dX12_groupOf_56 ?_
      refine R_iadd dX12_groupOf_58 ?_
      refine R_zaldE dX12_groupOf_59 sh_519 (ix1 12 i j) (by omega) (by decide) (hM i j (by omega) (by omega)) ?_
      refine R_if_eq 70 dX12_groupOf_60 (by decide) (fun c60 => ?_) (fun c60 => ?_)
      · have e9 : giI mt i g (j + 1) = giI mt i g j := if_neg (fun z => bI_eq c60 z.2)
        rw [← e9]
        refine R_iinc_5 rfl (by decide) dX12_groupOf_70 rfl ?_
        rw [show nI j + Int32.ofInt 1 = nI (j + 1) from nI_1 j]
        refine R_goto 28 dX12_groupOf_73 (by decide) ?_
        exact ih (j + 1) (by omega)
      · refine R_iload_2 dX12_groupOf_63 ?_
        refine R_iconst (v := 1) dX12_groupOf_64 (by decide) ?_
        refine R_iload_5 dX12_groupOf_65 ?_
        refine R_ishl dX12_groupOf_67 ?_
        rw [bk_shl (by omega)]
        refine R_ior dX12_groupOf_68 ?_
        rw [bk_or]
        refine R_istore_2 rfl (by decide) dX12_groupOf_69 ?_
        have e9 : giI mt i g (j + 1) = giI mt i g j ||| 2 ^ j := if_pos ⟨bI_ne (fun z => by rw [c44] at z; exact absurd z (by decide)), bI_ne c60⟩
        rw [← e9]
        refine R_iinc_5 rfl (by decide) dX12_groupOf_70 rfl ?_
        rw [show nI j + Int32.ofInt 1 = nI (j + 1) from nI_1 j]
        refine R_goto 28 dX12_groupOf_73 (by decide) ?_
        exact ih (j + 1) (by omega)
set_option maxHeartbeats 4000000 in
theorem gr_out {mc ms kc ks : Nat} {V : aV} {mt : Nat → Nat} {cnt a : Nat} (hR : MR V) (h5 : V 504 5 = .int (nI cnt)) (hM : MM V mt) (hm : MTO mt cnt) (hc : cnt ≤ 12) {g b : Nat} (hg : g < 2 ^ 12) {Q : Option Value → aS → aV → Prop} {QX : String → aS → aV → Prop} (hK : R mX12_groupOf 0 mc ms Q QX kc ks 6 [some (.ref 504), some (.int (nI a)), some (.int (nI (giO mt cnt g cnt))), some (.int (nI b)), none, none] [] Sh V) : ∀ (m i : Nat), i + m = cnt → R mX12_groupOf 0 mc ms Q QX kc ks 16 [some (.ref 504), some (.int (nI a)), some (.int (nI (giO mt cnt g i))), some (.int (nI b)), some (.int (nI i)), none] [] Sh V := by
  intro m
  induction m with
  | zero =>
    intro i hi
    have hi' : i = cnt := by omega
    subst hi'
    refine R_iload_4 dX12_groupOf_16 ?_
    refine R_aload_0 dX12_groupOf_18 ?_
    refine gfX12_166 rfl dX12_groupOf_19 sh_504 (by first | assumption | exact a_up_self _ _ _ _ | exact (a_up_ne (by omega)).trans (by assumption) | exact (a_up_ne (by omega)).trans (a_up_self _ _ _ _) | exact (a_up_ne (by omega)).trans ((a_up_ne (by omega)).trans (by assumption)) | exact (a_up_ne (by omega)).trans ((a_up_ne (by omega)).trans (a_up_self _ _ _ _)) | exact (a_up_ne (by omega)).trans ((a_up_ne (by omega)).trans ((a_up_ne (by omega)).trans (by assumption))) | exact (a_up_ne (by omega)).trans ((a_up_ne (by omega)).trans ((a_up_ne (by omega)).trans (a_up_self _ _ _ _))) | exact (a_up_ne (by omega)).trans ((a_up_ne (by omega)).trans ((a_up_ne (by omega)).trans ((a_up_ne (by omega)).trans (by assumption)))) | exact (a_up_ne (by omega)).trans ((a_up_ne (by omega)).trans ((a_up_ne (by omega)).trans ((a_up_ne (by omega)).trans (a_up_self _ _ _ _)))) | exact (a_up_ne (by omega)).trans ((a_up_ne (by omega)).trans ((a_up_ne (by omega)).trans ((a_up_ne (by omega)).trans ((a_up_ne (by omega)).trans (by assumption))))) | exact (a_up_ne (by omega)).trans ((a_up_ne (by omega)).trans ((a_up_ne (by omega)).trans ((a_up_ne (by omega)).trans ((a_up_ne (by omega)).trans (a_up_self _ _ _ _)))))) ?_
    refine R_icmp_ge 82 dX12_groupOf_22 (by decide) (fun c22 => ?_) (fun c22 => absurd (Int32.le_refl _) c22)
    refine R_goto 6 dX12_groupOf_82 (by decide) ?_
    refine R_drop_4 ?_
    exact hK
  | succ m ih =>
    intro i hi
    have b9 : ¬ nI cnt ≤ nI i := nI_ge (a := i) (b := cnt) (by omega) (by omega)
    refine R_iload_4 dX12_groupOf_16 ?_
    refine R_aload_0 dX12_groupOf_18 ?_
    refine gfX12_166 rfl dX12_groupOf_19 sh_504 (by first | assumption | exact a_up_self _ _ _ _ | exact (a_up_ne (by omega)).trans (by assumption) | exact (a_up_ne (by omega)).trans (a_up_self _ _ _ _) | exact (a_up_ne (by omega)).trans ((a_up_ne (by omega)).trans (by assumption)) | exact (a_up_ne (by omega)).trans ((a_up_ne (by omega)).trans (a_up_self _ _ _ _)) | exact (a_up_ne (by omega)).trans ((a_up_ne (by omega)).trans ((a_up_ne (by omega)).trans (by assumption))) | exact (a_up_ne (by omega)).trans ((a_up_ne (by omega)).trans ((a_up_ne (by omega)).trans (a_up_self _ _ _ _))) | exact (a_up_ne (by omega)).trans ((a_up_ne (by omega)).trans ((a_up_ne (by omega)).trans ((a_up_ne (by omega)).trans (by assumption)))) | exact (a_up_ne (by omega)).trans ((a_up_ne (by omega)).trans ((a_up_ne (by omega)).trans ((a_up_ne (by omega)).trans (a_up_self _ _ _ _)))) | exact (a_up_ne (by omega)).trans ((a_up_ne (by omega)).trans ((a_up_ne (by omega)).trans ((a_up_ne (by omega)).trans ((a_up_ne (by omega)).trans (by assumption))))) | exact (a_up_ne (by omega)).trans ((a_up_ne (by omega)).trans ((a_up_ne (by omega)).trans ((a_up_ne (by omega)).trans ((a_up_ne (by omega)).trans (a_up_self _ _ _ _)))))) ?_
    refine R_icmp_ge 82 dX12_groupOf_22 (by decide) (fun c22 => absurd c22 b9) (fun c22 => ?_)
    refine R_iconst (v := 0) dX12_groupOf_25 (by decide) ?_
    refine R_istore_5 rfl (by decide) dX12_groupOf_26 ?_
    refine gr_in (g := giO mt cnt g i) hR h5 hM hm hc (by omega) (giO_lt hg hc i) ?_ cnt 0 (by omega)
    refine R_iinc_4 rfl (by decide) dX12_groupOf_76 rfl ?_
    rw [show nI i + Int32.ofInt 1 = nI (i + 1) from nI_1 i]
    refine R_goto 16 dX12_groupOf_79 (by decide) ?_
    exact ih (i + 1) (by omega)
set_option maxHeartbeats 4000000 in
theorem gr_loop {mc ms kc ks : Nat} {V : aV} {mt : Nat → Nat} {cnt a : Nat} (hR : MR V) (h5 : V 504 5 = .int (nI cnt)) (hM : MM V mt) (hm : MTO mt cnt) (hc : cnt ≤ 12) {Q : Option Value → aS → aV → Prop} {QX : String → aS → aV → Prop} (hQ : Q (some (.int (nI (gOf mt a)))) Sh V) : ∀ (m g b : Nat), 12 ≤ bcn g 12 + m → g < 2 ^ 12 → b < 2 ^ 31 → g.testBit a = true → sb g (gOf mt a) → (g = b → cls mt g) → R mX12_groupOf 0 mc ms Q QX kc ks 6 [some (.ref 504), some (.int (nI a)), some (.int (nI (g))), some (.int (nI b)), none, none] [] Sh V := by
  have fin : ∀ (g b : Nat), g = b → g.testBit a = true → sb g (gOf mt a) → (g = b → cls mt g) → R mX12_groupOf 0 mc ms Q QX kc ks 6 [some (.ref 504), some (.int (nI a)), some (.int (nI (g))), some (.int (nI b)), none, none] [] Sh V := by
    intro g b e h1 h2 h3
    have e9 := gOf_of hm.1 h1 h2 (h3 e)
    subst e
    refine R_iload_2 dX12_groupOf_6 ?_
    refine R_iload_3 dX12_groupOf_7 ?_
    refine R_icmp_eq 85 dX12_groupOf_8 (by decide) (fun c8 => ?_) (fun c8 => absurd rfl c8)
    refine R_iload_2 dX12_groupOf_85 ?_
    refine R_iret rfl dX12_groupOf_86 (by rw [e9]; exact hQ)
  intro m
  induction m with
  | zero =>
    intro g b hp hg hb h1 h2 h3
    by_cases e : g = b
    · exact fin g b e h1 h2 h3
    have b9 : ¬ nI g = nI b := fun z => e (bk_inj (by omega) hb z)
    refine R_iload_2 dX12_groupOf_6 ?_
    refine R_iload_3 dX12_groupOf_7 ?_
    refine R_icmp_eq 85 dX12_groupOf_8 (by decide) (fun c8 => absurd c8 b9) (fun c8 => ?_)
    refine R_iload_2 dX12_groupOf_11 ?_
    refine R_istore_3 rfl (by decide) dX12_groupOf_12 ?_
    refine R_iconst (v := 0) dX12_groupOf_13 (by decide) ?_
    refine R_istore_4 rfl (by decide) dX12_groupOf_14 ?_
    have hl := giO_lt (mt := mt) (cnt := cnt) (g := g) hg hc cnt
    refine gr_out hR h5 hM hm hc hg ?_ cnt 0 (by omega)
    by_cases e2 : giO mt cnt g cnt = g
    · rw [e2]
      exact fin g g rfl h1 h2 (fun _ => giO_cls hm e2)
    · have hs := bcn_sb giO_sub e2 hl
      have := bcn_le (giO mt cnt g cnt) 12
      omega
  | succ m ih =>
    intro g b hp hg hb h1 h2 h3
    by_cases e : g = b
    · exact fin g b e h1 h2 h3
    have b9 : ¬ nI g = nI b := fun z => e (bk_inj (by omega) hb z)
    refine R_iload_2 dX12_groupOf_6 ?_
    refine R_iload_3 dX12_groupOf_7 ?_
    refine R_icmp_eq 85 dX12_groupOf_8 (by decide) (fun c8 => absurd c8 b9) (fun c8 => ?_)
    refine R_iload_2 dX12_groupOf_11 ?_
    refine R_istore_3 rfl (by decide) dX12_groupOf_12 ?_
    refine R_iconst (v := 0) dX12_groupOf_13 (by decide) ?_
    refine R_istore_4 rfl (by decide) dX12_groupOf_14 ?_
    have hl := giO_lt (mt := mt) (cnt := cnt) (g := g) hg hc cnt
    refine gr_out hR h5 hM hm hc hg ?_ cnt 0 (by omega)
    by_cases e2 : giO mt cnt g cnt = g
    · rw [e2]
      exact fin g g rfl h1 h2 (fun _ => giO_cls hm e2)
    · have hs := bcn_sb giO_sub e2 hl
      exact ih _ _ (by omega) hl (by omega) (giO_sub a h1) (giO_H (gOf_cls hm.1 (Nat.lt_of_not_le fun z => by have := bit12 hg h1; omega)) hc h2 cnt hc) (fun z => absurd z e2)
set_option maxHeartbeats 4000000 in
theorem ct_mgroupOf {V : aV} {mt : Nat → Nat} {cnt a : Nat} (hR : MR V) (h5 : V 504 5 = .int (nI cnt)) (hM : MM V mt) (hm : MTO mt cnt) (hc : cnt ≤ 12) (ha : a < 12) : CT mX12_groupOf 0 0 0 [.ref 504, .int (nI a)] Sh V (aRet (some (.int (nI (gOf mt a)))) Sh V) aNo := by
  refine CT_of (by decide +kernel) (Nat.le_of_ble_eq_true rfl) ?_
  show R _ _ _ _ _ _ _ _ 0 [some (.ref 504), some (.int (nI a)), none, none, none, none] [] _ _
  refine R_iconst (v := 1) dX12_groupOf_0 (by decide) ?_
  refine R_iload_1 dX12_groupOf_1 ?_
  refine R_ishl dX12_groupOf_2 ?_
  rw [bk_shl (by omega)]
  refine R_istore_2 rfl (by decide) dX12_groupOf_3 ?_
  refine R_iconst (v := 0) dX12_groupOf_4 (by decide) ?_
  refine R_istore_3 rfl (by decide) dX12_groupOf_5 ?_
  have h9 := gr_loop (a := a) (Q := aRet (some (.int (nI (gOf mt a)))) Sh V) (QX := aNo) (mc := 0) (ms := 0) (kc := 0) (ks := 0) hR h5 hM hm hc ⟨rfl, rfl, rfl⟩ 12 (2 ^ a) 0 (Nat.le_add_left _ _) (Nat.pow_lt_pow_right (by decide) ha) (by decide) Nat.testBit_two_pow_self (fun q z => by rw [← tp_b z]; exact gOf_self mt a) (fun z => absurd z (Nat.ne_of_gt (Nat.pow_pos (by decide))))
  exact h9

set_option maxHeartbeats 4000000 in
theorem ct_mgroup {V : aV} {mt : Nat → Nat} {cnt : Nat} (hR : MR V) (h5 : V 504 5 = .int (nI cnt)) (hM : MM V mt) (hm : MTO mt cnt) (hc : cnt ≤ 12) (t : Int32) : CT mX12_group 1 0 0 [.ref 504, .int t] Sh V (MQy V (xc1 cnt t) (nI (gOf mt t.toNatClampNeg))) aNo := by
  refine CT_of (by decide +kernel) (Nat.le_of_ble_eq_true rfl) ?_
  show R _ _ _ _ _ _ _ _ 0 [some (.ref 504), some (.int t)] [] _ _
  refine R_aload_0 dX12_group_0 ?_
  refine R_aload_0 dX12_group_1 ?_
  refine R_iload_1 dX12_group_2 ?_
  refine R_callV_e (T := mX12_group) (T' := mX12_isOne) (As := [_]) (ci := 12) okX12_isOne mlX12_175 rfl (by decide) sh_504 (ct_misOne h5 t) rfl (by decide) (by decide) (Nat.le_of_ble_eq_true rfl) dX12_group_3 ?_
  refine R_if_eq 13 dX12_group_6 (by decide) (fun c6 => ?_) (fun c6 => ?_)
  · have hx : xc1 cnt t = 1 := if_neg (bI_eq c6)
    refine R_iconst (v := 1) dX12_group_13 (by decide) ?_
    refine R_callV_e (T := mX12_group) (T' := mX12_fails) (As := [_]) (ci := 12) okX12_fails mlX12_128 rfl (by decide) sh_504 (ct_mfails _) rfl (by decide) (by decide) (Nat.le_of_ble_eq_true rfl) dX12_group_14 ?_
    refine R_if_eq 22 dX12_group_17 (by decide) (fun c17 => absurd c17 (by decide)) (fun c17 => ?_)
    refine R_iconst (v := 0) dX12_group_20 (by decide) ?_
    refine R_iret rfl dX12_group_21 ⟨rfl, (a_up_self _ _ _ _).trans (by rw [hx]; rfl), ⟨_, rfl, fun z => by rw [hx] at z; cases z⟩, FrS.f (Or.inl rfl)⟩
  · have hx : xc1 cnt t = 0 := if_pos (bI_ne c6)
    obtain ⟨i, ic, i12, rfl⟩ := tN (bI_ne c6) hc
    have f1 := FrS.f (V := V) (k := 0) (v := .int 0) (Or.inl rfl)
    refine R_iconst (v := 0) dX12_group_9 (by decide) ?_
    refine R_goto 14 dX12_group_10 (by decide) ?_
    refine R_callV_e (T := mX12_group) (T' := mX12_fails) (As := [_]) (ci := 12) okX12_fails mlX12_128 rfl (by decide) sh_504 (ct_mfails _) rfl (by decide) (by decide) (Nat.le_of_ble_eq_true rfl) dX12_group_14 ?_
    refine R_if_eq 22 dX12_group_17 (by decide) (fun c17 => ?_) (fun c17 => absurd (by decide) c17)
    refine R_aload_0 dX12_group_22 ?_
    refine R_iload_1 dX12_group_23 ?_
    refine R_callV_e (T := mX12_group) (T' := mX12_groupOf) (As := [_]) (ci := 12) okX12_groupOf mlX12_210 rfl (by decide) sh_504 (ct_mgroupOf (f1.mr hR) ((a_up_ne (Or.inr (by decide))).trans h5) (f1.mm hM) hm hc i12) rfl (by decide) (by decide) (Nat.le_of_ble_eq_true rfl) dX12_group_24 ?_
    refine R_iret rfl dX12_group_27 ⟨rfl, (a_up_self _ _ _ _).trans (by rw [hx]; rfl), ⟨_, rfl, fun _ => by rw [nI_clamp (n := i) (by omega)]⟩, f1⟩

theorem low_ex {g : Nat} (h : MBR g) : ∃ a, a < 12 ∧ g.testBit a = true ∧ ∀ i, i < a → g.testBit i = false := by
  obtain ⟨-, a, ha, hb⟩ := h
  induction a using Nat.strongRecOn with
  | _ a ih =>
    by_cases q : ∃ i, i < a ∧ g.testBit i = true
    · obtain ⟨i, h1, h2⟩ := q
      exact ih i h1 (by omega) h2
    · exact ⟨a, ha, hb, fun i hi => Bool.eq_false_iff.2 (fun z => q ⟨i, hi, z⟩)⟩
set_option maxHeartbeats 4000000 in
theorem lo_loop {mc ms kc ks : Nat} {S : aS} {V : aV} {g a : Nat} (hg : g < 2 ^ 12) (ha : a < 12) (h1 : g.testBit a = true) (h0 : ∀ i, i < a → g.testBit i = false) {Q : Option Value → aS → aV → Prop} {QX : String → aS → aV → Prop} (hQ : Q (some (.int (nI a))) S V) : ∀ (m i : Nat), i + m = a → R mX12_lowest 0 mc ms Q QX kc ks 2 [some (.int (nI g)), some (.int (nI i))] [] S V := by
  intro m
  induction m with
  | zero =>
    intro i hi
    have hi' : i = a := by omega
    subst hi'
    refine R_iload_0 dX12_lowest_2 ?_
    refine R_iload_1 dX12_lowest_3 ?_
    refine R_ishr dX12_lowest_4 ?_
    refine R_iconst (v := 1) dX12_lowest_5 (by decide) ?_
    refine R_iand dX12_lowest_6 ?_
    rw [mb_sh (by omega) (by omega), bI_t h1]
    refine R_if_ne 16 dX12_lowest_7 (by decide) (fun c7 => ?_) (fun c7 => absurd c7 (by decide))
    refine R_iload_1 dX12_lowest_16 ?_
    refine R_iret rfl dX12_lowest_17 hQ
  | succ m ih =>
    intro i hi
    have hb := Bool.eq_false_iff.1 (h0 i (by omega))
    refine R_iload_0 dX12_lowest_2 ?_
    refine R_iload_1 dX12_lowest_3 ?_
    refine R_ishr dX12_lowest_4 ?_
    refine R_iconst (v := 1) dX12_lowest_5 (by decide) ?_
    refine R_iand dX12_lowest_6 ?_
    rw [mb_sh (by omega) (by omega), bI_f hb]
    refine R_if_ne 16 dX12_lowest_7 (by decide) (fun c7 => absurd rfl c7) (fun c7 => ?_)
    refine R_iinc_1 rfl (by decide) dX12_lowest_10 rfl ?_
    rw [show nI i + Int32.ofInt 1 = nI (i + 1) from nI_1 i]
    refine R_goto 2 dX12_lowest_13 (by decide) ?_
    exact ih (i + 1) (by omega)
set_option maxHeartbeats 4000000 in
theorem ct_lowest {S : aS} {V : aV} {g a : Nat} (hg : g < 2 ^ 12) (ha : a < 12) (h1 : g.testBit a = true) (h0 : ∀ i, i < a → g.testBit i = false) : CT mX12_lowest 0 0 0 [.int (nI g)] S V (aRet (some (.int (nI a))) S V) aNo := by
  refine CT_of (by decide +kernel) (Nat.le_of_ble_eq_true rfl) ?_
  show R _ _ _ _ _ _ _ _ 0 [some (.int (nI g)), none] [] _ _
  refine R_iconst (v := 0) dX12_lowest_0 (by decide) ?_
  refine R_istore_1 rfl (by decide) dX12_lowest_1 ?_
  exact lo_loop hg ha h1 h0 ⟨rfl, rfl, rfl⟩ a 0 (by omega)

theorem bcn_s (g j : Nat) : nI (bcn g j) + bI (g.testBit j = true) = nI (bcn g (j + 1)) := by
  show _ = nI (bcn g j + if _ then 1 else 0)
  by_cases q : g.testBit j = true
  · rw [bI_t q, if_pos q]; exact nI_1 _
  · rw [bI_f q, if_neg q]; exact Int32.add_zero _
set_option maxHeartbeats 4000000 in
theorem mn_loop {mc ms kc ks : Nat} {S : aS} {V : aV} {g : Nat} (hg : g < 2 ^ 12) {Q : Option Value → aS → aV → Prop} {QX : String → aS → aV → Prop} (hQ : Q (some (.int (nI (bcn g 12)))) S V) : ∀ (m j : Nat), j + m = 12 → R mX12_many 0 mc ms Q QX kc ks 4 [some (.int (nI g)), some (.int (nI (bcn g j))), some (.int (nI j))] [] S V := by
  intro m
  induction m with
  | zero =>
    intro j hj
    have hj' : j = 12 := by omega
    subst hj'
    refine R_iload_2 dX12_many_4 ?_
    refine R_bipush (v := 12) dX12_many_5 (by decide) ?_
    refine R_icmp_ge 24 dX12_many_7 (by decide) (fun c7 => ?_) (fun c7 => absurd (by decide) c7)
    refine R_iload_1 dX12_many_24 ?_
    refine R_iret rfl dX12_many_25 hQ
  | succ m ih =>
    intro j hj
    have b9 : ¬ (12 : Int32) ≤ nI j := nI_ge (a := j) (b := 12) (by omega) (by omega)
    refine R_iload_2 dX12_many_4 ?_
    refine R_bipush (v := 12) dX12_many_5 (by decide) ?_
    refine R_icmp_ge 24 dX12_many_7 (by decide) (fun c7 => absurd c7 b9) (fun c7 => ?_)
    refine R_iload_1 dX12_many_10 ?_
    refine R_iload_0 dX12_many_11 ?_
    refine R_iload_2 dX12_many_12 ?_
    refine R_ishr dX12_many_13 ?_
    refine R_iconst (v := 1) dX12_many_14 (by decide) ?_
    refine R_iand dX12_many_15 ?_
    rw [mb_sh (by omega) (by omega)]
    refine R_iadd dX12_many_16 ?_
    rw [bcn_s]
    refine R_istore_1 rfl (by decide) dX12_many_17 ?_
    refine R_iinc_2 rfl (by decide) dX12_many_18 rfl ?_
    rw [show nI j + Int32.ofInt 1 = nI (j + 1) from nI_1 j]
    refine R_goto 4 dX12_many_21 (by decide) ?_
    exact ih (j + 1) (by omega)
set_option maxHeartbeats 4000000 in
theorem ct_many {S : aS} {V : aV} {g : Nat} (hg : g < 2 ^ 12) : CT mX12_many 0 0 0 [.int (nI g)] S V (aRet (some (.int (nI (bcn g 12)))) S V) aNo := by
  refine CT_of (by decide +kernel) (Nat.le_of_ble_eq_true rfl) ?_
  show R _ _ _ _ _ _ _ _ 0 [some (.int (nI g)), none, none] [] _ _
  refine R_iconst (v := 0) dX12_many_0 (by decide) ?_
  refine R_istore_1 rfl (by decide) dX12_many_1 ?_
  refine R_iconst (v := 0) dX12_many_2 (by decide) ?_
  refine R_istore_2 rfl (by decide) dX12_many_3 ?_
  exact mn_loop hg ⟨rfl, rfl, rfl⟩ 12 0 (by omega)

theorem gW_4 (ent : Nat → EntN) (g j : Nat) : (gW ent g (j + 1)).2 4 = (gW ent g j).2 4 + if g.testBit j = true then (ent j).2.2.2.2 else 0 := by
  rcases q : g.testBit j with _ | _
  · rw [gW_f q, if_neg (by decide)]; rfl
  · rw [gW_t q, if_pos rfl]
    show amV _ _ 4 = _
    unfold amV
    split <;> rfl
set_option maxHeartbeats 4000000 in
theorem pt_loop {mc ms kc ks : Nat} {V : aV} {ent : Nat → EntN} {cnt g : Nat} (hR : MR V) (hE : ME V ent cnt) (hg : g < 2 ^ 12) {Q : Option Value → aS → aV → Prop} {QX : String → aS → aV → Prop} (hQ : Q (some (.int (nI ((gW ent g 12).2 4)))) Sh V) : ∀ (m j : Nat), j + m = 12 → R mX12_pointsOf 0 mc ms Q QX kc ks 4 [some (.ref 504), some (.int (nI g)), some (.int (nI ((gW ent g j).2 4))), some (.int (nI j))] [] Sh V := by
  intro m
  induction m with
  | zero =>
    intro j hj
    have hj' : j = 12 := by omega
    subst hj'
    refine R_iload_3 dX12_pointsOf_4 ?_
    refine R_bipush (v := 12) dX12_pointsOf_5 (by decide) ?_
    refine R_icmp_ge 38 dX12_pointsOf_7 (by decide) (fun c7 => ?_) (fun c7 => absurd (by decide) c7)
    refine R_iload_2 dX12_pointsOf_38 ?_
    refine R_iret rfl dX12_pointsOf_39 hQ
  | succ m ih =>
    intro j hj
    have b9 : ¬ (12 : Int32) ≤ nI j := nI_ge (a := j) (b := 12) (by omega) (by omega)
    have e9 := gW_4 ent g j
    refine R_iload_3 dX12_pointsOf_4 ?_
    refine R_bipush (v := 12) dX12_pointsOf_5 (by decide) ?_
    refine R_icmp_ge 38 dX12_pointsOf_7 (by decide) (fun c7 => absurd c7 b9) (fun c7 => ?_)
    refine R_iload_2 dX12_pointsOf_10 ?_
    refine R_iload_1 dX12_pointsOf_11 ?_
    refine R_iload_3 dX12_pointsOf_12 ?_
    refine R_ishr dX12_pointsOf_13 ?_
    refine R_iconst (v := 1) dX12_pointsOf_14 (by decide) ?_
    refine R_iand dX12_pointsOf_15 ?_
    rw [mb_sh (by omega) (by omega)]
    refine R_iconst (v := 1) dX12_pointsOf_16 (by decide) ?_
    refine R_icmp_ne 29 dX12_pointsOf_17 (by decide) (fun c17 => ?_) (fun c17 => ?_)
    · refine R_iconst (v := 0) dX12_pointsOf_29 (by decide) ?_
      refine R_iadd dX12_pointsOf_30 ?_
      first
        | (rw [if_neg (fun z => c17 (bI_t z))] at e9
           rw [show nI ((gW ent g j).2 4) + 0 = nI ((gW ent g (j + 1)).2 4) by rw [e9]; exact Int32.add_zero _])
        | (rw [if_pos (bI_ne (fun z => by rw [c17] at z; exact absurd z (by decide)))] at e9
           rw [nI_add, ← e9])
      refine R_istore_2 rfl (by decide) dX12_pointsOf_31 ?_
      refine R_iinc_3 rfl (by decide) dX12_pointsOf_32 rfl ?_
      rw [show nI j + Int32.ofInt 1 = nI (j + 1) from nI_1 j]
      refine R_goto 4 dX12_pointsOf_35 (by decide) ?_
      exact ih (j + 1) (by omega)
    · refine R_aload_0 dX12_pointsOf_20 ?_
      refine gfX12_49 rfl dX12_pointsOf_21 sh_504 (by first | exact hR.g (k := 16) (a := 518) (by decide) | exact (a_up_ne (by omega)).trans (hR.g (k := 16) (a := 518) (by decide)) | exact (a_up_ne (by omega)).trans ((a_up_ne (by omega)).trans (hR.g (k := 16) (a := 518) (by decide))) | exact (a_up_ne (by omega)).trans ((a_up_ne (by omega)).trans ((a_up_ne (by omega)).trans (hR.g (k := 16) (a := 518) (by decide)))) | exact (a_up_ne (by omega)).trans ((a_up_ne (by omega)).trans ((a_up_ne (by omega)).trans ((a_up_ne (by omega)).trans (hR.g (k := 16) (a := 518) (by decide))))) | exact (a_up_ne (by omega)).trans ((a_up_ne (by omega)).trans ((a_up_ne (by omega)).trans ((a_up_ne (by omega)).trans ((a_up_ne (by omega)).trans (hR.g (k := 16) (a := 518) (by decide)))))) | exact (a_up_ne (by omega)).trans ((a_up_ne (by omega)).trans ((a_up_ne (by omega)).trans ((a_up_ne (by omega)).trans ((a_up_ne (by omega)).trans ((a_up_ne (by omega)).trans (hR.g (k := 16) (a := 518) (by decide)))))))) ?_
      refine R_iload_3 dX12_pointsOf_24 ?_
      refine R_ialdE dX12_pointsOf_25 sh_518 rfl (by omega) (by decide) (hE.2 j (by omega)).2.2.2.2.2.2 ?_
      refine R_goto 30 dX12_pointsOf_26 (by decide) ?_
      refine R_iadd dX12_pointsOf_30 ?_
      first
        | (rw [if_neg (fun z => c17 (bI_t z))] at e9
           rw [show nI ((gW ent g j).2 4) + 0 = nI ((gW ent g (j + 1)).2 4) by rw [e9]; exact Int32.add_zero _])
        | (rw [if_pos (bI_ne (fun z => by rw [c17] at z; exact absurd z (by decide)))] at e9
           rw [nI_add, ← e9])
      refine R_istore_2 rfl (by decide) dX12_pointsOf_31 ?_
      refine R_iinc_3 rfl (by decide) dX12_pointsOf_32 rfl ?_
      rw [show nI j + Int32.ofInt 1 = nI (j + 1) from nI_1 j]
      refine R_goto 4 dX12_pointsOf_35 (by decide) ?_
      exact ih (j + 1) (by omega)
set_option maxHeartbeats 4000000 in
theorem ct_pointsOf {V : aV} {ent : Nat → EntN} {cnt g : Nat} (hR : MR V) (hE : ME V ent cnt) (hg : g < 2 ^ 12) : CT mX12_pointsOf 0 0 0 [.ref 504, .int (nI g)] Sh V (aRet (some (.int (nI ((gW ent g 12).2 4)))) Sh V) aNo := by
  refine CT_of (by decide +kernel) (Nat.le_of_ble_eq_true rfl) ?_
  show R _ _ _ _ _ _ _ _ 0 [some (.ref 504), some (.int (nI g)), none, none] [] _ _
  refine R_iconst (v := 0) dX12_pointsOf_0 (by decide) ?_
  refine R_istore_2 rfl (by decide) dX12_pointsOf_1 ?_
  refine R_iconst (v := 0) dX12_pointsOf_2 (by decide) ?_
  refine R_istore_3 rfl (by decide) dX12_pointsOf_3 ?_
  exact pt_loop hR hE hg ⟨rfl, rfl, rfl⟩ 12 0 (by omega)

