/-! ===== MergePost: a letter, as it comes ===== -/
/-- where the choices go on, of the templates that are told -/
noncomputable def jpO (T : Nat → List Int32) (to : Nat → Bool) (n : Nat) : Nat → Option Nat := if to n = true then jmOf (T n) else fun _ => none
/-- the templates that are told are texts -/
def TKS (T : Nat → List Int32) (to : Nat → Bool) : Prop := ∀ n, n < 8 → to n = true → TOK (T n)
theorem TKS.th {T : Nat → List Int32} {to : Nat → Bool} (h : TKS T to) : TH T to (jpO T to) := fun n hn ht => by
  unfold jpO
  rw [if_pos ht]
  exact h n hn ht
/-- how many members there are below j -/
def bcn (g : Nat) : Nat → Nat
  | 0 => 0
  | j + 1 => bcn g j + if g.testBit j = true then 1 else 0
theorem bcn_le (g : Nat) : ∀ j, bcn g j ≤ j
  | 0 => Nat.le_refl _
  | j + 1 => by
    have := bcn_le g j
    show bcn g j + (if _ then 1 else 0) ≤ _
    split <;> omega
theorem bcn_pos {g a : Nat} (h : g.testBit a = true) : ∀ j, a < j → 1 ≤ bcn g j
  | 0, q => absurd q (Nat.not_lt_zero a)
  | j + 1, q => by
    show 1 ≤ bcn g j + (if _ then 1 else 0)
    by_cases e : a = j
    · subst e; rw [if_pos h]; omega
    · have := bcn_pos h j (by omega); omega
theorem gW_bcn (ent : Nat → EntN) (g : Nat) : ∀ j, (gW ent g j).2 5 = bcn g j
  | 0 => rfl
  | j + 1 => by
    have ih := gW_bcn ent g j
    show _ = bcn g j + (if _ then 1 else 0)
    by_cases q : g.testBit j = true
    · rw [gW_t q, if_pos q]
      show amV (gW ent g j).2 (ent j) 5 = _
      unfold amV
      by_cases z : (gW ent g j).2 5 = 0
      · rw [if_pos z, upN_s, ← ih, z]
      · rw [if_neg z, upN_s, ih]
    · rw [gW_f (Bool.eq_false_iff.2 q), if_neg q, ih]
      rfl
theorem fV_5 (ent : Nat → EntN) (g : Nat) : fV ent g 5 = bcn g 12 := by
  unfold fV
  rw [upN_n (by decide), upN_n (by decide)]
  exact gW_bcn ent g 12
/-- some address is in it -/
def MBR (g : Nat) : Prop := g < 2 ^ 12 ∧ ∃ a, a < 12 ∧ g.testBit a = true
/-- the letter of a template for a group: text, weight, cost; or its trouble -/
abbrev LRs : Type := (List Int32 × Nat × Int32) ⊕ (Int32 × List (Nat × Nat))
noncomputable def ltr (T : Nat → List Int32) (to : Nat → Bool) (ent : Nat → EntN) (b st t g : Nat) : LRs :=
  if to t = true then (match go T to (jpO T to) (fW ent g) (fV ent g) 4 t 0 [] with
    | .inl x => if kost b st (wgt x.length (bcn g 12)) (fV ent g 3) = -1 then .inr (4, [(t, 0)]) else .inl (x, wgt x.length (bcn g 12), kost b st (wgt x.length (bcn g 12)) (fV ent g 3))
    | .inr r => .inr r) else .inr (1, [(t, 0)])
/-- the draft is that letter -/
def DR (V : aV) (g : Nat) (r : LRs) : Prop := match r with
  | .inl x => LT V 28 x.1 (nI g) 0 (nI x.2.1) x.2.2
  | .inr r => V 28 1 = .int (nI g) ∧ V 28 2 = .int r.1 ∧ ¬ r.1 = 0 ∧ V 4 7 = .int (nI r.2.length) ∧ r.2.length ≤ 5 ∧ ∀ j, j < r.2.length → V 31 j = .int (nI (r.2.getD j (0, 0)).1) ∧ V 32 j = .int (nI (r.2.getD j (0, 0)).2)
theorem WOK.or {s : PS} {r : TxR} (h : WOK s r) : (∃ x, r = .inl x ∧ s.1 = x ∧ s.2.1 = 0) ∨ (∃ c lv, r = .inr (c, lv) ∧ s.2.1 = c ∧ (c = 1 ∨ c = 2 ∨ c = 3) ∧ s.2.2.1 = lv.length ∧ ∀ j, j < lv.length → s.2.2.2.1 j = nI (lv.getD j (0, 0)).1 ∧ s.2.2.2.2.1 j = nI (lv.getD j (0, 0)).2) := by
  cases r with
  | inl x => exact Or.inl ⟨x, rfl, h⟩
  | inr r => exact Or.inr ⟨r.1, r.2, rfl, h⟩
theorem PW.dr {V : aV} {s : PS} {g : Nat} {c : Int32} {lv : List (Nat × Nat)} (h : PW V s) (hg : V 28 1 = .int (nI g)) (h1 : s.2.1 = c) (hc : ¬ c = 0) (h2 : s.2.2.1 = lv.length) (h3 : ∀ j, j < lv.length → s.2.2.2.1 j = nI (lv.getD j (0, 0)).1 ∧ s.2.2.2.2.1 j = nI (lv.getD j (0, 0)).2) : DR V g (.inr (c, lv)) := by
  obtain ⟨p1, p2, p3, p4, p5, p6⟩ := h
  refine ⟨hg, by rw [p2, h1], hc, by rw [p3, h2], by rw [← h2]; exact p4, fun j hj => ?_⟩
  obtain ⟨q1, q2⟩ := h3 j hj
  obtain ⟨w1, w2, -⟩ := p6 j (by rw [h2]; exact hj)
  exact ⟨by rw [w1, q1], by rw [w2, q2]⟩
set_option maxHeartbeats 4000000 in
theorem ct_comp {V : aV} {tl : Nat → Nat} {T : Nat → List Int32} {to : Nat → Bool} {w : Nat → List Int32} {vl : Nat → Nat} {s : PS} {en : Nat → Nat} {ent : Nat → EntN} {b st g a : Nat} (hM : MB V) (hB : HB V) (hD : HD V w vl) (hR : BR V en ent) (hC : PC V) (hT : PT V tl T to (jpO T to)) (hP : PW V s) (hb0 : V 198 0 = .int (nI b)) (hb1 : V 198 1 = .int (nI st)) (hb : b < 2 ^ 31) (hst : st < 2 ^ 31) (hg : MBR g) (hK : TKS T to) (ha : a < 8) :
    CT mX11_compose 7 0 0 [.ref 0, .int (nI a), .int (nI g)] Sh V (fun v S' V' => some (.ref 28) = v ∧ Sh = S' ∧ DR V' g (ltr T to ent b st a g) ∧ (∃ s', PW V' s') ∧ (∃ w' vl', HD V' w' vl') ∧ FrC V V') aNo := by
  obtain ⟨hg12, i, hi, hgi⟩ := hg
  have hto : isTo to (nI a) ↔ to a = true := ⟨fun z => by have := z.2.2; rw [nI_clamp (by omega)] at this; exact this, fun z => ⟨nI_pos (by omega), nI_ge (a := a) (b := 8) ha (by decide), by rw [nI_clamp (by omega)]; exact z⟩⟩
  have hm : 1 ≤ fV ent g 5 := by rw [fV_5]; exact bcn_pos hgi 12 hi
  refine CT_mono (ct_compose (t := nI a) hM hB hD hR hC hT hP hb0 hb1 hb hst hg12 hm (fun z => (wr_spec hK.th ha (hto.1 z) s).1)) (fun v S' V' h => ?_) (fun E S' V' h => h)
  obtain ⟨h1, h2, h3, h4, h5, h6, h7, h8⟩ := h
  refine ⟨h1, h2, ?_, ⟨_, h3⟩, ⟨_, _, h4⟩, h8⟩
  by_cases ht : to a = true
  · have hw := (wr_spec (w := fW ent g) (vl := fV ent g) hK.th ha ht s).2
    have es : cmS T to (jpO T to) ent g s (nI a) = pRun T to (jpO T to) (fW ent g) (fV ent g) 1000000 (pOp (ps0 s) (nI a)) := if_neg (not_not_intro (hto.2 ht))
    rw [← es] at hw
    unfold ltr
    rw [if_pos ht]
    rcases hw.or with ⟨x, e, w1, w2⟩ | ⟨c, lv, e, w1, w2, w3, w4⟩
    · rw [e]
      dsimp only
      have ek : cmK b st (cmS T to (jpO T to) ent g s (nI a)) ent g = kost b st (wgt x.length (bcn g 12)) (fV ent g 3) := by
        unfold cmK cmW
        rw [w1, fV_5]
      have ew : cmW (cmS T to (jpO T to) ent g s (nI a)) ent g = wgt x.length (bcn g 12) := by
        unfold cmW
        rw [w1, fV_5]
      by_cases hk : kost b st (wgt x.length (bcn g 12)) (fV ent g 3) = -1
      · rw [if_pos hk]
        have ef : cmF b st (cmS T to (jpO T to) ent g s (nI a)) ent g (nI a) = pTr (pOp ((cmS T to (jpO T to) ent g s (nI a)).1, (cmS T to (jpO T to) ent g s (nI a)).2.1, 0, (cmS T to (jpO T to) ent g s (nI a)).2.2.2) (nI a)) 4 := if_pos ⟨w2, by rw [ek]; exact hk⟩
        rw [ef] at h3
        refine PW.dr h3 h5 rfl (by decide) rfl (fun j hj => ?_)
        have : j = 0 := by simp at hj; omega
        subst this
        exact ⟨upN_s (f := (cmS T to (jpO T to) ent g s (nI a)).2.2.2.1) (a := 0) (x := nI a), upN_s (f := (cmS T to (jpO T to) ent g s (nI a)).2.2.2.2.1) (a := 0) (x := 0)⟩
      · rw [if_neg hk]
        have ef : cmF b st (cmS T to (jpO T to) ent g s (nI a)) ent g (nI a) = cmS T to (jpO T to) ent g s (nI a) := if_neg (fun z => hk (by rw [← ek]; exact z.2))
        rw [ef] at h3
        obtain ⟨p1, p2, p3, p4, p5, p6⟩ := h3
        obtain ⟨k1, k2⟩ := h6 w2
        refine ⟨sh_28, (h8.2.2).trans hC.2.2.2.2.2.2.1, by rw [← w1]; exact p1, h5, by rw [p2, w2], by rw [k1, ew], by rw [k2, ek]⟩
    · rw [e]
      have hc0 : ¬ c = 0 := by rcases w2 with rfl | rfl | rfl <;> decide
      have ef : cmF b st (cmS T to (jpO T to) ent g s (nI a)) ent g (nI a) = cmS T to (jpO T to) ent g s (nI a) := if_neg (fun z => hc0 (by rw [← w1]; exact z.1))
      rw [ef] at h3
      exact PW.dr h3 h5 w1 hc0 w3 w4
  · have es : cmS T to (jpO T to) ent g s (nI a) = pTr (pOp (ps0 s) (nI a)) 1 := if_pos (fun z => ht (hto.1 z))
    have ef : cmF b st (cmS T to (jpO T to) ent g s (nI a)) ent g (nI a) = cmS T to (jpO T to) ent g s (nI a) := by
      rw [es]
      exact if_neg (fun z => absurd (show (1 : Int32) = 0 from z.1) (by decide))
    rw [ef, es] at h3
    unfold ltr
    rw [if_neg ht]
    refine PW.dr h3 h5 rfl (by decide) rfl (fun j hj => ?_)
    have : j = 0 := by simp at hj; omega
    subst this
    exact ⟨upN_s (f := s.2.2.2.1) (a := 0) (x := nI a), upN_s (f := s.2.2.2.2.1) (a := 0) (x := 0)⟩
