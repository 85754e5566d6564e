/-! ===== the class: its whole state, kept and changed ===== -/
section CLS
variable {V V' : aV} {L : List Int32} {T : Nat → List Int32} {to : Nat → Bool} {ent : Nat → EntN} {cnt : Nat} {mt po : Nat → Nat} {b0 st pa n : Nat} {rt rr : Nat → Nat} {pd : Nat → Bool} {kn : Nat → Nat} {kl : Nat → Nat → KL}
theorem CI.low (h : CI V L T to ent cnt mt po b0 st pa n rt rr pd kn kl) (e : ∀ b, b < 504 → V' b = V b) : CI V' L T to ent cnt mt po b0 st pa n rt rr pd kn kl := by
  obtain ⟨w, vl, hd⟩ := h.2.2.1.2.2.2.1
  obtain ⟨s, hp⟩ := h.2.2.1.2.2.2.2
  have e4 := e 4 (by decide)
  exact h.scr (fun b q _ _ _ _ _ => e b q) (fun k _ => congrFun e4 k) (congrFun (e 28 (by decide)) 0) ⟨w, vl, hd.frg (fun b q => e b (by omega))⟩ ⟨s, hp.frg ⟨congrFun e4 7, congrFun e4 8⟩ (congrFun (e 28 (by decide)) 2) (fun b q1 q2 => e b (by omega))⟩
theorem CI.ln {L' : List Int32} (h : CI V L T to ent cnt mt po b0 st pa n rt rr pd kn kl) (hl : LI V' L') (e : ∀ b, b ≠ 1 → b ≠ 2 → b ≠ 3 → V' b = V b) : CI V' L' T to ent cnt mt po b0 st pa n rt rr pd kn kl := by
  obtain ⟨⟨a1, a2, a3, a4, a5, a6, a7⟩, ⟨b1, ⟨en, sp, b2⟩, b3, b4⟩, ⟨⟨tl, sp2, c1⟩, c2, c3, ⟨w, vl, c4⟩, s, c5⟩, d1, d2⟩ := h
  have f := fun b (q : 4 ≤ b) => e b (by omega) (by omega) (by omega)
  have e0 := e 0 (by decide) (by decide) (by decide)
  have e4 := f 4 (by decide)
  have e28 := f 28 (by decide)
  exact ⟨⟨a1.fr e0, hl, (congrFun (f 196 (by decide)) 0).trans a3, (congrFun (f 198 (by decide)) 0).trans a4, (congrFun (f 198 (by decide)) 1).trans a5, (congrFun e0 6).trans a6, (congrFun e0 7).trans a7⟩,
    ⟨b1.fr (f 74 (by decide)), ⟨en, sp, b2.frg (fun b q1 q2 _ _ _ => f b (by omega))⟩, b3.fr (f 85 (by decide)), b4.fr (f 86 (by decide))⟩,
    ⟨⟨tl, sp2, c1.frg ⟨congrFun e4 0, congrFun e4 1⟩ (fun b q1 q2 q3 => f b (by omega))⟩, c2.frg (fun k _ => congrFun e4 k) (congrFun e28 0) (fun b q => f b (by omega)), c3.frg (fun b q1 q2 q3 => f b (by omega)), ⟨w, vl, c4.frg (fun b q => f b (by omega))⟩, s, c5.frg ⟨congrFun e4 7, congrFun e4 8⟩ (congrFun e28 2) (fun b q1 q2 => f b (by omega))⟩,
    d1.fr (fun b q1 q2 => f b (by omega)), d2.fr (fun b q1 q2 => f b (by omega))⟩
theorem SOK.ln {L' : List Int32} (h : SOK L T to ent cnt mt po b0 st pa n rt rr pd kn kl) (hl : L'.length ≤ 96 ∧ ∀ c ∈ L', okC c) : SOK L' T to ent cnt mt po b0 st pa n rt rr pd kn kl := ⟨hl, h.2⟩
theorem CI.te {tl : Nat → Nat} {sp : Nat} {T' : Nat → List Int32} {to' : Nat → Bool} (h : CI V L T to ent cnt mt po b0 st pa n rt rr pd kn kl) (hl : LI V' []) (f : TF2 V V') (hP : PB V' tl sp T' to' (jpO T' to')) : CI V' [] T' to' ent cnt mt po b0 st pa n rt rr pd kn kl := by
  obtain ⟨⟨a1, a2, a3, a4, a5, a6, a7⟩, ⟨b1, ⟨en, sp9, b2⟩, b3, b4⟩, ⟨⟨tl9, sp2, c1⟩, c2, c3, ⟨w, vl, c4⟩, s, c5⟩, d1, d2⟩ := h
  have g := fun b (q : 74 ≤ b) => f.1 b (by omega) (by omega) (by omega) (by omega) (by omega) (by omega)
  have g2 := fun b (q : 11 ≤ b) (q2 : b < 34) => f.1 b (by omega) (by omega) (by omega) (by omega) (by omega) (by omega)
  have e0 := f.1 0 (by decide) (by decide) (by decide) (by decide) (by decide) (by decide)
  have e28 := g2 28 (by decide) (by decide)
  have c2' : PC V' := by
    obtain ⟨h1, h2, h3, h4, h5, h6, h7, h8, h9, h10⟩ := c2
    exact ⟨(f.2 0 (by decide)).trans h1, (f.2 2 (by decide)).trans h2, (f.2 3 (by decide)).trans h3, (f.2 4 (by decide)).trans h4, (f.2 5 (by decide)).trans h5, (f.2 6 (by decide)).trans h6, (congrFun e28 0).trans h7, (congrFun (g2 11 (by decide) (by decide)) 0).trans h8, (congrFun (g2 11 (by decide) (by decide)) 1).trans h9, fun q hq => (congrFun (g2 12 (by decide) (by decide)) q).trans (h10 q hq)⟩
  exact ⟨⟨a1.fr e0, hl, (congrFun (g 196 (by decide)) 0).trans a3, (congrFun (g 198 (by decide)) 0).trans a4, (congrFun (g 198 (by decide)) 1).trans a5, (congrFun e0 6).trans a6, (congrFun e0 7).trans a7⟩,
    ⟨b1.fr (g 74 (by decide)), ⟨en, sp9, b2.frg (fun b q1 q2 _ _ _ => g b (by omega))⟩, b3.fr (g 85 (by decide)), b4.fr (g 86 (by decide))⟩,
    ⟨⟨tl, sp, hP⟩, c2', c3.frg (fun b q1 q2 q3 => g2 b (by omega) (by omega)), ⟨w, vl, c4.frg (fun b q => g2 b (by omega) (by omega))⟩, s, c5.frg ⟨f.2 7 (by decide), f.2 8 (by decide)⟩ (congrFun e28 2) (fun b q1 q2 => g2 b (by omega) (by omega))⟩,
    d1.fr (fun b q1 q2 => g b (by omega)), d2.fr (fun b q1 q2 => g b (by omega))⟩
theorem jpO_up {T : Nat → List Int32} {to : Nat → Bool} {a : Nat} {L : List Int32} {jm : Nat → Option Nat} (e : jm = jmOf L) : upN (jpO T to) a jm = jpO (upN T a L) (upN to a true) := by
  funext n
  show (if n = a then jm else jpO T to n) = if upN to a true n = true then jmOf (upN T a L n) else fun _ => none
  by_cases q : n = a
  · subst q
    rw [show upN to n true n = true from if_pos rfl, show upN T n L n = L from if_pos rfl, if_pos rfl, if_pos rfl, e]
  · rw [if_neg q, show upN to a true n = to n from if_neg q, show upN T a L n = T n from if_neg q]
    rfl
theorem CI.ad {ent' : Nat → EntN} {cnt' : Nat} {en' : Nat → Nat} {sp' : Nat} (h : CI V L T to ent cnt mt po b0 st pa n rt rr pd kn kl) (hl : LI V' []) (f : BF2 V V') (hB : BE V' en' sp' (fun k => encE (ent' k)) cnt') : CI V' [] T to ent' cnt' mt po b0 st pa n rt rr pd kn kl := by
  obtain ⟨⟨a1, a2, a3, a4, a5, a6, a7⟩, ⟨b1, -, b3, b4⟩, ⟨⟨tl9, sp2, c1⟩, c2, c3, ⟨w, vl, c4⟩, s, c5⟩, d1, d2⟩ := h
  have g := fun b (q1 : b ≠ 1) (q2 : b ≠ 2) (q : b < 74 ∨ 195 < b ∨ b = 85 ∨ b = 86 ∨ b = 87) => f.1 b q1 q2 q
  have e0 := g 0 (by decide) (by decide) (by decide)
  have e4 := g 4 (by decide) (by decide) (by decide)
  have e28 := g 28 (by decide) (by decide) (by decide)
  have b1' : BF V' := ⟨(f.2 0 (by decide) (by decide)).trans b1.1, (f.2 2 (by decide) (by decide)).trans b1.2.1, (f.2 3 (by decide) (by decide)).trans b1.2.2.1, (f.2 4 (by decide) (by decide)).trans b1.2.2.2⟩
  exact ⟨⟨a1.fr e0, hl, (congrFun (g 196 (by decide) (by decide) (by decide)) 0).trans a3, (congrFun (g 198 (by decide) (by decide) (by decide)) 0).trans a4, (congrFun (g 198 (by decide) (by decide) (by decide)) 1).trans a5, (congrFun e0 6).trans a6, (congrFun e0 7).trans a7⟩,
    ⟨b1', ⟨en', sp', hB⟩, b3.fr (g 85 (by decide) (by decide) (by decide)), b4.fr (g 86 (by decide) (by decide) (by decide))⟩,
    ⟨⟨tl9, sp2, c1.frg ⟨congrFun e4 0, congrFun e4 1⟩ (fun b q1 q2 q3 => g b (by omega) (by omega) (by omega))⟩, c2.frg (fun k _ => congrFun e4 k) (congrFun e28 0) (fun b q => g b (by omega) (by omega) (by omega)), c3.frg (fun b q1 q2 q3 => g b (by omega) (by omega) (by omega)), ⟨w, vl, c4.frg (fun b q => g b (by omega) (by omega) (by omega))⟩, s, c5.frg ⟨congrFun e4 7, congrFun e4 8⟩ (congrFun e28 2) (fun b q1 q2 => g b (by omega) (by omega) (by omega))⟩,
    d1.fr (fun b q1 q2 => g b (by omega) (by omega) (by omega)), d2.fr (fun b q1 q2 => g b (by omega) (by omega) (by omega))⟩
theorem MTO.up {mt : Nat → Nat} {cnt c' : Nat} (h : MTO mt cnt) (q : cnt ≤ c') : MTO mt c' := ⟨h.1, fun i j hi hj hb => by
  obtain ⟨r1, r2, r3, r4⟩ := h.2 i j hi hj hb
  exact ⟨by omega, by omega, r3, r4⟩⟩
theorem enc_up {ent : Nat → EntN} {a : Nat} {y : EntN} : upN (fun k => encE (ent k)) a (encE y) = fun k => encE (upN ent a y k) := by
  funext k
  show (if k = a then _ else _) = encE (if k = a then _ else _)
  split <;> rfl
theorem tN {t : Int32} {cnt : Nat} (h : ¬ t < 0 ∧ t < nI cnt) (hc : cnt ≤ 12) : ∃ i, i < cnt ∧ i < 12 ∧ t = nI i := by
  obtain ⟨i, hi, rfl⟩ := nI_of h.1
  have := (nI_ltI hi (by omega)).1 h.2
  exact ⟨i, this, by omega, rfl⟩
theorem tN8 {t : Int32} {n : Nat} (h : ¬ t < 0 ∧ t < nI n) (hn : n ≤ 8) : ∃ i, i < n ∧ i < 8 ∧ t = nI i := by
  obtain ⟨i, hi, rfl⟩ := nI_of h.1
  have := (nI_ltI hi (by omega)).1 h.2
  exact ⟨i, this, by omega, rfl⟩
theorem okN_12 {t : Int32} {cnt : Nat} (hc : cnt ≤ 12) : okN t cnt 12 ↔ ¬ t < 0 ∧ t < nI cnt := ⟨fun h => ⟨h.1, h.2.1⟩, fun h => ⟨h.1, h.2, by
  obtain ⟨i, i1, i2, rfl⟩ := tN h hc
  exact nI_lt i2 (by decide)⟩⟩
theorem okN_8 {t : Int32} {n : Nat} (hn : n ≤ 8) : okN t n 8 ↔ ¬ t < 0 ∧ t < nI n := ⟨fun h => ⟨h.1, h.2.1⟩, fun h => ⟨h.1, h.2, by
  obtain ⟨i, i1, i2, rfl⟩ := tN8 h hn
  exact nI_lt i2 (by decide)⟩⟩
theorem MTO.sym {mt : Nat → Nat} {cnt i j : Nat} (h : MTO mt cnt) (hi : i < 12) (hj : j < 12) : (mt j).testBit i = (mt i).testBit j := by
  rcases q : (mt i).testBit j with _ | _
  · rcases q2 : (mt j).testBit i with _ | _
    · rfl
    · rw [(h.2 j i hj hi q2).2.2.2] at q; cases q
  · exact (h.2 i j hi hj q).2.2.2
theorem tM_bit {mt : Nat → Nat} {i j a b : Nat} : (tM mt i j a).testBit b = if a = j then (mt j).testBit b != decide (i = b) else if a = i then (mt i).testBit b != decide (j = b) else (mt a).testBit b := by
  unfold tM
  split
  · rw [Nat.testBit_xor, Nat.testBit_two_pow]
  · split
    · rw [Nat.testBit_xor, Nat.testBit_two_pow]
    · rfl
theorem MTO.turn {mt : Nat → Nat} {cnt k j : Nat} (h : MTO mt cnt) (hc : cnt ≤ 12) (hk : k < cnt) (hj : j < cnt) (hkj : k ≠ j) (hb : ∀ a, a < 12 → tM mt k j a < 2 ^ 12) : MTO (tM mt k j) cnt := by
  refine ⟨hb, fun i l hi hl q => ?_⟩
  have sy := h.sym (i := k) (j := j) (by omega) (by omega)
  rw [tM_bit] at q
  by_cases e1 : i = j
  · subst e1
    rw [if_pos rfl] at q
    by_cases e2 : k = l
    · subst e2
      refine ⟨hj, hk, fun z => hkj z.symm, ?_⟩
      rw [tM_bit, if_neg hkj, if_pos rfl, ← sy]
      rw [decide_eq_true rfl] at q ⊢
      exact q
    · rw [decide_eq_false e2] at q
      have q' : (mt i).testBit l = true := by revert q; cases (mt i).testBit l <;> decide
      obtain ⟨r1, r2, r3, r4⟩ := h.2 i l hi hl q'
      refine ⟨r1, r2, r3, ?_⟩
      rw [tM_bit, if_neg (fun z => r3 z.symm), if_neg (fun z => e2 z.symm)]
      exact r4
  · rw [if_neg e1] at q
    by_cases e3 : i = k
    · subst e3
      rw [if_pos rfl] at q
      by_cases e2 : j = l
      · subst e2
        refine ⟨hk, hj, hkj, ?_⟩
        rw [tM_bit, if_pos rfl, sy]
        rw [decide_eq_true rfl] at q ⊢
        exact q
      · rw [decide_eq_false e2] at q
        have q' : (mt i).testBit l = true := by revert q; cases (mt i).testBit l <;> decide
        obtain ⟨r1, r2, r3, r4⟩ := h.2 i l hi hl q'
        refine ⟨r1, r2, r3, ?_⟩
        rw [tM_bit, if_neg (fun z => e2 z.symm), if_neg (fun z => r3 z.symm)]
        exact r4
    · rw [if_neg e3] at q
      obtain ⟨r1, r2, r3, r4⟩ := h.2 i l hi hl q
      refine ⟨r1, r2, r3, ?_⟩
      rw [tM_bit]
      split
      · rename_i z
        subst z
        rw [decide_eq_false (fun z => e3 z.symm), r4]; rfl
      · split
        · rename_i z
          subst z
          rw [decide_eq_false (fun z => e1 z.symm), r4]; rfl
        · exact r4
theorem CI.mtc {mt' : Nat → Nat} (h : CI V L T to ent cnt mt po b0 st pa n rt rr pd kn kl) (hK : MK V' 85 mt') (e : ∀ b, b ≠ 85 → b ≠ 197 → V' b = V b) : CI V' L T to ent cnt mt' po b0 st pa n rt rr pd kn kl := by
  obtain ⟨⟨a1, a2, a3, a4, a5, a6, a7⟩, ⟨b1, ⟨en, sp, b2⟩, b3, b4⟩, ⟨⟨tl, sp2, c1⟩, c2, c3, ⟨w, vl, c4⟩, s, c5⟩, d1, d2⟩ := h
  have e0 := e 0 (by decide) (by decide)
  have e4 := e 4 (by decide) (by decide)
  have e28 := e 28 (by decide) (by decide)
  exact ⟨⟨a1.fr e0, a2.fr (fun b q1 q2 => e b (by omega) (by omega)), (congrFun (e 196 (by decide) (by decide)) 0).trans a3, (congrFun (e 198 (by decide) (by decide)) 0).trans a4, (congrFun (e 198 (by decide) (by decide)) 1).trans a5, (congrFun e0 6).trans a6, (congrFun e0 7).trans a7⟩,
    ⟨b1.fr (e 74 (by decide) (by decide)), ⟨en, sp, b2.frg (fun b q1 q2 q3 _ _ => e b q3 (by omega))⟩, hK, b4.fr (e 86 (by decide) (by decide))⟩,
    ⟨⟨tl, sp2, c1.frg ⟨congrFun e4 0, congrFun e4 1⟩ (fun b q1 q2 q3 => e b (by omega) (by omega))⟩, c2.frg (fun k _ => congrFun e4 k) (congrFun e28 0) (fun b q => e b (by omega) (by omega)), c3.frg (fun b q1 q2 q3 => e b (by omega) (by omega)), ⟨w, vl, c4.frg (fun b q => e b (by omega) (by omega))⟩, s, c5.frg ⟨congrFun e4 7, congrFun e4 8⟩ (congrFun e28 2) (fun b q1 q2 => e b (by omega) (by omega))⟩,
    d1.fr (fun b q1 q2 => e b (by omega) (by omega)), d2.fr (fun b q1 q2 => e b (by omega) (by omega))⟩
theorem CI.fk {b' st' : Nat} (h : CI V L T to ent cnt mt po b0 st pa n rt rr pd kn kl) (h0 : V' 198 0 = .int (nI b')) (h1 : V' 198 1 = .int (nI st')) (e : ∀ b, b ≠ 198 → V' b = V b) : CI V' L T to ent cnt mt po b' st' pa n rt rr pd kn kl := by
  obtain ⟨⟨a1, a2, a3, a4, a5, a6, a7⟩, ⟨b1, ⟨en, sp, b2⟩, b3, b4⟩, ⟨⟨tl, sp2, c1⟩, c2, c3, ⟨w, vl, c4⟩, s, c5⟩, d1, d2⟩ := h
  have e0 := e 0 (by decide)
  have e4 := e 4 (by decide)
  have e28 := e 28 (by decide)
  exact ⟨⟨a1.fr e0, a2.fr (fun b q1 q2 => e b (by omega)), (congrFun (e 196 (by decide)) 0).trans a3, h0, h1, (congrFun e0 6).trans a6, (congrFun e0 7).trans a7⟩,
    ⟨b1.fr (e 74 (by decide)), ⟨en, sp, b2.frg (fun b q1 q2 q3 _ _ => e b (by omega))⟩, b3.fr (e 85 (by decide)), b4.fr (e 86 (by decide))⟩,
    ⟨⟨tl, sp2, c1.frg ⟨congrFun e4 0, congrFun e4 1⟩ (fun b q1 q2 q3 => e b (by omega))⟩, c2.frg (fun k _ => congrFun e4 k) (congrFun e28 0) (fun b q => e b (by omega)), c3.frg (fun b q1 q2 q3 => e b (by omega)), ⟨w, vl, c4.frg (fun b q => e b (by omega))⟩, s, c5.frg ⟨congrFun e4 7, congrFun e4 8⟩ (congrFun e28 2) (fun b q1 q2 => e b (by omega))⟩,
    d1.fr (fun b q1 q2 => e b (by omega)), d2.fr (fun b q1 q2 => e b (by omega))⟩
theorem RN.cg {V V' : aV} {q cnt : Nat} (h : RN V q cnt) (e0 : V' q 0 = V q 0) (e1 : V' q 1 = V q 1) (e2 : V' (q + 1) = V (q + 1)) : RN V' q cnt := ⟨h.1, h.2.1, e0.trans h.2.2.1, fun j hj => (congrFun e2 j).trans (h.2.2.2.1 j hj), e1.trans h.2.2.2.2.1, h.2.2.2.2.2⟩
theorem lt8 (t : Int32) : t < 8 ↔ t ≤ 7 := by
  rw [Int32.lt_iff_toInt_lt, Int32.le_iff_toInt_le]
  show t.toInt < 8 ↔ t.toInt ≤ 7
  omega
theorem tR8 {t : Int32} (h : ¬ t < 0 ∧ t < 8) : ∃ i, i < 8 ∧ t = nI i := by
  obtain ⟨i, hi, rfl⟩ := nI_of h.1
  exact ⟨i, (nI_ltI (b := 8) hi (by decide)).1 h.2, rfl⟩
theorem CI.rn {a c : Nat} (h : CI V L T to ent cnt mt po b0 st pa n rt rr pd kn kl) (hn : n < 8) (ha : a < 8) (hc : c < 8) : CI (a_up (a_up (a_up V (200 + 38 * n) 2 (.int (nI a))) (200 + 38 * n) 3 (.int (nI c))) 0 6 (.int (nI (n + 1)))) L T to ent cnt mt po b0 st pa (n + 1) (upN rt n a) (upN rr n c) pd kn kl := by
  have lo : ∀ b, 0 < b → b ≠ 200 + 38 * n → a_up (a_up (a_up V (200 + 38 * n) 2 (.int (nI a))) (200 + 38 * n) 3 (.int (nI c))) 0 6 (.int (nI (n + 1))) b = V b := fun b q1 q2 => (a_up_row (by omega)).trans ((a_up_row q2).trans (a_up_row q2))
  have fi : ∀ k, k ≠ 2 → k ≠ 3 → a_up (a_up (a_up V (200 + 38 * n) 2 (.int (nI a))) (200 + 38 * n) 3 (.int (nI c))) 0 6 (.int (nI (n + 1))) (200 + 38 * n) k = V (200 + 38 * n) k := fun k q1 q2 => (a_up_ne (Or.inl (by omega))).trans ((a_up_ne (Or.inr q2)).trans (a_up_ne (Or.inr q1)))
  have zr : ∀ k, k ≠ 6 → a_up (a_up (a_up V (200 + 38 * n) 2 (.int (nI a))) (200 + 38 * n) 3 (.int (nI c))) 0 6 (.int (nI (n + 1))) 0 k = V 0 k := fun k q => (a_up_ne (Or.inr q)).trans ((a_up_ne (Or.inl (by omega))).trans (a_up_ne (Or.inl (by omega))))
  have d1 := h.2.2.2.1
  have d2 := h.2.2.2.2
  refine h.runs (fun b q1 q2 => lo b q1 (by omega)) (fun k hk => zr k (by omega)) (a_up_self _ _ _ _) ((zr 7 (by decide)).trans h.1.2.2.2.2.2.2) (fun i hi => ?_) (fun i hi j hj => ?_)
  · obtain ⟨r1, r2, r3, r4, r5, r6, r7⟩ := d1 i hi
    show _ ∧ _ ∧ _ ∧ _ = Value.int (nI (if i = n then a else rt i)) ∧ _ = Value.int (nI (if i = n then c else rr i)) ∧ (if i = n then a else rt i) < 8 ∧ (if i = n then c else rr i) < 8
    refine ⟨(congrFun (lo 199 (by decide) (by omega)) i).trans r1, ?_, ?_, ?_, ?_, ?_, ?_⟩
    · by_cases q : i = n
      · subst q; exact r2.cg (fi 0 (by decide) (by decide)) (fi 1 (by decide) (by decide)) (lo _ (by omega) (by omega))
      · exact r2.fr (lo _ (by omega) (by omega)) (lo _ (by omega) (by omega))
    · by_cases q : i = n
      · subst q; exact (fi 4 (by decide) (by decide)).trans r3
      · exact (congrFun (lo _ (by omega) (by omega)) 4).trans r3
    · by_cases q : i = n
      · subst q; rw [if_pos rfl]; exact (a_up_ne (Or.inl (by omega))).trans ((a_up_ne (Or.inr (by decide))).trans (a_up_self _ _ _ _))
      · rw [if_neg q]; exact (congrFun (lo _ (by omega) (by omega)) 2).trans r4
    · by_cases q : i = n
      · subst q; rw [if_pos rfl]; exact (a_up_ne (Or.inl (by omega))).trans (a_up_self _ _ _ _)
      · rw [if_neg q]; exact (congrFun (lo _ (by omega) (by omega)) 3).trans r5
    · split
      · exact ha
      · exact r6
    · split
      · exact hc
      · exact r7
  · obtain ⟨⟨x, m, tr, wt, co, q1⟩, q2⟩ := d2 i hi j hj
    have e : ∀ b, 200 + 38 * i + 2 + 3 * j ≤ b → b ≤ 200 + 38 * i + 4 + 3 * j → a_up (a_up (a_up V (200 + 38 * n) 2 (.int (nI a))) (200 + 38 * n) 3 (.int (nI c))) 0 6 (.int (nI (n + 1))) b = V b := fun b z1 z2 => lo b (by omega) (by rcases Nat.lt_or_ge i n with y | y <;> omega)
    exact ⟨⟨x, m, tr, wt, co, q1.fr (fun b z1 z2 => e b z1 (by omega))⟩, fun z => (q2 z).fr (fun b z1 z2 => e b z1 (by omega))⟩
theorem nP_lt8 {po : Nat → Nat} {g r j : Nat} (h : ∀ i, i < 12 → po i < 2 ^ 8) (hr : r < 8) : ∀ i, i < 12 → nP po g r j i < 2 ^ 8 := fun i hi => by
  unfold nP
  split
  · exact Nat.or_lt_two_pow (h i hi) (Nat.pow_lt_pow_right (by decide) hr)
  · exact h i hi
theorem poF_lt8 {r : Nat} (hr : r < 8) : ∀ (K : List KL) (po : Nat → Nat), (∀ i, i < 12 → po i < 2 ^ 8) → ∀ i, i < 12 → poF r K po i < 2 ^ 8
  | [], po, h => h
  | x :: K, po, h => poF_lt8 hr K (nP po x.2.1 r 12) (nP_lt8 h hr)
theorem kpt_mem {F : Nat → LRs} {l : List Nat} {x : KL} (h : x ∈ kpt F l) : x.2.1 ∈ l ∧ F x.2.1 = .inl (x.1, x.2.2.1, x.2.2.2) := by
  obtain ⟨g, hg, e⟩ := List.mem_filterMap.1 h
  unfold kpo at e
  cases q : F g with
  | inl y => rw [q] at e; cases e; exact ⟨hg, q⟩
  | inr y => rw [q] at e; cases e
end CLS
