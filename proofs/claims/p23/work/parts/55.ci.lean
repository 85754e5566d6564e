/-! ===== MergePost: its whole state ===== -/
/-- a letter that is kept: text, members, weight, cost -/
abbrev KL : Type := List Int32 × Nat × Nat × Int32
def KB (V : aV) (kn : Nat → Nat) (kl : Nat → Nat → KL) : Prop := ∀ i, i < 8 → ∀ j, j < 12 → (∃ x m tr wt co, LT V (200 + 38 * i + 2 + 3 * j) x m tr wt co) ∧ (j < kn i → LT V (200 + 38 * i + 2 + 3 * j) (kl i j).1 (nI (kl i j).2.1) 0 (nI (kl i j).2.2.1) (kl i j).2.2.2)
def CI (V : aV) (L : List Int32) (T : Nat → List Int32) (to : Nat → Bool) (ent : Nat → EntN) (cnt : Nat) (mt po : Nat → Nat) (b st pa n : Nat) (rt rr : Nat → Nat) (pd : Nat → Bool) (kn : Nat → Nat) (kl : Nat → Nat → KL) : Prop :=
  (MB V ∧ LI V L ∧ V 196 0 = .ref 197 ∧ V 198 0 = .int (nI b) ∧ V 198 1 = .int (nI st) ∧ V 0 6 = .int (nI n) ∧ V 0 7 = .int (nI pa)) ∧
  (BF V ∧ (∃ en sp, BE V en sp (fun k => encE (ent k)) cnt) ∧ MK V 85 mt ∧ MK V 86 po) ∧
  ((∃ tl sp, PB V tl sp T to (jpO T to)) ∧ PC V ∧ HB V ∧ (∃ w vl, HD V w vl) ∧ ∃ s, PW V s) ∧
  RB V kn pd rt rr ∧ KB V kn kl
/-- nothing of the other system changes -/
def FrX (V V' : aV) : Prop := ∀ b, 504 ≤ b → V' b = V b
theorem FrX.refl {V : aV} : FrX V V := fun _ _ => rfl
theorem FrX.trans {V V1 V2 : aV} (h : FrX V V1) (g : FrX V1 V2) : FrX V V2 := fun b q => (g b q).trans (h b q)
/-! frames of its pieces -/
theorem MB.fr {V V' : aV} (h : MB V) (e : V' 0 = V 0) : MB V' := by unfold MB; rw [e]; exact h
theorem LI.fr {V V' : aV} {L : List Int32} (h : LI V L) (e : ∀ b, 1 ≤ b → b ≤ 3 → V' b = V b) : LI V' L := ⟨(congrFun (e 1 (by decide) (by decide)) 0).trans h.1, h.2.frame (e 2 (by decide) (by decide)) (e 3 (by decide) (by decide))⟩
theorem BE.frg {V V' : aV} {en : Nat → Nat} {sp : Nat} {ent : Nat → Ent} {cnt : Nat} (h : BE V en sp ent cnt) (e : ∀ b, 74 ≤ b → b ≤ 195 → b ≠ 85 → b ≠ 86 → b ≠ 87 → V' b = V b) : BE V' en sp ent cnt := by
  obtain ⟨h1, h2, ⟨h3, h4, n1, n2, n3, n4, h5⟩, h6, h7⟩ := h
  have so := h4.out
  have e74 := e 74 (by decide) (by decide) (by decide) (by decide) (by decide)
  refine ⟨fun k hk => ?_, h2, ⟨(congrFun e74 1).trans h3, h4, n1, n2, n3, n4, h5.fr (fun k _ => congrFun (e sp (by omega) (by omega) (by omega) (by omega) (by omega)) k) (fun b q1 q2 => e b (by omega) (by omega) (by omega) (by omega) (by omega))⟩, (congrFun e74 5).trans h6, h7⟩
  obtain ⟨q1, q2, q3, q4⟩ := h1 k hk
  have sk := q2.out
  exact ⟨(congrFun (e 75 (by decide) (by decide) (by decide) (by decide) (by decide)) k).trans q1, q2, q3.fr (fun b w1 w2 => e b (by omega) (by omega) (by omega) (by omega) (by omega)), q4⟩
theorem tslot.sh {a : Nat} (h : tslot a) : a = 6 ∨ (34 ≤ a ∧ a ≤ 69) := h.out
theorem PB.frg {V V' : aV} {tl : Nat → Nat} {sp : Nat} {T : Nat → List Int32} {to : Nat → Bool} {jp : Nat → Nat → Option Nat} (h : PB V tl sp T to jp) (e4 : V' 4 0 = V 4 0 ∧ V' 4 1 = V 4 1) (e : ∀ b, 5 ≤ b → (b < 11 ∨ 34 ≤ b) → b < 74 → V' b = V b) : PB V' tl sp T to jp := by
  obtain ⟨h1, h2, h3, h4, h5, h6, A, h7⟩ := h
  have q6 := h6.out
  refine ⟨fun n hn => ?_, h2, h3, e4.1.trans h4, e4.2.trans h5, h6, A, h7.fr (fun b q1 q2 => e b (by omega) (by omega) (by omega))⟩
  obtain ⟨g1, g2, g3, g4, g5⟩ := h1 n hn
  exact ⟨(congrFun (e 5 (by decide) (by decide) (by decide)) n).trans g1, g2, g3.fr (fun b q1 q2 => e b (by omega) (by omega) (by omega)), (congrFun (e (tl n) (by omega) (by omega) (by omega)) 4).trans g4, fun q u hu => (congrFun (e (tl n + 3) (by omega) (by omega) (by omega)) q).trans (g5 q u hu)⟩
theorem PC.frg {V V' : aV} (h : PC V) (e4 : ∀ k, k < 7 → V' 4 k = V 4 k) (e28 : V' 28 0 = V 28 0) (e : ∀ b, b = 11 ∨ b = 12 → V' b = V b) : PC V' := by
  obtain ⟨h0, h2, h3, h4, h5, h6, h7, h8, h9, h10⟩ := h
  exact ⟨(e4 0 (by decide)).trans h0, (e4 2 (by decide)).trans h2, (e4 3 (by decide)).trans h3, (e4 4 (by decide)).trans h4, (e4 5 (by decide)).trans h5, (e4 6 (by decide)).trans h6, e28.trans h7, (congrFun (e 11 (Or.inl rfl)) 0).trans h8, (congrFun (e 11 (Or.inl rfl)) 1).trans h9, fun f hf => (congrFun (e 12 (Or.inr rfl)) f).trans (h10 f hf)⟩
theorem HB.frg {V V' : aV} (h : HB V) (e : ∀ b, 11 ≤ b → b ≤ 15 → b ≠ 13 → V' b = V b) : HB V' := by
  obtain ⟨h0, h1, h2, h3, h4⟩ := h
  have e11 := e 11 (by decide) (by decide) (by decide)
  exact ⟨(congrFun e11 0).trans h0, (congrFun e11 1).trans h1, (congrFun e11 2).trans h2, fun f hf => (congrFun (e 12 (by decide) (by decide) (by decide)) f).trans (h3 f hf), h4.frame (e 14 (by decide) (by decide) (by decide)) (e 15 (by decide) (by decide) (by decide))⟩
theorem HD.frg {V V' : aV} {w : Nat → List Int32} {vl : Nat → Nat} (h : HD V w vl) (e : ∀ b, b = 13 ∨ (16 ≤ b ∧ b ≤ 27) → V' b = V b) : HD V' w vl := fun f hf => ⟨(h f hf).1.frame (e _ (by omega)) (e _ (by omega)), (congrFun (e 13 (Or.inl rfl)) f).trans (h f hf).2⟩
theorem PW.frg {V V' : aV} {s : PS} (h : PW V s) (e4 : V' 4 7 = V 4 7 ∧ V' 4 8 = V 4 8) (e28 : V' 28 2 = V 28 2) (e : ∀ b, 29 ≤ b → b ≤ 33 → V' b = V b) : PW V' s := by
  obtain ⟨p1, p2, p3, p4, p5, p6⟩ := h
  exact ⟨p1.frame (e 29 (by decide) (by decide)) (e 30 (by decide) (by decide)), e28.trans p2, e4.1.trans p3, p4, e4.2.trans p5, fun i hi => ⟨(congrFun (e 31 (by decide) (by decide)) i).trans (p6 i hi).1, (congrFun (e 32 (by decide) (by decide)) i).trans (p6 i hi).2.1, (congrFun (e 33 (by decide) (by decide)) i).trans (p6 i hi).2.2⟩⟩
theorem RN.fr {V V' : aV} {q cnt : Nat} (h : RN V q cnt) (e0 : V' q = V q) (e1 : V' (q + 1) = V (q + 1)) : RN V' q cnt := by
  obtain ⟨r1, r2, r3, r4, r5, r6⟩ := h
  exact ⟨r1, r2, (congrFun e0 0).trans r3, fun j hj => (congrFun e1 j).trans (r4 j hj), (congrFun e0 1).trans r5, r6⟩
theorem RB.fr {V V' : aV} {kn : Nat → Nat} {pd : Nat → Bool} {rt rr : Nat → Nat} (h : RB V kn pd rt rr) (e : ∀ b, 199 ≤ b → b < 504 → V' b = V b) : RB V' kn pd rt rr := fun i hi => by
  obtain ⟨r1, r2, r3, r4, r5, r6⟩ := h i hi
  have eq := e (200 + 38 * i) (by omega) (by omega)
  exact ⟨(congrFun (e 199 (by decide) (by decide)) i).trans r1, r2.fr eq (e _ (by omega) (by omega)), (congrFun eq 4).trans r3, (congrFun eq 2).trans r4, (congrFun eq 3).trans r5, r6⟩
theorem KB.fr {V V' : aV} {kn : Nat → Nat} {kl : Nat → Nat → KL} (h : KB V kn kl) (e : ∀ b, 199 ≤ b → b < 504 → V' b = V b) : KB V' kn kl := fun i hi j hj => by
  obtain ⟨⟨x, m, tr, wt, co, h1⟩, h2⟩ := h i hi j hj
  exact ⟨⟨x, m, tr, wt, co, h1.fr (fun b q1 q2 => e b (by omega) (by omega))⟩, fun q => (h2 q).fr (fun b q1 q2 => e b (by omega) (by omega))⟩
section CIS
variable {V V' : aV} {L : List Int32} {T : Nat → List Int32} {to : Nat → Bool} {ent : Nat → EntN} {cnt : Nat} {mt po : Nat → Nat} {b st pa n : Nat} {rt rr : Nat → Nat} {pd : Nat → Bool} {kn : Nat → Nat} {kl : Nat → Nat → KL}
/-- only what is made anew each time has changed -/
theorem CI.scr (h : CI V L T to ent cnt mt po b st pa n rt rr pd kn kl) (e : ∀ b, b < 504 → b ≠ 4 → b ≠ 13 → (b < 16 ∨ 33 < b) → b ≠ 87 → b ≠ 197 → V' b = V b) (e4 : ∀ k, k < 7 → V' 4 k = V 4 k) (e28 : V' 28 0 = V 28 0) (hd : ∃ w vl, HD V' w vl) (hp : ∃ s, PW V' s) : CI V' L T to ent cnt mt po b st pa n rt rr pd kn kl := by
  obtain ⟨⟨a1, a2, a3, a4, a5, a6, a7⟩, ⟨b1, ⟨en, sp, b2⟩, b3, b4⟩, ⟨⟨tl, sp2, c1⟩, c2, c3, c4, c5⟩, d1, d2⟩ := h
  have e0 := e 0 (by decide) (by decide) (by decide) (by decide) (by decide) (by decide)
  have e198 := e 198 (by decide) (by decide) (by decide) (by decide) (by decide) (by decide)
  refine ⟨⟨a1.fr e0, a2.fr (fun b q1 q2 => e b (by omega) (by omega) (by omega) (by omega) (by omega) (by omega)), (congrFun (e 196 (by decide) (by decide) (by decide) (by decide) (by decide) (by decide)) 0).trans a3, (congrFun e198 0).trans a4, (congrFun e198 1).trans a5, (congrFun e0 6).trans a6, (congrFun e0 7).trans a7⟩,
    ⟨b1.fr (e 74 (by decide) (by decide) (by decide) (by decide) (by decide) (by decide)), ⟨en, sp, b2.frg (fun b q1 q2 q3 q4 q5 => e b (by omega) (by omega) (by omega) (by omega) (by omega) (by omega))⟩, b3.fr (e 85 (by decide) (by decide) (by decide) (by decide) (by decide) (by decide)), b4.fr (e 86 (by decide) (by decide) (by decide) (by decide) (by decide) (by decide))⟩,
    ⟨⟨tl, sp2, c1.frg ⟨e4 0 (by decide), e4 1 (by decide)⟩ (fun b q1 q2 q3 => e b (by omega) (by omega) (by omega) (by omega) (by omega) (by omega))⟩, c2.frg e4 e28 (fun b q => e b (by omega) (by omega) (by omega) (by omega) (by omega) (by omega)), c3.frg (fun b q1 q2 q3 => e b (by omega) (by omega) (by omega) (by omega) (by omega) (by omega)), hd, hp⟩,
    d1.fr (fun b q1 q2 => e b (by omega) (by omega) (by omega) (by omega) (by omega) (by omega)), d2.fr (fun b q1 q2 => e b (by omega) (by omega) (by omega) (by omega) (by omega) (by omega))⟩
theorem CI.f87 (h : CI V L T to ent cnt mt po b st pa n rt rr pd kn kl) (e : Fr0 V V' 87) : CI V' L T to ent cnt mt po b st pa n rt rr pd kn kl := by
  obtain ⟨w, vl, hd⟩ := h.2.2.1.2.2.2.1
  obtain ⟨s, hp⟩ := h.2.2.1.2.2.2.2
  have e4 := e 4 (by decide)
  exact h.scr (fun b _ _ _ _ q _ => e b q) (fun k _ => congrFun e4 k) (congrFun (e 28 (by decide)) 0) ⟨w, vl, hd.frg (fun b q => e b (by omega))⟩ ⟨s, hp.frg ⟨congrFun e4 7, congrFun e4 8⟩ (congrFun (e 28 (by decide)) 2) (fun b q1 q2 => e b (by omega))⟩
theorem CI.f197 (h : CI V L T to ent cnt mt po b st pa n rt rr pd kn kl) (e : Fr0 V V' 197) : CI V' L T to ent cnt mt po b st pa n rt rr pd kn kl := by
  obtain ⟨w, vl, hd⟩ := h.2.2.1.2.2.2.1
  obtain ⟨s, hp⟩ := h.2.2.1.2.2.2.2
  have e4 := e 4 (by decide)
  exact h.scr (fun b _ _ _ _ _ q => e b q) (fun k _ => congrFun e4 k) (congrFun (e 28 (by decide)) 0) ⟨w, vl, hd.frg (fun b q => e b (by omega))⟩ ⟨s, hp.frg ⟨congrFun e4 7, congrFun e4 8⟩ (congrFun (e 28 (by decide)) 2) (fun b q1 q2 => e b (by omega))⟩
theorem CI.frc (h : CI V L T to ent cnt mt po b st pa n rt rr pd kn kl) (e : FrC V V') (hd : ∃ w vl, HD V' w vl) (hp : ∃ s, PW V' s) : CI V' L T to ent cnt mt po b st pa n rt rr pd kn kl :=
  h.scr (fun b _ q1 q2 q3 _ _ => e.1 b q1 q2 q3) e.2.1 e.2.2 hd hp
end CIS
