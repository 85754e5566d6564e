/-! ===== operation by operation: the class's answer and the model's ===== -/
theorem CTH_mono {T : aMt} {hh : List (Nat × Nat × Nat × Nat)} {r mc ms : Nat} {As : List Value} {S : aS} {V : aV} {Q Q2 : Option Value → aS → aV → Prop} (h : CTH T hh r mc ms As S V Q) (hq : ∀ v S' V', Q v S' V' → Q2 v S' V') : CTH T hh r mc ms As S V Q2 := by
  intro l hl o x0 cA D p e ha hc hk s m args below hf happ hP hK
  obtain ⟨n, oc, h1, h2, h3, h4⟩ := h l hl o x0 cA D p e ha hc hk s m args below hf happ hP hK
  refine ⟨n, oc, h1, h2, h3, ?_⟩
  rcases h4 with ⟨⟨⟨v, S', V', e1, q, b⟩, f⟩, g⟩ | ⟨q, e1, E, ce, L, ⟨⟨S', V', q2, b⟩, f⟩, rest⟩
  · exact Or.inl ⟨⟨⟨v, S', V', e1, hq _ _ _ q, b⟩, f⟩, g⟩
  · exact Or.inr ⟨q, e1, E, ce, L, ⟨⟨S', V', q2, b⟩, f⟩, rest⟩
/-- the two systems stand alike -/
def LInv (V : aV) : Prop := ∃ (L : List Int32) (T : Nat → List Int32) (to : Nat → Bool) (ent : Nat → EntN) (cnt : Nat) (mt po : Nat → Nat) (b st pa n : Nat) (rt rr : Nat → Nat) (pd : Nat → Bool) (kn : Nat → Nat) (kl : Nat → Nat → KL), CI V L T to ent cnt mt po b st pa n rt rr pd kn kl ∧ MI V L T to ent cnt mt po b st pa n rt rr pd kn kl ∧ SOK L T to ent cnt mt po b st pa n rt rr pd kn kl
section LIS
variable {V V' : aV} {L : List Int32} {T : Nat → List Int32} {to : Nat → Bool} {ent : Nat → EntN} {cnt : Nat} {mt po : Nat → Nat} {b st pa n : Nat} {rt rr : Nat → Nat} {pd : Nat → Bool} {kn : Nat → Nat} {kl : Nat → Nat → KL}
theorem CI.low (h : CI V L T to ent cnt mt po b st pa n rt rr pd kn kl) (e : ∀ b, b < 504 → V' b = V b) : CI V' L T to ent cnt mt po b st pa n rt rr pd kn kl := by
  obtain ⟨w, vl, hd⟩ := h.2.2.1.2.2.2.1
  obtain ⟨s, hp⟩ := h.2.2.1.2.2.2.2
  have e4 := e 4 (by decide)
  exact h.scr (fun b q _ _ _ _ _ => e b q) (fun k _ => congrFun e4 k) (congrFun (e 28 (by decide)) 0) ⟨w, vl, hd.frg (fun b q => e b (by omega))⟩ ⟨s, hp.frg ⟨congrFun e4 7, congrFun e4 8⟩ (congrFun (e 28 (by decide)) 2) (fun b q1 q2 => e b (by omega))⟩
theorem MI.hi (h : MI V L T to ent cnt mt po b st pa n rt rr pd kn kl) (e : ∀ b, 504 ≤ b → b ≤ 538 → V' b = V b) : MI V' L T to ent cnt mt po b st pa n rt rr pd kn kl := by
  obtain ⟨⟨a1, a2, a3⟩, ⟨b1, b2, b3⟩, ⟨c1, c2, c3⟩, d1, d2⟩ := h
  have e5 := e 504 (by decide) (by decide)
  exact ⟨⟨a1.fr (fun k _ => congrFun e5 k), a2.fr (congrFun e5 2) (e 505 (by decide) (by decide)), a3.fr (e 506 (by decide) (by decide)) (e 507 (by decide) (by decide))⟩, ⟨b1.fr (congrFun e5 5) (fun b q1 q2 => e b (by omega) (by omega)), b2.fr (e 519 (by decide) (by decide)), b3.fr (e 520 (by decide) (by decide))⟩, ⟨(congrFun e5 19).trans c1, (congrFun e5 20).trans c2, (congrFun e5 21).trans c3⟩, d1.fr (congrFun e5 22) (fun b q1 q2 => e b (by omega) (by omega)), d2.fr (fun b q1 q2 => e b (by omega) (by omega))⟩
theorem LInv.same (hI : CI V L T to ent cnt mt po b st pa n rt rr pd kn kl) (hM : MI V L T to ent cnt mt po b st pa n rt rr pd kn kl) (hS : SOK L T to ent cnt mt po b st pa n rt rr pd kn kl) (f : FrS V V') : LInv V' := ⟨_, _, _, _, _, _, _, _, _, _, _, _, _, _, _, _, hI.low (fun b hb => f.1 b (by omega) (by omega)), hM.s f, hS⟩
end LIS
/-- the model's turn: the same number, the same answer -/
def OpM (k : Nat) (V1 : aV) (f : Int32 → Int64) : Option Value → aS → aV → Prop := fun v S' V' => ∃ y, v = some (.int y) ∧ Sh = S' ∧ V' 504 0 = .int (nI k) ∧ (k = 0 → V1 539 0 = .long (f y)) ∧ V' 539 = V1 539 ∧ LInv V'
theorem okN_12 {t : Int32} {cnt : Nat} (hc : cnt ≤ 12) : okN t cnt 12 ↔ ¬ t < 0 ∧ t < nI cnt := ⟨fun h => ⟨h.1, h.2.1⟩, fun h => ⟨h.1, h.2, by
  obtain ⟨i, i1, i2, rfl⟩ := tN h hc
  exact nI_lt i2 (by decide)⟩⟩
theorem okN_8 {t : Int32} {n : Nat} (hn : n ≤ 8) : okN t n 8 ↔ ¬ t < 0 ∧ t < nI n := ⟨fun h => ⟨h.1, h.2.1⟩, fun h => ⟨h.1, h.2, by
  obtain ⟨i, i1, i2, rfl⟩ := tN8 h hn
  exact nI_lt i2 (by decide)⟩⟩
set_option maxHeartbeats 1000000 in
theorem op_cleaned {V : aV} (h : LInv V) (t : Int32) (b : Int32) (pq : Int32) : CTH mL_cleaned hL_cleaned 8 2 12 [.ref 0, .int t, .int b, .int pq, .ref 539] Sh V (fun v S' V1 => ∃ k, v = some (.int (nI k)) ∧ k ≤ 3 ∧ Sh = S' ∧ CT mX12_cleaned 1 0 0 [.ref 504, .int t, .int b, .int pq] Sh V1 (OpM k V1 Int32.toInt64) aNo) := by
  obtain ⟨L, T, to, ent, cnt, mt, po, b0, st, pa, n, rt, rr, pd, kn, kl, hI, hM, hS⟩ := h
  obtain ⟨⟨a1, a2, a3, a4, a5, a6, a7⟩, ⟨b1, ⟨en, sp, b2⟩, b3, b4⟩, ⟨⟨tl, sp2, c1⟩, c2, c3, c4, c5⟩, d1, d2⟩ := id hI
  obtain ⟨⟨mR, mL, mT⟩, ⟨mE, mM, mP⟩, ⟨mb, ms, mp⟩, mRu, mKe⟩ := id hM
  obtain ⟨⟨l96, lok⟩, ⟨hK8, hT8⟩, ⟨hc, hEO, hm, hpo⟩, ⟨hb, hst, hpa⟩, hn, hk8⟩ := id hS
  refine CTH_mono (ctw_cleaned (ct_cleaned a1 b1 b2 t b pq) (fun v S' V' q => by obtain ⟨k, q1, q2, q3, q4, q5, q6, q7⟩ := q; exact ⟨q6, _, q5.symm⟩) (fun E S' V' q => ⟨q.2.2.1, q.1⟩)) (fun v S' V1 q => ?_)
  rcases q with ⟨rfl, ⟨y, Vc, q, rfl, rfl⟩ | ⟨E, q, hE⟩⟩
  · obtain ⟨k, k1, k2, rfl, k3, k4, -, eV⟩ := q
    have hV : FrX V Vc := fun b _ => by rw [eV]
    have o0 : CI Vc L T to ent cnt mt po b0 st pa n rt rr pd kn kl := eV ▸ hI
    have o1 : CI (a_up Vc 539 0 (.long y.toInt64)) L T to ent cnt mt po b0 st pa n rt rr pd kn kl := o0.low (fun b hb => a_up_row (by omega))
    have mi := hM.hi (V' := a_up Vc 539 0 (.long y.toInt64)) (fun b q1 q2 => (a_up_row (by omega)).trans (hV b q1))
    obtain ⟨⟨mR, mL, mT⟩, ⟨mE, mM, mP⟩, ⟨mb, ms, mp⟩, mRu, mKe⟩ := id mi
    refine ⟨0, rfl, by decide, rfl, CT_mono (ct_mcleaned mR mE hEO hc _ b pq) (fun v2 S2 V2 h2 => ?_) (fun _ _ _ h => h)⟩
    obtain ⟨g1, g2, ⟨y2, rfl, g3⟩, g4⟩ := h2
    have hx : xcCl cnt (nI k) pq = 0 := if_pos ⟨⟨nI_pos (by omega), nI_lt k1 (by omega)⟩, k3⟩
    exact ⟨y2, rfl, g1, by rw [g2, hx], fun _ => (a_up_self _ _ _ _).trans (by rw [g3 hx, nI_clamp (n := k) (by omega), Value.int.inj (Option.some.inj k4)]), g4.1 539 (by decide) (by decide), LInv.same o1 mi hS g4⟩
  · obtain ⟨rfl, k1, -, eV⟩ := q
    rcases hE with ⟨eE, rfl⟩ | ⟨eE, rfl⟩ | ⟨eE, rfl⟩ <;> first | (exact absurd eE (by decide)) | skip
    have o1 : CI V1 L T to ent cnt mt po b0 st pa n rt rr pd kn kl := eV ▸ hI
    have hV : FrX V V1 := fun b _ => by rw [eV]
    have mi := hM.hi (V' := V1) (fun b q1 q2 => hV b q1)
    obtain ⟨⟨mR, mL, mT⟩, ⟨mE, mM, mP⟩, ⟨mb, ms, mp⟩, mRu, mKe⟩ := id mi
    refine ⟨1, rfl, by decide, rfl, CT_mono (ct_mcleaned mR mE hEO hc _ b pq) (fun v2 S2 V2 h2 => ?_) (fun _ _ _ h => h)⟩
    obtain ⟨g1, g2, ⟨y2, rfl, g3⟩, g4⟩ := h2
    have hx : xcCl cnt t pq = 1 := if_neg (fun z => k1 ⟨(okN_12 hc).2 z.1, z.2⟩)
    exact ⟨y2, rfl, g1, by rw [g2, hx], fun z => absurd z (by decide), g4.1 539 (by decide) (by decide), LInv.same o1 mi hS g4⟩
set_option maxHeartbeats 1000000 in
theorem op_apart {V : aV} (h : LInv V) (t : Int32) (u : Int32) (b : Int32) : CTH mL_apart hL_apart 8 2 12 [.ref 0, .int t, .int u, .int b, .ref 539] Sh V (fun v S' V1 => ∃ k, v = some (.int (nI k)) ∧ k ≤ 3 ∧ Sh = S' ∧ CT mX12_apart 4 0 0 [.ref 504, .int t, .int u, .int b] Sh V1 (OpM k V1 Int32.toInt64) aNo) := by
  obtain ⟨L, T, to, ent, cnt, mt, po, b0, st, pa, n, rt, rr, pd, kn, kl, hI, hM, hS⟩ := h
  obtain ⟨⟨a1, a2, a3, a4, a5, a6, a7⟩, ⟨b1, ⟨en, sp, b2⟩, b3, b4⟩, ⟨⟨tl, sp2, c1⟩, c2, c3, c4, c5⟩, d1, d2⟩ := id hI
  obtain ⟨⟨mR, mL, mT⟩, ⟨mE, mM, mP⟩, ⟨mb, ms, mp⟩, mRu, mKe⟩ := id hM
  obtain ⟨⟨l96, lok⟩, ⟨hK8, hT8⟩, ⟨hc, hEO, hm, hpo⟩, ⟨hb, hst, hpa⟩, hn, hk8⟩ := id hS
  refine CTH_mono (ctw_apart (ct_apart a1 b1 b2 a3 t u b) (fun v S' V' q => by obtain ⟨k, j, q1, q2, q3, q4, q5, q6, q7, q8, q9⟩ := q; exact ⟨q8, _, q7.symm⟩) (fun E S' V' q => ⟨q.2.2.1, q.1⟩)) (fun v S' V1 q => ?_)
  rcases q with ⟨rfl, ⟨y, Vc, q, rfl, rfl⟩ | ⟨E, q, hE⟩⟩
  · obtain ⟨k, j, k1, k2, rfl, j1, j2, rfl, k4, -, k6⟩ := q
    have hV : FrX V Vc := fun b hb => k6 b (by omega)
    have o0 : CI Vc L T to ent cnt mt po b0 st pa n rt rr pd kn kl := hI.f197 k6
    have o1 : CI (a_up Vc 539 0 (.long y.toInt64)) L T to ent cnt mt po b0 st pa n rt rr pd kn kl := o0.low (fun b hb => a_up_row (by omega))
    have mi := hM.hi (V' := a_up Vc 539 0 (.long y.toInt64)) (fun b q1 q2 => (a_up_row (by omega)).trans (hV b q1))
    obtain ⟨⟨mR, mL, mT⟩, ⟨mE, mM, mP⟩, ⟨mb, ms, mp⟩, mRu, mKe⟩ := id mi
    refine ⟨0, rfl, by decide, rfl, CT_mono (ct_mapart mR mE hEO hc _ _ b) (fun v2 S2 V2 h2 => ?_) (fun _ _ _ h => h)⟩
    obtain ⟨g1, g2, ⟨y2, rfl, g3⟩, g4⟩ := h2
    have hx : xc2 cnt (nI k) (nI j) = 0 := if_pos ⟨⟨nI_pos (by omega), nI_lt k1 (by omega)⟩, nI_pos (by omega), nI_lt j1 (by omega)⟩
    exact ⟨y2, rfl, g1, by rw [g2, hx], fun _ => (a_up_self _ _ _ _).trans (by rw [g3 hx, nI_clamp (n := k) (by omega), nI_clamp (n := j) (by omega), Value.int.inj (Option.some.inj k4)]), g4.1 539 (by decide) (by decide), LInv.same o1 mi hS g4⟩
  · obtain ⟨rfl, k1, -, eV⟩ := q
    rcases hE with ⟨eE, rfl⟩ | ⟨eE, rfl⟩ | ⟨eE, rfl⟩ <;> first | (exact absurd eE (by decide)) | skip
    have o1 : CI V1 L T to ent cnt mt po b0 st pa n rt rr pd kn kl := eV ▸ hI
    have hV : FrX V V1 := fun b _ => by rw [eV]
    have mi := hM.hi (V' := V1) (fun b q1 q2 => hV b q1)
    obtain ⟨⟨mR, mL, mT⟩, ⟨mE, mM, mP⟩, ⟨mb, ms, mp⟩, mRu, mKe⟩ := id mi
    refine ⟨1, rfl, by decide, rfl, CT_mono (ct_mapart mR mE hEO hc _ _ b) (fun v2 S2 V2 h2 => ?_) (fun _ _ _ h => h)⟩
    obtain ⟨g1, g2, ⟨y2, rfl, g3⟩, g4⟩ := h2
    have hx : xc2 cnt t u = 1 := if_neg (fun z => k1 ⟨(okN_12 hc).2 z.1, (okN_12 hc).2 z.2⟩)
    exact ⟨y2, rfl, g1, by rw [g2, hx], fun z => absurd z (by decide), g4.1 539 (by decide) (by decide), LInv.same o1 mi hS g4⟩
set_option maxHeartbeats 1000000 in
theorem op_likeness {V : aV} (h : LInv V) (t : Int32) (u : Int32) : CTH mL_likeness hL_likeness 8 2 12 [.ref 0, .int t, .int u, .ref 539] Sh V (fun v S' V1 => ∃ k, v = some (.int (nI k)) ∧ k ≤ 3 ∧ Sh = S' ∧ CT mX12_likeness 4 0 0 [.ref 504, .int t, .int u] Sh V1 (OpM k V1 Int32.toInt64) aNo) := by
  obtain ⟨L, T, to, ent, cnt, mt, po, b0, st, pa, n, rt, rr, pd, kn, kl, hI, hM, hS⟩ := h
  obtain ⟨⟨a1, a2, a3, a4, a5, a6, a7⟩, ⟨b1, ⟨en, sp, b2⟩, b3, b4⟩, ⟨⟨tl, sp2, c1⟩, c2, c3, c4, c5⟩, d1, d2⟩ := id hI
  obtain ⟨⟨mR, mL, mT⟩, ⟨mE, mM, mP⟩, ⟨mb, ms, mp⟩, mRu, mKe⟩ := id hM
  obtain ⟨⟨l96, lok⟩, ⟨hK8, hT8⟩, ⟨hc, hEO, hm, hpo⟩, ⟨hb, hst, hpa⟩, hn, hk8⟩ := id hS
  refine CTH_mono (ctw_likeness (ct_likeness a1 b1 b2 a3 t u) (fun v S' V' q => by obtain ⟨k, j, q1, q2, q3, q4, q5, q6, q7, q8, q9⟩ := q; exact ⟨q8, _, q7.symm⟩) (fun E S' V' q => ⟨q.2.2.1, q.1⟩)) (fun v S' V1 q => ?_)
  rcases q with ⟨rfl, ⟨y, Vc, q, rfl, rfl⟩ | ⟨E, q, hE⟩⟩
  · obtain ⟨k, j, k1, k2, rfl, j1, j2, rfl, k4, -, k6⟩ := q
    have hV : FrX V Vc := fun b hb => k6 b (by omega)
    have o0 : CI Vc L T to ent cnt mt po b0 st pa n rt rr pd kn kl := hI.f197 k6
    have o1 : CI (a_up Vc 539 0 (.long y.toInt64)) L T to ent cnt mt po b0 st pa n rt rr pd kn kl := o0.low (fun b hb => a_up_row (by omega))
    have mi := hM.hi (V' := a_up Vc 539 0 (.long y.toInt64)) (fun b q1 q2 => (a_up_row (by omega)).trans (hV b q1))
    obtain ⟨⟨mR, mL, mT⟩, ⟨mE, mM, mP⟩, ⟨mb, ms, mp⟩, mRu, mKe⟩ := id mi
    refine ⟨0, rfl, by decide, rfl, CT_mono (ct_mlikeness mR mE hEO hc _ _) (fun v2 S2 V2 h2 => ?_) (fun _ _ _ h => h)⟩
    obtain ⟨g1, g2, ⟨y2, rfl, g3⟩, g4⟩ := h2
    have hx : xc2 cnt (nI k) (nI j) = 0 := if_pos ⟨⟨nI_pos (by omega), nI_lt k1 (by omega)⟩, nI_pos (by omega), nI_lt j1 (by omega)⟩
    exact ⟨y2, rfl, g1, by rw [g2, hx], fun _ => (a_up_self _ _ _ _).trans (by rw [g3 hx, nI_clamp (n := k) (by omega), nI_clamp (n := j) (by omega), Value.int.inj (Option.some.inj k4)]), g4.1 539 (by decide) (by decide), LInv.same o1 mi hS g4⟩
  · obtain ⟨rfl, k1, -, eV⟩ := q
    rcases hE with ⟨eE, rfl⟩ | ⟨eE, rfl⟩ | ⟨eE, rfl⟩ <;> first | (exact absurd eE (by decide)) | skip
    have o1 : CI V1 L T to ent cnt mt po b0 st pa n rt rr pd kn kl := eV ▸ hI
    have hV : FrX V V1 := fun b _ => by rw [eV]
    have mi := hM.hi (V' := V1) (fun b q1 q2 => hV b q1)
    obtain ⟨⟨mR, mL, mT⟩, ⟨mE, mM, mP⟩, ⟨mb, ms, mp⟩, mRu, mKe⟩ := id mi
    refine ⟨1, rfl, by decide, rfl, CT_mono (ct_mlikeness mR mE hEO hc _ _) (fun v2 S2 V2 h2 => ?_) (fun _ _ _ h => h)⟩
    obtain ⟨g1, g2, ⟨y2, rfl, g3⟩, g4⟩ := h2
    have hx : xc2 cnt t u = 1 := if_neg (fun z => k1 ⟨(okN_12 hc).2 z.1, (okN_12 hc).2 z.2⟩)
    exact ⟨y2, rfl, g1, by rw [g2, hx], fun z => absurd z (by decide), g4.1 539 (by decide) (by decide), LInv.same o1 mi hS g4⟩
set_option maxHeartbeats 1000000 in
theorem op_pairs {V : aV} (h : LInv V) (t : Int32) : CTH mL_pairs hL_pairs 7 1 6 [.ref 0, .int t, .ref 539] Sh V (fun v S' V1 => ∃ k, v = some (.int (nI k)) ∧ k ≤ 3 ∧ Sh = S' ∧ CT mX12_pairs 6 0 0 [.ref 504, .int t] Sh V1 (OpM k V1 Int32.toInt64) aNo) := by
  obtain ⟨L, T, to, ent, cnt, mt, po, b0, st, pa, n, rt, rr, pd, kn, kl, hI, hM, hS⟩ := h
  obtain ⟨⟨a1, a2, a3, a4, a5, a6, a7⟩, ⟨b1, ⟨en, sp, b2⟩, b3, b4⟩, ⟨⟨tl, sp2, c1⟩, c2, c3, c4, c5⟩, d1, d2⟩ := id hI
  obtain ⟨⟨mR, mL, mT⟩, ⟨mE, mM, mP⟩, ⟨mb, ms, mp⟩, mRu, mKe⟩ := id hM
  obtain ⟨⟨l96, lok⟩, ⟨hK8, hT8⟩, ⟨hc, hEO, hm, hpo⟩, ⟨hb, hst, hpa⟩, hn, hk8⟩ := id hS
  refine CTH_mono (ctw_pairs (ct_pairs a1 b1 b2 a3 t) (fun v S' V' q => by obtain ⟨k, q1, q2, q3, q4, q5⟩ := q; exact ⟨q4, _, q3.symm⟩) (fun E S' V' q => ⟨q.2.2.1, q.1⟩)) (fun v S' V1 q => ?_)
  rcases q with ⟨rfl, ⟨y, Vc, q, rfl, rfl⟩ | ⟨E, q, hE⟩⟩
  · obtain ⟨k, k1, rfl, k4, -, k6⟩ := q
    have hV : FrX V Vc := fun b hb => k6 b (by omega)
    have o0 : CI Vc L T to ent cnt mt po b0 st pa n rt rr pd kn kl := hI.f197 k6
    have o1 : CI (a_up Vc 539 0 (.long y.toInt64)) L T to ent cnt mt po b0 st pa n rt rr pd kn kl := o0.low (fun b hb => a_up_row (by omega))
    have mi := hM.hi (V' := a_up Vc 539 0 (.long y.toInt64)) (fun b q1 q2 => (a_up_row (by omega)).trans (hV b q1))
    obtain ⟨⟨mR, mL, mT⟩, ⟨mE, mM, mP⟩, ⟨mb, ms, mp⟩, mRu, mKe⟩ := id mi
    refine ⟨0, rfl, by decide, rfl, CT_mono (ct_mpairs mR mE hEO hc _) (fun v2 S2 V2 h2 => ?_) (fun _ _ _ h => h)⟩
    obtain ⟨g1, g2, ⟨y2, rfl, g3⟩, g4⟩ := h2
    have hx : xcPr (nI k) = 0 := if_pos ⟨nI_pos (by omega), (nI_leI (a := k) (b := 100) (by omega) (by decide)).2 k1⟩
    exact ⟨y2, rfl, g1, by rw [g2, hx], fun _ => (a_up_self _ _ _ _).trans (by rw [g3 hx, nI_clamp (n := k) (by omega), Value.int.inj (Option.some.inj k4)]), g4.1 539 (by decide) (by decide), LInv.same o1 mi hS g4⟩
  · obtain ⟨rfl, k1, -, eV⟩ := q
    rcases hE with ⟨eE, rfl⟩ | ⟨eE, rfl⟩ | ⟨eE, rfl⟩ <;> first | (exact absurd eE (by decide)) | skip
    have o1 : CI V1 L T to ent cnt mt po b0 st pa n rt rr pd kn kl := eV ▸ hI
    have hV : FrX V V1 := fun b _ => by rw [eV]
    have mi := hM.hi (V' := V1) (fun b q1 q2 => hV b q1)
    obtain ⟨⟨mR, mL, mT⟩, ⟨mE, mM, mP⟩, ⟨mb, ms, mp⟩, mRu, mKe⟩ := id mi
    refine ⟨1, rfl, by decide, rfl, CT_mono (ct_mpairs mR mE hEO hc _) (fun v2 S2 V2 h2 => ?_) (fun _ _ _ h => h)⟩
    obtain ⟨g1, g2, ⟨y2, rfl, g3⟩, g4⟩ := h2
    have hx : xcPr t = 1 := if_neg k1
    exact ⟨y2, rfl, g1, by rw [g2, hx], fun z => absurd z (by decide), g4.1 539 (by decide) (by decide), LInv.same o1 mi hS g4⟩
set_option maxHeartbeats 1000000 in
theorem op_group {V : aV} (h : LInv V) (t : Int32) : CTH mL_group hL_group 8 1 6 [.ref 0, .int t, .ref 539] Sh V (fun v S' V1 => ∃ k, v = some (.int (nI k)) ∧ k ≤ 3 ∧ Sh = S' ∧ CT mX12_group 1 0 0 [.ref 504, .int t] Sh V1 (OpM k V1 Int32.toInt64) aNo) := by
  obtain ⟨L, T, to, ent, cnt, mt, po, b0, st, pa, n, rt, rr, pd, kn, kl, hI, hM, hS⟩ := h
  obtain ⟨⟨a1, a2, a3, a4, a5, a6, a7⟩, ⟨b1, ⟨en, sp, b2⟩, b3, b4⟩, ⟨⟨tl, sp2, c1⟩, c2, c3, c4, c5⟩, d1, d2⟩ := id hI
  obtain ⟨⟨mR, mL, mT⟩, ⟨mE, mM, mP⟩, ⟨mb, ms, mp⟩, mRu, mKe⟩ := id hM
  obtain ⟨⟨l96, lok⟩, ⟨hK8, hT8⟩, ⟨hc, hEO, hm, hpo⟩, ⟨hb, hst, hpa⟩, hn, hk8⟩ := id hS
  refine CTH_mono (ctw_group (ct_group a1 b1 b3 b2.2.2.2.1 t) (fun v S' V' q => by obtain ⟨k, q1, q2, q3, q4, q5, q6⟩ := q; exact ⟨q5, _, q4.symm⟩) (fun E S' V' q => ⟨q.2.2.1, q.1⟩)) (fun v S' V1 q => ?_)
  rcases q with ⟨rfl, ⟨y, Vc, q, rfl, rfl⟩ | ⟨E, q, hE⟩⟩
  · obtain ⟨k, k1, k2, rfl, k4, -, eV⟩ := q
    have hV : FrX V Vc := fun b _ => by rw [eV]
    have o0 : CI Vc L T to ent cnt mt po b0 st pa n rt rr pd kn kl := eV ▸ hI
    have o1 : CI (a_up Vc 539 0 (.long y.toInt64)) L T to ent cnt mt po b0 st pa n rt rr pd kn kl := o0.low (fun b hb => a_up_row (by omega))
    have mi := hM.hi (V' := a_up Vc 539 0 (.long y.toInt64)) (fun b q1 q2 => (a_up_row (by omega)).trans (hV b q1))
    obtain ⟨⟨mR, mL, mT⟩, ⟨mE, mM, mP⟩, ⟨mb, ms, mp⟩, mRu, mKe⟩ := id mi
    refine ⟨0, rfl, by decide, rfl, CT_mono (ct_mgroup mR mE.1 mM hm hc _) (fun v2 S2 V2 h2 => ?_) (fun _ _ _ h => h)⟩
    obtain ⟨g1, g2, ⟨y2, rfl, g3⟩, g4⟩ := h2
    have hx : xc1 cnt (nI k) = 0 := if_pos ⟨nI_pos (by omega), nI_lt k1 (by omega)⟩
    exact ⟨y2, rfl, g1, by rw [g2, hx], fun _ => (a_up_self _ _ _ _).trans (by rw [g3 hx, nI_clamp (n := k) (by omega), Value.int.inj (Option.some.inj k4)]), g4.1 539 (by decide) (by decide), LInv.same o1 mi hS g4⟩
  · obtain ⟨rfl, k1, -, eV⟩ := q
    rcases hE with ⟨eE, rfl⟩ | ⟨eE, rfl⟩ | ⟨eE, rfl⟩ <;> first | (exact absurd eE (by decide)) | skip
    have o1 : CI V1 L T to ent cnt mt po b0 st pa n rt rr pd kn kl := eV ▸ hI
    have hV : FrX V V1 := fun b _ => by rw [eV]
    have mi := hM.hi (V' := V1) (fun b q1 q2 => hV b q1)
    obtain ⟨⟨mR, mL, mT⟩, ⟨mE, mM, mP⟩, ⟨mb, ms, mp⟩, mRu, mKe⟩ := id mi
    refine ⟨1, rfl, by decide, rfl, CT_mono (ct_mgroup mR mE.1 mM hm hc _) (fun v2 S2 V2 h2 => ?_) (fun _ _ _ h => h)⟩
    obtain ⟨g1, g2, ⟨y2, rfl, g3⟩, g4⟩ := h2
    have hx : xc1 cnt t = 1 := if_neg (fun z => k1 ((okN_12 hc).2 z))
    exact ⟨y2, rfl, g1, by rw [g2, hx], fun z => absurd z (by decide), g4.1 539 (by decide) (by decide), LInv.same o1 mi hS g4⟩
set_option maxHeartbeats 1000000 in
theorem op_reasons {V : aV} (h : LInv V) (t : Int32) : CTH mL_reasons hL_reasons 8 1 6 [.ref 0, .int t, .ref 539] Sh V (fun v S' V1 => ∃ k, v = some (.int (nI k)) ∧ k ≤ 3 ∧ Sh = S' ∧ CT mX12_reasons 1 0 0 [.ref 504, .int t] Sh V1 (OpM k V1 Int32.toInt64) aNo) := by
  obtain ⟨L, T, to, ent, cnt, mt, po, b0, st, pa, n, rt, rr, pd, kn, kl, hI, hM, hS⟩ := h
  obtain ⟨⟨a1, a2, a3, a4, a5, a6, a7⟩, ⟨b1, ⟨en, sp, b2⟩, b3, b4⟩, ⟨⟨tl, sp2, c1⟩, c2, c3, c4, c5⟩, d1, d2⟩ := id hI
  obtain ⟨⟨mR, mL, mT⟩, ⟨mE, mM, mP⟩, ⟨mb, ms, mp⟩, mRu, mKe⟩ := id hM
  obtain ⟨⟨l96, lok⟩, ⟨hK8, hT8⟩, ⟨hc, hEO, hm, hpo⟩, ⟨hb, hst, hpa⟩, hn, hk8⟩ := id hS
  refine CTH_mono (ctw_reasons (ct_reasons a1 b1 b4 b2.2.2.2.1 t) (fun v S' V' q => by obtain ⟨k, q1, q2, q3, q4, q5, q6⟩ := q; exact ⟨q5, _, q4.symm⟩) (fun E S' V' q => ⟨q.2.2.1, q.1⟩)) (fun v S' V1 q => ?_)
  rcases q with ⟨rfl, ⟨y, Vc, q, rfl, rfl⟩ | ⟨E, q, hE⟩⟩
  · obtain ⟨k, k1, k2, rfl, k4, -, eV⟩ := q
    have hV : FrX V Vc := fun b _ => by rw [eV]
    have o0 : CI Vc L T to ent cnt mt po b0 st pa n rt rr pd kn kl := eV ▸ hI
    have o1 : CI (a_up Vc 539 0 (.long y.toInt64)) L T to ent cnt mt po b0 st pa n rt rr pd kn kl := o0.low (fun b hb => a_up_row (by omega))
    have mi := hM.hi (V' := a_up Vc 539 0 (.long y.toInt64)) (fun b q1 q2 => (a_up_row (by omega)).trans (hV b q1))
    obtain ⟨⟨mR, mL, mT⟩, ⟨mE, mM, mP⟩, ⟨mb, ms, mp⟩, mRu, mKe⟩ := id mi
    refine ⟨0, rfl, by decide, rfl, CT_mono (ct_mreasons mi hS _) (fun v2 S2 V2 h2 => ?_) (fun _ _ _ h => h)⟩
    obtain ⟨g1, g2, ⟨y2, rfl, g3⟩, g4⟩ := h2
    have hx : xc1 cnt (nI k) = 0 := if_pos ⟨nI_pos (by omega), nI_lt k1 (by omega)⟩
    exact ⟨y2, rfl, g1, by rw [g2, hx], fun _ => (a_up_self _ _ _ _).trans (by rw [g3 hx, nI_clamp (n := k) (by omega), Value.int.inj (Option.some.inj k4)]), g4.1 539 (by decide) (by decide), LInv.same o1 mi hS g4⟩
  · obtain ⟨rfl, k1, -, eV⟩ := q
    rcases hE with ⟨eE, rfl⟩ | ⟨eE, rfl⟩ | ⟨eE, rfl⟩ <;> first | (exact absurd eE (by decide)) | skip
    have o1 : CI V1 L T to ent cnt mt po b0 st pa n rt rr pd kn kl := eV ▸ hI
    have hV : FrX V V1 := fun b _ => by rw [eV]
    have mi := hM.hi (V' := V1) (fun b q1 q2 => hV b q1)
    obtain ⟨⟨mR, mL, mT⟩, ⟨mE, mM, mP⟩, ⟨mb, ms, mp⟩, mRu, mKe⟩ := id mi
    refine ⟨1, rfl, by decide, rfl, CT_mono (ct_mreasons mi hS _) (fun v2 S2 V2 h2 => ?_) (fun _ _ _ h => h)⟩
    obtain ⟨g1, g2, ⟨y2, rfl, g3⟩, g4⟩ := h2
    have hx : xc1 cnt t = 1 := if_neg (fun z => k1 ((okN_12 hc).2 z))
    exact ⟨y2, rfl, g1, by rw [g2, hx], fun z => absurd z (by decide), g4.1 539 (by decide) (by decide), LInv.same o1 mi hS g4⟩
set_option maxHeartbeats 1000000 in
theorem op_letters {V : aV} (h : LInv V) (t : Int32) : CTH mL_letters hL_letters 8 1 6 [.ref 0, .int t, .ref 539] Sh V (fun v S' V1 => ∃ k, v = some (.int (nI k)) ∧ k ≤ 3 ∧ Sh = S' ∧ CT mX12_letters 3 0 0 [.ref 504, .int t] Sh V1 (OpM k V1 Int32.toInt64) aNo) := by
  obtain ⟨L, T, to, ent, cnt, mt, po, b0, st, pa, n, rt, rr, pd, kn, kl, hI, hM, hS⟩ := h
  obtain ⟨⟨a1, a2, a3, a4, a5, a6, a7⟩, ⟨b1, ⟨en, sp, b2⟩, b3, b4⟩, ⟨⟨tl, sp2, c1⟩, c2, c3, c4, c5⟩, d1, d2⟩ := id hI
  obtain ⟨⟨mR, mL, mT⟩, ⟨mE, mM, mP⟩, ⟨mb, ms, mp⟩, mRu, mKe⟩ := id hM
  obtain ⟨⟨l96, lok⟩, ⟨hK8, hT8⟩, ⟨hc, hEO, hm, hpo⟩, ⟨hb, hst, hpa⟩, hn, hk8⟩ := id hS
  refine CTH_mono (ctw_letters (ct_letters a1 a6 hn d1 b1 b3 b4 b2.2.2.2.1 hc t) (fun v S' V' q => by obtain ⟨k, q1, q2, q3, q4, q5, q6⟩ := q; exact ⟨q5, _, q4.symm⟩) (fun E S' V' q => ⟨q.2.2.1, q.1⟩)) (fun v S' V1 q => ?_)
  rcases q with ⟨rfl, ⟨y, Vc, q, rfl, rfl⟩ | ⟨E, q, hE⟩⟩
  · obtain ⟨k, k1, k2, rfl, k4, -, k6⟩ := q
    have hV : FrX V Vc := fun b hb => k6 b (by omega)
    have o0 : CI Vc L T to ent cnt mt po b0 st pa n rt rr pd kn kl := hI.f87 k6
    have o1 : CI (a_up Vc 539 0 (.long y.toInt64)) L T to ent cnt mt po b0 st pa n rt rr pd kn kl := o0.low (fun b hb => a_up_row (by omega))
    have mi := hM.hi (V' := a_up Vc 539 0 (.long y.toInt64)) (fun b q1 q2 => (a_up_row (by omega)).trans (hV b q1))
    obtain ⟨⟨mR, mL, mT⟩, ⟨mE, mM, mP⟩, ⟨mb, ms, mp⟩, mRu, mKe⟩ := id mi
    refine ⟨0, rfl, by decide, rfl, CT_mono (ct_mletters mR mE.1 mM hm hc mP (po12 hpo) mRu (fun i hi => (hk8 i hi).2.1) hn _) (fun v2 S2 V2 h2 => ?_) (fun _ _ _ h => h)⟩
    obtain ⟨g1, g2, ⟨y2, rfl, g3⟩, g4⟩ := h2
    have hx : xcR n (nI k) = 0 := if_pos ⟨nI_pos (by omega), nI_lt k1 (by omega)⟩
    exact ⟨y2, rfl, g1, by rw [g2, hx], fun _ => (a_up_self _ _ _ _).trans (by rw [g3 hx, nI_clamp (n := k) (by omega), Value.int.inj (Option.some.inj k4)]), g4.1 539 (by decide) (by decide), LInv.same o1 mi hS g4⟩
  · obtain ⟨rfl, k1, -, eV⟩ := q
    rcases hE with ⟨eE, rfl⟩ | ⟨eE, rfl⟩ | ⟨eE, rfl⟩ <;> first | (exact absurd eE (by decide)) | skip
    have o1 : CI V1 L T to ent cnt mt po b0 st pa n rt rr pd kn kl := eV ▸ hI
    have hV : FrX V V1 := fun b _ => by rw [eV]
    have mi := hM.hi (V' := V1) (fun b q1 q2 => hV b q1)
    obtain ⟨⟨mR, mL, mT⟩, ⟨mE, mM, mP⟩, ⟨mb, ms, mp⟩, mRu, mKe⟩ := id mi
    refine ⟨1, rfl, by decide, rfl, CT_mono (ct_mletters mR mE.1 mM hm hc mP (po12 hpo) mRu (fun i hi => (hk8 i hi).2.1) hn _) (fun v2 S2 V2 h2 => ?_) (fun _ _ _ h => h)⟩
    obtain ⟨g1, g2, ⟨y2, rfl, g3⟩, g4⟩ := h2
    have hx : xcR n t = 1 := if_neg (fun z => k1 ((okN_8 hn).2 z))
    exact ⟨y2, rfl, g1, by rw [g2, hx], fun z => absurd z (by decide), g4.1 539 (by decide) (by decide), LInv.same o1 mi hS g4⟩
