/-! ===== match, franking, run, post ===== -/
theorem MTO.turn {mt : Nat → Nat} {cnt k j : Nat} (h : MTO mt cnt) (hc : cnt ≤ 12) (hk : k < cnt) (hj : j < cnt) (hkj : k ≠ j) (hb : ∀ a, a < 12 → tM mt k j a < 2 ^ 12) : MTO (tM mt k j) cnt := by
  refine ⟨hb, fun i l hi hl q => ?_⟩
  have sy := h.sym (i := k) (j := j) (by omega) (by omega)
  rw [tM_bit] at q
  by_cases e1 : i = j
  · subst e1
    rw [if_pos rfl] at q
    by_cases e2 : k = l
    · subst e2
      refine ⟨hj, hk, fun z => hkj z.symm, ?_⟩
      rw [tM_bit, if_neg hkj, if_pos rfl, ← sy]
      rw [decide_eq_true rfl] at q ⊢
      exact q
    · rw [decide_eq_false e2] at q
      have q' : (mt i).testBit l = true := by revert q; cases (mt i).testBit l <;> decide
      obtain ⟨r1, r2, r3, r4⟩ := h.2 i l hi hl q'
      refine ⟨r1, r2, r3, ?_⟩
      rw [tM_bit, if_neg (fun z => r3 z.symm), if_neg (fun z => e2 z.symm)]
      exact r4
  · rw [if_neg e1] at q
    by_cases e3 : i = k
    · subst e3
      rw [if_pos rfl] at q
      by_cases e2 : j = l
      · subst e2
        refine ⟨hk, hj, hkj, ?_⟩
        rw [tM_bit, if_pos rfl, sy]
        rw [decide_eq_true rfl] at q ⊢
        exact q
      · rw [decide_eq_false e2] at q
        have q' : (mt i).testBit l = true := by revert q; cases (mt i).testBit l <;> decide
        obtain ⟨r1, r2, r3, r4⟩ := h.2 i l hi hl q'
        refine ⟨r1, r2, r3, ?_⟩
        rw [tM_bit, if_neg (fun z => e2 z.symm), if_neg (fun z => r3 z.symm)]
        exact r4
    · rw [if_neg e3] at q
      obtain ⟨r1, r2, r3, r4⟩ := h.2 i l hi hl q
      refine ⟨r1, r2, r3, ?_⟩
      rw [tM_bit]
      split
      · rename_i z
        subst z
        rw [decide_eq_false (fun z => e3 z.symm), r4]; rfl
      · split
        · rename_i z
          subst z
          rw [decide_eq_false (fun z => e1 z.symm), r4]; rfl
        · exact r4
section LIM
variable {V V' : aV} {L : List Int32} {T : Nat → List Int32} {to : Nat → Bool} {ent : Nat → EntN} {cnt : Nat} {mt po : Nat → Nat} {b0 st pa n : Nat} {rt rr : Nat → Nat} {pd : Nat → Bool} {kn : Nat → Nat} {kl : Nat → Nat → KL}
theorem CI.mtc {mt' : Nat → Nat} (h : CI V L T to ent cnt mt po b0 st pa n rt rr pd kn kl) (hK : MK V' 85 mt') (e : ∀ b, b ≠ 85 → b ≠ 197 → V' b = V b) : CI V' L T to ent cnt mt' po b0 st pa n rt rr pd kn kl := by
  obtain ⟨⟨a1, a2, a3, a4, a5, a6, a7⟩, ⟨b1, ⟨en, sp, b2⟩, b3, b4⟩, ⟨⟨tl, sp2, c1⟩, c2, c3, ⟨w, vl, c4⟩, s, c5⟩, d1, d2⟩ := h
  have e0 := e 0 (by decide) (by decide)
  have e4 := e 4 (by decide) (by decide)
  have e28 := e 28 (by decide) (by decide)
  exact ⟨⟨a1.fr e0, a2.fr (fun b q1 q2 => e b (by omega) (by omega)), (congrFun (e 196 (by decide) (by decide)) 0).trans a3, (congrFun (e 198 (by decide) (by decide)) 0).trans a4, (congrFun (e 198 (by decide) (by decide)) 1).trans a5, (congrFun e0 6).trans a6, (congrFun e0 7).trans a7⟩,
    ⟨b1.fr (e 74 (by decide) (by decide)), ⟨en, sp, b2.frg (fun b q1 q2 q3 _ _ => e b q3 (by omega))⟩, hK, b4.fr (e 86 (by decide) (by decide))⟩,
    ⟨⟨tl, sp2, c1.frg ⟨congrFun e4 0, congrFun e4 1⟩ (fun b q1 q2 q3 => e b (by omega) (by omega))⟩, c2.frg (fun k _ => congrFun e4 k) (congrFun e28 0) (fun b q => e b (by omega) (by omega)), c3.frg (fun b q1 q2 q3 => e b (by omega) (by omega)), ⟨w, vl, c4.frg (fun b q => e b (by omega) (by omega))⟩, s, c5.frg ⟨congrFun e4 7, congrFun e4 8⟩ (congrFun e28 2) (fun b q1 q2 => e b (by omega) (by omega))⟩,
    d1.fr (fun b q1 q2 => e b (by omega) (by omega)), d2.fr (fun b q1 q2 => e b (by omega) (by omega))⟩
theorem MI.mtm {mt' : Nat → Nat} (h : MI V L T to ent cnt mt po b0 st pa n rt rr pd kn kl) (hM : MM V' mt') (f : FrE 519 V V') : MI V' L T to ent cnt mt' po b0 st pa n rt rr pd kn kl := by
  obtain ⟨⟨a1, a2, a3⟩, ⟨b1, b2, b3⟩, ⟨c1, c2, c3⟩, d1, d2⟩ := h
  have g := fun b (q1 : b ≠ 504) (q2 : b ≠ 519) (q3 : b < 529) => f.1 b q1 q2 (Or.inl q3)
  exact ⟨⟨a1.fr (fun k hk => f.2 k (fun z => hk (by rw [z]; decide)) ((Nat.lt_or_ge k 32).imp id (fun z => Nat.lt_of_not_le fun y => hk (by rcases (show k = 32 ∨ k = 33 ∨ k = 34 ∨ k = 35 by omega) with rfl | rfl | rfl | rfl <;> decide))) (fun z => hk (by rw [z]; decide))), a2.fr (f.2 2 (by decide) (by decide) (by decide)) (g 505 (by decide) (by decide) (by decide)), a3.fr (g 506 (by decide) (by decide) (by decide)) (g 507 (by decide) (by decide) (by decide))⟩, ⟨b1.fr (f.2 5 (by decide) (by decide) (by decide)) (fun b q1 q2 => g b (by omega) (by omega) (by omega)), hM, b3.fr (g 520 (by decide) (by decide) (by decide))⟩, ⟨(f.2 19 (by decide) (by decide) (by decide)).trans c1, (f.2 20 (by decide) (by decide) (by decide)).trans c2, (f.2 21 (by decide) (by decide) (by decide)).trans c3⟩, d1.fr (f.2 22 (by decide) (by decide) (by decide)) (fun b q1 q2 => g b (by omega) (by omega) (by omega)), d2.fr (fun b q1 q2 => g b (by omega) (by omega) (by omega))⟩
end LIM
set_option maxHeartbeats 1000000 in
theorem op_match {V : aV} (h : LInv V) (t : Int32) (u : Int32) : CTH mL_match hL_match 8 3 18 [.ref 0, .int t, .int u, .ref 539] Sh V (fun v S' V1 => ∃ k, v = some (.int (nI k)) ∧ k ≤ 3 ∧ Sh = S' ∧ CT mX12_match 5 0 0 [.ref 504, .int t, .int u] Sh V1 (OpM k V1 (fun y => if y = 0 then 0 else 1)) aNo) := by
  obtain ⟨L, T, to, ent, cnt, mt, po, b0, st, pa, n, rt, rr, pd, kn, kl, hI, hM, hS⟩ := h
  obtain ⟨⟨a1, a2, a3, a4, a5, a6, a7⟩, ⟨b1, ⟨en, sp, b2⟩, b3, b4⟩, ⟨⟨tl, sp2, c1⟩, c2, c3, c4, c5⟩, d1, d2⟩ := id hI
  obtain ⟨⟨mR, mL, mT⟩, ⟨mE, mM, mP⟩, ⟨mb, ms, mp⟩, mRu, mKe⟩ := id hM
  obtain ⟨⟨l96, lok⟩, ⟨hK8, hT8⟩, ⟨hc, hEO, hm, hpo⟩, ⟨hb, hst, hpa⟩, hn, hk8⟩ := id hS
  refine CTH_mono (ctw_match (ct_match a1 b1 b2 b3 a3 t u) (fun v S' V' q => by obtain ⟨k, j, q1, q2, q3, q4, q5, q6, q7, q8, q9, -⟩ := q; exact ⟨q9, _, q8.symm⟩) (fun E S' V' q => ⟨q.1, q.2.2.imp (fun z => z.1) (fun z => z.1)⟩)) (fun v S' V1 q => ?_)
  rcases q with ⟨rfl, ⟨y, Vc, q, rfl, rfl⟩ | ⟨E, q, hE⟩⟩
  · obtain ⟨k, j, k1, k2, rfl, j1, j2, rfl, hok, k4, -, k5, k6⟩ := q
    have hV : FrX V Vc := fun b hb => k6 b (by omega) (by omega)
    have mi := hM.hi (V' := (a_up Vc 539 0 (.long (if y = 0 then 0 else 1)))) (fun b q1 q2 => (a_up_row (by omega)).trans (hV b q1))
    have hx : xcM cnt mt ent (nI k) (nI j) = 0 := by
      unfold xcM
      rw [if_pos ⟨⟨nI_pos (by omega), nI_lt k1 (by omega)⟩, nI_pos (by omega), nI_lt j1 (by omega)⟩, nI_clamp (n := k) (by omega), nI_clamp (n := j) (by omega)]
      exact if_pos hok
    have o0 : CI Vc L T to ent cnt (tM mt k j) po b0 st pa n rt rr pd kn kl := hI.mtc k5 k6
    refine ⟨0, rfl, by decide, rfl, CT_mono (ct_mmatch mi.1.1 mi.2.1.1 hEO hc mi.2.1.2.1 hm (nI k) (nI j)) (fun v2 S2 V2 h2 => ?_) (fun _ _ _ h => h)⟩
    obtain ⟨g1, g2, ⟨y2, rfl, g3⟩, g4, g5⟩ := h2
    rw [if_pos hx, nI_clamp (n := k) (by omega), nI_clamp (n := j) (by omega)] at g4
    have ey : y2 = y := by rw [g3 hx, nI_clamp (n := k) (by omega), nI_clamp (n := j) (by omega)]; exact Value.int.inj (Option.some.inj k4)
    exact ⟨y2, rfl, g1, by rw [g2, hx], fun _ => (a_up_self _ _ _ _).trans (by rw [ey]), g5.1 539 (by decide) (by decide) (by decide), _, _, _, _, _, _, _, _, _, _, _, _, _, _, _, _, o0.low (fun b hb => (g5.1 b (by omega) (by omega) (by omega)).trans (a_up_row (by omega))), mi.mtm g4 g5, hS.1, hS.2.1, ⟨hc, hEO, hm.turn hc k1 j1 hok.1 (fun a ha => (k5 a ha).2), hpo⟩, hS.2.2.2⟩
  · obtain ⟨-, f197, hX⟩ := q
    have o1 : CI V1 L T to ent cnt mt po b0 st pa n rt rr pd kn kl := hI.f197 f197
    have mi := hM.hi (V' := V1) (fun b q1 q2 => f197 b (by omega))
    have fin : ∀ k : Nat, k ≠ 0 → xcM cnt mt ent t u = k → CT mX12_match 5 0 0 [.ref 504, .int t, .int u] Sh V1 (OpM k V1 (fun y => if y = 0 then 0 else 1)) aNo := fun k hk hx => by
      refine CT_mono (ct_mmatch mi.1.1 mi.2.1.1 hEO hc mi.2.1.2.1 hm t u) (fun v2 S2 V2 h2 => ?_) (fun _ _ _ h => h)
      obtain ⟨g1, g2, ⟨y2, rfl, g3⟩, g4, g5⟩ := h2
      have nx : ¬ xcM cnt mt ent t u = 0 := fun z => hk (by rw [← hx, z])
      rw [if_neg nx] at g4
      exact ⟨y2, rfl, g1, by rw [g2, hx], fun z => absurd z hk, g5.1 539 (by decide) (by decide) (by decide), _, _, _, _, _, _, _, _, _, _, _, _, _, _, _, _, o1.low (fun b hb => g5.1 b (by omega) (by omega) (by omega)), mi.mtm g4 g5, hS⟩
    rcases hX with ⟨rfl, hX⟩ | ⟨rfl, k, j, k1, k2, k3, j1, j2, j3, hX⟩
    · rcases hE with ⟨-, rfl⟩ | ⟨eE, -⟩ | ⟨eE, -⟩ <;> first | (exact absurd eE (by decide)) | skip
      exact ⟨1, rfl, by decide, rfl, fin 1 (by decide) (if_neg (fun z => hX ⟨(okN_12 hc).2 z.1, (okN_12 hc).2 z.2⟩))⟩
    · rcases hE with ⟨eE, -⟩ | ⟨eE, -⟩ | ⟨-, rfl⟩ <;> first | (exact absurd eE (by decide)) | skip
      refine ⟨2, rfl, by decide, rfl, fin 2 (by decide) ?_⟩
      subst k3
      subst j3
      unfold xcM
      rw [if_pos ⟨⟨nI_pos (by omega), nI_lt k1 (by omega)⟩, nI_pos (by omega), nI_lt j1 (by omega)⟩, nI_clamp (n := k) (by omega), nI_clamp (n := j) (by omega)]
      exact if_neg hX
section LIF
variable {V V' : aV} {L : List Int32} {T : Nat → List Int32} {to : Nat → Bool} {ent : Nat → EntN} {cnt : Nat} {mt po : Nat → Nat} {b0 st pa n : Nat} {rt rr : Nat → Nat} {pd : Nat → Bool} {kn : Nat → Nat} {kl : Nat → Nat → KL}
theorem CI.fk {b' st' : Nat} (h : CI V L T to ent cnt mt po b0 st pa n rt rr pd kn kl) (h0 : V' 198 0 = .int (nI b')) (h1 : V' 198 1 = .int (nI st')) (e : ∀ b, b ≠ 198 → V' b = V b) : CI V' L T to ent cnt mt po b' st' pa n rt rr pd kn kl := by
  obtain ⟨⟨a1, a2, a3, a4, a5, a6, a7⟩, ⟨b1, ⟨en, sp, b2⟩, b3, b4⟩, ⟨⟨tl, sp2, c1⟩, c2, c3, ⟨w, vl, c4⟩, s, c5⟩, d1, d2⟩ := h
  have e0 := e 0 (by decide)
  have e4 := e 4 (by decide)
  have e28 := e 28 (by decide)
  exact ⟨⟨a1.fr e0, a2.fr (fun b q1 q2 => e b (by omega)), (congrFun (e 196 (by decide)) 0).trans a3, h0, h1, (congrFun e0 6).trans a6, (congrFun e0 7).trans a7⟩,
    ⟨b1.fr (e 74 (by decide)), ⟨en, sp, b2.frg (fun b q1 q2 q3 _ _ => e b (by omega))⟩, b3.fr (e 85 (by decide)), b4.fr (e 86 (by decide))⟩,
    ⟨⟨tl, sp2, c1.frg ⟨congrFun e4 0, congrFun e4 1⟩ (fun b q1 q2 q3 => e b (by omega))⟩, c2.frg (fun k _ => congrFun e4 k) (congrFun e28 0) (fun b q => e b (by omega)), c3.frg (fun b q1 q2 q3 => e b (by omega)), ⟨w, vl, c4.frg (fun b q => e b (by omega))⟩, s, c5.frg ⟨congrFun e4 7, congrFun e4 8⟩ (congrFun e28 2) (fun b q1 q2 => e b (by omega))⟩,
    d1.fr (fun b q1 q2 => e b (by omega)), d2.fr (fun b q1 q2 => e b (by omega))⟩
theorem MI.fk {b' st' : Nat} (h : MI V L T to ent cnt mt po b0 st pa n rt rr pd kn kl) (h0 : V' 504 19 = .int (nI b')) (h1 : V' 504 20 = .int (nI st')) (f : FrF (fun k => k = 0 ∨ k = 19 ∨ k = 20) V V') : MI V' L T to ent cnt mt po b' st' pa n rt rr pd kn kl := by
  obtain ⟨⟨a1, a2, a3⟩, ⟨b1, b2, b3⟩, ⟨c1, c2, c3⟩, d1, d2⟩ := h
  have g := fun b (q : b ≠ 504) => f.1 b q
  exact ⟨⟨a1.fr (fun k hk => f.2 k (fun z => hk (by rcases z with rfl | rfl | rfl <;> decide))), a2.fr (f.2 2 (by decide)) (g 505 (by decide)), a3.fr (g 506 (by decide)) (g 507 (by decide))⟩, ⟨b1.fr (f.2 5 (by decide)) (fun b q1 q2 => g b (by omega)), b2.fr (g 519 (by decide)), b3.fr (g 520 (by decide))⟩, ⟨h0, h1, (f.2 21 (by decide)).trans c3⟩, d1.fr (f.2 22 (by decide)) (fun b q1 q2 => g b (by omega)), d2.fr (fun b q1 q2 => g b (by omega))⟩
theorem FrF.s0 (f : FrF (fun k => k = 0) V V') : FrS V V' := ⟨fun b q1 _ => f.1 b q1, fun k q1 _ _ => f.2 k q1⟩
end LIF
set_option maxHeartbeats 1000000 in
theorem op_franking {V : aV} (h : LInv V) (t : Int32) (u : Int32) : CTH mL_franking hL_franking 7 1 6 [.ref 0, .int t, .int u, .ref 539] Sh V (fun v S' V1 => ∃ k, v = some (.int (nI k)) ∧ k ≤ 3 ∧ Sh = S' ∧ CT mX12_franking 1 0 0 [.ref 504, .int t, .int u] Sh V1 (OpM k V1 Int32.toInt64) aNo) := by
  obtain ⟨L, T, to, ent, cnt, mt, po, b0, st, pa, n, rt, rr, pd, kn, kl, hI, hM, hS⟩ := h
  obtain ⟨⟨a1, a2, a3, a4, a5, a6, a7⟩, ⟨b1, ⟨en, sp, b2⟩, b3, b4⟩, ⟨⟨tl, sp2, c1⟩, c2, c3, c4, c5⟩, d1, d2⟩ := id hI
  obtain ⟨⟨mR, mL, mT⟩, ⟨mE, mM, mP⟩, ⟨mb, ms, mp⟩, mRu, mKe⟩ := id hM
  obtain ⟨⟨l96, lok⟩, ⟨hK8, hT8⟩, ⟨hc, hEO, hm, hpo⟩, ⟨hb, hst, hpa⟩, hn, hk8⟩ := id hS
  refine CTH_mono (ctw_franking (ct_franking a1 t u) (fun v S' V' q => by obtain ⟨k, j, q1, q2, q3, q4, q5, q6, -⟩ := q; exact ⟨q6, _, q5.symm⟩) (fun E S' V' q => ⟨q.2.2.1, q.1⟩)) (fun v S' V1 q => ?_)
  rcases q with ⟨rfl, ⟨y, Vc, q, rfl, rfl⟩ | ⟨E, q, hE⟩⟩
  · obtain ⟨k, j, k1, j1, rfl, rfl, k4, -, k5⟩ := q
    have k6 : ∀ b, b ≠ 198 → Vc b = V b := fun b hb => by rw [← k5]; exact (a_up_row hb).trans (a_up_row hb)
    have mi := hM.hi (V' := (a_up Vc 539 0 (.long y.toInt64))) (fun b q1 q2 => (a_up_row (by omega)).trans (k6 b (by omega)))
    have m9 : ∀ x : Nat, x ≤ 1000000000 → okM (nI x) := fun x hx => ⟨nI_pos (by omega), (nI_leI (a := x) (b := 1000000000) (by omega) (by decide)).2 hx⟩
    have hx : xcF (nI k) (nI j) = 0 := if_pos ⟨m9 k k1, m9 j j1⟩
    have o0 : CI Vc L T to ent cnt mt po k j pa n rt rr pd kn kl := hI.fk (by rw [← k5]; exact (a_up_ne (Or.inr (by decide))).trans (a_up_self _ _ _ _)) (by rw [← k5]; exact a_up_self _ _ _ _) k6
    refine ⟨0, rfl, by decide, rfl, CT_mono (ct_mfranking (nI k) (nI j)) (fun v2 S2 V2 h2 => ?_) (fun _ _ _ h => h)⟩
    obtain ⟨g1, g2, ⟨y2, rfl, g3⟩, g4⟩ := h2
    rw [if_pos hx] at g4
    obtain ⟨g4, g5, g6⟩ := g4
    have ey : y2 = y := by rw [g3 hx, nI_clamp (n := k) (by omega), nI_clamp (n := j) (by omega)]; exact Value.int.inj (Option.some.inj k4)
    exact ⟨y2, rfl, g1, by rw [g2, hx], fun _ => (a_up_self _ _ _ _).trans (by rw [ey]), g6.1 539 (by decide), _, _, _, _, _, _, _, _, _, _, _, _, _, _, _, _, o0.low (fun b hb => (g6.1 b (by omega)).trans (a_up_row (by omega))), mi.fk g4 g5 g6, hS.1, hS.2.1, hS.2.2.1, ⟨k1, j1, hpa⟩, hS.2.2.2.2⟩
  · obtain ⟨rfl, hX, -, eV⟩ := q
    rcases hE with ⟨eE, -⟩ | ⟨-, rfl⟩ | ⟨eE, -⟩ <;> first | (exact absurd eE (by decide)) | skip
    have o1 : CI V1 L T to ent cnt mt po b0 st pa n rt rr pd kn kl := eV ▸ hI
    have mi : MI V1 L T to ent cnt mt po b0 st pa n rt rr pd kn kl := eV ▸ hM
    have hx : xcF t u = 1 := if_neg hX
    refine ⟨1, rfl, by decide, rfl, CT_mono (ct_mfranking t u) (fun v2 S2 V2 h2 => ?_) (fun _ _ _ h => h)⟩
    obtain ⟨g1, g2, ⟨y2, rfl, g3⟩, g4⟩ := h2
    rw [if_neg (by rw [hx]; decide)] at g4
    exact ⟨y2, rfl, g1, by rw [g2, hx], fun z => absurd z (by decide), g4.1 539 (by decide), LInv.same o1 mi hS g4.s0⟩
theorem RN.cg {V V' : aV} {q cnt : Nat} (h : RN V q cnt) (e0 : V' q 0 = V q 0) (e1 : V' q 1 = V q 1) (e2 : V' (q + 1) = V (q + 1)) : RN V' q cnt := ⟨h.1, h.2.1, e0.trans h.2.2.1, fun j hj => (congrFun e2 j).trans (h.2.2.2.1 j hj), e1.trans h.2.2.2.2.1, h.2.2.2.2.2⟩
theorem lt8 (t : Int32) : t < 8 ↔ t ≤ 7 := by
  rw [Int32.lt_iff_toInt_lt, Int32.le_iff_toInt_le]
  show t.toInt < 8 ↔ t.toInt ≤ 7
  omega
theorem tR8 {t : Int32} (h : ¬ t < 0 ∧ t < 8) : ∃ i, i < 8 ∧ t = nI i := by
  obtain ⟨i, hi, rfl⟩ := nI_of h.1
  exact ⟨i, (nI_ltI (b := 8) hi (by decide)).1 h.2, rfl⟩
section LIR
variable {V V' : aV} {L : List Int32} {T : Nat → List Int32} {to : Nat → Bool} {ent : Nat → EntN} {cnt : Nat} {mt po : Nat → Nat} {b0 st pa n : Nat} {rt rr : Nat → Nat} {pd : Nat → Bool} {kn : Nat → Nat} {kl : Nat → Nat → KL}
theorem CI.rn {a c : Nat} (h : CI V L T to ent cnt mt po b0 st pa n rt rr pd kn kl) (hn : n < 8) (ha : a < 8) (hc : c < 8) : CI (a_up (a_up (a_up V (200 + 38 * n) 2 (.int (nI a))) (200 + 38 * n) 3 (.int (nI c))) 0 6 (.int (nI (n + 1)))) L T to ent cnt mt po b0 st pa (n + 1) (upN rt n a) (upN rr n c) pd kn kl := by
  have lo : ∀ b, 0 < b → b ≠ 200 + 38 * n → a_up (a_up (a_up V (200 + 38 * n) 2 (.int (nI a))) (200 + 38 * n) 3 (.int (nI c))) 0 6 (.int (nI (n + 1))) b = V b := fun b q1 q2 => (a_up_row (by omega)).trans ((a_up_row q2).trans (a_up_row q2))
  have fi : ∀ k, k ≠ 2 → k ≠ 3 → a_up (a_up (a_up V (200 + 38 * n) 2 (.int (nI a))) (200 + 38 * n) 3 (.int (nI c))) 0 6 (.int (nI (n + 1))) (200 + 38 * n) k = V (200 + 38 * n) k := fun k q1 q2 => (a_up_ne (Or.inl (by omega))).trans ((a_up_ne (Or.inr q2)).trans (a_up_ne (Or.inr q1)))
  have zr : ∀ k, k ≠ 6 → a_up (a_up (a_up V (200 + 38 * n) 2 (.int (nI a))) (200 + 38 * n) 3 (.int (nI c))) 0 6 (.int (nI (n + 1))) 0 k = V 0 k := fun k q => (a_up_ne (Or.inr q)).trans ((a_up_ne (Or.inl (by omega))).trans (a_up_ne (Or.inl (by omega))))
  have d1 := h.2.2.2.1
  have d2 := h.2.2.2.2
  refine h.runs (fun b q1 q2 => lo b q1 (by omega)) (fun k hk => zr k (by omega)) (a_up_self _ _ _ _) ((zr 7 (by decide)).trans h.1.2.2.2.2.2.2) (fun i hi => ?_) (fun i hi j hj => ?_)
  · obtain ⟨r1, r2, r3, r4, r5, r6, r7⟩ := d1 i hi
    show _ ∧ _ ∧ _ ∧ _ = Value.int (nI (if i = n then a else rt i)) ∧ _ = Value.int (nI (if i = n then c else rr i)) ∧ (if i = n then a else rt i) < 8 ∧ (if i = n then c else rr i) < 8
    refine ⟨(congrFun (lo 199 (by decide) (by omega)) i).trans r1, ?_, ?_, ?_, ?_, ?_, ?_⟩
    · by_cases q : i = n
      · subst q; exact r2.cg (fi 0 (by decide) (by decide)) (fi 1 (by decide) (by decide)) (lo _ (by omega) (by omega))
      · exact r2.fr (lo _ (by omega) (by omega)) (lo _ (by omega) (by omega))
    · by_cases q : i = n
      · subst q; exact (fi 4 (by decide) (by decide)).trans r3
      · exact (congrFun (lo _ (by omega) (by omega)) 4).trans r3
    · by_cases q : i = n
      · subst q; rw [if_pos rfl]; exact (a_up_ne (Or.inl (by omega))).trans ((a_up_ne (Or.inr (by decide))).trans (a_up_self _ _ _ _))
      · rw [if_neg q]; exact (congrFun (lo _ (by omega) (by omega)) 2).trans r4
    · by_cases q : i = n
      · subst q; rw [if_pos rfl]; exact (a_up_ne (Or.inl (by omega))).trans (a_up_self _ _ _ _)
      · rw [if_neg q]; exact (congrFun (lo _ (by omega) (by omega)) 3).trans r5
    · split
      · exact ha
      · exact r6
    · split
      · exact hc
      · exact r7
  · obtain ⟨⟨x, m, tr, wt, co, q1⟩, q2⟩ := d2 i hi j hj
    have e : ∀ b, 200 + 38 * i + 2 + 3 * j ≤ b → b ≤ 200 + 38 * i + 4 + 3 * j → a_up (a_up (a_up V (200 + 38 * n) 2 (.int (nI a))) (200 + 38 * n) 3 (.int (nI c))) 0 6 (.int (nI (n + 1))) b = V b := fun b z1 z2 => lo b (by omega) (by rcases Nat.lt_or_ge i n with y | y <;> omega)
    exact ⟨⟨x, m, tr, wt, co, q1.fr (fun b z1 z2 => e b z1 (by omega))⟩, fun z => (q2 z).fr (fun b z1 z2 => e b z1 (by omega))⟩
theorem MI.rn {a c : Nat} (h : MI V L T to ent cnt mt po b0 st pa n rt rr pd kn kl) (hn : n < 8) (h0 : V' 504 22 = .int (nI (n + 1))) (h1 : V' 521 n = .int (nI a)) (h2 : V' 522 n = .int (nI c)) (h3 : ∀ j, j ≠ n → V' 521 j = V 521 j ∧ V' 522 j = V 522 j) (e : ∀ b, b ≠ 504 → b ≠ 521 → b ≠ 522 → V' b = V b) (e5 : ∀ k, k ≠ 0 → k ≠ 22 → V' 504 k = V 504 k) : MI V' L T to ent cnt mt po b0 st pa (n + 1) (upN rt n a) (upN rr n c) pd kn kl := by
  obtain ⟨⟨a1, a2, a3⟩, ⟨b1, b2, b3⟩, ⟨c1, c2, c3⟩, d1, d2⟩ := h
  have g := fun b (q : b ≠ 504) (q1 : b < 521 ∨ 522 < b) => e b q (by omega) (by omega)
  refine ⟨⟨a1.fr (fun k hk => e5 k (fun z => hk (by rw [z]; decide)) (fun z => hk (by rw [z]; decide))), a2.fr (e5 2 (by decide) (by decide)) (g 505 (by decide) (by decide)), a3.fr (g 506 (by decide) (by decide)) (g 507 (by decide) (by decide))⟩, ⟨b1.fr (e5 5 (by decide) (by decide)) (fun b q1 q2 => g b (by omega) (by omega)), b2.fr (g 519 (by decide) (by decide)), b3.fr (g 520 (by decide) (by decide))⟩, ⟨(e5 19 (by decide) (by decide)).trans c1, (e5 20 (by decide) (by decide)).trans c2, (e5 21 (by decide) (by decide)).trans c3⟩, ⟨h0, fun i hi => ?_⟩, d2.fr (fun b q1 q2 => g b (by omega) (by omega))⟩
  obtain ⟨r1, r2, r3, r4⟩ := d1.2 i hi
  show _ = Value.int (nI (if i = n then a else rt i)) ∧ _ = Value.int (nI (if i = n then c else rr i)) ∧ _ ∧ _
  refine ⟨?_, ?_, (congrFun (g 523 (by decide) (by decide)) i).trans r3, (congrFun (g 524 (by decide) (by decide)) i).trans r4⟩
  · by_cases q : i = n
    · subst q; rw [if_pos rfl]; exact h1
    · rw [if_neg q]; exact (h3 i q).1.trans r1
  · by_cases q : i = n
    · subst q; rw [if_pos rfl]; exact h2
    · rw [if_neg q]; exact (h3 i q).2.trans r2
end LIR
set_option maxHeartbeats 1000000 in
theorem op_run {V : aV} (h : LInv V) (t : Int32) (u : Int32) : CTH mL_run hL_run 8 2 12 [.ref 0, .int t, .int u, .ref 539] Sh V (fun v S' V1 => ∃ k, v = some (.int (nI k)) ∧ k ≤ 3 ∧ Sh = S' ∧ CT mX12_run 1 0 0 [.ref 504, .int t, .int u] Sh V1 (OpM k V1 Int32.toInt64) aNo) := by
  obtain ⟨L, T, to, ent, cnt, mt, po, b0, st, pa, n, rt, rr, pd, kn, kl, hI, hM, hS⟩ := h
  obtain ⟨⟨a1, a2, a3, a4, a5, a6, a7⟩, ⟨b1, ⟨en, sp, b2⟩, b3, b4⟩, ⟨⟨tl, sp2, c1⟩, c2, c3, c4, c5⟩, d1, d2⟩ := id hI
  obtain ⟨⟨mR, mL, mT⟩, ⟨mE, mM, mP⟩, ⟨mb, ms, mp⟩, mRu, mKe⟩ := id hM
  obtain ⟨⟨l96, lok⟩, ⟨hK8, hT8⟩, ⟨hc, hEO, hm, hpo⟩, ⟨hb, hst, hpa⟩, hn, hk8⟩ := id hS
  refine CTH_mono (ctw_run (ct_run a1 a6 hn d1 t u) (fun v S' V' q => by obtain ⟨k, j, q1, q2, q3, q4, q5, q6, q7, -⟩ := q; exact ⟨q7, _, q6.symm⟩) (fun E S' V' q => ⟨q.1, q.2.2.elim (fun z => Or.inl z.1) (fun z => Or.inr (z.2.imp (fun y => y.1) (fun y => y.1)))⟩)) (fun v S' V1 q => ?_)
  rcases q with ⟨rfl, ⟨y, Vc, q, rfl, rfl⟩ | ⟨E, q, hE⟩⟩
  · obtain ⟨k, j, k1, j1, n8, rfl, rfl, k4, -, k5⟩ := q
    have o0 : CI Vc L T to ent cnt mt po b0 st pa (n + 1) (upN rt n k) (upN rr n j) pd kn kl := k5 ▸ hI.rn n8 k1 j1
    have hV : FrX V Vc := fun b hb => by rw [← k5]; exact (a_up_row (by omega)).trans ((a_up_row (by omega)).trans (a_up_row (by omega)))
    have mi := hM.hi (V' := (a_up Vc 539 0 (.long y.toInt64))) (fun b q1 q2 => (a_up_row (by omega)).trans (hV b (by omega)))
    have o8 : ∀ x : Nat, x < 8 → ¬ nI x < 0 ∧ nI x ≤ 7 := fun x hx => ⟨nI_pos (by omega), (nI_leI (a := x) (b := 7) (by omega) (by decide)).2 (by omega)⟩
    have hx : xcRn n (nI k) (nI j) = 0 := (if_neg (not_not_intro (o8 k k1))).trans ((if_neg (not_not_intro (o8 j j1))).trans (if_neg (by omega)))
    refine ⟨0, rfl, by decide, rfl, CT_mono (ct_mrun mi.1.1 mi.2.2.2.1.1 hn (nI k) (nI j)) (fun v2 S2 V2 h2 => ?_) (fun _ _ _ h => h)⟩
    obtain ⟨g1, g2, ⟨y2, rfl, g3⟩, g4⟩ := h2
    rw [if_pos hx] at g4
    obtain ⟨g4, g5, g6, g7, g8, g9⟩ := g4
    have ey : y2 = y := by rw [g3 hx]; exact Value.int.inj (Option.some.inj k4)
    refine ⟨y2, rfl, g1, by rw [g2, hx], fun _ => (a_up_self _ _ _ _).trans (by rw [ey]), g8 539 (by decide) (by decide) (by decide), _, _, _, _, _, _, _, _, _, _, _, _, _, _, _, _, o0.low (fun b hb => (g8 b (by omega) (by omega) (by omega)).trans (a_up_row (by omega))), mi.rn n8 g4 g5 g6 g7 g8 g9, hS.1, hS.2.1, hS.2.2.1, hS.2.2.2.1, n8, fun i hi => ?_⟩
    obtain ⟨r1, r2, r3, r4, r5, r6⟩ := hk8 i hi
    refine ⟨?_, ?_, r3, r4, fun z => r5 (by omega), r6⟩
    · show (if i = n then k else rt i) < 8
      split
      · exact k1
      · exact r1
    · show (if i = n then j else rr i) < 8
      split
      · exact j1
      · exact r2
  · obtain ⟨-, eV, hX⟩ := q
    have o1 : CI V1 L T to ent cnt mt po b0 st pa n rt rr pd kn kl := eV ▸ hI
    have mi : MI V1 L T to ent cnt mt po b0 st pa n rt rr pd kn kl := eV ▸ hM
    have fin : ∀ k : Nat, k ≠ 0 → xcRn n t u = k → CT mX12_run 1 0 0 [.ref 504, .int t, .int u] Sh V1 (OpM k V1 Int32.toInt64) aNo := fun k hk hx => by
      refine CT_mono (ct_mrun mi.1.1 mi.2.2.2.1.1 hn t u) (fun v2 S2 V2 h2 => ?_) (fun _ _ _ h => h)
      obtain ⟨g1, g2, ⟨y2, rfl, g3⟩, g4⟩ := h2
      rw [if_neg (fun z => hk (by rw [← hx, z]))] at g4
      exact ⟨y2, rfl, g1, by rw [g2, hx], fun z => absurd z hk, g4.1 539 (by decide), LInv.same o1 mi hS g4.s0⟩
    rw [lt8, lt8] at hX
    rcases hX with ⟨rfl, hX⟩ | ⟨h1, ⟨rfl, hX⟩ | ⟨rfl, h2, h8⟩⟩
    · rcases hE with ⟨-, rfl⟩ | ⟨eE, -⟩ | ⟨eE, -⟩ <;> first | (exact absurd eE (by decide)) | skip
      exact ⟨1, rfl, by decide, rfl, fin 1 (by decide) (if_pos hX)⟩
    · rcases hE with ⟨eE, -⟩ | ⟨-, rfl⟩ | ⟨eE, -⟩ <;> first | (exact absurd eE (by decide)) | skip
      exact ⟨2, rfl, by decide, rfl, fin 2 (by decide) ((if_neg (not_not_intro h1)).trans (if_pos hX))⟩
    · rcases hE with ⟨eE, -⟩ | ⟨eE, -⟩ | ⟨-, rfl⟩ <;> first | (exact absurd eE (by decide)) | skip
      exact ⟨3, rfl, by decide, rfl, fin 3 (by decide) ((if_neg (not_not_intro h1)).trans ((if_neg (not_not_intro h2)).trans (if_pos (by omega))))⟩
theorem nP_lt8 {po : Nat → Nat} {g r j : Nat} (h : ∀ i, i < 12 → po i < 2 ^ 8) (hr : r < 8) : ∀ i, i < 12 → nP po g r j i < 2 ^ 8 := fun i hi => by
  unfold nP
  split
  · exact Nat.or_lt_two_pow (h i hi) (Nat.pow_lt_pow_right (by decide) hr)
  · exact h i hi
theorem poF_lt8 {r : Nat} (hr : r < 8) : ∀ (K : List KL) (po : Nat → Nat), (∀ i, i < 12 → po i < 2 ^ 8) → ∀ i, i < 12 → poF r K po i < 2 ^ 8
  | [], po, h => h
  | x :: K, po, h => poF_lt8 hr K (nP po x.2.1 r 12) (nP_lt8 h hr)
set_option maxHeartbeats 1000000 in
theorem op_post {V : aV} (h : LInv V) (t : Int32) : CTH mL_post hL_post 9 2 12 [.ref 0, .int t, .ref 539] Sh V (fun v S' V1 => ∃ k, v = some (.int (nI k)) ∧ k ≤ 3 ∧ Sh = S' ∧ CT mX12_post 6 0 0 [.ref 504, .int t] Sh V1 (OpM k V1 Int32.toInt64) aNo) := by
  obtain ⟨L, T, to, ent, cnt, mt, po, b0, st, pa, n, rt, rr, pd, kn, kl, hI, hM, hS⟩ := h
  obtain ⟨⟨a1, a2, a3, a4, a5, a6, a7⟩, ⟨b1, ⟨en, sp, b2⟩, b3, b4⟩, ⟨⟨tl, sp2, c1⟩, c2, c3, c4, c5⟩, d1, d2⟩ := id hI
  obtain ⟨⟨mR, mL, mT⟩, ⟨mE, mM, mP⟩, ⟨mb, ms, mp⟩, mRu, mKe⟩ := id hM
  obtain ⟨⟨l96, lok⟩, ⟨hK8, hT8⟩, ⟨hc, hEO, hm, hpo⟩, ⟨hb, hst, hpa⟩, hn, hk8⟩ := id hS
  refine CTH_mono (ctw_post (ct_post hI hS t) (fun v S' V' q => by obtain ⟨i, q1, q2, q3, q4, q5, q6, -⟩ := q; exact ⟨q6, _, q5.symm⟩) (fun E S' V' q => ⟨q.1, q.2.2.imp (fun z => z.1) (fun z => z.1)⟩)) (fun v S' V1 q => ?_)
  rcases q with ⟨rfl, ⟨y, Vc, q, rfl, rfl⟩ | ⟨E, q, hE⟩⟩
  · obtain ⟨i, i9, i8, rfl, k3, k4, -, o0, hV⟩ := q
    have mi := hM.hi (V' := (a_up Vc 539 0 (.long y.toInt64))) (fun b q1 q2 => (a_up_row (by omega)).trans (hV b (by omega)))
    refine ⟨0, rfl, by decide, rfl, CT_mono (ct_mpost mi hS (nI i)) (fun v2 S2 V2 h2 => ?_) (fun _ _ _ h => h)⟩
    obtain ⟨g1, g2, y2, rfl, g3⟩ := h2
    rcases g3 with ⟨-, z, -⟩ | ⟨-, ⟨i', q1, q2, q3, q4⟩, -⟩ | ⟨z, i', q1, q2, q3, q4, q5, q6⟩
    · exact absurd ((okN_8 hn).2 ⟨nI_pos (by omega), nI_lt i9 (by omega)⟩) z
    · have ei : i = i' := (nI_eq (by omega) (by omega)).1 q3
      subst ei
      rw [k3] at q4; cases q4
    · have ei : i = i' := (nI_eq (by omega) (by omega)).1 q3
      subst ei
      have ey : y2 = y := by rw [q5]; exact Value.int.inj (Option.some.inj k4)
      have dl12 := dLst_len (mt := mt) (po := po) (r := rr i) cnt
      have kl12 : (kpt (fun g => ltr T to ent b0 st (rt i) g) (dLst mt po (rr i) cnt)).length ≤ 12 := Nat.le_trans kpt_len (by omega)
      refine ⟨y2, rfl, g1, z, fun _ => (a_up_self _ _ _ _).trans (by rw [ey]), g2 539 (Or.inr (by decide)), _, _, _, _, _, _, _, _, _, _, _, _, _, _, _, _, o0.low (fun b hb => (g2 b (Or.inl hb)).trans (a_up_row (by omega))), q6, hS.1, hS.2.1, ⟨hc, hEO, hm, poF_lt8 (hk8 i i8).2.1 _ po hpo⟩, ⟨hb, hst, paF_lt _ pa hpa⟩, hn, fun a ha => ?_⟩
      obtain ⟨r1, r2, r3, r4, r5, r6⟩ := hk8 a ha
      refine ⟨r1, r2, ?_, fun z => ?_, fun z => ?_, fun j hj => ?_⟩
      · show (if a = i then (kpt (fun g => ltr T to ent b0 st (rt i) g) (dLst mt po (rr i) cnt)).length else kn a) ≤ 12
        split
        · exact kl12
        · exact r3
      · show (if a = i then (kpt (fun g => ltr T to ent b0 st (rt i) g) (dLst mt po (rr i) cnt)).length else kn a) = 0
        have z2 : (if a = i then true else pd a) = false := z
        by_cases w : a = i
        · rw [if_pos w] at z2; cases z2
        · rw [if_neg w] at z2 ⊢; exact r4 z2
      · show (if a = i then true else pd a) = false
        rw [if_neg (by omega)]; exact r5 z
      · have hj2 : j < (if a = i then (kpt (fun g => ltr T to ent b0 st (rt i) g) (dLst mt po (rr i) cnt)).length else kn a) := hj
        show KO (if a = i then (kpt (fun g => ltr T to ent b0 st (rt i) g) (dLst mt po (rr i) cnt)).getD j ([], 0, 0, 0) else kl a j)
        by_cases w : a = i
        · rw [if_pos w] at hj2 ⊢
          have hm9 := kpt_mem (gd_mem (d := (([], 0, 0, 0) : KL)) hj2)
          obtain ⟨ai, hai, eg⟩ := dLst_mem cnt hm9.1
          exact ltr_ok (fun k => (hT8 k).2) hEO (by rw [eg]; exact gOf_mbr hm.1 (by omega)) hm9.2
        · rw [if_neg w] at hj2 ⊢; exact r6 j hj2
  · obtain ⟨-, eV, hX⟩ := q
    have o1 : CI V1 L T to ent cnt mt po b0 st pa n rt rr pd kn kl := eV ▸ hI
    have mi : MI V1 L T to ent cnt mt po b0 st pa n rt rr pd kn kl := eV ▸ hM
    rcases hX with ⟨rfl, hX⟩ | ⟨rfl, i, q1, q2, q3, q4⟩
    · rcases hE with ⟨-, rfl⟩ | ⟨eE, -⟩ | ⟨eE, -⟩ <;> first | (exact absurd eE (by decide)) | skip
      refine ⟨1, rfl, by decide, rfl, CT_mono (ct_mpost mi hS t) (fun v2 S2 V2 h2 => ?_) (fun _ _ _ h => h)⟩
      obtain ⟨g1, g2, y2, rfl, g3⟩ := h2
      rcases g3 with ⟨z, -, f⟩ | ⟨-, ⟨i', p1, p2, p3, p4⟩, -⟩ | ⟨-, i', p1, p2, p3, -⟩
      · exact ⟨y2, rfl, g1, z, fun z => absurd z (by decide), f.1 539 (by decide) (by decide), LInv.same o1 mi hS f⟩
      · exact absurd (by rw [p3]; exact (okN_8 hn).2 ⟨nI_pos (by omega), nI_lt p1 (by omega)⟩) hX
      · exact absurd (by rw [p3]; exact (okN_8 hn).2 ⟨nI_pos (by omega), nI_lt p1 (by omega)⟩) hX
    · rcases hE with ⟨eE, -⟩ | ⟨eE, -⟩ | ⟨-, rfl⟩ <;> first | (exact absurd eE (by decide)) | skip
      refine ⟨2, rfl, by decide, rfl, CT_mono (ct_mpost mi hS t) (fun v2 S2 V2 h2 => ?_) (fun _ _ _ h => h)⟩
      obtain ⟨g1, g2, y2, rfl, g3⟩ := h2
      rcases g3 with ⟨-, z, -⟩ | ⟨z, -, f⟩ | ⟨-, i', p1, p2, p3, p4, -⟩
      · exact absurd (by rw [q3]; exact (okN_8 hn).2 ⟨nI_pos (by omega), nI_lt q1 (by omega)⟩) z
      · exact ⟨y2, rfl, g1, z, fun z => absurd z (by decide), f.1 539 (by decide) (by decide), LInv.same o1 mi hS f⟩
      · have ei : i = i' := (nI_eq (by omega) (by omega)).1 (q3.symm.trans p3)
        subst ei
        rw [q4] at p4; cases p4
