/-! ===== type, template, address ===== -/
section LIT
variable {V V' : aV} {L : List Int32} {T : Nat → List Int32} {to : Nat → Bool} {ent : Nat → EntN} {cnt : Nat} {mt po : Nat → Nat} {b0 st pa n : Nat} {rt rr : Nat → Nat} {pd : Nat → Bool} {kn : Nat → Nat} {kl : Nat → Nat → KL}
theorem CI.ln {L' : List Int32} (h : CI V L T to ent cnt mt po b0 st pa n rt rr pd kn kl) (hl : LI V' L') (e : ∀ b, b ≠ 1 → b ≠ 2 → b ≠ 3 → V' b = V b) : CI V' L' T to ent cnt mt po b0 st pa n rt rr pd kn kl := by
  obtain ⟨⟨a1, a2, a3, a4, a5, a6, a7⟩, ⟨b1, ⟨en, sp, b2⟩, b3, b4⟩, ⟨⟨tl, sp2, c1⟩, c2, c3, ⟨w, vl, c4⟩, s, c5⟩, d1, d2⟩ := h
  have f := fun b (q : 4 ≤ b) => e b (by omega) (by omega) (by omega)
  have e0 := e 0 (by decide) (by decide) (by decide)
  have e4 := f 4 (by decide)
  have e28 := f 28 (by decide)
  exact ⟨⟨a1.fr e0, hl, (congrFun (f 196 (by decide)) 0).trans a3, (congrFun (f 198 (by decide)) 0).trans a4, (congrFun (f 198 (by decide)) 1).trans a5, (congrFun e0 6).trans a6, (congrFun e0 7).trans a7⟩,
    ⟨b1.fr (f 74 (by decide)), ⟨en, sp, b2.frg (fun b q1 q2 _ _ _ => f b (by omega))⟩, b3.fr (f 85 (by decide)), b4.fr (f 86 (by decide))⟩,
    ⟨⟨tl, sp2, c1.frg ⟨congrFun e4 0, congrFun e4 1⟩ (fun b q1 q2 q3 => f b (by omega))⟩, c2.frg (fun k _ => congrFun e4 k) (congrFun e28 0) (fun b q => f b (by omega)), c3.frg (fun b q1 q2 q3 => f b (by omega)), ⟨w, vl, c4.frg (fun b q => f b (by omega))⟩, s, c5.frg ⟨congrFun e4 7, congrFun e4 8⟩ (congrFun e28 2) (fun b q1 q2 => f b (by omega))⟩,
    d1.fr (fun b q1 q2 => f b (by omega)), d2.fr (fun b q1 q2 => f b (by omega))⟩
theorem MI.ln {L' : List Int32} (h : MI V L T to ent cnt mt po b0 st pa n rt rr pd kn kl) (hl : ML V' L') (e : ∀ b, b ≠ 504 → b ≠ 505 → V' b = V b) (e5 : ∀ k, k ≠ 0 → k ≠ 2 → V' 504 k = V 504 k) : MI V' L' T to ent cnt mt po b0 st pa n rt rr pd kn kl := by
  obtain ⟨⟨a1, a2, a3⟩, ⟨b1, b2, b3⟩, ⟨c1, c2, c3⟩, d1, d2⟩ := h
  exact ⟨⟨a1.fr (fun k hk => e5 k (fun z => hk (by rw [z]; decide)) (fun z => hk (by rw [z]; decide))), hl, a3.fr (e 506 (by decide) (by decide)) (e 507 (by decide) (by decide))⟩, ⟨b1.fr (e5 5 (by decide) (by decide)) (fun b q1 q2 => e b (by omega) (by omega)), b2.fr (e 519 (by decide) (by decide)), b3.fr (e 520 (by decide) (by decide))⟩, ⟨(e5 19 (by decide) (by decide)).trans c1, (e5 20 (by decide) (by decide)).trans c2, (e5 21 (by decide) (by decide)).trans c3⟩, d1.fr (e5 22 (by decide) (by decide)) (fun b q1 q2 => e b (by omega) (by omega)), d2.fr (fun b q1 q2 => e b (by omega) (by omega))⟩
theorem SOK.ln {L' : List Int32} (h : SOK L T to ent cnt mt po b0 st pa n rt rr pd kn kl) (hl : L'.length ≤ 96 ∧ ∀ c ∈ L', okC c) : SOK L' T to ent cnt mt po b0 st pa n rt rr pd kn kl := ⟨hl, h.2⟩
end LIT
theorem a_low {V : aV} {k : Nat} {v : Value} {b : Nat} (h : b < 504) : a_up V 539 k v b = V b := a_up_row (by omega)
theorem LI.hi {V V' : aV} {L : List Int32} (h : LI V L) (e : ∀ b, b < 504 → V' b = V b) : LI V' L := h.fr (fun b q1 q2 => e b (by omega))
set_option maxHeartbeats 1000000 in
theorem op_type {V : aV} (h : LInv V) (x : Int64) : CTH mL_type hL_type 7 1 6 [.ref 0, .long x, .ref 539] Sh V (fun v S' V1 => ∃ k, v = some (.int (nI k)) ∧ k ≤ 3 ∧ Sh = S' ∧ CT mX12_type 1 0 0 [.ref 504, .long x] Sh V1 (OpM k V1 Int32.toInt64) aNo) := by
  obtain ⟨L, T, to, ent, cnt, mt, po, b0, st, pa, n, rt, rr, pd, kn, kl, hI, hM, hS⟩ := h
  obtain ⟨⟨a1, a2, a3, a4, a5, a6, a7⟩, ⟨b1, ⟨en, sp, b2⟩, b3, b4⟩, ⟨⟨tl, sp2, c1⟩, c2, c3, c4, c5⟩, d1, d2⟩ := id hI
  obtain ⟨⟨mR, mL, mT⟩, ⟨mE, mM, mP⟩, ⟨mb, ms, mp⟩, mRu, mKe⟩ := id hM
  obtain ⟨⟨l96, lok⟩, ⟨hK8, hT8⟩, ⟨hc, hEO, hm, hpo⟩, ⟨hb, hst, hpa⟩, hn, hk8⟩ := id hS
  refine CTH_mono (ctw_type (ct_type a1 a2 x) (fun v S' V' q => by obtain ⟨c, q1, q2, q3, q4, q5, -⟩ := q; exact ⟨q5, _, q4.symm⟩) (fun E S' V' q => ⟨q.1, q.2.2.imp (fun z => z.1) (fun z => z.1)⟩)) (fun v S' V1 q => ?_)
  rcases q with ⟨rfl, ⟨y, Vc, q, rfl, rfl⟩ | ⟨E, q, hE⟩⟩
  · obtain ⟨c, k1, k2, k3, k4, -, k5, k6⟩ := q
    have ec : cN x = c := by unfold cN; rw [k2, nI_clamp (by omega)]
    have hx : xcTy L x = 0 := (if_neg (by rw [k2]; exact m1_ne (by omega))).trans (if_neg (by rw [ec]; omega))
    have hV : FrX V Vc := fun b hb => k6 b (by omega) (by omega)
    have hl : LI Vc (L ++ tySg x c) := ⟨(congrFun (k6 1 (by decide) (by decide)) 0).trans a2.1, k5⟩
    have o0 : CI Vc (L ++ tySg x c) T to ent cnt mt po b0 st pa n rt rr pd kn kl := hI.ln hl (fun b _ q1 q2 => k6 b (by omega) (by omega))
    have o1 : CI (a_up Vc 539 0 (.long y.toInt64)) (L ++ tySg x c) T to ent cnt mt po b0 st pa n rt rr pd kn kl := o0.low (fun b hb => a_low hb)
    have mi := hM.hi (V' := (a_up Vc 539 0 (.long y.toInt64))) (fun b q1 q2 => (a_up_row (by omega)).trans (hV b q1))
    refine ⟨0, rfl, by decide, rfl, CT_mono (ct_mtype mi.1.1 mi.1.2.1 x) (fun v2 S2 V2 h2 => ?_) (fun _ _ _ h => h)⟩
    obtain ⟨g1, g2, ⟨y2, rfl, g3⟩, g4, g5, g6⟩ := h2
    rw [if_pos hx, ec] at g4
    have ey : y2 = y := by rw [g3 hx, ec]; exact Value.int.inj (Option.some.inj k4)
    exact ⟨y2, rfl, g1, by rw [g2, hx], fun _ => (a_up_self _ _ _ _).trans (by rw [ey]), g5 539 (by decide) (by decide), _, _, _, _, _, _, _, _, _, _, _, _, _, _, _, _, o1.low (fun b hb => g5 b (by omega) (by omega)), mi.ln g4 g5 g6, hS.ln ⟨g4.2.2.1, g4.2.2.2⟩⟩
  · obtain ⟨-, eV, hX⟩ := q
    have o1 : CI V1 L T to ent cnt mt po b0 st pa n rt rr pd kn kl := eV ▸ hI
    have mi : MI V1 L T to ent cnt mt po b0 st pa n rt rr pd kn kl := eV ▸ hM
    have fin : ∀ k : Nat, k ≠ 0 → xcTy L x = k → CT mX12_type 1 0 0 [.ref 504, .long x] Sh V1 (OpM k V1 Int32.toInt64) aNo := fun k hk hx => by
      refine CT_mono (ct_mtype mi.1.1 mi.1.2.1 x) (fun v2 S2 V2 h2 => ?_) (fun _ _ _ h => h)
      obtain ⟨g1, g2, ⟨y2, rfl, g3⟩, g4, g5, g6⟩ := h2
      rw [if_neg (fun z => hk (by rw [← hx, z]))] at g4
      exact ⟨y2, rfl, g1, by rw [g2, hx], fun z => absurd z hk, g5 539 (by decide) (by decide), _, _, _, _, _, _, _, _, _, _, _, _, _, _, _, _, o1.low (fun b hb => g5 b (by omega) (by omega)), mi.ln g4 g5 g6, hS⟩
    rcases hX with ⟨rfl, hX⟩ | ⟨rfl, c, k1, k2, k3⟩
    · rcases hE with ⟨eE, -⟩ | ⟨-, rfl⟩ | ⟨eE, -⟩ <;> first | (exact absurd eE (by decide)) | skip
      exact ⟨1, rfl, by decide, rfl, fin 1 (by decide) (if_pos hX)⟩
    · rcases hE with ⟨eE, -⟩ | ⟨eE, -⟩ | ⟨-, rfl⟩ <;> first | (exact absurd eE (by decide)) | skip
      have ec : cN x = c := by unfold cN; rw [k2, nI_clamp (by omega)]
      exact ⟨2, rfl, by decide, rfl, fin 2 (by decide) ((if_neg (by rw [k2]; exact m1_ne (by omega))).trans (if_pos (by rw [ec]; omega)))⟩
section LTE
variable {V V' : aV} {L : List Int32} {T : Nat → List Int32} {to : Nat → Bool} {ent : Nat → EntN} {cnt : Nat} {mt po : Nat → Nat} {b0 st pa n : Nat} {rt rr : Nat → Nat} {pd : Nat → Bool} {kn : Nat → Nat} {kl : Nat → Nat → KL}
theorem CI.te {tl : Nat → Nat} {sp : Nat} {T' : Nat → List Int32} {to' : Nat → Bool} (h : CI V L T to ent cnt mt po b0 st pa n rt rr pd kn kl) (hl : LI V' []) (f : TF2 V V') (hP : PB V' tl sp T' to' (jpO T' to')) : CI V' [] T' to' ent cnt mt po b0 st pa n rt rr pd kn kl := by
  obtain ⟨⟨a1, a2, a3, a4, a5, a6, a7⟩, ⟨b1, ⟨en, sp9, b2⟩, b3, b4⟩, ⟨⟨tl9, sp2, c1⟩, c2, c3, ⟨w, vl, c4⟩, s, c5⟩, d1, d2⟩ := h
  have g := fun b (q : 74 ≤ b) => f.1 b (by omega) (by omega) (by omega) (by omega) (by omega) (by omega)
  have g2 := fun b (q : 11 ≤ b) (q2 : b < 34) => f.1 b (by omega) (by omega) (by omega) (by omega) (by omega) (by omega)
  have e0 := f.1 0 (by decide) (by decide) (by decide) (by decide) (by decide) (by decide)
  have e28 := g2 28 (by decide) (by decide)
  have c2' : PC V' := by
    obtain ⟨h1, h2, h3, h4, h5, h6, h7, h8, h9, h10⟩ := c2
    exact ⟨(f.2 0 (by decide)).trans h1, (f.2 2 (by decide)).trans h2, (f.2 3 (by decide)).trans h3, (f.2 4 (by decide)).trans h4, (f.2 5 (by decide)).trans h5, (f.2 6 (by decide)).trans h6, (congrFun e28 0).trans h7, (congrFun (g2 11 (by decide) (by decide)) 0).trans h8, (congrFun (g2 11 (by decide) (by decide)) 1).trans h9, fun q hq => (congrFun (g2 12 (by decide) (by decide)) q).trans (h10 q hq)⟩
  exact ⟨⟨a1.fr e0, hl, (congrFun (g 196 (by decide)) 0).trans a3, (congrFun (g 198 (by decide)) 0).trans a4, (congrFun (g 198 (by decide)) 1).trans a5, (congrFun e0 6).trans a6, (congrFun e0 7).trans a7⟩,
    ⟨b1.fr (g 74 (by decide)), ⟨en, sp9, b2.frg (fun b q1 q2 _ _ _ => g b (by omega))⟩, b3.fr (g 85 (by decide)), b4.fr (g 86 (by decide))⟩,
    ⟨⟨tl, sp, hP⟩, c2', c3.frg (fun b q1 q2 q3 => g2 b (by omega) (by omega)), ⟨w, vl, c4.frg (fun b q => g2 b (by omega) (by omega))⟩, s, c5.frg ⟨f.2 7 (by decide), f.2 8 (by decide)⟩ (congrFun e28 2) (fun b q1 q2 => g2 b (by omega) (by omega))⟩,
    d1.fr (fun b q1 q2 => g b (by omega)), d2.fr (fun b q1 q2 => g b (by omega))⟩
theorem MI.te {L' : List Int32} {T' : Nat → List Int32} {to' : Nat → Bool} (h : MI V L T to ent cnt mt po b0 st pa n rt rr pd kn kl) (hl : ML V' L') (hT : MT V' T' to') (e : ∀ b, b ≠ 504 → b ≠ 506 → b ≠ 507 → V' b = V b) (e5 : ∀ k, k ≠ 0 → k ≠ 2 → V' 504 k = V 504 k) : MI V' L' T' to' ent cnt mt po b0 st pa n rt rr pd kn kl := by
  obtain ⟨⟨a1, a2, a3⟩, ⟨b1, b2, b3⟩, ⟨c1, c2, c3⟩, d1, d2⟩ := h
  have g := fun b (q : 508 ≤ b) => e b (by omega) (by omega) (by omega)
  exact ⟨⟨a1.fr (fun k hk => e5 k (fun z => hk (by rw [z]; decide)) (fun z => hk (by rw [z]; decide))), hl, hT⟩, ⟨b1.fr (e5 5 (by decide) (by decide)) (fun b q1 q2 => g b (by omega)), b2.fr (g 519 (by decide)), b3.fr (g 520 (by decide))⟩, ⟨(e5 19 (by decide) (by decide)).trans c1, (e5 20 (by decide) (by decide)).trans c2, (e5 21 (by decide) (by decide)).trans c3⟩, d1.fr (e5 22 (by decide) (by decide)) (fun b q1 q2 => g b (by omega)), d2.fr (fun b q1 q2 => g b (by omega))⟩
end LTE
theorem jpO_up {T : Nat → List Int32} {to : Nat → Bool} {a : Nat} {L : List Int32} {jm : Nat → Option Nat} (e : jm = jmOf L) : upN (jpO T to) a jm = jpO (upN T a L) (upN to a true) := by
  funext n
  show (if n = a then jm else jpO T to n) = if upN to a true n = true then jmOf (upN T a L n) else fun _ => none
  by_cases q : n = a
  · subst q
    rw [show upN to n true n = true from if_pos rfl, show upN T n L n = L from if_pos rfl, if_pos rfl, if_pos rfl, e]
  · rw [if_neg q, show upN to a true n = to n from if_neg q, show upN T a L n = T n from if_neg q]
    rfl
set_option maxHeartbeats 1000000 in
theorem op_template {V : aV} (h : LInv V) (t : Int32) : CTH mL_template hL_template 10 1 6 [.ref 0, .int t, .ref 539] Sh V (fun v S' V1 => ∃ k, v = some (.int (nI k)) ∧ k ≤ 3 ∧ Sh = S' ∧ CT mX12_template 3 0 0 [.ref 504, .int t] Sh V1 (OpM k V1 Int32.toInt64) aNo) := by
  obtain ⟨L, T, to, ent, cnt, mt, po, b0, st, pa, n, rt, rr, pd, kn, kl, hI, hM, hS⟩ := h
  obtain ⟨⟨a1, a2, a3, a4, a5, a6, a7⟩, ⟨b1, ⟨en, sp, b2⟩, b3, b4⟩, ⟨⟨tl, sp2, c1⟩, c2, c3, c4, c5⟩, d1, d2⟩ := id hI
  obtain ⟨⟨mR, mL, mT⟩, ⟨mE, mM, mP⟩, ⟨mb, ms, mp⟩, mRu, mKe⟩ := id hM
  obtain ⟨⟨l96, lok⟩, ⟨hK8, hT8⟩, ⟨hc, hEO, hm, hpo⟩, ⟨hb, hst, hpa⟩, hn, hk8⟩ := id hS
  refine CTH_mono (ctw_template (ct_template a1 a2 c1 t) (fun v S' V' q => ?_) (fun E S' V' q => ⟨q.2.2.1, q.1⟩)) (fun v S' V1 q => ?_)
  · obtain ⟨a, q1, q2, q3, -, -, q4⟩ := q
    refine ⟨q3, ?_⟩
    cases hr : rAll L 96 0 [] (fun _ => none) with
    | inl p => rw [hr] at q4; exact ⟨_, q4.1.symm⟩
    | inr r =>
      rw [hr] at q4
      rcases q4 with ⟨-, q4, -⟩ | ⟨-, q4, -⟩
      · exact ⟨_, q4.symm⟩
      · exact ⟨_, q4.symm⟩
  rcases q with ⟨rfl, ⟨y, Vc, q, rfl, rfl⟩ | ⟨E, q, hE⟩⟩
  · obtain ⟨a, k1, rfl, -, k2, k3, k4⟩ := q
    have hV : FrX V Vc := fun b hb => k3.1 b (by omega) (by omega) (by omega) (by omega) (by omega) (by omega)
    have mi := hM.hi (V' := (a_up Vc 539 0 (.long y.toInt64))) (fun b q1 q2 => (a_up_row (by omega)).trans (hV b q1))
    have hx : xcT (nI a) = 0 := if_pos ⟨nI_pos (by omega), nI_lt (a := a) (b := 8) k1 (by decide)⟩
    have hxs : tpS L = true → (xcT (nI a) = 0 ∧ tpS L = true) := fun z => ⟨hx, z⟩
    refine ⟨0, rfl, by decide, rfl, CT_mono (ct_mtemplate mi.1.1 mi.1.2.1 mi.1.2.2 (fun k => (hT8 k).1) (nI a)) (fun v2 S2 V2 h2 => ?_) (fun _ _ _ h => h)⟩
    obtain ⟨g1, g2, ⟨y2, rfl, g3⟩, g4, g5, g6, g7⟩ := h2
    rw [if_pos hx] at g4
    have low : ∀ b, b < 504 → V2 b = Vc b := fun b hb => (g6 b (by omega) (by omega) (by omega)).trans (a_low hb)
    have res : y2 = y ∧ ∃ T' to', CI Vc [] T' to' ent cnt mt po b0 st pa n rt rr pd kn kl ∧ MT V2 T' to' ∧ TKS T' to' ∧ ∀ k, (T' k).length ≤ 96 ∧ ∀ c ∈ T' k, okC c := by
      have ya := g3 hx
      have ngd : ∀ (hs : ¬ tpS L = true) (_ : PB Vc tl sp2 T to (jpO T to)) (_ : y = -1 - nI (tpF L)), y2 = y ∧ ∃ T' to', CI Vc [] T' to' ent cnt mt po b0 st pa n rt rr pd kn kl ∧ MT V2 T' to' ∧ TKS T' to' ∧ ∀ k, (T' k).length ≤ 96 ∧ ∀ c ∈ T' k, okC c := fun hs hP hy => by
        rw [if_neg (fun z => hs z.2), if_neg (fun z => hs z.2)] at g5
        exact ⟨by rw [ya, hy]; exact if_neg hs, T, to, hI.te k2 k3 hP, g5, hK8, hT8⟩
      cases hr : rAll L 96 0 [] (fun _ => none) with
      | inl p =>
        rw [hr] at k4
        have hs : ¬ tpS L = true := by unfold tpS; rw [hr]; exact fun z => absurd (show false = true from z) (by decide)
        exact ngd hs k4.2 (by rw [← Value.int.inj (Option.some.inj k4.1)]; unfold tpF; rw [hr])
      | inr r =>
        rw [hr] at k4
        obtain ⟨p, mks, jm⟩ := r
        rcases k4 with ⟨q1, q2, q3⟩ | ⟨q1, q2, q3⟩
        · have hs : tpS L = true := by unfold tpS; rw [hr]; exact decide_eq_true q1
          have em : mks = [] := List.eq_nil_of_length_eq_zero q1
          subst em
          obtain ⟨t1, t2, t3⟩ := rAll_tok l96 hr
          rw [if_pos (hxs hs), if_pos (hxs hs), nI_clamp (by omega)] at g5
          have q3' : PB Vc (upN tl a sp2) (tl a) (upN T a L) (upN to a true) (jpO (upN T a L) (upN to a true)) := by rw [← jpO_up t2]; exact q3
          refine ⟨by rw [ya, ← Value.int.inj (Option.some.inj q2)]; exact if_pos hs, _, _, hI.te k2 k3 q3', g5, fun n' hn' ht' => ?_, fun k => ?_⟩
          · by_cases z : n' = a
            · subst z; rw [show upN T n' L n' = L from if_pos rfl]; exact t1
            · rw [show upN T a L n' = T n' from if_neg z]; exact hK8 n' hn' (by rwa [show upN to a true n' = to n' from if_neg z] at ht')
          · by_cases z : k = a
            · subst z; rw [show upN T k L k = L from if_pos rfl]; exact ⟨l96, lok⟩
            · rw [show upN T a L k = T k from if_neg z]; exact hT8 k
        · have hs : ¬ tpS L = true := by unfold tpS; rw [hr]; exact fun z => q1 (of_decide_eq_true z)
          have ep := rAll_end2 l96 hr
          exact ngd hs q3 (by rw [← Value.int.inj (Option.some.inj q2)]; show -1 - nI p = _; unfold tpF; rw [hr, ep])
    obtain ⟨ey, T', to', r1, r2, r3, r4⟩ := res
    exact ⟨y2, rfl, g1, by rw [g2, hx], fun _ => (a_up_self _ _ _ _).trans (by rw [ey]), g6 539 (by decide) (by decide) (by decide), _, _, _, _, _, _, _, _, _, _, _, _, _, _, _, _, r1.low low, mi.te g4 r2 g6 g7, ⟨Nat.zero_le _, fun c hc9 => absurd hc9 List.not_mem_nil⟩, ⟨r3, r4⟩, hS.2.2⟩
  · obtain ⟨rfl, k1, -, eV⟩ := q
    rcases hE with ⟨-, rfl⟩ | ⟨eE, -⟩ | ⟨eE, -⟩ <;> first | (exact absurd eE (by decide)) | skip
    have o1 : CI V1 L T to ent cnt mt po b0 st pa n rt rr pd kn kl := eV ▸ hI
    have mi : MI V1 L T to ent cnt mt po b0 st pa n rt rr pd kn kl := eV ▸ hM
    have hx : xcT t = 1 := if_neg k1
    refine ⟨1, rfl, by decide, rfl, CT_mono (ct_mtemplate mi.1.1 mi.1.2.1 mi.1.2.2 (fun k => (hT8 k).1) t) (fun v2 S2 V2 h2 => ?_) (fun _ _ _ h => h)⟩
    obtain ⟨g1, g2, ⟨y2, rfl, g3⟩, g4, g5, g6, g7⟩ := h2
    have nx : ¬ xcT t = 0 := by rw [hx]; decide
    rw [if_neg nx] at g4
    rw [if_neg (fun z => nx z.1), if_neg (fun z => nx z.1)] at g5
    exact ⟨y2, rfl, g1, by rw [g2, hx], fun z => absurd z (by decide), g6 539 (by decide) (by decide) (by decide), _, _, _, _, _, _, _, _, _, _, _, _, _, _, _, _, o1.low (fun b hb => g6 b (by omega) (by omega) (by omega)), mi.te g4 g5 g6 g7, hS⟩
section LAD
variable {V V' : aV} {L : List Int32} {T : Nat → List Int32} {to : Nat → Bool} {ent : Nat → EntN} {cnt : Nat} {mt po : Nat → Nat} {b0 st pa n : Nat} {rt rr : Nat → Nat} {pd : Nat → Bool} {kn : Nat → Nat} {kl : Nat → Nat → KL}
theorem CI.ad {ent' : Nat → EntN} {cnt' : Nat} {en' : Nat → Nat} {sp' : Nat} (h : CI V L T to ent cnt mt po b0 st pa n rt rr pd kn kl) (hl : LI V' []) (f : BF2 V V') (hB : BE V' en' sp' (fun k => encE (ent' k)) cnt') : CI V' [] T to ent' cnt' mt po b0 st pa n rt rr pd kn kl := by
  obtain ⟨⟨a1, a2, a3, a4, a5, a6, a7⟩, ⟨b1, -, b3, b4⟩, ⟨⟨tl9, sp2, c1⟩, c2, c3, ⟨w, vl, c4⟩, s, c5⟩, d1, d2⟩ := h
  have g := fun b (q1 : b ≠ 1) (q2 : b ≠ 2) (q : b < 74 ∨ 195 < b ∨ b = 85 ∨ b = 86 ∨ b = 87) => f.1 b q1 q2 q
  have e0 := g 0 (by decide) (by decide) (by decide)
  have e4 := g 4 (by decide) (by decide) (by decide)
  have e28 := g 28 (by decide) (by decide) (by decide)
  have b1' : BF V' := ⟨(f.2 0 (by decide) (by decide)).trans b1.1, (f.2 2 (by decide) (by decide)).trans b1.2.1, (f.2 3 (by decide) (by decide)).trans b1.2.2.1, (f.2 4 (by decide) (by decide)).trans b1.2.2.2⟩
  exact ⟨⟨a1.fr e0, hl, (congrFun (g 196 (by decide) (by decide) (by decide)) 0).trans a3, (congrFun (g 198 (by decide) (by decide) (by decide)) 0).trans a4, (congrFun (g 198 (by decide) (by decide) (by decide)) 1).trans a5, (congrFun e0 6).trans a6, (congrFun e0 7).trans a7⟩,
    ⟨b1', ⟨en', sp', hB⟩, b3.fr (g 85 (by decide) (by decide) (by decide)), b4.fr (g 86 (by decide) (by decide) (by decide))⟩,
    ⟨⟨tl9, sp2, c1.frg ⟨congrFun e4 0, congrFun e4 1⟩ (fun b q1 q2 q3 => g b (by omega) (by omega) (by omega))⟩, c2.frg (fun k _ => congrFun e4 k) (congrFun e28 0) (fun b q => g b (by omega) (by omega) (by omega)), c3.frg (fun b q1 q2 q3 => g b (by omega) (by omega) (by omega)), ⟨w, vl, c4.frg (fun b q => g b (by omega) (by omega) (by omega))⟩, s, c5.frg ⟨congrFun e4 7, congrFun e4 8⟩ (congrFun e28 2) (fun b q1 q2 => g b (by omega) (by omega) (by omega))⟩,
    d1.fr (fun b q1 q2 => g b (by omega) (by omega) (by omega)), d2.fr (fun b q1 q2 => g b (by omega) (by omega) (by omega))⟩
theorem MI.ad {L' : List Int32} {ent' : Nat → EntN} {cnt' : Nat} (h : MI V L T to ent cnt mt po b0 st pa n rt rr pd kn kl) (hl : ML V' L') (hE : ME V' ent' cnt') (e : ∀ b, b ≠ 504 → (b < 508 ∨ 518 < b) → V' b = V b) (e5 : ∀ k, k ≠ 0 → k ≠ 2 → k ≠ 5 → V' 504 k = V 504 k) : MI V' L' T to ent' cnt' mt po b0 st pa n rt rr pd kn kl := by
  obtain ⟨⟨a1, a2, a3⟩, ⟨b1, b2, b3⟩, ⟨c1, c2, c3⟩, d1, d2⟩ := h
  exact ⟨⟨a1.fr (fun k hk => e5 k (fun z => hk (by rw [z]; decide)) (fun z => hk (by rw [z]; decide)) (fun z => hk (by rw [z]; decide))), hl, a3.fr (e 506 (by decide) (by decide)) (e 507 (by decide) (by decide))⟩, ⟨hE, b2.fr (e 519 (by decide) (by decide)), b3.fr (e 520 (by decide) (by decide))⟩, ⟨(e5 19 (by decide) (by decide) (by decide)).trans c1, (e5 20 (by decide) (by decide) (by decide)).trans c2, (e5 21 (by decide) (by decide) (by decide)).trans c3⟩, d1.fr (e5 22 (by decide) (by decide) (by decide)) (fun b q1 q2 => e b (by omega) (by omega)), d2.fr (fun b q1 q2 => e b (by omega) (by omega))⟩
end LAD
theorem MTO.up {mt : Nat → Nat} {cnt c' : Nat} (h : MTO mt cnt) (q : cnt ≤ c') : MTO mt c' := ⟨h.1, fun i j hi hj hb => by
  obtain ⟨r1, r2, r3, r4⟩ := h.2 i j hi hj hb
  exact ⟨by omega, by omega, r3, r4⟩⟩
theorem enc_up {ent : Nat → EntN} {a : Nat} {y : EntN} : upN (fun k => encE (ent k)) a (encE y) = fun k => encE (upN ent a y k) := by
  funext k
  show (if k = a then _ else _) = encE (if k = a then _ else _)
  split <;> rfl
set_option maxHeartbeats 1000000 in
theorem op_address {V : aV} (h : LInv V) (t : Int32) : CTH mL_address hL_address 7 1 6 [.ref 0, .int t, .ref 539] Sh V (fun v S' V1 => ∃ k, v = some (.int (nI k)) ∧ k ≤ 3 ∧ Sh = S' ∧ CT mX12_address 4 0 0 [.ref 504, .int t] Sh V1 (OpM k V1 Int32.toInt64) aNo) := by
  obtain ⟨L, T, to, ent, cnt, mt, po, b0, st, pa, n, rt, rr, pd, kn, kl, hI, hM, hS⟩ := h
  obtain ⟨⟨a1, a2, a3, a4, a5, a6, a7⟩, ⟨b1, ⟨en, sp, b2⟩, b3, b4⟩, ⟨⟨tl, sp2, c1⟩, c2, c3, c4, c5⟩, d1, d2⟩ := id hI
  obtain ⟨⟨mR, mL, mT⟩, ⟨mE, mM, mP⟩, ⟨mb, ms, mp⟩, mRu, mKe⟩ := id hM
  obtain ⟨⟨l96, lok⟩, ⟨hK8, hT8⟩, ⟨hc, hEO, hm, hpo⟩, ⟨hb, hst, hpa⟩, hn, hk8⟩ := id hS
  refine CTH_mono (ctw_address (ct_address a1 a2 b1 b2 b3 t) (fun v S' V' q => ?_) (fun E S' V' q => ⟨q.1, q.2.2.imp (fun z => z.1) (fun z => z.1)⟩)) (fun v S' V1 q => ?_)
  · obtain ⟨a, q1, q2, q3, q4, q5, -, -, q6⟩ := q
    refine ⟨q5, ?_⟩
    rcases hr : aRd L with ⟨p, _ | x⟩
    · rw [hr] at q6; exact ⟨_, q6.1.symm⟩
    · rw [hr] at q6; exact ⟨_, q6.1.symm⟩
  rcases q with ⟨rfl, ⟨y, Vc, q, rfl, rfl⟩ | ⟨E, q, hE⟩⟩
  · obtain ⟨a, k1, k2, rfl, k3, -, k4, k5, k6⟩ := q
    have hV : FrX V Vc := fun b hb => k5.1 b (by omega) (by omega) (by omega)
    have mi := hM.hi (V' := (a_up Vc 539 0 (.long y.toInt64))) (fun b q1 q2 => (a_up_row (by omega)).trans (hV b q1))
    have hx : xcA cnt mt (nI a) = 0 := (if_neg (not_not_intro ⟨nI_pos (by omega), nI_le k2 (by omega)⟩)).trans (if_neg (fun z => z.elim (fun z => nI_ge (a := a) (b := 12) k1 (by decide) z) (fun z => z (by rw [nI_clamp (by omega)]; exact k3))))
    refine ⟨0, rfl, by decide, rfl, CT_mono (ct_maddress mi.1.1 mi.1.2.1 mi.2.1.1 mi.2.1.2.1 hm hc hEO (nI a)) (fun v2 S2 V2 h2 => ?_) (fun _ _ _ h => h)⟩
    obtain ⟨g1, g2, ⟨y2, rfl, g3⟩, g4, g5, g6, g7⟩ := h2
    rw [if_pos hx] at g4
    rw [if_pos hx, if_pos hx, nI_clamp (n := a) (by omega)] at g5
    have low : ∀ b, b < 504 → V2 b = Vc b := fun b hb => (g6 b (by omega) (by omega)).trans (a_low hb)
    have ya := g3 hx
    have res : y2 = y ∧ ∃ ent' cnt', CI Vc [] T to ent' cnt' mt po b0 st pa n rt rr pd kn kl ∧ ME V2 ent' cnt' ∧ cnt' ≤ 12 ∧ (∀ k, k < 12 → EO (ent' k)) ∧ MTO mt cnt' := by
      rcases hr : aRd L with ⟨p, _ | x⟩
      · rw [hr] at k6
        have e1 : adE L ent a = ent := by unfold adE; rw [hr]
        have e2 : adC L cnt a = cnt := by unfold adC; rw [hr]
        rw [e1, e2] at g5
        refine ⟨by rw [ya, ← Value.int.inj (Option.some.inj k6.1)]; unfold adA; rw [hr], ent, cnt, hI.ad k4 k5 k6.2, g5, hc, hEO, hm⟩
      · rw [hr] at k6
        obtain ⟨z, rfl, hz⟩ := aRd_ok lok hr
        have e1 : adE L ent a = upN ent a z := by unfold adE; rw [hr]; show upN ent a (entOf (encE z)) = _; rw [entOf_e hz]
        have e2 : adC L cnt a = max cnt (a + 1) := by unfold adC; rw [hr]
        rw [e1, e2] at g5
        have k7 := k6.2
        rw [enc_up] at k7
        refine ⟨by rw [ya, ← Value.int.inj (Option.some.inj k6.1)]; unfold adA; rw [hr], upN ent a z, max cnt (a + 1), hI.ad k4 k5 k7, g5, by omega, fun k hk => ?_, hm.up (by omega)⟩
        show EO (if k = a then z else ent k)
        split
        · exact hz
        · exact hEO k hk
    obtain ⟨ey, ent', cnt', r1, r2, r3, r4, r5⟩ := res
    exact ⟨y2, rfl, g1, by rw [g2, hx], fun _ => (a_up_self _ _ _ _).trans (by rw [ey]), g6 539 (by decide) (by decide), _, _, _, _, _, _, _, _, _, _, _, _, _, _, _, _, r1.low low, mi.ad g4 r2 g6 g7, ⟨Nat.zero_le _, fun c hc9 => absurd hc9 List.not_mem_nil⟩, hS.2.1, ⟨r3, r4, r5, hpo⟩, hS.2.2.2⟩
  · obtain ⟨-, eV, hX⟩ := q
    have o1 : CI V1 L T to ent cnt mt po b0 st pa n rt rr pd kn kl := eV ▸ hI
    have mi : MI V1 L T to ent cnt mt po b0 st pa n rt rr pd kn kl := eV ▸ hM
    have fin : ∀ k : Nat, k ≠ 0 → xcA cnt mt t = k → CT mX12_address 4 0 0 [.ref 504, .int t] Sh V1 (OpM k V1 Int32.toInt64) aNo := fun k hk hx => by
      refine CT_mono (ct_maddress mi.1.1 mi.1.2.1 mi.2.1.1 mi.2.1.2.1 hm hc hEO t) (fun v2 S2 V2 h2 => ?_) (fun _ _ _ h => h)
      obtain ⟨g1, g2, ⟨y2, rfl, g3⟩, g4, g5, g6, g7⟩ := h2
      have nx : ¬ xcA cnt mt t = 0 := fun z => hk (by rw [← hx, z])
      rw [if_neg nx] at g4
      rw [if_neg nx, if_neg nx] at g5
      exact ⟨y2, rfl, g1, by rw [g2, hx], fun z => absurd z hk, g6 539 (by decide) (by decide), _, _, _, _, _, _, _, _, _, _, _, _, _, _, _, _, o1.low (fun b hb => g6 b (by omega) (by omega)), mi.ad g4 g5 g6 g7, hS⟩
    rcases hX with ⟨rfl, hX⟩ | ⟨rfl, k1, k2⟩
    · rcases hE with ⟨-, rfl⟩ | ⟨eE, -⟩ | ⟨eE, -⟩ <;> first | (exact absurd eE (by decide)) | skip
      exact ⟨1, rfl, by decide, rfl, fin 1 (by decide) (if_pos hX)⟩
    · rcases hE with ⟨eE, -⟩ | ⟨eE, -⟩ | ⟨-, rfl⟩ <;> first | (exact absurd eE (by decide)) | skip
      exact ⟨2, rfl, by decide, rfl, fin 2 (by decide) ((if_neg (not_not_intro k1)).trans (if_pos (k2.imp id (fun ⟨k, q1, q2, q3⟩ => by rw [q2, nI_clamp (by omega)]; exact q3))))⟩
