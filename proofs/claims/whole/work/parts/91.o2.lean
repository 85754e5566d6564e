/-! ===== operations on letters ===== -/
set_option maxHeartbeats 1000000 in
theorem op_letter {V : aV} (h : LInv V) (t : Int32) (u : Int32) (wh : Int32) : CTH mL_letter hL_letter 10 3 18 [.ref 0, .int t, .int u, .int wh, .ref 539] Sh V (fun v S' V1 => ∃ k, v = some (.int (nI k)) ∧ k ≤ 3 ∧ Sh = S' ∧ CT mX12_letter 7 0 0 [.ref 504, .int t, .int u, .int wh] Sh V1 (OpM k V1 Int32.toInt64) aNo) := by
  obtain ⟨L, T, to, ent, cnt, mt, po, b0, st, pa, n, rt, rr, pd, kn, kl, hI, hM, hS⟩ := h
  obtain ⟨⟨a1, a2, a3, a4, a5, a6, a7⟩, ⟨b1, ⟨en, sp, b2⟩, b3, b4⟩, ⟨⟨tl, sp2, c1⟩, c2, c3, c4, c5⟩, d1, d2⟩ := id hI
  obtain ⟨⟨mR, mL, mT⟩, ⟨mE, mM, mP⟩, ⟨mb, ms, mp⟩, mRu, mKe⟩ := id hM
  obtain ⟨⟨l96, lok⟩, ⟨hK8, hT8⟩, ⟨hc, hEO, hm, hpo⟩, ⟨hb, hst, hpa⟩, hn, hk8⟩ := id hS
  have lc12 : ∀ i, i < 8 → lcn mt po cnt kn pd rr i ≤ 12 := fun i hi => lcn_le d1 hc hi
  refine CTH_mono (ctw_letter (ct_letter hI hS t u wh) (fun v S' V' q => by obtain ⟨i, l, k, q1, q2, q3, q4, q5, q6, q7, q8, q9, -⟩ := q; exact ⟨q9, _, q8.symm⟩) (fun E S' V' q => by obtain ⟨q1, q2, q3, q4⟩ := q; exact ⟨q1, q4.imp (fun z => z.1) (fun z => z.1)⟩)) (fun v S' V1 q => ?_)
  rcases q with ⟨rfl, ⟨y, Vc, q, rfl, rfl⟩ | ⟨E, q, hE⟩⟩
  · obtain ⟨i, l, kw, i9, i8, rfl, rfl, hll, k4, rfl, ey, -, o0, hV⟩ := q
    have o1 : CI (a_up Vc 539 0 (.long y.toInt64)) L T to ent cnt mt po b0 st pa n rt rr pd kn kl := o0.low (fun b hb => a_up_row (by omega))
    have mi := hM.hi (V' := a_up Vc 539 0 (.long y.toInt64)) (fun b q1 q2 => (a_up_row (by omega)).trans (hV b q1))
    refine ⟨0, rfl, by decide, rfl, CT_mono (ct_mletter mi hS _ _ _) (fun v2 S2 V2 h2 => ?_) (fun _ _ _ h => h)⟩
    obtain ⟨g1, g4, y2, rfl, g3⟩ := h2
    have good : V2 504 0 = .int 0 ∧ y2 = y := by
      have hlt : ltOK n (lcn mt po cnt kn pd rr) (nI i) (nI l) := ⟨i, l, i9, i8, rfl, rfl, hll⟩
      rcases g3 with ((⟨-, z⟩ | ⟨-, -, z⟩) | ⟨z, i', l', k', i9', i8', e1, e2, hll', k4', e3, ey2⟩)
      · exact absurd hlt z
      · exact absurd ⟨nI_pos (by omega), (nI_leI (a := kw) (b := 4) (by omega) (by decide)).2 k4⟩ z
      · have ei : i = i' := (nI_eq (by omega) (by omega)).1 e1
        subst ei
        have li := lc12 i i8
        have el : l = l' := (nI_eq (by omega) (by omega)).1 e2
        subst el
        have ek : kw = k' := (nI_eq (by omega) (by omega)).1 e3
        subst ek
        exact ⟨z, ey2.trans (Value.int.inj (Option.some.inj ey))⟩
    exact ⟨y2, rfl, g1, good.1, fun _ => (a_up_self _ _ _ _).trans (by rw [good.2]), g4.1 539 (by decide) (by decide), LInv.same o1 mi hS g4⟩
  · obtain ⟨-, o1, hV, hX⟩ := q
    have mi := hM.hi (V' := V1) (fun b q1 q2 => hV b q1)
    rcases hX with ⟨rfl, hX⟩ | ⟨rfl, hX, hW⟩
    · rcases hE with ⟨-, rfl⟩ | ⟨eE, -⟩ | ⟨eE, -⟩ <;> first | (exact absurd eE (by decide)) | skip
      refine ⟨1, rfl, by decide, rfl, CT_mono (ct_mletter mi hS t u wh) (fun v2 S2 V2 h2 => ?_) (fun _ _ _ h => h)⟩
      obtain ⟨g1, g4, y2, rfl, g3⟩ := h2
      have bad : V2 504 0 = .int 1 := by
        rcases g3 with ((⟨z, -⟩ | ⟨-, z, -⟩) | ⟨-, i', l', k', i9', i8', e1, e2, hll', -⟩)
        · exact z
        · exact absurd z hX
        · exact absurd ⟨i', l', i9', i8', e1, e2, hll'⟩ hX
      exact ⟨y2, rfl, g1, bad, fun z => absurd z (by decide), g4.1 539 (by decide) (by decide), LInv.same o1 mi hS g4⟩
    · rcases hE with ⟨eE, -⟩ | ⟨-, rfl⟩ | ⟨eE, -⟩ <;> first | (exact absurd eE (by decide)) | skip
      refine ⟨2, rfl, by decide, rfl, CT_mono (ct_mletter mi hS t u wh) (fun v2 S2 V2 h2 => ?_) (fun _ _ _ h => h)⟩
      obtain ⟨g1, g4, y2, rfl, g3⟩ := h2
      have bad : V2 504 0 = .int 2 := by
        rcases g3 with ((⟨-, z⟩ | ⟨z, -⟩) | ⟨-, i', l', k', i9', i8', e1, e2, hll', k4', e3, -⟩)
        · exact absurd hX z
        · exact z
        · exact absurd (by rw [e3]; exact ⟨nI_pos (by omega), (nI_leI (a := k') (b := 4) (by omega) (by decide)).2 k4'⟩) hW
      exact ⟨y2, rfl, g1, bad, fun z => absurd z (by decide), g4.1 539 (by decide) (by decide), LInv.same o1 mi hS g4⟩
set_option maxHeartbeats 1000000 in
theorem op_sign {V : aV} (h : LInv V) (t : Int32) (u : Int32) (pq : Int32) : CTH mL_sign hL_sign 10 3 18 [.ref 0, .int t, .int u, .int pq, .ref 539] Sh V (fun v S' V1 => ∃ k, v = some (.int (nI k)) ∧ k ≤ 3 ∧ Sh = S' ∧ CT mX12_sign 7 0 0 [.ref 504, .int t, .int u, .int pq] Sh V1 (OpM k V1 Int32.toInt64) aNo) := by
  obtain ⟨L, T, to, ent, cnt, mt, po, b0, st, pa, n, rt, rr, pd, kn, kl, hI, hM, hS⟩ := h
  obtain ⟨⟨a1, a2, a3, a4, a5, a6, a7⟩, ⟨b1, ⟨en, sp, b2⟩, b3, b4⟩, ⟨⟨tl, sp2, c1⟩, c2, c3, c4, c5⟩, d1, d2⟩ := id hI
  obtain ⟨⟨mR, mL, mT⟩, ⟨mE, mM, mP⟩, ⟨mb, ms, mp⟩, mRu, mKe⟩ := id hM
  obtain ⟨⟨l96, lok⟩, ⟨hK8, hT8⟩, ⟨hc, hEO, hm, hpo⟩, ⟨hb, hst, hpa⟩, hn, hk8⟩ := id hS
  have lc12 : ∀ i, i < 8 → lcn mt po cnt kn pd rr i ≤ 12 := fun i hi => lcn_le d1 hc hi
  refine CTH_mono (ctw_sign (ct_sign hI hS t u pq) (fun v S' V' q => by obtain ⟨i, l, q1, q2, q3, q4, q5, q6, q7, q8, -⟩ := q; exact ⟨q8, _, q7.symm⟩) (fun E S' V' q => ⟨q.1, q.2.2.2.1⟩)) (fun v S' V1 q => ?_)
  rcases q with ⟨rfl, ⟨y, Vc, q, rfl, rfl⟩ | ⟨E, q, hE⟩⟩
  · obtain ⟨i, l, i9, i8, rfl, rfl, hll, hp, ey, -, o0, hV⟩ := q
    have o1 : CI (a_up Vc 539 0 (.long y.toInt64)) L T to ent cnt mt po b0 st pa n rt rr pd kn kl := o0.low (fun b hb => a_up_row (by omega))
    have mi := hM.hi (V' := a_up Vc 539 0 (.long y.toInt64)) (fun b q1 q2 => (a_up_row (by omega)).trans (hV b q1))
    refine ⟨0, rfl, by decide, rfl, CT_mono (ct_msign mi hS _ _ pq) (fun v2 S2 V2 h2 => ?_) (fun _ _ _ h => h)⟩
    obtain ⟨g1, g4, y2, rfl, g3⟩ := h2
    have good : V2 504 0 = .int 0 ∧ y2 = y := by
      have hlt : ltOK n (lcn mt po cnt kn pd rr) (nI i) (nI l) := ⟨i, l, i9, i8, rfl, rfl, hll⟩
      rcases g3 with ⟨-, z⟩ | ⟨z, i', l', i9', i8', e1, e2, hll', hp', ey2⟩
      · exact absurd ⟨hlt, hp⟩ z
      · have ei : i = i' := (nI_eq (by omega) (by omega)).1 e1
        subst ei
        have li := lc12 i i8
        have el : l = l' := (nI_eq (by omega) (by omega)).1 e2
        subst el
        exact ⟨z, ey2.trans (Value.int.inj (Option.some.inj ey))⟩
    exact ⟨y2, rfl, g1, good.1, fun _ => (a_up_self _ _ _ _).trans (by rw [good.2]), g4.1 539 (by decide) (by decide), LInv.same o1 mi hS g4⟩
  · obtain ⟨-, o1, hV, hX⟩ := q
    have mi := hM.hi (V' := V1) (fun b q1 q2 => hV b q1)
    obtain ⟨rfl, hX⟩ := hX
    rcases hE with ⟨-, rfl⟩ | ⟨eE, -⟩ | ⟨eE, -⟩ <;> first | (exact absurd eE (by decide)) | skip
    refine ⟨1, rfl, by decide, rfl, CT_mono (ct_msign mi hS t u pq) (fun v2 S2 V2 h2 => ?_) (fun _ _ _ h => h)⟩
    obtain ⟨g1, g4, y2, rfl, g3⟩ := h2
    have bad : V2 504 0 = .int 1 := by
      rcases g3 with ⟨z, -⟩ | ⟨-, i', l', i9', i8', e1, e2, hll', hp', -⟩
      · exact z
      · exact absurd ⟨⟨i', l', i9', i8', e1, e2, hll'⟩, hp'⟩ hX
    exact ⟨y2, rfl, g1, bad, fun z => absurd z (by decide), g4.1 539 (by decide) (by decide), LInv.same o1 mi hS g4⟩
set_option maxHeartbeats 1000000 in
theorem op_trouble {V : aV} (h : LInv V) (t : Int32) (u : Int32) (lev : Int32) (pl : Int32) : CTH mL_trouble hL_trouble 10 3 18 [.ref 0, .int t, .int u, .int lev, .int pl, .ref 539] Sh V (fun v S' V1 => ∃ k, v = some (.int (nI k)) ∧ k ≤ 3 ∧ Sh = S' ∧ CT mX12_trouble 7 0 0 [.ref 504, .int t, .int u, .int lev, .int pl] Sh V1 (OpM k V1 Int32.toInt64) aNo) := by
  obtain ⟨L, T, to, ent, cnt, mt, po, b0, st, pa, n, rt, rr, pd, kn, kl, hI, hM, hS⟩ := h
  obtain ⟨⟨a1, a2, a3, a4, a5, a6, a7⟩, ⟨b1, ⟨en, sp, b2⟩, b3, b4⟩, ⟨⟨tl, sp2, c1⟩, c2, c3, c4, c5⟩, d1, d2⟩ := id hI
  obtain ⟨⟨mR, mL, mT⟩, ⟨mE, mM, mP⟩, ⟨mb, ms, mp⟩, mRu, mKe⟩ := id hM
  obtain ⟨⟨l96, lok⟩, ⟨hK8, hT8⟩, ⟨hc, hEO, hm, hpo⟩, ⟨hb, hst, hpa⟩, hn, hk8⟩ := id hS
  have lc12 : ∀ i, i < 8 → lcn mt po cnt kn pd rr i ≤ 12 := fun i hi => lcn_le d1 hc hi
  refine CTH_mono (ctw_trouble (ct_trouble hI hS t u lev pl) (fun v S' V' q => by obtain ⟨i, l, q1, q2, q3, q4, q5, q6, q7, q8, -⟩ := q; exact ⟨q8, _, q7.symm⟩) (fun E S' V' q => ⟨q.1, q.2.2.2.1⟩)) (fun v S' V1 q => ?_)
  rcases q with ⟨rfl, ⟨y, Vc, q, rfl, rfl⟩ | ⟨E, q, hE⟩⟩
  · obtain ⟨i, l, i9, i8, rfl, rfl, hll, hp, ey, -, o0, hV⟩ := q
    have o1 : CI (a_up Vc 539 0 (.long y.toInt64)) L T to ent cnt mt po b0 st pa n rt rr pd kn kl := o0.low (fun b hb => a_up_row (by omega))
    have mi := hM.hi (V' := a_up Vc 539 0 (.long y.toInt64)) (fun b q1 q2 => (a_up_row (by omega)).trans (hV b q1))
    refine ⟨0, rfl, by decide, rfl, CT_mono (ct_mtrouble mi hS _ _ lev pl) (fun v2 S2 V2 h2 => ?_) (fun _ _ _ h => h)⟩
    obtain ⟨g1, g4, y2, rfl, g3⟩ := h2
    have good : V2 504 0 = .int 0 ∧ y2 = y := by
      have hlt : ltOK n (lcn mt po cnt kn pd rr) (nI i) (nI l) := ⟨i, l, i9, i8, rfl, rfl, hll⟩
      rcases g3 with ⟨-, z⟩ | ⟨z, i', l', i9', i8', e1, e2, hll', hp', ey2⟩
      · exact absurd ⟨hlt, hp⟩ z
      · have ei : i = i' := (nI_eq (by omega) (by omega)).1 e1
        subst ei
        have li := lc12 i i8
        have el : l = l' := (nI_eq (by omega) (by omega)).1 e2
        subst el
        exact ⟨z, ey2.trans (Value.int.inj (Option.some.inj ey))⟩
    exact ⟨y2, rfl, g1, good.1, fun _ => (a_up_self _ _ _ _).trans (by rw [good.2]), g4.1 539 (by decide) (by decide), LInv.same o1 mi hS g4⟩
  · obtain ⟨-, o1, hV, hX⟩ := q
    have mi := hM.hi (V' := V1) (fun b q1 q2 => hV b q1)
    obtain ⟨rfl, hX⟩ := hX
    rcases hE with ⟨-, rfl⟩ | ⟨eE, -⟩ | ⟨eE, -⟩ <;> first | (exact absurd eE (by decide)) | skip
    refine ⟨1, rfl, by decide, rfl, CT_mono (ct_mtrouble mi hS t u lev pl) (fun v2 S2 V2 h2 => ?_) (fun _ _ _ h => h)⟩
    obtain ⟨g1, g4, y2, rfl, g3⟩ := h2
    have bad : V2 504 0 = .int 1 := by
      rcases g3 with ⟨z, -⟩ | ⟨-, i', l', i9', i8', e1, e2, hll', hp', -⟩
      · exact z
      · exact absurd ⟨⟨i', l', i9', i8', e1, e2, hll'⟩, hp'⟩ hX
    exact ⟨y2, rfl, g1, bad, fun z => absurd z (by decide), g4.1 539 (by decide) (by decide), LInv.same o1 mi hS g4⟩
set_option maxHeartbeats 1000000 in
theorem op_anew {V : aV} (h : LInv V) (t : Int32) (u : Int32) : CTH mL_anew hL_anew 10 2 12 [.ref 0, .int t, .int u, .ref 539] Sh V (fun v S' V1 => ∃ k, v = some (.int (nI k)) ∧ k ≤ 3 ∧ Sh = S' ∧ CT mX12_anew 8 0 0 [.ref 504, .int t, .int u] Sh V1 (OpM k V1 Int32.toInt64) aNo) := by
  obtain ⟨L, T, to, ent, cnt, mt, po, b0, st, pa, n, rt, rr, pd, kn, kl, hI, hM, hS⟩ := h
  obtain ⟨⟨a1, a2, a3, a4, a5, a6, a7⟩, ⟨b1, ⟨en, sp, b2⟩, b3, b4⟩, ⟨⟨tl, sp2, c1⟩, c2, c3, c4, c5⟩, d1, d2⟩ := id hI
  obtain ⟨⟨mR, mL, mT⟩, ⟨mE, mM, mP⟩, ⟨mb, ms, mp⟩, mRu, mKe⟩ := id hM
  obtain ⟨⟨l96, lok⟩, ⟨hK8, hT8⟩, ⟨hc, hEO, hm, hpo⟩, ⟨hb, hst, hpa⟩, hn, hk8⟩ := id hS
  have lc12 : ∀ i, i < 8 → lcn mt po cnt kn pd rr i ≤ 12 := fun i hi => lcn_le d1 hc hi
  refine CTH_mono (ctw_anew (ct_anew hI hS t u) (fun v S' V' q => by obtain ⟨i, l, q1, q2, q3, q4, q5, q7, q8, -⟩ := q; exact ⟨q8, _, q7.symm⟩) (fun E S' V' q => ⟨q.1, q.2.2.2.1⟩)) (fun v S' V1 q => ?_)
  rcases q with ⟨rfl, ⟨y, Vc, q, rfl, rfl⟩ | ⟨E, q, hE⟩⟩
  · obtain ⟨i, l, i9, i8, rfl, rfl, hll, ey, -, o0, hV⟩ := q
    have o1 : CI (a_up Vc 539 0 (.long y.toInt64)) L T to ent cnt mt po b0 st pa n rt rr pd kn kl := o0.low (fun b hb => a_up_row (by omega))
    have mi := hM.hi (V' := a_up Vc 539 0 (.long y.toInt64)) (fun b q1 q2 => (a_up_row (by omega)).trans (hV b q1))
    refine ⟨0, rfl, by decide, rfl, CT_mono (ct_manew mi hS _ _) (fun v2 S2 V2 h2 => ?_) (fun _ _ _ h => h)⟩
    obtain ⟨g1, g4, y2, rfl, g3⟩ := h2
    have good : V2 504 0 = .int 0 ∧ y2 = y := by
      have hlt : ltOK n (lcn mt po cnt kn pd rr) (nI i) (nI l) := ⟨i, l, i9, i8, rfl, rfl, hll⟩
      rcases g3 with ⟨-, z⟩ | ⟨z, i', l', i9', i8', e1, e2, hll', ey2⟩
      · exact absurd hlt z
      · have ei : i = i' := (nI_eq (by omega) (by omega)).1 e1
        subst ei
        have li := lc12 i i8
        have el : l = l' := (nI_eq (by omega) (by omega)).1 e2
        subst el
        exact ⟨z, ey2.trans (Value.int.inj (Option.some.inj ey))⟩
    exact ⟨y2, rfl, g1, good.1, fun _ => (a_up_self _ _ _ _).trans (by rw [good.2]), g4.1 539 (by decide) (by decide), LInv.same o1 mi hS g4⟩
  · obtain ⟨-, o1, hV, hX⟩ := q
    have mi := hM.hi (V' := V1) (fun b q1 q2 => hV b q1)
    obtain ⟨rfl, hX⟩ := hX
    rcases hE with ⟨-, rfl⟩ | ⟨eE, -⟩ | ⟨eE, -⟩ <;> first | (exact absurd eE (by decide)) | skip
    refine ⟨1, rfl, by decide, rfl, CT_mono (ct_manew mi hS t u) (fun v2 S2 V2 h2 => ?_) (fun _ _ _ h => h)⟩
    obtain ⟨g1, g4, y2, rfl, g3⟩ := h2
    have bad : V2 504 0 = .int 1 := by
      rcases g3 with ⟨z, -⟩ | ⟨-, i', l', i9', i8', e1, e2, hll', -⟩
      · exact z
      · exact absurd ⟨i', l', i9', i8', e1, e2, hll'⟩ hX
    exact ⟨y2, rfl, g1, bad, fun z => absurd z (by decide), g4.1 539 (by decide) (by decide), LInv.same o1 mi hS g4⟩
