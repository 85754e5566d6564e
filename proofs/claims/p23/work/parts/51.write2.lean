/-! ===== Press: its writing is the text, level by level ===== -/
section WRT3
variable {T : Nat → List Int32} {to : Nat → Bool} {jp : Nat → Nat → Option Nat} {w : Nat → List Int32} {vl : Nat → Nat}
theorem zc_cg {S S' : Int64} {i : Nat} (h : ∀ t, t < 8 → zb S' i t = zb S i t) : zc S' i = zc S i := Nat.le_antisymm (zc_mono (fun t ht => Nat.le_of_eq (h t ht))) (zc_mono (fun t ht => Nat.le_of_eq (h t ht).symm))
theorem AT.opn {s : PS} {l n p j : Nat} {x : List Int32} (h : AT s l n p x) (hl : l + 1 < 5) : AT (pOp s (nI j)) (l + 1) j 0 x := by
  obtain ⟨h1, h2, h3, h4, h5, h6⟩ := h
  unfold pOp
  rw [if_pos (by rw [h3]; exact hl)]
  exact ⟨h1, h2, by rw [h3], by show upN _ _ _ _ = _; rw [h3]; exact upN_s, by show upN _ _ _ _ = _; rw [h3]; exact upN_s, h6⟩
theorem opn_e {s : PS} {l n p j : Nat} {x : List Int32} (h : AT s l n p x) (hl : l + 1 < 5) : pOp s (nI j) = (x, s.2.1, l + 2, upN s.2.2.2.1 (l + 1) (nI j), upN s.2.2.2.2.1 (l + 1) 0, upN s.2.2.2.2.2.1 (l + 1) (nI x.length), s.2.2.2.2.2.2) := by
  obtain ⟨h1, h2, h3, h4, h5, h6⟩ := h
  unfold pOp
  rw [if_pos (by rw [h3]; exact hl), h3, h1]
/-- back from an inner template -/
theorem cls_st {s : PS} {l n p j k : Nat} {x x2 : List Int32} {s2 : PS} {d : Nat} (hT : TH T to jp) (hsum : l + (d + 1) = 4) (hp : p < 96) (hA : AT s l n p x) (hS : SS T to jp w vl s) (hj : j < 8) (t : to j = true) (hz : zb s.2.2.2.2.2.2 (l + 1) j = 0)
    (A2 : AT s2 (l + 1) j (T j).length x2) (S2 : SS T to jp w vl s2) (K2 : KP (l + 1) (pOp s (nI j)) s2) (g2 : go T to jp w vl d j 0 x = .inl x2) (b2 : k + PH s2.2.2.2.2.2.2 x2.length d ≤ (T j).length + PH s.2.2.2.2.2.2 x.length d) :
    ∃ s3, RC T to jp w vl 1 s2 s3 ∧ AT s3 l n (p + 2) x2 ∧ SS T to jp w vl s3 ∧ KP l s s3 ∧ (k + 1) + PH s3.2.2.2.2.2.2 x2.length (d + 1) ≤ 1 + PH s.2.2.2.2.2.2 x.length (d + 1) := by
  have hl5 : l + 1 < 5 := by omega
  have hlj := (hT j hj t).1
  have e1 := opn_e (j := j) hA hl5
  rw [e1] at K2
  obtain ⟨k1, k2, k3⟩ := K2
  have hpre := go_pre _ _ _ _ _ _ (Nat.le_refl _) g2
  have hxl := hpre.length_le
  have hx6 := hA.2.2.2.2.2
  have hx7 := A2.2.2.2.2.2
  have est := pSt_x (T := T) (to := to) (jp := jp) (w := w) (vl := vl) A2 hj t (by omega) hlj
  rw [if_pos (Nat.le_refl _)] at est
  have hel : s2.2.2.1 - 1 = l + 1 := by rw [A2.2.2.1, Nat.add_sub_cancel]
  have hln : s2.2.2.2.2.2.1 (l + 1) = nI x.length := ((k1 (l + 1) (Nat.le_refl _)).2).trans upN_s
  have hpl : s2.2.2.2.2.1 l = nI p := (k2 l (Nat.lt_succ_self l)).trans ((upN_n (by omega)).trans hA.2.2.2.2.1)
  have hnm : ∀ i, i ≤ l → s2.2.2.2.1 i = s.2.2.2.1 i ∧ s2.2.2.2.2.2.1 i = s.2.2.2.2.2.1 i := fun i hi => ⟨((k1 i (by omega)).1).trans (upN_n (by omega)), ((k1 i (by omega)).2).trans (upN_n (by omega))⟩
  have hpp : ∀ i, i < l → s2.2.2.2.2.1 i = s.2.2.2.2.1 i := fun i hi => (k2 i (by omega)).trans (upN_n (by omega))
  have hzz : ∀ i t, i ≤ l + 1 → i ≤ 4 → t < 8 → zb s2.2.2.2.2.2.2 i t = zb s.2.2.2.2.2.2 i t := k3
  have hzc : zc s2.2.2.2.2.2.2 (l + 1) = zc s.2.2.2.2.2.2 (l + 1) := zc_cg (fun t ht => hzz (l + 1) t (Nat.le_refl _) (by omega) ht)
  have hRC : ∀ s3, pCl s2 (l + 1) = s3 → RC T to jp w vl 1 s2 s3 := fun s3 e => RC_1 (by rw [A2.2.2.1]; omega) A2.2.1 (A2.ok hj (by omega) (fun q => by
    have e0 : (T j).getD (T j).length 0 = 0 := by simp [List.getD_eq_getElem?_getD]
    rw [e0] at q
    exact absurd q (by decide))) (by rw [hel, est]; exact e)
  have hd4 : 4 - d = l + 1 := by omega
  by_cases hq : x2.length = x.length
  · have ex : x2 = x := (hpre.eq_of_length hq.symm).symm
    subst ex
    have e3 : pCl s2 (l + 1) = (s2.1, s2.2.1, l + 1, s2.2.2.2.1, upN s2.2.2.2.2.1 l (s2.2.2.2.2.1 l + 2), s2.2.2.2.2.2.1, s2.2.2.2.2.2.2 ||| sBit (nI (l + 1)) (nI j)) := by
      unfold pCl
      rw [if_pos (by rw [A2.1, hln]), A2.2.2.2.1]
      unfold pC2
      rw [if_pos (Nat.succ_pos l), Nat.add_sub_cancel]
    have hor : ∀ i t, i ≤ 4 → t < 8 → zb (s2.2.2.2.2.2.2 ||| sBit (nI (l + 1)) (nI j)) i t = if i = l + 1 ∧ t = j then 1 else zb s2.2.2.2.2.2.2 i t := fun i t hi ht => zb_or hl5 hj (by omega) ht
    refine ⟨_, hRC _ e3, ⟨A2.1, A2.2.1, rfl, (hnm l (Nat.le_refl _)).1.trans hA.2.2.2.1, ?_, hx7⟩, ?_, ⟨hnm, fun i hi => ?_, fun i t a b c => ?_⟩, ?_⟩
    · show upN _ _ _ _ = _
      rw [upN_s, hpl]
      exact nI_add p 2
    · intro i t hi ht hb y hy
      have hb2 : ¬ zb (s2.2.2.2.2.2.2 ||| sBit (nI (l + 1)) (nI j)) i t = 0 := hb
      rw [hor i t hi ht] at hb2
      by_cases q : i = l + 1 ∧ t = j
      · obtain ⟨rfl, rfl⟩ := q
        rw [show 4 - (l + 1) = d by omega]
        exact go_still _ _ _ _ _ _ (Nat.le_refl _) hy g2
      · rw [if_neg q] at hb2
        exact S2 i t hi ht hb2 y hy
    · show upN _ _ _ _ = _
      rw [upN_n (by omega)]
      exact hpp i hi
    · show zb (s2.2.2.2.2.2.2 ||| sBit (nI (l + 1)) (nI j)) i t = _
      rw [hor i t b c, if_neg (by omega)]
      exact hzz i t (by omega) b c
    · show (k + 1) + (98 * ((160 - x2.length) + (8 - zc (s2.2.2.2.2.2.2 ||| sBit (nI (l + 1)) (nI j)) (4 - d))) + PH (s2.2.2.2.2.2.2 ||| sBit (nI (l + 1)) (nI j)) x2.length d) ≤ 1 + (98 * ((160 - x2.length) + (8 - zc s.2.2.2.2.2.2 (4 - d))) + PH s.2.2.2.2.2.2 x2.length d)
      rw [hd4]
      have hu := zc_up (S := s2.2.2.2.2.2.2) hl5 hj (by rw [hzz (l + 1) j (Nat.le_refl _) (by omega) hj]; exact hz)
      have h8 := zc_le (S := s2.2.2.2.2.2.2 ||| sBit (nI (l + 1)) (nI j)) (i := l + 1)
      have hm := PH_mono (S := s2.2.2.2.2.2.2) (S' := s2.2.2.2.2.2.2 ||| sBit (nI (l + 1)) (nI j)) (Nat.le_refl x2.length) d (by omega) (fun i q1 q2 t ht => by
        rw [hor i t q2 ht]
        split
        · exact zb_le
        · exact Nat.le_refl _)
      rw [hzc] at hu
      omega
  · have e3 : pCl s2 (l + 1) = (s2.1, s2.2.1, l + 1, s2.2.2.2.1, upN s2.2.2.2.2.1 l (s2.2.2.2.2.1 l + 2), s2.2.2.2.2.2.1, s2.2.2.2.2.2.2) := by
      unfold pCl
      rw [if_neg (by rw [A2.1, hln]; exact fun z => hq ((nI_eq (by omega) (by omega)).1 z))]
      unfold pC2
      rw [if_pos (Nat.succ_pos l), Nat.add_sub_cancel]
    refine ⟨_, hRC _ e3, ⟨A2.1, A2.2.1, rfl, (hnm l (Nat.le_refl _)).1.trans hA.2.2.2.1, ?_, hx7⟩, S2, ⟨hnm, fun i hi => ?_, fun i t a b c => hzz i t (by omega) b c⟩, ?_⟩
    · show upN _ _ _ _ = _
      rw [upN_s, hpl]
      exact nI_add p 2
    · show upN _ _ _ _ = _
      rw [upN_n (by omega)]
      exact hpp i hi
    · show (k + 1) + (98 * ((160 - x2.length) + (8 - zc s2.2.2.2.2.2.2 (4 - d))) + PH s2.2.2.2.2.2.2 x2.length d) ≤ 1 + (98 * ((160 - x.length) + (8 - zc s.2.2.2.2.2.2 (4 - d))) + PH s.2.2.2.2.2.2 x.length d)
      rw [hd4, hzc]
      omega
theorem seg (hT : TH T to jp) : ∀ (d l : Nat), l + d = 4 → ∀ (nf dd n p q : Nat) (s : PS) (x : List Int32), n < 8 → to n = true → wtx (T n) (jp n) nf dd p q → q ≤ (T n).length → AT s l n p x → SS T to jp w vl s → SEG T to jp w vl d l n p q s x := by
  intro d
  induction d using Nat.strongRecOn with
  | _ d ihd =>
  intro l hsum nf
  induction nf with
  | zero =>
    intro dd n p q s x hn ht hw hq hA hS
    have e : p = q := hw
    subst e
    exact Or.inl ⟨0, s, x, RC_0, hA, hS, KP.refl, rfl, by omega⟩
  | succ nf ih =>
    intro dd n p q s x hn ht hw hq hA hS
    have hlen := (hT n hn ht).1
    have hel : s.2.2.1 - 1 = l := by rw [hA.2.2.1, Nat.add_sub_cancel]
    have hl0 : ¬ s.2.2.1 = 0 := by rw [hA.2.2.1]; omega
    rcases hw with e | ⟨c, f1, f2, h⟩ | ⟨c, f1, h⟩ | ⟨hc, hd5, m, e, cm, ce, jp1, jp2, h1, h2, h3⟩ | ⟨hp, ⟨c1, c2, c3, c4, c5⟩, h⟩
    · subst e
      exact Or.inl ⟨0, s, x, RC_0, hA, hS, KP.refl, rfl, by omega⟩
    · have hle := wtx_le h
      have hp : p < (T n).length := gd_lt c (by decide)
      have est := pSt_x (T := T) (to := to) (jp := jp) (w := w) (vl := vl) hA hn ht (by omega) hlen
      rw [if_neg (by omega), if_neg (by rw [c]; decide), if_pos c] at est
      have hOK : OKs T to jp s := hA.ok hn (by omega) (fun z => absurd z (by rw [c]; decide))
      by_cases hlg : 160 - x.length < (w (fdx (T n) p)).length
      · have e9 : pWf w s l ((T n).getD (p + 1) 0) = pTr s 3 := by
          unfold pWf
          rw [hA.1]
          exact if_pos (Or.inr hlg)
        rw [e9] at est
        exact Or.inr ⟨1, pTr s 3, 3, [(n, p)], RC_1 hl0 hA.2.1 hOK (by rw [hel]; exact est), trb1 hA hn (by omega) (Or.inr (Or.inr rfl)) (by rw [c]; decide), go_f0 (by omega) c hlg, by omega⟩
      · have e9 : pWf w s l ((T n).getD (p + 1) 0) = pMv (x ++ w (fdx (T n) p), s.2) l (nI (p + 3)) := by
          unfold pWf
          rw [hA.1, if_neg (fun z => z.elim (fun z => absurd z (Int32.not_lt.2 f1)) hlg), hA.2.2.2.2.1, show nI p + 3 = nI (p + 3) from nI_add p 3]
          rfl
        rw [e9] at est
        have hx6 := hA.2.2.2.2.2
        have hln : (x ++ w (fdx (T n) p)).length ≤ 160 := by rw [List.length_append]; omega
        refine SEG.trans (k := 1) (p1 := p + 3) (s1 := pMv (x ++ w (fdx (T n) p), s.2) l (nI (p + 3))) (x1 := x ++ w (fdx (T n) p)) (RC_1 hl0 hA.2.1 hOK (by rw [hel]; exact est)) ⟨fun _ _ => ⟨rfl, rfl⟩, fun i hi => upN_n (by omega), fun _ _ _ _ _ => rfl⟩ (go_f1 (by omega) c hlg) ?_ (by omega) hle (ih dd n (p + 3) q _ _ hn ht h hq ⟨rfl, hA.2.1, hA.2.2.1, hA.2.2.2.1, upN_s, hln⟩ hS)
        have hm := PH_S (S := s.2.2.2.2.2.2) (m := x.length) (m' := (x ++ w (fdx (T n) p)).length) (d := d) (by simp) (by omega)
        show 1 + PH s.2.2.2.2.2.2 _ d ≤ _
        omega
    · have hle := wtx_le h
      have hp : p < (T n).length := gd_lt c (by decide)
      obtain ⟨j, hj, ec⟩ := dg_j (k := 7) f1 (by decide)
      have ed : dgt (T n) p = j := by unfold dgt; rw [ec, dg_sub, nI_clamp (by omega)]
      have est := pSt_x (T := T) (to := to) (jp := jp) (w := w) (vl := vl) hA hn ht (by omega) hlen
      rw [if_neg (by omega), if_pos c, ec, dg_sub] at est
      have hOK : OKs T to jp s := hA.ok hn (by omega) (fun z => absurd z (by rw [c]; decide))
      have hno : ¬ ((T n).getD p 0 = 91 ∨ (T n).getD p 0 = 124) := by rw [c]; decide
      have hpl : ¬ (T n).length ≤ p := by omega
      by_cases t : to j = true
      · have t9 : to (dgt (T n) p) = true := by rw [ed]; exact t
        have hto : isTo to (nI j) := ⟨nI_pos (by omega), nI_ge (a := j) (b := 8) (by omega) (by decide), by rw [nI_clamp (by omega)]; exact t⟩
        cases d with
        | zero =>
          have e9 : pEn to s l (nI j) = pTr s 2 := by
            unfold pEn
            rw [if_neg (not_not_intro hto), if_pos (by rw [hA.2.2.1]; omega)]
          rw [e9] at est
          exact Or.inr ⟨1, pTr s 2, 2, [(n, p)], RC_1 hl0 hA.2.1 hOK (by rw [hel]; exact est), trb1 hA hn (by omega) (Or.inr (Or.inl rfl)) hno, go_at1 hpl c t9, by omega⟩
        | succ d =>
          have h5 : ¬ 5 ≤ s.2.2.1 := by rw [hA.2.2.1]; omega
          by_cases hz : zb s.2.2.2.2.2.2 (l + 1) j = 0
          · have hz2 : s.2.2.2.2.2.2 &&& sBit (nI s.2.2.1) (nI j) = 0 := by
              rw [hA.2.2.1]
              refine Classical.byContradiction fun z => ?_
              have : zb s.2.2.2.2.2.2 (l + 1) j = 1 := if_neg z
              omega
            have e9 : pEn to s l (nI j) = pOp s (nI j) := by
              unfold pEn
              rw [if_neg (not_not_intro hto), if_neg h5, if_pos hz2]
            rw [e9] at est
            have R1 : RC T to jp w vl 1 s (pOp s (nI j)) := RC_1 hl0 hA.2.1 hOK (by rw [hel]; exact est)
            have e1 := opn_e (j := j) hA (by omega)
            have esil : (pOp s (nI j)).2.2.2.2.2.2 = s.2.2.2.2.2.2 := by rw [e1]
            have S1 : SS T to jp w vl (pOp s (nI j)) := by unfold SS; rw [esil]; exact hS
            obtain ⟨hlj, nj, hwj⟩ := hT j (by omega) t
            have hG := ihd d (by omega) (l + 1) (by omega) nj 0 j 0 (T j).length (pOp s (nI j)) x (by omega) t hwj (Nat.le_refl _) (hA.opn (by omega)) S1
            rcases hG with ⟨k, s2, x2, R2, A2, S2, K2, g2, b2⟩ | ⟨k, s2, cc, lv, R2, B2, g2, b2⟩
            · rw [go_end (Nat.le_refl _)] at g2
              rw [esil] at b2
              have g9 : go T to jp w vl d (dgt (T n) p) 0 x = .inl x2 := by rw [ed]; exact g2
              obtain ⟨s3, R3, A3, S3, K3, b3⟩ := cls_st (k := k) hT hsum (by omega) hA hS (by omega) t hz A2 S2 K2 g2 (by omega)
              refine SEG.trans (k := 1 + (k + 1)) (p1 := p + 2) (x1 := x2) (RC_t R1 (RC_t R2 R3)) K3 (go_at3 hpl c t9 g9) (by omega) (by omega) hle (ih dd n (p + 2) q _ _ hn ht h hq A3 S3)
            · rw [esil] at b2
              have g9 : go T to jp w vl d (dgt (T n) p) 0 x = .inr (cc, lv) := by rw [ed]; exact g2
              refine Or.inr ⟨1 + k, s2, cc, (n, p) :: lv, RC_t R1 R2, ?_, go_at2 hpl c t9 g9, ?_⟩
              · obtain ⟨t1, t2, t3, t4, t5, t6, t7⟩ := B2
                rw [e1] at t5
                refine ⟨t1, t2, by rw [t3]; simp; omega, by simp, fun i hi => ⟨((t5 i (by omega)).1).trans (upN_n (by omega)), ((t5 i (by omega)).2).trans (upN_n (by omega))⟩, fun i hi => ?_, t7⟩
                cases i with
                | zero => exact ⟨((t5 l (by omega)).1).trans ((upN_n (by omega)).trans hA.2.2.2.1), ((t5 l (by omega)).2).trans ((upN_n (by omega)).trans hA.2.2.2.2.1)⟩
                | succ i =>
                  have h9 := t6 i (by simp at hi; omega)
                  rw [show l + (i + 1) = l + 1 + i by omega]
                  exact h9
              · show 1 + k ≤ (q - p) + (98 * ((160 - x.length) + (8 - zc s.2.2.2.2.2.2 (4 - d))) + PH s.2.2.2.2.2.2 x.length d) + 98 * (d + 1)
                omega
          · have hz2 : ¬ s.2.2.2.2.2.2 &&& sBit (nI s.2.2.1) (nI j) = 0 := by
              rw [hA.2.2.1]
              exact fun z => hz (if_pos z)
            have e9 : pEn to s l (nI j) = pMv s l (nI (p + 2)) := by
              unfold pEn
              rw [if_neg (not_not_intro hto), if_neg h5, if_neg hz2, hA.2.2.2.2.1, show nI p + 2 = nI (p + 2) from nI_add p 2]
            rw [e9] at est
            have g2 := hS (l + 1) j (by omega) (by omega) hz x hA.2.2.2.2.2
            rw [show 4 - (l + 1) = d by omega] at g2
            have g9 : go T to jp w vl d (dgt (T n) p) 0 x = .inl x := by rw [ed]; exact g2
            refine SEG.trans (k := 1) (p1 := p + 2) (x1 := x) (RC_1 hl0 hA.2.1 hOK (by rw [hel]; exact est)) KP.mv (go_at3 hpl c t9 g9) ?_ (by omega) hle (ih dd n (p + 2) q _ _ hn ht h hq hA.mv hS)
            show 1 + PH s.2.2.2.2.2.2 _ _ ≤ _
            omega
      · have e9 : pEn to s l (nI j) = pTr s 1 := by
          unfold pEn
          rw [if_pos (fun z : isTo to (nI j) => t (by have := z.2.2; rw [nI_clamp (by omega)] at this; exact this))]
        rw [e9] at est
        exact Or.inr ⟨1, pTr s 1, 1, [(n, p)], RC_1 hl0 hA.2.1 hOK (by rw [hel]; exact est), trb1 hA hn (by omega) (Or.inl rfl) hno, go_at0 hpl c (by rw [ed]; exact t), by omega⟩
    · have l1 := wtx_le h1
      have l2 := wtx_le h2
      have l3 := wtx_le h3
      have l4 := hc.2.2.2.2.2.1
      have l5 := hc.2.2.2.2.2.2
      have kM : ∀ {s : PS} {p q : Nat}, 1 + PH (pMv s l (nI q)).2.2.2.2.2.2 x.length d ≤ 1 + PH s.2.2.2.2.2.2 x.length d := fun {_ _ _} => Nat.le_refl _
      by_cases hh : hld (hVal vl ((T n).getD (p + 1) 0)) ((T n).getD (p + 2) 0) (hN (T n) p)
      · have em : mvT T jp vl n p = some (hE (T n) p + 1) := by rw [mv_a hc.1, if_pos hh]
        obtain ⟨R1, A1, S1, K1, g1⟩ := st_mv (d := d) hT hA hS hn ht (by omega) em (by omega) (fun _ => hc) (fun _ => ⟨_, jp1⟩)
        refine SEG.trans (k := 1) (p1 := hE (T n) p + 1) (x1 := x) R1 K1 g1 (by show 1 + PH s.2.2.2.2.2.2 _ _ ≤ _; omega) (by omega) (by omega) ?_
        rcases ih (dd + 1) n (hE (T n) p + 1) m _ x hn ht h1 (by omega) A1 S1 with ⟨k, s2, x2, R2, A2, S2, K2, g2, b2⟩ | ⟨k, s2, cc, lv, R2, B2, g2, b2⟩
        · have em2 : mvT T jp vl n m = some (e + 1) := by rw [mv_b cm, jp2]; rfl
          obtain ⟨R3, A3, S3, K3, g3⟩ := st_mv (d := d) hT A2 S2 hn ht (by omega) em2 (by omega) (fun z => by rw [cm] at z; exact absurd z (by decide)) (fun _ => ⟨_, jp2⟩)
          refine SEG.trans (k := k + 1) (p1 := e + 1) (x1 := x2) (RC_t R2 R3) (K2.trans K3) (g2.trans g3) (by show k + 1 + PH s2.2.2.2.2.2.2 _ _ ≤ _; omega) (by omega) (by omega) (ih dd n (e + 1) q _ x2 hn ht h3 hq A3 S3)
        · exact Or.inr ⟨k, s2, cc, lv, R2, B2, g2, by omega⟩
      · have em : mvT T jp vl n p = some (m + 1) := by rw [mv_a hc.1, if_neg hh, jp1]; rfl
        obtain ⟨R1, A1, S1, K1, g1⟩ := st_mv (d := d) hT hA hS hn ht (by omega) em (by omega) (fun _ => hc) (fun _ => ⟨_, jp1⟩)
        refine SEG.trans (k := 1) (p1 := m + 1) (x1 := x) R1 K1 g1 (by show 1 + PH s.2.2.2.2.2.2 _ _ ≤ _; omega) (by omega) (by omega) ?_
        rcases ih (dd + 1) n (m + 1) e _ x hn ht h2 (by omega) A1 S1 with ⟨k, s2, x2, R2, A2, S2, K2, g2, b2⟩ | ⟨k, s2, cc, lv, R2, B2, g2, b2⟩
        · have em2 : mvT T jp vl n e = some (e + 1) := mv_e ce
          obtain ⟨R3, A3, S3, K3, g3⟩ := st_mv (d := d) hT A2 S2 hn ht (by omega) em2 (by omega) (fun z => by rw [ce] at z; exact absurd z (by decide)) (fun z => by rw [ce] at z; exact absurd z (by decide))
          refine SEG.trans (k := k + 1) (p1 := e + 1) (x1 := x2) (RC_t R2 R3) (K2.trans K3) (g2.trans g3) (by show k + 1 + PH s2.2.2.2.2.2.2 _ _ ≤ _; omega) (by omega) (by omega) (ih dd n (e + 1) q _ x2 hn ht h3 hq A3 S3)
        · exact Or.inr ⟨k, s2, cc, lv, R2, B2, g2, by omega⟩
    · have hle := wtx_le h
      have est := pSt_x (T := T) (to := to) (jp := jp) (w := w) (vl := vl) hA hn ht (by omega) hlen
      rw [if_neg (by omega), if_neg c2, if_neg c1, if_neg c3, if_neg c4, if_neg c5] at est
      have hOK : OKs T to jp s := hA.ok hn (by omega) (fun z => z.elim (fun z => absurd z c3) (fun z => absurd z c4))
      have em : mvT T jp vl n p = none := mv_s c3 c4 c5
      by_cases hlg : 160 ≤ x.length
      · have e9 : pWs s l ((T n).getD p 0) = pTr s 3 := by
          unfold pWs
          rw [hA.1]
          exact if_pos hlg
        rw [e9] at est
        exact Or.inr ⟨1, pTr s 3, 3, [(n, p)], RC_1 hl0 hA.2.1 hOK (by rw [hel]; exact est), trb1 hA hn (by omega) (Or.inr (Or.inr rfl)) (fun z => z.elim c3 c4), go_s0 (by omega) c2 c1 em hlg, by omega⟩
      · have e9 : pWs s l ((T n).getD p 0) = pMv (x ++ [(T n).getD p 0], s.2) l (nI (p + 1)) := by
          unfold pWs
          rw [hA.1, if_neg hlg, hA.2.2.2.2.1, nI_1]
        rw [e9] at est
        have hln : (x ++ [(T n).getD p 0]).length ≤ 160 := by simp; omega
        refine SEG.trans (k := 1) (p1 := p + 1) (s1 := pMv (x ++ [(T n).getD p 0], s.2) l (nI (p + 1))) (x1 := x ++ [(T n).getD p 0]) (RC_1 hl0 hA.2.1 hOK (by rw [hel]; exact est)) ⟨fun _ _ => ⟨rfl, rfl⟩, fun i hi => upN_n (by omega), fun _ _ _ _ _ => rfl⟩ (go_s1 (by omega) c2 c1 em hlg) ?_ (by omega) hle (ih dd n (p + 1) q _ _ hn ht h hq ⟨rfl, hA.2.1, hA.2.2.1, hA.2.2.2.1, upN_s, hln⟩ hS)
        have hm := PH_S (S := s.2.2.2.2.2.2) (m := x.length) (m' := (x ++ [(T n).getD p 0]).length) (d := d) (by simp) (by omega)
        show 1 + PH s.2.2.2.2.2.2 _ d ≤ _
        omega
end WRT3
/-- what the writing leaves -/
def WOK (s : PS) (r : TxR) : Prop := match r with
  | .inl x => s.1 = x ∧ s.2.1 = 0
  | .inr r => s.2.1 = r.1 ∧ (r.1 = 1 ∨ r.1 = 2 ∨ r.1 = 3) ∧ s.2.2.1 = r.2.length ∧ ∀ j, j < r.2.length → s.2.2.2.1 j = nI (r.2.getD j (0, 0)).1 ∧ s.2.2.2.2.1 j = nI (r.2.getD j (0, 0)).2
theorem wr_spec {T : Nat → List Int32} {to : Nat → Bool} {jp : Nat → Nat → Option Nat} {w : Nat → List Int32} {vl : Nat → Nat} (hT : TH T to jp) {t : Nat} (h8 : t < 8) (ht : to t = true) (s0 : PS) : JRun T to jp w vl (pOp (ps0 s0) (nI t)) ∧ WOK (pRun T to jp w vl 1000000 (pOp (ps0 s0) (nI t))) (go T to jp w vl 4 t 0 []) := by
  obtain ⟨hl, nf, hw⟩ := hT t h8 ht
  have hA : AT (pOp (ps0 s0) (nI t)) 0 t 0 [] := ⟨rfl, rfl, rfl, upN_s (f := s0.2.2.2.1) (a := 0) (x := nI t), upN_s (f := s0.2.2.2.2.1) (a := 0) (x := 0), Nat.zero_le _⟩
  have hS : SS T to jp w vl (pOp (ps0 s0) (nI t)) := fun i u hi hu hb => absurd (if_pos (Int64.zero_and) : zb 0 i u = 0) hb
  have fin : ∀ k s', RC T to jp w vl k (pOp (ps0 s0) (nI t)) s' → k ≤ 1000000 → (s'.2.2.1 = 0 ∨ ¬ s'.2.1 = 0) → OKs T to jp s' → JRun T to jp w vl (pOp (ps0 s0) (nI t)) ∧ pRun T to jp w vl 1000000 (pOp (ps0 s0) (nI t)) = s' := by
    intro k s' hR hk hd hO
    have hst : ∀ N, pRun T to jp w vl N s' = s' := fun N => by
      cases N with
      | zero => rfl
      | succ N => exact if_pos hd
    refine ⟨fun n => ?_, ?_⟩
    · by_cases q : n < k
      · exact hR.2 n q
      · obtain ⟨e, rfl⟩ := Nat.exists_eq_add_of_le (Nat.le_of_not_lt q)
        rw [hR.1, hst]
        exact hO
    · obtain ⟨e, he⟩ := Nat.exists_eq_add_of_le hk
      rw [he, hR.1, hst]
  have hPH : PH (pOp (ps0 s0) (nI t)).2.2.2.2.2.2 ([] : List Int32).length 4 ≤ 65856 := PH_le 4
  rcases seg (w := w) (vl := vl) hT 4 0 rfl nf 0 t 0 (T t).length _ [] h8 ht hw (Nat.le_refl _) hA hS with ⟨k, s2, x2, R2, A2, S2, K2, g2, b2⟩ | ⟨k, s2, cc, lv, R2, B2, g2, b2⟩
  · rw [go_end (Nat.le_refl _)] at g2
    have est := pSt_x (T := T) (to := to) (jp := jp) (w := w) (vl := vl) A2 h8 ht (by omega) hl
    rw [if_pos (Nat.le_refl _)] at est
    have hel : s2.2.2.1 - 1 = 0 := by rw [A2.2.2.1]
    have e0 : (T t).getD (T t).length 0 = 0 := by simp [List.getD_eq_getElem?_getD]
    have R3 : RC T to jp w vl 1 s2 (pCl s2 0) := RC_1 (by rw [A2.2.2.1]; omega) A2.2.1 (A2.ok h8 (by omega) (fun q => by
      rw [e0] at q
      exact absurd q (by decide))) (by rw [hel]; exact est)
    have e3 : (pCl s2 0).1 = s2.1 ∧ (pCl s2 0).2.1 = s2.2.1 ∧ (pCl s2 0).2.2.1 = 0 ∧ (pCl s2 0).2.2.2.1 = s2.2.2.2.1 ∧ (pCl s2 0).2.2.2.2.1 = s2.2.2.2.2.1 := by
      unfold pCl pC2
      split
      · exact ⟨rfl, rfl, rfl, rfl, rfl⟩
      · exact ⟨rfl, rfl, rfl, rfl, rfl⟩
    obtain ⟨q1, q2, q3, q4, q5⟩ := e3
    obtain ⟨f1, f2⟩ := fin (k + 1) (pCl s2 0) (RC_t R2 R3) (by omega) (Or.inl q3) (fun _ => by
      unfold JOK
      rw [q3, q4, q5, Nat.zero_sub, A2.2.2.2.1, A2.2.2.2.2.1, nI_clamp (by omega), lAt_nI (by omega), e0]
      intro q
      exact absurd q (by decide))
    refine ⟨f1, ?_⟩
    rw [f2, g2]
    exact ⟨q1.trans A2.1, q2.trans A2.2.1⟩
  · obtain ⟨t1, t2, t3, t4, t5, t6, t7⟩ := B2
    have hc0 : ¬ s2.2.1 = 0 := by
      rw [t1]
      rcases t2 with rfl | rfl | rfl <;> decide
    obtain ⟨f1, f2⟩ := fin k s2 R2 (by omega) (Or.inr hc0) t7
    refine ⟨f1, ?_⟩
    rw [f2, g2]
    exact ⟨t1, t2, by rw [t3, Nat.zero_add], fun j hj => by have := t6 j hj; rw [Nat.zero_add] at this; exact this⟩
