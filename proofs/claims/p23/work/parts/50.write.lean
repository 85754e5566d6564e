/-! ===== Press: its writing is the text ===== -/
/-! the bits of silence -/
def zb (S : Int64) (i t : Nat) : Nat := if S &&& sBit (nI i) (nI t) = 0 then 0 else 1
theorem sbz_tab : ((List.range 5).all fun l => (List.range 8).all fun u => (List.range 5).all fun i => (List.range 8).all fun t => if i = l ∧ t = u then decide (sBit (nI l) (nI u) &&& sBit (nI i) (nI t) ≠ 0) else decide (sBit (nI l) (nI u) &&& sBit (nI i) (nI t) = 0)) = true := by decide +kernel
theorem sbz_at {l u i t : Nat} (hl : l < 5) (hu : u < 8) (hi : i < 5) (ht : t < 8) : (sBit (nI l) (nI u) &&& sBit (nI i) (nI t) = 0) ↔ ¬ (i = l ∧ t = u) := by
  have h := sbz_tab
  have h1 := List.all_eq_true.1 (List.all_eq_true.1 (List.all_eq_true.1 (List.all_eq_true.1 h l (List.mem_range.2 hl)) u (List.mem_range.2 hu)) i (List.mem_range.2 hi)) t (List.mem_range.2 ht)
  by_cases e : i = l ∧ t = u
  · rw [if_pos e] at h1
    exact ⟨fun q => absurd q (of_decide_eq_true h1), fun q => absurd e q⟩
  · rw [if_neg e] at h1
    exact ⟨fun _ => e, fun _ => of_decide_eq_true h1⟩
theorem zb_or {S : Int64} {l u i t : Nat} (hl : l < 5) (hu : u < 8) (hi : i < 5) (ht : t < 8) : zb (S ||| sBit (nI l) (nI u)) i t = if i = l ∧ t = u then 1 else zb S i t := by
  have e : (S ||| sBit (nI l) (nI u)) &&& sBit (nI i) (nI t) = (S &&& sBit (nI i) (nI t)) ||| (sBit (nI l) (nI u) &&& sBit (nI i) (nI t)) := Int64.toBitVec_inj.1 BitVec.and_or_distrib_right
  have h := sbz_at hl hu hi ht
  unfold zb
  rw [e]
  by_cases q : i = l ∧ t = u
  · rw [if_pos q, if_neg (fun z => (h.1 (Int64.or_eq_zero_iff.1 z).2) q)]
  · rw [if_neg q, h.2 q]
    have e2 : S &&& sBit (nI i) (nI t) ||| 0 = S &&& sBit (nI i) (nI t) := Int64.or_zero
    rw [e2]
theorem zb_le {S : Int64} {i t : Nat} : zb S i t ≤ 1 := by unfold zb; split <;> omega
def zc (S : Int64) (i : Nat) : Nat := zb S i 0 + zb S i 1 + zb S i 2 + zb S i 3 + zb S i 4 + zb S i 5 + zb S i 6 + zb S i 7
theorem zc_le {S : Int64} {i : Nat} : zc S i ≤ 8 := by
  have h0 := zb_le (S := S) (i := i) (t := 0); have h1 := zb_le (S := S) (i := i) (t := 1); have h2 := zb_le (S := S) (i := i) (t := 2); have h3 := zb_le (S := S) (i := i) (t := 3)
  have h4 := zb_le (S := S) (i := i) (t := 4); have h5 := zb_le (S := S) (i := i) (t := 5); have h6 := zb_le (S := S) (i := i) (t := 6); have h7 := zb_le (S := S) (i := i) (t := 7)
  unfold zc; omega
theorem zc_mono {S S' : Int64} {i : Nat} (h : ∀ t, t < 8 → zb S i t ≤ zb S' i t) : zc S i ≤ zc S' i := by
  have h0 := h 0 (by decide); have h1 := h 1 (by decide); have h2 := h 2 (by decide); have h3 := h 3 (by decide)
  have h4 := h 4 (by decide); have h5 := h 5 (by decide); have h6 := h 6 (by decide); have h7 := h 7 (by decide)
  unfold zc; omega
theorem zc_up {S : Int64} {l u : Nat} (hl : l < 5) (hu : u < 8) (h : zb S l u = 0) : zc S l + 1 ≤ zc (S ||| sBit (nI l) (nI u)) l := by
  have g : ∀ t, t < 8 → zb (S ||| sBit (nI l) (nI u)) l t = if t = u then 1 else zb S l t := fun t ht => by
    rw [zb_or hl hu hl ht]
    by_cases q : t = u
    · rw [if_pos ⟨rfl, q⟩, if_pos q]
    · rw [if_neg (fun z => q z.2), if_neg q]
  have h0 := g 0 (by decide); have h1 := g 1 (by decide); have h2 := g 2 (by decide); have h3 := g 3 (by decide)
  have h4 := g 4 (by decide); have h5 := g 5 (by decide); have h6 := g 6 (by decide); have h7 := g 7 (by decide)
  unfold zc
  rw [h0, h1, h2, h3, h4, h5, h6, h7]
  have hu' : u = 0 ∨ u = 1 ∨ u = 2 ∨ u = 3 ∨ u = 4 ∨ u = 5 ∨ u = 6 ∨ u = 7 := by omega
  rcases hu' with rfl | rfl | rfl | rfl | rfl | rfl | rfl | rfl <;> simp <;> omega
/-- what steps are left on the levels below -/
def PH (S : Int64) (m : Nat) : Nat → Nat
  | 0 => 0
  | j + 1 => 98 * ((160 - m) + (8 - zc S (4 - j))) + PH S m j
theorem PH_mono {S S' : Int64} {m m' : Nat} (hm : m ≤ m') : ∀ j, j ≤ 4 → (∀ i, 4 - j < i → i ≤ 4 → ∀ t, t < 8 → zb S i t ≤ zb S' i t) → PH S' m' j ≤ PH S m j
  | 0, _, _ => Nat.le_refl _
  | j + 1, hj, h => by
    have h1 := PH_mono hm j (by omega) (fun i q1 q2 => h i (by omega) q2)
    have h2 := zc_mono (h (4 - j) (by omega) (by omega))
    have h3 : 160 - m' + (8 - zc S' (4 - j)) ≤ 160 - m + (8 - zc S (4 - j)) := by omega
    have h4 := Nat.mul_le_mul_left 98 h3
    show 98 * _ + _ ≤ 98 * _ + _
    omega
theorem PH_le {S : Int64} {m : Nat} : ∀ j, PH S m j ≤ 16464 * j
  | 0 => Nat.le_refl _
  | j + 1 => by
    have h1 := PH_le (S := S) (m := m) j
    show 98 * _ + _ ≤ _
    omega
/-! numbers of choices -/
theorem dg_j {c : Int32} {k : Nat} (h : isDg c (nI (48 + k))) (hk : k ≤ 9) : ∃ j, j ≤ k ∧ c = nI (48 + j) := by
  have h1 : (48 : Int) ≤ c.toInt := Int32.le_iff_toInt_le.1 h.1
  have h2 : c.toInt ≤ (nI (48 + k)).toInt := Int32.le_iff_toInt_le.1 h.2
  rw [nI_toInt (by omega)] at h2
  refine ⟨c.toInt.toNat - 48, by omega, ?_⟩
  apply Int32.toInt_inj.1
  rw [nI_toInt (by omega)]
  omega
theorem dg_sub (j : Nat) : nI (48 + j) - 48 = nI j := by
  have e : nI (48 + j) - nI 48 = nI (48 + j - 48) := pk_sub (by omega)
  rw [Nat.add_sub_cancel_left] at e
  exact e
theorem cN1 {A : List Int32} : ∀ (m p a : Nat), m ≤ 3 → a < 10 ^ (7 - m) → p + m < 1000 → cNum A m (nI p) (nI a) = (nI (tNum A 57 m p (nI a)).1, (tNum A 57 m p (nI a)).2) := by
  intro m
  induction m with
  | zero => intro p a _ _ _; rfl
  | succ m ih =>
    intro p a hm ha hp
    have el : lAt A (nI p) = A.getD p 0 := lAt_nI (by omega)
    have hb : 10 ^ (7 - m) ≤ 10 ^ 7 := Nat.pow_le_pow_right (by decide) (by omega)
    have hs : 10 ^ (7 - m) = 10 * 10 ^ (7 - (m + 1)) := by rw [← Nat.pow_succ']; congr 1; omega
    by_cases q : isDg (A.getD p 0) 57
    · have e1 : cNum A (m + 1) (nI p) (nI a) = cNum A m (nI p + 1) (nI a * 10 + (lAt A (nI p) - 48)) := if_pos (by rw [el]; exact q)
      have e2 : tNum A 57 (m + 1) p (nI a) = tNum A 57 m (p + 1) ((if nI a = -1 then 0 else nI a * 10) + (A.getD p 0 - 48)) := if_pos q
      obtain ⟨j, hj, ec⟩ := dg_j (k := 9) q (by decide)
      rw [e1, e2, if_neg (m1_ne (by omega)), el, ec, dg_sub, show nI a * 10 = nI (a * 10) from pk_mul a 10, nI_add, nI_1]
      exact ih (p + 1) (a * 10 + j) (by omega) (by omega) (by omega)
    · have e1 : cNum A (m + 1) (nI p) (nI a) = (nI p, nI a) := if_neg (by rw [el]; exact q)
      have e2 : tNum A 57 (m + 1) p (nI a) = (p, nI a) := if_neg q
      rw [e1, e2]
theorem cN3 {A : List Int32} {p : Nat} (hp : p < 900) (h : ¬ (tNum A 57 3 p (-1)).2 = -1) : cNum A 3 (nI p) 0 = (nI (tNum A 57 3 p (-1)).1, (tNum A 57 3 p (-1)).2) := by
  have el : lAt A (nI p) = A.getD p 0 := lAt_nI (by omega)
  by_cases q : isDg (A.getD p 0) 57
  · have e1 : cNum A 3 (nI p) 0 = cNum A 2 (nI p + 1) (0 * 10 + (lAt A (nI p) - 48)) := if_pos (by rw [el]; exact q)
    have e2 : tNum A 57 3 p (-1) = tNum A 57 2 (p + 1) ((if (-1 : Int32) = -1 then 0 else (-1) * 10) + (A.getD p 0 - 48)) := if_pos q
    obtain ⟨j, hj, ec⟩ := dg_j (k := 9) q (by decide)
    rw [e1, e2, if_pos rfl, el, ec, dg_sub, show (0 : Int32) * 10 + nI j = nI (0 * 10 + j) from nI_add 0 j, show (0 : Int32) + nI j = nI (0 + j) from nI_add 0 j, nI_1, Nat.zero_mul]
    exact cN1 2 (p + 1) (0 + j) (by decide) (by omega) (by omega)
  · have e2 : tNum A 57 3 p (-1) = (p, -1) := if_neg q
    rw [e2] at h
    exact absurd rfl h
section WRT
variable (T : Nat → List Int32) (to : Nat → Bool) (jp : Nat → Nat → Option Nat) (w : Nat → List Int32) (vl : Nat → Nat)
def TH : Prop := ∀ n, n < 8 → to n = true → (T n).length ≤ 96 ∧ ∃ nf, wtx (T n) (jp n) nf 0 0 (T n).length
def OKs (s : PS) : Prop := isTo to (s.2.2.2.1 (s.2.2.1 - 1)) → JOK T jp s (s.2.2.1 - 1)
def RC (k : Nat) (s s' : PS) : Prop := (∀ N, pRun T to jp w vl (k + N) s = pRun T to jp w vl N s') ∧ ∀ j, j < k → OKs T to jp (pRun T to jp w vl j s)
def AT (s : PS) (l n p : Nat) (x : List Int32) : Prop := s.1 = x ∧ s.2.1 = 0 ∧ s.2.2.1 = l + 1 ∧ s.2.2.2.1 l = nI n ∧ s.2.2.2.2.1 l = nI p ∧ x.length ≤ 160
def KP (l : Nat) (s s' : PS) : Prop := (∀ i, i ≤ l → s'.2.2.2.1 i = s.2.2.2.1 i ∧ s'.2.2.2.2.2.1 i = s.2.2.2.2.2.1 i) ∧ (∀ i, i < l → s'.2.2.2.2.1 i = s.2.2.2.2.1 i) ∧ ∀ i t, i ≤ l → i ≤ 4 → t < 8 → zb s'.2.2.2.2.2.2 i t = zb s.2.2.2.2.2.2 i t
def SS (s : PS) : Prop := ∀ i t, i ≤ 4 → t < 8 → ¬ zb s.2.2.2.2.2.2 i t = 0 → ∀ y : List Int32, y.length ≤ 160 → go T to jp w vl (4 - i) t 0 y = .inl y
def TRB (l : Nat) (s s' : PS) (c : Int32) (lv : List (Nat × Nat)) : Prop := s'.2.1 = c ∧ (c = 1 ∨ c = 2 ∨ c = 3) ∧ s'.2.2.1 = l + lv.length ∧ 0 < lv.length ∧ (∀ i, i < l → s'.2.2.2.1 i = s.2.2.2.1 i ∧ s'.2.2.2.2.1 i = s.2.2.2.2.1 i) ∧
  (∀ j, j < lv.length → s'.2.2.2.1 (l + j) = nI (lv.getD j (0, 0)).1 ∧ s'.2.2.2.2.1 (l + j) = nI (lv.getD j (0, 0)).2) ∧ OKs T to jp s'
/-- the writing from p to q on the level l: it comes there, or to trouble -/
def SEG (d l n p q : Nat) (s : PS) (x : List Int32) : Prop :=
  (∃ k s' x', RC T to jp w vl k s s' ∧ AT s' l n q x' ∧ SS T to jp w vl s' ∧ KP l s s' ∧ go T to jp w vl d n p x = go T to jp w vl d n q x' ∧ k + PH s'.2.2.2.2.2.2 x'.length d ≤ (q - p) + PH s.2.2.2.2.2.2 x.length d) ∨
  (∃ k s' c lv, RC T to jp w vl k s s' ∧ TRB T to jp l s s' c lv ∧ go T to jp w vl d n p x = .inr (c, lv) ∧ k ≤ (q - p) + PH s.2.2.2.2.2.2 x.length d + 98 * d)
end WRT
section WRT2
variable {T : Nat → List Int32} {to : Nat → Bool} {jp : Nat → Nat → Option Nat} {w : Nat → List Int32} {vl : Nat → Nat}
theorem RC_0 {s : PS} : RC T to jp w vl 0 s s := ⟨fun N => by rw [Nat.zero_add], fun j hj => absurd hj (Nat.not_lt_zero j)⟩
theorem RC_t {k j : Nat} {s s1 s2 : PS} (h : RC T to jp w vl k s s1) (g : RC T to jp w vl j s1 s2) : RC T to jp w vl (k + j) s s2 := by
  refine ⟨fun N => by rw [Nat.add_assoc, h.1, g.1], fun i hi => ?_⟩
  by_cases q : i < k
  · exact h.2 i q
  · obtain ⟨e, rfl⟩ := Nat.exists_eq_add_of_le (Nat.le_of_not_lt q)
    rw [h.1]
    exact g.2 e (by omega)
theorem RC_1 {s s' : PS} (h1 : ¬ s.2.2.1 = 0) (h2 : s.2.1 = 0) (h3 : OKs T to jp s) (e : pSt T to jp w vl s (s.2.2.1 - 1) = s') : RC T to jp w vl 1 s s' := by
  refine ⟨fun N => ?_, fun j hj => ?_⟩
  · rw [Nat.add_comm]
    have e1 : pRun T to jp w vl (N + 1) s = pRun T to jp w vl N (pSt T to jp w vl s (s.2.2.1 - 1)) := if_neg (fun z => z.elim h1 (fun z => z h2))
    rw [e1, e]
  · have : j = 0 := by omega
    subst this
    exact h3
theorem KP.refl {l : Nat} {s : PS} : KP l s s := ⟨fun _ _ => ⟨rfl, rfl⟩, fun _ _ => rfl, fun _ _ _ _ _ => rfl⟩
theorem KP.trans {l : Nat} {s s1 s2 : PS} (h : KP l s s1) (g : KP l s1 s2) : KP l s s2 := ⟨fun i hi => ⟨(g.1 i hi).1.trans (h.1 i hi).1, (g.1 i hi).2.trans (h.1 i hi).2⟩, fun i hi => (g.2.1 i hi).trans (h.2.1 i hi), fun i t a b c => (g.2.2 i t a b c).trans (h.2.2 i t a b c)⟩
theorem SEG.trans {d l n p p1 q k : Nat} {s s1 : PS} {x x1 : List Int32} (hR : RC T to jp w vl k s s1) (hK : KP l s s1) (hg : go T to jp w vl d n p x = go T to jp w vl d n p1 x1) (hk : k + PH s1.2.2.2.2.2.2 x1.length d ≤ (p1 - p) + PH s.2.2.2.2.2.2 x.length d) (h1 : p ≤ p1) (h2 : p1 ≤ q) (g : SEG T to jp w vl d l n p1 q s1 x1) : SEG T to jp w vl d l n p q s x := by
  rcases g with ⟨j, s2, x2, g1, g2, g3, g4, g5, g6⟩ | ⟨j, s2, c, lv, g1, g2, g3, g4⟩
  · exact Or.inl ⟨k + j, s2, x2, RC_t hR g1, g2, g3, hK.trans g4, hg.trans g5, by omega⟩
  · refine Or.inr ⟨k + j, s2, c, lv, RC_t hR g1, ?_, hg.trans g3, by omega⟩
    obtain ⟨t1, t2, t3, t4, t5, t6, t7⟩ := g2
    exact ⟨t1, t2, t3, t4, fun i hi => ⟨(t5 i hi).1.trans (hK.1 i (by omega)).1, (t5 i hi).2.trans (hK.2.1 i hi)⟩, t6, t7⟩
theorem AT.ok {s : PS} {l n p : Nat} {x : List Int32} (h : AT s l n p x) (hn : n < 8) (hp : p < 1000) (hj : ((T n).getD p 0 = 91 ∨ (T n).getD p 0 = 124) → p < 96 ∧ ∃ u, jp n p = some u) : OKs T to jp s := by
  obtain ⟨h1, h2, h3, h4, h5, h6⟩ := h
  intro _
  unfold JOK
  rw [h3, Nat.add_sub_cancel, h4, h5, nI_clamp (by omega), lAt_nI (by omega)]
  intro q
  obtain ⟨h9, u, hu⟩ := hj q
  exact ⟨p, u, h9, rfl, hu⟩
theorem pSt_x {s : PS} {l n p : Nat} {x : List Int32} (h : AT s l n p x) (hn : n < 8) (ht : to n = true) (hp : p < 1000) (hl : (T n).length ≤ 96) : pSt T to jp w vl s l = if (T n).length ≤ p then pCl s l else if (T n).getD p 0 = 64 then pEn to s l ((T n).getD (p + 1) 0 - 48) else if (T n).getD p 0 = 60 then pWf w s l ((T n).getD (p + 1) 0) else if (T n).getD p 0 = 91 then pCh (T n) jp vl s l n else if (T n).getD p 0 = 124 then pMv s l (jq jp n (nI p)) else if (T n).getD p 0 = 93 then pMv s l (nI (p + 1)) else pWs s l ((T n).getD p 0) := by
  obtain ⟨h1, h2, h3, h4, h5, h6⟩ := h
  unfold pSt
  rw [h4, h5, if_neg (not_not_intro ⟨nI_pos (by omega), nI_ge (a := n) (b := 8) hn (by decide), by rw [nI_clamp (by omega)]; exact ht⟩), nI_clamp (by omega), lAt_nI (by omega), nI_1, lAt_nI (by omega)]
  simp only [nI_leI (a := (T n).length) (b := p) (by omega) (by omega)]
theorem AT.mv {s : PS} {l n p q : Nat} {x : List Int32} (h : AT s l n p x) : AT (pMv s l (nI q)) l n q x := ⟨h.1, h.2.1, h.2.2.1, h.2.2.2.1, upN_s, h.2.2.2.2.2⟩
theorem KP.mv {s : PS} {l : Nat} {v : Int32} : KP l s (pMv s l v) := ⟨fun _ _ => ⟨rfl, rfl⟩, fun i hi => upN_n (by omega), fun _ _ _ _ _ => rfl⟩
/-- a move -/
theorem st_mv {d l n p q : Nat} {s : PS} {x : List Int32} (hT : TH T to jp) (h : AT s l n p x) (hS : SS T to jp w vl s) (hn : n < 8) (ht : to n = true) (hp : p < (T n).length) (m : mvT T jp vl n p = some q) (hq : p < q) (hc : (T n).getD p 0 = 91 → CHd (T n) p) (hj : ((T n).getD p 0 = 91 ∨ (T n).getD p 0 = 124) → ∃ u, jp n p = some u) :
    RC T to jp w vl 1 s (pMv s l (nI q)) ∧ AT (pMv s l (nI q)) l n q x ∧ SS T to jp w vl (pMv s l (nI q)) ∧ KP l s (pMv s l (nI q)) ∧ go T to jp w vl d n p x = go T to jp w vl d n q x := by
  have hl := (hT n hn ht).1
  have c1 : ¬ (T n).getD p 0 = 64 := fun z => by
    have e := m; rw [mv_s (by rw [z]; decide) (by rw [z]; decide) (by rw [z]; decide)] at e; cases e
  have c2 : ¬ (T n).getD p 0 = 60 := fun z => by
    have e := m; rw [mv_s (by rw [z]; decide) (by rw [z]; decide) (by rw [z]; decide)] at e; cases e
  have e : pSt T to jp w vl s l = pMv s l (nI q) := by
    rw [pSt_x h hn ht (by omega) hl, if_neg (by omega), if_neg c1, if_neg c2]
    by_cases k1 : (T n).getD p 0 = 91
    · rw [if_pos k1]
      obtain ⟨d1, d2, d3, d4, d5, d6, d7⟩ := hc k1
      rw [mv_a k1] at m
      unfold pCh
      rw [h.2.2.2.2.1, show nI p + 1 = nI (p + 1) from nI_1 p, show nI p + 2 = nI (p + 2) from nI_add p 2, show nI p + 3 = nI (p + 3) from nI_add p 3, lAt_nI (by omega), lAt_nI (by omega), cN3 (by omega) d4]
      dsimp only
      unfold hN at m
      split at m
      · rename_i g
        rw [if_pos g]
        have := Option.some.inj m
        rw [← this]
        exact congrArg (pMv s l) (nI_1 _)
      · rename_i g
        rw [if_neg g]
        have := Option.some.inj m
        rw [← this]
        unfold jq
        rw [nI_clamp (by omega)]
    · rw [if_neg k1]
      by_cases k2 : (T n).getD p 0 = 124
      · rw [if_pos k2]
        rw [mv_b k2] at m
        have := Option.some.inj m
        rw [← this]
        unfold jq
        rw [nI_clamp (by omega)]
      · rw [if_neg k2]
        by_cases k3 : (T n).getD p 0 = 93
        · rw [if_pos k3]
          rw [mv_e k3] at m
          have := Option.some.inj m
          rw [← this]
        · rw [mv_s k1 k2 k3] at m; cases m
  have el : s.2.2.1 - 1 = l := by rw [h.2.2.1, Nat.add_sub_cancel]
  refine ⟨RC_1 (by rw [h.2.2.1]; omega) h.2.1 (h.ok hn (by omega) (fun z => ⟨by omega, hj z⟩)) (by rw [el]; exact e), h.mv, hS, KP.mv, ?_⟩
  rw [go_mv (by omega) c1 c2 m hq]
theorem trb1 {s : PS} {l n p : Nat} {x : List Int32} {c : Int32} (h : AT s l n p x) (hn : n < 8) (hp : p < 96) (hc : c = 1 ∨ c = 2 ∨ c = 3) (hj : ¬ ((T n).getD p 0 = 91 ∨ (T n).getD p 0 = 124)) : TRB T to jp l s (pTr s c) c [(n, p)] := by
  refine ⟨rfl, hc, h.2.2.1, Nat.one_pos, fun _ _ => ⟨rfl, rfl⟩, fun j hj => ?_, ?_⟩
  · have : j = 0 := by simp at hj; omega
    subst this
    exact ⟨h.2.2.2.1, h.2.2.2.2.1⟩
  · exact AT.ok (s := (s.1, 0, s.2.2)) (x := x) ⟨h.1, rfl, h.2.2.1, h.2.2.2.1, h.2.2.2.2.1, h.2.2.2.2.2⟩ hn (by omega) (fun q => absurd q hj)
theorem PH_S {S : Int64} {m m' d : Nat} (hm : m ≤ m') (hd : d ≤ 4) : PH S m' d ≤ PH S m d := PH_mono hm d hd (fun _ _ _ _ _ => Nat.le_refl _)
end WRT2
