/-! ===== MergePost: what posting does to the state ===== -/
theorem upN_up {α : Type} {f : Nat → α} {a : Nat} {x y : α} : upN (upN f a x) a y = upN f a y := by
  funext k
  unfold upN
  by_cases q : k = a
  · rw [if_pos q, if_pos q]
  · rw [if_neg q, if_neg q, if_neg q]
theorem upN_id {α : Type} {f : Nat → α} {a : Nat} : upN f a (f a) = f := by
  funext k
  unfold upN
  by_cases q : k = a
  · rw [if_pos q, q]
  · rw [if_neg q]
theorem RB.cg {V : aV} {kn kn' : Nat → Nat} {pd pd' : Nat → Bool} {rt rr rt' rr' : Nat → Nat} (h : RB V kn pd rt rr) (e : ∀ i, i < 8 → kn' i = kn i ∧ pd' i = pd i ∧ rt' i = rt i ∧ rr' i = rr i) : RB V kn' pd' rt' rr' := fun i hi => by
  obtain ⟨e1, e2, e3, e4⟩ := e i hi
  rw [e1, e2, e3, e4]
  exact h i hi
theorem KB.cg {V : aV} {kn : Nat → Nat} {kl kl' : Nat → Nat → KL} (h : KB V kn kl) (e : ∀ i, i < 8 → ∀ j, j < kn i → kl' i j = kl i j) : KB V kn kl' := fun i hi j hj => ⟨(h i hi j hj).1, fun q => by rw [e i hi j q]; exact (h i hi j hj).2 q⟩
section CIS2
variable {V V' : aV} {L : List Int32} {T : Nat → List Int32} {to : Nat → Bool} {ent : Nat → EntN} {cnt : Nat} {mt po : Nat → Nat} {b st pa n : Nat} {rt rr : Nat → Nat} {pd : Nat → Bool} {kn : Nat → Nat} {kl : Nat → Nat → KL}
/-- only the runs' rows and row 0 have changed -/
theorem CI.runs {n' pa' : Nat} {rt' rr' : Nat → Nat} {pd' : Nat → Bool} {kn' : Nat → Nat} {kl' : Nat → Nat → KL} (h : CI V L T to ent cnt mt po b st pa n rt rr pd kn kl) (e : ∀ b, 0 < b → b < 199 → V' b = V b) (e0 : ∀ k, k < 6 → V' 0 k = V 0 k) (h6 : V' 0 6 = .int (nI n')) (h7 : V' 0 7 = .int (nI pa')) (hR : RB V' kn' pd' rt' rr') (hK : KB V' kn' kl') : CI V' L T to ent cnt mt po b st pa' n' rt' rr' pd' kn' kl' := by
  obtain ⟨⟨a1, a2, a3, a4, a5, a6, a7⟩, ⟨b1, ⟨en, sp, b2⟩, b3, b4⟩, ⟨⟨tl, sp2, c1⟩, c2, c3, ⟨w, vl, c4⟩, s, c5⟩, d1, d2⟩ := h
  have e198 := e 198 (by decide) (by decide)
  have e4 := e 4 (by decide) (by decide)
  obtain ⟨m0, m1, m2, m3, m4, m5⟩ := a1
  refine ⟨⟨⟨(e0 0 (by decide)).trans m0, (e0 1 (by decide)).trans m1, (e0 2 (by decide)).trans m2, (e0 3 (by decide)).trans m3, (e0 4 (by decide)).trans m4, (e0 5 (by decide)).trans m5⟩, a2.fr (fun b q1 q2 => e b (by omega) (by omega)), (congrFun (e 196 (by decide) (by decide)) 0).trans a3, (congrFun e198 0).trans a4, (congrFun e198 1).trans a5, h6, h7⟩,
    ⟨b1.fr (e 74 (by decide) (by decide)), ⟨en, sp, b2.frg (fun b q1 q2 q3 q4 q5 => e b (by omega) (by omega))⟩, b3.fr (e 85 (by decide) (by decide)), b4.fr (e 86 (by decide) (by decide))⟩,
    ⟨⟨tl, sp2, c1.frg ⟨congrFun e4 0, congrFun e4 1⟩ (fun b q1 q2 q3 => e b (by omega) (by omega))⟩, c2.frg (fun k _ => congrFun e4 k) (congrFun (e 28 (by decide) (by decide)) 0) (fun b q => e b (by omega) (by omega)), c3.frg (fun b q1 q2 q3 => e b (by omega) (by omega)), ⟨w, vl, c4.frg (fun b q => e b (by omega) (by omega))⟩, s, c5.frg ⟨congrFun e4 7, congrFun e4 8⟩ (congrFun (e 28 (by decide) (by decide)) 2) (fun b q1 q2 => e b (by omega) (by omega))⟩, hR, hK⟩
/-- a letter kept -/
theorem CI.kp {i : Nat} {x : KL} (h : CI V L T to ent cnt mt po b st pa n rt rr pd kn kl) (hi : i < 8) (hk : kn i < 12) (hr : RN V' (200 + 38 * i) (kn i + 1)) (hL : LT V' (200 + 38 * i + 2 + 3 * kn i) x.1 (nI x.2.1) 0 (nI x.2.2.1) x.2.2.2) (hF : FrK V V' (200 + 38 * i) (kn i)) : CI V' L T to ent cnt mt po b st pa n rt rr pd (upN kn i (kn i + 1)) (fun a k => if a = i ∧ k = kn i then x else kl a k) := by
  obtain ⟨f1, f2⟩ := hF
  have e0 := f1 0 (by omega) (by omega)
  refine h.runs (fun b q1 q2 => f1 b (by omega) (by omega)) (fun k _ => congrFun e0 k) ((congrFun e0 6).trans h.1.2.2.2.2.2.1) ((congrFun e0 7).trans h.1.2.2.2.2.2.2) (fun j hj => ?_) (fun j hj k hk2 => ?_)
  · obtain ⟨r1, r2, r3, r4, r5, r6⟩ := h.2.2.2.1 j hj
    have r0 := (congrFun (f1 199 (by omega) (by omega)) j).trans r1
    by_cases q : j = i
    · subst q
      rw [upN_s]
      exact ⟨r0, hr, (f2 4 (by decide)).trans r3, (f2 2 (by decide)).trans r4, (f2 3 (by decide)).trans r5, r6⟩
    · rw [upN_n q]
      have eq := f1 (200 + 38 * j) (by omega) (by omega)
      exact ⟨r0, r2.fr eq (f1 (200 + 38 * j + 1) (by omega) (by omega)), (congrFun eq 4).trans r3, (congrFun eq 2).trans r4, (congrFun eq 3).trans r5, r6⟩
  · obtain ⟨⟨y, m, tr, wt, co, h1⟩, h2⟩ := h.2.2.2.2 j hj k hk2
    by_cases q : j = i ∧ k = kn i
    · obtain ⟨rfl, rfl⟩ := q
      exact ⟨⟨_, _, _, _, _, hL⟩, fun _ => by rw [if_pos ⟨rfl, rfl⟩]; exact hL⟩
    · have hfr : ∀ b, 200 + 38 * j + 2 + 3 * k ≤ b → b ≤ 200 + 38 * j + 2 + 3 * k + 2 → V' b = V b := fun b q1 q2 => f1 b (by rcases Nat.lt_or_ge j i with q | q <;> omega) (by
        by_cases qj : j = i
        · subst qj
          have : ¬ k = kn j := fun z => q ⟨rfl, z⟩
          omega
        · omega)
      refine ⟨⟨y, m, tr, wt, co, h1.fr hfr⟩, fun z => ?_⟩
      rw [if_neg q]
      refine (h2 ?_).fr hfr
      by_cases qj : j = i
      · subst qj
        rw [upN_s] at z
        have : ¬ k = kn j := fun z => q ⟨rfl, z⟩
        omega
      · rw [upN_n qj] at z
        exact z
theorem CI.poset {po' : Nat → Nat} (h : CI V L T to ent cnt mt po b st pa n rt rr pd kn kl) (hM : MK V' 86 po') (e : Fr0 V V' 86) : CI V' L T to ent cnt mt po' b st pa n rt rr pd kn kl := by
  obtain ⟨⟨a1, a2, a3, a4, a5, a6, a7⟩, ⟨b1, ⟨en, sp, b2⟩, b3, b4⟩, ⟨⟨tl, sp2, c1⟩, c2, c3, ⟨w, vl, c4⟩, s, c5⟩, d1, d2⟩ := h
  have e0 := e 0 (by decide)
  have e198 := e 198 (by decide)
  have e4 := e 4 (by decide)
  exact ⟨⟨a1.fr e0, a2.fr (fun b q1 q2 => e b (by omega)), (congrFun (e 196 (by decide)) 0).trans a3, (congrFun e198 0).trans a4, (congrFun e198 1).trans a5, (congrFun e0 6).trans a6, (congrFun e0 7).trans a7⟩,
    ⟨b1.fr (e 74 (by decide)), ⟨en, sp, b2.frg (fun b q1 q2 q3 q4 q5 => e b q4)⟩, b3.fr (e 85 (by decide)), hM⟩,
    ⟨⟨tl, sp2, c1.frg ⟨congrFun e4 0, congrFun e4 1⟩ (fun b q1 q2 q3 => e b (by omega))⟩, c2.frg (fun k _ => congrFun e4 k) (congrFun (e 28 (by decide)) 0) (fun b q => e b (by omega)), c3.frg (fun b q1 q2 q3 => e b (by omega)), ⟨w, vl, c4.frg (fun b q => e b (by omega))⟩, s, c5.frg ⟨congrFun e4 7, congrFun e4 8⟩ (congrFun (e 28 (by decide)) 2) (fun b q1 q2 => e b (by omega))⟩, d1.fr (fun b q1 q2 => e b (by omega)), d2.fr (fun b q1 q2 => e b (by omega))⟩
theorem CI.paid {pa' : Nat} (h : CI V L T to ent cnt mt po b st pa n rt rr pd kn kl) : CI (a_up V 0 7 (.int (nI pa'))) L T to ent cnt mt po b st pa' n rt rr pd kn kl :=
  h.runs (fun b q1 _ => a_up_row (by omega)) (fun k hk => a_up_ne (Or.inr (by omega))) ((a_up_ne (Or.inr (by decide))).trans h.1.2.2.2.2.2.1) (a_up_self _ _ _ _) (h.2.2.2.1.fr (fun b q1 _ => a_up_row (by omega))) (h.2.2.2.2.fr (fun b q1 _ => a_up_row (by omega)))
/-- the run i is posted -/
theorem CI.pst {i : Nat} (h : CI V L T to ent cnt mt po b st pa n rt rr pd kn kl) (hi : i < 8) : CI (a_up V (200 + 38 * i) 4 (.int 1)) L T to ent cnt mt po b st pa n rt rr (upN pd i true) kn kl := by
  have hfr : ∀ b, b ≠ 200 + 38 * i → a_up V (200 + 38 * i) 4 (.int 1) b = V b := fun b q => a_up_row q
  have e0 := hfr 0 (by omega)
  refine h.runs (fun b q1 q2 => hfr b (by omega)) (fun k _ => congrFun e0 k) ((congrFun e0 6).trans h.1.2.2.2.2.2.1) ((congrFun e0 7).trans h.1.2.2.2.2.2.2) (fun j hj => ?_) (fun j hj k hk => ?_)
  · obtain ⟨r1, r2, r3, r4, r5, r6⟩ := h.2.2.2.1 j hj
    have r0 := (congrFun (hfr 199 (by omega)) j).trans r1
    by_cases q : j = i
    · subst q
      obtain ⟨s1, s2, s3, s4, s5, s6⟩ := r2
      refine ⟨r0, ⟨s1, s2, (a_up_ne (Or.inr (by decide))).trans s3, fun k hk => (congrFun (hfr _ (by omega)) k).trans (s4 k hk), (a_up_ne (Or.inr (by decide))).trans s5, s6⟩, ?_, (a_up_ne (Or.inr (by decide))).trans r4, (a_up_ne (Or.inr (by decide))).trans r5, r6⟩
      rw [upN_s, bI_t rfl]
      exact a_up_self _ _ _ _
    · rw [upN_n q]
      have eq := hfr (200 + 38 * j) (by omega)
      exact ⟨r0, r2.fr eq (hfr _ (by omega)), (congrFun eq 4).trans r3, (congrFun eq 2).trans r4, (congrFun eq 3).trans r5, r6⟩
  · obtain ⟨⟨y, m, tr, wt, co, h1⟩, h2⟩ := h.2.2.2.2 j hj k hk
    have hfr2 : ∀ b, 200 + 38 * j + 2 + 3 * k ≤ b → b ≤ 200 + 38 * j + 2 + 3 * k + 2 → a_up V (200 + 38 * i) 4 (.int 1) b = V b := fun b q1 q2 => hfr b (by rcases Nat.lt_or_ge j i with q | q <;> omega)
    exact ⟨⟨y, m, tr, wt, co, h1.fr hfr2⟩, fun z => (h2 z).fr hfr2⟩
theorem CI.cg {pa' : Nat} {po' kn' : Nat → Nat} {kl' : Nat → Nat → KL} (h : CI V L T to ent cnt mt po b st pa n rt rr pd kn kl) (e1 : po' = po) (e2 : pa' = pa) (e3 : kn' = kn) (e4 : ∀ i, i < 8 → ∀ j, j < kn i → kl' i j = kl i j) : CI V L T to ent cnt mt po' b st pa' n rt rr pd kn' kl' := by
  subst e1 e2 e3
  exact ⟨h.1, h.2.1, h.2.2.1, h.2.2.2.1, h.2.2.2.2.cg e4⟩
end CIS2
/-! the letters that posting keeps -/
def kpo (F : Nat → LRs) (g : Nat) : Option KL := match F g with
  | .inl x => some (x.1, g, x.2.1, x.2.2)
  | .inr _ => none
def kpt (F : Nat → LRs) (l : List Nat) : List KL := l.filterMap (kpo F)
def poF (r : Nat) (K : List KL) (po : Nat → Nat) : Nat → Nat := K.foldl (fun po x => nP po x.2.1 r 12) po
def paF (K : List KL) (pa : Nat) : Nat := K.foldl (fun pa x => min (pa + x.2.2.2.toNatClampNeg) 2147483647) pa
def klF (kl : Nat → Nat → KL) (i : Nat) (K : List KL) : Nat → Nat → KL := fun a k => if a = i then K.getD k ([], 0, 0, 0) else kl a k
theorem take_s {l : List Nat} {j : Nat} (h : j < l.length) : l.take (j + 1) = l.take j ++ [l.getD j 0] := by
  rw [List.take_succ, List.getD_eq_getElem?_getD, List.getElem?_eq_getElem h]
  rfl
theorem kpt_t {F : Nat → LRs} {l : List Nat} {j : Nat} (h : j < l.length) {x : List Int32 × Nat × Int32} (e : F (l.getD j 0) = .inl x) : kpt F (l.take (j + 1)) = kpt F (l.take j) ++ [(x.1, l.getD j 0, x.2.1, x.2.2)] := by
  unfold kpt
  rw [take_s h, List.filterMap_append]
  have : kpo F (l.getD j 0) = some (x.1, l.getD j 0, x.2.1, x.2.2) := by unfold kpo; rw [e]
  simp only [List.filterMap_cons, this, List.filterMap_nil]
theorem kpt_f {F : Nat → LRs} {l : List Nat} {j : Nat} (h : j < l.length) {q : Int32 × List (Nat × Nat)} (e : F (l.getD j 0) = .inr q) : kpt F (l.take (j + 1)) = kpt F (l.take j) := by
  unfold kpt
  rw [take_s h, List.filterMap_append]
  have : kpo F (l.getD j 0) = none := by unfold kpo; rw [e]
  simp only [List.filterMap_cons, this, List.filterMap_nil, List.append_nil]
theorem kpt_len {F : Nat → LRs} {l : List Nat} : (kpt F l).length ≤ l.length := List.length_filterMap_le _ _
/-! of what signs the fields are -/
theorem okC_nI {n : Nat} (h1 : 32 ≤ n) (h2 : n ≤ 126) : okC (nI n) := by
  unfold okC
  rw [nI_toInt (by omega)]
  omega
theorem dgl_ok {x : Nat} : ∀ i, ∀ c ∈ dgl x i, okC c
  | 0, c, h => absurd h List.not_mem_nil
  | i + 1, c, h => by
    rcases List.mem_cons.1 h with rfl | h
    · exact okC_nI (by omega) (by omega)
    · exact dgl_ok i c h
theorem gW_okC {ent : Nat → EntN} {g : Nat} (hE : ∀ k, k < 12 → EO (ent k)) : ∀ j, j ≤ 12 → ∀ f, ∀ c ∈ (gW ent g j).1 f, okC c
  | 0, _, f, c, h => absurd h List.not_mem_nil
  | j + 1, hj, f, c, h => by
    have ih := gW_okC hE (g := g) j (by omega)
    obtain ⟨-, -, h3, h4⟩ := hE j (by omega)
    by_cases q : g.testBit j = true
    · rw [gW_t q] at h
      have h2 : c ∈ amW (gW ent g j).1 (gW ent g j).2 (ent j) f := h
      unfold amW at h2
      by_cases z : (gW ent g j).2 5 = 0
      · rw [if_pos z] at h2
        by_cases f0 : f = 0
        · rw [f0, upN_s] at h2
          exact (List.mem_append.1 h2).elim (ih 0 c) (h3 c)
        · rw [upN_n f0] at h2
          by_cases f1 : f = 1
          · rw [f1, upN_s] at h2; exact h4 c h2
          · rw [upN_n f1] at h2; exact ih f c h2
      · rw [if_neg z] at h2
        by_cases f0 : f = 0
        · rw [f0, upN_s] at h2
          rcases List.mem_append.1 h2 with h2 | h2
          · rcases List.mem_append.1 h2 with h2 | h2
            · exact ih 0 c h2
            · simp only [List.mem_cons, List.not_mem_nil, or_false] at h2
              rcases h2 with rfl | rfl | rfl
              · exact okC_nI (n := 32) (by decide) (by decide)
              · exact okC_nI (n := 38) (by decide) (by decide)
              · exact okC_nI (n := 32) (by decide) (by decide)
          · exact h3 c h2
        · rw [upN_n f0] at h2; exact ih f c h2
    · rw [gW_f (Bool.eq_false_iff.2 q)] at h
      exact ih f c h
theorem fW_okC {ent : Nat → EntN} {g : Nat} (hE : ∀ k, k < 12 → EO (ent k)) (f : Nat) : ∀ c ∈ fW ent g f, okC c := by
  intro c h
  have h2 : c ∈ (if f < 2 then (gW ent g 12).1 f else if f < 6 then digs ((gW ent g 12).2 f) else []) := h
  split at h2
  · exact gW_okC hE 12 (by decide) f c h2
  · split at h2
    · exact dgl_ok _ c h2
    · exact absurd h2 List.not_mem_nil
theorem kost_nI {b s w z : Nat} (h : ¬ kost b s w z = -1) : ∃ c, c < 2 ^ 31 ∧ kost b s w z = nI c := by
  unfold kost at h ⊢
  split
  · exact ⟨_, by omega, rfl⟩
  · rename_i q; rw [if_neg q] at h; exact absurd rfl h
theorem ltr_ok {T : Nat → List Int32} {to : Nat → Bool} {ent : Nat → EntN} {b st t g : Nat} {x : List Int32 × Nat × Int32} (hT : ∀ k, ∀ c ∈ T k, okC c) (hE : ∀ k, k < 12 → EO (ent k)) (hg : MBR g) (e : ltr T to ent b st t g = .inl x) : KO (x.1, g, x.2.1, x.2.2) := by
  unfold ltr at e
  split at e
  · split at e
    · rename_i y hy
      split at e
      · cases e
      · rename_i hk
        cases e
        exact ⟨go_len _ _ _ _ _ _ (Nat.le_refl _) (Nat.zero_le _) hy, go_all (P := okC) hT (fun f => fW_okC hE f) _ _ _ _ _ _ (Nat.le_refl _) (fun c h => absurd h List.not_mem_nil) hy, hg, rfl, kost_nI hk⟩
    · cases e
  · cases e
