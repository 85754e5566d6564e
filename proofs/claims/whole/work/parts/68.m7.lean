/-! ===== MergePostModel: an address read ===== -/
def e1 (L : List Int32) : Nat := wdE L 12 0
def e2 (L : List Int32) : Nat := wdE L 12 (e1 L + 1)
def e3 (L : List Int32) : Nat := dgE L 57 3 (e2 L + 1)
def e4 (L : List Int32) : Nat := dgE L 57 2 (e3 L + 3)
theorem dg53 {c : Int32} (h : isDg c 53) : isDg c 57 := ⟨h.1, Int32.le_trans h.2 (by decide)⟩
theorem an1 {L : List Int32} {p : Nat} (h : dgE L 57 3 p = p ∨ ¬ cm L (dgE L 57 3 p)) : aNums L p = (dgE L 57 3 p, none) := by
  unfold aNums
  rw [tNum_1]
  rcases tNw (L := L) (hi := 57) (fun _ z => z) 2 p (by decide) with ⟨q1, q2⟩ | ⟨q1, b, q2, q3, -⟩
  · rw [if_pos q2]
  · have q1' : p < dgE L 57 3 p := q1
    have q2' : b < 1000 := q2
    rw [if_neg (by rw [q3]; exact m1_ne (by omega)), if_pos (h.resolve_left (by omega))]
theorem an2 {L : List Int32} {p : Nat} (h1 : ¬ dgE L 57 3 p = p) (h2 : cm L (dgE L 57 3 p)) : ∃ b, b < 1000 ∧ nmb L (dgE L 57 3 p - p) p 0 = nI b ∧ aNums L p = aNum2 L (nI b) (dgE L 57 3 p + 1) := by
  unfold aNums
  rw [tNum_1]
  rcases tNw (L := L) (hi := 57) (fun _ z => z) 2 p (by decide) with ⟨q1, q2⟩ | ⟨q1, b, q2, q3, q4⟩
  · exact absurd q1 h1
  · have q2' : b < 1000 := q2
    have q3' : (tNum L 57 3 p (-1)).2 = nI b := q3
    refine ⟨b, q2', q4, ?_⟩
    rw [q3', if_neg (m1_ne (by omega)), if_neg (not_not_intro h2)]
theorem an3 {L : List Int32} {x : Int32} {p : Nat} (h : ¬ isDg (L.getD p 0) 53) : aNum2 L x p = (p, none) := by
  unfold aNum2
  have e : tNum L 53 1 p (-1) = (p, -1) := if_neg h
  rw [e, if_pos rfl]
theorem an4 {L : List Int32} {x : Int32} {p : Nat} (h : isDg (L.getD p 0) 53) : ∃ z, z < 6 ∧ L.getD p 0 - 48 = nI z ∧ (¬ cm L (p + 1) → aNum2 L x p = (p + 1, none)) ∧ (cm L (p + 1) → aNum2 L x p = aNum3 L x (nI z) (p + 2)) := by
  obtain ⟨j, hj, ec⟩ := dg_j (k := 5) h (by decide)
  have e : tNum L 53 1 p (-1) = (p + 1, nI j) := by
    have e0 : tNum L 53 1 p (-1) = (p + 1, (if (-1 : Int32) = -1 then 0 else (-1) * 10) + (L.getD p 0 - 48)) := if_pos h
    rw [e0, if_pos rfl, ec, dg_sub, show (0 : Int32) + nI j = nI (0 + j) from nI_add 0 j, Nat.zero_add]
  refine ⟨j, by omega, by rw [ec, dg_sub], fun q => ?_, fun q => ?_⟩
  · unfold aNum2
    rw [e, if_neg (m1_ne (by omega)), if_pos q]
  · unfold aNum2
    rw [e, if_neg (m1_ne (by omega)), if_neg (not_not_intro q)]
theorem an5 {L : List Int32} {x y : Int32} {p : Nat} (h : dgE L 57 2 p = p) : aNum3 L x y p = (p, none) := by
  unfold aNum3
  rw [tNum_1]
  rcases tNw (L := L) (hi := 57) (fun _ z => z) 1 p (by decide) with ⟨q1, q2⟩ | ⟨q1, b, -, q3, -⟩
  · rw [if_pos q2, h]
  · have q1' : p < dgE L 57 2 p := q1
    omega
theorem an6 {L : List Int32} {x y : Int32} {p : Nat} (h : ¬ dgE L 57 2 p = p) : ∃ b, b < 100 ∧ nmb L (dgE L 57 2 p - p) p 0 = nI b ∧ aNum3 L x y p = (dgE L 57 2 p, some (x, y, nI b)) := by
  unfold aNum3
  rw [tNum_1]
  rcases tNw (L := L) (hi := 57) (fun _ z => z) 1 p (by decide) with ⟨q1, q2⟩ | ⟨q1, b, q2, q3, q4⟩
  · exact absurd q1 h
  · have q2' : b < 100 := q2
    have q3' : (tNum L 57 2 p (-1)).2 = nI b := q3
    refine ⟨b, q2', q4, ?_⟩
    rw [q3', if_neg (m1_ne (by omega))]
section RA
variable {L : List Int32}
theorem tw1 : tWord L 12 0 [] = (e1 L, sub L 0 (e1 L)) := by rw [tWord_e 12 0 [] (Nat.zero_le _), List.nil_append]; rfl
theorem e1_le : e1 L ≤ L.length ∧ e1 L ≤ 12 := by have := wdE_le (L := L) 12 0; exact ⟨this.2.2 (Nat.zero_le _), by have := this.2.1; unfold e1; omega⟩
theorem e2_le (h : e1 L < L.length) : e1 L + 1 ≤ e2 L ∧ e2 L ≤ e1 L + 1 + 12 ∧ e2 L ≤ L.length := by have := wdE_le (L := L) 12 (e1 L + 1); exact ⟨this.1, this.2.1, this.2.2 h⟩
theorem tw2 (h : e1 L < L.length) : tWord L 12 (e1 L + 1) [] = (e2 L, sub L (e1 L + 1) (e2 L)) := by rw [tWord_e 12 (e1 L + 1) [] h, List.nil_append]; rfl
theorem ra1 (h : e1 L = 0 ∨ ¬ cm L (e1 L)) : aRd L = (e1 L, none) := by
  have hl := e1_le (L := L)
  unfold aRd
  rw [tw1]
  dsimp only
  rw [sub_len (Nat.zero_le _) hl.1]
  by_cases z : e1 L = 0
  · rw [if_pos (by omega)]
  · rw [if_neg (by omega), if_pos (h.resolve_left z)]
theorem ra1' (h : ¬ (e1 L = 0 ∨ ¬ cm L (e1 L))) : ¬ e1 L = 0 ∧ cm L (e1 L) ∧ aRd L = aRd3 L (sub L 0 (e1 L)) (e1 L + 1) := by
  have hl := e1_le (L := L)
  have z : ¬ e1 L = 0 := fun q => h (Or.inl q)
  have c : cm L (e1 L) := Classical.byContradiction fun q => h (Or.inr q)
  refine ⟨z, c, ?_⟩
  unfold aRd
  rw [tw1]
  dsimp only
  rw [sub_len (Nat.zero_le _) hl.1, if_neg (by omega), if_neg (not_not_intro c)]
theorem ra2 (hc : cm L (e1 L)) {W : List Int32} (h : e2 L = e1 L + 1 ∨ ¬ cm L (e2 L)) : aRd3 L W (e1 L + 1) = (e2 L, none) := by
  have hl := e2_le hc.1
  unfold aRd3
  rw [tw2 hc.1]
  dsimp only
  rw [sub_len hl.1 hl.2.2]
  by_cases z : e2 L = e1 L + 1
  · rw [if_pos (by omega)]
  · rw [if_neg (by omega), if_pos (h.resolve_left z)]
theorem ra2' (hc : cm L (e1 L)) {W : List Int32} (h : ¬ (e2 L = e1 L + 1 ∨ ¬ cm L (e2 L))) : cm L (e2 L) ∧ aRd3 L W (e1 L + 1) = aRd4 L W (sub L (e1 L + 1) (e2 L)) (e2 L + 1) := by
  have hl := e2_le hc.1
  have z : ¬ e2 L = e1 L + 1 := fun q => h (Or.inl q)
  have c : cm L (e2 L) := Classical.byContradiction fun q => h (Or.inr q)
  refine ⟨c, ?_⟩
  unfold aRd3
  rw [tw2 hc.1]
  dsimp only
  rw [sub_len hl.1 hl.2.2, if_neg (by omega), if_neg (not_not_intro c)]
theorem ra4n {W1 W2 : List Int32} {p q : Nat} (h : aNums L p = (q, none)) : aRd4 L W1 W2 p = (q, none) := by unfold aRd4; rw [h]
theorem ra4s {W1 W2 : List Int32} {p q : Nat} {x : Int32 × Int32 × Int32} (h : aNums L p = (q, some x)) : aRd4 L W1 W2 p = if L.length ≤ q then (q, some (W1, W2, x)) else (q, none) := by unfold aRd4; rw [h]
end RA
theorem wdV_1 {L : List Int32} {p : Nat} (h : wdE L 12 p = p ∨ ¬ cm L (wdE L 12 p)) : wdV L p = -1 - nI (wdE L 12 p) := if_pos h
theorem wdV_2 {L : List Int32} {p : Nat} (h : ¬ (wdE L 12 p = p ∨ ¬ cm L (wdE L 12 p))) : wdV L p = nI (wdE L 12 p) := if_neg h
theorem lyF0 {W : List Int32} : W.filterMap (lyF 0) = W := by
  have : lyF 0 = some := funext fun c => if_pos rfl
  rw [this, List.filterMap_some]
theorem lyF1 {W : List Int32} : W.filterMap (lyF 1) = cl W := by
  have : lyF 1 = clS := funext fun c => if_neg (by decide)
  rw [this]
/-! the addresses as they lie -/
def MEk (V : aV) (k : Nat) (x : EntN) : Prop := (V 509 k = .int (nI x.1.length) ∧ RWS V 508 (12 * k) x.1) ∧ (V 511 k = .int (nI x.2.1.length) ∧ RWS V 510 (12 * k) x.2.1) ∧ (V 513 k = .int (nI (cl x.1).length) ∧ RWS V 512 (12 * k) (cl x.1)) ∧ (V 515 k = .int (nI (cl x.2.1).length) ∧ RWS V 514 (12 * k) (cl x.2.1)) ∧ V 516 k = .int (nI x.2.2.1) ∧ V 517 k = .int (nI x.2.2.2.1) ∧ V 518 k = .int (nI x.2.2.2.2)
def ME (V : aV) (ent : Nat → EntN) (cnt : Nat) : Prop := V 504 5 = .int (nI cnt) ∧ ∀ k, k < 12 → MEk V k (ent k)
def FRA (V V' : aV) (t : Nat) : Prop := (∀ b, b < 508 ∨ 518 < b → V' b = V b) ∧ (∀ b, b = 508 ∨ b = 510 ∨ b = 512 ∨ b = 514 → ∀ q, (q < 12 * t ∨ 12 * t + 12 ≤ q) → V' b q = V b q) ∧ ∀ b, b = 509 ∨ b = 511 ∨ b = 513 ∨ 515 ≤ b → ∀ k, k ≠ t → V' b k = V b k
theorem MEk.fra {V V' : aV} {t k : Nat} {x : EntN} (h : MEk V k x) (f : FRA V V' t) (hk : k ≠ t) (h1 : x.1.length ≤ 12) (h2 : x.2.1.length ≤ 12) : MEk V' k x := by
  obtain ⟨⟨a1, a2⟩, ⟨b1, b2⟩, ⟨c1, c2⟩, ⟨d1, d2⟩, i1, i2, i3⟩ := h
  obtain ⟨-, f2, f3⟩ := f
  have l1 : (cl x.1).length ≤ x.1.length := List.length_filterMap_le _ _
  have l2 : (cl x.2.1).length ≤ x.2.1.length := List.length_filterMap_le _ _
  have dis : ∀ j, j < 12 → 12 * k + j < 12 * t ∨ 12 * t + 12 ≤ 12 * k + j := fun j hj => by rcases Nat.lt_or_gt_of_ne hk with q | q <;> omega
  exact ⟨⟨(f3 509 (by omega) k hk).trans a1, fun j hj => (f2 508 (by omega) _ (dis j (by omega))).trans (a2 j hj)⟩, ⟨(f3 511 (by omega) k hk).trans b1, fun j hj => (f2 510 (by omega) _ (dis j (by omega))).trans (b2 j hj)⟩, ⟨(f3 513 (by omega) k hk).trans c1, fun j hj => (f2 512 (by omega) _ (dis j (by omega))).trans (c2 j hj)⟩, ⟨(f3 515 (by omega) k hk).trans d1, fun j hj => (f2 514 (by omega) _ (dis j (by omega))).trans (d2 j hj)⟩, (f3 516 (by omega) k hk).trans i1, (f3 517 (by omega) k hk).trans i2, (f3 518 (by omega) k hk).trans i3⟩
theorem FRA.lay {V V1 : aV} {a t : Nat} {D : List Int32} (h : LYI V V1 a t D) (ha : a = 508 ∨ a = 510 ∨ a = 512 ∨ a = 514) : FRA V V1 t := ⟨fun b hb => h.2.2 b (by omega), fun b hb q hq => by
  by_cases e : b = a
  · subst e; exact h.2.1 q hq
  · exact congrFun (h.2.2 b e) q, fun b hb k _ => congrFun (h.2.2 b (by omega)) k⟩
theorem FRA.up {V : aV} {a t : Nat} {v : Value} (ha : a = 509 ∨ a = 511 ∨ a = 513 ∨ (515 ≤ a ∧ a ≤ 518)) : FRA V (a_up V a t v) t := ⟨fun b hb => a_up_row (by omega), fun b hb q _ => congrFun (a_up_row (by omega)) q, fun b hb k hk => a_up_ne (Or.inr hk)⟩
theorem FRA.trans {V V1 V2 : aV} {t : Nat} (h : FRA V V1 t) (g : FRA V1 V2 t) : FRA V V2 t := ⟨fun b hb => (g.1 b hb).trans (h.1 b hb), fun b hb q hq => (g.2.1 b hb q hq).trans (h.2.1 b hb q hq), fun b hb k hk => (g.2.2 b hb k hk).trans (h.2.2 b hb k hk)⟩
theorem MEk.mk {V V1 V2 V3 V4 : aV} {t : Nat} {x : EntN} (l1 : LYI V V1 508 t x.1) (l2 : LYI (a_up V1 509 t (.int (nI x.1.length))) V2 512 t (cl x.1)) (l3 : LYI (a_up V2 513 t (.int (nI (cl x.1).length))) V3 510 t x.2.1) (l4 : LYI (a_up V3 511 t (.int (nI x.2.1.length))) V4 514 t (cl x.2.1)) :
    MEk (a_up (a_up (a_up (a_up V4 515 t (.int (nI (cl x.2.1).length))) 516 t (.int (nI x.2.2.1))) 517 t (.int (nI x.2.2.2.1))) 518 t (.int (nI x.2.2.2.2))) t x ∧ FRA V (a_up (a_up (a_up (a_up V4 515 t (.int (nI (cl x.2.1).length))) 516 t (.int (nI x.2.2.1))) 517 t (.int (nI x.2.2.2.1))) 518 t (.int (nI x.2.2.2.2))) t := by
  have rf : ∀ b, b < 515 → a_up (a_up (a_up (a_up V4 515 t (.int (nI (cl x.2.1).length))) 516 t (.int (nI x.2.2.1))) 517 t (.int (nI x.2.2.2.1))) 518 t (.int (nI x.2.2.2.2)) b = V4 b := fun b hb => (a_up_row (by omega)).trans ((a_up_row (by omega)).trans ((a_up_row (by omega)).trans (a_up_row (by omega))))
  have r4 : ∀ b, b ≠ 514 → b ≠ 511 → V4 b = V3 b := fun b q1 q2 => (l4.2.2 b q1).trans (a_up_row q2)
  have r3 : ∀ b, b ≠ 510 → b ≠ 513 → V3 b = V2 b := fun b q1 q2 => (l3.2.2 b q1).trans (a_up_row q2)
  have r2 : ∀ b, b ≠ 512 → b ≠ 509 → V2 b = V1 b := fun b q1 q2 => (l2.2.2 b q1).trans (a_up_row q2)
  refine ⟨⟨⟨?_, fun j hj => ?_⟩, ⟨?_, fun j hj => ?_⟩, ⟨?_, fun j hj => ?_⟩, ⟨?_, fun j hj => ?_⟩, ?_, ?_, ?_⟩, ?_⟩
  · rw [rf 509 (by decide), r4 509 (by decide) (by decide), r3 509 (by decide) (by decide), l2.2.2 509 (by decide)]; exact a_up_self _ _ _ _
  · rw [rf 508 (by decide), r4 508 (by decide) (by decide), r3 508 (by decide) (by decide), r2 508 (by decide) (by decide)]; exact l1.1 j hj
  · rw [rf 511 (by decide), l4.2.2 511 (by decide)]; exact a_up_self _ _ _ _
  · rw [rf 510 (by decide), r4 510 (by decide) (by decide)]; exact l3.1 j hj
  · rw [rf 513 (by decide), r4 513 (by decide) (by decide), l3.2.2 513 (by decide)]; exact a_up_self _ _ _ _
  · rw [rf 512 (by decide), r4 512 (by decide) (by decide), r3 512 (by decide) (by decide)]; exact l2.1 j hj
  · exact (a_up_ne (Or.inl (by decide))).trans ((a_up_ne (Or.inl (by decide))).trans ((a_up_ne (Or.inl (by decide))).trans (a_up_self _ _ _ _)))
  · rw [rf 514 (by decide)]; exact l4.1 j hj
  · exact (a_up_ne (Or.inl (by decide))).trans ((a_up_ne (Or.inl (by decide))).trans (a_up_self _ _ _ _))
  · exact (a_up_ne (Or.inl (by decide))).trans (a_up_self _ _ _ _)
  · exact a_up_self _ _ _ _
  · exact (((((((((FRA.lay l1 (by decide)).trans (FRA.up (by decide))).trans (FRA.lay l2 (by decide))).trans (FRA.up (by decide))).trans (FRA.lay l3 (by decide))).trans (FRA.up (by decide))).trans (FRA.lay l4 (by decide))).trans (FRA.up (by decide))).trans (FRA.up (by decide))).trans ((FRA.up (by decide)).trans (FRA.up (by decide)))
theorem ML.o {V : aV} {L : List Int32} {b k : Nat} {v : Value} (h : ML V L) (h4 : b ≠ 504) (h5 : b ≠ 505) : ML (a_up V b k v) L := ⟨(a_up_ne (Or.inl (Ne.symm h4))).trans h.1, fun j hj => (a_up_ne (Or.inl (Ne.symm h5))).trans (h.2.1 j hj), h.2.2⟩
theorem ML.fr {V V' : aV} {L : List Int32} (h : ML V L) (e4 : V' 504 2 = V 504 2) (e5 : V' 505 = V 505) : ML V' L := ⟨e4.trans h.1, fun j hj => (congrFun e5 j).trans (h.2.1 j hj), h.2.2⟩
/-- an entry in numbers -/
def MRA (V : aV) (L : List Int32) (t : Nat) : Option Value → aS → aV → Prop := fun v S' V' => Sh = S' ∧ match (aRd L).2 with
  | none => v = some (.int (nI (aRd L).1)) ∧ (aRd L).1 < 2000 ∧ V = V'
  | some x => v = some (.int (-1)) ∧ ∃ y : EntN, x = encE y ∧ EO y ∧ MEk V' t y ∧ FRA V V' t
theorem MRA.n {V : aV} {L : List Int32} {t q : Nat} (h : aRd L = (q, none)) (hq : q < 2000) : MRA V L t (some (.int (nI q))) Sh V := by
  unfold MRA
  rw [h]
  exact ⟨rfl, rfl, hq, rfl⟩
theorem MRA.s {V V' : aV} {L : List Int32} {t q : Nat} {y : EntN} (h : aRd L = (q, some (encE y))) (hy : EO y) (hm : MEk V' t y) (hf : FRA V V' t) : MRA V L t (some (.int (-1))) Sh V' := by
  unfold MRA
  rw [h]
  exact ⟨rfl, rfl, y, rfl, hy, hm, hf⟩
