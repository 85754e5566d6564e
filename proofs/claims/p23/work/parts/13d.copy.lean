/-! ===== System.arraycopy over rows of signs ===== -/
/-- the memory as a list of cells -/
def a_ws (o : Nat) (x0 : Nat → Nat) (cA : Nat → ClassId) (S : aS) (V : aV) (n : Nat) : va_W := (List.range n).filterMap fun a => (a_e o x0 cA (S.1 a) (V a)).map fun e => (o + a, e)
theorem a_ws_mem {o : Nat} {x0 : Nat → Nat} {cA : Nat → ClassId} {S : aS} {V : aV} {n : Nat} {q : Nat × va_E} : q ∈ a_ws o x0 cA S V n ↔ ∃ a, a < n ∧ a_e o x0 cA (S.1 a) (V a) = some q.2 ∧ q.1 = o + a := by
  unfold a_ws
  rw [List.mem_filterMap]
  constructor
  · rintro ⟨a, h1, h2⟩
    refine ⟨a, List.mem_range.mp h1, ?_⟩
    cases he : a_e o x0 cA (S.1 a) (V a) with
    | none => rw [he] at h2; cases h2
    | some e =>
      rw [he] at h2
      cases h2
      exact ⟨rfl, rfl⟩
  · rintro ⟨a, h1, h2, h3⟩
    refine ⟨a, List.mem_range.mpr h1, ?_⟩
    rw [h2]
    show some (o + a, q.2) = some q
    rw [← h3]
theorem a_ws_get {o : Nat} {x0 : Nat → Nat} {cA : Nat → ClassId} {S : aS} {V : aV} {n a : Nat} {e : va_E} (h : a_e o x0 cA (S.1 a) (V a) = some e) (hn : a < n) : ∃ k : Nat, (a_ws o x0 cA S V n)[k]? = some (o + a, e) :=
  List.getElem?_of_mem (a_ws_mem.mpr ⟨a, hn, h, rfl⟩)
theorem a_P.ws {o : Nat} {x0 : Nat → Nat} {cA : Nat → ClassId} {D : va_G} {S : aS} {V : aV} {H : Heap} (hP : a_P o x0 cA D S V H) (n : Nat) : va_P D vwCl (a_ws o x0 cA S V n) H := by
  intro k q hk
  obtain ⟨a, -, h2, h3⟩ := a_ws_mem.mp (List.mem_of_getElem? hk)
  have := hP a q.2 h2
  rw [← h3] at this
  exact this
theorem a_ws_fm_inj {o : Nat} {x0 : Nat → Nat} {cA : Nat → ClassId} {S : aS} {V : aV} : ∀ (l : List Nat), l.Nodup → ∀ (i j : Nat) (p q : Nat × va_E), (l.filterMap fun a => (a_e o x0 cA (S.1 a) (V a)).map fun e => (o + a, e))[i]? = some p → (l.filterMap fun a => (a_e o x0 cA (S.1 a) (V a)).map fun e => (o + a, e))[j]? = some q → p.1 = q.1 → i = j := by
  intro l
  induction l with
  | nil => intro _ i j p q h; simp at h
  | cons b l ih =>
    intro hnd i j p q hi hj hpq
    obtain ⟨hb, hl⟩ := List.nodup_cons.mp hnd
    have hmem : ∀ (k : Nat) (x : Nat × va_E), (l.filterMap fun a => (a_e o x0 cA (S.1 a) (V a)).map fun e => (o + a, e))[k]? = some x → x.1 ≠ o + b := by
      intro k x hx he
      obtain ⟨a, ha, h2⟩ := List.mem_filterMap.mp (List.mem_of_getElem? hx)
      cases hae : a_e o x0 cA (S.1 a) (V a) with
      | none => rw [hae] at h2; cases h2
      | some e =>
        rw [hae] at h2
        cases h2
        have : a = b := by have h3 : o + a = o + b := he; omega
        subst this
        exact hb ha
    rw [List.filterMap_cons] at hi hj
    cases hbe : a_e o x0 cA (S.1 b) (V b) with
    | none =>
      rw [hbe] at hi hj
      exact ih hl i j p q hi hj hpq
    | some e =>
      rw [hbe] at hi hj
      simp only [Option.map_some] at hi hj
      cases i with
      | zero =>
        rw [List.getElem?_cons_zero] at hi
        cases hi
        cases j with
        | zero => rfl
        | succ j =>
          rw [List.getElem?_cons_succ] at hj
          exact absurd hpq.symm (hmem j q hj)
      | succ i =>
        rw [List.getElem?_cons_succ] at hi
        cases j with
        | zero =>
          rw [List.getElem?_cons_zero] at hj
          cases hj
          exact absurd hpq (hmem i p hi)
        | succ j =>
          rw [List.getElem?_cons_succ] at hj
          rw [ih hl i j p q hi hj hpq]
theorem a_ws_D {o : Nat} {x0 : Nat → Nat} {cA : Nat → ClassId} {S : aS} {V : aV} {n : Nat} : va_D (fun q => o ≤ q) (a_ws o x0 cA S V n) := by
  refine ⟨fun i j p q hi hj hpq => a_ws_fm_inj (List.range n) List.nodup_range i j p q hi hj hpq, fun k q hk => ?_⟩
  obtain ⟨a, -, -, h3⟩ := a_ws_mem.mp (List.mem_of_getElem? hk)
  rw [h3]
  exact Nat.le_add_right _ _
theorem a_P.set {o : Nat} {x0 : Nat → Nat} {cA : Nat → ClassId} {D : va_G} {S : aS} {V V' : aV} {H H1 : Heap} {a k : Nat} {e0 e1 : va_E} (hP : a_P o x0 cA D S V H) (hk : (a_ws o x0 cA S V H.size)[k]? = some (o + a, e0)) (he : a_e o x0 cA (S.1 a) (V' a) = some e1) (hV : ∀ b, b ≠ a → V' b = V b)
    (hP' : va_P D vwCl ((a_ws o x0 cA S V H.size).set k (o + a, e1)) H1) : a_P o x0 cA D S V' H1 := by
  have hl := (List.getElem?_eq_some_iff.mp hk).1
  intro b e hb
  by_cases hba : b = a
  · subst hba
    rw [he] at hb
    cases hb
    exact hP' k _ (List.getElem?_set_self hl)
  · rw [hV b hba] at hb
    obtain ⟨j, hj⟩ := a_ws_get (n := H.size) hb (hP.lt hb)
    have hjk : j ≠ k := by
      intro q
      subst q
      rw [hj] at hk
      have := congrArg Prod.fst (Option.some.inj hk)
      have h2 : o + b = o + a := this
      omega
    exact hP' j _ (by rw [List.getElem?_set_ne (Ne.symm hjk)]; exact hj)
section ACOPY
variable {T : aMt} {r mc ms : Nat} {Q : Option Value → aS → aV → Prop} {QX : String → aS → aV → Prop} {kc ks pc : Nat} {lv : List (Option Value)} {st : List Value} {S : aS} {V : aV}
def aCpy (V : aV) (a0 a1 sp dp n : Nat) : aV := fun b j => if b = a1 ∧ dp ≤ j ∧ j < dp + n then V a0 (sp + (j - dp)) else V b j
theorem wcp1 : Cond.native arraycopyName ∈ aT := aT_of (List.mem_of_getElem? (i := 776) (by decide +kernel)) (by decide +kernel)
theorem wcp2 : Cond.static arraycopyName ∈ aT := aT_of (List.mem_of_getElem? (i := 775) (by decide +kernel)) (by decide +kernel)
theorem R_copyC {idx a0 a1 n0 n1 : Nat} {sp dp n : Int32} (hw : Cond.methodLink T.1.cls idx arraycopyName ∈ aT) (hini : Cond.initialized "java/lang/System" ∈ aT) (d : decode T.2.1 pc = .ok (.invokestatic idx, 3)) (hs0 : S.1 a0 = (13, n0)) (hs1 : S.1 a1 = (13, n1)) (hS2 : S.2 = none)
    (g1 : ¬ sp < 0) (g2 : ¬ dp < 0) (g3 : ¬ n < 0) (g4 : sp.toNatClampNeg + n.toNatClampNeg ≤ n0) (g5 : dp.toNatClampNeg + n.toNatClampNeg ≤ n1) (hf : ∀ i, i < n.toNatClampNeg → fits .char (.int (a_i (V a0 (sp.toNatClampNeg + i)))) = true) (hr : 1 ≤ r) (hst : (st.map fun v => v.category).sum ≤ 8)
    (kk : R T r mc ms Q QX kc ks (pc + 3) lv st S (aCpy V a0 a1 sp.toNatClampNeg dp.toNatClampNeg n.toNatClampNeg)) : R T r mc ms Q QX kc ks pc lv (.int n :: .int dp :: .ref a1 :: .int sp :: .ref a0 :: st) S V := by
  intro p l e s m args below meth c H locs cells slots D cA o x0 ls C K hl hP hz hS ho h1 h2
  have e0 := a_e_int (o := o) (x0 := x0) (cA := cA) (g := V a0) hs0 (by decide) (by decide)
  have e1 := a_e_int (o := o) (x0 := x0) (cA := cA) (g := V a1) hs1 (by decide) (by decide)
  obtain ⟨q0, hq0⟩ := a_ws_get (n := H.size) e0 (hP.lt e0)
  obtain ⟨q1, hq1⟩ := a_ws_get (n := H.size) e1 (hP.lt e1)
  refine va_copyi (A := fun q => o ≤ q) C.1 C.2.1 (C.2.2.1.trans hl.1.symm) C.2.2.2.1 (C.2.2.2.2.1 _ hw) (C.2.2.2.2.1 _ wcp1) (C.2.2.2.2.1 _ wcp2) (C.2.2.2.2.1 _ hini) K.1 (hP.ws H.size) a_ws_D hS q0 q1 0 0 hq0 hq1 rfl rfl rfl g1 g2 g3 g4 g5 hf hr ?_ d (fun H1 locs1 hP1 hD1 hS1 => ?_)
  · rw [a_cats]
    have e9 : nativeFrameWords "java/lang/System" "arraycopy" 5 ≤ 12 := by decide
    show _ ≤ 40 * r
    omega
  · refine kk p l e s m args below meth c H1 locs1 cells slots D cA o x0 ls C K hl (hP.set hq1 ?_ (fun b hb => ?_) hP1) (fun n hn => ?_) hS1 ho h1 h2
    · rw [a_e_int hs1 (by decide) (by decide)]
      refine congrArg some (congrArg Sum.inl (congrArg (Prod.mk _) (congrArg (Prod.mk _) (congrArg Sum.inl (funext fun j => ?_)))))
      show a_i (aCpy V a0 a1 _ _ _ a1 j) = va_cpy _ _ _ _ _ j
      unfold aCpy va_cpy
      by_cases hj : dp.toNatClampNeg ≤ j ∧ j < dp.toNatClampNeg + n.toNatClampNeg
      · rw [if_pos ⟨rfl, hj⟩, if_pos hj]
      · rw [if_neg (fun q => hj q.2), if_neg hj]
    · funext j
      unfold aCpy
      rw [if_neg (fun q => hb q.1)]
    · rw [hS2] at hn; cases hn
end ACOPY
