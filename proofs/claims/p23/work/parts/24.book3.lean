/-! ===== Book: its entries ===== -/
abbrev Ent : Type := List Int32 × List Int32 × Int32 × Int32 × Int32
def AE (V : aV) (a : Nat) (x : Ent) : Prop := AD V a x.1 x.2.1 (cl x.1) (cl x.2.1) ∧ V a 4 = .int x.2.2.1 ∧ V a 5 = .int x.2.2.2.1 ∧ V a 6 = .int x.2.2.2.2
theorem AE.fr {V V' : aV} {a : Nat} {x : Ent} (h : AE V a x) (e : ∀ b, a ≤ b → b ≤ a + 8 → V' b = V b) : AE V' a x := by
  have e0 := e a (Nat.le_refl _) (by omega)
  exact ⟨h.1.fr (fun k _ => congrFun e0 k) (fun b q1 q2 => e b (by omega) q2), (congrFun e0 4).trans h.2.1, (congrFun e0 5).trans h.2.2.1, (congrFun e0 6).trans h.2.2.2⟩
def slot (a : Nat) : Prop := a = 76 ∨ ∃ i, i < 12 ∧ a = 88 + 9 * i
theorem slot.dis {a b : Nat} (h : slot a) (g : slot b) (n : a ≠ b) : a + 8 < b ∨ b + 8 < a := by
  rcases h with rfl | ⟨i, hi, rfl⟩ <;> rcases g with rfl | ⟨j, hj, rfl⟩ <;> omega
theorem slot.out {a : Nat} (h : slot a) : 76 ≤ a ∧ a + 8 ≤ 195 ∧ (a + 8 < 85 ∨ 88 ≤ a) := by
  rcases h with rfl | ⟨i, hi, rfl⟩ <;> omega

def BE (V : aV) (en : Nat → Nat) (sp : Nat) (ent : Nat → Ent) (cnt : Nat) : Prop :=
  (∀ k, k < 12 → V 75 k = .ref (en k) ∧ slot (en k) ∧ AE V (en k) (ent k) ∧ en k ≠ sp) ∧ (∀ j k, j < 12 → k < 12 → en j = en k → j = k) ∧ (V 74 1 = .ref sp ∧ slot sp ∧ ∃ nm st cn cs, AD V sp nm st cn cs) ∧ V 74 5 = .int (nI cnt) ∧ cnt ≤ 12
/-- what reading an address may change -/
def BFr (V V' : aV) : Prop := (∀ b, b ≠ 1 → (b < 74 ∨ 195 < b ∨ b = 85 ∨ b = 86 ∨ b = 87) → V' b = V b) ∧ ∀ k, k ≠ 1 → k ≠ 5 → V' 74 k = V 74 k
theorem BE.keep {V V' : aV} {en : Nat → Nat} {sp : Nat} {ent : Nat → Ent} {cnt : Nat} (h : BE V en sp ent cnt) (hF : AF V V' sp) (hd : ∃ nm st cn cs, AD V' sp nm st cn cs) : BE V' en sp ent cnt := by
  obtain ⟨h1, h2, ⟨h3, h4, _⟩, h6, h7⟩ := h
  have so := h4.out
  have e74 := hF 74 (by decide) (by omega)
  have e75 := hF 75 (by decide) (by omega)
  refine ⟨fun k hk => ?_, h2, ⟨(congrFun e74 1).trans h3, h4, hd⟩, (congrFun e74 5).trans h6, h7⟩
  obtain ⟨q1, q2, q3, q4⟩ := h1 k hk
  have sk := q2.out
  have sd := q2.dis h4 q4
  exact ⟨(congrFun e75 k).trans q1, q2, q3.fr (fun b w1 w2 => hF b (by omega) (by omega)), q4⟩
def upN {α : Type} (f : Nat → α) (a : Nat) (x : α) : Nat → α := fun k => if k = a then x else f k
theorem BE.swap {V V1 : aV} {en : Nat → Nat} {sp : Nat} {ent : Nat → Ent} {cnt a : Nat} {x : Ent} (h : BE V en sp ent cnt) (hF : AF V V1 sp) (hx : AE V1 sp x) (ha : a < 12) : BE (a_up (a_up (a_up V1 75 a (.ref sp)) 74 1 (.ref (en a))) 74 5 (.int (nI (max cnt (a + 1))))) (upN en a sp) (en a) (upN ent a x) (max cnt (a + 1)) := by
  obtain ⟨h1, h2, ⟨h3, h4, _⟩, h6, h7⟩ := h
  have so := h4.out
  obtain ⟨a1, a2, a3, a4⟩ := h1 a ha
  have z : ∀ b, b ≠ 74 → b ≠ 75 → a_up (a_up (a_up V1 75 a (.ref sp)) 74 1 (.ref (en a))) 74 5 (.int (nI (max cnt (a + 1)))) b = V1 b := fun b q1 q2 => (a_up_row q1).trans ((a_up_row q1).trans (a_up_row q2))
  have z75 : ∀ k, a_up (a_up (a_up V1 75 a (.ref sp)) 74 1 (.ref (en a))) 74 5 (.int (nI (max cnt (a + 1)))) 75 k = a_up V1 75 a (.ref sp) 75 k := fun k => (a_up_ne (Or.inl (by decide))).trans (a_up_ne (Or.inl (by decide)))
  have ho : ∀ k, k < 12 → k ≠ a → AE (a_up (a_up (a_up V1 75 a (.ref sp)) 74 1 (.ref (en a))) 74 5 (.int (nI (max cnt (a + 1))))) (en k) (ent k) := by
    intro k hk hka
    obtain ⟨q1, q2, q3, q4⟩ := h1 k hk
    have sk := q2.out
    have sd := q2.dis h4 q4
    exact q3.fr (fun b w1 w2 => (z b (by omega) (by omega)).trans (hF b (by omega) (by omega)))
  have hs : AE (a_up (a_up (a_up V1 75 a (.ref sp)) 74 1 (.ref (en a))) 74 5 (.int (nI (max cnt (a + 1))))) sp x := hx.fr (fun b w1 w2 => z b (by omega) (by omega))
  refine ⟨fun k hk => ?_, fun j k hj hk e => ?_, ⟨(a_up_ne (Or.inr (by decide))).trans (a_up_self _ _ _ _), a2, ?_⟩, a_up_self _ _ _ _, by omega⟩
  · rw [z75]
    unfold upN
    by_cases q : k = a
    · subst q
      rw [if_pos rfl, if_pos rfl, a_up_self]
      exact ⟨rfl, h4, hs, fun w => a4 w.symm⟩
    · rw [if_neg q, if_neg q, a_up_ne (Or.inr q)]
      obtain ⟨q1, q2, q3, q4⟩ := h1 k hk
      exact ⟨(congrFun (hF 75 (by decide) (by omega)) k).trans q1, q2, ho k hk q, fun w => q (h2 k a hk ha w)⟩
  · unfold upN at e
    by_cases q : j = a
    · by_cases q2 : k = a
      · rw [q, q2]
      · rw [if_pos q, if_neg q2] at e
        exact absurd e.symm (h1 k hk).2.2.2
    · by_cases q2 : k = a
      · rw [if_neg q, if_pos q2] at e
        exact absurd e (h1 j hj).2.2.2
      · rw [if_neg q, if_neg q2] at e
        exact h2 j k hj hk e
  · have sk := a2.out
    have sd := a2.dis h4 a4
    exact ⟨_, _, _, _, (a3.fr (V' := a_up (a_up (a_up V1 75 a (.ref sp)) 74 1 (.ref (en a))) 74 5 (.int (nI (max cnt (a + 1))))) (fun b w1 w2 => (z b (by omega) (by omega)).trans (hF b (by omega) (by omega)))).1⟩
def BRPost (V : aV) (L : List Int32) (en : Nat → Nat) (sp : Nat) (ent : Nat → Ent) (cnt a : Nat) (r : ARr) : Option Value → aS → aV → Prop := fun v S' V' => Sh = S' ∧ LN V' L r.1 ∧ BFr V V' ∧ match r.2 with
  | none => some (.int 0) = v ∧ BE V' en sp ent cnt
  | some x => some (.int 1) = v ∧ BE V' (upN en a sp) (en a) (upN ent a x) (max cnt (a + 1))
theorem BFr.af {V V1 : aV} {sp : Nat} (h : AF V V1 sp) (s : slot sp) : BFr V V1 := by
  have so := s.out
  exact ⟨fun b q1 q2 => h b q1 (by omega), fun k _ _ => congrFun (h 74 (by decide) (by omega)) k⟩
theorem BFr.swap {V V1 : aV} {a : Nat} {v1 v2 v3 : Value} (h : BFr V V1) : BFr V (a_up (a_up (a_up V1 75 a v1) 74 1 v2) 74 5 v3) := ⟨fun b q1 q2 => (a_up_row (by omega)).trans ((a_up_row (by omega)).trans ((a_up_row (by omega)).trans (h.1 b q1 q2))), fun k q1 q2 => (a_up_ne (Or.inr q2)).trans ((a_up_ne (Or.inr q1)).trans ((a_up_ne (Or.inl (by decide))).trans (h.2 k q1 q2)))⟩
set_option maxHeartbeats 4000000 in
theorem ct_readAddress {V : aV} {L : List Int32} {en : Nat → Nat} {sp : Nat} {ent : Nat → Ent} {cnt a : Nat} (hl : LI V L) (hB : BF V) (hE : BE V en sp ent cnt) (ha : a < 12) : CT mX1_readAddress 5 0 0 [.ref 74, .ref 1, .int (nI a)] Sh V (BRPost V L en sp ent cnt a (aRd L)) aNo := by
  refine CT_of (by decide +kernel) (Nat.le_of_ble_eq_true rfl) ?_
  show R _ _ _ _ _ _ _ _ 0 [some (.ref 74), some (.ref 1), some (.int (nI a)), none, none] [] _ _
  have hE' := hE
  obtain ⟨h1, h2, ⟨h3, h4, n1, n2, n3, n4, h5⟩, h6, h7⟩ := hE
  obtain ⟨f0, f2, f3, f4⟩ := hB
  have so := h4.out
  have h0 : ¬ nI a < 0 := nI_pos (by omega)
  have h12 : ¬ (12 : Int32) ≤ nI a := nI_ge (a := a) (b := 12) (by omega) (by omega)
  have hmax : (if nI cnt < nI (a + 1) then nI (a + 1) else nI cnt) = nI (max cnt (a + 1)) := by
    by_cases e : cnt < a + 1
    · rw [if_pos (nI_lt e (by omega)), Nat.max_eq_right (by omega)]
    · rw [if_neg (nI_nlt (by omega) (by omega)), Nat.max_eq_left (by omega)]
  refine R_aload_0 dX1_readAddress_0 ?_
  refine gfX1_18 rfl dX1_readAddress_1 sh_74 h3 ?_
  refine R_aload_1 dX1_readAddress_4 ?_
  refine R_callVN (T := mX1_readAddress) (T' := mX0_read) (As := [_]) (ci := 0) okX0_read mlX1_32 rfl (by decide) h5.1.1 (ct_aread h5 hl) rfl (by decide) (by decide) (Nat.le_of_ble_eq_true rfl) dX1_readAddress_5 (fun v9 S9 V1 h9 => ?_) (fun E S9 V9 h9 => h9.elim)
  obtain ⟨rfl, l1, hF, nm, st, hD, hx⟩ := h9
  generalize eR : aRd L = r9 at l1 hx
  obtain ⟨p9, o9⟩ := r9
  have e74 := hF 74 (by decide) (by omega)
  have e75 := hF 75 (by decide) (by omega)
  have g0 := (congrFun e74 0).trans f0
  have g1 := (congrFun e74 1).trans h3
  have g5 := (congrFun e74 5).trans h6
  have ga := (congrFun e75 a).trans (h1 a ha).1
  rcases o9 with _ | x9
  · obtain rfl : some (Value.int 0) = v9 := hx
    refine R_istore_3 rfl (by decide) dX1_readAddress_8 ?_
    refine R_iload_3 dX1_readAddress_9 ?_
    refine R_if_eq 61 dX1_readAddress_10 (by decide) (fun c10 => ?_) (fun c10 => absurd rfl c10)
    refine R_iload_3 dX1_readAddress_61 ?_
    refine R_zret rfl (by rfl) dX1_readAddress_62 ⟨rfl, l1, BFr.af hF h4, rfl, hE'.keep hF ⟨_, _, _, _, hD⟩⟩
  · obtain ⟨rfl, x1, x2, x3⟩ : some (Value.int 1) = v9 ∧ x9.1 = nm ∧ x9.2.1 = st ∧ _ := hx
    subst x1 x2
    have hxx : AE V1 sp x9 := ⟨hD, x3⟩
    refine R_istore_3 rfl (by decide) dX1_readAddress_8 ?_
    refine R_iload_3 dX1_readAddress_9 ?_
    refine R_if_eq 61 dX1_readAddress_10 (by decide) (fun c10 => absurd c10 (by decide)) (fun c10 => ?_)
    refine R_iload_2 dX1_readAddress_13 ?_
    refine R_if_lt 61 dX1_readAddress_14 (by decide) (fun c14 => absurd c14 h0) (fun c14 => ?_)
    refine R_iload_2 dX1_readAddress_17 ?_
    refine R_bipush (v := 12) dX1_readAddress_18 (by decide) ?_
    refine R_icmp_ge 61 dX1_readAddress_20 (by decide) (fun c20 => absurd c20 h12) (fun c20 => ?_)
    refine R_aload_0 dX1_readAddress_23 ?_
    refine gfX1_11 rfl dX1_readAddress_24 sh_74 g0 ?_
    refine R_iload_2 dX1_readAddress_27 ?_
    refine R_aald_16 dX1_readAddress_28 sh_75 (vp_in_nI (by omega) (by decide)) (nI_clamp (by omega)) ga ?_
    refine R_astore_4 rfl (by decide) dX1_readAddress_29 ?_
    refine R_aload_0 dX1_readAddress_31 ?_
    refine gfX1_11 rfl dX1_readAddress_32 sh_74 g0 ?_
    refine R_iload_2 dX1_readAddress_35 ?_
    refine R_aload_0 dX1_readAddress_36 ?_
    refine gfX1_18 rfl dX1_readAddress_37 sh_74 g1 ?_
    refine R_aast_16 dX1_readAddress_40 sh_75 (vp_in_nI (by omega) (by decide)) (nI_clamp (by omega)) h5.1.1 ?_
    refine R_aload_0 dX1_readAddress_41 ?_
    refine R_aload_4 dX1_readAddress_42 ?_
    refine pfX1_18 rfl dX1_readAddress_44 sh_74 ?_
    refine R_aload_0 dX1_readAddress_47 ?_
    refine R_aload_0 dX1_readAddress_48 ?_
    refine gfX1_36 rfl dX1_readAddress_49 sh_74 ((a_up_ne (Or.inr (by decide))).trans ((a_up_ne (Or.inl (by decide))).trans g5)) ?_
    refine R_iload_2 dX1_readAddress_52 ?_
    refine R_iconst (v := 1) dX1_readAddress_53 (by decide) ?_
    refine R_iadd dX1_readAddress_54 ?_
    rw [show nI a + 1 = nI (a + 1) from nI_1 a]
    refine R_max mmX1_40 wm_max1 wm_ini wm_max2 dX1_readAddress_55 (by decide) (Nat.le_of_ble_eq_true rfl) hmax ?_
    refine pfX1_36 rfl dX1_readAddress_58 sh_74 ?_
    refine R_iload_3 dX1_readAddress_61 ?_
    refine R_zret rfl (by rfl) dX1_readAddress_62 ⟨rfl, l1.up (by decide) |>.up (by decide) |>.up (by decide), (BFr.af hF h4).swap, rfl, hE'.swap hF hxx ha⟩

