/-! ===== Press: a template is read ===== -/
def tslot (a : Nat) : Prop := a = 6 ∨ ∃ i, i < 8 ∧ a = 34 + 5 * i
theorem tslot.dis {a b : Nat} (h : tslot a) (g : tslot b) (n : a ≠ b) : a + 4 < b ∨ b + 4 < a := by
  rcases h with rfl | ⟨i, hi, rfl⟩ <;> rcases g with rfl | ⟨j, hj, rfl⟩ <;> omega
theorem tslot.out {a : Nat} (h : tslot a) : a = 6 ∨ (34 ≤ a ∧ a ≤ 69) := by
  rcases h with rfl | ⟨i, hi, rfl⟩ <;> omega
def PB (V : aV) (tl : Nat → Nat) (sp : Nat) (T : Nat → List Int32) (to : Nat → Bool) (jp : Nat → Nat → Option Nat) : Prop :=
  PT V tl T to jp ∧ (∀ n, n < 8 → tslot (tl n) ∧ tl n ≠ sp) ∧ (∀ j k, j < 8 → k < 8 → tl j = tl k → j = k) ∧ V 4 0 = .ref 5 ∧ V 4 1 = .ref sp ∧ tslot sp ∧ ∃ A, TS V sp A
def TFr (V V' : aV) : Prop := (∀ b, b ≠ 1 → b ≠ 4 → b ≠ 5 → (b < 6 ∨ 10 < b) → (b < 34 ∨ 73 < b) → V' b = V b) ∧ ∀ k, k ≠ 1 → V' 4 k = V 4 k
theorem PB.keep {V V' : aV} {tl : Nat → Nat} {sp : Nat} {T : Nat → List Int32} {to : Nat → Bool} {jp : Nat → Nat → Option Nat} (h : PB V tl sp T to jp) (hF : ∀ b, b ≠ 1 → b ≠ sp → b ≠ sp + 1 → b ≠ sp + 2 → b ≠ sp + 3 → b ≠ sp + 4 → V' b = V b) (hA : ∃ A, TS V' sp A) : PB V' tl sp T to jp := by
  obtain ⟨h1, h2, h3, h4, h5, h6, _⟩ := h
  have so := h6.out
  have e4 := hF 4 (by decide) (by omega) (by omega) (by omega) (by omega) (by omega)
  have e5 := hF 5 (by decide) (by omega) (by omega) (by omega) (by omega) (by omega)
  refine ⟨fun n hn => ?_, h2, h3, (congrFun e4 0).trans h4, (congrFun e4 1).trans h5, h6, hA⟩
  obtain ⟨t1, t2, t3, t4, t5⟩ := h1 n hn
  obtain ⟨q1, q2⟩ := h2 n hn
  have sd := q1.dis h6 q2
  have z : ∀ b, tl n ≤ b → b ≤ tl n + 4 → V' b = V b := fun b w1 w2 => hF b (by omega) (by omega) (by omega) (by omega) (by omega) (by omega)
  exact ⟨(congrFun e5 n).trans t1, t2, t3.fr (fun b w1 w2 => z b w1 (by omega)), (congrFun (z _ (Nat.le_refl _) (by omega)) 4).trans t4, fun q u hq => (congrFun (z (tl n + 3) (by omega) (by omega)) q).trans (t5 q u hq)⟩
theorem PB.swap {V V1 : aV} {tl : Nat → Nat} {sp a : Nat} {T : Nat → List Int32} {to : Nat → Bool} {jp : Nat → Nat → Option Nat} {L : List Int32} {j9 : Nat → Option Nat} (h : PB V tl sp T to jp) (ha : a < 8) (hF : ∀ b, b ≠ 1 → b ≠ sp → b ≠ sp + 1 → b ≠ sp + 2 → b ≠ sp + 3 → b ≠ sp + 4 → V1 b = V b) (hA : TS V1 sp L) (h4' : V1 sp 4 = .int 1) (hj : ∀ q u, j9 q = some u → V1 (sp + 3) q = .int (nI u)) : PB (a_up (a_up V1 5 a (.ref sp)) 4 1 (.ref (tl a))) (upN tl a sp) (tl a) (upN T a L) (upN to a true) (upN jp a j9) := by
  have h0 := h.keep hF ⟨L, hA⟩
  obtain ⟨h1, h2, h3, h4, h5, h6, _⟩ := h0
  have so := h6.out
  have z : ∀ b, b ≠ 4 → b ≠ 5 → a_up (a_up V1 5 a (.ref sp)) 4 1 (.ref (tl a)) b = V1 b := fun b q1 q2 => (a_up_row q1).trans (a_up_row q2)
  have z5 : ∀ k, a_up (a_up V1 5 a (.ref sp)) 4 1 (.ref (tl a)) 5 k = a_up V1 5 a (.ref sp) 5 k := fun k => a_up_ne (Or.inl (by decide))
  obtain ⟨a1, a2, a3, a4, a5⟩ := h1 a ha
  refine ⟨fun n hn => ?_, fun n hn => ?_, fun j k hjj hk e => ?_, (a_up_ne (Or.inr (by decide))).trans ((a_up_ne (Or.inl (by decide))).trans h4), a_up_self _ _ _ _, (h2 a ha).1, ⟨_, a3.fr (fun b w1 w2 => z b (by omega) (by omega))⟩⟩
  · rw [z5]
    by_cases q : n = a
    · subst q
      rw [upN_s, upN_s, upN_s, upN_s, a_up_self]
      exact ⟨rfl, so, hA.fr (fun b w1 w2 => z b (by omega) (by omega)), (congrFun (z sp (by omega) (by omega)) 4).trans h4', fun q u hq => (congrFun (z (sp + 3) (by omega) (by omega)) q).trans (hj q u hq)⟩
    · rw [upN_n q, upN_n q, upN_n q, upN_n q, a_up_ne (Or.inr q)]
      obtain ⟨t1, t2, t3, t4, t5⟩ := h1 n hn
      exact ⟨t1, t2, t3.fr (fun b w1 w2 => z b (by omega) (by omega)), (congrFun (z (tl n) (by omega) (by omega)) 4).trans t4, fun q u hq => (congrFun (z (tl n + 3) (by omega) (by omega)) q).trans (t5 q u hq)⟩
  · by_cases q : n = a
    · subst q; rw [upN_s]; exact ⟨h6, fun w => (h2 n hn).2 w.symm⟩
    · rw [upN_n q]; exact ⟨(h2 n hn).1, fun w => q (h3 n a hn ha w)⟩
  · by_cases q : j = a
    · by_cases q2 : k = a
      · rw [q, q2]
      · rw [q, upN_s, upN_n q2] at e
        exact absurd e.symm (h2 k hk).2
    · by_cases q2 : k = a
      · rw [q2, upN_s, upN_n q] at e
        exact absurd e (h2 j hjj).2
      · rw [upN_n q, upN_n q2] at e
        exact h3 j k hjj hk e
def RTPost (V : aV) (L : List Int32) (tl : Nat → Nat) (sp : Nat) (T : Nat → List Int32) (to : Nat → Bool) (jp : Nat → Nat → Option Nat) (a : Nat) (r : RRes) : Option Value → aS → aV → Prop := fun v S' V' => Sh = S' ∧ TFr V V' ∧ match r with
  | .inl p' => some (.int 0) = v ∧ LN V' L p' ∧ PB V' tl sp T to jp
  | .inr r => LN V' L r.1 ∧ ((r.2.1.length = 0 ∧ some (.int 1) = v ∧ PB V' (upN tl a sp) (tl a) (upN T a L) (upN to a true) (upN jp a r.2.2)) ∨ (¬ r.2.1.length = 0 ∧ some (.int 0) = v ∧ PB V' tl sp T to jp))
theorem TFr.of {V V1 : aV} {sp : Nat} (h : tslot sp) (hF : ∀ b, b ≠ 1 → b ≠ sp → b ≠ sp + 1 → b ≠ sp + 2 → b ≠ sp + 3 → b ≠ sp + 4 → V1 b = V b) : TFr V V1 := by
  have so := h.out
  exact ⟨fun b q1 q2 q3 q4 q5 => hF b q1 (by omega) (by omega) (by omega) (by omega) (by omega), fun k _ => congrFun (hF 4 (by decide) (by omega) (by omega) (by omega) (by omega) (by omega)) k⟩
theorem TFr.swap {V V1 : aV} {a : Nat} {v1 v2 : Value} (h : TFr V V1) : TFr V (a_up (a_up V1 5 a v1) 4 1 v2) := ⟨fun b q1 q2 q3 q4 q5 => (a_up_row q2).trans ((a_up_row q3).trans (h.1 b q1 q2 q3 q4 q5)), fun k hk => (a_up_ne (Or.inr hk)).trans ((a_up_ne (Or.inl (by decide))).trans (h.2 k hk))⟩
set_option maxHeartbeats 4000000 in
theorem ct_readTemplate {V : aV} {L : List Int32} {tl : Nat → Nat} {sp a : Nat} {T : Nat → List Int32} {to : Nat → Bool} {jp : Nat → Nat → Option Nat} (hl : LI V L) (hB : PB V tl sp T to jp) (ha : a < 8) : CT mX7_readTemplate 8 0 0 [.ref 4, .ref 1, .int (nI a)] Sh V (RTPost V L tl sp T to jp a (rAll L 96 0 [] (fun _ => none))) aNo := by
  refine CT_of (by decide +kernel) (Nat.le_of_ble_eq_true rfl) ?_
  show R _ _ _ _ _ _ _ _ 0 [some (.ref 4), some (.ref 1), some (.int (nI a)), none, none] [] _ _
  have hB0 := hB
  obtain ⟨h1, h2, h3, h4, h5, h6, A, hA⟩ := hB
  have so := h6.out
  have h0 : ¬ nI a < 0 := nI_pos (by omega)
  have h12 : ¬ (8 : Int32) ≤ nI a := nI_ge (a := a) (b := 8) (by omega) (by omega)
  refine R_aload_0 dX7_readTemplate_0 ?_
  refine gfX7_18 rfl dX7_readTemplate_1 sh_4 h5 ?_
  refine R_aload_1 dX7_readTemplate_4 ?_
  refine R_callVN (T := mX7_readTemplate) (T' := mX10_read) (As := [_]) (ci := 10) okX10_read mlX7_46 rfl (by decide) hA.1.1 (ct_tread hA hl) rfl (by decide) (by decide) (Nat.le_of_ble_eq_true rfl) dX7_readTemplate_5 (fun v9 S9 V1 h9 => ?_) (fun E S9 V9 h9 => h9.elim)
  obtain ⟨rfl, hF, h9⟩ := h9
  generalize eR : rAll L 96 0 [] (fun _ => none) = r9 at h9
  have e4 := hF 4 (by decide) (by omega) (by omega) (by omega) (by omega) (by omega)
  have e5 := hF 5 (by decide) (by omega) (by omega) (by omega) (by omega) (by omega)
  have g0 := (congrFun e4 0).trans h4
  have g1 := (congrFun e4 1).trans h5
  have ga := (congrFun e5 a).trans (h1 a ha).1
  rcases r9 with p9 | r9
  · obtain ⟨rfl, l9, y1, y2, y3⟩ : some (Value.int 0) = v9 ∧ _ := h9
    have hA1 : TS V1 sp A := ⟨hA.1, ⟨(y1 0 (by decide)).trans hA.2.1.1, (y1 1 (by decide)).trans hA.2.1.2.1, (y1 2 (by decide)).trans hA.2.1.2.2⟩, hA.2.2.frame y2 y3⟩
    refine R_istore_3 rfl (by decide) dX7_readTemplate_8 ?_
    refine R_iload_3 dX7_readTemplate_9 ?_
    refine R_if_eq 47 dX7_readTemplate_10 (by decide) (fun c10 => ?_) (fun c10 => absurd rfl c10)
    refine R_iload_3 dX7_readTemplate_47 ?_
    refine R_zret rfl (by rfl) dX7_readTemplate_48 ⟨rfl, TFr.of h6 hF, rfl, l9, hB0.keep hF ⟨A, hA1⟩⟩
  · obtain ⟨rfl, l9, y1, y2, y3⟩ : some (Value.int (bI (r9.2.1.length = 0))) = v9 ∧ _ := h9
    have y9 := bor (r9.2.1.length = 0)
    refine R_istore_3 rfl (by decide) dX7_readTemplate_8 ?_
    rcases y9 with ⟨z1, z2⟩ | ⟨z1, z2⟩
    · rw [z2] at y2 ⊢
      refine R_iload_3 dX7_readTemplate_9 ?_
      refine R_if_eq 47 dX7_readTemplate_10 (by decide) (fun c10 => absurd c10 (by decide)) (fun c10 => ?_)
      refine R_iload_2 dX7_readTemplate_13 ?_
      refine R_if_lt 47 dX7_readTemplate_14 (by decide) (fun c14 => absurd c14 h0) (fun c14 => ?_)
      refine R_iload_2 dX7_readTemplate_17 ?_
      refine R_bipush (v := 8) dX7_readTemplate_18 (by decide) ?_
      refine R_icmp_ge 47 dX7_readTemplate_20 (by decide) (fun c20 => absurd c20 h12) (fun c20 => ?_)
      refine R_aload_0 dX7_readTemplate_23 ?_
      refine gfX7_11 rfl dX7_readTemplate_24 sh_4 g0 ?_
      refine R_iload_2 dX7_readTemplate_27 ?_
      refine R_aald_20 dX7_readTemplate_28 sh_5 (vp_in_nI (by omega) (by decide)) (nI_clamp (by omega)) ga ?_
      refine R_astore_4 rfl (by decide) dX7_readTemplate_29 ?_
      refine R_aload_0 dX7_readTemplate_31 ?_
      refine gfX7_11 rfl dX7_readTemplate_32 sh_4 g0 ?_
      refine R_iload_2 dX7_readTemplate_35 ?_
      refine R_aload_0 dX7_readTemplate_36 ?_
      refine gfX7_18 rfl dX7_readTemplate_37 sh_4 g1 ?_
      refine R_aast_20 dX7_readTemplate_40 sh_5 (vp_in_nI (by omega) (by decide)) (nI_clamp (by omega)) hA.1.1 ?_
      refine R_aload_0 dX7_readTemplate_41 ?_
      refine R_aload_4 dX7_readTemplate_42 ?_
      refine pfX7_18 rfl dX7_readTemplate_44 sh_4 ?_
      refine R_iload_3 dX7_readTemplate_47 ?_
      refine R_zret rfl (by rfl) dX7_readTemplate_48 ⟨rfl, (TFr.of h6 hF).swap, l9.up (by decide) |>.up (by decide), Or.inl ⟨z1, rfl, hB0.swap ha hF y1 y2 y3⟩⟩
    · rw [z2] at y2 ⊢
      refine R_iload_3 dX7_readTemplate_9 ?_
      refine R_if_eq 47 dX7_readTemplate_10 (by decide) (fun c10 => ?_) (fun c10 => absurd rfl c10)
      refine R_iload_3 dX7_readTemplate_47 ?_
      refine R_zret rfl (by rfl) dX7_readTemplate_48 ⟨rfl, TFr.of h6 hF, l9, Or.inr ⟨z1, rfl, hB0.keep hF ⟨L, y1⟩⟩⟩

