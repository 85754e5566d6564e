/-! ===== the class, new ===== -/
theorem I11.low {V V' : aV} (h : I11 V 8) (e : ∀ b, b < 504 → V' b = V b) : I11 V' 8 := ⟨h.1.fr (fun b hb => e b (by omega)), fun i hi => ⟨(congrFun (e 199 (by decide)) i).trans (h.2 i hi).1, (h.2 i hi).2.fr (fun b q1 q2 => e b (by omega))⟩⟩
theorem cst_start {V : aV} (h : I11 V 8) : CSt V [] (fun _ => []) (fun _ => false) (fun _ => ([], [], 0, 0, 0)) 0 (fun _ => 0) (fun _ => 0) 10 5 0 0 (fun _ => 0) (fun _ => 0) (fun _ => false) (fun _ => 0) (fun _ _ => ([], 0, 0, 0)) := by
  obtain ⟨⟨⟨a1, a2, a3, a4, a5, a6, a7⟩, ⟨b1, b2, b3⟩, c1, c2⟩, d⟩ := h
  obtain ⟨⟨⟨p0, p1, p2⟩, ⟨p3, p4, p5, p6⟩, p7, p8⟩, ⟨q1, q2, q3, q4⟩, q5, q6⟩ := b1
  obtain ⟨⟨e1, e2, e3, e4⟩, ⟨e5, e6⟩, e7, e8⟩ := c1
  obtain ⟨l1, l2, l3, l4, l5, l6, l7⟩ := q4
  refine ⟨⟨⟨a1, a2, a3, a4, a5, a6, a7⟩, ⟨e1, ⟨fun k => 88 + 9 * k, 76, ?_⟩, fun j hj => ⟨e5 j, show 0 < 2 ^ 12 by decide⟩, fun j hj => ⟨e6 j, show 0 < 2 ^ 12 by decide⟩⟩, ⟨⟨fun n => 34 + 5 * n, 6, ?_⟩, ⟨p0, p2, p3, p4, p5, p6, l2, q2.1, q2.2.1, q2.2.2.2.1⟩, q2, ⟨_, _, q3⟩, ⟨([], 0, 0, fun _ => 0, fun _ => 0, fun _ => 0, 0), l3, l5, b2, by decide, b3, fun i hi => absurd hi (Nat.not_lt_zero _)⟩⟩, ?_, ?_⟩, ?_⟩
  · refine ⟨fun k q => ?_, fun j k _ _ g => by have g2 : 88 + 9 * j = 88 + 9 * k := g; omega, ⟨e2, Or.inl rfl, _, _, _, _, e4⟩, c2, by decide⟩
    obtain ⟨f0, f1, f2, f3, f4⟩ := e7 k q
    exact ⟨f0, Or.inr ⟨k, q, rfl⟩, ⟨f1, f2, f3, f4⟩, show 88 + 9 * k ≠ 76 by omega⟩
  · refine ⟨fun n q => ?_, fun n q => ⟨Or.inr ⟨n, q, rfl⟩, show 34 + 5 * n ≠ 6 by omega⟩, fun j k _ _ g => by have g2 : 34 + 5 * j = 34 + 5 * k := g; omega, p0, p1, Or.inl rfl, [], q1⟩
    obtain ⟨f0, f1, f2⟩ := q5 n q
    exact ⟨f0, Or.inr ⟨show 34 ≤ 34 + 5 * n by omega, show 34 + 5 * n ≤ 69 by omega⟩, f1, f2, fun a u g => by
      unfold jpO at g
      rw [if_neg (show ¬ (false = true) by decide)] at g
      cases g⟩
  · intro i hi
    obtain ⟨f0, f1, f2, f3, f4, f5⟩ := d i hi
    exact ⟨f0, f1, f5, f3, f4, show 0 < 8 by decide, show 0 < 8 by decide⟩
  · intro i hi j hj
    exact ⟨⟨_, _, _, _, _, (d i hi).2.2.1 j hj⟩, fun g => absurd g (Nat.not_lt_zero _)⟩
  · refine ⟨⟨Nat.zero_le _, fun c hc => absurd hc List.not_mem_nil⟩, ⟨fun n _ g => absurd g Bool.false_ne_true, fun k => ⟨Nat.zero_le _, fun c hc => absurd hc List.not_mem_nil⟩⟩, ⟨Nat.zero_le _, fun k _ => ⟨⟨Nat.zero_le _, show 0 < 1000 by decide, show 0 < 6 by decide, show 0 < 100 by decide⟩, Nat.zero_le _, fun c hc => absurd hc List.not_mem_nil, fun c hc => absurd hc List.not_mem_nil⟩, ⟨fun j _ => show 0 < 2 ^ 12 by decide, fun i j _ _ g => by rw [Nat.zero_testBit] at g; cases g⟩, fun k _ => show 0 < 2 ^ 8 by decide⟩, ⟨by decide, by decide, by decide⟩, by decide, fun i _ => ⟨show 0 < 8 by decide, show 0 < 8 by decide, Nat.zero_le _, fun _ => rfl, fun _ => rfl, fun j hj => absurd hj (Nat.not_lt_zero _)⟩⟩
