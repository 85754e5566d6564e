/-! ===== Letter, Run ===== -/
/-- a letter as it lies -/
def LT (V : aV) (l : Nat) (x : List Int32) (mem tr wt co : Int32) : Prop := (Sh.1 l).1 = 4 ∧ V l 0 = .ref (l + 1) ∧ SL Sh V (l + 1) 160 x ∧ V l 1 = .int mem ∧ V l 2 = .int tr ∧ V l 3 = .int wt ∧ V l 4 = .int co
theorem LT.fr {V V' : aV} {l : Nat} {x : List Int32} {mem tr wt co : Int32} (h : LT V l x mem tr wt co) (e : ∀ b, l ≤ b → b ≤ l + 2 → V' b = V b) : LT V' l x mem tr wt co := by
  obtain ⟨h1, h2, h3, h4, h5, h6, h7⟩ := h
  have e0 := e l (Nat.le_refl _) (by omega)
  exact ⟨h1, (congrFun e0 0).trans h2, h3.frame (e _ (by omega) (by omega)) (e _ (by omega) (by omega)), (congrFun e0 1).trans h4, (congrFun e0 2).trans h5, (congrFun e0 3).trans h6, (congrFun e0 4).trans h7⟩
def FrL (V V' : aV) (l : Nat) : Prop := ∀ b, (b < l ∨ l + 2 < b) → V' b = V b
set_option maxHeartbeats 4000000 in
theorem ct_lbecome {V : aV} {l l2 : Nat} {x x2 : List Int32} {mem tr wt co mem2 tr2 wt2 co2 : Int32} (h : LT V l x mem tr wt co) (g : LT V l2 x2 mem2 tr2 wt2 co2) (hd : l + 2 < l2 ∨ l2 + 2 < l) : CT mX4_become 3 0 0 [.ref l, .ref l2] Sh V (fun v S' V' => none = v ∧ Sh = S' ∧ LT V' l x2 mem2 tr2 wt2 co2 ∧ FrL V V' l) aNo := by
  refine CT_of (by decide +kernel) (Nat.le_of_ble_eq_true rfl) ?_
  show R _ _ _ _ _ _ _ _ 0 [some (.ref l), some (.ref l2)] [] _ _
  obtain ⟨h1, h2, h3, h4, h5, h6, h7⟩ := h
  have g0 := g
  obtain ⟨g1, g2, g3, g4, g5, g6, g7⟩ := g
  refine R_aload_0 dX4_become_0 ?_
  refine gfX4_14 rfl dX4_become_1 h1 h2 ?_
  refine R_aload_1 dX4_become_4 ?_
  refine gfX4_14 rfl dX4_become_5 g1 g2 ?_
  refine R_callVN (T := mX4_become) (T' := mX9_become) (As := [_]) (ci := 9) okX9_become mlX4_20 rfl (by decide) h3.1 (ct_become rfl h3 g3 (by omega) (by omega)) rfl (by decide) (by decide) (Nat.le_of_ble_eq_true rfl) dX4_become_8 (fun v9 S9 V1 h9 => ?_) (fun E S9 V9 h9 => h9.elim)
  obtain ⟨rfl, rfl, u3, u4⟩ := h9
  rw [List.take_of_length_le g3.len] at u3
  have gg : LT V1 l2 x2 mem2 tr2 wt2 co2 := g0.fr (fun b q1 q2 => u4 b (by omega) (by omega))
  obtain ⟨_, k2, k3, k4, k5, k6, k7⟩ := gg
  have hu : V1 l 0 = .ref (l + 1) := (congrFun (u4 l (by omega) (by omega)) 0).trans h2
  refine R_aload_0 dX4_become_11 ?_
  refine R_aload_1 dX4_become_12 ?_
  refine gfX4_24 rfl dX4_become_13 g1 k4 ?_
  refine pfX4_24 rfl dX4_become_16 h1 ?_
  refine R_aload_0 dX4_become_19 ?_
  refine R_aload_1 dX4_become_20 ?_
  refine gfX4_28 rfl dX4_become_21 g1 ((a_up_ne (Or.inl (by omega))).trans k5) ?_
  refine pfX4_28 rfl dX4_become_24 h1 ?_
  refine R_aload_0 dX4_become_27 ?_
  refine R_aload_1 dX4_become_28 ?_
  refine gfX4_31 rfl dX4_become_29 g1 ((a_up_ne (Or.inl (by omega))).trans ((a_up_ne (Or.inl (by omega))).trans k6)) ?_
  refine pfX4_31 rfl dX4_become_32 h1 ?_
  refine R_aload_0 dX4_become_35 ?_
  refine R_aload_1 dX4_become_36 ?_
  refine gfX4_34 rfl dX4_become_37 g1 ((a_up_ne (Or.inl (by omega))).trans ((a_up_ne (Or.inl (by omega))).trans ((a_up_ne (Or.inl (by omega))).trans k7))) ?_
  refine pfX4_34 rfl dX4_become_40 h1 ?_
  refine R_vret rfl dX4_become_43 (by
  have z : ∀ b, b ≠ l → (a_up (a_up (a_up (a_up V1 l 1 (.int mem2)) l 2 (.int tr2)) l 3 (.int wt2)) l 4 (.int co2)) b = V1 b := fun b q => (a_up_row q).trans ((a_up_row q).trans ((a_up_row q).trans (a_up_row q)))
  exact ⟨rfl, rfl, ⟨h1, (a_up_ne (Or.inr (by decide))).trans ((a_up_ne (Or.inr (by decide))).trans ((a_up_ne (Or.inr (by decide))).trans ((a_up_ne (Or.inr (by decide))).trans hu))), u3.frame (z _ (by omega)) (z _ (by omega)), (a_up_ne (Or.inr (by decide))).trans ((a_up_ne (Or.inr (by decide))).trans ((a_up_ne (Or.inr (by decide))).trans (a_up_self _ _ _ _))), (a_up_ne (Or.inr (by decide))).trans ((a_up_ne (Or.inr (by decide))).trans (a_up_self _ _ _ _)), (a_up_ne (Or.inr (by decide))).trans (a_up_self _ _ _ _), a_up_self _ _ _ _⟩, fun b q => (z b (by omega)).trans (u4 b (by omega) (by omega))⟩)

/-- a run's own places -/
def RN (V : aV) (q : Nat) (cnt : Nat) : Prop := (Sh.1 q).1 = 8 ∧ Sh.1 (q + 1) = (17, 12) ∧ V q 0 = .ref (q + 1) ∧ (∀ j, j < 12 → V (q + 1) j = .ref (q + 2 + 3 * j)) ∧ V q 1 = .int (nI cnt) ∧ cnt ≤ 12
def FrK (V V' : aV) (q cnt : Nat) : Prop := (∀ b, b ≠ q → (b < q + 2 + 3 * cnt ∨ q + 4 + 3 * cnt < b) → V' b = V b) ∧ ∀ k, k ≠ 1 → V' q k = V q k
set_option maxHeartbeats 4000000 in
theorem ct_keep {V : aV} {q l2 cnt : Nat} {x x2 : List Int32} {mem tr wt co mem2 tr2 wt2 co2 : Int32} (hr : RN V q cnt) (hc : cnt < 12) (h : LT V (q + 2 + 3 * cnt) x mem tr wt co) (g : LT V l2 x2 mem2 tr2 wt2 co2) (hd : l2 + 2 < q) : CT mX8_keep 4 0 0 [.ref q, .ref l2] Sh V (fun v S' V' => none = v ∧ Sh = S' ∧ RN V' q (cnt + 1) ∧ LT V' (q + 2 + 3 * cnt) x2 mem2 tr2 wt2 co2 ∧ FrK V V' q cnt) aNo := by
  refine CT_of (by decide +kernel) (Nat.le_of_ble_eq_true rfl) ?_
  show R _ _ _ _ _ _ _ _ 0 [some (.ref q), some (.ref l2)] [] _ _
  obtain ⟨r1, r2, r3, r4, r5, r6⟩ := hr
  have h0 : ¬ nI cnt < 0 := nI_pos (by omega)
  have h12 : ¬ (12 : Int32) ≤ nI cnt := nI_ge (a := cnt) (b := 12) (by omega) (by omega)
  have hj := r4 cnt hc
  refine R_aload_0 dX8_keep_0 ?_
  refine gfX8_18 rfl dX8_keep_1 r1 r5 ?_
  refine R_if_lt 39 dX8_keep_4 (by decide) (fun c4 => absurd c4 h0) (fun c4 => ?_)
  refine R_aload_0 dX8_keep_7 ?_
  refine gfX8_18 rfl dX8_keep_8 r1 r5 ?_
  refine R_bipush (v := 12) dX8_keep_11 (by decide) ?_
  refine R_icmp_ge 39 dX8_keep_13 (by decide) (fun c13 => absurd c13 h12) (fun c13 => ?_)
  refine R_aload_0 dX8_keep_16 ?_
  refine gfX8_11 rfl dX8_keep_17 r1 r3 ?_
  refine R_aload_0 dX8_keep_20 ?_
  refine gfX8_18 rfl dX8_keep_21 r1 r5 ?_
  refine R_aald_17 dX8_keep_24 r2 (vp_in_nI (by omega) (by decide)) (nI_clamp (by omega)) hj ?_
  refine R_aload_1 dX8_keep_25 ?_
  refine R_callVN (T := mX8_keep) (T' := mX4_become) (As := [_]) (ci := 4) okX4_become mlX8_22 rfl (by decide) h.1 (ct_lbecome h g (by omega)) rfl (by decide) (by decide) (Nat.le_of_ble_eq_true rfl) dX8_keep_26 (fun v9 S9 V1 h9 => ?_) (fun E S9 V9 h9 => h9.elim)
  obtain ⟨rfl, rfl, u3, u4⟩ := h9
  have z5 := (congrFun (u4 q (by omega)) 1).trans r5
  refine R_aload_0 dX8_keep_29 ?_
  refine R_dup dX8_keep_30 rfl ?_
  refine gfX8_18 rfl dX8_keep_31 r1 z5 ?_
  refine R_iconst (v := 1) dX8_keep_34 (by decide) ?_
  refine R_iadd dX8_keep_35 ?_
  rw [show nI cnt + 1 = nI (cnt + 1) from nI_1 cnt]
  refine pfX8_18 rfl dX8_keep_36 r1 ?_
  refine R_vret rfl dX8_keep_39 ⟨rfl, rfl, ⟨r1, r2, (a_up_ne (Or.inr (by decide))).trans ((congrFun (u4 q (by omega)) 0).trans r3), fun j hj => (a_up_ne (Or.inl (by omega))).trans ((congrFun (u4 (q + 1) (by omega)) j).trans (r4 j hj)), a_up_self _ _ _ _, hc⟩, u3.fr (fun b q1 q2 => a_up_row (by omega)), fun b q1 q2 => (a_up_row q1).trans (u4 b (by omega)), fun k hk => (a_up_ne (Or.inr hk)).trans (congrFun (u4 q (by omega)) k)⟩

