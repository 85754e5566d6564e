/-! ===== MergePost and MergePostModel made ===== -/
theorem sh8s : ∀ j, j < 8 → s8 (200 + 38 * j) := by decide +kernel
theorem s9_2 : s9 2 96 := by decide +kernel
theorem sh_1e : shF 1 = (6, 0) := by decide +kernel
theorem sh_4e : shF 4 = (7, 0) := by decide +kernel
theorem sh_74e : shF 74 = (1, 0) := by decide +kernel
theorem sh_196e : shF 196 = (5, 0) := by decide +kernel
theorem sh_198e : shF 198 = (2, 0) := by decide +kernel
def RNq (V : aV) (q : Nat) : Prop := RN V q 0 ∧ (∀ j, j < 12 → LT V (q + 2 + 3 * j) [] 0 0 0 0) ∧ V q 2 = .int 0 ∧ V q 3 = .int 0 ∧ V q 4 = .int 0
theorem RNq.fr {V V' : aV} {q : Nat} (h : RNq V q) (e : ∀ b, q ≤ b → b ≤ q + 37 → V' b = V b) : RNq V' q := by
  obtain ⟨h1, h2, h3, h4, h5⟩ := h
  have eq := e q (Nat.le_refl _) (by omega)
  exact ⟨h1.fr eq (e _ (by omega) (by omega)), fun j hj => (h2 j hj).fr (fun b q1 q2 => e b (by omega) (by omega)), (congrFun eq 2).trans h3, (congrFun eq 3).trans h4, (congrFun eq 4).trans h5⟩
theorem RNq.of {V0 V : aV} {q : Nat} (h : I8 (aVn V0 q dX8) V q 12) (g : s8 q) : RNq V q := by
  obtain ⟨h1, h2, h3, h4⟩ := h
  have e : ∀ k, k ≠ 0 → V q k = dX8 k := fun k hk => (h3 k hk).trans (congrFun aVn_self k)
  exact ⟨⟨g.o, g.2.1, h1, fun j hj => (h2 j hj).1, e 1 (by decide), by decide⟩, fun j hj => (h2 j hj).2, e 2 (by decide), e 3 (by decide), e 4 (by decide)⟩
/-- what lies below the runs -/
def B0 (V : aV) : Prop := (MB V ∧ LI V [] ∧ V 196 0 = .ref 197 ∧ V 198 0 = .int 10 ∧ V 198 1 = .int 5 ∧ V 0 6 = .int 0 ∧ V 0 7 = .int 0) ∧ (I7 V V 8 ∧ V 4 7 = .int 0 ∧ V 4 8 = .long 0) ∧ I1 V V 12 ∧ V 74 5 = .int 0
theorem I7.fr0 {V V' W : aV} (h : I7 W V 8) (e : ∀ b, 4 ≤ b → b < 74 → V' b = V b) : I7 V' V' 8 := by
  obtain ⟨⟨⟨a0, a1, a2⟩, ⟨a3, a4, a5, a6⟩, a7, a8⟩, ⟨b1, b2, b3, b4⟩, c, d⟩ := h
  have e4 := fun k => congrFun (e 4 (by omega) (by decide)) k
  refine ⟨⟨⟨(e4 0).trans a0, (e4 1).trans a1, (e4 2).trans a2⟩, ⟨(e4 3).trans a3, (e4 4).trans a4, (e4 5).trans a5, (e4 6).trans a6⟩, rfl, rfl⟩, ⟨b1.fr (fun b q1 q2 => e b (by omega) (by omega)), b2.frg (fun b q1 q2 _ => e b (by omega) (by omega)), b3.frg (fun b q => e b (by omega) (by omega)), b4.fr (fun b q1 q2 => e b (by omega) (by omega))⟩, fun i hi => ?_, fun b hb => rfl⟩
  obtain ⟨g0, g1, g2⟩ := c i hi
  exact ⟨(congrFun (e 5 (by omega) (by omega)) i).trans g0, g1.fr (fun b q1 q2 => e b (by omega) (by omega)), (congrFun (e _ (by omega) (by omega)) 4).trans g2⟩
theorem I1.fr0 {V V' W : aV} (h : I1 W V 12) (e : ∀ b, 74 ≤ b → b < 196 → V' b = V b) : I1 V' V' 12 := by
  obtain ⟨⟨h1, h2, h3, h4⟩, ⟨h5, h6⟩, h7, h8⟩ := h
  have e74 := e 74 (by omega) (by decide)
  refine ⟨⟨h1.fr e74, (congrFun e74 1).trans h2, rfl, h4.fr (fun k _ => congrFun (e 76 (by omega) (by decide)) k) (fun b q1 q2 => e b (by omega) (by omega))⟩, ⟨fun k => (congrFun (e 85 (by omega) (by decide)) k).trans (h5 k), fun k => (congrFun (e 86 (by omega) (by decide)) k).trans (h6 k)⟩, fun i hi => ?_, fun b hb => rfl⟩
  obtain ⟨a0, a1, a2, a3, a4⟩ := h7 i hi
  have r := e (88 + 9 * i) (by omega) (by omega)
  exact ⟨(congrFun (e 75 (by omega) (by omega)) i).trans a0, a1.fr (fun k _ => congrFun r k) (fun b q1 q2 => e b (by omega) (by omega)), (congrFun r 4).trans a2, (congrFun r 5).trans a3, (congrFun r 6).trans a4⟩
theorem B0.fr {V V' : aV} (h : B0 V) (e : ∀ b, b < 199 → V' b = V b) : B0 V' := by
  obtain ⟨⟨a1, a2, a3, a4, a5, a6, a7⟩, ⟨b1, b2, b3⟩, c1, c2⟩ := h
  have e0 := e 0 (by decide)
  exact ⟨⟨a1.fr e0, a2.fr (fun b q1 q2 => e b (by omega)), (congrFun (e 196 (by decide)) 0).trans a3, (congrFun (e 198 (by decide)) 0).trans a4, (congrFun (e 198 (by decide)) 1).trans a5, (congrFun e0 6).trans a6, (congrFun e0 7).trans a7⟩, ⟨b1.fr0 (fun b _ q => e b (by omega)), (congrFun (e 4 (by decide)) 7).trans b2, (congrFun (e 4 (by decide)) 8).trans b3⟩, c1.fr0 (fun b _ q => e b (by omega)), (congrFun (e 74 (by decide)) 5).trans c2⟩
def I11 (V : aV) (j : Nat) : Prop := B0 V ∧ ∀ i, i < j → V 199 i = .ref (200 + 38 * i) ∧ RNq V (200 + 38 * i)
theorem I11.step {V V' : aV} {j : Nat} (h : I11 V j) (hj : j < 8) (g : I8 (aVn V (200 + 38 * j) dX8) V' (200 + 38 * j) 12) : I11 (a_up V' 199 j (.ref (200 + 38 * j))) (j + 1) := by
  obtain ⟨h1, h2⟩ := h
  have e : ∀ b, b < 200 + 38 * j → b ≠ 199 → a_up V' 199 j (.ref (200 + 38 * j)) b = V b := fun b q1 q2 => (a_up_row q2).trans ((g.2.2.2 b q1).trans (aVn_ne (by omega)))
  refine ⟨h1.fr (fun b hb => e b (by omega) (by omega)), fun i hi => ?_⟩
  by_cases z : i = j
  · subst z
    exact ⟨a_up_self _ _ _ _, (RNq.of g (sh8s i hj)).fr (fun b q1 q2 => a_up_row (by omega))⟩
  · exact ⟨(a_up_ne (Or.inr z)).trans ((congrFun ((g.2.2.2 199 (by omega)).trans (aVn_ne (by omega))) i).trans (h2 i (by omega)).1), (h2 i (by omega)).2.fr (fun b q1 q2 => e b (by omega) (by omega))⟩
set_option maxHeartbeats 4000000 in
theorem i11_loop {mc ms kc ks : Nat} {Q : Option Value → aS → aV → Prop} {QX : String → aS → aV → Prop} (hQ : ∀ V', I11 V' 8 → Q none (shP 504) V') : ∀ (m j : Nat) (V : aV), j + m = 8 → I11 V j → R mX11_init 4 mc ms Q QX (kc + 38 * m) (ks + 2021 * m) 70 [some (.ref 0), some (.int (nI j))] [] (shP (200 + 38 * j)) V := by
  intro m
  induction m with
  | zero =>
    intro j V hj hI
    have e : j = 8 := by omega
    subst e
    refine R_iload_1 dX11_init_70 ?_
    refine R_bipush (v := nI 8) dX11_init_71 (by decide) ?_
    refine R_icmp_ge 95 dX11_init_73 (by decide) (fun c73 => ?_) (fun c73 => absurd (Int32.le_refl _) c73)
    refine R_vret rfl dX11_init_95 (hQ V hI)
  | succ m ih =>
    intro j V hj hI
    refine R_less (kc' := kc + 38 * m + 37 + 1) (ks' := ks + 2021 * m + 2016 + 5) (by omega) (by omega) ?_
    refine R_iload_1 dX11_init_70 ?_
    refine R_bipush (v := nI 8) dX11_init_71 (by decide) ?_
    refine R_icmp_ge 95 dX11_init_73 (by decide) (fun c73 => absurd c73 (nI_ge (by omega) (by decide))) (fun c73 => ?_)
    refine R_aload_0 dX11_init_76 ?_
    refine gfX11_46 rfl dX11_init_77 (shP_o sh_0 (by omega)) hI.1.1.1.2.2.2.2.2 ?_
    refine R_iload_1 dX11_init_80 ?_
    refine P_new8 clX11_44 dX11_init_81 (sh8s j (by omega)).1 ?_
    refine R_dup dX11_init_84 rfl ?_
    refine R_callIN (T := mX11_init) (T' := mX8_init) (As := []) okX8_init mlX11_50 (ct_i8 (q := 200 + 38 * j) (sh8s j (by omega))) rfl (by decide) (by decide) (Nat.le_of_ble_eq_true rfl) dX11_init_85 (fun v9 S9 V9 h9 => ?_) (fun E S9 V9 h9 => h9.elim)
    obtain ⟨rfl, rfl, p8⟩ := h9
    refine R_aast_18 dX11_init_88 (shP_r sh_199 (by omega)) (vp_in_nI (by omega) (by decide)) (nI_clamp (by omega)) (shP_o (sh8s j (by omega)).o (by omega)) ?_
    refine R_iinc_1 rfl (by decide) dX11_init_89 rfl ?_
    rw [show nI j + Int32.ofInt 1 = nI (j + 1) from nI_1 j]
    refine R_goto 70 dX11_init_92 (by decide) ?_
    rw [show 200 + 38 * j + 38 = 200 + 38 * (j + 1) from by omega]
    exact ih (j + 1) _ (by omega) (hI.step (by omega) p8)
def a11 (V : aV) : aV := a_up (a_up (sg (aVn V 1 dX6) 2) 1 0 (.ref 2)) 0 0 (.ref 1)
def e11 (V : aV) : aV := a_up (aVn (a_up (a_up (a_up (aVn (a_up (a_up (aVn (aVn (a_up V 0 2 (.ref 74)) 196 dX5) 197 fun _ => .int 0) 196 0 (.ref 197)) 0 3 (.ref 196)) 198 dX2) 198 0 (.int 10)) 198 1 (.int 5)) 0 4 (.ref 198)) 199 fun _ => .null) 0 5 (.ref 199)
theorem i11_start {V V7 V1 : aV} (v6 : V 0 6 = .int 0) (v7 : V 0 7 = .int 0) (h7 : I7 (aVn (a11 V) 4 dX7) V7 8) (h1 : I1 (aVn (a_up V7 0 1 (.ref 4)) 74 dX1) V1 12) : I11 (e11 V1) 0 := by
  have e : ∀ b, b ≠ 0 → b < 196 → e11 V1 b = V1 b := fun b q1 q2 => by
    unfold e11
    rw [a_up_row q1, aVn_ne (by omega), a_up_row q1, a_up_row (by omega), a_up_row (by omega), aVn_ne (by omega), a_up_row q1, a_up_row (by omega), aVn_ne (by omega), aVn_ne (by omega), a_up_row q1]
  have e0 : ∀ k, k < 2 ∨ 5 < k → e11 V1 0 k = V1 0 k := fun k q => by
    unfold e11
    rw [a_up_ne (Or.inr (by omega)), aVn_ne (by omega), a_up_ne (Or.inr (by omega)), aup_o (by omega), aup_o (by omega), aVn_ne (by omega), a_up_ne (Or.inr (by omega)), aup_o (by omega), aVn_ne (by omega), aVn_ne (by omega), a_up_ne (Or.inr (by omega))]
  have f1 : ∀ b, b < 74 → b ≠ 0 → V1 b = V7 b := fun b q q2 => (h1.2.2.2 b q).trans ((aVn_ne (by omega)).trans (a_up_row q2))
  have f10 : ∀ k, k ≠ 1 → V1 0 k = V7 0 k := fun k q => (congrFun (h1.2.2.2 0 (by decide)) k).trans ((congrFun (aVn_ne (by decide)) k).trans (a_up_ne (Or.inr q)))
  have f7 : ∀ b, b < 4 → V7 b = a11 V b := fun b q => (h7.2.2.2 b q).trans (aVn_ne (by omega))
  have g0 : ∀ k, k ≠ 0 → a11 V 0 k = V 0 k := fun k q => by
    unfold a11
    rw [a_up_ne (Or.inr q), aup_o (by decide), sg_fr (by decide) (by decide), aVn_ne (by decide)]
  have k74 : (aVn (a_up V7 0 1 (.ref 4)) 74 dX1) 74 5 = .int 0 := congrFun aVn_self 5
  have k47 : ∀ k, (aVn (a11 V) 4 dX7) 4 k = dX7 k := fun k => congrFun aVn_self k
  have p7 : I7 (e11 V1) (e11 V1) 8 := h7.fr0 (fun b q1 q2 => (e b (by omega) (by omega)).trans (f1 b q2 (by omega)))
  have z47 : ∀ k, e11 V1 4 k = V7 4 k := fun k => congrFun ((e 4 (by decide) (by decide)).trans (f1 4 (by decide) (by decide))) k
  refine ⟨⟨⟨⟨?_, ?_, ?_, ?_, ?_, a_up_self _ _ _ _⟩, ⟨?_, ?_⟩, ?_, ?_, ?_, ?_, ?_⟩, ⟨p7, ?_, ?_⟩, h1.fr0 (fun b q1 q2 => e b (by omega) q2), ?_⟩, fun i hi => absurd hi (Nat.not_lt_zero _)⟩
  · rw [e0 0 (by decide), f10 0 (by decide), f7 0 (by decide)]
    exact a_up_self _ _ _ _
  · rw [e0 1 (by decide), h1.2.2.2 0 (by decide), aVn_ne (by decide)]
    exact a_up_self _ _ _ _
  · unfold e11
    rw [a_up_ne (Or.inr (by decide)), aVn_ne (by decide), a_up_ne (Or.inr (by decide)), aup_o (by decide), aup_o (by decide), aVn_ne (by decide), a_up_ne (Or.inr (by decide)), aup_o (by decide), aVn_ne (by decide), aVn_ne (by decide), a_up_self]
  · unfold e11
    rw [a_up_ne (Or.inr (by decide)), aVn_ne (by decide), a_up_ne (Or.inr (by decide)), aup_o (by decide), aup_o (by decide), aVn_ne (by decide), a_up_self]
  · unfold e11
    rw [a_up_ne (Or.inr (by decide)), aVn_ne (by decide), a_up_self]
  · rw [e 1 (by decide) (by decide), f1 1 (by decide) (by decide), f7 1 (by decide)]
    unfold a11
    rw [aup_o (by decide), a_up_self]
  · refine (sg_sl (V := aVn V 1 dX6) s9_2 (by decide)).frame ?_ ?_
    · rw [e 2 (by decide) (by decide), f1 2 (by decide) (by decide), f7 2 (by decide)]
      unfold a11
      rw [a_up_row (by decide), a_up_row (by decide)]
    · rw [e 3 (by decide) (by decide), f1 3 (by decide) (by decide), f7 3 (by decide)]
      unfold a11
      rw [a_up_row (by decide), a_up_row (by decide)]
  · unfold e11
    rw [aup_o (by decide), aVn_ne (by decide), aup_o (by decide), aup_o (by decide), aup_o (by decide), aVn_ne (by decide), aup_o (by decide), a_up_self]
  · unfold e11
    rw [aup_o (by decide), aVn_ne (by decide), aup_o (by decide), a_up_ne (Or.inr (by decide)), a_up_self]
  · unfold e11
    rw [aup_o (by decide), aVn_ne (by decide), aup_o (by decide), a_up_self]
  · rw [e0 6 (by decide), f10 6 (by decide), f7 0 (by decide), g0 6 (by decide), v6]
  · rw [e0 7 (by decide), f10 7 (by decide), f7 0 (by decide), g0 7 (by decide), v7]
  · rw [z47, h7.1.2.2.1, k47]
    rfl
  · rw [z47, h7.1.2.2.2, k47]
    rfl
  · rw [e 74 (by decide) (by decide), h1.1.2.2.1, k74]
set_option maxHeartbeats 4000000 in
theorem ct_i11 {V : aV} (v6 : V 0 6 = .int 0) (v7 : V 0 7 = .int 0) : CT mX11_init 4 503 20294 [.ref 0] (shP 1) V (fun v S' V' => none = v ∧ shP 504 = S' ∧ I11 V' 8) aNo := by
  refine CT_of (by decide +kernel) (Nat.le_of_ble_eq_true rfl) ?_
  show R _ _ _ _ _ _ _ _ 0 [some (.ref 0), none] [] _ _
  refine R_aload_0 dX11_init_0 ?_
  refine R_oinit (by decide) mlX11_3 (Nat.le_of_ble_eq_true rfl) dX11_init_1 ?_
  refine R_aload_0 dX11_init_4 ?_
  refine P_new6 clX11_9 dX11_init_5 sh_1e ?_
  refine R_dup dX11_init_8 rfl ?_
  refine R_callIN_e (T := mX11_init) (T' := mX6_init) (As := []) okX6_init mlX11_11 (ct_i6 (a := 1) sh_1 s9_2) rfl (by decide) (by decide) (Nat.le_of_ble_eq_true rfl) dX11_init_9 ?_
  refine pfX11_12 rfl rfl dX11_init_12 (shP_o sh_0 (by omega)) ?_
  refine R_aload_0 dX11_init_15 ?_
  refine P_new7 clX11_16 dX11_init_16 sh_4e ?_
  refine R_dup dX11_init_19 rfl ?_
  refine R_callIN (T := mX11_init) (T' := mX7_init) (As := []) okX7_init mlX11_18 (ct_i7) rfl (by decide) (by decide) (Nat.le_of_ble_eq_true rfl) dX11_init_20 (fun v9 S9 V9 h9 => ?_) (fun E S9 V9 h9 => h9.elim)
  obtain ⟨rfl, rfl, p7⟩ := h9
  refine pfX11_19 rfl rfl dX11_init_23 (shP_o sh_0 (by omega)) ?_
  refine R_aload_0 dX11_init_26 ?_
  refine P_new1 clX11_23 dX11_init_27 sh_74e ?_
  refine R_dup dX11_init_30 rfl ?_
  refine R_callIN (T := mX11_init) (T' := mX1_init) (As := []) okX1_init mlX11_25 (ct_i1) rfl (by decide) (by decide) (Nat.le_of_ble_eq_true rfl) dX11_init_31 (fun v9 S9 V9 h9 => ?_) (fun E S9 V9 h9 => h9.elim)
  obtain ⟨rfl, rfl, p1⟩ := h9
  refine pfX11_26 rfl rfl dX11_init_34 (shP_o sh_0 (by omega)) ?_
  refine R_aload_0 dX11_init_37 ?_
  refine P_new5 clX11_30 dX11_init_38 sh_196e ?_
  refine R_dup dX11_init_41 rfl ?_
  refine R_callIN_e (T := mX11_init) (T' := mX5_init) (As := []) okX5_init mlX11_32 (ct_i5 (a := 196) (n := 197) sh_196 (by decide) sh_197) rfl (by decide) (by decide) (Nat.le_of_ble_eq_true rfl) dX11_init_42 ?_
  refine pfX11_33 rfl rfl dX11_init_45 (shP_o sh_0 (by omega)) ?_
  refine R_aload_0 dX11_init_48 ?_
  refine P_new2 clX11_37 dX11_init_49 sh_198e ?_
  refine R_dup dX11_init_52 rfl ?_
  refine R_callIN_e (T := mX11_init) (T' := mX2_init) (As := []) okX2_init mlX11_39 (ct_i2 (a := 198) (n := 199) sh_198 (by decide)) rfl (by decide) (by decide) (Nat.le_of_ble_eq_true rfl) dX11_init_53 ?_
  refine pfX11_40 rfl rfl dX11_init_56 (shP_o sh_0 (by omega)) ?_
  refine R_aload_0 dX11_init_59 ?_
  refine R_bipush (v := 8) dX11_init_60 (by decide) ?_
  refine P_anew_18 (N := 8) clX11_44 dX11_init_62 sh_199 (by decide) (by decide) (by decide) ?_
  refine pfX11_46 rfl rfl dX11_init_65 (shP_o sh_0 (by omega)) ?_
  refine R_iconst (v := 0) dX11_init_68 (by decide) ?_
  refine R_istore_1 rfl (by decide) dX11_init_69 ?_
  exact i11_loop (kc := 0) (ks := 0) (fun V' h' => ⟨rfl, rfl, h'⟩) 8 0 _ rfl (i11_start v6 v7 p7 p1)

