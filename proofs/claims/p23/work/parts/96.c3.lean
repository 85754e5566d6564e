/-! ===== the household, the press ===== -/
theorem SL.up {V : aV} {n s cap : Nat} {L : List Int32} (h : SL Sh V s cap L) (hn : s + 1 < n) : SL (shP n) V s cap L := by
  obtain ⟨h1, h2, h3⟩ := h
  exact ⟨shP_o h1 (by omega), shP_r h2 (by omega), h3⟩
theorem SL.dn {V : aV} {n s cap : Nat} {L : List Int32} (h : SL (shP n) V s cap L) (hn : s + 1 < n) : SL Sh V s cap L := by
  obtain ⟨h1, h2, h3⟩ := h
  rw [shP_lt (by omega)] at h1
  rw [shP_lt (by omega)] at h2
  exact ⟨h1, h2, h3⟩
theorem sh3s : ∀ j, j < 6 → s9 (16 + 2 * j) (cp j) := by decide +kernel
theorem s9_14 : s9 14 3 := by decide +kernel
theorem cp_lt (f : Nat) : cp f < 1000 := by
  unfold cp
  split
  · decide
  · split <;> decide
theorem cp_2 {f : Nat} (h : 2 ≤ f) : cp f = 4 := by
  unfold cp
  rw [if_neg (by omega), if_neg (by omega)]
def I3 (V0 V : aV) (j : Nat) : Prop := (V 11 0 = .ref 12 ∧ V 11 1 = .ref 13 ∧ V 11 2 = .ref 14) ∧ SL Sh V 14 3 [] ∧ (∀ f, V 13 f = .int 0) ∧ (∀ i, i < j → V 12 i = .ref (16 + 2 * i) ∧ SL Sh V (16 + 2 * i) (cp i) []) ∧ ∀ b, b < 11 → V b = V0 b
theorem I3.step {V0 V : aV} {j : Nat} (h : I3 V0 V j) (hj : j < 6) : I3 V0 (a_up (sg V (16 + 2 * j)) 12 j (.ref (16 + 2 * j))) (j + 1) := by
  obtain ⟨⟨h1, h2, h3⟩, h4, h5, h6, h7⟩ := h
  have e : ∀ b, b < 16 + 2 * j → b ≠ 12 → a_up (sg V (16 + 2 * j)) 12 j (.ref (16 + 2 * j)) b = V b := fun b q1 q2 => (a_up_row q2).trans (sg_fr (by omega) (by omega))
  have e11 := e 11 (by omega) (by decide)
  refine ⟨⟨(congrFun e11 0).trans h1, (congrFun e11 1).trans h2, (congrFun e11 2).trans h3⟩, h4.frame (e 14 (by omega) (by decide)) (e 15 (by omega) (by decide)), fun f => (congrFun (e 13 (by omega) (by decide)) f).trans (h5 f), fun i hi => ?_, fun b hb => (e b (by omega) (by omega)).trans (h7 b hb)⟩
  by_cases z : i = j
  · subst z
    exact ⟨a_up_self _ _ _ _, (sg_sl (sh3s i hj) (cp_lt i)).frame (a_up_row (by omega)) (a_up_row (by omega))⟩
  · exact ⟨(a_up_ne (Or.inr z)).trans ((congrFun (sg_fr (by omega) (by omega)) i).trans (h6 i (by omega)).1), (h6 i (by omega)).2.frame (e _ (by omega) (by omega)) (e _ (by omega) (by omega))⟩
set_option maxHeartbeats 4000000 in
theorem i3_loop {mc ms kc ks : Nat} {V0 : aV} {Q : Option Value → aS → aV → Prop} {QX : String → aS → aV → Prop} (hQ : ∀ V', I3 V0 V' 6 → R mX3_init 2 mc ms Q QX kc ks 81 [some (.ref 11), none] [] (shP 28) V') : ∀ (m j : Nat) (V : aV), j + m = 6 → I3 V0 V j → R mX3_init 2 mc ms Q QX (kc + 2 * m) (ks + 179 * m) 35 [some (.ref 11), some (.int (nI j))] [] (shP (16 + 2 * j)) V := by
  intro m
  induction m with
  | zero =>
    intro j V hj hI
    have e : j = 6 := by omega
    subst e
    refine R_iload_1 dX3_init_35 ?_
    refine R_bipush (v := nI 6) dX3_init_36 (by decide) ?_
    refine R_icmp_ge 81 dX3_init_38 (by decide) (fun c38 => ?_) (fun c38 => absurd (Int32.le_refl _) c38)
    refine R_drop_1 ?_
    exact hQ V hI
  | succ m ih =>
    intro j V hj2 hI
    have hj : j < 6 := by omega
    refine R_less (kc' := kc + 2 * m + 1 + 1) (ks' := ks + 179 * m + 177 + 2) (by omega) (by omega) ?_
    refine R_iload_1 dX3_init_35 ?_
    refine R_bipush (v := nI 6) dX3_init_36 (by decide) ?_
    refine R_icmp_ge 81 dX3_init_38 (by decide) (fun c38 => absurd c38 (nI_ge (by omega) (by decide))) (fun c38 => ?_)
    rcases (show j = 0 ∨ j = 1 ∨ 2 ≤ j from by omega) with z | z | z
    · have hj0 : nI j = 0 := by rw [z]; rfl
      refine R_aload_0 dX3_init_41 ?_
      refine gfX3_11 rfl dX3_init_42 (shP_o sh_11 (by omega)) hI.1.1 ?_
      refine R_iload_1 dX3_init_45 ?_
      refine P_new9 clX3_9 dX3_init_46 (sh3s j hj).1 ?_
      refine R_dup dX3_init_49 rfl ?_
      refine R_iload_1 dX3_init_50 ?_
      refine R_if_ne 60 dX3_init_51 (by decide) (fun c51 => absurd hj0 c51) (fun c51 => ?_)
      refine R_sipush (v := 177) dX3_init_54 (by decide) ?_
      refine R_goto 71 dX3_init_57 (by decide) ?_
      refine R_callIN_e (T := mX3_init) (T' := mX9_init) (As := [_]) okX9_init mlX3_21 (ct_i9 (a := 16 + 2 * j) (n := 16 + 2 * j + 1) (cap := 177) (x := 177) (sh3s j hj).o (by omega) (by have g := (sh3s j hj).2; rwa [show cp j = 177 from by rw [z]; rfl] at g) (by decide) (by decide) (by decide)) rfl (by decide) (by decide) (Nat.le_of_ble_eq_true rfl) dX3_init_71 ?_
      refine R_aast_19 dX3_init_74 (shP_r sh_12 (by omega)) (vp_in_nI (by omega) (by decide)) (nI_clamp (by omega)) (shP_o (sh3s j hj).o (by omega)) ?_
      refine R_iinc_1 rfl (by decide) dX3_init_75 rfl ?_
      rw [show nI j + Int32.ofInt 1 = nI (j + 1) from nI_1 j]
      refine R_goto 35 dX3_init_78 (by decide) ?_
      rw [show 16 + 2 * j + 1 + 1 = 16 + 2 * (j + 1) from by omega]
      exact ih (j + 1) _ (by omega) (hI.step hj)
    · have hj0 : ¬ nI j = 0 := nI_ne0 (by omega) (by omega)
      have hj1 : nI j = 1 := by rw [z]; rfl
      refine R_aload_0 dX3_init_41 ?_
      refine gfX3_11 rfl dX3_init_42 (shP_o sh_11 (by omega)) hI.1.1 ?_
      refine R_iload_1 dX3_init_45 ?_
      refine P_new9 clX3_9 dX3_init_46 (sh3s j hj).1 ?_
      refine R_dup dX3_init_49 rfl ?_
      refine R_iload_1 dX3_init_50 ?_
      refine R_if_ne 60 dX3_init_51 (by decide) (fun c51 => ?_) (fun c51 => absurd c51 hj0)
      refine R_iload_1 dX3_init_60 ?_
      refine R_iconst (v := 1) dX3_init_61 (by decide) ?_
      refine R_icmp_ne 70 dX3_init_62 (by decide) (fun c62 => absurd hj1 c62) (fun c62 => ?_)
      refine R_bipush (v := 12) dX3_init_65 (by decide) ?_
      refine R_goto 71 dX3_init_67 (by decide) ?_
      refine R_less (kc' := kc + 2 * m + 1) (ks' := ks + 179 * m + 12) (by omega) (by omega) ?_
      refine R_callIN_e (T := mX3_init) (T' := mX9_init) (As := [_]) okX9_init mlX3_21 (ct_i9 (a := 16 + 2 * j) (n := 16 + 2 * j + 1) (cap := 12) (x := 12) (sh3s j hj).o (by omega) (by have g := (sh3s j hj).2; rwa [show cp j = 12 from by rw [z]; rfl] at g) (by decide) (by decide) (by decide)) rfl (by decide) (by decide) (Nat.le_of_ble_eq_true rfl) dX3_init_71 ?_
      refine R_aast_19 dX3_init_74 (shP_r sh_12 (by omega)) (vp_in_nI (by omega) (by decide)) (nI_clamp (by omega)) (shP_o (sh3s j hj).o (by omega)) ?_
      refine R_iinc_1 rfl (by decide) dX3_init_75 rfl ?_
      rw [show nI j + Int32.ofInt 1 = nI (j + 1) from nI_1 j]
      refine R_goto 35 dX3_init_78 (by decide) ?_
      rw [show 16 + 2 * j + 1 + 1 = 16 + 2 * (j + 1) from by omega]
      exact ih (j + 1) _ (by omega) (hI.step hj)
    · have hj0 : ¬ nI j = 0 := nI_ne0 (by omega) (by omega)
      have hj1 : ¬ nI j = 1 := fun q => absurd ((nI_eq (a := j) (b := 1) (by omega) (by decide)).mp q) (by omega)
      refine R_aload_0 dX3_init_41 ?_
      refine gfX3_11 rfl dX3_init_42 (shP_o sh_11 (by omega)) hI.1.1 ?_
      refine R_iload_1 dX3_init_45 ?_
      refine P_new9 clX3_9 dX3_init_46 (sh3s j hj).1 ?_
      refine R_dup dX3_init_49 rfl ?_
      refine R_iload_1 dX3_init_50 ?_
      refine R_if_ne 60 dX3_init_51 (by decide) (fun c51 => ?_) (fun c51 => absurd c51 hj0)
      refine R_iload_1 dX3_init_60 ?_
      refine R_iconst (v := 1) dX3_init_61 (by decide) ?_
      refine R_icmp_ne 70 dX3_init_62 (by decide) (fun c62 => ?_) (fun c62 => absurd c62 hj1)
      refine R_iconst (v := 4) dX3_init_70 (by decide) ?_
      refine R_less (kc' := kc + 2 * m + 1) (ks' := ks + 179 * m + 4) (by omega) (by omega) ?_
      refine R_callIN_e (T := mX3_init) (T' := mX9_init) (As := [_]) okX9_init mlX3_21 (ct_i9 (a := 16 + 2 * j) (n := 16 + 2 * j + 1) (cap := 4) (x := 4) (sh3s j hj).o (by omega) (by have g := (sh3s j hj).2; rwa [cp_2 z] at g) (by decide) (by decide) (by decide)) rfl (by decide) (by decide) (Nat.le_of_ble_eq_true rfl) dX3_init_71 ?_
      refine R_aast_19 dX3_init_74 (shP_r sh_12 (by omega)) (vp_in_nI (by omega) (by decide)) (nI_clamp (by omega)) (shP_o (sh3s j hj).o (by omega)) ?_
      refine R_iinc_1 rfl (by decide) dX3_init_75 rfl ?_
      rw [show nI j + Int32.ofInt 1 = nI (j + 1) from nI_1 j]
      refine R_goto 35 dX3_init_78 (by decide) ?_
      rw [show 16 + 2 * j + 1 + 1 = 16 + 2 * (j + 1) from by omega]
      exact ih (j + 1) _ (by omega) (hI.step hj)
def b3 (V : aV) : aV := a_up (sg (a_up (aVn (a_up (aVn V 12 fun _ => .null) 11 0 (.ref 12)) 13 fun _ => .int 0) 11 1 (.ref 13)) 14) 11 2 (.ref 14)
theorem i3_start (V : aV) : I3 V (b3 V) 0 := by
  refine ⟨⟨?_, ?_, a_up_self _ _ _ _⟩, (sg_sl s9_14 (by decide)).frame (a_up_row (by decide)) (a_up_row (by decide)), fun f => ?_, fun i hi => absurd hi (Nat.not_lt_zero _), fun b hb => ?_⟩
  · unfold b3
    rw [a_up_ne (Or.inr (by decide)), sg_fr (by decide) (by decide), a_up_ne (Or.inr (by decide)), aVn_ne (by decide), a_up_self]
  · unfold b3
    rw [a_up_ne (Or.inr (by decide)), sg_fr (by decide) (by decide), a_up_self]
  · unfold b3
    rw [a_up_row (by decide), sg_fr (by decide) (by decide), a_up_row (by decide), aVn_self]
  · unfold b3
    rw [a_up_row (by omega), sg_fr (by omega) (by omega), a_up_row (by omega), aVn_ne (by omega), a_up_row (by omega), aVn_ne (by omega)]
set_option maxHeartbeats 4000000 in
theorem ct_i3 {V : aV} : CT mX3_init 2 16 1091 [.ref 11] (shP 12) V (fun v S' V' => none = v ∧ shP 28 = S' ∧ HB V' ∧ HD V' (fun _ => []) (fun _ => 0) ∧ ∀ b, b < 11 → V' b = V b) aNo := by
  refine CT_of (by decide +kernel) (Nat.le_of_ble_eq_true rfl) ?_
  show R _ _ _ _ _ _ _ _ 0 [some (.ref 11), none] [] _ _
  refine R_aload_0 dX3_init_0 ?_
  refine R_oinit (by decide) mlX3_3 (Nat.le_of_ble_eq_true rfl) dX3_init_1 ?_
  refine R_aload_0 dX3_init_4 ?_
  refine R_bipush (v := 6) dX3_init_5 (by decide) ?_
  refine P_anew_19 (N := 6) clX3_9 dX3_init_7 sh_12 (by decide) (by decide) (by decide) ?_
  refine pfX3_11 rfl rfl dX3_init_10 (shP_o sh_11 (by omega)) ?_
  refine R_aload_0 dX3_init_13 ?_
  refine R_bipush (v := 6) dX3_init_14 (by decide) ?_
  refine P_newaI (N := 6) dX3_init_16 sh_13 (by decide) (by decide) (by decide) ?_
  refine pfX3_17 rfl rfl dX3_init_18 (shP_o sh_11 (by omega)) ?_
  refine R_aload_0 dX3_init_21 ?_
  refine P_new9 clX3_9 dX3_init_22 s9_14.1 ?_
  refine R_dup dX3_init_25 rfl ?_
  refine R_iconst (v := 3) dX3_init_26 (by decide) ?_
  refine R_callIN_e (T := mX3_init) (T' := mX9_init) (As := [_]) okX9_init mlX3_21 (ct_i9 (a := 14) (n := 15) (cap := 3) (x := 3) s9_14.o (by omega) s9_14.2 (by decide) (by decide) (by decide)) rfl (by decide) (by decide) (Nat.le_of_ble_eq_true rfl) dX3_init_27 ?_
  refine pfX3_24 rfl rfl dX3_init_30 (shP_o sh_11 (by omega)) ?_
  refine R_iconst (v := 0) dX3_init_33 (by decide) ?_
  refine R_istore_1 rfl (by decide) dX3_init_34 ?_
  refine i3_loop (kc := 0) (ks := 0) (V0 := V) (fun V8 hI => ?_) 6 0 _ rfl (i3_start V)
  have g1 := hI.1.2.2
  have g2 := hI.2.1
  refine R_aload_0 dX3_init_81 ?_
  refine gfX3_24 rfl dX3_init_82 (shP_o sh_11 (by omega)) g1 ?_
  refine R_bipush (v := 32) dX3_init_85 (by decide) ?_
  refine R_callVN (T := mX3_init) (T' := mX9_add) (As := [_]) (ci := 9) okX9_add mlX3_28 rfl (by decide) (shP_o sh_14 (by omega)) (ct_addL (g2.up (by decide)) 32 (by decide) (by decide)) rfl (by decide) (by decide) (Nat.le_of_ble_eq_true rfl) dX3_init_87 (fun v9 S9 Vu h9 => ?_) (fun E S9 V9 h9 => h9.elim)
  obtain ⟨rfl, rfl, u3, u4⟩ := h9
  refine R_aload_0 dX3_init_90 ?_
  refine gfX3_24 rfl dX3_init_91 (shP_o sh_11 (by omega)) ((congrFun (u4 11 (by decide) (by decide)) 2).trans g1) ?_
  refine R_bipush (v := 38) dX3_init_94 (by decide) ?_
  refine R_callVN (T := mX3_init) (T' := mX9_add) (As := [_]) (ci := 9) okX9_add mlX3_28 rfl (by decide) (shP_o sh_14 (by omega)) (ct_addL u3 38 (by decide) (by decide)) rfl (by decide) (by decide) (Nat.le_of_ble_eq_true rfl) dX3_init_96 (fun v9 S9 Vw h9 => ?_) (fun E S9 V9 h9 => h9.elim)
  obtain ⟨rfl, rfl, w3, w4⟩ := h9
  refine R_aload_0 dX3_init_99 ?_
  refine gfX3_24 rfl dX3_init_100 (shP_o sh_11 (by omega)) ((congrFun (w4 11 (by decide) (by decide)) 2).trans ((congrFun (u4 11 (by decide) (by decide)) 2).trans g1)) ?_
  refine R_bipush (v := 32) dX3_init_103 (by decide) ?_
  refine R_callVN (T := mX3_init) (T' := mX9_add) (As := [_]) (ci := 9) okX9_add mlX3_28 rfl (by decide) (shP_o sh_14 (by omega)) (ct_addL w3 32 (by decide) (by decide)) rfl (by decide) (by decide) (Nat.le_of_ble_eq_true rfl) dX3_init_105 (fun v9 S9 Vx h9 => ?_) (fun E S9 V9 h9 => h9.elim)
  obtain ⟨rfl, rfl, x3, x4⟩ := h9
  have eA : ∀ b, b ≠ 14 → b ≠ 15 → Vx b = V8 b := fun b q1 q2 => (x4 b q1 q2).trans ((w4 b q1 q2).trans (u4 b q1 q2))
  have eX := eA 11 (by decide) (by decide)
  refine R_vret rfl dX3_init_108 ⟨rfl, rfl, ⟨(congrFun eX 0).trans hI.1.1, (congrFun eX 1).trans hI.1.2.1, (congrFun eX 2).trans g1, fun f hf => (congrFun (eA 12 (by decide) (by decide)) f).trans (hI.2.2.2.1 f hf).1, x3.dn (by decide)⟩, fun f hf => ⟨(hI.2.2.2.1 f hf).2.frame (eA _ (by omega) (by omega)) (eA _ (by omega) (by omega)), (congrFun (eA 13 (by decide) (by decide)) f).trans (hI.2.2.1 f)⟩, fun b hb => (eA b (by omega) (by omega)).trans (hI.2.2.2.2 b hb)⟩
theorem sh10s : ∀ j, j < 8 → s10 (34 + 5 * j) := by decide +kernel
theorem s10_6 : s10 6 := by decide +kernel
theorem s4_28 : s4 28 := by decide +kernel
def I7 (V0 V : aV) (j : Nat) : Prop := ((V 4 0 = .ref 5 ∧ V 4 1 = .ref 6 ∧ V 4 2 = .ref 11) ∧ (V 4 3 = .ref 28 ∧ V 4 4 = .ref 31 ∧ V 4 5 = .ref 32 ∧ V 4 6 = .ref 33) ∧ V 4 7 = V0 4 7 ∧ V 4 8 = V0 4 8) ∧ (TS V 6 [] ∧ HB V ∧ HD V (fun _ => []) (fun _ => 0) ∧ LT V 28 [] 0 0 0 0) ∧ (∀ i, i < j → V 5 i = .ref (34 + 5 * i) ∧ TS V (34 + 5 * i) [] ∧ V (34 + 5 * i) 4 = .int 0) ∧ ∀ b, b < 4 → V b = V0 b
theorem I7.step {V0 V : aV} {j : Nat} (h : I7 V0 V j) (hj : j < 8) : I7 V0 (a_up (tp V (34 + 5 * j)) 5 j (.ref (34 + 5 * j))) (j + 1) := by
  obtain ⟨⟨⟨a0, a1, a2⟩, ⟨a3, a4, a5, a6⟩, a7, a8⟩, ⟨b1, b2, b3, b4⟩, c, d⟩ := h
  have e : ∀ b, b < 34 + 5 * j → b ≠ 5 → a_up (tp V (34 + 5 * j)) 5 j (.ref (34 + 5 * j)) b = V b := fun b q1 q2 => (a_up_row q2).trans (tp_fr (Or.inl q1))
  have e4 := fun k => congrFun (e 4 (by omega) (by decide)) k
  refine ⟨⟨⟨(e4 0).trans a0, (e4 1).trans a1, (e4 2).trans a2⟩, ⟨(e4 3).trans a3, (e4 4).trans a4, (e4 5).trans a5, (e4 6).trans a6⟩, (e4 7).trans a7, (e4 8).trans a8⟩, ⟨b1.fr (fun b q1 q2 => e b (by omega) (by omega)), b2.frg (fun b q1 q2 _ => e b (by omega) (by omega)), b3.frg (fun b q => e b (by omega) (by omega)), b4.fr (fun b q1 q2 => e b (by omega) (by omega))⟩, fun i hi => ?_, fun b hb => (e b (by omega) (by omega)).trans (d b hb)⟩
  by_cases z : i = j
  · subst z
    obtain ⟨g1, g2⟩ := tp_TS (V := V) (sh10s i hj) (by omega)
    exact ⟨a_up_self _ _ _ _, g1.fr (fun b q1 q2 => a_up_row (by omega)), (congrFun (a_up_row (by omega)) 4).trans g2⟩
  · obtain ⟨g0, g1, g2⟩ := c i (by omega)
    exact ⟨(a_up_ne (Or.inr z)).trans ((congrFun (tp_fr (Or.inl (by omega))) i).trans g0), g1.fr (fun b q1 q2 => e b (by omega) (by omega)), (congrFun (e _ (by omega) (by omega)) 4).trans g2⟩
theorem sh_11e : shF 11 = (3, 0) := by decide +kernel
set_option maxHeartbeats 4000000 in
theorem i7_loop {mc ms kc ks : Nat} {V0 : aV} {Q : Option Value → aS → aV → Prop} {QX : String → aS → aV → Prop} (hQ : ∀ V', I7 V0 V' 8 → Q none (shP 74) V') : ∀ (m j : Nat) (V : aV), j + m = 8 → I7 V0 V j → R mX7_init 3 mc ms Q QX (kc + 5 * m) (ks + 204 * m) 69 [some (.ref 4), some (.int (nI j))] [] (shP (34 + 5 * j)) V := by
  intro m
  induction m with
  | zero =>
    intro j V hj hI
    have e : j = 8 := by omega
    subst e
    refine R_iload_1 dX7_init_69 ?_
    refine R_bipush (v := nI 8) dX7_init_70 (by decide) ?_
    refine R_icmp_ge 94 dX7_init_72 (by decide) (fun c72 => ?_) (fun c72 => absurd (Int32.le_refl _) c72)
    refine R_vret rfl dX7_init_94 (hQ V hI)
  | succ m ih =>
    intro j V hj hI
    refine R_less (kc' := kc + 5 * m + 4 + 1) (ks' := ks + 204 * m + 199 + 5) (by omega) (by omega) ?_
    refine R_iload_1 dX7_init_69 ?_
    refine R_bipush (v := nI 8) dX7_init_70 (by decide) ?_
    refine R_icmp_ge 94 dX7_init_72 (by decide) (fun c72 => absurd c72 (nI_ge (by omega) (by decide))) (fun c72 => ?_)
    refine R_aload_0 dX7_init_75 ?_
    refine gfX7_11 rfl dX7_init_76 (shP_o sh_4 (by omega)) hI.1.1.1 ?_
    refine R_iload_1 dX7_init_79 ?_
    refine P_new10 clX7_9 dX7_init_80 (sh10s j (by omega)).1 ?_
    refine R_dup dX7_init_83 rfl ?_
    refine R_callIN_e (T := mX7_init) (T' := mX10_init) (As := []) okX10_init mlX7_17 (ct_i10 (a := 34 + 5 * j) (sh10s j (by omega))) rfl (by decide) (by decide) (Nat.le_of_ble_eq_true rfl) dX7_init_84 ?_
    refine R_aast_20 dX7_init_87 (shP_r sh_5 (by omega)) (vp_in_nI (by omega) (by decide)) (nI_clamp (by omega)) (shP_o (sh10s j (by omega)).o (by omega)) ?_
    refine R_iinc_1 rfl (by decide) dX7_init_88 rfl ?_
    rw [show nI j + Int32.ofInt 1 = nI (j + 1) from nI_1 j]
    refine R_goto 69 dX7_init_91 (by decide) ?_
    rw [show 34 + 5 * j + 5 = 34 + 5 * (j + 1) from by omega]
    exact ih (j + 1) _ (by omega) (hI.step (by omega))
def c7 (V : aV) : aV := a_up (tp (a_up (aVn V 5 fun _ => .null) 4 0 (.ref 5)) 6) 4 1 (.ref 6)
def d7 (V : aV) : aV := a_up (aVn (a_up (aVn (a_up (aVn (a_up (lt (a_up V 4 2 (.ref 11)) 28) 4 3 (.ref 28)) 31 fun _ => .int 0) 4 4 (.ref 31)) 32 fun _ => .int 0) 4 5 (.ref 32)) 33 fun _ => .int 0) 4 6 (.ref 33)
theorem i7_start {V V9 : aV} (h1 : HB V9) (h2 : HD V9 (fun _ => []) (fun _ => 0)) (h3 : ∀ b, b < 11 → V9 b = aVn (c7 V) 11 dX3 b) : I7 V (d7 V9) 0 := by
  have e : ∀ b, b < 28 → b ≠ 4 → d7 V9 b = V9 b := fun b q1 q2 => by
    unfold d7
    rw [a_up_row (by omega), aVn_ne (by omega), a_up_row (by omega), aVn_ne (by omega), a_up_row (by omega), aVn_ne (by omega), a_up_row (by omega), lt_fr (by omega), a_up_row (by omega)]
  have f : ∀ b, b < 11 → V9 b = c7 V b := fun b q => (h3 b q).trans (aVn_ne (by omega))
  have g : ∀ b, 28 ≤ b → b ≤ 30 → d7 V9 b = lt (a_up V9 4 2 (.ref 11)) 28 b := fun b q1 q2 => by
    unfold d7
    rw [a_up_row (by omega), aVn_ne (by omega), a_up_row (by omega), aVn_ne (by omega), a_up_row (by omega), aVn_ne (by omega), a_up_row (by omega)]
  have e4 : ∀ k, k ≠ 2 → k ≠ 3 → k ≠ 4 → k ≠ 5 → k ≠ 6 → d7 V9 4 k = c7 V 4 k := fun k q2 q3 q4 q5 q6 => by
    unfold d7
    rw [a_up_ne (Or.inr q6), aVn_ne (by decide), a_up_ne (Or.inr q5), aVn_ne (by decide), a_up_ne (Or.inr q4), aVn_ne (by decide), a_up_ne (Or.inr q3), lt_fr (by omega), a_up_ne (Or.inr q2), f 4 (by decide)]
  have c4 : ∀ k, k ≠ 0 → k ≠ 1 → c7 V 4 k = V 4 k := fun k q0 q1 => by
    unfold c7
    rw [a_up_ne (Or.inr q1), tp_fr (by omega), a_up_ne (Or.inr q0), aVn_ne (by decide)]
  refine ⟨⟨⟨?_, ?_, ?_⟩, ⟨?_, ?_, ?_, a_up_self _ _ _ _⟩, (e4 7 (by decide) (by decide) (by decide) (by decide) (by decide)).trans (c4 7 (by decide) (by decide)), (e4 8 (by decide) (by decide) (by decide) (by decide) (by decide)).trans (c4 8 (by decide) (by decide))⟩, ⟨?_, h1.frg (fun b q1 q2 _ => e b (by omega) (by omega)), h2.frg (fun b q => e b (by omega) (by omega)), (lt_LT s4_28).fr g⟩, fun i hi => absurd hi (Nat.not_lt_zero _), fun b hb => ?_⟩
  · rw [e4 0 (by decide) (by decide) (by decide) (by decide) (by decide)]
    unfold c7
    rw [a_up_ne (Or.inr (by decide)), tp_fr (by omega), a_up_self]
  · rw [e4 1 (by decide) (by decide) (by decide) (by decide) (by decide)]
    exact a_up_self _ _ _ _
  · unfold d7
    rw [a_up_ne (Or.inr (by decide)), aVn_ne (by decide), a_up_ne (Or.inr (by decide)), aVn_ne (by decide), a_up_ne (Or.inr (by decide)), aVn_ne (by decide), a_up_ne (Or.inr (by decide)), lt_fr (by omega), a_up_self]
  · unfold d7
    rw [a_up_ne (Or.inr (by decide)), aVn_ne (by decide), a_up_ne (Or.inr (by decide)), aVn_ne (by decide), a_up_ne (Or.inr (by decide)), aVn_ne (by decide), a_up_self]
  · unfold d7
    rw [a_up_ne (Or.inr (by decide)), aVn_ne (by decide), a_up_ne (Or.inr (by decide)), aVn_ne (by decide), a_up_self]
  · unfold d7
    rw [a_up_ne (Or.inr (by decide)), aVn_ne (by decide), a_up_self]
  · refine (tp_TS (V := a_up (aVn V 5 fun _ => .null) 4 0 (.ref 5)) s10_6 (by decide)).1.fr (fun b q1 q2 => ?_)
    rw [e b (by omega) (by omega), f b (by omega)]
    exact a_up_row (by omega)
  · rw [e b (by omega) (by omega), f b (by omega)]
    unfold c7
    rw [a_up_row (by omega), tp_fr (by omega), a_up_row (by omega), aVn_ne (by omega)]
set_option maxHeartbeats 4000000 in
theorem ct_i7 {V : aV} : CT mX7_init 3 69 3120 [.ref 4] (shP 5) V (fun v S' V' => none = v ∧ shP 74 = S' ∧ I7 V V' 8) aNo := by
  refine CT_of (by decide +kernel) (Nat.le_of_ble_eq_true rfl) ?_
  show R _ _ _ _ _ _ _ _ 0 [some (.ref 4), none] [] _ _
  refine R_aload_0 dX7_init_0 ?_
  refine R_oinit (by decide) mlX7_3 (Nat.le_of_ble_eq_true rfl) dX7_init_1 ?_
  refine R_aload_0 dX7_init_4 ?_
  refine R_bipush (v := 8) dX7_init_5 (by decide) ?_
  refine P_anew_20 (N := 8) clX7_9 dX7_init_7 sh_5 (by decide) (by decide) (by decide) ?_
  refine pfX7_11 rfl rfl dX7_init_10 (shP_o sh_4 (by omega)) ?_
  refine R_aload_0 dX7_init_13 ?_
  refine P_new10 clX7_9 dX7_init_14 s10_6.1 ?_
  refine R_dup dX7_init_17 rfl ?_
  refine R_callIN_e (T := mX7_init) (T' := mX10_init) (As := []) okX10_init mlX7_17 (ct_i10 (a := 6) s10_6) rfl (by decide) (by decide) (Nat.le_of_ble_eq_true rfl) dX7_init_18 ?_
  refine pfX7_18 rfl dX7_init_21 (shP_o sh_4 (by omega)) ?_
  refine R_aload_0 dX7_init_24 ?_
  refine P_new3 clX7_22 dX7_init_25 sh_11e ?_
  refine R_dup dX7_init_28 rfl ?_
  refine R_callIN (T := mX7_init) (T' := mX3_init) (As := []) okX3_init mlX7_24 (ct_i3) rfl (by decide) (by decide) (Nat.le_of_ble_eq_true rfl) dX7_init_29 (fun v9 S9 V9 h9 => ?_) (fun E S9 V9 h9 => h9.elim)
  obtain ⟨rfl, rfl, u3, u4, u5⟩ := h9
  refine pfX7_25 rfl rfl dX7_init_32 (shP_o sh_4 (by omega)) ?_
  refine R_aload_0 dX7_init_35 ?_
  refine P_new4 clX7_29 dX7_init_36 s4_28.1 ?_
  refine R_dup dX7_init_39 rfl ?_
  refine R_callIN_e (T := mX7_init) (T' := mX4_init) (As := []) okX4_init mlX7_31 (ct_i4 (a := 28) s4_28) rfl (by decide) (by decide) (Nat.le_of_ble_eq_true rfl) dX7_init_40 ?_
  refine pfX7_32 rfl rfl dX7_init_43 (shP_o sh_4 (by omega)) ?_
  refine R_aload_0 dX7_init_46 ?_
  refine R_iconst (v := 5) dX7_init_47 (by decide) ?_
  refine P_newaI (N := 5) dX7_init_48 sh_31 (by decide) (by decide) (by decide) ?_
  refine pfX7_36 rfl rfl dX7_init_50 (shP_o sh_4 (by omega)) ?_
  refine R_aload_0 dX7_init_53 ?_
  refine R_iconst (v := 5) dX7_init_54 (by decide) ?_
  refine P_newaI (N := 5) dX7_init_55 sh_32 (by decide) (by decide) (by decide) ?_
  refine pfX7_40 rfl rfl dX7_init_57 (shP_o sh_4 (by omega)) ?_
  refine R_aload_0 dX7_init_60 ?_
  refine R_iconst (v := 5) dX7_init_61 (by decide) ?_
  refine P_newaI (N := 5) dX7_init_62 sh_33 (by decide) (by decide) (by decide) ?_
  refine pfX7_43 rfl rfl dX7_init_64 (shP_o sh_4 (by omega)) ?_
  refine R_iconst (v := 0) dX7_init_67 (by decide) ?_
  refine R_istore_1 rfl (by decide) dX7_init_68 ?_
  exact i7_loop (kc := 0) (ks := 0) (V0 := V) (fun V' h' => ⟨rfl, rfl, h'⟩) 8 0 _ rfl (i7_start u3 u4 u5)

