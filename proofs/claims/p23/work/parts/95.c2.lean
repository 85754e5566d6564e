/-! ===== the constructors that fill arrays ===== -/
theorem aup_o {V : aV} {a k : Nat} {v : Value} {b j : Nat} (h : b ≠ a) : a_up V a k v b j = V b j := a_up_ne (Or.inl h)
/-- what of a run is made, the first j letters -/
def I8 (V0 V : aV) (q j : Nat) : Prop := V q 0 = .ref (q + 1) ∧ (∀ i, i < j → V (q + 1) i = .ref (q + 2 + 3 * i) ∧ LT V (q + 2 + 3 * i) [] 0 0 0 0) ∧ (∀ k, k ≠ 0 → V q k = V0 q k) ∧ ∀ b, b < q → V b = V0 b
theorem I8.step {V0 V : aV} {q j : Nat} (h : I8 V0 V q j) (g : s4 (q + 2 + 3 * j)) : I8 V0 (a_up (lt V (q + 2 + 3 * j)) (q + 1) j (.ref (q + 2 + 3 * j))) q (j + 1) := by
  obtain ⟨h1, h2, h3, h4⟩ := h
  have e : ∀ b, b < q + 2 + 3 * j → b ≠ q + 1 → a_up (lt V (q + 2 + 3 * j)) (q + 1) j (.ref (q + 2 + 3 * j)) b = V b := fun b q1 q2 => (a_up_row q2).trans (lt_fr (Or.inl q1))
  have eq := e q (by omega) (by omega)
  refine ⟨(congrFun eq 0).trans h1, fun i hi => ?_, fun k hk => (congrFun eq k).trans (h3 k hk), fun b hb => (e b (by omega) (by omega)).trans (h4 b hb)⟩
  by_cases z : i = j
  · subst z
    exact ⟨a_up_self _ _ _ _, (lt_LT g).fr (fun b q1 q2 => a_up_row (by omega))⟩
  · exact ⟨(a_up_ne (Or.inr z)).trans ((congrFun (lt_fr (Or.inl (by omega))) i).trans (h2 i (by omega)).1), (h2 i (by omega)).2.fr (fun b q1 q2 => e b (by omega) (by omega))⟩
set_option maxHeartbeats 4000000 in
theorem i8_loop {mc ms kc ks q : Nat} {V0 : aV} (h : s8 q) {Q : Option Value → aS → aV → Prop} {QX : String → aS → aV → Prop} (hQ : ∀ V', I8 V0 V' q 12 → Q none (shP (q + 38)) V') : ∀ (m j : Nat) (V : aV), j + m = 12 → I8 V0 V q j → R mX8_init 3 mc ms Q QX (kc + 3 * m) (ks + 167 * m) 15 [some (.ref q), some (.int (nI j))] [] (shP (q + 2 + 3 * j)) V := by
  intro m
  induction m with
  | zero =>
    intro j V hj hI
    have e : j = 12 := by omega
    subst e
    refine R_iload_1 dX8_init_15 ?_
    refine R_bipush (v := nI 12) dX8_init_16 (by decide) ?_
    refine R_icmp_ge 40 dX8_init_18 (by decide) (fun c18 => ?_) (fun c18 => absurd (Int32.le_refl _) c18)
    refine R_vret rfl dX8_init_40 (hQ V hI)
  | succ m ih =>
    intro j V hj hI
    refine R_less (kc' := kc + 3 * m + 2 + 1) (ks' := ks + 167 * m + 162 + 5) (by omega) (by omega) ?_
    refine R_iload_1 dX8_init_15 ?_
    refine R_bipush (v := nI 12) dX8_init_16 (by decide) ?_
    refine R_icmp_ge 40 dX8_init_18 (by decide) (fun c18 => absurd c18 (nI_ge (by omega) (by decide))) (fun c18 => ?_)
    refine R_aload_0 dX8_init_21 ?_
    refine gfX8_11 rfl dX8_init_22 (shP_o h.o (by omega)) hI.1 ?_
    refine R_iload_1 dX8_init_25 ?_
    refine P_new4 clX8_9 dX8_init_26 (h.2.2 j (by omega)).1 ?_
    refine R_dup dX8_init_29 rfl ?_
    refine R_callIN_e (T := mX8_init) (T' := mX4_init) (As := []) okX4_init mlX8_17 (ct_i4 (a := q + 2 + 3 * j) (h.2.2 j (by omega))) rfl (by decide) (by decide) (Nat.le_of_ble_eq_true rfl) dX8_init_30 ?_
    refine R_aast_17 dX8_init_33 (shP_r h.2.1 (by omega)) (vp_in_nI (by omega) (by decide)) (nI_clamp (by omega)) (shP_o (h.2.2 j (by omega)).o (by omega)) ?_
    refine R_iinc_1 rfl (by decide) dX8_init_34 rfl ?_
    rw [show nI j + Int32.ofInt 1 = nI (j + 1) from nI_1 j]
    refine R_goto 15 dX8_init_37 (by decide) ?_
    rw [show q + 2 + 3 * j + 3 = q + 2 + 3 * (j + 1) from by omega]
    exact ih (j + 1) _ (by omega) (hI.step (h.2.2 j (by omega)))
set_option maxHeartbeats 4000000 in
theorem ct_i8 {V : aV} {q : Nat} (h : s8 q) : CT mX8_init 3 37 2016 [.ref q] (shP (q + 1)) V (fun v S' V' => none = v ∧ shP (q + 38) = S' ∧ I8 V V' q 12) aNo := by
  refine CT_of (by decide +kernel) (Nat.le_of_ble_eq_true rfl) ?_
  show R _ _ _ _ _ _ _ _ 0 [some (.ref q), none] [] _ _
  refine R_aload_0 dX8_init_0 ?_
  refine R_oinit (by decide) mlX8_3 (Nat.le_of_ble_eq_true rfl) dX8_init_1 ?_
  refine R_aload_0 dX8_init_4 ?_
  refine R_bipush (v := 12) dX8_init_5 (by decide) ?_
  refine P_anew_17 (N := 12) clX8_9 dX8_init_7 h.2.1 (by decide) (by decide) (by decide) ?_
  refine pfX8_11 rfl rfl dX8_init_10 (shP_o h.o (by omega)) ?_
  refine R_iconst (v := 0) dX8_init_13 (by decide) ?_
  refine R_istore_1 rfl (by decide) dX8_init_14 ?_
  exact i8_loop (kc := 0) (ks := 0) (V0 := V) h (fun V' h' => ⟨rfl, rfl, h'⟩) 12 0 _ rfl ⟨a_up_self _ _ _ _, fun i hi => absurd hi (Nat.not_lt_zero _), fun k hk => (a_up_ne (Or.inr hk)).trans (congrFun (aVn_ne (by omega)) k), fun b hb => (a_up_row (by omega)).trans (aVn_ne (by omega))⟩

/-- what of the book is made, the first j addresses -/
def I1 (V0 V : aV) (j : Nat) : Prop := (BF V ∧ V 74 1 = .ref 76 ∧ V 74 5 = V0 74 5 ∧ AD V 76 [] [] [] []) ∧ ((∀ k, V 85 k = .int 0) ∧ ∀ k, V 86 k = .int 0) ∧ (∀ i, i < j → V 75 i = .ref (88 + 9 * i) ∧ AD V (88 + 9 * i) [] [] [] [] ∧ V (88 + 9 * i) 4 = .int 0 ∧ V (88 + 9 * i) 5 = .int 0 ∧ V (88 + 9 * i) 6 = .int 0) ∧ ∀ b, b < 74 → V b = V0 b
theorem I1.step {V0 V : aV} {j : Nat} (h : I1 V0 V j) (g : s0 (88 + 9 * j)) : I1 V0 (a_up (ad V (88 + 9 * j)) 75 j (.ref (88 + 9 * j))) (j + 1) := by
  obtain ⟨⟨h1, h2, h3, h4⟩, ⟨h5, h6⟩, h7, h8⟩ := h
  have e : ∀ b, b < 88 + 9 * j → b ≠ 75 → a_up (ad V (88 + 9 * j)) 75 j (.ref (88 + 9 * j)) b = V b := fun b q1 q2 => (a_up_row q2).trans (ad_fr (Or.inl q1))
  have e74 := e 74 (by omega) (by decide)
  refine ⟨⟨h1.fr e74, (congrFun e74 1).trans h2, (congrFun e74 5).trans h3, h4.fr (fun k _ => congrFun (e 76 (by omega) (by decide)) k) (fun b q1 q2 => e b (by omega) (by omega))⟩, ⟨fun k => (congrFun (e 85 (by omega) (by decide)) k).trans (h5 k), fun k => (congrFun (e 86 (by omega) (by decide)) k).trans (h6 k)⟩, fun i hi => ?_, fun b hb => (e b (by omega) (by omega)).trans (h8 b hb)⟩
  by_cases z : i = j
  · subst z
    obtain ⟨a1, a2, a3, a4⟩ := ad_AD (V := V) g (by omega)
    have r : a_up (ad V (88 + 9 * i)) 75 i (.ref (88 + 9 * i)) (88 + 9 * i) = ad V (88 + 9 * i) (88 + 9 * i) := a_up_row (by omega)
    exact ⟨a_up_self _ _ _ _, a1.fr (fun k _ => congrFun r k) (fun b q1 q2 => a_up_row (by omega)), (congrFun r 4).trans a2, (congrFun r 5).trans a3, (congrFun r 6).trans a4⟩
  · obtain ⟨a0, a1, a2, a3, a4⟩ := h7 i (by omega)
    have r := e (88 + 9 * i) (by omega) (by omega)
    exact ⟨(a_up_ne (Or.inr z)).trans ((congrFun (ad_fr (Or.inl (by omega))) i).trans a0), a1.fr (fun k _ => congrFun r k) (fun b q1 q2 => e b (by omega) (by omega)), (congrFun r 4).trans a2, (congrFun r 5).trans a3, (congrFun r 6).trans a4⟩
theorem sh0s : ∀ j, j < 12 → s0 (88 + 9 * j) := by decide +kernel
theorem sh0_76 : s0 76 := by decide +kernel
set_option maxHeartbeats 4000000 in
theorem i1_loop {mc ms kc ks : Nat} {V0 : aV} {Q : Option Value → aS → aV → Prop} {QX : String → aS → aV → Prop} (hQ : ∀ V', I1 V0 V' 12 → Q none (shP 196) V') : ∀ (m j : Nat) (V : aV), j + m = 12 → I1 V0 V j → R mX1_init 3 mc ms Q QX (kc + 9 * m) (ks + 63 * m) 50 [some (.ref 74), some (.int (nI j))] [] (shP (88 + 9 * j)) V := by
  intro m
  induction m with
  | zero =>
    intro j V hj hI
    have e : j = 12 := by omega
    subst e
    refine R_iload_1 dX1_init_50 ?_
    refine R_bipush (v := nI 12) dX1_init_51 (by decide) ?_
    refine R_icmp_ge 75 dX1_init_53 (by decide) (fun c53 => ?_) (fun c53 => absurd (Int32.le_refl _) c53)
    refine R_vret rfl dX1_init_75 (hQ V hI)
  | succ m ih =>
    intro j V hj hI
    refine R_less (kc' := kc + 9 * m + 8 + 1) (ks' := ks + 63 * m + 56 + 7) (by omega) (by omega) ?_
    refine R_iload_1 dX1_init_50 ?_
    refine R_bipush (v := nI 12) dX1_init_51 (by decide) ?_
    refine R_icmp_ge 75 dX1_init_53 (by decide) (fun c53 => absurd c53 (nI_ge (by omega) (by decide))) (fun c53 => ?_)
    refine R_aload_0 dX1_init_56 ?_
    refine gfX1_11 rfl dX1_init_57 (shP_o sh_74 (by omega)) hI.1.1.1 ?_
    refine R_iload_1 dX1_init_60 ?_
    refine P_new0 clX1_9 dX1_init_61 (sh0s j (by omega)).1 ?_
    refine R_dup dX1_init_64 rfl ?_
    refine R_callIN_e (T := mX1_init) (T' := mX0_init) (As := []) okX0_init mlX1_17 (ct_i0 (a := 88 + 9 * j) (sh0s j (by omega))) rfl (by decide) (by decide) (Nat.le_of_ble_eq_true rfl) dX1_init_65 ?_
    refine R_aast_16 dX1_init_68 (shP_r sh_75 (by omega)) (vp_in_nI (by omega) (by decide)) (nI_clamp (by omega)) (shP_o (sh0s j (by omega)).o (by omega)) ?_
    refine R_iinc_1 rfl (by decide) dX1_init_69 rfl ?_
    rw [show nI j + Int32.ofInt 1 = nI (j + 1) from nI_1 j]
    refine R_goto 50 dX1_init_72 (by decide) ?_
    rw [show 88 + 9 * j + 9 = 88 + 9 * (j + 1) from by omega]
    exact ih (j + 1) _ (by omega) (hI.step (sh0s j (by omega)))
def b1 (V : aV) : aV := a_up (aVn (a_up (aVn (a_up (aVn (a_up (ad (a_up (aVn V 75 fun _ => .null) 74 0 (.ref 75)) 76) 74 1 (.ref 76)) 85 fun _ => .int 0) 74 2 (.ref 85)) 86 fun _ => .int 0) 74 3 (.ref 86)) 87 fun _ => .int 0) 74 4 (.ref 87)
theorem i1_start (V : aV) : I1 V (b1 V) 0 := by
  have e : ∀ b, 76 ≤ b → b ≤ 84 → b1 V b = ad (a_up (aVn V 75 fun _ => .null) 74 0 (.ref 75)) 76 b := fun b q1 q2 => by
    unfold b1
    rw [a_up_row (by omega), aVn_ne (by omega), a_up_row (by omega), aVn_ne (by omega), a_up_row (by omega), aVn_ne (by omega), a_up_row (by omega)]
  refine ⟨⟨⟨?_, ?_, ?_, ?_⟩, ?_, ?_, (ad_AD (V := a_up (aVn V 75 fun _ => .null) 74 0 (.ref 75)) sh0_76 (by decide)).1.fr (fun k _ => congrFun (e 76 (by decide) (by decide)) k) (fun b q1 q2 => e b (by omega) (by omega))⟩, ⟨fun k => ?_, fun k => ?_⟩, fun i hi => absurd hi (Nat.not_lt_zero _), fun b hb => ?_⟩
  · unfold b1
    rw [a_up_ne (Or.inr (by decide)), aVn_ne (by decide), a_up_ne (Or.inr (by decide)), aVn_ne (by decide), a_up_ne (Or.inr (by decide)), aVn_ne (by decide), a_up_ne (Or.inr (by decide)), ad_fr (by omega), a_up_self]
  · unfold b1
    rw [a_up_ne (Or.inr (by decide)), aVn_ne (by decide), a_up_ne (Or.inr (by decide)), aVn_ne (by decide), a_up_self]
  · unfold b1
    rw [a_up_ne (Or.inr (by decide)), aVn_ne (by decide), a_up_self]
  · exact a_up_self _ _ _ _
  · unfold b1
    rw [a_up_ne (Or.inr (by decide)), aVn_ne (by decide), a_up_ne (Or.inr (by decide)), aVn_ne (by decide), a_up_ne (Or.inr (by decide)), aVn_ne (by decide), a_up_self]
  · unfold b1
    rw [a_up_ne (Or.inr (by decide)), aVn_ne (by decide), a_up_ne (Or.inr (by decide)), aVn_ne (by decide), a_up_ne (Or.inr (by decide)), aVn_ne (by decide), a_up_ne (Or.inr (by decide)), ad_fr (by omega), a_up_ne (Or.inr (by decide)), aVn_ne (by decide)]
  · unfold b1
    rw [aup_o (by decide), aVn_ne (by decide), aup_o (by decide), aVn_ne (by decide), aup_o (by decide), aVn_self]
  · unfold b1
    rw [aup_o (by decide), aVn_ne (by decide), aup_o (by decide), aVn_self]
  · unfold b1
    rw [a_up_row (by omega), aVn_ne (by omega), a_up_row (by omega), aVn_ne (by omega), a_up_row (by omega), aVn_ne (by omega), a_up_row (by omega), ad_fr (by omega), a_up_row (by omega), aVn_ne (by omega)]
set_option maxHeartbeats 4000000 in
theorem ct_i1 {V : aV} : CT mX1_init 3 121 867 [.ref 74] (shP 75) V (fun v S' V' => none = v ∧ shP 196 = S' ∧ I1 V V' 12) aNo := by
  refine CT_of (by decide +kernel) (Nat.le_of_ble_eq_true rfl) ?_
  show R _ _ _ _ _ _ _ _ 0 [some (.ref 74), none] [] _ _
  refine R_aload_0 dX1_init_0 ?_
  refine R_oinit (by decide) mlX1_3 (Nat.le_of_ble_eq_true rfl) dX1_init_1 ?_
  refine R_aload_0 dX1_init_4 ?_
  refine R_bipush (v := 12) dX1_init_5 (by decide) ?_
  refine P_anew_16 (N := 12) clX1_9 dX1_init_7 sh_75 (by decide) (by decide) (by decide) ?_
  refine pfX1_11 rfl rfl dX1_init_10 (shP_o sh_74 (by omega)) ?_
  refine R_aload_0 dX1_init_13 ?_
  refine P_new0 clX1_9 dX1_init_14 sh0_76.1 ?_
  refine R_dup dX1_init_17 rfl ?_
  refine R_callIN_e (T := mX1_init) (T' := mX0_init) (As := []) okX0_init mlX1_17 (ct_i0 (a := 76) sh0_76) rfl (by decide) (by decide) (Nat.le_of_ble_eq_true rfl) dX1_init_18 ?_
  refine pfX1_18 rfl dX1_init_21 (shP_o sh_74 (by omega)) ?_
  refine R_aload_0 dX1_init_24 ?_
  refine R_bipush (v := 12) dX1_init_25 (by decide) ?_
  refine P_newaI (N := 12) dX1_init_27 sh_85 (by decide) (by decide) (by decide) ?_
  refine pfX1_22 rfl rfl dX1_init_29 (shP_o sh_74 (by omega)) ?_
  refine R_aload_0 dX1_init_32 ?_
  refine R_bipush (v := 12) dX1_init_33 (by decide) ?_
  refine P_newaI (N := 12) dX1_init_35 sh_86 (by decide) (by decide) (by decide) ?_
  refine pfX1_26 rfl rfl dX1_init_37 (shP_o sh_74 (by omega)) ?_
  refine R_aload_0 dX1_init_40 ?_
  refine R_bipush (v := 12) dX1_init_41 (by decide) ?_
  refine P_newaI (N := 12) dX1_init_43 sh_87 (by decide) (by decide) (by decide) ?_
  refine pfX1_29 rfl rfl dX1_init_45 (shP_o sh_74 (by omega)) ?_
  refine R_iconst (v := 0) dX1_init_48 (by decide) ?_
  refine R_istore_1 rfl (by decide) dX1_init_49 ?_
  exact i1_loop (kc := 0) (ks := 0) (V0 := V) (fun V' h' => ⟨rfl, rfl, h'⟩) 12 0 _ rfl (i1_start V)

