/-! ===== Likener: the distance ===== -/
def lvS (G : List Int32) (c : Int32) (r : Nat → Nat) : Nat → Nat
  | 0 => r 0 + 1
  | j + 1 => min (r j + if G.getD j 0 = c then 0 else 1) (1 + min (r (j + 1)) (lvS G c r j))
def lvR (G L : List Int32) : Nat → Nat → Nat
  | 0 => fun j => j
  | i + 1 => lvS G (L.getD i 0) (lvR G L i)
theorem lvS_max {G : List Int32} {c : Int32} {r : Nat → Nat} {i : Nat} (h : ∀ j, r j ≤ max i j) : ∀ j, lvS G c r j ≤ max (i + 1) j
  | 0 => by have := h 0; show r 0 + 1 ≤ _; omega
  | j + 1 => by
    have h1 := h j
    have : (if G.getD j 0 = c then 0 else 1) ≤ 1 := by split <;> decide
    show min (r j + if G.getD j 0 = c then 0 else 1) _ ≤ _
    omega
theorem lvR_max {G L : List Int32} : ∀ i j, lvR G L i j ≤ max i j
  | 0, j => Nat.le_max_right _ _
  | i + 1, j => lvS_max (lvR_max i) j
def RW (V : aV) (wd : Nat) (r : Nat → Nat) : Prop := ∀ j, j ≤ wd → V 197 j = .int (nI (r j)) ∧ r j < 1000
def mixR (r' r : Nat → Nat) (j : Nat) : Nat → Nat := fun k => if k < j then r' k else r k
theorem nI_min {a b : Nat} (ha : a < 2 ^ 31) (hb : b < 2 ^ 31) : (if nI b < nI a then nI b else nI a) = nI (min a b) := by
  by_cases e : b < a
  · rw [if_pos (nI_lt e ha), Nat.min_eq_right (by omega)]
  · rw [if_neg (nI_nlt (by omega) hb), Nat.min_eq_left (by omega)]
theorem nI_max {a b : Nat} (ha : a < 2 ^ 31) (hb : b < 2 ^ 31) : (if nI a < nI b then nI b else nI a) = nI (max a b) := by
  by_cases e : a < b
  · rw [if_pos (nI_lt e hb), Nat.max_eq_right (by omega)]
  · rw [if_neg (nI_nlt (by omega) ha), Nat.max_eq_left (by omega)]
theorem RW.set {V : aV} {wd j x : Nat} {r' r : Nat → Nat} (h : RW V wd (mixR r' r j)) (e : r' j = x) (hx : x < 1000) : RW (a_up V 197 j (.int (nI x))) wd (mixR r' r (j + 1)) := by
  intro k hk
  have h1 := h k hk
  unfold mixR at *
  by_cases q : k = j
  · subst q
    rw [if_pos (Nat.lt_succ_self k), e, a_up_self]
    exact ⟨rfl, hx⟩
  · rw [a_up_ne (Or.inr q)]
    by_cases q2 : k < j
    · rw [if_pos q2] at h1; rw [if_pos (by omega)]; exact h1
    · rw [if_neg q2] at h1; rw [if_neg (by omega)]; exact h1
set_option maxHeartbeats 4000000 in
theorem rs_loop {mc ms kc ks : Nat} {V0 : aV} {q cq wd : Nat} {G : List Int32} {c : Int32} {r : Nat → Nat} (hr : ∀ k, r k < 500) (hr2 : ∀ k, lvS G c r k < 501) (hwd : wd ≤ 12) (hq : q < 196 ∨ 197 < q) (hq2 : q + 1 < 196 ∨ 197 < q + 1) {Q : Option Value → aS → aV → Prop} {QX : String → aS → aV → Prop} (hQ : ∀ V', RW V' wd (lvS G c r) → Fr0 V0 V' 197 → Q none Sh V') : ∀ (m j : Nat) (V : aV), j + m = wd + 1 → 1 ≤ j → V 196 0 = .ref 197 → SL Sh V q cq G → RW V wd (mixR (lvS G c r) r j) → Fr0 V0 V 197 → R mX5_readSign 1 mc ms Q QX kc ks 21 [some (.ref 196), some (.int c), some (.ref q), some (.int (nI wd)), some (.int (nI (r (j - 1)))), some (.int (nI j)), none] [] Sh V := by
  intro m
  induction m with
  | zero =>
    intro j V hj h1 h0 hG hR hF
    have hj' : j = wd + 1 := by omega
    subst hj'
    refine R_iload_5 dX5_readSign_21 ?_
    refine R_iload_3 dX5_readSign_23 ?_
    refine R_icmp_gt 97 dX5_readSign_24 (by decide) (fun c24 => ?_) (fun c24 => absurd (Int32.not_le.1 (nI_ge (Nat.lt_succ_self wd) (by omega))) c24)
    refine R_vret rfl dX5_readSign_97 (hQ V (fun k hk => by have := hR k hk; unfold mixR at this; rw [if_pos (by omega)] at this; exact this) hF)
  | succ m ih =>
    intro j V hj h1 h0 hG hR hF
    obtain ⟨i, rfl⟩ : ∃ i, j = i + 1 := ⟨j - 1, by omega⟩
    have hR1 := hR (i + 1) (by omega)
    have hR0 := hR i (by omega)
    have e1 : mixR (lvS G c r) r (i + 1) (i + 1) = r (i + 1) := if_neg (Nat.lt_irrefl _)
    have e0 : mixR (lvS G c r) r (i + 1) i = lvS G c r i := if_pos (Nat.lt_succ_self i)
    rw [e1] at hR1
    rw [e0] at hR0
    have r0 := hr i
    have r1 := hr (i + 1)
    have r2 := hr2 i
    have r3 := hr2 (i + 1)
    have bw : ¬ nI (i + 1) > nI wd := nI_nlt (by omega) (by omega)
    have es : lvS G c r (i + 1) = min (r i + if G.getD i 0 = c then 0 else 1) (1 + min (r (i + 1)) (lvS G c r i)) := rfl
    refine R_iload_5 dX5_readSign_21 ?_
    refine R_iload_3 dX5_readSign_23 ?_
    refine R_icmp_gt 97 dX5_readSign_24 (by decide) (fun c24 => absurd c24 bw) (fun c24 => ?_)
    refine R_iload_4 dX5_readSign_27 ?_
    refine R_aload_2 dX5_readSign_29 ?_
    refine R_iload_5 dX5_readSign_30 ?_
    refine R_iconst (v := 1) dX5_readSign_32 (by decide) ?_
    refine R_isub dX5_readSign_33 ?_
    rw [show nI (i + 1) - 1 = nI i from nI_pred i]
    refine R_callVN_e (T := mX5_readSign) (T' := mX9_signAt) (As := [_]) (ci := 9) okX9_signAt mlX5_27 rfl (by decide) hG.1 (ct_signAtL hG (nI i)) rfl (by decide) (by decide) (Nat.le_of_ble_eq_true rfl) dX5_readSign_34 ?_
    rw [lAt_nI (by omega)]
    refine R_iload_1 dX5_readSign_37 ?_
    refine R_icmp_ne 45 dX5_readSign_38 (by decide) (fun c38 => ?_) (fun c38 => ?_)
    · have en : lvS G c r (i + 1) = min (r i + 1) (1 + min (r (i + 1)) (lvS G c r i)) := by rw [es, if_neg c38]
      refine R_iconst (v := 1) dX5_readSign_45 (by decide) ?_
      refine R_iadd dX5_readSign_46 ?_
      first
        | (rw [show nI (r (i + 1 - 1)) + 0 = nI (r i + 0) from nI_add (r i) 0]
           refine R_istore_6 rfl (by decide) dX5_readSign_47 ?_
           refine R_aload_0 dX5_readSign_49 ?_
           refine gfX5_9 rfl dX5_readSign_50 sh_196 h0 ?_
           refine R_iload_5 dX5_readSign_53 ?_
           refine R_iald dX5_readSign_55 sh_197 (vp_in_nI (by omega) (by decide)) (nI_clamp (by omega)) hR1.1 ?_
           refine R_istore_4 rfl (by decide) dX5_readSign_56 ?_
           refine R_aload_0 dX5_readSign_58 ?_
           refine gfX5_9 rfl dX5_readSign_59 sh_196 h0 ?_
           refine R_iload_5 dX5_readSign_62 ?_
           refine R_iload_6 dX5_readSign_64 ?_
           refine R_iconst (v := 1) dX5_readSign_66 (by decide) ?_
           refine R_aload_0 dX5_readSign_67 ?_
           refine gfX5_9 rfl dX5_readSign_68 sh_196 h0 ?_
           refine R_iload_5 dX5_readSign_71 ?_
           refine R_iald dX5_readSign_73 sh_197 (vp_in_nI (by omega) (by decide)) (nI_clamp (by omega)) hR1.1 ?_
           refine R_aload_0 dX5_readSign_74 ?_
           refine gfX5_9 rfl dX5_readSign_75 sh_196 h0 ?_
           refine R_iload_5 dX5_readSign_78 ?_
           refine R_iconst (v := 1) dX5_readSign_80 (by decide) ?_
           refine R_isub dX5_readSign_81 ?_
           rw [show nI (i + 1) - 1 = nI i from nI_pred i]
           refine R_iald dX5_readSign_82 sh_197 (vp_in_nI (by omega) (by decide)) (nI_clamp (by omega)) hR0.1 ?_
           refine R_min mmX5_21 wm_min1 wm_ini wm_min2 dX5_readSign_83 (by decide) (Nat.le_of_ble_eq_true rfl) (nI_min (by omega) (by omega)) ?_
           refine R_iadd dX5_readSign_86 ?_
           rw [show (1 : Int32) + nI (min (r (i + 1)) (lvS G c r i)) = nI (1 + min (r (i + 1)) (lvS G c r i)) from nI_add 1 _]
           refine R_min mmX5_21 wm_min1 wm_ini wm_min2 dX5_readSign_87 (by decide) (Nat.le_of_ble_eq_true rfl) (nI_min (by omega) (by omega)) ?_
           rw [← en]
           refine R_iast dX5_readSign_90 sh_197 (vp_in_nI (by omega) (by decide)) (nI_clamp (by omega)) ?_
           refine R_drop_6 ?_
           refine R_iinc_5 rfl (by decide) dX5_readSign_91 rfl ?_
           rw [show nI (i + 1) + Int32.ofInt 1 = nI (i + 1 + 1) from nI_1 _]
           refine R_goto 21 dX5_readSign_94 (by decide) ?_
           exact ih (i + 1 + 1) _ (by omega) (by omega) ((a_up_ne (Or.inl (by decide))).trans h0) (hG.frame (a_up_row (by omega)) (a_up_row (by omega))) (hR.set rfl (by omega)) (fun b hb => (a_up_row hb).trans (hF b hb)))
        | (rw [show nI (r (i + 1 - 1)) + 1 = nI (r i + 1) from nI_add (r i) 1]
           refine R_istore_6 rfl (by decide) dX5_readSign_47 ?_
           refine R_aload_0 dX5_readSign_49 ?_
           refine gfX5_9 rfl dX5_readSign_50 sh_196 h0 ?_
           refine R_iload_5 dX5_readSign_53 ?_
           refine R_iald dX5_readSign_55 sh_197 (vp_in_nI (by omega) (by decide)) (nI_clamp (by omega)) hR1.1 ?_
           refine R_istore_4 rfl (by decide) dX5_readSign_56 ?_
           refine R_aload_0 dX5_readSign_58 ?_
           refine gfX5_9 rfl dX5_readSign_59 sh_196 h0 ?_
           refine R_iload_5 dX5_readSign_62 ?_
           refine R_iload_6 dX5_readSign_64 ?_
           refine R_iconst (v := 1) dX5_readSign_66 (by decide) ?_
           refine R_aload_0 dX5_readSign_67 ?_
           refine gfX5_9 rfl dX5_readSign_68 sh_196 h0 ?_
           refine R_iload_5 dX5_readSign_71 ?_
           refine R_iald dX5_readSign_73 sh_197 (vp_in_nI (by omega) (by decide)) (nI_clamp (by omega)) hR1.1 ?_
           refine R_aload_0 dX5_readSign_74 ?_
           refine gfX5_9 rfl dX5_readSign_75 sh_196 h0 ?_
           refine R_iload_5 dX5_readSign_78 ?_
           refine R_iconst (v := 1) dX5_readSign_80 (by decide) ?_
           refine R_isub dX5_readSign_81 ?_
           rw [show nI (i + 1) - 1 = nI i from nI_pred i]
           refine R_iald dX5_readSign_82 sh_197 (vp_in_nI (by omega) (by decide)) (nI_clamp (by omega)) hR0.1 ?_
           refine R_min mmX5_21 wm_min1 wm_ini wm_min2 dX5_readSign_83 (by decide) (Nat.le_of_ble_eq_true rfl) (nI_min (by omega) (by omega)) ?_
           refine R_iadd dX5_readSign_86 ?_
           rw [show (1 : Int32) + nI (min (r (i + 1)) (lvS G c r i)) = nI (1 + min (r (i + 1)) (lvS G c r i)) from nI_add 1 _]
           refine R_min mmX5_21 wm_min1 wm_ini wm_min2 dX5_readSign_87 (by decide) (Nat.le_of_ble_eq_true rfl) (nI_min (by omega) (by omega)) ?_
           rw [← en]
           refine R_iast dX5_readSign_90 sh_197 (vp_in_nI (by omega) (by decide)) (nI_clamp (by omega)) ?_
           refine R_drop_6 ?_
           refine R_iinc_5 rfl (by decide) dX5_readSign_91 rfl ?_
           rw [show nI (i + 1) + Int32.ofInt 1 = nI (i + 1 + 1) from nI_1 _]
           refine R_goto 21 dX5_readSign_94 (by decide) ?_
           exact ih (i + 1 + 1) _ (by omega) (by omega) ((a_up_ne (Or.inl (by decide))).trans h0) (hG.frame (a_up_row (by omega)) (a_up_row (by omega))) (hR.set rfl (by omega)) (fun b hb => (a_up_row hb).trans (hF b hb)))
    · have en : lvS G c r (i + 1) = min (r i + 0) (1 + min (r (i + 1)) (lvS G c r i)) := by rw [es, if_pos c38]
      refine R_iconst (v := 0) dX5_readSign_41 (by decide) ?_
      refine R_goto 46 dX5_readSign_42 (by decide) ?_
      refine R_iadd dX5_readSign_46 ?_
      first
        | (rw [show nI (r (i + 1 - 1)) + 0 = nI (r i + 0) from nI_add (r i) 0]
           refine R_istore_6 rfl (by decide) dX5_readSign_47 ?_
           refine R_aload_0 dX5_readSign_49 ?_
           refine gfX5_9 rfl dX5_readSign_50 sh_196 h0 ?_
           refine R_iload_5 dX5_readSign_53 ?_
           refine R_iald dX5_readSign_55 sh_197 (vp_in_nI (by omega) (by decide)) (nI_clamp (by omega)) hR1.1 ?_
           refine R_istore_4 rfl (by decide) dX5_readSign_56 ?_
           refine R_aload_0 dX5_readSign_58 ?_
           refine gfX5_9 rfl dX5_readSign_59 sh_196 h0 ?_
           refine R_iload_5 dX5_readSign_62 ?_
           refine R_iload_6 dX5_readSign_64 ?_
           refine R_iconst (v := 1) dX5_readSign_66 (by decide) ?_
           refine R_aload_0 dX5_readSign_67 ?_
           refine gfX5_9 rfl dX5_readSign_68 sh_196 h0 ?_
           refine R_iload_5 dX5_readSign_71 ?_
           refine R_iald dX5_readSign_73 sh_197 (vp_in_nI (by omega) (by decide)) (nI_clamp (by omega)) hR1.1 ?_
           refine R_aload_0 dX5_readSign_74 ?_
           refine gfX5_9 rfl dX5_readSign_75 sh_196 h0 ?_
           refine R_iload_5 dX5_readSign_78 ?_
           refine R_iconst (v := 1) dX5_readSign_80 (by decide) ?_
           refine R_isub dX5_readSign_81 ?_
           rw [show nI (i + 1) - 1 = nI i from nI_pred i]
           refine R_iald dX5_readSign_82 sh_197 (vp_in_nI (by omega) (by decide)) (nI_clamp (by omega)) hR0.1 ?_
           refine R_min mmX5_21 wm_min1 wm_ini wm_min2 dX5_readSign_83 (by decide) (Nat.le_of_ble_eq_true rfl) (nI_min (by omega) (by omega)) ?_
           refine R_iadd dX5_readSign_86 ?_
           rw [show (1 : Int32) + nI (min (r (i + 1)) (lvS G c r i)) = nI (1 + min (r (i + 1)) (lvS G c r i)) from nI_add 1 _]
           refine R_min mmX5_21 wm_min1 wm_ini wm_min2 dX5_readSign_87 (by decide) (Nat.le_of_ble_eq_true rfl) (nI_min (by omega) (by omega)) ?_
           rw [← en]
           refine R_iast dX5_readSign_90 sh_197 (vp_in_nI (by omega) (by decide)) (nI_clamp (by omega)) ?_
           refine R_drop_6 ?_
           refine R_iinc_5 rfl (by decide) dX5_readSign_91 rfl ?_
           rw [show nI (i + 1) + Int32.ofInt 1 = nI (i + 1 + 1) from nI_1 _]
           refine R_goto 21 dX5_readSign_94 (by decide) ?_
           exact ih (i + 1 + 1) _ (by omega) (by omega) ((a_up_ne (Or.inl (by decide))).trans h0) (hG.frame (a_up_row (by omega)) (a_up_row (by omega))) (hR.set rfl (by omega)) (fun b hb => (a_up_row hb).trans (hF b hb)))
        | (rw [show nI (r (i + 1 - 1)) + 1 = nI (r i + 1) from nI_add (r i) 1]
           refine R_istore_6 rfl (by decide) dX5_readSign_47 ?_
           refine R_aload_0 dX5_readSign_49 ?_
           refine gfX5_9 rfl dX5_readSign_50 sh_196 h0 ?_
           refine R_iload_5 dX5_readSign_53 ?_
           refine R_iald dX5_readSign_55 sh_197 (vp_in_nI (by omega) (by decide)) (nI_clamp (by omega)) hR1.1 ?_
           refine R_istore_4 rfl (by decide) dX5_readSign_56 ?_
           refine R_aload_0 dX5_readSign_58 ?_
           refine gfX5_9 rfl dX5_readSign_59 sh_196 h0 ?_
           refine R_iload_5 dX5_readSign_62 ?_
           refine R_iload_6 dX5_readSign_64 ?_
           refine R_iconst (v := 1) dX5_readSign_66 (by decide) ?_
           refine R_aload_0 dX5_readSign_67 ?_
           refine gfX5_9 rfl dX5_readSign_68 sh_196 h0 ?_
           refine R_iload_5 dX5_readSign_71 ?_
           refine R_iald dX5_readSign_73 sh_197 (vp_in_nI (by omega) (by decide)) (nI_clamp (by omega)) hR1.1 ?_
           refine R_aload_0 dX5_readSign_74 ?_
           refine gfX5_9 rfl dX5_readSign_75 sh_196 h0 ?_
           refine R_iload_5 dX5_readSign_78 ?_
           refine R_iconst (v := 1) dX5_readSign_80 (by decide) ?_
           refine R_isub dX5_readSign_81 ?_
           rw [show nI (i + 1) - 1 = nI i from nI_pred i]
           refine R_iald dX5_readSign_82 sh_197 (vp_in_nI (by omega) (by decide)) (nI_clamp (by omega)) hR0.1 ?_
           refine R_min mmX5_21 wm_min1 wm_ini wm_min2 dX5_readSign_83 (by decide) (Nat.le_of_ble_eq_true rfl) (nI_min (by omega) (by omega)) ?_
           refine R_iadd dX5_readSign_86 ?_
           rw [show (1 : Int32) + nI (min (r (i + 1)) (lvS G c r i)) = nI (1 + min (r (i + 1)) (lvS G c r i)) from nI_add 1 _]
           refine R_min mmX5_21 wm_min1 wm_ini wm_min2 dX5_readSign_87 (by decide) (Nat.le_of_ble_eq_true rfl) (nI_min (by omega) (by omega)) ?_
           rw [← en]
           refine R_iast dX5_readSign_90 sh_197 (vp_in_nI (by omega) (by decide)) (nI_clamp (by omega)) ?_
           refine R_drop_6 ?_
           refine R_iinc_5 rfl (by decide) dX5_readSign_91 rfl ?_
           rw [show nI (i + 1) + Int32.ofInt 1 = nI (i + 1 + 1) from nI_1 _]
           refine R_goto 21 dX5_readSign_94 (by decide) ?_
           exact ih (i + 1 + 1) _ (by omega) (by omega) ((a_up_ne (Or.inl (by decide))).trans h0) (hG.frame (a_up_row (by omega)) (a_up_row (by omega))) (hR.set rfl (by omega)) (fun b hb => (a_up_row hb).trans (hF b hb)))
set_option maxHeartbeats 4000000 in
theorem ct_readSign {V : aV} {q cq wd : Nat} {G : List Int32} {c : Int32} {r : Nat → Nat} (h0 : V 196 0 = .ref 197) (hG : SL Sh V q cq G) (hR : RW V wd r) (hr : ∀ k, r k < 500) (hr2 : ∀ k, lvS G c r k < 501) (hwd : wd ≤ 12) (hq : q < 196 ∨ 197 < q) (hq2 : q + 1 < 196 ∨ 197 < q + 1) : CT mX5_readSign 1 0 0 [.ref 196, .int c, .ref q, .int (nI wd)] Sh V (fun v S' V' => none = v ∧ Sh = S' ∧ RW V' wd (lvS G c r) ∧ Fr0 V V' 197) aNo := by
  refine CT_of (by decide +kernel) (Nat.le_of_ble_eq_true rfl) ?_
  show R _ _ _ _ _ _ _ _ 0 [some (.ref 196), some (.int c), some (.ref q), some (.int (nI wd)), none, none, none] [] _ _
  have hR0 := hR 0 (Nat.zero_le _)
  have hr0 := hr 0
  have hR9 : RW V wd (mixR (lvS G c r) r 0) := fun k hk => by have := hR k hk; unfold mixR; rw [if_neg (Nat.not_lt_zero k)]; exact this
  refine R_aload_0 dX5_readSign_0 ?_
  refine gfX5_9 rfl dX5_readSign_1 sh_196 h0 ?_
  refine R_iconst (v := 0) dX5_readSign_4 (by decide) ?_
  refine R_iald dX5_readSign_5 sh_197 (vp_in_nI (n := 0) (N := 13) (by decide) (by decide)) (nI_clamp (n := 0) (by decide)) hR0.1 ?_
  refine R_istore_4 rfl (by decide) dX5_readSign_6 ?_
  refine R_aload_0 dX5_readSign_8 ?_
  refine gfX5_9 rfl dX5_readSign_9 sh_196 h0 ?_
  refine R_iconst (v := 0) dX5_readSign_12 (by decide) ?_
  refine R_dup2_11 dX5_readSign_13 rfl rfl ?_
  refine R_iald dX5_readSign_14 sh_197 (vp_in_nI (n := 0) (N := 13) (by decide) (by decide)) (nI_clamp (n := 0) (by decide)) hR0.1 ?_
  refine R_iconst (v := 1) dX5_readSign_15 (by decide) ?_
  refine R_iadd dX5_readSign_16 ?_
  rw [show nI (r 0) + 1 = nI (r 0 + 1) from nI_1 _]
  refine R_iast dX5_readSign_17 sh_197 (vp_in_nI (n := 0) (N := 13) (by decide) (by decide)) (nI_clamp (n := 0) (by decide)) ?_
  refine R_iconst (v := 1) dX5_readSign_18 (by decide) ?_
  refine R_istore_5 rfl (by decide) dX5_readSign_19 ?_
  exact rs_loop (V0 := V) hr hr2 hwd hq hq2 (fun V9 u1 u2 => ⟨rfl, rfl, u1, u2⟩) wd 1 _ (by omega) (Nat.le_refl _) ((a_up_ne (Or.inl (by decide))).trans h0) (hG.frame (a_up_row (by omega)) (a_up_row (by omega))) (hR9.set (x := r 0 + 1) rfl (by omega)) (fun b hb => a_up_row hb)

