/-! ===== MergePost: template ===== -/
theorem PB.fr2 {V V' : aV} {tl : Nat → Nat} {sp : Nat} {T : Nat → List Int32} {to : Nat → Bool} {jp : Nat → Nat → Option Nat} (h : PB V tl sp T to jp) (e : ∀ b, 3 < b → V' b = V b) : PB V' tl sp T to jp := by
  obtain ⟨h1, h2, h3, h4, h5, h6, A, hA⟩ := h
  have so := h6.out
  refine ⟨fun n hn => ?_, h2, h3, (congrFun (e 4 (by decide)) 0).trans h4, (congrFun (e 4 (by decide)) 1).trans h5, h6, A, hA.fr (fun b q1 q2 => e b (by omega))⟩
  obtain ⟨t1, t2, t3, t4, t5⟩ := h1 n hn
  exact ⟨(congrFun (e 5 (by decide)) n).trans t1, t2, t3.fr (fun b q1 q2 => e b (by omega)), (congrFun (e _ (by omega)) 4).trans t4, fun q u hq => (congrFun (e _ (by omega)) q).trans (t5 q u hq)⟩
def TF2 (V V' : aV) : Prop := (∀ b, b ≠ 1 → b ≠ 2 → b ≠ 4 → b ≠ 5 → (b < 6 ∨ 10 < b) → (b < 34 ∨ 73 < b) → V' b = V b) ∧ ∀ k, k ≠ 1 → V' 4 k = V 4 k
def TPost (V : aV) (L : List Int32) (tl : Nat → Nat) (sp : Nat) (T : Nat → List Int32) (to : Nat → Bool) (jp : Nat → Nat → Option Nat) (a : Nat) (r : RRes) : Option Value → aS → aV → Prop := fun v S' V' => Sh = S' ∧ LI V' [] ∧ TF2 V V' ∧ match r with
  | .inl p' => some (.int (-1 - nI p')) = v ∧ PB V' tl sp T to jp
  | .inr r => (r.2.1.length = 0 ∧ some (.int (nI L.length)) = v ∧ PB V' (upN tl a sp) (tl a) (upN T a L) (upN to a true) (upN jp a r.2.2)) ∨ (¬ r.2.1.length = 0 ∧ some (.int (-1 - nI r.1)) = v ∧ PB V' tl sp T to jp)
theorem clr2 {V V1 : aV} {L : List Int32} {p : Nat} (h : LN V1 L p) (hF : TFr V V1) : LI (a_up V1 2 1 (.int 0)) [] ∧ TF2 V (a_up V1 2 1 (.int 0)) ∧ ∀ b, 3 < b → a_up V1 2 1 (.int 0) b = V1 b := ⟨⟨(a_up_ne (Or.inl (by decide))).trans h.1, h.2.2.1.clear⟩, ⟨fun b q1 q2 q3 q4 q5 q6 => (a_up_row q2).trans (hF.1 b q1 q3 q4 q5 q6), fun k hk => (a_up_ne (Or.inl (by decide))).trans (hF.2 k hk)⟩, fun b hb => a_up_row (by omega)⟩
set_option maxHeartbeats 4000000 in
theorem ct_template {V : aV} {L : List Int32} {tl : Nat → Nat} {sp : Nat} {T : Nat → List Int32} {to : Nat → Bool} {jp : Nat → Nat → Option Nat} (hM : MB V) (hl : LI V L) (hB : PB V tl sp T to jp) (t : Int32) : CT mX11_template 9 1 6 [.ref 0, .int t] Sh V (fun v S' V' => ∃ a, a < 8 ∧ t = nI a ∧ TPost V L tl sp T to jp a (rAll L 96 0 [] (fun _ => none)) v S' V') (QXc V (¬ (¬ t < 0 ∧ t < 8))) := by
  refine CT_of (by decide +kernel) (Nat.le_of_ble_eq_true rfl) ?_
  show R _ _ _ _ _ _ _ _ 0 [some (.ref 0), some (.int t), none, none] [] _ _
  obtain ⟨m0, m1, m2, m3, m4, m5⟩ := hM
  refine R_aload_0 dX11_template_0 ?_
  refine R_iload_1 dX11_template_1 ?_
  refine R_callV (T := mX11_template) (T' := mX11_checkTemplate) (As := [_]) (ci := 11) okX11_checkTemplate mlX11_85 rfl (by decide) sh_0 (ct_checkTemplate t) rfl (by decide) (by decide) (Nat.le_of_ble_eq_true rfl) dX11_template_2 (fun v9 S9 V9 h9 => ?_) (fun E S9 V9 h9 => h9)
  obtain ⟨rfl, o, rfl, rfl⟩ := h9
  obtain ⟨a, ha, rfl⟩ := i8_nI (n := 8) (by decide) o.1 (Int32.not_le.2 o.2)
  refine R_aload_0 dX11_template_5 ?_
  refine gfX11_19 rfl dX11_template_6 sh_0 m1 ?_
  refine R_aload_0 dX11_template_9 ?_
  refine gfX11_12 rfl dX11_template_10 sh_0 m0 ?_
  refine R_iload_1 dX11_template_13 ?_
  refine R_callVN (T := mX11_template) (T' := mX7_readTemplate) (As := [_, _]) (ci := 7) okX7_readTemplate mlX11_89 rfl (by decide) sh_4 (ct_readTemplate hl hB ha) rfl (by decide) (by decide) (Nat.le_of_ble_eq_true rfl) dX11_template_14 (fun v9 S9 V1 h9 => ?_) (fun E S9 V9 h9 => h9.elim)
  obtain ⟨rfl, hF, h9⟩ := h9
  have m0 := (congrFun (hF.1 0 (by decide) (by decide) (by decide) (by decide) (by decide)) 0).trans m0
  generalize eR : rAll L 96 0 [] (fun _ => none) = r9 at h9
  rcases r9 with p9 | r9
  · obtain ⟨rfl, l9, hP⟩ : some (Value.int 0) = v9 ∧ _ := h9
    obtain ⟨z1, z2, z3⟩ := clr2 l9 hF
    refine R_istore_2 rfl (by decide) dX11_template_17 ?_
    refine R_iload_2 dX11_template_18 ?_
    refine R_if_eq 35 dX11_template_19 (by decide) (fun c19 => ?_) (fun c19 => absurd rfl c19)
    refine R_iconst (v := -1) dX11_template_35 (by decide) ?_
    refine R_aload_0 dX11_template_36 ?_
    refine gfX11_12 rfl dX11_template_37 sh_0 m0 ?_
    refine gfX11_93 rfl dX11_template_40 sh_1 l9.2.1 ?_
    refine R_isub dX11_template_43 ?_
    refine R_istore_3 rfl (by decide) dX11_template_44 ?_
    refine R_aload_0 dX11_template_45 ?_
    refine gfX11_12 rfl dX11_template_46 sh_0 m0 ?_
    refine R_callVN_e (T := mX11_template) (T' := mX6_clear) (As := []) (ci := 6) okX6_clear mlX11_96 rfl (by decide) sh_1 (ct_clear l9) rfl (by decide) (by decide) (Nat.le_of_ble_eq_true rfl) dX11_template_49 ?_
    refine R_iload_3 dX11_template_52 ?_
    refine R_iret rfl dX11_template_53 ⟨a, ha, rfl, rfl, z1, z2, rfl, hP.fr2 z3⟩
  · obtain ⟨l9, h9⟩ := h9
    obtain ⟨z1, z2, z3⟩ := clr2 l9 hF
    rcases h9 with ⟨y1, rfl, hP⟩ | ⟨y1, rfl, hP⟩
    · refine R_istore_2 rfl (by decide) dX11_template_17 ?_
      refine R_iload_2 dX11_template_18 ?_
      refine R_if_eq 35 dX11_template_19 (by decide) (fun c19 => absurd c19 (by decide)) (fun c19 => ?_)
      refine R_aload_0 dX11_template_22 ?_
      refine gfX11_12 rfl dX11_template_23 sh_0 m0 ?_
      refine gfX11_62 rfl dX11_template_26 sh_1 l9.1 ?_
      refine gfX11_66 rfl dX11_template_29 sh_2 l9.2.2.1.len1 ?_
      refine R_goto 44 dX11_template_32 (by decide) ?_
      refine R_istore_3 rfl (by decide) dX11_template_44 ?_
      refine R_aload_0 dX11_template_45 ?_
      refine gfX11_12 rfl dX11_template_46 sh_0 m0 ?_
      refine R_callVN_e (T := mX11_template) (T' := mX6_clear) (As := []) (ci := 6) okX6_clear mlX11_96 rfl (by decide) sh_1 (ct_clear l9) rfl (by decide) (by decide) (Nat.le_of_ble_eq_true rfl) dX11_template_49 ?_
      refine R_iload_3 dX11_template_52 ?_
      refine R_iret rfl dX11_template_53 ⟨a, ha, rfl, rfl, z1, z2, Or.inl ⟨y1, rfl, hP.fr2 z3⟩⟩
    · refine R_istore_2 rfl (by decide) dX11_template_17 ?_
      refine R_iload_2 dX11_template_18 ?_
      refine R_if_eq 35 dX11_template_19 (by decide) (fun c19 => ?_) (fun c19 => absurd rfl c19)
      refine R_iconst (v := -1) dX11_template_35 (by decide) ?_
      refine R_aload_0 dX11_template_36 ?_
      refine gfX11_12 rfl dX11_template_37 sh_0 m0 ?_
      refine gfX11_93 rfl dX11_template_40 sh_1 l9.2.1 ?_
      refine R_isub dX11_template_43 ?_
      refine R_istore_3 rfl (by decide) dX11_template_44 ?_
      refine R_aload_0 dX11_template_45 ?_
      refine gfX11_12 rfl dX11_template_46 sh_0 m0 ?_
      refine R_callVN_e (T := mX11_template) (T' := mX6_clear) (As := []) (ci := 6) okX6_clear mlX11_96 rfl (by decide) sh_1 (ct_clear l9) rfl (by decide) (by decide) (Nat.le_of_ble_eq_true rfl) dX11_template_49 ?_
      refine R_iload_3 dX11_template_52 ?_
      refine R_iret rfl dX11_template_53 ⟨a, ha, rfl, rfl, z1, z2, Or.inr ⟨y1, rfl, hP.fr2 z3⟩⟩

