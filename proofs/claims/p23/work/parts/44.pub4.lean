/-! ===== MergePost: address ===== -/
theorem BE.fr2 {V V' : aV} {en : Nat → Nat} {sp : Nat} {ent : Nat → Ent} {cnt : Nat} (h : BE V en sp ent cnt) (e : ∀ b, 3 < b → V' b = V b) : BE V' en sp ent cnt := by
  obtain ⟨h1, h2, ⟨h3, h4, n1, n2, n3, n4, h5⟩, h6, h7⟩ := h
  have so := h4.out
  have e74 := e 74 (by decide)
  refine ⟨fun k hk => ?_, h2, ⟨(congrFun e74 1).trans h3, h4, n1, n2, n3, n4, h5.fr (fun k _ => congrFun (e sp (by omega)) k) (fun b q1 q2 => e b (by omega))⟩, (congrFun e74 5).trans h6, h7⟩
  obtain ⟨q1, q2, q3, q4⟩ := h1 k hk
  have sk := q2.out
  exact ⟨(congrFun (e 75 (by decide)) k).trans q1, q2, q3.fr (fun b w1 w2 => e b (by omega)), q4⟩
def BF2 (V V' : aV) : Prop := (∀ b, b ≠ 1 → b ≠ 2 → (b < 74 ∨ 195 < b ∨ b = 85 ∨ b = 86 ∨ b = 87) → V' b = V b) ∧ ∀ k, k ≠ 1 → k ≠ 5 → V' 74 k = V 74 k
def QXa (V : aV) (cnt : Nat) (mt : Nat → Nat) (t : Int32) : String → aS → aV → Prop := fun E S' V' => Sh = S' ∧ V = V' ∧ ((E = xI ∧ ¬ (¬ t < 0 ∧ t ≤ nI cnt)) ∨ (E = xS ∧ (¬ t < 0 ∧ t ≤ nI cnt) ∧ ((12 : Int32) ≤ t ∨ ∃ k, k < 12 ∧ t = nI k ∧ mt k ≠ 0)))
def APost (V : aV) (L : List Int32) (en : Nat → Nat) (sp : Nat) (ent : Nat → Ent) (cnt a : Nat) (r : ARr) : Option Value → aS → aV → Prop := fun v S' V' => Sh = S' ∧ LI V' [] ∧ BF2 V V' ∧ match r.2 with
  | none => some (.int (-1 - nI r.1)) = v ∧ BE V' en sp ent cnt
  | some x => some (.int (nI a)) = v ∧ BE V' (upN en a sp) (en a) (upN ent a x) (max cnt (a + 1))
theorem clr3 {V V1 : aV} {L : List Int32} {p : Nat} (h : LN V1 L p) (hF : BFr V V1) : LI (a_up V1 2 1 (.int 0)) [] ∧ BF2 V (a_up V1 2 1 (.int 0)) ∧ ∀ b, 3 < b → a_up V1 2 1 (.int 0) b = V1 b := ⟨⟨(a_up_ne (Or.inl (by decide))).trans h.1, h.2.2.1.clear⟩, ⟨fun b q1 q2 q3 => (a_up_row q2).trans (hF.1 b q1 q3), fun k q1 q2 => (a_up_ne (Or.inl (by decide))).trans (hF.2 k q1 q2)⟩, fun b hb => a_up_row (by omega)⟩
set_option maxHeartbeats 4000000 in
theorem ct_address {V : aV} {L : List Int32} {cnt : Nat} {en : Nat → Nat} {sp : Nat} {ent : Nat → Ent} {mt : Nat → Nat} (hM : MB V) (hl : LI V L) (hB : BF V) (hE : BE V en sp ent cnt) (hK : MK V 85 mt) (t : Int32) : CT mX11_address 6 1 6 [.ref 0, .int t] Sh V (fun v S' V' => ∃ a, a < 12 ∧ a ≤ cnt ∧ t = nI a ∧ mt a = 0 ∧ APost V L en sp ent cnt a (aRd L) v S' V') (QXa V cnt mt t) := by
  refine CT_of (by decide +kernel) (Nat.le_of_ble_eq_true rfl) ?_
  show R _ _ _ _ _ _ _ _ 0 [some (.ref 0), some (.int t), none, none] [] _ _
  obtain ⟨m0, m1, m2, m3, m4, m5⟩ := id hM
  have hc := hE.2.2.2.1
  have hc12 := hE.2.2.2.2
  refine R_iload_1 dX11_address_0 ?_
  refine R_if_lt 15 dX11_address_1 (by decide) (fun c1 => ?_) (fun c1 => ?_)
  · first
      | exact R_throw (T := mX11_address) rfl a_fit2 th_i4 clX11_102 th_i5 srX11_104 th_i1 th_i2 th_i3 dX11_address_15 dX11_address_18 dX11_address_19 dX11_address_21 dX11_address_24 (by decide) (Nat.le_of_ble_eq_true rfl) rfl ⟨rfl, rfl, Or.inl ⟨rfl, fun z => z.1 c1⟩⟩
      | exact R_throw (T := mX11_address) rfl a_fit2 th_i4 clX11_102 th_i5 srX11_104 th_i1 th_i2 th_i3 dX11_address_15 dX11_address_18 dX11_address_19 dX11_address_21 dX11_address_24 (by decide) (Nat.le_of_ble_eq_true rfl) rfl ⟨rfl, rfl, Or.inl ⟨rfl, fun z => c12 z.2⟩⟩
  · refine R_iload_1 dX11_address_4 ?_
    refine R_aload_0 dX11_address_5 ?_
    refine gfX11_26 rfl dX11_address_6 sh_0 m2 ?_
    refine gfX11_99 rfl dX11_address_9 sh_74 hc ?_
    refine R_icmp_le 25 dX11_address_12 (by decide) (fun c12 => ?_) (fun c12 => ?_)
    · refine R_iload_1 dX11_address_25 ?_
      refine R_bipush (v := 12) dX11_address_26 (by decide) ?_
      refine R_icmp_ge 42 dX11_address_28 (by decide) (fun c28 => ?_) (fun c28 => ?_)
      · first
          | exact R_throw (T := mX11_address) rfl a_fit2 th_s4 clX11_72 th_s5 srX11_111 th_s1 th_s2 th_s3 dX11_address_42 dX11_address_45 dX11_address_46 dX11_address_48 dX11_address_51 (by decide) (Nat.le_of_ble_eq_true rfl) rfl ⟨rfl, rfl, Or.inr ⟨rfl, ⟨c1, c12⟩, Or.inl c28⟩⟩
          | exact R_throw (T := mX11_address) rfl a_fit2 th_s4 clX11_72 th_s5 srX11_111 th_s1 th_s2 th_s3 dX11_address_42 dX11_address_45 dX11_address_46 dX11_address_48 dX11_address_51 (by decide) (Nat.le_of_ble_eq_true rfl) rfl ⟨rfl, rfl, Or.inr ⟨rfl, ⟨c1, c12⟩, Or.inr ⟨a, ha, rfl, bI_ne c39⟩⟩⟩
      · obtain ⟨a, ha, rfl⟩ := i8_nI (n := 12) (by decide) c1 c28
        refine R_aload_0 dX11_address_31 ?_
        refine gfX11_26 rfl dX11_address_32 sh_0 m2 ?_
        refine R_iload_1 dX11_address_35 ?_
        refine R_callVN_e (T := mX11_address) (T' := mX1_hasMatch) (As := [_]) (ci := 1) okX1_hasMatch mlX11_107 rfl (by decide) sh_74 (ct_hasMatch hB hK ha) rfl (by decide) (by decide) (Nat.le_of_ble_eq_true rfl) dX11_address_36 ?_
        refine R_if_eq 52 dX11_address_39 (by decide) (fun c39 => ?_) (fun c39 => ?_)
        · have hm0 : mt a = 0 := Decidable.not_not.1 (bI_eq c39)
          have hac : a ≤ cnt := (nI_leI (by omega) (by omega)).1 c12
          refine R_aload_0 dX11_address_52 ?_
          refine gfX11_26 rfl dX11_address_53 sh_0 m2 ?_
          refine R_aload_0 dX11_address_56 ?_
          refine gfX11_12 rfl dX11_address_57 sh_0 m0 ?_
          refine R_iload_1 dX11_address_60 ?_
          refine R_callVN (T := mX11_address) (T' := mX1_readAddress) (As := [_, _]) (ci := 1) okX1_readAddress mlX11_113 rfl (by decide) sh_74 (ct_readAddress hl hB hE ha) rfl (by decide) (by decide) (Nat.le_of_ble_eq_true rfl) dX11_address_61 (fun v9 S9 V1 h9 => ?_) (fun E S9 V9 h9 => h9.elim)
          obtain ⟨rfl, l9, hF, h9⟩ := h9
          have n0 := (congrFun (hF.1 0 (by decide) (by decide)) 0).trans m0
          generalize eR : aRd L = r9 at l9 h9
          obtain ⟨p9, o9⟩ := r9
          obtain ⟨z1, z2, z3⟩ := clr3 l9 hF
          rcases o9 with _ | x9
          · obtain ⟨rfl, hP⟩ : some (Value.int 0) = v9 ∧ _ := h9
            refine R_istore_2 rfl (by decide) dX11_address_64 ?_
            refine R_iload_2 dX11_address_65 ?_
            refine R_if_eq 73 dX11_address_66 (by decide) (fun c66 => ?_) (fun c66 => absurd rfl c66)
            refine R_iconst (v := -1) dX11_address_73 (by decide) ?_
            refine R_aload_0 dX11_address_74 ?_
            refine gfX11_12 rfl dX11_address_75 sh_0 n0 ?_
            refine gfX11_93 rfl dX11_address_78 sh_1 l9.2.1 ?_
            refine R_isub dX11_address_81 ?_
            refine R_istore_3 rfl (by decide) dX11_address_82 ?_
            refine R_aload_0 dX11_address_83 ?_
            refine gfX11_12 rfl dX11_address_84 sh_0 n0 ?_
            refine R_callVN_e (T := mX11_address) (T' := mX6_clear) (As := []) (ci := 6) okX6_clear mlX11_96 rfl (by decide) sh_1 (ct_clear l9) rfl (by decide) (by decide) (Nat.le_of_ble_eq_true rfl) dX11_address_87 ?_
            refine R_iload_3 dX11_address_90 ?_
            refine R_iret rfl dX11_address_91 ⟨a, ha, hac, rfl, hm0, rfl, z1, z2, rfl, hP.fr2 z3⟩
          · obtain ⟨rfl, hP⟩ : some (Value.int 1) = v9 ∧ _ := h9
            refine R_istore_2 rfl (by decide) dX11_address_64 ?_
            refine R_iload_2 dX11_address_65 ?_
            refine R_if_eq 73 dX11_address_66 (by decide) (fun c66 => absurd c66 (by decide)) (fun c66 => ?_)
            refine R_iload_1 dX11_address_69 ?_
            refine R_goto 82 dX11_address_70 (by decide) ?_
            refine R_istore_3 rfl (by decide) dX11_address_82 ?_
            refine R_aload_0 dX11_address_83 ?_
            refine gfX11_12 rfl dX11_address_84 sh_0 n0 ?_
            refine R_callVN_e (T := mX11_address) (T' := mX6_clear) (As := []) (ci := 6) okX6_clear mlX11_96 rfl (by decide) sh_1 (ct_clear l9) rfl (by decide) (by decide) (Nat.le_of_ble_eq_true rfl) dX11_address_87 ?_
            refine R_iload_3 dX11_address_90 ?_
            refine R_iret rfl dX11_address_91 ⟨a, ha, hac, rfl, hm0, rfl, z1, z2, rfl, hP.fr2 z3⟩
        · first
            | exact R_throw (T := mX11_address) rfl a_fit2 th_s4 clX11_72 th_s5 srX11_111 th_s1 th_s2 th_s3 dX11_address_42 dX11_address_45 dX11_address_46 dX11_address_48 dX11_address_51 (by decide) (Nat.le_of_ble_eq_true rfl) rfl ⟨rfl, rfl, Or.inr ⟨rfl, ⟨c1, c12⟩, Or.inl c28⟩⟩
            | exact R_throw (T := mX11_address) rfl a_fit2 th_s4 clX11_72 th_s5 srX11_111 th_s1 th_s2 th_s3 dX11_address_42 dX11_address_45 dX11_address_46 dX11_address_48 dX11_address_51 (by decide) (Nat.le_of_ble_eq_true rfl) rfl ⟨rfl, rfl, Or.inr ⟨rfl, ⟨c1, c12⟩, Or.inr ⟨a, ha, rfl, bI_ne c39⟩⟩⟩
    · first
        | exact R_throw (T := mX11_address) rfl a_fit2 th_i4 clX11_102 th_i5 srX11_104 th_i1 th_i2 th_i3 dX11_address_15 dX11_address_18 dX11_address_19 dX11_address_21 dX11_address_24 (by decide) (Nat.le_of_ble_eq_true rfl) rfl ⟨rfl, rfl, Or.inl ⟨rfl, fun z => z.1 c1⟩⟩
        | exact R_throw (T := mX11_address) rfl a_fit2 th_i4 clX11_102 th_i5 srX11_104 th_i1 th_i2 th_i3 dX11_address_15 dX11_address_18 dX11_address_19 dX11_address_21 dX11_address_24 (by decide) (Nat.le_of_ble_eq_true rfl) rfl ⟨rfl, rfl, Or.inl ⟨rfl, fun z => c12 z.2⟩⟩

