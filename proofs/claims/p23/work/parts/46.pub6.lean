/-! ===== MergePost: match ===== -/
abbrev cbm (x y : Ent) : Prop := ¬ Op.cmpValue (FP.fcmp (lkV x y) 1056964608) .l < 0
theorem BE.f197 {V V' : aV} {en : Nat → Nat} {sp : Nat} {ent : Nat → Ent} {cnt : Nat} (h : BE V en sp ent cnt) (e : Fr0 V V' 197) : BE V' en sp ent cnt := by
  obtain ⟨h1, h2, ⟨h3, h4, n1, n2, n3, n4, h5⟩, h6, h7⟩ := h
  have so := h4.out
  have e74 := e 74 (by decide)
  refine ⟨fun k hk => ?_, h2, ⟨(congrFun e74 1).trans h3, h4, n1, n2, n3, n4, h5.fr (fun k _ => congrFun (e sp (by omega)) k) (fun b q1 q2 => e b (by omega))⟩, (congrFun e74 5).trans h6, h7⟩
  obtain ⟨q1, q2, q3, q4⟩ := h1 k hk
  have sk := q2.out
  exact ⟨(congrFun (e 75 (by decide)) k).trans q1, q2, q3.fr (fun b w1 w2 => e b (by omega)), q4⟩
/-- the match may be turned -/
def mOK (mt : Nat → Nat) (ent : Nat → Ent) (k j : Nat) : Prop := k ≠ j ∧ ((mt k).testBit j = true ∨ cbm (ent k) (ent j))
def QXm (V : aV) (cnt : Nat) (mt : Nat → Nat) (ent : Nat → Ent) (t u : Int32) : String → aS → aV → Prop := fun E S' V' => Sh = S' ∧ Fr0 V V' 197 ∧ ((E = xI ∧ ¬ (okN t cnt 12 ∧ okN u cnt 12)) ∨ (E = xS ∧ ∃ k j, k < cnt ∧ k < 12 ∧ t = nI k ∧ j < cnt ∧ j < 12 ∧ u = nI j ∧ ¬ mOK mt ent k j))
set_option maxHeartbeats 4000000 in
theorem ct_match {V : aV} {cnt : Nat} {en : Nat → Nat} {sp : Nat} {ent : Nat → Ent} {mt : Nat → Nat} (hM : MB V) (hB : BF V) (hE : BE V en sp ent cnt) (hK : MK V 85 mt) (h0 : V 196 0 = .ref 197) (t u : Int32) : CT mX11_match 7 3 18 [.ref 0, .int t, .int u] Sh V (fun v S' V' => ∃ k j, k < cnt ∧ k < 12 ∧ t = nI k ∧ j < cnt ∧ j < 12 ∧ u = nI j ∧ mOK mt ent k j ∧ some (.int (bI (¬ (mt k).testBit j = true))) = v ∧ Sh = S' ∧ MK V' 85 (tM mt k j) ∧ ∀ b, b ≠ 85 → b ≠ 197 → V' b = V b) (QXm V cnt mt ent t u) := by
  refine CT_of (by decide +kernel) (Nat.le_of_ble_eq_true rfl) ?_
  show R _ _ _ _ _ _ _ _ 0 [some (.ref 0), some (.int t), some (.int u), none] [] _ _
  obtain ⟨m0, m1, m2, m3, m4, m5⟩ := id hM
  obtain ⟨f0, f2, f3, f4⟩ := id hB
  have hc := hE.2.2.2.1
  refine R_aload_0 dX11_match_0 ?_
  refine R_iload_1 dX11_match_1 ?_
  refine R_callV (T := mX11_match) (T' := mX11_checkAddress) (As := [_]) (ci := 11) okX11_checkAddress mlX11_116 rfl (by decide) sh_0 (ct_checkAddress hM hc t) rfl (by decide) (by decide) (Nat.le_of_ble_eq_true rfl) dX11_match_2 (fun v9 S9 V9 h9 => ?_) (fun E S9 V9 h9 => (by obtain ⟨z1, z2, z3, z4⟩ := h9; subst z4; exact ⟨z3, fun _ _ => rfl, Or.inl ⟨z1, fun z => z2 z.1⟩⟩))
  obtain ⟨rfl, o, rfl, rfl⟩ := h9
  obtain ⟨k, x, y, e⟩ := okN_nI o (by decide)
  refine R_aload_0 dX11_match_5 ?_
  refine R_iload_2 dX11_match_6 ?_
  refine R_callV (T := mX11_match) (T' := mX11_checkAddress) (As := [_]) (ci := 11) okX11_checkAddress mlX11_116 rfl (by decide) sh_0 (ct_checkAddress hM hc u) rfl (by decide) (by decide) (Nat.le_of_ble_eq_true rfl) dX11_match_7 (fun v9 S9 V9 h9 => ?_) (fun E S9 V9 h9 => (by obtain ⟨z1, z2, z3, z4⟩ := h9; subst z4; exact ⟨z3, fun _ _ => rfl, Or.inl ⟨z1, fun z => z2 z.2⟩⟩))
  obtain ⟨rfl, o2, rfl, rfl⟩ := h9
  obtain ⟨k2, x2, y2, e2⟩ := okN_nI o2 (by decide)
  subst e
  subst e2
  refine R_aload_0 dX11_match_10 ?_
  refine gfX11_26 rfl dX11_match_11 sh_0 m2 ?_
  refine R_iload_1 dX11_match_14 ?_
  refine R_iload_2 dX11_match_15 ?_
  refine R_callVN_e (T := mX11_match) (T' := mX1_areMatched) (As := [_, _]) (ci := 1) okX1_areMatched mlX11_150 rfl (by decide) sh_74 (ct_areMatched hB hK y y2) rfl (by decide) (by decide) (Nat.le_of_ble_eq_true rfl) dX11_match_16 ?_
  refine R_istore_3 rfl (by decide) dX11_match_19 ?_
  refine R_iload_1 dX11_match_20 ?_
  refine R_iload_2 dX11_match_21 ?_
  refine R_icmp_eq 38 dX11_match_22 (by decide) (fun c22 => ?_) (fun c22 => ?_)
  · first
      | exact R_throw (T := mX11_match) rfl a_fit2 th_s4 clX11_72 th_s5 srX11_157 th_s1 th_s2 th_s3 dX11_match_38 dX11_match_41 dX11_match_42 dX11_match_44 dX11_match_47 (by decide) (Nat.le_of_ble_eq_true rfl) rfl ⟨rfl, fun _ _ => rfl, Or.inr ⟨rfl, k, k2, x, y, rfl, x2, y2, rfl, fun z => z.1 ((nI_eq (by omega) (by omega)).1 c22)⟩⟩
      | exact R_throw (T := mX11_match) rfl a_fit2 th_s4 clX11_72 th_s5 srX11_157 th_s1 th_s2 th_s3 dX11_match_38 dX11_match_41 dX11_match_42 dX11_match_44 dX11_match_47 (by decide) (Nat.le_of_ble_eq_true rfl) rfl ⟨rfl, u4, Or.inr ⟨rfl, k, k2, x, y, rfl, x2, y2, rfl, fun z => z.2.elim (bI_eq c26) (bI_eq c35)⟩⟩
  · refine R_iload_3 dX11_match_25 ?_
    refine R_if_ne 48 dX11_match_26 (by decide) (fun c26 => ?_) (fun c26 => ?_)
    · have hkj : k ≠ k2 := fun z => c22 (by rw [z])
      refine R_aload_0 dX11_match_48 ?_
      refine gfX11_26 rfl dX11_match_49 sh_0 m2 ?_
      refine R_iload_1 dX11_match_52 ?_
      refine R_iload_2 dX11_match_53 ?_
      refine R_callVN (T := mX11_match) (T' := mX1_turnMatch) (As := [_, _]) (ci := 1) okX1_turnMatch mlX11_159 rfl (by decide) sh_74 (ct_turnMatch hB hK y y2 hkj) rfl (by decide) (by decide) (Nat.le_of_ble_eq_true rfl) dX11_match_54 (fun v9 S9 V2 h9 => ?_) (fun E S9 V9 h9 => h9.elim)
      obtain ⟨rfl, rfl, u5, u6⟩ := h9
      refine R_iload_3 dX11_match_57 ?_
      refine R_if_ne 65 dX11_match_58 (by decide) (fun c58 => ?_) (fun c58 => ?_)
      · refine R_iconst (v := 0) dX11_match_65 (by decide) ?_
        refine R_zret rfl (by rfl) dX11_match_66 ⟨k, k2, x, y, rfl, x2, y2, rfl, ⟨hkj, Or.inl (bI_ne c26)⟩, (by first | rw [bI_t (bI_eq c58)] | rw [bI_f (not_not_intro (bI_ne c58))]), rfl, u5, fun b q1 _ => u6 b q1⟩
      · refine R_iconst (v := 1) dX11_match_61 (by decide) ?_
        refine R_goto 66 dX11_match_62 (by decide) ?_
        refine R_zret rfl (by rfl) dX11_match_66 ⟨k, k2, x, y, rfl, x2, y2, rfl, ⟨hkj, Or.inl (bI_ne c26)⟩, (by first | rw [bI_t (bI_eq c58)] | rw [bI_f (not_not_intro (bI_ne c58))]), rfl, u5, fun b q1 _ => u6 b q1⟩
    · refine R_aload_0 dX11_match_29 ?_
      refine R_iload_1 dX11_match_30 ?_
      refine R_iload_2 dX11_match_31 ?_
      refine R_callV (T := mX11_match) (T' := mX11_canBeMatched) (As := [_, _]) (ci := 11) okX11_canBeMatched mlX11_154 rfl (by decide) sh_0 (ct_canBeMatched hM hB hE h0 y y2) rfl (by decide) (by decide) (Nat.le_of_ble_eq_true rfl) dX11_match_32 (fun v9 S9 V1 h9 => ?_) (fun E S9 V9 h9 => h9.elim)
      obtain ⟨rfl, rfl, u4⟩ := h9
      have m2 := (congrFun (u4 0 (by decide)) 2).trans m2
      have hB1 := hB.fr (u4 74 (by decide))
      have hK1 := hK.fr (u4 85 (by decide))
      refine R_if_ne 48 dX11_match_35 (by decide) (fun c35 => ?_) (fun c35 => ?_)
      · have hkj : k ≠ k2 := fun z => c22 (by rw [z])
        refine R_aload_0 dX11_match_48 ?_
        refine gfX11_26 rfl dX11_match_49 sh_0 m2 ?_
        refine R_iload_1 dX11_match_52 ?_
        refine R_iload_2 dX11_match_53 ?_
        refine R_callVN (T := mX11_match) (T' := mX1_turnMatch) (As := [_, _]) (ci := 1) okX1_turnMatch mlX11_159 rfl (by decide) sh_74 (ct_turnMatch hB1 hK1 y y2 hkj) rfl (by decide) (by decide) (Nat.le_of_ble_eq_true rfl) dX11_match_54 (fun v9 S9 V2 h9 => ?_) (fun E S9 V9 h9 => h9.elim)
        obtain ⟨rfl, rfl, u5, u6⟩ := h9
        refine R_iload_3 dX11_match_57 ?_
        refine R_if_ne 65 dX11_match_58 (by decide) (fun c58 => ?_) (fun c58 => ?_)
        · refine R_iconst (v := 0) dX11_match_65 (by decide) ?_
          refine R_zret rfl (by rfl) dX11_match_66 ⟨k, k2, x, y, rfl, x2, y2, rfl, ⟨hkj, Or.inr (bI_ne c35)⟩, (by first | rw [bI_t (bI_eq c58)] | rw [bI_f (not_not_intro (bI_ne c58))]), rfl, u5, fun b q1 q2 => (u6 b q1).trans (u4 b q2)⟩
        · refine R_iconst (v := 1) dX11_match_61 (by decide) ?_
          refine R_goto 66 dX11_match_62 (by decide) ?_
          refine R_zret rfl (by rfl) dX11_match_66 ⟨k, k2, x, y, rfl, x2, y2, rfl, ⟨hkj, Or.inr (bI_ne c35)⟩, (by first | rw [bI_t (bI_eq c58)] | rw [bI_f (not_not_intro (bI_ne c58))]), rfl, u5, fun b q1 q2 => (u6 b q1).trans (u4 b q2)⟩
      · first
          | exact R_throw (T := mX11_match) rfl a_fit2 th_s4 clX11_72 th_s5 srX11_157 th_s1 th_s2 th_s3 dX11_match_38 dX11_match_41 dX11_match_42 dX11_match_44 dX11_match_47 (by decide) (Nat.le_of_ble_eq_true rfl) rfl ⟨rfl, fun _ _ => rfl, Or.inr ⟨rfl, k, k2, x, y, rfl, x2, y2, rfl, fun z => z.1 ((nI_eq (by omega) (by omega)).1 c22)⟩⟩
          | exact R_throw (T := mX11_match) rfl a_fit2 th_s4 clX11_72 th_s5 srX11_157 th_s1 th_s2 th_s3 dX11_match_38 dX11_match_41 dX11_match_42 dX11_match_44 dX11_match_47 (by decide) (Nat.le_of_ble_eq_true rfl) rfl ⟨rfl, u4, Or.inr ⟨rfl, k, k2, x, y, rfl, x2, y2, rfl, fun z => z.2.elim (bI_eq c26) (bI_eq c35)⟩⟩

