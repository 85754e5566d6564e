/-! ===== MergePostModel: matches, pairs ===== -/
/-- mOK, open to be decided -/
abbrev mK (mt : Nat → Nat) (ent : Nat → Ent) (k j : Nat) : Prop := k ≠ j ∧ ((mt k).testBit j = true ∨ cbm (ent k) (ent j))
noncomputable def xcM (cnt : Nat) (mt : Nat → Nat) (ent : Nat → EntN) (t u : Int32) : Nat := if (¬ t < 0 ∧ t < nI cnt) ∧ ¬ u < 0 ∧ u < nI cnt then (if mK mt (fun k => encE (ent k)) t.toNatClampNeg u.toNatClampNeg then 0 else 2) else 1
/-- as before but for scratch and one row -/
def FrE (e : Nat) (V V' : aV) : Prop := (∀ b, b ≠ 504 → b ≠ e → (b < 529 ∨ 538 < b) → V' b = V b) ∧ ∀ k, k ≠ 0 → (k < 32 ∨ 35 < k) → k ≠ 43 → V' 504 k = V 504 k
theorem FrS.e {V V' : aV} (h : FrS V V') (e : Nat) : FrE e V V' := ⟨fun b q1 _ q3 => h.1 b q1 q3, h.2⟩
theorem FrE.trans {e : Nat} {V V1 V2 : aV} (h : FrE e V V1) (g : FrE e V1 V2) : FrE e V V2 := ⟨fun b q1 q2 q3 => (g.1 b q1 q2 q3).trans (h.1 b q1 q2 q3), fun k q1 q2 q3 => (g.2 k q1 q2 q3).trans (h.2 k q1 q2 q3)⟩
theorem FrE.u {e k : Nat} {v : Value} {V : aV} (h : e ≠ 504) : FrE e V (a_up V e k v) := ⟨fun b _ q2 _ => a_up_row q2, fun k _ _ _ => a_up_ne (Or.inl h.symm)⟩
theorem tM_bit {mt : Nat → Nat} {i j a b : Nat} : (tM mt i j a).testBit b = if a = j then (mt j).testBit b != decide (i = b) else if a = i then (mt i).testBit b != decide (j = b) else (mt a).testBit b := by
  unfold tM
  split
  · rw [Nat.testBit_xor, Nat.testBit_two_pow]
  · split
    · rw [Nat.testBit_xor, Nat.testBit_two_pow]
    · rfl
theorem MM.turn {V : aV} {mt : Nat → Nat} {i j : Nat} {x : Int32} (hM : MM V mt) (hs : (mt j).testBit i = (mt i).testBit j) (hi : i < 12) (hj : j < 12) (hij : i ≠ j) (hx : x = bI (¬ (mt i).testBit j = true)) : MM (a_up (a_up V 519 (12 * i + j) (.int x)) 519 (12 * j + i) (.int x)) (tM mt i j) := by
  intro a b ha hb
  have hT := tM_bit (mt := mt) (i := i) (j := j) (a := a) (b := b)
  by_cases q1 : a = j ∧ b = i
  · obtain ⟨rfl, rfl⟩ := q1
    rw [a_up_self, hx, hT, if_pos rfl, hs, decide_eq_true rfl]
    cases (mt b).testBit a <;> rfl
  · rw [a_up_ne (Or.inr (by omega))]
    by_cases q2 : a = i ∧ b = j
    · obtain ⟨rfl, rfl⟩ := q2
      rw [a_up_self, hx, hT, if_neg hij, if_pos rfl, decide_eq_true rfl]
      cases (mt a).testBit b <;> rfl
    · rw [a_up_ne (Or.inr (by omega)), hM a b ha hb, hT]
      by_cases e1 : a = j
      · subst e1
        rw [if_pos rfl, decide_eq_false (fun z => q1 ⟨rfl, z.symm⟩)]
        cases (mt a).testBit b <;> rfl
      · by_cases e2 : a = i
        · subst e2
          rw [if_neg e1, if_pos rfl, decide_eq_false (fun z => q2 ⟨rfl, z.symm⟩)]
          cases (mt a).testBit b <;> rfl
        · rw [if_neg e1, if_neg e2]
theorem MTO.sym {mt : Nat → Nat} {cnt i j : Nat} (h : MTO mt cnt) (hi : i < 12) (hj : j < 12) : (mt j).testBit i = (mt i).testBit j := by
  rcases q : (mt i).testBit j with _ | _
  · rcases q2 : (mt j).testBit i with _ | _
    · rfl
    · rw [(h.2 j i hj hi q2).2.2.2] at q; cases q
  · exact (h.2 i j hi hj q).2.2.2
noncomputable def MMtP (V : aV) (cnt : Nat) (mt : Nat → Nat) (ent : Nat → EntN) (t u : Int32) : Option Value → aS → aV → Prop := fun v S' V' => Sh = S' ∧ V' 504 0 = .int (nI (xcM cnt mt ent t u)) ∧ (∃ y, v = some (.int y) ∧ (xcM cnt mt ent t u = 0 → y = bI (¬ (mt t.toNatClampNeg).testBit u.toNatClampNeg = true))) ∧ MM V' (if xcM cnt mt ent t u = 0 then tM mt t.toNatClampNeg u.toNatClampNeg else mt) ∧ FrE 519 V V'
set_option maxHeartbeats 4000000 in
theorem ct_mcanMatch {V : aV} {ent : Nat → EntN} {cnt : Nat} (hR : MR V) (hE : ME V ent cnt) (hEO : ∀ k, k < 12 → EO (ent k)) {mt : Nat → Nat} (hM : MM V mt) {i j : Nat} (hi : i < 12) (hj : j < 12) : CT mX12_canMatch 4 0 0 [.ref 504, .int (nI i), .int (nI j)] Sh V (fun v S' V' => some (.int (bI (mK mt (fun k => encE (ent k)) i j))) = v ∧ Sh = S' ∧ Fr0 V V' 537) aNo := by
  refine CT_of (by decide +kernel) (Nat.le_of_ble_eq_true rfl) ?_
  show R _ _ _ _ _ _ _ _ 0 [some (.ref 504), some (.int (nI i)), some (.int (nI j))] [] _ _
  refine R_iload_1 dX12_canMatch_0 ?_
  refine R_iload_2 dX12_canMatch_1 ?_
  refine R_icmp_eq 35 dX12_canMatch_2 (by decide) (fun c2 => ?_) (fun c2 => ?_)
  · refine R_iconst (v := 0) dX12_canMatch_35 (by decide) ?_
    refine R_zret rfl rfl dX12_canMatch_36 (by first | exact ⟨congrArg (fun z => some (Value.int z)) (bI_f (fun z => z.1 ((nI_eq (by omega) (by omega)).1 c2))), rfl, (fun _ _ => rfl)⟩ | exact ⟨congrArg (fun z => some (Value.int z)) (bI_t ⟨fun z => c2 (by rw [z]), Or.inl (bI_ne c16)⟩), rfl, (fun _ _ => rfl)⟩ | exact ⟨congrArg (fun z => some (Value.int z)) (bI_f (fun z => z.2.elim (bI_eq c16) (not_not_intro c28))), rfl, u4⟩ | exact ⟨congrArg (fun z => some (Value.int z)) (bI_t ⟨fun z => c2 (by rw [z]), Or.inr c28⟩), rfl, u4⟩)
  · refine R_aload_0 dX12_canMatch_5 ?_
    refine gfX12_52 rfl dX12_canMatch_6 sh_504 (by first | exact hR.g (k := 17) (a := 519) (by decide) | exact (a_up_ne (by omega)).trans (hR.g (k := 17) (a := 519) (by decide)) | exact (a_up_ne (by omega)).trans ((a_up_ne (by omega)).trans (hR.g (k := 17) (a := 519) (by decide))) | exact (a_up_ne (by omega)).trans ((a_up_ne (by omega)).trans ((a_up_ne (by omega)).trans (hR.g (k := 17) (a := 519) (by decide)))) | exact (a_up_ne (by omega)).trans ((a_up_ne (by omega)).trans ((a_up_ne (by omega)).trans ((a_up_ne (by omega)).trans (hR.g (k := 17) (a := 519) (by decide))))) | exact (a_up_ne (by omega)).trans ((a_up_ne (by omega)).trans ((a_up_ne (by omega)).trans ((a_up_ne (by omega)).trans ((a_up_ne (by omega)).trans (hR.g (k := 17) (a := 519) (by decide)))))) | exact (a_up_ne (by omega)).trans ((a_up_ne (by omega)).trans ((a_up_ne (by omega)).trans ((a_up_ne (by omega)).trans ((a_up_ne (by omega)).trans ((a_up_ne (by omega)).trans (hR.g (k := 17) (a := 519) (by decide)))))))) ?_
    refine R_bipush (v := 12) dX12_canMatch_9 (by decide) ?_
    refine R_iload_1 dX12_canMatch_11 ?_
    refine R_imul dX12_canMatch_12 ?_
    refine R_iload_2 dX12_canMatch_13 ?_
    refine R_iadd dX12_canMatch_14 ?_
    refine R_zaldE dX12_canMatch_15 sh_519 (ix1 12 i j) (by omega) (by decide) (hM i j hi hj) ?_
    refine R_if_ne 31 dX12_canMatch_16 (by decide) (fun c16 => ?_) (fun c16 => ?_)
    · refine R_iconst (v := 1) dX12_canMatch_31 (by decide) ?_
      refine R_goto 36 dX12_canMatch_32 (by decide) ?_
      refine R_zret rfl rfl dX12_canMatch_36 (by first | exact ⟨congrArg (fun z => some (Value.int z)) (bI_f (fun z => z.1 ((nI_eq (by omega) (by omega)).1 c2))), rfl, (fun _ _ => rfl)⟩ | exact ⟨congrArg (fun z => some (Value.int z)) (bI_t ⟨fun z => c2 (by rw [z]), Or.inl (bI_ne c16)⟩), rfl, (fun _ _ => rfl)⟩ | exact ⟨congrArg (fun z => some (Value.int z)) (bI_f (fun z => z.2.elim (bI_eq c16) (not_not_intro c28))), rfl, u4⟩ | exact ⟨congrArg (fun z => some (Value.int z)) (bI_t ⟨fun z => c2 (by rw [z]), Or.inr c28⟩), rfl, u4⟩)
    · refine R_aload_0 dX12_canMatch_19 ?_
      refine R_iload_1 dX12_canMatch_20 ?_
      refine R_iload_2 dX12_canMatch_21 ?_
      refine R_callV (T := mX12_canMatch) (T' := mX12_likenessOf) (As := [_, _]) (ci := 12) okX12_likenessOf mlX12_194 rfl (by decide) sh_504 (ct_mlikenessOf hR hE hEO hi hj) rfl (by decide) (by decide) (Nat.le_of_ble_eq_true rfl) dX12_canMatch_22 (fun v9 S9 V1 h9 => ?_) (fun E S9 V9 h9 => h9.elim)
      obtain ⟨rfl, rfl, u4⟩ := h9
      refine R_ldcf dX12_canMatch_25 cwX12_205 ?_
      refine R_fcmp dX12_canMatch_27 ?_
      refine R_if_lt 35 dX12_canMatch_28 (by decide) (fun c28 => ?_) (fun c28 => ?_)
      · refine R_iconst (v := 0) dX12_canMatch_35 (by decide) ?_
        refine R_zret rfl rfl dX12_canMatch_36 (by first | exact ⟨congrArg (fun z => some (Value.int z)) (bI_f (fun z => z.1 ((nI_eq (by omega) (by omega)).1 c2))), rfl, (fun _ _ => rfl)⟩ | exact ⟨congrArg (fun z => some (Value.int z)) (bI_t ⟨fun z => c2 (by rw [z]), Or.inl (bI_ne c16)⟩), rfl, (fun _ _ => rfl)⟩ | exact ⟨congrArg (fun z => some (Value.int z)) (bI_f (fun z => z.2.elim (bI_eq c16) (not_not_intro c28))), rfl, u4⟩ | exact ⟨congrArg (fun z => some (Value.int z)) (bI_t ⟨fun z => c2 (by rw [z]), Or.inr c28⟩), rfl, u4⟩)
      · refine R_iconst (v := 1) dX12_canMatch_31 (by decide) ?_
        refine R_goto 36 dX12_canMatch_32 (by decide) ?_
        refine R_zret rfl rfl dX12_canMatch_36 (by first | exact ⟨congrArg (fun z => some (Value.int z)) (bI_f (fun z => z.1 ((nI_eq (by omega) (by omega)).1 c2))), rfl, (fun _ _ => rfl)⟩ | exact ⟨congrArg (fun z => some (Value.int z)) (bI_t ⟨fun z => c2 (by rw [z]), Or.inl (bI_ne c16)⟩), rfl, (fun _ _ => rfl)⟩ | exact ⟨congrArg (fun z => some (Value.int z)) (bI_f (fun z => z.2.elim (bI_eq c16) (not_not_intro c28))), rfl, u4⟩ | exact ⟨congrArg (fun z => some (Value.int z)) (bI_t ⟨fun z => c2 (by rw [z]), Or.inr c28⟩), rfl, u4⟩)

set_option maxHeartbeats 4000000 in
theorem ct_mmatch {V : aV} {ent : Nat → EntN} {cnt : Nat} (hR : MR V) (hE : ME V ent cnt) (hEO : ∀ k, k < 12 → EO (ent k)) (hc : cnt ≤ 12) {mt : Nat → Nat} (hM : MM V mt) (hm : MTO mt cnt) (t u : Int32) : CT mX12_match 5 0 0 [.ref 504, .int t, .int u] Sh V (MMtP V cnt mt ent t u) aNo := by
  refine CT_of (by decide +kernel) (Nat.le_of_ble_eq_true rfl) ?_
  show R _ _ _ _ _ _ _ _ 0 [some (.ref 504), some (.int t), some (.int u), none, none] [] _ _
  have h5 := hE.1
  refine R_aload_0 dX12_match_0 ?_
  refine R_iload_1 dX12_match_1 ?_
  refine R_callV_e (T := mX12_match) (T' := mX12_isOne) (As := [_]) (ci := 12) okX12_isOne mlX12_175 rfl (by decide) sh_504 (ct_misOne hE.1 t) rfl (by decide) (by decide) (Nat.le_of_ble_eq_true rfl) dX12_match_2 ?_
  refine R_if_eq 20 dX12_match_5 (by decide) (fun c5 => ?_) (fun c5 => ?_)
  · have hx : xcM cnt mt ent t u = 1 := if_neg (fun z => (by first | exact bI_eq c5 z.1 | exact bI_eq c13 z.2))
    refine R_iconst (v := 0) dX12_match_20 (by decide) ?_
    refine R_istore_3 rfl (by decide) dX12_match_21 ?_
    refine R_aload_0 dX12_match_22 ?_
    refine R_iload_3 dX12_match_23 ?_
    refine R_if_ne 31 dX12_match_24 (by decide) (fun c24 => absurd rfl c24) (fun c24 => ?_)
    refine R_iconst (v := 1) dX12_match_27 (by decide) ?_
    refine R_goto 45 dX12_match_28 (by decide) ?_
    refine R_callV_e (T := mX12_match) (T' := mX12_fails) (As := [_]) (ci := 12) okX12_fails mlX12_128 rfl (by decide) sh_504 (ct_mfails _) rfl (by decide) (by decide) (Nat.le_of_ble_eq_true rfl) dX12_match_45 ?_
    refine R_if_eq 53 dX12_match_48 (by decide) (fun c48 => absurd c48 (by decide)) (fun c48 => ?_)
    refine R_iconst (v := 0) dX12_match_51 (by decide) ?_
    refine R_zret rfl rfl dX12_match_52 ⟨rfl, (a_up_self _ _ _ _).trans (by rw [hx]; rfl), ⟨_, rfl, fun z => by rw [hx] at z; cases z⟩, by rw [if_neg (fun z => by rw [hx] at z; cases z)]; exact ⟨(FrS.f (k := 0) (Or.inl rfl)).mm hM, (FrS.f (k := 0) (Or.inl rfl)).e 519⟩⟩
  · refine R_aload_0 dX12_match_8 ?_
    refine R_iload_2 dX12_match_9 ?_
    refine R_callV_e (T := mX12_match) (T' := mX12_isOne) (As := [_]) (ci := 12) okX12_isOne mlX12_175 rfl (by decide) sh_504 (ct_misOne hE.1 u) rfl (by decide) (by decide) (Nat.le_of_ble_eq_true rfl) dX12_match_10 ?_
    refine R_if_eq 20 dX12_match_13 (by decide) (fun c13 => ?_) (fun c13 => ?_)
    · have hx : xcM cnt mt ent t u = 1 := if_neg (fun z => (by first | exact bI_eq c5 z.1 | exact bI_eq c13 z.2))
      refine R_iconst (v := 0) dX12_match_20 (by decide) ?_
      refine R_istore_3 rfl (by decide) dX12_match_21 ?_
      refine R_aload_0 dX12_match_22 ?_
      refine R_iload_3 dX12_match_23 ?_
      refine R_if_ne 31 dX12_match_24 (by decide) (fun c24 => absurd rfl c24) (fun c24 => ?_)
      refine R_iconst (v := 1) dX12_match_27 (by decide) ?_
      refine R_goto 45 dX12_match_28 (by decide) ?_
      refine R_callV_e (T := mX12_match) (T' := mX12_fails) (As := [_]) (ci := 12) okX12_fails mlX12_128 rfl (by decide) sh_504 (ct_mfails _) rfl (by decide) (by decide) (Nat.le_of_ble_eq_true rfl) dX12_match_45 ?_
      refine R_if_eq 53 dX12_match_48 (by decide) (fun c48 => absurd c48 (by decide)) (fun c48 => ?_)
      refine R_iconst (v := 0) dX12_match_51 (by decide) ?_
      refine R_zret rfl rfl dX12_match_52 ⟨rfl, (a_up_self _ _ _ _).trans (by rw [hx]; rfl), ⟨_, rfl, fun z => by rw [hx] at z; cases z⟩, by rw [if_neg (fun z => by rw [hx] at z; cases z)]; exact ⟨(FrS.f (k := 0) (Or.inl rfl)).mm hM, (FrS.f (k := 0) (Or.inl rfl)).e 519⟩⟩
    · have hok : ¬ t < 0 ∧ t < nI cnt := bI_ne c5
      have hok2 : ¬ u < 0 ∧ u < nI cnt := bI_ne c13
      obtain ⟨i, ic, i12, rfl⟩ := tN hok hc
      obtain ⟨j, jc, j12, rfl⟩ := tN hok2 hc
      refine R_iconst (v := 1) dX12_match_16 (by decide) ?_
      refine R_goto 21 dX12_match_17 (by decide) ?_
      refine R_istore_3 rfl (by decide) dX12_match_21 ?_
      refine R_aload_0 dX12_match_22 ?_
      refine R_iload_3 dX12_match_23 ?_
      refine R_if_ne 31 dX12_match_24 (by decide) (fun c24 => ?_) (fun c24 => absurd c24 (by decide))
      refine R_aload_0 dX12_match_31 ?_
      refine R_iload_1 dX12_match_32 ?_
      refine R_iload_2 dX12_match_33 ?_
      refine R_callV (T := mX12_match) (T' := mX12_canMatch) (As := [_, _]) (ci := 12) okX12_canMatch mlX12_206 rfl (by decide) sh_504 (ct_mcanMatch hR hE hEO hM i12 j12) rfl (by decide) (by decide) (Nat.le_of_ble_eq_true rfl) dX12_match_34 (fun v9 S9 V1 h9 => ?_) (fun E S9 V9 h9 => h9.elim)
      obtain ⟨rfl, rfl, u4⟩ := h9
      have f1 := FrS.r u4 (by decide) (by decide)
      have hR := f1.mr hR
      have hM1 := f1.mm hM
      refine R_if_ne 44 dX12_match_37 (by decide) (fun c37 => ?_) (fun c37 => ?_)
      · have hok3 := bI_ne c37
        have hx : xcM cnt mt ent (nI i) (nI j) = 0 := by unfold xcM; rw [if_pos ⟨hok, hok2⟩, nI_clamp (n := i) (by omega), nI_clamp (n := j) (by omega)]; exact if_pos hok3
        refine R_iconst (v := 0) dX12_match_44 (by decide) ?_
        refine R_callV_e (T := mX12_match) (T' := mX12_fails) (As := [_]) (ci := 12) okX12_fails mlX12_128 rfl (by decide) sh_504 (ct_mfails _) rfl (by decide) (by decide) (Nat.le_of_ble_eq_true rfl) dX12_match_45 ?_
        refine R_if_eq 53 dX12_match_48 (by decide) (fun c48 => ?_) (fun c48 => absurd (by decide) c48)
        refine R_aload_0 dX12_match_53 ?_
        refine gfX12_52 rfl dX12_match_54 sh_504 (by first | exact hR.g (k := 17) (a := 519) (by decide) | exact (a_up_ne (by omega)).trans (hR.g (k := 17) (a := 519) (by decide)) | exact (a_up_ne (by omega)).trans ((a_up_ne (by omega)).trans (hR.g (k := 17) (a := 519) (by decide))) | exact (a_up_ne (by omega)).trans ((a_up_ne (by omega)).trans ((a_up_ne (by omega)).trans (hR.g (k := 17) (a := 519) (by decide)))) | exact (a_up_ne (by omega)).trans ((a_up_ne (by omega)).trans ((a_up_ne (by omega)).trans ((a_up_ne (by omega)).trans (hR.g (k := 17) (a := 519) (by decide))))) | exact (a_up_ne (by omega)).trans ((a_up_ne (by omega)).trans ((a_up_ne (by omega)).trans ((a_up_ne (by omega)).trans ((a_up_ne (by omega)).trans (hR.g (k := 17) (a := 519) (by decide)))))) | exact (a_up_ne (by omega)).trans ((a_up_ne (by omega)).trans ((a_up_ne (by omega)).trans ((a_up_ne (by omega)).trans ((a_up_ne (by omega)).trans ((a_up_ne (by omega)).trans (hR.g (k := 17) (a := 519) (by decide)))))))) ?_
        refine R_bipush (v := 12) dX12_match_57 (by decide) ?_
        refine R_iload_1 dX12_match_59 ?_
        refine R_imul dX12_match_60 ?_
        refine R_iload_2 dX12_match_61 ?_
        refine R_iadd dX12_match_62 ?_
        refine R_zaldE dX12_match_63 sh_519 (ix1 12 i j) (by omega) (by decide) ((a_up_ne (Or.inl (by decide))).trans (hM1 i j i12 j12)) ?_
        refine R_if_ne 71 dX12_match_64 (by decide) (fun c64 => ?_) (fun c64 => ?_)
        · have e9 : (0 : Int32) = bI (¬ (mt i).testBit j = true) := (bI_f (not_not_intro (bI_ne c64))).symm
          refine R_iconst (v := 0) dX12_match_71 (by decide) ?_
          refine R_istore_4 rfl (by decide) dX12_match_72 ?_
          refine R_aload_0 dX12_match_74 ?_
          refine gfX12_52 rfl dX12_match_75 sh_504 (by first | exact hR.g (k := 17) (a := 519) (by decide) | exact (a_up_ne (by omega)).trans (hR.g (k := 17) (a := 519) (by decide)) | exact (a_up_ne (by omega)).trans ((a_up_ne (by omega)).trans (hR.g (k := 17) (a := 519) (by decide))) | exact (a_up_ne (by omega)).trans ((a_up_ne (by omega)).trans ((a_up_ne (by omega)).trans (hR.g (k := 17) (a := 519) (by decide)))) | exact (a_up_ne (by omega)).trans ((a_up_ne (by omega)).trans ((a_up_ne (by omega)).trans ((a_up_ne (by omega)).trans (hR.g (k := 17) (a := 519) (by decide))))) | exact (a_up_ne (by omega)).trans ((a_up_ne (by omega)).trans ((a_up_ne (by omega)).trans ((a_up_ne (by omega)).trans ((a_up_ne (by omega)).trans (hR.g (k := 17) (a := 519) (by decide)))))) | exact (a_up_ne (by omega)).trans ((a_up_ne (by omega)).trans ((a_up_ne (by omega)).trans ((a_up_ne (by omega)).trans ((a_up_ne (by omega)).trans ((a_up_ne (by omega)).trans (hR.g (k := 17) (a := 519) (by decide)))))))) ?_
          refine R_bipush (v := 12) dX12_match_78 (by decide) ?_
          refine R_iload_1 dX12_match_80 ?_
          refine R_imul dX12_match_81 ?_
          refine R_iload_2 dX12_match_82 ?_
          refine R_iadd dX12_match_83 ?_
          refine R_iload_4 dX12_match_84 ?_
          refine R_zastE dX12_match_86 sh_519 (ix1 12 i j) (by omega) (by decide) rfl ?_
          refine R_aload_0 dX12_match_87 ?_
          refine gfX12_52 rfl dX12_match_88 sh_504 (by first | exact hR.g (k := 17) (a := 519) (by decide) | exact (a_up_ne (by omega)).trans (hR.g (k := 17) (a := 519) (by decide)) | exact (a_up_ne (by omega)).trans ((a_up_ne (by omega)).trans (hR.g (k := 17) (a := 519) (by decide))) | exact (a_up_ne (by omega)).trans ((a_up_ne (by omega)).trans ((a_up_ne (by omega)).trans (hR.g (k := 17) (a := 519) (by decide)))) | exact (a_up_ne (by omega)).trans ((a_up_ne (by omega)).trans ((a_up_ne (by omega)).trans ((a_up_ne (by omega)).trans (hR.g (k := 17) (a := 519) (by decide))))) | exact (a_up_ne (by omega)).trans ((a_up_ne (by omega)).trans ((a_up_ne (by omega)).trans ((a_up_ne (by omega)).trans ((a_up_ne (by omega)).trans (hR.g (k := 17) (a := 519) (by decide)))))) | exact (a_up_ne (by omega)).trans ((a_up_ne (by omega)).trans ((a_up_ne (by omega)).trans ((a_up_ne (by omega)).trans ((a_up_ne (by omega)).trans ((a_up_ne (by omega)).trans (hR.g (k := 17) (a := 519) (by decide)))))))) ?_
          refine R_bipush (v := 12) dX12_match_91 (by decide) ?_
          refine R_iload_2 dX12_match_93 ?_
          refine R_imul dX12_match_94 ?_
          refine R_iload_1 dX12_match_95 ?_
          refine R_iadd dX12_match_96 ?_
          refine R_iload_4 dX12_match_97 ?_
          refine R_zastE dX12_match_99 sh_519 (ix1 12 j i) (by omega) (by decide) rfl ?_
          refine R_iload_4 dX12_match_100 ?_
          refine R_zret rfl rfl dX12_match_102 ⟨rfl, (a_up_ne (Or.inl (by decide))).trans ((a_up_ne (Or.inl (by decide))).trans ((a_up_self _ _ _ _).trans (by rw [hx]; rfl))), ⟨_, rfl, fun _ => by rw [nI_clamp (n := i) (by omega), nI_clamp (n := j) (by omega)]; exact e9⟩, by rw [if_pos hx, nI_clamp (n := i) (by omega), nI_clamp (n := j) (by omega)]; exact (MM.turn ((FrS.f (k := 0) (Or.inl rfl)).mm hM1) (hm.sym i12 j12) i12 j12 hok3.1 e9), ((f1.e 519).trans (((FrS.f (k := 0) (Or.inl rfl)).e 519))).trans ((FrE.u (by decide)).trans (FrE.u (by decide)))⟩
        · have e9 : (1 : Int32) = bI (¬ (mt i).testBit j = true) := (bI_t (bI_eq c64)).symm
          refine R_iconst (v := 1) dX12_match_67 (by decide) ?_
          refine R_goto 72 dX12_match_68 (by decide) ?_
          refine R_istore_4 rfl (by decide) dX12_match_72 ?_
          refine R_aload_0 dX12_match_74 ?_
          refine gfX12_52 rfl dX12_match_75 sh_504 (by first | exact hR.g (k := 17) (a := 519) (by decide) | exact (a_up_ne (by omega)).trans (hR.g (k := 17) (a := 519) (by decide)) | exact (a_up_ne (by omega)).trans ((a_up_ne (by omega)).trans (hR.g (k := 17) (a := 519) (by decide))) | exact (a_up_ne (by omega)).trans ((a_up_ne (by omega)).trans ((a_up_ne (by omega)).trans (hR.g (k := 17) (a := 519) (by decide)))) | exact (a_up_ne (by omega)).trans ((a_up_ne (by omega)).trans ((a_up_ne (by omega)).trans ((a_up_ne (by omega)).trans (hR.g (k := 17) (a := 519) (by decide))))) | exact (a_up_ne (by omega)).trans ((a_up_ne (by omega)).trans ((a_up_ne (by omega)).trans ((a_up_ne (by omega)).trans ((a_up_ne (by omega)).trans (hR.g (k := 17) (a := 519) (by decide)))))) | exact (a_up_ne (by omega)).trans ((a_up_ne (by omega)).trans ((a_up_ne (by omega)).trans ((a_up_ne (by omega)).trans ((a_up_ne (by omega)).trans ((a_up_ne (by omega)).trans (hR.g (k := 17) (a := 519) (by decide)))))))) ?_
          refine R_bipush (v := 12) dX12_match_78 (by decide) ?_
          refine R_iload_1 dX12_match_80 ?_
          refine R_imul dX12_match_81 ?_
          refine R_iload_2 dX12_match_82 ?_
          refine R_iadd dX12_match_83 ?_
          refine R_iload_4 dX12_match_84 ?_
          refine R_zastE dX12_match_86 sh_519 (ix1 12 i j) (by omega) (by decide) rfl ?_
          refine R_aload_0 dX12_match_87 ?_
          refine gfX12_52 rfl dX12_match_88 sh_504 (by first | exact hR.g (k := 17) (a := 519) (by decide) | exact (a_up_ne (by omega)).trans (hR.g (k := 17) (a := 519) (by decide)) | exact (a_up_ne (by omega)).trans ((a_up_ne (by omega)).trans (hR.g (k := 17) (a := 519) (by decide))) | exact (a_up_ne (by omega)).trans ((a_up_ne (by omega)).trans ((a_up_ne (by omega)).trans (hR.g (k := 17) (a := 519) (by decide)))) | exact (a_up_ne (by omega)).trans ((a_up_ne (by omega)).trans ((a_up_ne (by omega)).trans ((a_up_ne (by omega)).trans (hR.g (k := 17) (a := 519) (by decide))))) | exact (a_up_ne (by omega)).trans ((a_up_ne (by omega)).trans ((a_up_ne (by omega)).trans ((a_up_ne (by omega)).trans ((a_up_ne (by omega)).trans (hR.g (k := 17) (a := 519) (by decide)))))) | exact (a_up_ne (by omega)).trans ((a_up_ne (by omega)).trans ((a_up_ne (by omega)).trans ((a_up_ne (by omega)).trans ((a_up_ne (by omega)).trans ((a_up_ne (by omega)).trans (hR.g (k := 17) (a := 519) (by decide)))))))) ?_
          refine R_bipush (v := 12) dX12_match_91 (by decide) ?_
          refine R_iload_2 dX12_match_93 ?_
          refine R_imul dX12_match_94 ?_
          refine R_iload_1 dX12_match_95 ?_
          refine R_iadd dX12_match_96 ?_
          refine R_iload_4 dX12_match_97 ?_
          refine R_zastE dX12_match_99 sh_519 (ix1 12 j i) (by omega) (by decide) rfl ?_
          refine R_iload_4 dX12_match_100 ?_
          refine R_zret rfl rfl dX12_match_102 ⟨rfl, (a_up_ne (Or.inl (by decide))).trans ((a_up_ne (Or.inl (by decide))).trans ((a_up_self _ _ _ _).trans (by rw [hx]; rfl))), ⟨_, rfl, fun _ => by rw [nI_clamp (n := i) (by omega), nI_clamp (n := j) (by omega)]; exact e9⟩, by rw [if_pos hx, nI_clamp (n := i) (by omega), nI_clamp (n := j) (by omega)]; exact (MM.turn ((FrS.f (k := 0) (Or.inl rfl)).mm hM1) (hm.sym i12 j12) i12 j12 hok3.1 e9), ((f1.e 519).trans (((FrS.f (k := 0) (Or.inl rfl)).e 519))).trans ((FrE.u (by decide)).trans (FrE.u (by decide)))⟩
      · have hx : xcM cnt mt ent (nI i) (nI j) = 2 := by unfold xcM; rw [if_pos ⟨hok, hok2⟩, nI_clamp (n := i) (by omega), nI_clamp (n := j) (by omega)]; exact if_neg (bI_eq c37)
        refine R_iconst (v := 2) dX12_match_40 (by decide) ?_
        refine R_goto 45 dX12_match_41 (by decide) ?_
        refine R_callV_e (T := mX12_match) (T' := mX12_fails) (As := [_]) (ci := 12) okX12_fails mlX12_128 rfl (by decide) sh_504 (ct_mfails _) rfl (by decide) (by decide) (Nat.le_of_ble_eq_true rfl) dX12_match_45 ?_
        refine R_if_eq 53 dX12_match_48 (by decide) (fun c48 => absurd c48 (by decide)) (fun c48 => ?_)
        refine R_iconst (v := 0) dX12_match_51 (by decide) ?_
        refine R_zret rfl rfl dX12_match_52 ⟨rfl, (a_up_self _ _ _ _).trans (by rw [hx]; rfl), ⟨_, rfl, fun z => by rw [hx] at z; cases z⟩, by rw [if_neg (fun z => by rw [hx] at z; cases z)]; exact ⟨(FrS.f (k := 0) (Or.inl rfl)).mm hM1, (f1.trans (FrS.f (k := 0) (Or.inl rfl))).e 519⟩⟩

/-- pairs with the first of them -/
noncomputable def mI (u : UInt32) (ent : Nat → Ent) (f : Nat) : Nat → Nat
  | 0 => 0
  | s + 1 => mI u ent f s + if f < s ∧ geL u (ent f) (ent s) then 1 else 0
noncomputable def mS (u : UInt32) (ent : Nat → Ent) (c : Nat) : Nat → Nat
  | 0 => 0
  | n + 1 => mS u ent c n + mI u ent n c
noncomputable def prC (u : UInt32) (ent : Nat → Ent) (c : Nat) : Nat → Nat
  | 0 => 0
  | n + 1 => prC u ent c n + if n < c ∧ geL u (ent n) (ent c) then 1 else 0
theorem mI_0 {u : UInt32} {ent : Nat → Ent} {f : Nat} : ∀ s, s ≤ f + 1 → mI u ent f s = 0
  | 0, _ => rfl
  | s + 1, h => by
    show mI u ent f s + (if _ then 1 else 0) = 0
    rw [mI_0 s (by omega), if_neg (fun z => by omega)]
theorem mI_t {u : UInt32} {ent : Nat → Ent} {f s : Nat} (h : f < s) (g : geL u (ent f) (ent s)) : mI u ent f (s + 1) = mI u ent f s + 1 := by show _ + (if _ then 1 else 0) = _; rw [if_pos ⟨h, g⟩]
theorem mI_f {u : UInt32} {ent : Nat → Ent} {f s : Nat} (g : ¬ geL u (ent f) (ent s)) : mI u ent f (s + 1) = mI u ent f s := by show _ + (if _ then 1 else 0) = _; rw [if_neg (fun z => g z.2)]; rfl
theorem mS_s {u : UInt32} {ent : Nat → Ent} {c : Nat} : ∀ n, mS u ent (c + 1) n = mS u ent c n + prC u ent c n
  | 0 => rfl
  | n + 1 => by
    show mS u ent (c + 1) n + mI u ent n (c + 1) = mS u ent c n + mI u ent n c + (prC u ent c n + if _ then 1 else 0)
    rw [mS_s n, show mI u ent n (c + 1) = mI u ent n c + if n < c ∧ geL u (ent n) (ent c) then 1 else 0 from rfl]
    omega
theorem prC_le {u : UInt32} {ent : Nat → Ent} {c : Nat} : ∀ n, n ≤ c → prC u ent c n = prI u ent c n
  | 0, _ => rfl
  | n + 1, h => by
    show prC u ent c n + (if _ then 1 else 0) = prI u ent c n + if _ then 1 else 0
    rw [prC_le n (by omega)]
    by_cases q : geL u (ent n) (ent c)
    · rw [if_pos q, if_pos ⟨by omega, q⟩]
    · rw [if_neg q, if_neg (fun z => q z.2)]
theorem prC_ge {u : UInt32} {ent : Nat → Ent} {c : Nat} : ∀ m, prC u ent c (c + m) = prI u ent c c
  | 0 => prC_le c (Nat.le_refl c)
  | m + 1 => by
    show prC u ent c (c + m) + (if _ then 1 else 0) = _
    rw [prC_ge m, if_neg (fun z => Nat.not_lt.2 (Nat.le_add_right c m) z.1)]
    rfl
theorem mS_0 {u : UInt32} {ent : Nat → Ent} : ∀ n, mS u ent 0 n = 0
  | 0 => rfl
  | n + 1 => by show mS u ent 0 n + 0 = 0; rw [mS_0 n]
theorem mS_ge {u : UInt32} {ent : Nat → Ent} : ∀ c m, mS u ent c (c + m) = prs u ent c
  | 0, m => mS_0 _
  | c + 1, m => by
    rw [mS_s]
    show _ = prs u ent c + prI u ent c c
    rw [show c + 1 + m = c + (m + 1) by omega, mS_ge c (m + 1), prC_ge (m + 1)]
theorem mS_prs {u : UInt32} {ent : Nat → Ent} {c : Nat} : mS u ent c c = prs u ent c := mS_ge c 0
set_option maxHeartbeats 4000000 in
theorem mp_in {mc ms kc ks : Nat} {V0 : aV} {ent : Nat → EntN} {cnt : Nat} (hR0 : MR V0) (hE0 : ME V0 ent cnt) (hEO : ∀ k, k < 12 → EO (ent k)) (hc : cnt ≤ 12) {t : Int32} {u : UInt32} {f F : Nat} (hf : f < cnt) {Q : Option Value → aS → aV → Prop} {QX : String → aS → aV → Prop} (hK : ∀ V', Fr0 V0 V' 537 → R mX12_pairs 6 mc ms Q QX kc ks 86 [some (.ref 504), some (.int t), some (.float u), some (.int (nI (F + mI u (fun k => encE (ent k)) f cnt))), some (.int (nI f)), none] [] Sh V') : ∀ (m s : Nat) (V : aV), s + m = cnt → f < s → Fr0 V0 V 537 → R mX12_pairs 6 mc ms Q QX kc ks 50 [some (.ref 504), some (.int t), some (.float u), some (.int (nI (F + mI u (fun k => encE (ent k)) f s))), some (.int (nI f)), some (.int (nI s))] [] Sh V := by
  intro m
  induction m with
  | zero =>
    intro s V hs hl hF
    have hs' : s = cnt := by omega
    subst hs'
    have fF := FrS.r hF (by decide) (by decide)
    have hR := fF.mr hR0
    have hE := fF.me hE0
    have h5 := hE.1
    refine R_iload_5 dX12_pairs_50 ?_
    refine R_aload_0 dX12_pairs_52 ?_
    refine gfX12_166 rfl dX12_pairs_53 sh_504 (by first | assumption | exact a_up_self _ _ _ _ | exact (a_up_ne (by omega)).trans (by assumption) | exact (a_up_ne (by omega)).trans (a_up_self _ _ _ _) | exact (a_up_ne (by omega)).trans ((a_up_ne (by omega)).trans (by assumption)) | exact (a_up_ne (by omega)).trans ((a_up_ne (by omega)).trans (a_up_self _ _ _ _)) | exact (a_up_ne (by omega)).trans ((a_up_ne (by omega)).trans ((a_up_ne (by omega)).trans (by assumption))) | exact (a_up_ne (by omega)).trans ((a_up_ne (by omega)).trans ((a_up_ne (by omega)).trans (a_up_self _ _ _ _))) | exact (a_up_ne (by omega)).trans ((a_up_ne (by omega)).trans ((a_up_ne (by omega)).trans ((a_up_ne (by omega)).trans (by assumption)))) | exact (a_up_ne (by omega)).trans ((a_up_ne (by omega)).trans ((a_up_ne (by omega)).trans ((a_up_ne (by omega)).trans (a_up_self _ _ _ _)))) | exact (a_up_ne (by omega)).trans ((a_up_ne (by omega)).trans ((a_up_ne (by omega)).trans ((a_up_ne (by omega)).trans ((a_up_ne (by omega)).trans (by assumption))))) | exact (a_up_ne (by omega)).trans ((a_up_ne (by omega)).trans ((a_up_ne (by omega)).trans ((a_up_ne (by omega)).trans ((a_up_ne (by omega)).trans (a_up_self _ _ _ _)))))) ?_
    refine R_icmp_ge 86 dX12_pairs_56 (by decide) (fun c56 => ?_) (fun c56 => absurd (Int32.le_refl _) c56)
    refine R_drop_5 ?_
    exact hK V hF
  | succ m ih =>
    intro s V hs hl hF
    have fF := FrS.r hF (by decide) (by decide)
    have hR := fF.mr hR0
    have hE := fF.me hE0
    have h5 := hE.1
    have b9 : ¬ nI cnt ≤ nI s := nI_ge (a := s) (b := cnt) (by omega) (by omega)
    refine R_iload_5 dX12_pairs_50 ?_
    refine R_aload_0 dX12_pairs_52 ?_
    refine gfX12_166 rfl dX12_pairs_53 sh_504 (by first | assumption | exact a_up_self _ _ _ _ | exact (a_up_ne (by omega)).trans (by assumption) | exact (a_up_ne (by omega)).trans (a_up_self _ _ _ _) | exact (a_up_ne (by omega)).trans ((a_up_ne (by omega)).trans (by assumption)) | exact (a_up_ne (by omega)).trans ((a_up_ne (by omega)).trans (a_up_self _ _ _ _)) | exact (a_up_ne (by omega)).trans ((a_up_ne (by omega)).trans ((a_up_ne (by omega)).trans (by assumption))) | exact (a_up_ne (by omega)).trans ((a_up_ne (by omega)).trans ((a_up_ne (by omega)).trans (a_up_self _ _ _ _))) | exact (a_up_ne (by omega)).trans ((a_up_ne (by omega)).trans ((a_up_ne (by omega)).trans ((a_up_ne (by omega)).trans (by assumption)))) | exact (a_up_ne (by omega)).trans ((a_up_ne (by omega)).trans ((a_up_ne (by omega)).trans ((a_up_ne (by omega)).trans (a_up_self _ _ _ _)))) | exact (a_up_ne (by omega)).trans ((a_up_ne (by omega)).trans ((a_up_ne (by omega)).trans ((a_up_ne (by omega)).trans ((a_up_ne (by omega)).trans (by assumption))))) | exact (a_up_ne (by omega)).trans ((a_up_ne (by omega)).trans ((a_up_ne (by omega)).trans ((a_up_ne (by omega)).trans ((a_up_ne (by omega)).trans (a_up_self _ _ _ _)))))) ?_
    refine R_icmp_ge 86 dX12_pairs_56 (by decide) (fun c56 => absurd c56 b9) (fun c56 => ?_)
    refine R_iload_3 dX12_pairs_59 ?_
    refine R_aload_0 dX12_pairs_60 ?_
    refine R_iload_4 dX12_pairs_61 ?_
    refine R_iload_5 dX12_pairs_63 ?_
    refine R_callV (T := mX12_pairs) (T' := mX12_likenessOf) (As := [_, _]) (ci := 12) okX12_likenessOf mlX12_194 rfl (by decide) sh_504 (ct_mlikenessOf hR hE hEO (i := f) (j := s) (by omega) (by omega)) rfl (by decide) (by decide) (Nat.le_of_ble_eq_true rfl) dX12_pairs_65 (fun v9 S9 V1 h9 => ?_) (fun E S9 V9 h9 => h9.elim)
    obtain ⟨rfl, rfl, u4⟩ := h9
    have hF1 : Fr0 V0 V1 537 := fun b hb => (u4 b hb).trans (hF b hb)
    refine R_fload_2 dX12_pairs_68 ?_
    refine R_fcmp dX12_pairs_69 ?_
    refine R_if_lt 77 dX12_pairs_70 (by decide) (fun c70 => ?_) (fun c70 => ?_)
    · refine R_iconst (v := 0) dX12_pairs_77 (by decide) ?_
      refine R_iadd dX12_pairs_78 ?_
      have e9 : nI (F + mI u (fun k => encE (ent k)) f s) + 0 = nI (F + mI u (fun k => encE (ent k)) f (s + 1)) := by
        first
          | (rw [mI_t (ent := (fun k => encE (ent k))) (f := f) (s := s) hl c70, ← Nat.add_assoc]; exact nI_1 _)
          | (rw [mI_f (ent := (fun k => encE (ent k))) (f := f) (s := s) (not_not_intro c70)]; exact Int32.add_zero _)
      rw [e9]
      refine R_istore_3 rfl (by decide) dX12_pairs_79 ?_
      refine R_iinc_5 rfl (by decide) dX12_pairs_80 rfl ?_
      rw [show nI s + Int32.ofInt 1 = nI (s + 1) from nI_1 s]
      refine R_goto 50 dX12_pairs_83 (by decide) ?_
      exact ih (s + 1) V1 (by omega) (by omega) hF1
    · refine R_iconst (v := 1) dX12_pairs_73 (by decide) ?_
      refine R_goto 78 dX12_pairs_74 (by decide) ?_
      refine R_iadd dX12_pairs_78 ?_
      have e9 : nI (F + mI u (fun k => encE (ent k)) f s) + 1 = nI (F + mI u (fun k => encE (ent k)) f (s + 1)) := by
        first
          | (rw [mI_t (ent := (fun k => encE (ent k))) (f := f) (s := s) hl c70, ← Nat.add_assoc]; exact nI_1 _)
          | (rw [mI_f (ent := (fun k => encE (ent k))) (f := f) (s := s) (not_not_intro c70)]; exact Int32.add_zero _)
      rw [e9]
      refine R_istore_3 rfl (by decide) dX12_pairs_79 ?_
      refine R_iinc_5 rfl (by decide) dX12_pairs_80 rfl ?_
      rw [show nI s + Int32.ofInt 1 = nI (s + 1) from nI_1 s]
      refine R_goto 50 dX12_pairs_83 (by decide) ?_
      exact ih (s + 1) V1 (by omega) (by omega) hF1
set_option maxHeartbeats 4000000 in
theorem mp_out {mc ms kc ks : Nat} {V0 : aV} {ent : Nat → EntN} {cnt : Nat} (hR0 : MR V0) (hE0 : ME V0 ent cnt) (hEO : ∀ k, k < 12 → EO (ent k)) (hc : cnt ≤ 12) {t : Int32} {u : UInt32} {Q : Option Value → aS → aV → Prop} {QX : String → aS → aV → Prop} (hQ : ∀ V', Fr0 V0 V' 537 → Q (some (.int (nI (prs u (fun k => encE (ent k)) cnt)))) Sh V') : ∀ (m f : Nat) (V : aV), f + m = cnt → Fr0 V0 V 537 → R mX12_pairs 6 mc ms Q QX kc ks 35 [some (.ref 504), some (.int t), some (.float u), some (.int (nI (mS u (fun k => encE (ent k)) cnt f))), some (.int (nI f)), none] [] Sh V := by
  intro m
  induction m with
  | zero =>
    intro f V hf hF
    have hf' : f = cnt := by omega
    subst hf'
    have fF := FrS.r hF (by decide) (by decide)
    have hR := fF.mr hR0
    have hE := fF.me hE0
    have h5 := hE.1
    refine R_iload_4 dX12_pairs_35 ?_
    refine R_aload_0 dX12_pairs_37 ?_
    refine gfX12_166 rfl dX12_pairs_38 sh_504 (by first | assumption | exact a_up_self _ _ _ _ | exact (a_up_ne (by omega)).trans (by assumption) | exact (a_up_ne (by omega)).trans (a_up_self _ _ _ _) | exact (a_up_ne (by omega)).trans ((a_up_ne (by omega)).trans (by assumption)) | exact (a_up_ne (by omega)).trans ((a_up_ne (by omega)).trans (a_up_self _ _ _ _)) | exact (a_up_ne (by omega)).trans ((a_up_ne (by omega)).trans ((a_up_ne (by omega)).trans (by assumption))) | exact (a_up_ne (by omega)).trans ((a_up_ne (by omega)).trans ((a_up_ne (by omega)).trans (a_up_self _ _ _ _))) | exact (a_up_ne (by omega)).trans ((a_up_ne (by omega)).trans ((a_up_ne (by omega)).trans ((a_up_ne (by omega)).trans (by assumption)))) | exact (a_up_ne (by omega)).trans ((a_up_ne (by omega)).trans ((a_up_ne (by omega)).trans ((a_up_ne (by omega)).trans (a_up_self _ _ _ _)))) | exact (a_up_ne (by omega)).trans ((a_up_ne (by omega)).trans ((a_up_ne (by omega)).trans ((a_up_ne (by omega)).trans ((a_up_ne (by omega)).trans (by assumption))))) | exact (a_up_ne (by omega)).trans ((a_up_ne (by omega)).trans ((a_up_ne (by omega)).trans ((a_up_ne (by omega)).trans ((a_up_ne (by omega)).trans (a_up_self _ _ _ _)))))) ?_
    refine R_icmp_ge 92 dX12_pairs_41 (by decide) (fun c41 => ?_) (fun c41 => absurd (Int32.le_refl _) c41)
    refine R_iload_3 dX12_pairs_92 ?_
    refine R_iret rfl dX12_pairs_93 (by rw [mS_prs]; exact hQ V hF)
  | succ m ih =>
    intro f V hf hF
    have fF := FrS.r hF (by decide) (by decide)
    have hR := fF.mr hR0
    have hE := fF.me hE0
    have h5 := hE.1
    have b9 : ¬ nI cnt ≤ nI f := nI_ge (a := f) (b := cnt) (by omega) (by omega)
    refine R_iload_4 dX12_pairs_35 ?_
    refine R_aload_0 dX12_pairs_37 ?_
    refine gfX12_166 rfl dX12_pairs_38 sh_504 (by first | assumption | exact a_up_self _ _ _ _ | exact (a_up_ne (by omega)).trans (by assumption) | exact (a_up_ne (by omega)).trans (a_up_self _ _ _ _) | exact (a_up_ne (by omega)).trans ((a_up_ne (by omega)).trans (by assumption)) | exact (a_up_ne (by omega)).trans ((a_up_ne (by omega)).trans (a_up_self _ _ _ _)) | exact (a_up_ne (by omega)).trans ((a_up_ne (by omega)).trans ((a_up_ne (by omega)).trans (by assumption))) | exact (a_up_ne (by omega)).trans ((a_up_ne (by omega)).trans ((a_up_ne (by omega)).trans (a_up_self _ _ _ _))) | exact (a_up_ne (by omega)).trans ((a_up_ne (by omega)).trans ((a_up_ne (by omega)).trans ((a_up_ne (by omega)).trans (by assumption)))) | exact (a_up_ne (by omega)).trans ((a_up_ne (by omega)).trans ((a_up_ne (by omega)).trans ((a_up_ne (by omega)).trans (a_up_self _ _ _ _)))) | exact (a_up_ne (by omega)).trans ((a_up_ne (by omega)).trans ((a_up_ne (by omega)).trans ((a_up_ne (by omega)).trans ((a_up_ne (by omega)).trans (by assumption))))) | exact (a_up_ne (by omega)).trans ((a_up_ne (by omega)).trans ((a_up_ne (by omega)).trans ((a_up_ne (by omega)).trans ((a_up_ne (by omega)).trans (a_up_self _ _ _ _)))))) ?_
    refine R_icmp_ge 92 dX12_pairs_41 (by decide) (fun c41 => absurd c41 b9) (fun c41 => ?_)
    refine R_iload_4 dX12_pairs_44 ?_
    refine R_iconst (v := 1) dX12_pairs_46 (by decide) ?_
    refine R_iadd dX12_pairs_47 ?_
    refine R_istore_5 rfl (by decide) dX12_pairs_48 ?_
    have e8 : nI f + 1 = nI (f + 1) := nI_1 f
    rw [e8]
    have h9 := mp_in (F := mS u (fun k => encE (ent k)) cnt f) (f := f) (t := t) (u := u) hR0 hE0 hEO hc (by omega) (mc := mc) (ms := ms) (kc := kc) (ks := ks) (Q := Q) (QX := QX) (fun V' hF' => ?_) (cnt - (f + 1)) (f + 1) V (by omega) (by omega) hF
    · rw [mI_0 (f + 1) (Nat.le_refl _)] at h9
      exact h9
    · refine R_iinc_4 rfl (by decide) dX12_pairs_86 rfl ?_
      rw [show nI f + Int32.ofInt 1 = nI (f + 1) from nI_1 f]
      refine R_goto 35 dX12_pairs_89 (by decide) ?_
      exact ih (f + 1) V' (by omega) hF'
def xcPr (t : Int32) : Nat := if ¬ t < 0 ∧ t ≤ 100 then 0 else 1
set_option maxHeartbeats 4000000 in
theorem ct_mpairs {V : aV} {ent : Nat → EntN} {cnt : Nat} (hR : MR V) (hE : ME V ent cnt) (hEO : ∀ k, k < 12 → EO (ent k)) (hc : cnt ≤ 12) (t : Int32) : CT mX12_pairs 6 0 0 [.ref 504, .int t] Sh V (MQy V (xcPr t) (nI (prs (lst t.toNatClampNeg) (fun k => encE (ent k)) cnt))) aNo := by
  refine CT_of (by decide +kernel) (Nat.le_of_ble_eq_true rfl) ?_
  show R _ _ _ _ _ _ _ _ 0 [some (.ref 504), some (.int t), none, none, none, none] [] _ _
  have h5 := hE.1
  refine R_aload_0 dX12_pairs_0 ?_
  refine R_iload_1 dX12_pairs_1 ?_
  refine R_if_lt 15 dX12_pairs_2 (by decide) (fun c2 => ?_) (fun c2 => ?_)
  · have hx : xcPr t = 1 := if_neg (fun z => (by first | exact z.1 c2 | exact Int32.not_lt.2 z.2 c8))
    refine R_iconst (v := 1) dX12_pairs_15 (by decide) ?_
    refine R_callV_e (T := mX12_pairs) (T' := mX12_fails) (As := [_]) (ci := 12) okX12_fails mlX12_128 rfl (by decide) sh_504 (ct_mfails _) rfl (by decide) (by decide) (Nat.le_of_ble_eq_true rfl) dX12_pairs_16 ?_
    refine R_if_eq 24 dX12_pairs_19 (by decide) (fun c19 => absurd c19 (by decide)) (fun c19 => ?_)
    refine R_iconst (v := 0) dX12_pairs_22 (by decide) ?_
    refine R_iret rfl dX12_pairs_23 ⟨rfl, (a_up_self _ _ _ _).trans (by rw [hx]; rfl), ⟨_, rfl, fun z => by rw [hx] at z; cases z⟩, FrS.f (Or.inl rfl)⟩
  · refine R_iload_1 dX12_pairs_5 ?_
    refine R_bipush (v := 100) dX12_pairs_6 (by decide) ?_
    refine R_icmp_gt 15 dX12_pairs_8 (by decide) (fun c8 => ?_) (fun c8 => ?_)
    · have hx : xcPr t = 1 := if_neg (fun z => (by first | exact z.1 c2 | exact Int32.not_lt.2 z.2 c8))
      refine R_iconst (v := 1) dX12_pairs_15 (by decide) ?_
      refine R_callV_e (T := mX12_pairs) (T' := mX12_fails) (As := [_]) (ci := 12) okX12_fails mlX12_128 rfl (by decide) sh_504 (ct_mfails _) rfl (by decide) (by decide) (Nat.le_of_ble_eq_true rfl) dX12_pairs_16 ?_
      refine R_if_eq 24 dX12_pairs_19 (by decide) (fun c19 => absurd c19 (by decide)) (fun c19 => ?_)
      refine R_iconst (v := 0) dX12_pairs_22 (by decide) ?_
      refine R_iret rfl dX12_pairs_23 ⟨rfl, (a_up_self _ _ _ _).trans (by rw [hx]; rfl), ⟨_, rfl, fun z => by rw [hx] at z; cases z⟩, FrS.f (Or.inl rfl)⟩
    · have hx : xcPr t = 0 := if_pos ⟨c2, Int32.not_lt.1 c8⟩
      obtain ⟨h, hh, rfl⟩ := nI_of c2
      have h9 := (nI_leI (a := h) (b := 100) hh (by decide)).1 (Int32.not_lt.1 c8)
      refine R_iconst (v := 0) dX12_pairs_11 (by decide) ?_
      refine R_goto 16 dX12_pairs_12 (by decide) ?_
      refine R_callV_e (T := mX12_pairs) (T' := mX12_fails) (As := [_]) (ci := 12) okX12_fails mlX12_128 rfl (by decide) sh_504 (ct_mfails _) rfl (by decide) (by decide) (Nat.le_of_ble_eq_true rfl) dX12_pairs_16 ?_
      refine R_if_eq 24 dX12_pairs_19 (by decide) (fun c19 => ?_) (fun c19 => absurd (by decide) c19)
      refine R_iload_1 dX12_pairs_24 ?_
      refine R_i2f dX12_pairs_25 ?_
      refine R_ldcf dX12_pairs_26 cwX12_204 ?_
      refine R_fdiv dX12_pairs_28 (lst_ok h9) ?_
      refine R_fstore_2 rfl (by decide) dX12_pairs_29 ?_
      refine R_iconst (v := 0) dX12_pairs_30 (by decide) ?_
      refine R_istore_3 rfl (by decide) dX12_pairs_31 ?_
      refine R_iconst (v := 0) dX12_pairs_32 (by decide) ?_
      refine R_istore_4 rfl (by decide) dX12_pairs_33 ?_
      have f1 := FrS.f (V := V) (k := 0) (v := .int 0) (Or.inl rfl)
      have h8 := mp_out (t := nI h) (u := lst h) (f1.mr hR) (f1.me hE) hEO hc (mc := 0) (ms := 0) (kc := 0) (ks := 0) (Q := MQy V (xcPr (nI h)) (nI (prs (lst (nI h).toNatClampNeg) (fun k => encE (ent k)) cnt))) (QX := aNo) (fun V' hF => ⟨rfl, (congrFun (hF 504 (by decide)) 0).trans ((a_up_self _ _ _ _).trans (by rw [hx]; rfl)), ⟨_, rfl, fun _ => by rw [nI_clamp (n := h) (by omega)]⟩, f1.trans (FrS.r hF (by decide) (by decide))⟩) cnt 0 _ (by omega) (fun _ _ => rfl)
      exact h8

