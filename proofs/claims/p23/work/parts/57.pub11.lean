/-! ===== MergePost: letter, sign ===== -/
/-- a number of a letter -/
def lval (g : Nat) (r : LRs) (k : Nat) : Int32 := if k = 0 then nI g else if k = 1 then lcd r else match r with
  | .inr _ => -1
  | .inl x => if k = 2 then nI x.1.length else if k = 3 then nI x.2.1 else x.2.2
theorem lval_r {g k : Nat} {q : Int32 × List (Nat × Nat)} (h0 : ¬ k = 0) (h1 : ¬ k = 1) : lval g (.inr q) k = -1 := by unfold lval; rw [if_neg h0, if_neg h1]
theorem lval_2 {g : Nat} {x : List Int32 × Nat × Int32} : lval g (.inl x) 2 = nI x.1.length := rfl
theorem lval_3 {g : Nat} {x : List Int32 × Nat × Int32} : lval g (.inl x) 3 = nI x.2.1 := rfl
theorem lval_4 {g k : Nat} {x : List Int32 × Nat × Int32} (h0 : ¬ k = 0) (h1 : ¬ k = 1) (h2 : ¬ k = 2) (h3 : ¬ k = 3) : lval g (.inl x) k = x.2.2 := by unfold lval; rw [if_neg h0, if_neg h1]; dsimp only; rw [if_neg h2, if_neg h3]
/-- a sign of its text -/
def lsg (r : LRs) (p : Int32) : Int32 := match r with
  | .inr _ => 0
  | .inl x => lAt x.1 p
theorem lsg_chr {V : aV} {a g : Nat} {r : LRs} (h : DA V a g r) (p : Int32) : 0 ≤ (lsg r p).toInt ∧ (lsg r p).toInt < 65536 := by
  cases r with
  | inl x => exact lAt_chr h.2.2.1 p
  | inr q => exact (by decide : 0 ≤ (0 : Int32).toInt ∧ (0 : Int32).toInt < 65536)
set_option maxHeartbeats 4000000 in
theorem ct_letter {V : aV} {L : List Int32} {T : Nat → List Int32} {to : Nat → Bool} {ent : Nat → EntN} {cnt : Nat} {mt po : Nat → Nat} {b st pa n : Nat} {rt rr : Nat → Nat} {pd : Nat → Bool} {kn : Nat → Nat} {kl : Nat → Nat → KL} (hI : CI V L T to ent cnt mt po b st pa n rt rr pd kn kl) (hS : SOK L T to ent cnt mt po b st pa n rt rr pd kn kl) (t u wh : Int32) : CT mX11_letter 9 3 18 [.ref 0, .int t, .int u, .int wh] Sh V (fun v S' V' => ∃ i l k, i < n ∧ i < 8 ∧ t = nI i ∧ u = nI l ∧ l < lcn mt po cnt kn pd rr i ∧ k ≤ 4 ∧ wh = nI k ∧ some (.int (lval (mmb cnt mt po rr pd kl i l) (lrs T to ent cnt mt po b st rt rr pd kl i l) k)) = v ∧ Sh = S' ∧ CI V' L T to ent cnt mt po b st pa n rt rr pd kn kl ∧ FrX V V') (fun E S' V' => Sh = S' ∧ CI V' L T to ent cnt mt po b st pa n rt rr pd kn kl ∧ FrX V V' ∧ ((E = xI ∧ ¬ ltOK n (lcn mt po cnt kn pd rr) t u) ∨ (E = xA ∧ ltOK n (lcn mt po cnt kn pd rr) t u ∧ ¬ (¬ wh < 0 ∧ wh ≤ 4)))) := by
  refine CT_of (by decide +kernel) (Nat.le_of_ble_eq_true rfl) ?_
  show R _ _ _ _ _ _ _ _ 0 [some (.ref 0), some (.int t), some (.int u), some (.int wh), none] [] _ _
  obtain ⟨⟨a1, a2, a3, a4, a5, a6, a7⟩, ⟨b1, ⟨en, sp, b2⟩, b3, b4⟩, c1, d1, d2⟩ := id hI
  obtain ⟨m0, m1, m2, m3, m4, m5⟩ := id a1
  have hn8 := hS.2.2.2.2.1
  have hc := b2.2.2.2.1
  refine R_aload_0 dX11_letter_0 ?_
  refine R_iload_1 dX11_letter_1 ?_
  refine R_iload_2 dX11_letter_2 ?_
  refine R_callV (T := mX11_letter) (T' := mX11_checkLetter) (As := [_, _]) (ci := 11) okX11_checkLetter mlX11_203 rfl (by decide) sh_0 (ct_checkLetter a1 a6 hn8 d1 b1 b3 b4 hc hS.2.2.1.1 t u) rfl (by decide) (by decide) (Nat.le_of_ble_eq_true rfl) dX11_letter_3 (fun v9 S9 V1 h9 => ?_) (fun E S9 V9 h9 => ⟨h9.2.1, hI.f87 h9.2.2.1, fun b hb => h9.2.2.1 b (by omega), Or.inl ⟨h9.1, h9.2.2.2⟩⟩)
  obtain ⟨rfl, rfl, ⟨i, l, x, y, rfl, rfl, hl, u3⟩, u4⟩ := h9
  have hI1 := hI.f87 u4
  have l12 := lcn_le (mt := mt) (po := po) d1 hS.2.2.1.1 y
  obtain ⟨r1, r2, r3, r4, r5, r6, r7⟩ := d1 i y
  have n5 := (congrFun (u4 0 (by decide)) 5).trans m5
  have n199 := (congrFun (u4 199 (by decide)) i).trans r1
  have okl : ltOK n (lcn mt po cnt kn pd rr) (nI i) (nI l) := ⟨i, l, x, y, rfl, rfl, hl⟩
  have hX1 : FrX V V1 := fun b hb => u4 b (by omega)
  refine R_iload_3 dX11_letter_6 ?_
  refine R_if_lt 15 dX11_letter_7 (by decide) (fun c7 => ?_) (fun c7 => ?_)
  · first
      | exact R_throw (T := mX11_letter) rfl a_fit2 th_a4 clX11_55 th_a5 srX11_206 th_a1 th_a2 th_a3 dX11_letter_15 dX11_letter_18 dX11_letter_19 dX11_letter_21 dX11_letter_24 (by decide) (Nat.le_of_ble_eq_true rfl) rfl ⟨rfl, hI1, hX1, Or.inr ⟨rfl, okl, fun z => z.1 c7⟩⟩
      | exact R_throw (T := mX11_letter) rfl a_fit2 th_a4 clX11_55 th_a5 srX11_206 th_a1 th_a2 th_a3 dX11_letter_15 dX11_letter_18 dX11_letter_19 dX11_letter_21 dX11_letter_24 (by decide) (Nat.le_of_ble_eq_true rfl) rfl ⟨rfl, hI1, hX1, Or.inr ⟨rfl, okl, fun z => c12 z.2⟩⟩
  · refine R_iload_3 dX11_letter_10 ?_
    refine R_iconst (v := 4) dX11_letter_11 (by decide) ?_
    refine R_icmp_le 25 dX11_letter_12 (by decide) (fun c12 => ?_) (fun c12 => ?_)
    · obtain ⟨k, hk, rfl⟩ := nI_of c7
      have h4 : k ≤ 4 := (nI_leI (b := 4) hk (by decide)).1 c12
      refine R_aload_0 dX11_letter_25 ?_
      refine R_aload_0 dX11_letter_26 ?_
      refine gfX11_46 rfl dX11_letter_27 sh_0 n5 ?_
      refine R_iload_1 dX11_letter_30 ?_
      refine R_aald_18 dX11_letter_31 sh_199 (vp_in_nI (by omega) (by decide)) (nI_clamp (by omega)) n199 ?_
      refine R_iload_2 dX11_letter_32 ?_
      refine R_callV (T := mX11_letter) (T' := mX11_findLetter) (As := [_, _]) (ci := 11) okX11_findLetter mlX11_208 rfl (by decide) sh_0 (ct_find hI1 hS y hl u3) rfl (by decide) (by decide) (Nat.le_of_ble_eq_true rfl) dX11_letter_33 (fun v9 S9 V2 h9 => ?_) (fun E S9 V9 h9 => h9.elim)
      obtain ⟨a, rfl, rfl, dA, ar, ap, hI2, hX2⟩ := h9
      obtain ⟨sA, fA1, fA2⟩ := dA.f
      have hX := hX1.trans hX2
      refine R_astore_4 rfl (by decide) dX11_letter_36 ?_
      refine R_iload_3 dX11_letter_38 ?_
      refine R_if_ne 48 dX11_letter_39 (by decide) (fun c39 => ?_) (fun c39 => ?_)
      · have n0 : ¬ k = 0 := fun z => c39 (by rw [z]; rfl)
        refine R_iload_3 dX11_letter_48 ?_
        refine R_iconst (v := 1) dX11_letter_49 (by decide) ?_
        refine R_icmp_ne 59 dX11_letter_50 (by decide) (fun c50 => ?_) (fun c50 => ?_)
        · have n1 : ¬ k = 1 := fun z => c50 (by rw [z]; rfl)
          refine R_aload_4 dX11_letter_59 ?_
          refine gfX11_217 rfl dX11_letter_61 sA fA2 ?_
          refine R_if_eq 69 dX11_letter_64 (by decide) (fun c64 => ?_) (fun c64 => ?_)
          · obtain ⟨X, er, hL⟩ := dA.il c64
            obtain ⟨L1, L2, L3, L4, L5, L6, L7⟩ := hL
            refine R_iload_3 dX11_letter_69 ?_
            refine R_iconst (v := 2) dX11_letter_70 (by decide) ?_
            refine R_icmp_ne 85 dX11_letter_71 (by decide) (fun c71 => ?_) (fun c71 => ?_)
            · refine R_iload_3 dX11_letter_85 ?_
              refine R_iconst (v := 3) dX11_letter_86 (by decide) ?_
              refine R_icmp_ne 98 dX11_letter_87 (by decide) (fun c87 => ?_) (fun c87 => ?_)
              · refine R_aload_4 dX11_letter_98 ?_
                refine gfX11_226 rfl dX11_letter_100 sA L7 ?_
                first
                  | exact R_iret rfl dX11_letter_103 ⟨i, l, k, x, y, rfl, rfl, hl, h4, rfl, (by rw [er, show k = 2 from (nI_eq (by omega) (by decide)).1 c71]; rfl), rfl, hI2, hX⟩
                  | exact R_iret rfl dX11_letter_103 ⟨i, l, k, x, y, rfl, rfl, hl, h4, rfl, (by rw [er, show k = 3 from (nI_eq (by omega) (by decide)).1 c87]; rfl), rfl, hI2, hX⟩
                  | exact R_iret rfl dX11_letter_103 ⟨i, l, k, x, y, rfl, rfl, hl, h4, rfl, (by rw [er, lval_4 n0 n1 (fun z => c71 (by rw [z]; rfl)) (fun z => c87 (by rw [z]; rfl))]), rfl, hI2, hX⟩
              · refine R_aload_4 dX11_letter_90 ?_
                refine gfX11_223 rfl dX11_letter_92 sA L6 ?_
                refine R_goto 103 dX11_letter_95 (by decide) ?_
                first
                  | exact R_iret rfl dX11_letter_103 ⟨i, l, k, x, y, rfl, rfl, hl, h4, rfl, (by rw [er, show k = 2 from (nI_eq (by omega) (by decide)).1 c71]; rfl), rfl, hI2, hX⟩
                  | exact R_iret rfl dX11_letter_103 ⟨i, l, k, x, y, rfl, rfl, hl, h4, rfl, (by rw [er, show k = 3 from (nI_eq (by omega) (by decide)).1 c87]; rfl), rfl, hI2, hX⟩
                  | exact R_iret rfl dX11_letter_103 ⟨i, l, k, x, y, rfl, rfl, hl, h4, rfl, (by rw [er, lval_4 n0 n1 (fun z => c71 (by rw [z]; rfl)) (fun z => c87 (by rw [z]; rfl))]), rfl, hI2, hX⟩
            · refine R_aload_4 dX11_letter_74 ?_
              refine gfX11_220 rfl dX11_letter_76 sA L2 ?_
              refine gfX11_66 rfl dX11_letter_79 L3.1 L3.len1 ?_
              refine R_goto 103 dX11_letter_82 (by decide) ?_
              first
                | exact R_iret rfl dX11_letter_103 ⟨i, l, k, x, y, rfl, rfl, hl, h4, rfl, (by rw [er, show k = 2 from (nI_eq (by omega) (by decide)).1 c71]; rfl), rfl, hI2, hX⟩
                | exact R_iret rfl dX11_letter_103 ⟨i, l, k, x, y, rfl, rfl, hl, h4, rfl, (by rw [er, show k = 3 from (nI_eq (by omega) (by decide)).1 c87]; rfl), rfl, hI2, hX⟩
                | exact R_iret rfl dX11_letter_103 ⟨i, l, k, x, y, rfl, rfl, hl, h4, rfl, (by rw [er, lval_4 n0 n1 (fun z => c71 (by rw [z]; rfl)) (fun z => c87 (by rw [z]; rfl))]), rfl, hI2, hX⟩
          · obtain ⟨q, er, -⟩ := dA.ir c64
            refine R_iconst (v := -1) dX11_letter_67 (by decide) ?_
            refine R_iret rfl dX11_letter_68 ⟨i, l, k, x, y, rfl, rfl, hl, h4, rfl, (by rw [er, lval_r n0 n1]), rfl, hI2, hX⟩
        · refine R_aload_4 dX11_letter_53 ?_
          refine gfX11_217 rfl dX11_letter_55 sA fA2 ?_
          refine R_iret rfl dX11_letter_58 ⟨i, l, k, x, y, rfl, rfl, hl, h4, rfl, (by rw [show k = 1 from (nI_eq (by omega) (by decide)).1 c50]; rfl), rfl, hI2, hX⟩
      · refine R_aload_4 dX11_letter_42 ?_
        refine gfX11_212 rfl dX11_letter_44 sA fA1 ?_
        refine R_iret rfl dX11_letter_47 ⟨i, l, k, x, y, rfl, rfl, hl, h4, rfl, (by rw [show k = 0 from (nI_eq (by omega) (by decide)).1 c39]; rfl), rfl, hI2, hX⟩
    · first
        | exact R_throw (T := mX11_letter) rfl a_fit2 th_a4 clX11_55 th_a5 srX11_206 th_a1 th_a2 th_a3 dX11_letter_15 dX11_letter_18 dX11_letter_19 dX11_letter_21 dX11_letter_24 (by decide) (Nat.le_of_ble_eq_true rfl) rfl ⟨rfl, hI1, hX1, Or.inr ⟨rfl, okl, fun z => z.1 c7⟩⟩
        | exact R_throw (T := mX11_letter) rfl a_fit2 th_a4 clX11_55 th_a5 srX11_206 th_a1 th_a2 th_a3 dX11_letter_15 dX11_letter_18 dX11_letter_19 dX11_letter_21 dX11_letter_24 (by decide) (Nat.le_of_ble_eq_true rfl) rfl ⟨rfl, hI1, hX1, Or.inr ⟨rfl, okl, fun z => c12 z.2⟩⟩

set_option maxHeartbeats 4000000 in
theorem ct_sign {V : aV} {L : List Int32} {T : Nat → List Int32} {to : Nat → Bool} {ent : Nat → EntN} {cnt : Nat} {mt po : Nat → Nat} {b st pa n : Nat} {rt rr : Nat → Nat} {pd : Nat → Bool} {kn : Nat → Nat} {kl : Nat → Nat → KL} (hI : CI V L T to ent cnt mt po b st pa n rt rr pd kn kl) (hS : SOK L T to ent cnt mt po b st pa n rt rr pd kn kl) (t u p : Int32) : CT mX11_sign 9 3 18 [.ref 0, .int t, .int u, .int p] Sh V (fun v S' V' => ∃ i l, i < n ∧ i < 8 ∧ t = nI i ∧ u = nI l ∧ l < lcn mt po cnt kn pd rr i ∧ ¬ p < 0 ∧ some (.int (lsg (lrs T to ent cnt mt po b st rt rr pd kl i l) p)) = v ∧ Sh = S' ∧ CI V' L T to ent cnt mt po b st pa n rt rr pd kn kl ∧ FrX V V') (fun E S' V' => Sh = S' ∧ CI V' L T to ent cnt mt po b st pa n rt rr pd kn kl ∧ FrX V V' ∧ E = xI ∧ ¬ (ltOK n (lcn mt po cnt kn pd rr) t u ∧ ¬ p < 0)) := by
  refine CT_of (by decide +kernel) (Nat.le_of_ble_eq_true rfl) ?_
  show R _ _ _ _ _ _ _ _ 0 [some (.ref 0), some (.int t), some (.int u), some (.int p), none] [] _ _
  obtain ⟨⟨a1, a2, a3, a4, a5, a6, a7⟩, ⟨b1, ⟨en, sp, b2⟩, b3, b4⟩, c1, d1, d2⟩ := id hI
  obtain ⟨m0, m1, m2, m3, m4, m5⟩ := id a1
  have hn8 := hS.2.2.2.2.1
  have hc := b2.2.2.2.1
  refine R_aload_0 dX11_sign_0 ?_
  refine R_iload_1 dX11_sign_1 ?_
  refine R_iload_2 dX11_sign_2 ?_
  refine R_callV (T := mX11_sign) (T' := mX11_checkLetter) (As := [_, _]) (ci := 11) okX11_checkLetter mlX11_203 rfl (by decide) sh_0 (ct_checkLetter a1 a6 hn8 d1 b1 b3 b4 hc hS.2.2.1.1 t u) rfl (by decide) (by decide) (Nat.le_of_ble_eq_true rfl) dX11_sign_3 (fun v9 S9 V1 h9 => ?_) (fun E S9 V9 h9 => ⟨h9.2.1, hI.f87 h9.2.2.1, fun b hb => h9.2.2.1 b (by omega), h9.1, fun z => h9.2.2.2 z.1⟩)
  obtain ⟨rfl, rfl, ⟨i, l, x, y, rfl, rfl, hl, u3⟩, u4⟩ := h9
  have hI1 := hI.f87 u4
  have l12 := lcn_le (mt := mt) (po := po) d1 hS.2.2.1.1 y
  obtain ⟨r1, r2, r3, r4, r5, r6, r7⟩ := d1 i y
  have n5 := (congrFun (u4 0 (by decide)) 5).trans m5
  have n199 := (congrFun (u4 199 (by decide)) i).trans r1
  have okl : ltOK n (lcn mt po cnt kn pd rr) (nI i) (nI l) := ⟨i, l, x, y, rfl, rfl, hl⟩
  have hX1 : FrX V V1 := fun b hb => u4 b (by omega)
  refine R_iload_3 dX11_sign_6 ?_
  refine R_if_ge 20 dX11_sign_7 (by decide) (fun c7 => ?_) (fun c7 => ?_)
  · have hp : ¬ p < 0 := Int32.not_lt.2 c7
    refine R_aload_0 dX11_sign_20 ?_
    refine R_aload_0 dX11_sign_21 ?_
    refine gfX11_46 rfl dX11_sign_22 sh_0 n5 ?_
    refine R_iload_1 dX11_sign_25 ?_
    refine R_aald_18 dX11_sign_26 sh_199 (vp_in_nI (by omega) (by decide)) (nI_clamp (by omega)) n199 ?_
    refine R_iload_2 dX11_sign_27 ?_
    refine R_callV (T := mX11_sign) (T' := mX11_findLetter) (As := [_, _]) (ci := 11) okX11_findLetter mlX11_208 rfl (by decide) sh_0 (ct_find hI1 hS y hl u3) rfl (by decide) (by decide) (Nat.le_of_ble_eq_true rfl) dX11_sign_28 (fun v9 S9 V2 h9 => ?_) (fun E S9 V9 h9 => h9.elim)
    obtain ⟨a, rfl, rfl, dA, ar, ap, hI2, hX2⟩ := h9
    obtain ⟨sA, fA1, fA2⟩ := dA.f
    have hX := hX1.trans hX2
    refine R_astore_4 rfl (by decide) dX11_sign_31 ?_
    refine R_aload_4 dX11_sign_33 ?_
    refine gfX11_217 rfl dX11_sign_35 sA fA2 ?_
    refine R_if_eq 45 dX11_sign_38 (by decide) (fun c38 => ?_) (fun c38 => ?_)
    · obtain ⟨X, er, hL⟩ := dA.il c38
      obtain ⟨L1, L2, L3, L4, L5, L6, L7⟩ := hL
      refine R_aload_4 dX11_sign_45 ?_
      refine gfX11_220 rfl dX11_sign_47 sA L2 ?_
      refine R_iload_3 dX11_sign_50 ?_
      refine R_callVN_e (T := mX11_sign) (T' := mX9_signAt) (As := [_]) (ci := 9) okX9_signAt mlX11_131 rfl (by decide) L3.1 (ct_signAtL L3 p) rfl (by decide) (by decide) (Nat.le_of_ble_eq_true rfl) dX11_sign_51 ?_
      refine R_zret rfl (by first | rfl | exact narc_of (lAt_chr L3 p)) dX11_sign_54 ⟨i, l, x, y, rfl, rfl, hl, hp, (by rw [er]; rfl), rfl, hI2, hX⟩
    · obtain ⟨q, er, -⟩ := dA.ir c38
      refine R_iconst (v := 0) dX11_sign_41 (by decide) ?_
      refine R_goto 54 dX11_sign_42 (by decide) ?_
      refine R_zret rfl (by first | rfl | exact narc_of (lAt_chr L3 p)) dX11_sign_54 ⟨i, l, x, y, rfl, rfl, hl, hp, (by rw [er]; rfl), rfl, hI2, hX⟩
  · exact R_throw (T := mX11_sign) rfl a_fit2 th_i4 clX11_102 th_i5 srX11_119 th_i1 th_i2 th_i3 dX11_sign_10 dX11_sign_13 dX11_sign_14 dX11_sign_16 dX11_sign_19 (by decide) (Nat.le_of_ble_eq_true rfl) rfl ⟨rfl, hI1, hX1, rfl, fun z => c7 (Int32.not_lt.1 z.2)⟩

