/-! ===== MergePost: anew, trouble ===== -/
set_option maxHeartbeats 4000000 in
theorem ct_compI {V : aV} {L : List Int32} {T : Nat → List Int32} {to : Nat → Bool} {ent : Nat → EntN} {cnt : Nat} {mt po : Nat → Nat} {b st pa n : Nat} {rt rr : Nat → Nat} {pd : Nat → Bool} {kn : Nat → Nat} {kl : Nat → Nat → KL} (hI : CI V L T to ent cnt mt po b st pa n rt rr pd kn kl) (hS : SOK L T to ent cnt mt po b st pa n rt rr pd kn kl) {a g : Nat} (hg : MBR g) (ha : a < 8) : CT mX11_compose 7 0 0 [.ref 0, .int (nI a), .int (nI g)] Sh V (fun v S' V' => some (.ref 28) = v ∧ Sh = S' ∧ DA V' 28 g (ltr T to ent b st a g) ∧ CI V' L T to ent cnt mt po b st pa n rt rr pd kn kl ∧ FrX V V' ∧ FrC V V') aNo := by
  obtain ⟨⟨a1, a2, a3, a4, a5, a6, a7⟩, ⟨b1, ⟨en, sp, b2⟩, b3, b4⟩, ⟨⟨tl, sp2, c1⟩, c2, c3, ⟨w, vl, c4⟩, s, c5⟩, d1, d2⟩ := id hI
  refine CT_mono (ct_comp a1 c3 c4 (b2.br b1 (fun k hk => (hS.2.2.1.2.1 k hk).1)) c2 c1.1 c5 a4 a5 (by have := hS.2.2.2.1.1; omega) (by have := hS.2.2.2.1.2.1; omega) hg hS.2.1.1 ha) (fun v S' V' h => ?_) (fun _ _ _ h => h)
  obtain ⟨h1, h2, h3, h4, h5, h6⟩ := h
  refine ⟨h1, h2, ?_, hI.frc h6 h5 h4, fun b hb => h6.1 b (by omega) (by omega) (by omega), h6⟩
  cases e : ltr T to ent b st a g with
  | inl x => rw [e] at h3; exact h3
  | inr x => rw [e] at h3; exact ⟨rfl, h3⟩
/-- how many signs the letter made anew has otherwise -/
noncomputable def anv (r m : LRs) : Int32 := match r with
  | .inr _ => 0
  | .inl x => match m with
    | .inr _ => -1
    | .inl y => nI (unl x.1 y.1 (max x.1.length y.1.length))
/-- what is told of the trouble of a letter -/
def trv (r : LRs) (lev pl : Int32) : Int32 := match r with
  | .inl _ => -1
  | .inr q => if lev < nI q.2.length then (if pl = 0 then nI (q.2.getD lev.toNatClampNeg (0, 0)).1 else nI (q.2.getD lev.toNatClampNeg (0, 0)).2) else -1

set_option maxHeartbeats 4000000 in
theorem ct_tmpAt {V : aV} {x : Int32} {lv : Nat} {f : Nat → Int32} (hC : PC V) (h7 : V 4 7 = .int (nI lv)) (h5 : lv ≤ 5) (hf : ∀ i, i < lv → V 31 i = .int (f i)) (hx : ¬ x < 0) : CT mX7_templateAt 0 0 0 [.ref 4, .int x] Sh V (aRet (some (.int (if x < nI lv then f x.toNatClampNeg else -1))) Sh V) aNo := by
  refine CT_of (by decide +kernel) (Nat.le_of_ble_eq_true rfl) ?_
  show R _ _ _ _ _ _ _ _ 0 [some (.ref 4), some (.int x)] [] _ _
  obtain ⟨i, hi, rfl⟩ := nI_of hx
  have hk := hC.2.2.2.1
  refine R_iload_1 dX7_templateAt_0 ?_
  refine R_if_lt 26 dX7_templateAt_1 (by decide) (fun c1 => absurd c1 hx) (fun c1 => ?_)
  refine R_iload_1 dX7_templateAt_4 ?_
  refine R_aload_0 dX7_templateAt_5 ?_
  refine gfX7_50 rfl dX7_templateAt_6 sh_4 h7 ?_
  refine R_icmp_ge 26 dX7_templateAt_9 (by decide) (fun c9 => ?_) (fun c9 => ?_)
  · have e9 : (if nI i < nI lv then f (nI i).toNatClampNeg else -1) = -1 := if_neg (fun z => (Int32.not_lt.2 c9) z)
    rw [e9]
    refine R_iconst (v := -1) dX7_templateAt_26 (by decide) ?_
    refine R_iret rfl dX7_templateAt_27 ⟨rfl, rfl, rfl⟩
  · have hi2 : i < lv := Nat.lt_of_not_le fun q => c9 (nI_le q hi)
    have hf2 := hf i hi2
    have h14 : ¬ (5 : Int32) ≤ nI i := nI_ge (a := i) (b := 5) (by omega) (by decide)
    refine R_iload_1 dX7_templateAt_12 ?_
    refine R_iconst (v := 5) dX7_templateAt_13 (by decide) ?_
    refine R_icmp_ge 26 dX7_templateAt_14 (by decide) (fun c14 => absurd c14 h14) (fun c14 => ?_)
    have e9 : (if nI i < nI lv then f (nI i).toNatClampNeg else -1) = f i := by rw [if_pos (nI_lt hi2 (by omega)), nI_clamp hi]
    rw [e9]
    refine R_aload_0 dX7_templateAt_17 ?_
    refine gfX7_36 rfl dX7_templateAt_18 sh_4 hk ?_
    refine R_iload_1 dX7_templateAt_21 ?_
    refine R_iald dX7_templateAt_22 sh_31 (vp_in_nI (by omega) (by decide)) (nI_clamp (by omega)) hf2 ?_
    refine R_goto 27 dX7_templateAt_23 (by decide) ?_
    refine R_iret rfl dX7_templateAt_27 ⟨rfl, rfl, rfl⟩


set_option maxHeartbeats 4000000 in
theorem ct_plcAt {V : aV} {x : Int32} {lv : Nat} {f : Nat → Int32} (hC : PC V) (h7 : V 4 7 = .int (nI lv)) (h5 : lv ≤ 5) (hf : ∀ i, i < lv → V 32 i = .int (f i)) (hx : ¬ x < 0) : CT mX7_placeAt 0 0 0 [.ref 4, .int x] Sh V (aRet (some (.int (if x < nI lv then f x.toNatClampNeg else -1))) Sh V) aNo := by
  refine CT_of (by decide +kernel) (Nat.le_of_ble_eq_true rfl) ?_
  show R _ _ _ _ _ _ _ _ 0 [some (.ref 4), some (.int x)] [] _ _
  obtain ⟨i, hi, rfl⟩ := nI_of hx
  have hk := hC.2.2.2.2.1
  refine R_iload_1 dX7_placeAt_0 ?_
  refine R_if_lt 26 dX7_placeAt_1 (by decide) (fun c1 => absurd c1 hx) (fun c1 => ?_)
  refine R_iload_1 dX7_placeAt_4 ?_
  refine R_aload_0 dX7_placeAt_5 ?_
  refine gfX7_50 rfl dX7_placeAt_6 sh_4 h7 ?_
  refine R_icmp_ge 26 dX7_placeAt_9 (by decide) (fun c9 => ?_) (fun c9 => ?_)
  · have e9 : (if nI i < nI lv then f (nI i).toNatClampNeg else -1) = -1 := if_neg (fun z => (Int32.not_lt.2 c9) z)
    rw [e9]
    refine R_iconst (v := -1) dX7_placeAt_26 (by decide) ?_
    refine R_iret rfl dX7_placeAt_27 ⟨rfl, rfl, rfl⟩
  · have hi2 : i < lv := Nat.lt_of_not_le fun q => c9 (nI_le q hi)
    have hf2 := hf i hi2
    have h14 : ¬ (5 : Int32) ≤ nI i := nI_ge (a := i) (b := 5) (by omega) (by decide)
    refine R_iload_1 dX7_placeAt_12 ?_
    refine R_iconst (v := 5) dX7_placeAt_13 (by decide) ?_
    refine R_icmp_ge 26 dX7_placeAt_14 (by decide) (fun c14 => absurd c14 h14) (fun c14 => ?_)
    have e9 : (if nI i < nI lv then f (nI i).toNatClampNeg else -1) = f i := by rw [if_pos (nI_lt hi2 (by omega)), nI_clamp hi]
    rw [e9]
    refine R_aload_0 dX7_placeAt_17 ?_
    refine gfX7_40 rfl dX7_placeAt_18 sh_4 hk ?_
    refine R_iload_1 dX7_placeAt_21 ?_
    refine R_iald dX7_placeAt_22 sh_32 (vp_in_nI (by omega) (by decide)) (nI_clamp (by omega)) hf2 ?_
    refine R_goto 27 dX7_placeAt_23 (by decide) ?_
    refine R_iret rfl dX7_placeAt_27 ⟨rfl, rfl, rfl⟩

set_option maxHeartbeats 4000000 in
theorem ct_anew {V : aV} {L : List Int32} {T : Nat → List Int32} {to : Nat → Bool} {ent : Nat → EntN} {cnt : Nat} {mt po : Nat → Nat} {b st pa n : Nat} {rt rr : Nat → Nat} {pd : Nat → Bool} {kn : Nat → Nat} {kl : Nat → Nat → KL} (hI : CI V L T to ent cnt mt po b st pa n rt rr pd kn kl) (hS : SOK L T to ent cnt mt po b st pa n rt rr pd kn kl) (t u : Int32) : CT mX11_anew 9 2 12 [.ref 0, .int t, .int u] Sh V (fun v S' V' => ∃ i l, i < n ∧ i < 8 ∧ t = nI i ∧ u = nI l ∧ l < lcn mt po cnt kn pd rr i ∧ some (.int (anv (lrs T to ent cnt mt po b st rt rr pd kl i l) (ltr T to ent b st (rt i) (mmb cnt mt po rr pd kl i l)))) = v ∧ Sh = S' ∧ CI V' L T to ent cnt mt po b st pa n rt rr pd kn kl ∧ FrX V V') (fun E S' V' => Sh = S' ∧ CI V' L T to ent cnt mt po b st pa n rt rr pd kn kl ∧ FrX V V' ∧ E = xI ∧ ¬ ltOK n (lcn mt po cnt kn pd rr) t u) := by
  refine CT_of (by decide +kernel) (Nat.le_of_ble_eq_true rfl) ?_
  show R _ _ _ _ _ _ _ _ 0 [some (.ref 0), some (.int t), some (.int u), none, none] [] _ _
  obtain ⟨⟨a1, a2, a3, a4, a5, a6, a7⟩, ⟨b1, ⟨en, sp, b2⟩, b3, b4⟩, c1, d1, d2⟩ := id hI
  obtain ⟨m0, m1, m2, m3, m4, m5⟩ := id a1
  have hn8 := hS.2.2.2.2.1
  have hc := b2.2.2.2.1
  refine R_aload_0 dX11_anew_0 ?_
  refine R_iload_1 dX11_anew_1 ?_
  refine R_iload_2 dX11_anew_2 ?_
  refine R_callV (T := mX11_anew) (T' := mX11_checkLetter) (As := [_, _]) (ci := 11) okX11_checkLetter mlX11_203 rfl (by decide) sh_0 (ct_checkLetter a1 a6 hn8 d1 b1 b3 b4 hc hS.2.2.1.1 t u) rfl (by decide) (by decide) (Nat.le_of_ble_eq_true rfl) dX11_anew_3 (fun v9 S9 V1 h9 => ?_) (fun E S9 V9 h9 => ⟨h9.2.1, hI.f87 h9.2.2.1, fun b hb => h9.2.2.1 b (by omega), h9.1, h9.2.2.2⟩)
  obtain ⟨rfl, rfl, ⟨i, l, x, y, rfl, rfl, hl, u3⟩, u4⟩ := h9
  have hI1 := hI.f87 u4
  have l12 := lcn_le (mt := mt) (po := po) d1 hS.2.2.1.1 y
  obtain ⟨r1, r2, r3, r4, r5, r6, r7⟩ := d1 i y
  have n5 := (congrFun (u4 0 (by decide)) 5).trans m5
  have n199 := (congrFun (u4 199 (by decide)) i).trans r1
  have okl : ltOK n (lcn mt po cnt kn pd rr) (nI i) (nI l) := ⟨i, l, x, y, rfl, rfl, hl⟩
  have hX1 : FrX V V1 := fun b hb => u4 b (by omega)
  refine R_aload_0 dX11_anew_6 ?_
  refine R_aload_0 dX11_anew_7 ?_
  refine gfX11_46 rfl dX11_anew_8 sh_0 n5 ?_
  refine R_iload_1 dX11_anew_11 ?_
  refine R_aald_18 dX11_anew_12 sh_199 (vp_in_nI (by omega) (by decide)) (nI_clamp (by omega)) n199 ?_
  refine R_iload_2 dX11_anew_13 ?_
  refine R_callV (T := mX11_anew) (T' := mX11_findLetter) (As := [_, _]) (ci := 11) okX11_findLetter mlX11_208 rfl (by decide) sh_0 (ct_find hI1 hS y hl u3) rfl (by decide) (by decide) (Nat.le_of_ble_eq_true rfl) dX11_anew_14 (fun v9 S9 V2 h9 => ?_) (fun E S9 V9 h9 => h9.elim)
  obtain ⟨a, rfl, rfl, dA, ar, ap, hI2, hX2⟩ := h9
  obtain ⟨sA, fA1, fA2⟩ := dA.f
  have hX := hX1.trans hX2
  refine R_astore_3 rfl (by decide) dX11_anew_17 ?_
  refine R_aload_3 dX11_anew_18 ?_
  refine gfX11_217 rfl dX11_anew_19 sA fA2 ?_
  refine R_if_eq 27 dX11_anew_22 (by decide) (fun c22 => ?_) (fun c22 => ?_)
  · obtain ⟨X, er, hL⟩ := dA.il c22
    obtain ⟨m0', m1', m2', m3', m4', m5'⟩ := hI2.1.1
    obtain ⟨R1, R2, R3, R4, R5, R6, R7⟩ := hI2.2.2.2.1 i y
    have R9 := R2.1
    refine R_aload_0 dX11_anew_27 ?_
    refine R_aload_0 dX11_anew_28 ?_
    refine gfX11_46 rfl dX11_anew_29 sh_0 m5' ?_
    refine R_iload_1 dX11_anew_32 ?_
    refine R_aald_18 dX11_anew_33 sh_199 (vp_in_nI (by omega) (by decide)) (nI_clamp (by omega)) R1 ?_
    refine gfX11_190 rfl dX11_anew_34 R9 R4 ?_
    refine R_aload_3 dX11_anew_37 ?_
    refine gfX11_212 rfl dX11_anew_38 sA fA1 ?_
    refine R_callV (T := mX11_anew) (T' := mX11_compose) (As := [_, _]) (ci := 11) okX11_compose mlX11_229 rfl (by decide) sh_0 (ct_compI hI2 hS (mmb_mbr hS y hl) r6) rfl (by decide) (by decide) (Nat.le_of_ble_eq_true rfl) dX11_anew_41 (fun v9 S9 V3 h9 => ?_) (fun E S9 V9 h9 => h9.elim)
    obtain ⟨rfl, rfl, dM, hI3, hX3, hC3⟩ := h9
    obtain ⟨sM, fM1, fM2⟩ := dM.f
    have hX9 := hX.trans hX3
    have hL9 : LT V3 a X.1 (nI (mmb cnt mt po rr pd kl i l)) 0 (nI X.2.1) X.2.2 := by
      rcases ar with rfl | ar
      · have hp := ap rfl
        have e1 : (lrs T to ent cnt mt po b st rt rr pd kl i l) = ltr T to ent b st (rt i) (mmb cnt mt po rr pd kl i l) := by
          unfold lrs mmb
          rw [if_neg (by rw [hp]; decide), if_neg (by rw [hp]; decide)]
        rw [← e1, er] at dM
        exact dM
      · exact hL.fr (fun b q1 q2 => hC3.1 b (by omega) (by omega) (by omega))
    obtain ⟨G1, G2, G3, G4, G5, G6, G7⟩ := hL9
    refine R_astore_4 rfl (by decide) dX11_anew_44 ?_
    refine R_aload_4 dX11_anew_46 ?_
    refine gfX11_217 rfl dX11_anew_48 sM fM2 ?_
    refine R_if_eq 58 dX11_anew_51 (by decide) (fun c51 => ?_) (fun c51 => ?_)
    · obtain ⟨Y, em, hM9⟩ := dM.il c51
      obtain ⟨M1, M2, M3, M4, M5, M6, M7⟩ := hM9
      refine R_aload_3 dX11_anew_58 ?_
      refine gfX11_220 rfl dX11_anew_59 G1 G2 ?_
      refine R_aload_4 dX11_anew_62 ?_
      refine gfX11_220 rfl dX11_anew_64 sM M2 ?_
      refine R_callVN_e (T := mX11_anew) (T' := mX9_unlikeSigns) (As := [_]) (ci := 9) okX9_unlikeSigns mlX11_233 rfl (by decide) G3.1 (ct_unlike G3 M3) rfl (by decide) (by decide) (Nat.le_of_ble_eq_true rfl) dX11_anew_67 ?_
      refine R_iret rfl dX11_anew_70 ⟨i, l, x, y, rfl, rfl, hl, (by rw [er, em]; rfl), rfl, hI3, hX9⟩
    · obtain ⟨q, em, -⟩ := dM.ir c51
      refine R_iconst (v := -1) dX11_anew_54 (by decide) ?_
      refine R_goto 70 dX11_anew_55 (by decide) ?_
      refine R_iret rfl dX11_anew_70 ⟨i, l, x, y, rfl, rfl, hl, (by rw [er, em]; rfl), rfl, hI3, hX9⟩
  · obtain ⟨q, er, -⟩ := dA.ir c22
    refine R_iconst (v := 0) dX11_anew_25 (by decide) ?_
    refine R_iret rfl dX11_anew_26 ⟨i, l, x, y, rfl, rfl, hl, (by rw [er]; rfl), rfl, hI2, hX⟩

set_option maxHeartbeats 4000000 in
theorem ct_trouble {V : aV} {L : List Int32} {T : Nat → List Int32} {to : Nat → Bool} {ent : Nat → EntN} {cnt : Nat} {mt po : Nat → Nat} {b st pa n : Nat} {rt rr : Nat → Nat} {pd : Nat → Bool} {kn : Nat → Nat} {kl : Nat → Nat → KL} (hI : CI V L T to ent cnt mt po b st pa n rt rr pd kn kl) (hS : SOK L T to ent cnt mt po b st pa n rt rr pd kn kl) (t u lev pl : Int32) : CT mX11_trouble 9 3 18 [.ref 0, .int t, .int u, .int lev, .int pl] Sh V (fun v S' V' => ∃ i l, i < n ∧ i < 8 ∧ t = nI i ∧ u = nI l ∧ l < lcn mt po cnt kn pd rr i ∧ ¬ lev < 0 ∧ some (.int (trv (lrs T to ent cnt mt po b st rt rr pd kl i l) lev pl)) = v ∧ Sh = S' ∧ CI V' L T to ent cnt mt po b st pa n rt rr pd kn kl ∧ FrX V V') (fun E S' V' => Sh = S' ∧ CI V' L T to ent cnt mt po b st pa n rt rr pd kn kl ∧ FrX V V' ∧ E = xI ∧ ¬ (ltOK n (lcn mt po cnt kn pd rr) t u ∧ ¬ lev < 0)) := by
  refine CT_of (by decide +kernel) (Nat.le_of_ble_eq_true rfl) ?_
  show R _ _ _ _ _ _ _ _ 0 [some (.ref 0), some (.int t), some (.int u), some (.int lev), some (.int pl)] [] _ _
  obtain ⟨⟨a1, a2, a3, a4, a5, a6, a7⟩, ⟨b1, ⟨en, sp, b2⟩, b3, b4⟩, c1, d1, d2⟩ := id hI
  obtain ⟨m0, m1, m2, m3, m4, m5⟩ := id a1
  have hn8 := hS.2.2.2.2.1
  have hc := b2.2.2.2.1
  refine R_aload_0 dX11_trouble_0 ?_
  refine R_iload_1 dX11_trouble_1 ?_
  refine R_iload_2 dX11_trouble_2 ?_
  refine R_callV (T := mX11_trouble) (T' := mX11_checkLetter) (As := [_, _]) (ci := 11) okX11_checkLetter mlX11_203 rfl (by decide) sh_0 (ct_checkLetter a1 a6 hn8 d1 b1 b3 b4 hc hS.2.2.1.1 t u) rfl (by decide) (by decide) (Nat.le_of_ble_eq_true rfl) dX11_trouble_3 (fun v9 S9 V1 h9 => ?_) (fun E S9 V9 h9 => ⟨h9.2.1, hI.f87 h9.2.2.1, fun b hb => h9.2.2.1 b (by omega), h9.1, fun z => h9.2.2.2 z.1⟩)
  obtain ⟨rfl, rfl, ⟨i, l, x, y, rfl, rfl, hl, u3⟩, u4⟩ := h9
  have hI1 := hI.f87 u4
  have l12 := lcn_le (mt := mt) (po := po) d1 hS.2.2.1.1 y
  obtain ⟨r1, r2, r3, r4, r5, r6, r7⟩ := d1 i y
  have n5 := (congrFun (u4 0 (by decide)) 5).trans m5
  have n199 := (congrFun (u4 199 (by decide)) i).trans r1
  have okl : ltOK n (lcn mt po cnt kn pd rr) (nI i) (nI l) := ⟨i, l, x, y, rfl, rfl, hl⟩
  have hX1 : FrX V V1 := fun b hb => u4 b (by omega)
  refine R_iload_3 dX11_trouble_6 ?_
  refine R_if_ge 20 dX11_trouble_7 (by decide) (fun c7 => ?_) (fun c7 => ?_)
  · have hp : ¬ lev < 0 := Int32.not_lt.2 c7
    refine R_aload_0 dX11_trouble_20 ?_
    refine R_aload_0 dX11_trouble_21 ?_
    refine gfX11_46 rfl dX11_trouble_22 sh_0 n5 ?_
    refine R_iload_1 dX11_trouble_25 ?_
    refine R_aald_18 dX11_trouble_26 sh_199 (vp_in_nI (by omega) (by decide)) (nI_clamp (by omega)) n199 ?_
    refine R_iload_2 dX11_trouble_27 ?_
    refine R_callV (T := mX11_trouble) (T' := mX11_findLetter) (As := [_, _]) (ci := 11) okX11_findLetter mlX11_208 rfl (by decide) sh_0 (ct_find hI1 hS y hl u3) rfl (by decide) (by decide) (Nat.le_of_ble_eq_true rfl) dX11_trouble_28 (fun v9 S9 V2 h9 => ?_) (fun E S9 V9 h9 => h9.elim)
    obtain ⟨a, rfl, rfl, dA, ar, ap, hI2, hX2⟩ := h9
    obtain ⟨sA, fA1, fA2⟩ := dA.f
    have hX := hX1.trans hX2
    refine gfX11_217 rfl dX11_trouble_31 sA fA2 ?_
    refine R_if_ne 39 dX11_trouble_34 (by decide) (fun c34 => ?_) (fun c34 => ?_)
    · obtain ⟨q, er, D1, D2, D3, D4, D5, D6⟩ := dA.ir c34
      have PCx := hI2.2.2.1.2.1
      have m1x := hI2.1.1.2.1
      refine R_iload_4 dX11_trouble_39 ?_
      refine R_if_eq 55 dX11_trouble_41 (by decide) (fun c41 => ?_) (fun c41 => ?_)
      · refine R_aload_0 dX11_trouble_55 ?_
        refine gfX11_19 rfl dX11_trouble_56 sh_0 m1x ?_
        refine R_iload_3 dX11_trouble_59 ?_
        refine R_callVN_e (T := mX11_trouble) (T' := mX7_templateAt) (As := [_]) (ci := 7) okX7_templateAt mlX11_242 rfl (by decide) sh_4 (ct_tmpAt (f := fun j => nI (q.2.getD j (0, 0)).1) PCx D4 D5 (fun j hj => (D6 j hj).1) hp) rfl (by decide) (by decide) (Nat.le_of_ble_eq_true rfl) dX11_trouble_60 ?_
        refine R_iret rfl dX11_trouble_63 ⟨i, l, x, y, rfl, rfl, hl, hp, (by rw [er]; unfold trv; dsimp only; first | rw [if_pos c41] | rw [if_neg c41]), rfl, hI2, hX⟩
      · refine R_aload_0 dX11_trouble_44 ?_
        refine gfX11_19 rfl dX11_trouble_45 sh_0 m1x ?_
        refine R_iload_3 dX11_trouble_48 ?_
        refine R_callVN_e (T := mX11_trouble) (T' := mX7_placeAt) (As := [_]) (ci := 7) okX7_placeAt mlX11_239 rfl (by decide) sh_4 (ct_plcAt (f := fun j => nI (q.2.getD j (0, 0)).2) PCx D4 D5 (fun j hj => (D6 j hj).2) hp) rfl (by decide) (by decide) (Nat.le_of_ble_eq_true rfl) dX11_trouble_49 ?_
        refine R_goto 63 dX11_trouble_52 (by decide) ?_
        refine R_iret rfl dX11_trouble_63 ⟨i, l, x, y, rfl, rfl, hl, hp, (by rw [er]; unfold trv; dsimp only; first | rw [if_pos c41] | rw [if_neg c41]), rfl, hI2, hX⟩
    · obtain ⟨X, er, hL⟩ := dA.il c34
      refine R_iconst (v := -1) dX11_trouble_37 (by decide) ?_
      refine R_iret rfl dX11_trouble_38 ⟨i, l, x, y, rfl, rfl, hl, hp, (by rw [er]; rfl), rfl, hI2, hX⟩
  · exact R_throw (T := mX11_trouble) rfl a_fit2 th_i4 clX11_102 th_i5 srX11_237 th_i1 th_i2 th_i3 dX11_trouble_10 dX11_trouble_13 dX11_trouble_14 dX11_trouble_16 dX11_trouble_19 (by decide) (Nat.le_of_ble_eq_true rfl) rfl ⟨rfl, hI1, hX1, rfl, fun z => c7 (Int32.not_lt.1 z.2)⟩

