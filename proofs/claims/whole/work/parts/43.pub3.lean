/-! ===== MergePost: cleaned, apart, address ===== -/
noncomputable def cwd (x : Ent) (b : Int32) : List Int32 := if b = 0 then cl x.1 else cl x.2.1
theorem AE.cw {V : aV} {a : Nat} {x : Ent} (h : AE V a x) (b : Int32) : ∃ s, (if b = 0 then a + 5 else a + 7) = s ∧ (s = a + 5 ∨ s = a + 7) ∧ SL Sh V s 12 (cwd x b) := by
  unfold cwd
  by_cases q : b = 0
  · rw [if_pos q, if_pos q]; exact ⟨_, rfl, Or.inl rfl, h.1.2.2.2.2.1⟩
  · rw [if_neg q, if_neg q]; exact ⟨_, rfl, Or.inr rfl, h.1.2.2.2.2.2⟩
noncomputable def clC (x : Ent) (b p : Int32) : Int32 := if lAt (cwd x b) p = 0 then 32 else lAt (cwd x b) p
set_option maxHeartbeats 4000000 in
theorem ct_cleanedWord {V : aV} {a : Nat} {x : Ent} (h : AE V a x) (b : Int32) : CT mX0_cleanedWord 0 0 0 [.ref a, .int b] Sh V (aRet (some (.ref (if b = 0 then a + 5 else a + 7))) Sh V) aNo := by
  refine CT_of (by decide +kernel) (Nat.le_of_ble_eq_true rfl) ?_
  show R _ _ _ _ _ _ _ _ 0 [some (.ref a), some (.int b)] [] _ _
  have s1 := h.1.1.1
  have f2 := h.1.2.1.2.2.1
  have f3 := h.1.2.1.2.2.2
  refine R_iload_1 dX0_cleanedWord_0 ?_
  refine R_if_eq 11 dX0_cleanedWord_1 (by decide) (fun c1 => ?_) (fun c1 => ?_)
  · refine R_aload_0 dX0_cleanedWord_11 ?_
    refine gfX0_23 rfl dX0_cleanedWord_12 s1 f2 ?_
    refine R_aret rfl dX0_cleanedWord_15 (by first | (rw [if_pos c1]; exact ⟨rfl, rfl, rfl⟩) | (rw [if_neg c1]; exact ⟨rfl, rfl, rfl⟩))
  · refine R_aload_0 dX0_cleanedWord_4 ?_
    refine gfX0_26 rfl dX0_cleanedWord_5 s1 f3 ?_
    refine R_goto 15 dX0_cleanedWord_8 (by decide) ?_
    refine R_aret rfl dX0_cleanedWord_15 (by first | (rw [if_pos c1]; exact ⟨rfl, rfl, rfl⟩) | (rw [if_neg c1]; exact ⟨rfl, rfl, rfl⟩))

set_option maxHeartbeats 4000000 in
theorem ct_cleaned {V : aV} {cnt : Nat} {en : Nat → Nat} {sp : Nat} {ent : Nat → Ent} (hM : MB V) (hB : BF V) (hE : BE V en sp ent cnt) (t b p : Int32) : CT mX11_cleaned 7 2 12 [.ref 0, .int t, .int b, .int p] Sh V (fun v S' V' => ∃ k, k < cnt ∧ k < 12 ∧ t = nI k ∧ ¬ p < 0 ∧ some (.int (clC (ent k) b p)) = v ∧ Sh = S' ∧ V = V') (QXc V (¬ (okN t cnt 12 ∧ ¬ p < 0))) := by
  refine CT_of (by decide +kernel) (Nat.le_of_ble_eq_true rfl) ?_
  show R _ _ _ _ _ _ _ _ 0 [some (.ref 0), some (.int t), some (.int b), some (.int p), none] [] _ _
  obtain ⟨m0, m1, m2, m3, m4, m5⟩ := id hM
  obtain ⟨f0, f2, f3, f4⟩ := id hB
  have hc := hE.2.2.2.1
  refine R_aload_0 dX11_cleaned_0 ?_
  refine R_iload_1 dX11_cleaned_1 ?_
  refine R_callV (T := mX11_cleaned) (T' := mX11_checkAddress) (As := [_]) (ci := 11) okX11_checkAddress mlX11_116 rfl (by decide) sh_0 (ct_checkAddress hM hc t) rfl (by decide) (by decide) (Nat.le_of_ble_eq_true rfl) dX11_cleaned_2 (fun v9 S9 V9 h9 => ?_) (fun E S9 V9 h9 => ⟨h9.1, fun z => h9.2.1 z.1, h9.2.2⟩)
  obtain ⟨rfl, o, rfl, rfl⟩ := h9
  obtain ⟨k, x, y, e⟩ := okN_nI o (by decide)
  refine R_iload_3 dX11_cleaned_5 ?_
  refine R_if_ge 19 dX11_cleaned_6 (by decide) (fun c6 => ?_) (fun c6 => ?_)
  · have hp : ¬ p < 0 := Int32.not_lt.2 c6
    subst e
    obtain ⟨q1, q2, q3, _⟩ := hE.1 k y
    obtain ⟨w1, w2, _, w3⟩ := q3.cw b
    refine R_aload_0 dX11_cleaned_19 ?_
    refine gfX11_26 rfl dX11_cleaned_20 sh_0 m2 ?_
    refine gfX11_121 rfl dX11_cleaned_23 sh_74 f0 ?_
    refine R_iload_1 dX11_cleaned_26 ?_
    refine R_aald_16 dX11_cleaned_27 sh_75 (vp_in_nI (by omega) (by decide)) (nI_clamp (by omega)) q1 ?_
    refine R_iload_2 dX11_cleaned_28 ?_
    refine R_callVN_e (T := mX11_cleaned) (T' := mX0_cleanedWord) (As := [_]) (ci := 0) okX0_cleanedWord mlX11_125 rfl (by decide) q3.1.1.1 (ct_cleanedWord q3 b) rfl (by decide) (by decide) (Nat.le_of_ble_eq_true rfl) dX11_cleaned_29 ?_
    rw [w2]
    refine R_iload_3 dX11_cleaned_32 ?_
    refine R_callVN_e (T := mX11_cleaned) (T' := mX9_signAt) (As := [_]) (ci := 9) okX9_signAt mlX11_131 rfl (by decide) w3.1 (ct_signAtL w3 p) rfl (by decide) (by decide) (Nat.le_of_ble_eq_true rfl) dX11_cleaned_33 ?_
    refine R_istore_4 rfl (by decide) dX11_cleaned_36 ?_
    refine R_iload_4 dX11_cleaned_38 ?_
    refine R_if_ne 48 dX11_cleaned_40 (by decide) (fun c40 => ?_) (fun c40 => ?_)
    · have e9 : clC (ent k) b p = lAt (cwd (ent k) b) p := if_neg c40
      refine R_iload_4 dX11_cleaned_48 ?_
      refine R_zret rfl (by first | exact narc_of (lAt_chr w3 p) | rfl) dX11_cleaned_50 ⟨k, x, y, rfl, hp, by rw [e9], rfl, rfl⟩
    · have e9 : clC (ent k) b p = 32 := if_pos c40
      refine R_bipush (v := 32) dX11_cleaned_43 (by decide) ?_
      refine R_goto 50 dX11_cleaned_45 (by decide) ?_
      refine R_zret rfl (by first | exact narc_of (lAt_chr w3 p) | rfl) dX11_cleaned_50 ⟨k, x, y, rfl, hp, by rw [e9], rfl, rfl⟩
  · exact R_throw (T := mX11_cleaned) rfl a_fit2 th_i4 clX11_102 th_i5 srX11_119 th_i1 th_i2 th_i3 dX11_cleaned_9 dX11_cleaned_12 dX11_cleaned_13 dX11_cleaned_15 dX11_cleaned_18 (by decide) (Nat.le_of_ble_eq_true rfl) rfl ⟨rfl, fun z => c6 (Int32.not_lt.1 z.2), rfl, rfl⟩

set_option maxHeartbeats 4000000 in
theorem ct_apart {V : aV} {cnt : Nat} {en : Nat → Nat} {sp : Nat} {ent : Nat → Ent} (hM : MB V) (hB : BF V) (hE : BE V en sp ent cnt) (h0 : V 196 0 = .ref 197) (t u b : Int32) : CT mX11_apart 7 2 12 [.ref 0, .int t, .int u, .int b] Sh V (fun v S' V' => ∃ k j, k < cnt ∧ k < 12 ∧ t = nI k ∧ j < cnt ∧ j < 12 ∧ u = nI j ∧ some (.int (nI (lev (cwd (ent k) b) (cwd (ent j) b)))) = v ∧ Sh = S' ∧ Fr0 V V' 197) (QXc V (¬ (okN t cnt 12 ∧ okN u cnt 12))) := by
  refine CT_of (by decide +kernel) (Nat.le_of_ble_eq_true rfl) ?_
  show R _ _ _ _ _ _ _ _ 0 [some (.ref 0), some (.int t), some (.int u), some (.int b)] [] _ _
  obtain ⟨m0, m1, m2, m3, m4, m5⟩ := id hM
  obtain ⟨f0, f2, f3, f4⟩ := id hB
  have hc := hE.2.2.2.1
  refine R_aload_0 dX11_apart_0 ?_
  refine R_iload_1 dX11_apart_1 ?_
  refine R_callV (T := mX11_apart) (T' := mX11_checkAddress) (As := [_]) (ci := 11) okX11_checkAddress mlX11_116 rfl (by decide) sh_0 (ct_checkAddress hM hc t) rfl (by decide) (by decide) (Nat.le_of_ble_eq_true rfl) dX11_apart_2 (fun v9 S9 V9 h9 => ?_) (fun E S9 V9 h9 => ⟨h9.1, fun z => h9.2.1 z.1, h9.2.2⟩)
  obtain ⟨rfl, o, rfl, rfl⟩ := h9
  obtain ⟨k, x, y, e⟩ := okN_nI o (by decide)
  refine R_aload_0 dX11_apart_5 ?_
  refine R_iload_2 dX11_apart_6 ?_
  refine R_callV (T := mX11_apart) (T' := mX11_checkAddress) (As := [_]) (ci := 11) okX11_checkAddress mlX11_116 rfl (by decide) sh_0 (ct_checkAddress hM hc u) rfl (by decide) (by decide) (Nat.le_of_ble_eq_true rfl) dX11_apart_7 (fun v9 S9 V9 h9 => ?_) (fun E S9 V9 h9 => ⟨h9.1, fun z => h9.2.1 z.2, h9.2.2⟩)
  obtain ⟨rfl, o2, rfl, rfl⟩ := h9
  obtain ⟨k2, x2, y2, e2⟩ := okN_nI o2 (by decide)
  subst e
  subst e2
  obtain ⟨q1, q2, q3, _⟩ := hE.1 k y
  obtain ⟨w1, w2, ws, w3⟩ := q3.cw b
  obtain ⟨r1, r2, r3, _⟩ := hE.1 k2 y2
  obtain ⟨g1, g2, gs, g3⟩ := r3.cw b
  have oa := q2.out
  have ob := r2.out
  refine R_aload_0 dX11_apart_10 ?_
  refine gfX11_33 rfl dX11_apart_11 sh_0 m3 ?_
  refine R_aload_0 dX11_apart_14 ?_
  refine gfX11_26 rfl dX11_apart_15 sh_0 m2 ?_
  refine gfX11_121 rfl dX11_apart_18 sh_74 f0 ?_
  refine R_iload_1 dX11_apart_21 ?_
  refine R_aald_16 dX11_apart_22 sh_75 (vp_in_nI (by omega) (by decide)) (nI_clamp (by omega)) q1 ?_
  refine R_iload_3 dX11_apart_23 ?_
  refine R_callVN_e (T := mX11_apart) (T' := mX0_cleanedWord) (As := [_]) (ci := 0) okX0_cleanedWord mlX11_125 rfl (by decide) q3.1.1.1 (ct_cleanedWord q3 b) rfl (by decide) (by decide) (Nat.le_of_ble_eq_true rfl) dX11_apart_24 ?_
  refine R_aload_0 dX11_apart_27 ?_
  refine gfX11_26 rfl dX11_apart_28 sh_0 m2 ?_
  refine gfX11_121 rfl dX11_apart_31 sh_74 f0 ?_
  refine R_iload_2 dX11_apart_34 ?_
  refine R_aald_16 dX11_apart_35 sh_75 (vp_in_nI (by omega) (by decide)) (nI_clamp (by omega)) r1 ?_
  refine R_iload_3 dX11_apart_36 ?_
  refine R_callVN_e (T := mX11_apart) (T' := mX0_cleanedWord) (As := [_]) (ci := 0) okX0_cleanedWord mlX11_125 rfl (by decide) r3.1.1.1 (ct_cleanedWord r3 b) rfl (by decide) (by decide) (Nat.le_of_ble_eq_true rfl) dX11_apart_37 ?_
  rw [w2, g2]
  refine R_callVN (T := mX11_apart) (T' := mX5_distance) (As := [_, _]) (ci := 5) okX5_distance mlX11_135 rfl (by decide) sh_196 (ct_distance h0 w3 g3 w3.len g3.len (by omega) (by omega) (by omega) (by omega)) rfl (by decide) (by decide) (Nat.le_of_ble_eq_true rfl) dX11_apart_40 (fun v9 S9 V1 h9 => ?_) (fun E S9 V9 h9 => h9.elim)
  obtain ⟨rfl, rfl, u4⟩ := h9
  refine R_iret rfl dX11_apart_43 ⟨k, k2, x, y, rfl, x2, y2, rfl, rfl, rfl, u4⟩

