/-! ===== MergePost: post ===== -/
set_option maxHeartbeats 4000000 in
theorem ct_compJ {V : aV} {L : List Int32} {T : Nat → List Int32} {to : Nat → Bool} {ent : Nat → EntN} {cnt : Nat} {mt po : Nat → Nat} {b st pa n : Nat} {rt rr : Nat → Nat} {pd : Nat → Bool} {kn : Nat → Nat} {kl : Nat → Nat → KL} (hI : CI V L T to ent cnt mt po b st pa n rt rr pd kn kl) (hE : ∀ k, k < 12 → EB (ent k)) (hb : b < 2 ^ 31) (hst : st < 2 ^ 31) (hK : TKS T to) {a g : Nat} (hg : MBR g) (ha : a < 8) : CT mX11_compose 7 0 0 [.ref 0, .int (nI a), .int (nI g)] Sh V (fun v S' V' => some (.ref 28) = v ∧ Sh = S' ∧ DA V' 28 g (ltr T to ent b st a g) ∧ CI V' L T to ent cnt mt po b st pa n rt rr pd kn kl ∧ FrX V V' ∧ FrC V V') aNo := by
  obtain ⟨⟨a1, a2, a3, a4, a5, a6, a7⟩, ⟨b1, ⟨en, sp, b2⟩, b3, b4⟩, ⟨⟨tl, sp2, c1⟩, c2, c3, ⟨w, vl, c4⟩, s, c5⟩, d1, d2⟩ := id hI
  refine CT_mono (ct_comp a1 c3 c4 (b2.br b1 hE) c2 c1.1 c5 a4 a5 hb hst hg hK ha) (fun v S' V' h => ?_) (fun _ _ _ h => h)
  obtain ⟨h1, h2, h3, h4, h5, h6⟩ := h
  refine ⟨h1, h2, ?_, hI.frc h6 h5 h4, fun b hb => h6.1 b (by omega) (by omega) (by omega), h6⟩
  cases e : ltr T to ent b st a g with
  | inl x => rw [e] at h3; exact h3
  | inr x => rw [e] at h3; exact ⟨rfl, h3⟩
theorem paF_lt : ∀ (K : List KL) (pa : Nat), pa < 2 ^ 31 → paF K pa < 2 ^ 31
  | [], pa, h => h
  | x :: K, pa, h => paF_lt K _ (by show min (pa + x.2.2.2.toNatClampNeg) 2147483647 < 2 ^ 31; omega)
theorem paF_app {K : List KL} {x : KL} {pa c : Nat} (hc : c < 2 ^ 31) (e : x.2.2.2 = nI c) : paF (K ++ [x]) pa = min (paF K pa + c) 2147483647 := by
  unfold paF
  rw [List.foldl_append]
  show min (_ + x.2.2.2.toNatClampNeg) 2147483647 = _
  rw [e, nI_clamp hc]
theorem poF_app {K : List KL} {x : KL} {po : Nat → Nat} {r : Nat} : poF r (K ++ [x]) po = nP (poF r K po) x.2.1 r 12 := by
  unfold poF
  rw [List.foldl_append]
  rfl
theorem klF_app {kl : Nat → Nat → KL} {i : Nat} {K : List KL} {x : KL} {a k : Nat} (h : a = i → k ≤ K.length) : klF kl i (K ++ [x]) a k = if a = i ∧ k = K.length then x else klF kl i K a k := by
  unfold klF
  by_cases q : a = i
  · rw [if_pos q]
    by_cases z : k = K.length
    · rw [if_pos ⟨q, z⟩, z, List.getD_eq_getElem?_getD]
      simp
    · rw [if_neg (fun y => z y.2), if_pos q, List.getD_eq_getElem?_getD, List.getD_eq_getElem?_getD, List.getElem?_append_left (by have := h q; omega)]
  · rw [if_neg q, if_neg (fun y => q y.1), if_neg q]
/-- posting: the letters up to the j-th have been looked at -/
def PJ (V0 V : aV) (L : List Int32) (T : Nat → List Int32) (to : Nat → Bool) (ent : Nat → EntN) (cnt : Nat) (mt po : Nat → Nat) (b st pa n : Nat) (rt rr : Nat → Nat) (pd : Nat → Bool) (kn : Nat → Nat) (kl : Nat → Nat → KL) (i : Nat) (dl : List Nat) (K : List KL) : Prop :=
  CI V L T to ent cnt mt (poF (rr i) K po) b st (paF K pa) n rt rr pd (upN kn i K.length) (klF kl i K) ∧ DLI V dl ∧ FrX V0 V
set_option maxHeartbeats 8000000 in
theorem po_loop {mc ms kc ks : Nat} {V0 : aV} {L : List Int32} {T : Nat → List Int32} {to : Nat → Bool} {ent : Nat → EntN} {cnt : Nat} {mt po : Nat → Nat} {b st pa n : Nat} {rt rr : Nat → Nat} {pd : Nat → Bool} {kn : Nat → Nat} {kl : Nat → Nat → KL} {i : Nat} {dl : List Nat} (hS : SOK L T to ent cnt mt po b st pa n rt rr pd kn kl) (hi : i < 8) (hdl : dl.length ≤ 12) (hmb : ∀ g ∈ dl, MBR g) {Q : Option Value → aS → aV → Prop} {QX : String → aS → aV → Prop}
    (hQ : ∀ V', CI V' L T to ent cnt mt (poF (rr i) (kpt (fun g => ltr T to ent b st (rt i) g) dl) po) b st (paF (kpt (fun g => ltr T to ent b st (rt i) g) dl) pa) n rt rr (upN pd i true) (upN kn i (kpt (fun g => ltr T to ent b st (rt i) g) dl).length) (klF kl i (kpt (fun g => ltr T to ent b st (rt i) g) dl)) → FrX V0 V' → Q (some (.int (nI (kpt (fun g => ltr T to ent b st (rt i) g) dl).length))) Sh V') :
    ∀ (m j : Nat) (V : aV), j + m = dl.length → PJ V0 V L T to ent cnt mt po b st pa n rt rr pd kn kl i dl (kpt (fun g => ltr T to ent b st (rt i) g) (dl.take j)) → R mX11_post 8 mc ms Q QX kc ks 44 [some (.ref 0), some (.int (nI i)), some (.ref (200 + 38 * i)), some (.int (nI dl.length)), some (.int (nI j)), none] [] Sh V := by
  intro m
  induction m with
  | zero =>
    intro j V hj hP
    have hj' : j = dl.length := by omega
    subst hj'
    rw [List.take_length] at hP
    obtain ⟨hI, hD, hX⟩ := hP
    obtain ⟨r1, r2, r3, r4, r5, r6, r7⟩ := hI.2.2.2.1 i hi
    have s8 := r2.1
    have k5 := r2.2.2.2.2.1
    rw [upN_s] at k5
    refine R_iload_4 dX11_post_44 ?_
    refine R_iload_3 dX11_post_46 ?_
    refine R_icmp_ge 114 dX11_post_47 (by decide) (fun c47 => ?_) (fun c47 => absurd (Int32.le_refl _) c47)
    refine R_aload_2 dX11_post_114 ?_
    refine R_iconst (v := 1) dX11_post_115 (by decide) ?_
    refine pfX11_245 rfl dX11_post_116 s8 rfl rfl ?_
    refine R_aload_2 dX11_post_119 ?_
    refine gfX11_267 rfl dX11_post_120 s8 ((a_up_ne (Or.inr (by decide))).trans k5) ?_
    refine R_iret rfl dX11_post_123 (hQ _ (hI.pst hi) (fun b hb => (a_up_row (by omega)).trans (hX b hb)))
  | succ m ih =>
    intro j V hj hP
    have hjl : j < dl.length := by omega
    obtain ⟨hI, hD, hX⟩ := hP
    have hkl : (kpt (fun g => ltr T to ent b st (rt i) g) (dl.take j)).length < 12 := Nat.lt_of_le_of_lt kpt_len (by rw [List.length_take]; omega)
    have hEO := hS.2.2.1.2.1
    have hb3 : b < 2 ^ 31 := by have := hS.2.2.2.1.1; omega
    have hst3 : st < 2 ^ 31 := by have := hS.2.2.2.1.2.1; omega
    have hmg := hmb _ (gd_mem (d := 0) hjl)
    obtain ⟨r1, r2, r3, r4, r5, r6, r7⟩ := hI.2.2.2.1 i hi
    have s8 := r2.1
    have m2 := hI.1.1.2.2.1
    have hB := hI.2.1.1
    have hdv := hD j hjl
    have b9 : ¬ nI dl.length ≤ nI j := nI_ge (a := j) (b := dl.length) (by omega) (by omega)
    refine R_iload_4 dX11_post_44 ?_
    refine R_iload_3 dX11_post_46 ?_
    refine R_icmp_ge 114 dX11_post_47 (by decide) (fun c47 => absurd c47 b9) (fun c47 => ?_)
    refine R_aload_0 dX11_post_50 ?_
    refine R_aload_2 dX11_post_51 ?_
    refine gfX11_190 rfl dX11_post_52 s8 r4 ?_
    refine R_aload_0 dX11_post_55 ?_
    refine gfX11_26 rfl dX11_post_56 sh_0 m2 ?_
    refine R_iload_4 dX11_post_59 ?_
    refine R_callVN_e (T := mX11_post) (T' := mX1_dueAt) (As := [_]) (ci := 1) okX1_dueAt mlX11_254 rfl (by decide) sh_74 (ct_dueAt hB (by omega) hdv) rfl (by decide) (by decide) (Nat.le_of_ble_eq_true rfl) dX11_post_61 ?_
    refine R_callV (T := mX11_post) (T' := mX11_compose) (As := [_, _]) (ci := 11) okX11_compose mlX11_229 rfl (by decide) sh_0 (ct_compJ hI (fun k hk => (hEO k hk).1) hb3 hst3 hS.2.1.1 hmg r6) rfl (by decide) (by decide) (Nat.le_of_ble_eq_true rfl) dX11_post_64 (fun v9 S9 V3 h9 => ?_) (fun E S9 V9 h9 => h9.elim)
    obtain ⟨rfl, rfl, dM, hI3, hX3, hC3⟩ := h9
    obtain ⟨sM, fM1, fM2⟩ := dM.f
    have hD3 : DLI V3 dl := fun k hk => (congrFun (hC3.1 87 (by decide) (by decide) (by decide)) k).trans (hD k hk)
    refine R_astore_5 rfl (by decide) dX11_post_67 ?_
    refine R_aload_5 dX11_post_69 ?_
    refine gfX11_217 rfl dX11_post_71 sM fM2 ?_
    refine R_if_ne 108 dX11_post_74 (by decide) (fun c74 => ?_) (fun c74 => ?_)
    · refine R_drop_5 ?_
      refine R_iinc_4 rfl (by decide) dX11_post_108 rfl ?_
      rw [show nI j + Int32.ofInt 1 = nI (j + 1) from nI_1 j]
      refine R_goto 44 dX11_post_111 (by decide) ?_
      first
        | (obtain ⟨q, em, -⟩ := dM.ir c74
           refine ih (j + 1) V3 (by omega) ?_
           rw [kpt_f (F := (fun g => ltr T to ent b st (rt i) g)) hjl em]
           exact ⟨hI3, hD3, hX.trans hX3⟩)
        | (refine ih (j + 1) _ (by omega) ?_
           rw [kpt_t (F := (fun g => ltr T to ent b st (rt i) g)) hjl em]
           refine ⟨(hI5.paid (pa' := min (paF (kpt (fun g => ltr T to ent b st (rt i) g) (dl.take j)) pa + c) 2147483647)).cg poF_app (paF_app hc31 hcc) (by rw [List.length_append, upN_up, upN_s]; rfl) (fun a ha k hk => ?_), fun k hk => (congrFun (a_up_row (by decide)) k).trans (hD5 k hk), ((hX.trans hX3).trans hX4).trans (hX5.trans (fun b hb => a_up_row (by omega)))⟩
           rw [upN_s]
           refine klF_app (fun z => ?_)
           subst z
           rw [upN_up, upN_s, upN_s] at hk
           omega)
    · obtain ⟨X, em, M9⟩ := dM.il c74
      obtain ⟨M1, M2, M3, M4, M5, M6, M7⟩ := id M9
      obtain ⟨c, hc31, hcc⟩ := (ltr_ok (fun k => (hS.2.1.2 k).2) hEO hmg em).2.2.2.2
      obtain ⟨_, R2, _⟩ := hI3.2.2.2.1 i hi
      have hLT := (hI3.2.2.2.2 i hi (kpt (fun g => ltr T to ent b st (rt i) g) (dl.take j)).length hkl).1
      rw [← upN_s (f := kn) (a := i) (x := (kpt (fun g => ltr T to ent b st (rt i) g) (dl.take j)).length)] at hLT
      obtain ⟨ox, om, otr, owt, oco, hLT⟩ := hLT
      refine R_aload_2 dX11_post_77 ?_
      refine R_aload_5 dX11_post_78 ?_
      refine R_callVN (T := mX11_post) (T' := mX8_keep) (As := [_]) (ci := 8) okX8_keep mlX11_257 rfl (by decide) s8 (ct_keep R2 (by rw [upN_s]; exact hkl) hLT M9 (by omega)) rfl (by decide) (by decide) (Nat.le_of_ble_eq_true rfl) dX11_post_80 (fun v9 S9 V4 h9 => ?_) (fun E S9 V9 h9 => h9.elim)
      obtain ⟨rfl, rfl, k1, k2, k3⟩ := h9
      have hI4 := hI3.kp (x := (X.1, dl.getD j 0, X.2.1, X.2.2)) hi (by rw [upN_s]; exact hkl) k1 k2 k3
      have hX4 : FrX V3 V4 := fun b hb => k3.1 b (by omega) (by rw [upN_s]; omega)
      have hD4 : DLI V4 dl := fun k hk => (congrFun (k3.1 87 (by omega) (by omega)) k).trans (hD3 k hk)
      have e28 := k3.1 28 (by omega) (by omega)
      have sM4 := sM
      have g4 : V4 28 1 = .int (nI (dl.getD j 0)) := (congrFun e28 1).trans fM1
      have m24 := hI4.1.1.2.2.1
      obtain ⟨_, _, _, _, q3, _, _⟩ := hI4.2.2.2.1 i hi
      refine R_aload_0 dX11_post_83 ?_
      refine gfX11_26 rfl dX11_post_84 sh_0 m24 ?_
      refine R_aload_5 dX11_post_87 ?_
      refine gfX11_212 rfl dX11_post_89 sM4 g4 ?_
      refine R_aload_2 dX11_post_92 ?_
      refine gfX11_193 rfl dX11_post_93 s8 q3 ?_
      refine R_callVN (T := mX11_post) (T' := mX1_notePosted) (As := [_, _]) (ci := 1) okX1_notePosted mlX11_261 rfl (by decide) sh_74 (ct_notePosted (r := rr i) hI4.2.1.1 hI4.2.1.2.2.2 hmg.1 (by omega)) rfl (by decide) (by decide) (Nat.le_of_ble_eq_true rfl) dX11_post_96 (fun v9 S9 V5 h9 => ?_) (fun E S9 V9 h9 => h9.elim)
      obtain ⟨rfl, rfl, n1, n2⟩ := h9
      have hI5 := hI4.poset n1 n2
      have hD5 : DLI V5 dl := fun k hk => (congrFun (n2 87 (by decide)) k).trans (hD4 k hk)
      have hX5 : FrX V4 V5 := fun b hb => n2 b (by omega)
      have c5 : V5 28 4 = .int (nI c) := (congrFun (n2 28 (by decide)) 4).trans ((congrFun e28 4).trans (M7.trans (by rw [hcc])))
      refine R_aload_0 dX11_post_99 ?_
      refine R_aload_5 dX11_post_100 ?_
      refine gfX11_226 rfl dX11_post_102 sM4 c5 ?_
      refine R_callV_e (T := mX11_post) (T' := mX11_pay) (As := [_]) (ci := 11) okX11_pay mlX11_264 rfl (by decide) sh_0 (ct_pay (p := paF (kpt (fun g => ltr T to ent b st (rt i) g) (dl.take j)) pa) hI5.1.2.2.2.2.2.2 (paF_lt _ _ hS.2.2.2.1.2.2) hc31) rfl (by decide) (by decide) (Nat.le_of_ble_eq_true rfl) dX11_post_105 ?_
      refine R_drop_5 ?_
      refine R_iinc_4 rfl (by decide) dX11_post_108 rfl ?_
      rw [show nI j + Int32.ofInt 1 = nI (j + 1) from nI_1 j]
      refine R_goto 44 dX11_post_111 (by decide) ?_
      first
        | (obtain ⟨q, em, -⟩ := dM.ir c74
           refine ih (j + 1) V3 (by omega) ?_
           rw [kpt_f (F := (fun g => ltr T to ent b st (rt i) g)) hjl em]
           exact ⟨hI3, hD3, hX.trans hX3⟩)
        | (refine ih (j + 1) _ (by omega) ?_
           rw [kpt_t (F := (fun g => ltr T to ent b st (rt i) g)) hjl em]
           refine ⟨(hI5.paid (pa' := min (paF (kpt (fun g => ltr T to ent b st (rt i) g) (dl.take j)) pa + c) 2147483647)).cg poF_app (paF_app hc31 hcc) (by rw [List.length_append, upN_up, upN_s]; rfl) (fun a ha k hk => ?_), fun k hk => (congrFun (a_up_row (by decide)) k).trans (hD5 k hk), ((hX.trans hX3).trans hX4).trans (hX5.trans (fun b hb => a_up_row (by omega)))⟩
           rw [upN_s]
           refine klF_app (fun z => ?_)
           subst z
           rw [upN_up, upN_s, upN_s] at hk
           omega)
set_option maxHeartbeats 4000000 in
theorem ct_post {V : aV} {L : List Int32} {T : Nat → List Int32} {to : Nat → Bool} {ent : Nat → EntN} {cnt : Nat} {mt po : Nat → Nat} {b st pa n : Nat} {rt rr : Nat → Nat} {pd : Nat → Bool} {kn : Nat → Nat} {kl : Nat → Nat → KL} (hI : CI V L T to ent cnt mt po b st pa n rt rr pd kn kl) (hS : SOK L T to ent cnt mt po b st pa n rt rr pd kn kl) (t : Int32) : CT mX11_post 8 2 12 [.ref 0, .int t] Sh V (fun v S' V' => ∃ i, i < n ∧ i < 8 ∧ t = nI i ∧ pd i = false ∧ some (.int (nI (kpt (fun g => ltr T to ent b st (rt i) g) (dLst mt po (rr i) cnt)).length)) = v ∧ Sh = S' ∧ CI V' L T to ent cnt mt (poF (rr i) (kpt (fun g => ltr T to ent b st (rt i) g) (dLst mt po (rr i) cnt)) po) b st (paF (kpt (fun g => ltr T to ent b st (rt i) g) (dLst mt po (rr i) cnt)) pa) n rt rr (upN pd i true) (upN kn i (kpt (fun g => ltr T to ent b st (rt i) g) (dLst mt po (rr i) cnt)).length) (klF kl i (kpt (fun g => ltr T to ent b st (rt i) g) (dLst mt po (rr i) cnt))) ∧ FrX V V') (fun E S' V' => Sh = S' ∧ V = V' ∧ ((E = xI ∧ ¬ okN t n 8) ∨ (E = xS ∧ ∃ i, i < n ∧ i < 8 ∧ t = nI i ∧ pd i = true))) := by
  refine CT_of (by decide +kernel) (Nat.le_of_ble_eq_true rfl) ?_
  show R _ _ _ _ _ _ _ _ 0 [some (.ref 0), some (.int t), none, none, none, none] [] _ _
  obtain ⟨⟨a1, a2, a3, a4, a5, a6, a7⟩, ⟨b1, ⟨en, sp, b2⟩, b3, b4⟩, c1, d1, d2⟩ := id hI
  obtain ⟨m0, m1, m2, m3, m4, m5⟩ := id a1
  have hc := b2.2.2.2.1
  refine R_aload_0 dX11_post_0 ?_
  refine R_iload_1 dX11_post_1 ?_
  refine R_callV (T := mX11_post) (T' := mX11_checkRun) (As := [_]) (ci := 11) okX11_checkRun mlX11_196 rfl (by decide) sh_0 (ct_checkRun a6 t) rfl (by decide) (by decide) (Nat.le_of_ble_eq_true rfl) dX11_post_2 (fun v9 S9 V9 h9 => ?_) (fun E S9 V9 h9 => ⟨h9.2.2.1, h9.2.2.2, Or.inl ⟨h9.1, h9.2.1⟩⟩)
  obtain ⟨rfl, o, rfl, rfl⟩ := h9
  obtain ⟨i, x, y, e⟩ := okN_nI o (by decide)
  subst e
  obtain ⟨r1, r2, r3, r4, r5, r6, r7⟩ := d1 i y
  have s8 := r2.1
  refine R_aload_0 dX11_post_5 ?_
  refine gfX11_46 rfl dX11_post_6 sh_0 m5 ?_
  refine R_iload_1 dX11_post_9 ?_
  refine R_aald_18 dX11_post_10 sh_199 (vp_in_nI (by omega) (by decide)) (nI_clamp (by omega)) r1 ?_
  refine R_astore_2 rfl (by decide) dX11_post_11 ?_
  refine R_aload_2 dX11_post_12 ?_
  refine gfX11_245 rfl dX11_post_13 s8 r3 ?_
  refine R_if_eq 29 dX11_post_16 (by decide) (fun c16 => ?_) (fun c16 => ?_)
  · have hpd : pd i = false := Bool.eq_false_iff.2 (bI_eq c16)
    refine R_aload_0 dX11_post_29 ?_
    refine gfX11_26 rfl dX11_post_30 sh_0 m2 ?_
    refine R_aload_2 dX11_post_33 ?_
    refine gfX11_193 rfl dX11_post_34 s8 r5 ?_
    refine R_callVN (T := mX11_post) (T' := mX1_listDue) (As := [_]) (ci := 1) okX1_listDue mlX11_251 rfl (by decide) sh_74 (ct_listDue (r := rr i) (c := cnt) b1 b3 b4 (by omega) hc hS.2.2.1.1) rfl (by decide) (by decide) (Nat.le_of_ble_eq_true rfl) dX11_post_37 (fun v9 S9 V1 h9 => ?_) (fun E S9 V9 h9 => h9.elim)
    obtain ⟨rfl, rfl, u3, u4⟩ := h9
    have hI1 := hI.f87 u4
    refine R_istore_3 rfl (by decide) dX11_post_40 ?_
    refine R_iconst (v := 0) dX11_post_41 (by decide) ?_
    refine R_istore_4 rfl (by decide) dX11_post_42 ?_
    have hk0 : kn i = 0 := (hS.2.2.2.2.2 i y).2.2.2.1 hpd
    refine po_loop (V0 := V) (pa := pa) (po := po) (kn := kn) (kl := kl) (pd := pd) hS y (Nat.le_trans (dLst_len cnt) hS.2.2.1.1) (fun g hg => ?_) (fun V' h1 h2 => ⟨i, x, y, rfl, hpd, rfl, rfl, h1, h2⟩) (dLst mt po (rr i) cnt).length 0 V1 (by omega) ⟨hI1.cg rfl rfl ?_ (fun a ha k hk => ?_), u3, fun b hb => u4 b (by omega)⟩
    · obtain ⟨a, h1, h2⟩ := dLst_mem cnt hg
      rw [h2]
      exact gOf_mbr hS.2.2.1.2.2.1.1 (by have := hS.2.2.1.1; omega)
    · show upN kn i 0 = kn
      rw [← hk0]
      exact upN_id
    · exact if_neg (fun z => by subst z; omega)
  · exact R_throw (T := mX11_post) rfl a_fit2 th_s4 clX11_72 th_s5 srX11_249 th_s1 th_s2 th_s3 dX11_post_19 dX11_post_22 dX11_post_23 dX11_post_25 dX11_post_28 (by decide) (Nat.le_of_ble_eq_true rfl) rfl ⟨rfl, rfl, Or.inr ⟨rfl, i, x, y, rfl, bI_ne c16⟩⟩

