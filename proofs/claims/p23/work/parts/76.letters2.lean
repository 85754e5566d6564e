/-! ===== the law: letters, the whole ===== -/
section LTR2
variable {ent : Nat → EntN} {n : Nat} {mt po : Nat → Nat} {b st pa nr : Nat} {rt rr : Nat → Nat} {pd : Nat → Bool} {kn : Nat → Nat} {kl : Nat → Nat → KL} {i j : Nat}
set_option maxHeartbeats 4000000 in
theorem lM {V0 : aV} {Q : Option Value → aS → aV → Prop} {QX : String → aS → aV → Prop} {mc ms kc ks : Nat} {ps : Int32} (h : LW V0 ent n mt po b st pa nr rt rr pd kn kl) (hg : GV V0 n (gOf mt)) (hi : i < nr) (hp : pd i = false) (hj : j < 1000) (ht : ∀ V', CSt V' [] lT lTo ent n mt po b st pa nr rt rr pd kn kl → FrQ V0 V' → V' 509 1 = .int (nI j) → R mL_letters 15 mc ms Q QX (kc) (ks) 303 [some (.ref 0), some (.ref 504), some (.ref 505), some (.ref 507), some (.ref 508), some (.ref 509), some (.int (nI i)), some (.int ps), some (.int (nI (dLst mt po (rr i) n).length)), some (.int (nI (tot ent mt po b st (rt i) (rr i) n))), some (.int 1), none, none, none] [] Sh V') : ∀ (m k : Nat) (V : aV), k + m = n → CSt V [] lT lTo ent n mt po b st pa nr rt rr pd kn kl → FrQ V0 V → V 509 1 = .int (nI j) → R mL_letters 15 mc ms Q QX (kc + 509 * m) (ks + 3054 * m) 12 [some (.ref 0), some (.ref 504), some (.ref 505), some (.ref 507), some (.ref 508), some (.ref 509), some (.int (nI i)), some (.int ps), some (.int (nI (dLst mt po (rr i) k).length)), some (.int (nI (tot ent mt po b st (rt i) (rr i) k))), some (.int 1), some (.int (nI k)), none, none] [] Sh V := by
  obtain ⟨hC, ⟨e0, e1, e2, e3, e4, er⟩, aa, m6, m8, n2, n9, r1, hb5, hs6, hr3⟩ := id h
  have hs : sym mt n := hC.2.2.2.1.2.2.1
  have i8 : i < 8 := by have := hC.2.2.2.2.2.1; omega
  have r8 := (hr3 i i8).2
  have po8 : ∀ a, a < 12 → po a < 2 ^ 8 := hC.2.2.2.1.2.2.2
  intro m
  induction m with
  | zero =>
    intro k V hk hv f h9
    have z0 : V 504 0 = .int (nI n) := (congrFun (f 504 (by decide) (by decide)) 0).trans e0
    have e : k = n := by omega
    subst e
    refine R_iload_11 dL_letters_12 ?_
    refine R_aload_1 dL_letters_14 ?_
    refine R_iconst (v := 0) dL_letters_15 (by decide) ?_
    refine R_iald dL_letters_16 sh_504 (vp_in_nI (n := 0) (by decide) (by decide)) rfl z0 ?_
    refine R_icmp_ge 303 dL_letters_17 (by decide) (fun c17 => ?_) (fun c17 => absurd (nI_le (Nat.le_refl _) (by omega)) c17)
    refine R_drop_11 ?_
    exact R_less (by omega) (by omega) (ht V hv f h9)
  | succ m ih =>
    intro k V hk hv f h9
    have z0 : V 504 0 = .int (nI n) := (congrFun (f 504 (by decide) (by decide)) 0).trans e0
    have gk : V 507 k = .int (nI (gOf mt k)) := (congrFun (f 507 (by decide) (by decide)) _).trans (hg k (by omega))
    obtain ⟨a, a1, a2, a3⟩ := low_ex (gOf_mbr hs.1 (a := k) (by omega))
    have lk := gOf_l hs (a := k) (by omega)
    refine R_less (kc' := kc + 509 * m + 509) (ks' := ks + 3054 * m + 3054) (by omega) (by omega) ?_
    refine R_iload_11 dL_letters_12 ?_
    refine R_aload_1 dL_letters_14 ?_
    refine R_iconst (v := 0) dL_letters_15 (by decide) ?_
    refine R_iald dL_letters_16 sh_504 (vp_in_nI (n := 0) (by decide) (by decide)) rfl z0 ?_
    refine R_icmp_ge 303 dL_letters_17 (by decide) (fun c17 => absurd c17 (nI_ge (by omega) (by omega))) (fun c17 => ?_)
    refine R_iload_10 dL_letters_20 ?_
    refine R_if_eq 303 dL_letters_22 (by decide) (fun c22 => absurd c22 (by decide)) (fun c22 => ?_)
    refine R_aload_3 dL_letters_25 ?_
    refine R_iload_11 dL_letters_26 ?_
    refine R_iald dL_letters_28 sh_507 (vp_in_nI (by omega) (by decide)) (nI_clamp (by omega)) gk ?_
    refine R_callS_e (T := mL_letters) (T' := mL_first) (As := [_]) (mc' := 0) (ms' := 0) okL_first mlL_65 rfl (ct_first lk a1 a2 a3) rfl (by decide) (by decide) (Nat.le_of_ble_eq_true rfl) dL_letters_29 ?_
    refine R_iload_11 dL_letters_32 ?_
    refine R_icmp_ne 41 dL_letters_34 (by decide) (fun c34 => ?_) (fun c34 => ?_)
    · refine R_iconst (v := 0) dL_letters_41 (by decide) ?_
      refine R_istore_12 rfl (by decide) dL_letters_42 ?_
      refine R_iconst (v := 0) dL_letters_44 (by decide) ?_
      refine R_istore_13 rfl (by decide) dL_letters_45 ?_
      first
        | (have ea : a = k := (nI_eq (by omega) (by omega)).1 c34
           subst ea
           refine lI h hg hi hp hj f (by omega) (c := true) ?_ n 0 (by omega)
           exact lBd h hg hi hp hj hv f h9 (by omega) ⟨fun _ => low_iff.2 a3, fun _ => rfl⟩ (fun V' q1 q2 q3 => ih (a + 1) V' (by omega) q1 q2 q3))
        | (have ea : ¬ a = k := fun z => c34 (by rw [z])
           refine lI h hg hi hp hj f (by omega) (c := false) ?_ n 0 (by omega)
           refine lBd h hg hi hp hj hv f h9 (by omega) ⟨fun z => absurd z Bool.false_ne_true, fun z => ?_⟩ (fun V' q1 q2 q3 => ih (k + 1) V' (by omega) q1 q2 q3)
           exfalso
           have z2 := low_iff.1 z
           rcases Nat.lt_or_ge a k with y | y
           · rw [z2 a y] at a2; cases a2
           · have y2 : k < a := by omega
             have y3 := a3 k y2
             rw [gOf_self] at y3; cases y3)
    · refine R_iconst (v := 1) dL_letters_37 (by decide) ?_
      refine R_goto 42 dL_letters_38 (by decide) ?_
      refine R_istore_12 rfl (by decide) dL_letters_42 ?_
      refine R_iconst (v := 0) dL_letters_44 (by decide) ?_
      refine R_istore_13 rfl (by decide) dL_letters_45 ?_
      first
        | (have ea : a = k := (nI_eq (by omega) (by omega)).1 c34
           subst ea
           refine lI h hg hi hp hj f (by omega) (c := true) ?_ n 0 (by omega)
           exact lBd h hg hi hp hj hv f h9 (by omega) ⟨fun _ => low_iff.2 a3, fun _ => rfl⟩ (fun V' q1 q2 q3 => ih (a + 1) V' (by omega) q1 q2 q3))
        | (have ea : ¬ a = k := fun z => c34 (by rw [z])
           refine lI h hg hi hp hj f (by omega) (c := false) ?_ n 0 (by omega)
           refine lBd h hg hi hp hj hv f h9 (by omega) ⟨fun z => absurd z Bool.false_ne_true, fun z => ?_⟩ (fun V' q1 q2 q3 => ih (k + 1) V' (by omega) q1 q2 q3)
           exfalso
           have z2 := low_iff.1 z
           rcases Nat.lt_or_ge a k with y | y
           · rw [z2 a y] at a2; cases a2
           · have y2 : k < a := by omega
             have y3 := a3 k y2
             rw [gOf_self] at y3; cases y3)
set_option maxHeartbeats 4000000 in
theorem lR {V : aV} {Q : Option Value → aS → aV → Prop} {QX : String → aS → aV → Prop} {mc ms kc ks : Nat} {ps : Int32} {b1 st1 pa1 nr1 : Nat} {mt1 po1 rt1 rr1 : Nat → Nat} {pd1 : Nat → Bool} {kn1 : Nat → Nat} {kl1 : Nat → Nat → KL} {l : Option Value} {al : Int32} (hv : CSt V [] lT lTo ent n mt1 po1 b1 st1 pa1 nr1 rt1 rr1 pd1 kn1 kl1) (h0 : V 504 0 = .int (nI n)) (hm : MK V 508 po1) (hn : n ≤ 12) (hQ : Q (some (.int 1)) Sh V) : ∀ (m k : Nat), k + m = n → R mL_letters 15 mc ms Q QX (kc + m) (ks + 6 * m) 406 [some (.ref 0), some (.ref 504), some (.ref 505), some (.ref 507), some (.ref 508), some (.ref 509), some (.int (nI i)), some (.int ps), l, some (.int al), some (.int 1), some (.int (nI k)), none, none] [] Sh V := by
  intro m
  induction m with
  | zero =>
    intro k hk
    have e : k = n := by omega
    subst e
    refine R_iload_11 dL_letters_406 ?_
    refine R_aload_1 dL_letters_408 ?_
    refine R_iconst (v := 0) dL_letters_409 (by decide) ?_
    refine R_iald dL_letters_410 sh_504 (vp_in_nI (n := 0) (by decide) (by decide)) rfl h0 ?_
    refine R_icmp_ge 446 dL_letters_411 (by decide) (fun c411 => ?_) (fun c411 => absurd (nI_le (Nat.le_refl _) (by omega)) c411)
    refine R_iload_10 dL_letters_446 ?_
    refine R_zret rfl (by first | rfl | assumption) dL_letters_448 hQ
  | succ m ih =>
    intro k hk
    have wk := (hm k (by omega)).1
    refine R_less (kc' := kc + m + 1) (ks' := ks + 6 * m + 6) (by omega) (by omega) ?_
    refine R_iload_11 dL_letters_406 ?_
    refine R_aload_1 dL_letters_408 ?_
    refine R_iconst (v := 0) dL_letters_409 (by decide) ?_
    refine R_iald dL_letters_410 sh_504 (vp_in_nI (n := 0) (by decide) (by decide)) rfl h0 ?_
    refine R_icmp_ge 446 dL_letters_411 (by decide) (fun c411 => absurd c411 (nI_ge (by omega) (by omega))) (fun c411 => ?_)
    refine R_iload_10 dL_letters_414 ?_
    refine R_if_eq 446 dL_letters_416 (by decide) (fun c416 => absurd c416 (by decide)) (fun c416 => ?_)
    refine R_aload_0 dL_letters_419 ?_
    refine R_iload_11 dL_letters_420 ?_
    refine R_callV_e (T := mL_letters) (T' := mX11_reasons) (As := [_]) (mc' := 1) (ms' := 6) (ci := 11) okX11_reasons mlL_54 rfl (by decide) sh_0 (lc_reasons hv (k := k) (by omega)) rfl (by decide) (by decide) (Nat.le_of_ble_eq_true rfl) dL_letters_422 ?_
    refine R_aload_4 dL_letters_425 ?_
    refine R_iload_11 dL_letters_427 ?_
    refine R_iald dL_letters_429 sh_508 (vp_in_nI (by omega) (by decide)) (nI_clamp (by omega)) wk ?_
    refine R_icmp_ne 437 dL_letters_430 (by decide) (fun c430 => absurd rfl c430) (fun c430 => ?_)
    refine R_iconst (v := 1) dL_letters_433 (by decide) ?_
    refine R_goto 438 dL_letters_434 (by decide) ?_
    refine R_istore_10 rfl (by decide) dL_letters_438 ?_
    refine R_iinc_11 rfl (by decide) dL_letters_440 rfl ?_
    rw [show nI k + Int32.ofInt 1 = nI (k + 1) from nI_1 k]
    refine R_goto 406 dL_letters_443 (by decide) ?_
    exact ih (k + 1) (by omega)
/-- what letters leaves -/
def LPost (ent : Nat → EntN) (n : Nat) (mt po : Nat → Nat) (b st pa nr : Nat) (rt rr : Nat → Nat) : Option Value → aS → aV → Prop := fun v S' V' => some (.int 1) = v ∧ Sh = S' ∧ ∃ po' pa' pd' kn' kl', LW V' ent n mt po' b st pa' nr rt rr pd' kn' kl' ∧ pa' ≤ pa + 50400 ∧ ∀ q, n ≤ q → q < 12 → po' q = po q
theorem LW.q {V V' : aV} (h : LW V ent n mt po b st pa nr rt rr pd kn kl) (hv : CSt V' [] lT lTo ent n mt po b st pa nr rt rr pd kn kl) (f : FrQ V V') : LW V' ent n mt po b st pa nr rt rr pd kn kl := ⟨hv, h.2.1.fr (f 504 (by decide) (by decide)), f.aa h.2.2.1, h.2.2.2.1.fr2 (f 506 (by decide) (by decide)), h.2.2.2.2.1.fr2 (f 508 (by decide) (by decide)), h.2.2.2.2.2⟩
theorem upN_if {i q : Nat} (h : i < 8) (hq : q < 8) : (bI (upN pd i true q = true)) = if q = i then 1 else bI (pd q = true) := by
  by_cases e : q = i
  · subst e; rw [if_pos rfl, upN_s]; rfl
  · rw [if_neg e, upN_n e]
set_option maxHeartbeats 4000000 in
theorem ct_letters2 {V0 : aV} {ps : Int32} (h : LW V0 ent n mt po b st pa nr rt rr pd kn kl) (hg : GV V0 n (gOf mt)) (hi : i < nr) (hp : pd i = false) (hj : j < 1000) (h9 : V0 509 1 = .int (nI j)) (hpa : pa ≤ 10000000) : CT mL_letters 15 4610 27660 [.ref 0, .ref 504, .ref 505, .ref 507, .ref 508, .ref 509, .int (nI i), .int ps] Sh V0 (LPost ent n mt po b st pa nr rt rr) aNo := by
  refine CT_of (by decide +kernel) (Nat.le_of_ble_eq_true rfl) ?_
  show R _ _ _ _ _ _ _ _ 0 [some (.ref 0), some (.ref 504), some (.ref 505), some (.ref 507), some (.ref 508), some (.ref 509), some (.int (nI i)), some (.int ps), none, none, none, none, none, none] [] _ _
  obtain ⟨hC, ⟨e0, e1, e2, e3, e4, er⟩, aa, m6, m8, n2, n9, r1, hb5, hs6, hr3⟩ := id h
  have hs : sym mt n := hC.2.2.2.1.2.2.1
  have i8 : i < 8 := by have := hC.2.2.2.2.2.1; omega
  have r8 := (hr3 i i8).2
  have po8 : ∀ a, a < 12 → po a < 2 ^ 8 := hC.2.2.2.1.2.2.2
  refine R_iconst (v := 0) dL_letters_0 (by decide) ?_
  refine R_istore_8 rfl (by decide) dL_letters_1 ?_
  refine R_iconst (v := 0) dL_letters_3 (by decide) ?_
  refine R_istore_9 rfl (by decide) dL_letters_4 ?_
  refine R_iconst (v := 1) dL_letters_6 (by decide) ?_
  refine R_istore_10 rfl (by decide) dL_letters_7 ?_
  refine R_iconst (v := 0) dL_letters_9 (by decide) ?_
  refine R_istore_11 rfl (by decide) dL_letters_10 ?_
  refine R_less (kc' := 20 + 509 * n) (ks' := 120 + 3054 * n) (by omega) (by omega) ?_
  refine lM (kc := 20) (ks := 120) h hg hi hp hj (fun V hv f j9 => ?_) n 0 V0 (by omega) hC FrQ.refl h9
  refine R_iload_10 dL_letters_303 ?_
  refine R_if_eq 323 dL_letters_305 (by decide) (fun c305 => absurd c305 (by decide)) (fun c305 => ?_)
  have el1 : nI (lcn mt po n kn pd rr i) = nI (dLst mt po (rr i) n).length := by
    unfold lcn
    rw [if_neg (by rw [hp]; decide)]
  refine R_aload_0 dL_letters_308 ?_
  refine R_iload_6 dL_letters_309 ?_
  refine R_callV (T := mL_letters) (T' := mX11_letters) (As := [_]) (mc' := 1) (ms' := 6) (ci := 11) okX11_letters mlL_104 rfl (by decide) sh_0 (lc_letters hv hi) rfl (by decide) (by decide) (Nat.le_of_ble_eq_true rfl) dL_letters_311 (fun v9 S9 V1 u9 => ?_) (fun E S9 V9 h9 => h9.elim)
  obtain ⟨rfl, rfl, h1, f1⟩ := u9
  refine R_iload_8 dL_letters_314 ?_
  refine R_icmp_ne 323 dL_letters_316 (by decide) (fun c316 => absurd el1 c316) (fun c316 => ?_)
  refine R_iconst (v := 1) dL_letters_319 (by decide) ?_
  refine R_goto 324 dL_letters_320 (by decide) ?_
  refine R_istore_10 rfl (by decide) dL_letters_324 ?_
  refine R_iload_7 dL_letters_326 ?_
  refine R_if_eq 403 dL_letters_328 (by decide) (fun c328 => ?_) (fun c328 => ?_)
  · first
      | (refine R_iconst (v := 0) dL_letters_403 (by decide) ?_
         refine R_istore_11 rfl (by decide) dL_letters_404 ?_
         refine R_less (kc' := 0 + n) (ks' := 0 + 6 * n) (by omega) (by omega) ?_
         exact lR h5 LWn.2.1.1 mp (by omega) ⟨rfl, rfl, _, _, _, _, _, LWn, by omega, fun q q1 q2 => (psp q q2).trans (if_neg (fun z => by omega))⟩ n 0 (by omega))
      | (have LWn := h.q h1 (f.trans f1.q)
         refine R_iconst (v := 0) dL_letters_403 (by decide) ?_
         refine R_istore_11 rfl (by decide) dL_letters_404 ?_
         refine R_less (kc' := 0 + n) (ks' := 0 + 6 * n) (by omega) (by omega) ?_
         exact lR h1 LWn.2.1.1 LWn.2.2.2.2.1 (by omega) ⟨rfl, rfl, _, _, _, _, _, LWn, by omega, fun _ _ _ => rfl⟩ n 0 (by omega))
  · refine R_iload_10 dL_letters_331 ?_
    refine R_if_eq 403 dL_letters_333 (by decide) (fun c333 => absurd c333 (by decide)) (fun c333 => ?_)
    have eall := fun (G : Nat) (hG : G ∈ dLst mt po (rr i) n) => h.all i8 hG
    have kall := kpt_all (F := fun g => ltr lT lTo ent b st (rt i) g) (dLst mt po (rr i) n) (fun g hg => by obtain ⟨x, wt, e, -⟩ := eall g hg; exact ⟨_, e⟩)
    have psp := fun (a : Nat) (ha : a < 12) => poF_sp (F := fun g => ltr lT lTo ent b st (rt i) g) hs (show n ≤ 12 by omega) (fun g hg => by obtain ⟨x, wt, e, -⟩ := eall g hg; exact ⟨_, e⟩) ha
    have dl := dLst_len (mt := mt) (po := po) (r := rr i) n
    have tl9 := tot_le h i8 (r := rr i) (k := n) (Nat.le_refl _)
    have epa : paF (kpt (fun g => ltr lT lTo ent b st (rt i) g) (dLst mt po (rr i) n)) pa = pa + tot ent mt po b st (rt i) (rr i) n := paF_all (ck := ckf ent b st (rt i)) _ pa (fun g hg => eall g hg) (by omega)
    generalize hK : kpt (fun g => ltr lT lTo ent b st (rt i) g) (dLst mt po (rr i) n) = K at *
    have eK : nI K.length = nI (dLst mt po (rr i) n).length := by rw [← kall, List.length_map]
    refine R_aload_0 dL_letters_336 ?_
    refine R_iload_6 dL_letters_337 ?_
    refine R_callV (T := mL_letters) (T' := mX11_post) (As := [_]) (mc' := 2) (ms' := 12) (ci := 11) okX11_post mlL_107 rfl (by decide) sh_0 (lc_post h1 hi hp hK) rfl (by decide) (by decide) (Nat.le_of_ble_eq_true rfl) dL_letters_339 (fun v9 S9 V2 u9 => ?_) (fun E S9 V9 h9 => h9.elim)
    obtain ⟨rfl, rfl, h2, f2⟩ := u9
    refine R_iload_8 dL_letters_342 ?_
    refine R_icmp_ne 375 dL_letters_344 (by decide) (fun c344 => absurd eK c344) (fun c344 => ?_)
    have eK2 : nI (lcn mt (poF (rr i) K po) n (upN kn i K.length) (upN pd i true) rr i) = nI (dLst mt po (rr i) n).length := by
      unfold lcn
      rw [if_pos upN_s, upN_s]
      exact eK
    refine R_aload_0 dL_letters_347 ?_
    refine R_iload_6 dL_letters_348 ?_
    refine R_callV (T := mL_letters) (T' := mX11_letters) (As := [_]) (mc' := 1) (ms' := 6) (ci := 11) okX11_letters mlL_104 rfl (by decide) sh_0 (lc_letters h2 hi) rfl (by decide) (by decide) (Nat.le_of_ble_eq_true rfl) dL_letters_350 (fun v9 S9 V3 u9 => ?_) (fun E S9 V9 h9 => h9.elim)
    obtain ⟨rfl, rfl, h3, f3⟩ := u9
    refine R_iload_8 dL_letters_353 ?_
    refine R_icmp_ne 375 dL_letters_355 (by decide) (fun c355 => absurd eK2 c355) (fun c355 => ?_)
    refine R_aload_0 dL_letters_358 ?_
    refine R_callV_e (T := mL_letters) (T' := mX11_spent) (As := []) (mc' := 0) (ms' := 0) (ci := 11) okX11_spent mlL_110 rfl (by decide) sh_0 (lc_spent h3) rfl (by decide) (by decide) (Nat.le_of_ble_eq_true rfl) dL_letters_359 ?_
    refine R_aload_1 dL_letters_362 ?_
    refine R_iconst (v := 4) dL_letters_363 (by decide) ?_
    have f4 := (f.trans f1.q).trans (f2.q.trans f3.q)
    have q4 := f4 504 (by decide) (by decide)
    refine R_iald dL_letters_364 sh_504 (vp_in_nI (n := 4) (by decide) (by decide)) rfl ((congrFun q4 4).trans e4) ?_
    refine R_iload_9 dL_letters_365 ?_
    refine R_iadd dL_letters_367 ?_
    rw [nI_add]
    have epa2 : nI (paF K pa) = nI (pa + tot ent mt po b st (rt i) (rr i) n) := by rw [epa]
    refine R_icmp_ne 375 dL_letters_368 (by decide) (fun c368 => absurd epa2 c368) (fun c368 => ?_)
    refine R_iconst (v := 1) dL_letters_371 (by decide) ?_
    refine R_goto 376 dL_letters_372 (by decide) ?_
    refine R_istore_10 rfl (by decide) dL_letters_376 ?_
    refine R_aload_1 dL_letters_378 ?_
    refine R_iconst (v := 4) dL_letters_379 (by decide) ?_
    refine R_dup2_11 dL_letters_380 rfl rfl ?_
    refine R_iald dL_letters_381 sh_504 (vp_in_nI (n := 4) (by decide) (by decide)) rfl ((congrFun q4 4).trans e4) ?_
    refine R_iload_9 dL_letters_382 ?_
    refine R_iadd dL_letters_384 ?_
    rw [nI_add]
    refine R_iast dL_letters_385 sh_504 (vp_in_nI (n := 4) (by decide) (by decide)) rfl ?_
    refine R_aload_1 dL_letters_386 ?_
    refine R_bipush (v := 30) dL_letters_387 (by decide) ?_
    refine R_iload_6 dL_letters_389 ?_
    refine R_iadd dL_letters_391 ?_
    refine R_iconst (v := 1) dL_letters_392 (by decide) ?_
    rw [show (30 : Int32) + nI i = nI (30 + i) from nI_add 30 i]
    refine R_iast dL_letters_393 sh_504 (vp_in_nI (by omega) (by decide)) (nI_clamp (by omega)) ?_
    have fA : ∀ x y, ∀ q, q ≠ 504 → a_up (a_up V3 504 4 x) 504 (30 + i) y q = V3 q := fun x y q hq => (a_up_row hq).trans (a_up_row hq)
    refine R_aload_1 dL_letters_394 ?_
    refine R_aload_3 dL_letters_395 ?_
    refine R_aload_4 dL_letters_396 ?_
    refine R_iload_6 dL_letters_398 ?_
    refine R_callS (T := mL_letters) (T' := mL_spread) (As := [_, _, _, _]) (mc' := 0) (ms' := 0) okL_spread mlL_113 rfl (ct_spread (V := a_up (a_up V3 504 4 (.int (nI (pa + tot ent mt po b st (rt i) (rr i) n)))) 504 (30 + i) (.int 1)) (mt := mt) (po := po) (n := n) (r := rr i) (i := i) ((a_up_ne (Or.inr (by omega))).trans ((a_up_ne (Or.inr (by omega))).trans ((congrFun q4 0).trans e0))) ((a_up_ne (Or.inr (by omega))).trans ((a_up_ne (Or.inr (by omega))).trans ((congrFun q4 _).trans (er i i8).2.1))) i8 (by omega) (hg.fr ((fA _ _ _ (by decide)).trans (f4 507 (by decide) (by decide)))) (m8.fr2 ((fA _ _ _ (by decide)).trans (f4 508 (by decide) (by decide)))) po8 hs (by omega)) rfl (by decide) (by decide) (Nat.le_of_ble_eq_true rfl) dL_letters_400 (fun v9 S9 V5 u9 => ?_) (fun E S9 V9 h9 => h9.elim)
    obtain ⟨rfl, rfl, m5, f5⟩ := u9
    have g5 : ∀ q, 504 ≤ q → q ≠ 509 → q ≠ 508 → q ≠ 504 → V5 q = V0 q := fun q a1 a2 a3 a4 => (f5 q a3).trans ((fA _ _ q a4).trans (f4 q a1 a2))
    have e5 := f5 504 (by decide)
    have h5 := h3.low (V' := V5) (fun q hq => (f5 q (by omega)).trans (fA _ _ q (by omega)))
    rw [epa] at h5
    have mp : MK V5 508 (poF (rr i) K po) := fun q hq => by rw [psp q hq]; exact m5 q hq
    have LWn : LW V5 ent n mt (poF (rr i) K po) b st (pa + tot ent mt po b st (rt i) (rr i) n) nr rt rr (upN pd i true) (upN kn i K.length) (klF kl i K) := by
      refine ⟨h5, ⟨?_, ?_, ?_, ?_, ?_, fun q hq => ⟨?_, ?_, ?_⟩⟩, aa.fr (g5 505 (by decide) (by decide) (by decide) (by decide)), m6.fr2 (g5 506 (by decide) (by decide) (by decide) (by decide)), mp, n2, n9, r1, hb5, hs6, hr3⟩
      · exact (congrFun e5 0).trans ((a_up_ne (Or.inr (by omega))).trans ((a_up_ne (Or.inr (by omega))).trans ((congrFun q4 0).trans e0)))
      · exact (congrFun e5 1).trans ((a_up_ne (Or.inr (by omega))).trans ((a_up_ne (Or.inr (by omega))).trans ((congrFun q4 1).trans e1)))
      · exact (congrFun e5 2).trans ((a_up_ne (Or.inr (by omega))).trans ((a_up_ne (Or.inr (by omega))).trans ((congrFun q4 2).trans e2)))
      · exact (congrFun e5 3).trans ((a_up_ne (Or.inr (by omega))).trans ((a_up_ne (Or.inr (by omega))).trans ((congrFun q4 3).trans e3)))
      · exact (congrFun e5 4).trans ((a_up_ne (Or.inr (by omega))).trans (a_up_self _ _ _ _))
      · exact (congrFun e5 _).trans ((a_up_ne (Or.inr (by omega))).trans ((a_up_ne (Or.inr (by omega))).trans ((congrFun q4 _).trans (er q hq).1)))
      · exact (congrFun e5 _).trans ((a_up_ne (Or.inr (by omega))).trans ((a_up_ne (Or.inr (by omega))).trans ((congrFun q4 _).trans (er q hq).2.1)))
      · rw [upN_if i8 hq]
        by_cases z : q = i
        · subst z
          rw [if_pos rfl]
          exact (congrFun e5 _).trans (a_up_self _ _ _ _)
        · rw [if_neg z]
          exact (congrFun e5 _).trans ((a_up_ne (Or.inr (by omega))).trans ((a_up_ne (Or.inr (by omega))).trans ((congrFun q4 _).trans (er q hq).2.2)))
    first
      | (refine R_iconst (v := 0) dL_letters_403 (by decide) ?_
         refine R_istore_11 rfl (by decide) dL_letters_404 ?_
         refine R_less (kc' := 0 + n) (ks' := 0 + 6 * n) (by omega) (by omega) ?_
         exact lR h5 LWn.2.1.1 mp (by omega) ⟨rfl, rfl, _, _, _, _, _, LWn, by omega, fun q q1 q2 => (psp q q2).trans (if_neg (fun z => by omega))⟩ n 0 (by omega))
      | (have LWn := h.q h1 (f.trans f1.q)
         refine R_iconst (v := 0) dL_letters_403 (by decide) ?_
         refine R_istore_11 rfl (by decide) dL_letters_404 ?_
         refine R_less (kc' := 0 + n) (ks' := 0 + 6 * n) (by omega) (by omega) ?_
         exact lR h1 LWn.2.1.1 LWn.2.2.2.2.1 (by omega) ⟨rfl, rfl, _, _, _, _, _, LWn, by omega, fun _ _ _ => rfl⟩ n 0 (by omega))

end LTR2
