/-! ===== the law: matches; a round ===== -/
def updm (y : Bool) (x d : Nat) : Nat := if y = true then x ||| 2 ^ d else clr x d
theorem updm_lt {y : Bool} {x d : Nat} (hx : x < 2 ^ 12) (hd : d < 12) : updm y x d < 2 ^ 12 := by
  unfold updm clr
  split
  · exact Nat.or_lt_two_pow hx (Nat.pow_lt_pow_right (by decide) hd)
  · split
    · exact Nat.xor_lt_two_pow hx (Nat.pow_lt_pow_right (by decide) hd)
    · exact hx
def m1f (mt : Nat → Nat) (y : Bool) (a d : Nat) : Nat → Nat := upN mt a (updm y (mt a) d)
def m2f (mt : Nat → Nat) (y : Bool) (a d : Nat) : Nat → Nat := upN (m1f mt y a d) d (updm y (m1f mt y a d d) a)
theorem m2f_no {mt : Nat → Nat} {n a d : Nat} (hs : sym mt n) (ha : a < 12) (hd : d < 12) (h : ¬ (a ≠ d ∧ (mt a).testBit d = true)) : m2f mt false a d = mt := by
  have ba : ¬ (mt a).testBit d = true := fun z => h ⟨(hs.2 a d ha hd z).2.2.1, z⟩
  have e1 : m1f mt false a d = mt := by
    funext k
    unfold m1f upN
    split
    · rename_i e; rw [e]; exact (if_neg (by decide)).trans (clr_b ba)
    · rfl
  have bd : ¬ (mt d).testBit a = true := fun z => ba (hs.2 d a hd ha z).2.2.2
  unfold m2f
  rw [e1]
  funext k
  unfold upN
  split
  · rename_i e; rw [e]; exact (if_neg (by decide)).trans (clr_b bd)
  · rfl
theorem m2f_yes {mt : Nat → Nat} {n a d : Nat} (hs : sym mt n) (ha : a < 12) (hd : d < 12) (hne : a ≠ d) : m2f mt (decide (¬ (mt a).testBit d = true)) a d = tM mt a d := by
  have sy : (mt d).testBit a = (mt a).testBit d := by
    rcases q : (mt a).testBit d with _ | _
    · rcases q2 : (mt d).testBit a with _ | _
      · rfl
      · rw [(hs.2 d a hd ha q2).2.2.2] at q; cases q
    · exact (hs.2 a d ha hd q).2.2.2
  have ue : ∀ x e : Nat, x.testBit e = (mt a).testBit d → updm (decide (¬ (mt a).testBit d = true)) x e = x ^^^ 2 ^ e := fun x e hx => by
    unfold updm
    by_cases q : (mt a).testBit d = true
    · rw [if_neg (by rw [decide_eq_true_eq]; exact not_not_intro q)]
      unfold clr
      rw [if_pos (hx.trans q)]
    · rw [if_pos (decide_eq_true q)]
      exact or_new (by rw [hx]; exact q)
  have e1 : m1f mt (decide (¬ (mt a).testBit d = true)) a d = upN mt a (mt a ^^^ 2 ^ d) := by unfold m1f; rw [ue _ _ rfl]
  unfold m2f
  rw [e1, upN_n (Ne.symm hne), ue _ _ sy]
  rfl
theorem bI_dec {P : Prop} [Decidable P] : bI (decide P = true) = bI P := by
  by_cases h : P
  · rw [bI_t h, bI_t (decide_eq_true h)]
  · rw [bI_f h, bI_f (by rw [decide_eq_true_eq]; exact h)]
section LAW2
variable {p : Program} {l : Launch} {e : Env} {s : State} {m : MethodId} {args : Array Value} {below : List Frame} {meth : Method} {c : Code} {D : va_G} {cA : Nat → ClassId} {o : Nat} {x0 : Nat → Nat} {Z : State → Prop} {kc ks i : Nat}
variable {ent : Nat → EntN} {n : Nat} {mt po : Nat → Nat} {b st pa nr r : Nat} {rt rr : Nat → Nat} {pd : Nat → Bool} {kn : Nat → Nat} {kl : Nat → Nat → KL}
set_option maxHeartbeats 4000000 in
theorem w270 {V : aV} {wh a d : Nat} {v u : Int32} {y W : Bool} {mt0 : Nat → Nat} {a17 : Option Value} (C : a_CG p s m args meth c mLaw) (K : a_K o x0 cA D s) (hN : aNcs s) (ho : o ≤ s.heap.size) (hls : l.stackTraces = false) (m6 : MK V 506 mt0) (ha : a < 12) (hd : d < 12) (hW : ¬ (W = true ∧ y = true)) (ht : ∀ V', MK V' 506 (m2f mt0 y a d) → FrA V V' 506 → RG p l e room_1 s m args below meth c D cA o x0 mLaw Z (kc) (ks) 510 [some (.retAddr 2), some (.ref 0), some (.ref 504), some (.ref 505), some (.ref 506), some (.ref 507), some (.ref 508), some (.ref 509), some (.int 1), some (.int (nI i)), some (.int v), some (.int u), some (.int (nI wh)), some (.int (nI r)), some (.int (nI a)), some (.int (nI d)), some (.int (bI (W = true))), some (.int (bI (y = true)))] [] Sh V') : RG p l e room_1 s m args below meth c D cA o x0 mLaw Z (kc) (ks) 270 [some (.retAddr 2), some (.ref 0), some (.ref 504), some (.ref 505), some (.ref 506), some (.ref 507), some (.ref 508), some (.ref 509), some (.int 1), some (.int (nI i)), some (.int v), some (.int u), some (.int (nI wh)), some (.int (nI r)), some (.int (nI a)), some (.int (nI d)), some (.int (bI (W = true))), a17] [.int (bI (y = true))] Sh V := by
  have xa := m6 a ha
  have x1 : m1f mt0 y a d d < 2 ^ 12 := by
    unfold m1f
    by_cases q : d = a
    · rw [q, upN_s]; exact updm_lt xa.2 ha
    · rw [upN_n q]; exact (m6 d hd).2
  have k1 : MK (a_up V 506 a (.int (nI (updm y (mt0 a) d)))) 506 (m1f mt0 y a d) := fun q hq => by
    unfold m1f
    by_cases z : q = a
    · rw [z, upN_s]; exact ⟨a_up_self _ _ _ _, updm_lt xa.2 hd⟩
    · rw [upN_n z]; exact ⟨(a_up_ne (Or.inr z)).trans (m6 q hq).1, (m6 q hq).2⟩
  have k2 : MK (a_up (a_up V 506 a (.int (nI (updm y (mt0 a) d)))) 506 d (.int (nI (updm y (m1f mt0 y a d d) a)))) 506 (m2f mt0 y a d) := fun q hq => by
    unfold m2f
    by_cases z : q = d
    · rw [z, upN_s]; exact ⟨a_up_self _ _ _ _, updm_lt x1 ha⟩
    · rw [upN_n z]; exact ⟨(a_up_ne (Or.inr z)).trans (k1 q hq).1, (k1 q hq).2⟩
  have gd := (k1 d hd).1
  have ga := (k1 a ha).1
  have T307 : RG p l e room_1 s m args below meth c D cA o x0 mLaw Z (kc) (ks) 307 [some (.retAddr 2), some (.ref 0), some (.ref 504), some (.ref 505), some (.ref 506), some (.ref 507), some (.ref 508), some (.ref 509), some (.int 1), some (.int (nI i)), some (.int v), some (.int u), some (.int (nI wh)), some (.int (nI r)), some (.int (nI a)), some (.int (nI d)), some (.int (bI (W = true))), some (.int (bI (y = true)))] [] Sh (a_up V 506 a (.int (nI (updm y (mt0 a) d)))) := by
    refine G_aload_4 C K dL_law_307 ?_
    refine G_iload_15 C K dL_law_309 ?_
    refine G_iload_17 C K dL_law_311 ?_
    refine G_if_eq C K 329 dL_law_313 (by decide) (fun c313 => ?_) (fun c313 => ?_)
    · refine G_aload_4 C K dL_law_329 ?_
      refine G_iload_15 C K dL_law_331 ?_
      refine G_iald C K dL_law_333 sh_506 (vp_in_nI (by omega) (by decide)) (nI_clamp (by omega)) gd ?_
      refine G_iconst C K (v := 1) dL_law_334 (by decide) ?_
      refine G_iload_14 C K dL_law_335 ?_
      refine G_ishl C K dL_law_337 ?_
      refine G_iconst C K (v := -1) dL_law_338 (by decide) ?_
      refine G_ixor C K dL_law_339 ?_
      refine G_iand C K dL_law_340 ?_
      first
        | (have ev : m1f mt0 y a d d ||| 2 ^ a = updm y (m1f mt0 y a d d) a := (if_pos (bI_ne c313)).symm
           rw [bk_shl (by omega), bk_or, ev])
        | (have ev : clr (m1f mt0 y a d d) a = updm y (m1f mt0 y a d d) a := (if_neg (bI_eq c313)).symm
           rw [clr_eq x1 ha, ev])
      refine G_iast C K dL_law_341 sh_506 (vp_in_nI (by omega) (by decide)) (nI_clamp (by omega)) ?_
      refine G_iload_16 C K dL_law_342 ?_
      refine G_if_eq C K 352 dL_law_344 (by decide) (fun c344 => ?_) (fun c344 => ?_)
      · refine G_iconst C K (v := 1) dL_law_352 (by decide) ?_
        refine G_goto C K 357 dL_law_353 (by decide) ?_
        refine G_istore_8 C K rfl (by decide) dL_law_357 ?_
        refine G_goto C K 510 dL_law_359 (by decide) ?_
        exact ht _ k2 FrA.refl.up.up
      · refine G_iload_17 C K dL_law_347 ?_
        refine G_if_ne C K 356 dL_law_349 (by decide) (fun c349 => ?_) (fun c349 => ?_)
        · exact absurd ⟨bI_ne c344, bI_ne c349⟩ hW
        · refine G_iconst C K (v := 1) dL_law_352 (by decide) ?_
          refine G_goto C K 357 dL_law_353 (by decide) ?_
          refine G_istore_8 C K rfl (by decide) dL_law_357 ?_
          refine G_goto C K 510 dL_law_359 (by decide) ?_
          exact ht _ k2 FrA.refl.up.up
    · refine G_aload_4 C K dL_law_316 ?_
      refine G_iload_15 C K dL_law_318 ?_
      refine G_iald C K dL_law_320 sh_506 (vp_in_nI (by omega) (by decide)) (nI_clamp (by omega)) gd ?_
      refine G_iconst C K (v := 1) dL_law_321 (by decide) ?_
      refine G_iload_14 C K dL_law_322 ?_
      refine G_ishl C K dL_law_324 ?_
      refine G_ior C K dL_law_325 ?_
      refine G_goto C K 341 dL_law_326 (by decide) ?_
      first
        | (have ev : m1f mt0 y a d d ||| 2 ^ a = updm y (m1f mt0 y a d d) a := (if_pos (bI_ne c313)).symm
           rw [bk_shl (by omega), bk_or, ev])
        | (have ev : clr (m1f mt0 y a d d) a = updm y (m1f mt0 y a d d) a := (if_neg (bI_eq c313)).symm
           rw [clr_eq x1 ha, ev])
      refine G_iast C K dL_law_341 sh_506 (vp_in_nI (by omega) (by decide)) (nI_clamp (by omega)) ?_
      refine G_iload_16 C K dL_law_342 ?_
      refine G_if_eq C K 352 dL_law_344 (by decide) (fun c344 => ?_) (fun c344 => ?_)
      · refine G_iconst C K (v := 1) dL_law_352 (by decide) ?_
        refine G_goto C K 357 dL_law_353 (by decide) ?_
        refine G_istore_8 C K rfl (by decide) dL_law_357 ?_
        refine G_goto C K 510 dL_law_359 (by decide) ?_
        exact ht _ k2 FrA.refl.up.up
      · refine G_iload_17 C K dL_law_347 ?_
        refine G_if_ne C K 356 dL_law_349 (by decide) (fun c349 => ?_) (fun c349 => ?_)
        · exact absurd ⟨bI_ne c344, bI_ne c349⟩ hW
        · refine G_iconst C K (v := 1) dL_law_352 (by decide) ?_
          refine G_goto C K 357 dL_law_353 (by decide) ?_
          refine G_istore_8 C K rfl (by decide) dL_law_357 ?_
          refine G_goto C K 510 dL_law_359 (by decide) ?_
          exact ht _ k2 FrA.refl.up.up
  refine G_istore_17 C K rfl (by decide) dL_law_270 ?_
  refine G_aload_4 C K dL_law_272 ?_
  refine G_iload_14 C K dL_law_274 ?_
  refine G_iload_17 C K dL_law_276 ?_
  refine G_if_eq C K 294 dL_law_278 (by decide) (fun c278 => ?_) (fun c278 => ?_)
  · refine G_aload_4 C K dL_law_294 ?_
    refine G_iload_14 C K dL_law_296 ?_
    refine G_iald C K dL_law_298 sh_506 (vp_in_nI (by omega) (by decide)) (nI_clamp (by omega)) xa.1 ?_
    refine G_iconst C K (v := 1) dL_law_299 (by decide) ?_
    refine G_iload_15 C K dL_law_300 ?_
    refine G_ishl C K dL_law_302 ?_
    refine G_iconst C K (v := -1) dL_law_303 (by decide) ?_
    refine G_ixor C K dL_law_304 ?_
    refine G_iand C K dL_law_305 ?_
    first
      | (have ev : mt0 a ||| 2 ^ d = updm y (mt0 a) d := (if_pos (bI_ne c278)).symm
         rw [bk_shl (by omega), bk_or, ev])
      | (have ev : clr (mt0 a) d = updm y (mt0 a) d := (if_neg (bI_eq c278)).symm
         rw [clr_eq xa.2 hd, ev])
    refine G_iast C K dL_law_306 sh_506 (vp_in_nI (by omega) (by decide)) (nI_clamp (by omega)) ?_
    exact T307
  · refine G_aload_4 C K dL_law_281 ?_
    refine G_iload_14 C K dL_law_283 ?_
    refine G_iald C K dL_law_285 sh_506 (vp_in_nI (by omega) (by decide)) (nI_clamp (by omega)) xa.1 ?_
    refine G_iconst C K (v := 1) dL_law_286 (by decide) ?_
    refine G_iload_15 C K dL_law_287 ?_
    refine G_ishl C K dL_law_289 ?_
    refine G_ior C K dL_law_290 ?_
    refine G_goto C K 306 dL_law_291 (by decide) ?_
    first
      | (have ev : mt0 a ||| 2 ^ d = updm y (mt0 a) d := (if_pos (bI_ne c278)).symm
         rw [bk_shl (by omega), bk_or, ev])
      | (have ev : clr (mt0 a) d = updm y (mt0 a) d := (if_neg (bI_eq c278)).symm
         rw [clr_eq xa.2 hd, ev])
    refine G_iast C K dL_law_306 sh_506 (vp_in_nI (by omega) (by decide)) (nI_clamp (by omega)) ?_
    exact T307
set_option maxHeartbeats 4000000 in
theorem w262 {V : aV} {wh a d : Nat} {v u : Int32} {W : Bool} {a17 : Option Value} (C : a_CG p s m args meth c mLaw) (K : a_K o x0 cA D s) (hN : aNcs s) (ho : o ≤ s.heap.size) (hls : l.stackTraces = false) (ht : ∀ V', LX V' (i + 1) → RG p l e room_1 s m args below meth c D cA o x0 mLaw Z (kc) (ks) 108 [some (.retAddr 2), some (.ref 0), some (.ref 504), some (.ref 505), some (.ref 506), some (.ref 507), some (.ref 508), some (.ref 509), some (.int 1), some (.int (nI (i + 1))), none, none, none, none, none, none, none, none] [] Sh V') (h : LW V ent n mt po b st pa nr rt rr pd kn kl) (hpa : pa ≤ 50400 * i) (hz : ∀ q, n ≤ q → q < 12 → po q = 0) (hi : i < 40) (hr : r < nr) (h9 : V 509 1 = .int (nI i)) (ha : a < n) (hd : d < n) (hW : W = true ↔ (a ≠ d ∧ (mt a).testBit d = true)) : RG p l e room_1 s m args below meth c D cA o x0 mLaw Z (kc + 4620 + 3) (ks + 27720 + 18) 262 [some (.retAddr 2), some (.ref 0), some (.ref 504), some (.ref 505), some (.ref 506), some (.ref 507), some (.ref 508), some (.ref 509), some (.int 1), some (.int (nI i)), some (.int v), some (.int u), some (.int (nI wh)), some (.int (nI r)), some (.int (nI a)), some (.int (nI d)), some (.int (bI (W = true))), a17] [] Sh V := by
  obtain ⟨hC, ⟨e0, e1, e2, e3, e4, er⟩, aa, m6, m8, n2, n9, r1, hb5, hs6, hr3⟩ := id h
  have hs : sym mt n := hC.2.2.2.1.2.2.1
  have nr8 : nr ≤ 8 := hC.2.2.2.2.2.1
  refine G_aload_1 C K dL_law_262 ?_
  refine G_iload_14 C K dL_law_263 ?_
  refine G_iload_15 C K dL_law_265 ?_
  refine G_callSX (T' := mL_match) (hh := hL_match) (As := [_, _, _]) (mc' := 3) (ms' := 18) C K hN ho hls ddL_match wi_L chL_match stL_match mlL_151 (ctw_match hC ha hd) rfl ⟨Nat.le_of_ble_eq_true rfl, Nat.le_of_ble_eq_true rfl⟩ (Nat.le_of_ble_eq_true rfl) dL_law_267 (fun v9 S9 V9 u9 => ?_)
  obtain ⟨rfl, f9, ⟨hne, rfl, hc⟩ | ⟨rfl, hno, hc⟩⟩ := u9
  · have m6' := m6.fr2 (f9 506 (by decide))
    rw [show bI (¬ (mt a).testBit d = true) = bI (decide (¬ (mt a).testBit d = true) = true) from bI_dec.symm]
    refine w270 (y := decide (¬ (mt a).testBit d = true)) C K hN ho hls m6' (by omega) (by omega) (fun z => by have := (hW.1 z.1).2; exact (of_decide_eq_true z.2) this) (fun V' k2 f2 => ?_)
    have m7 : MK V' 506 (tM mt a d) := by rw [← m2f_yes hs (by omega) (by omega) hne]; exact k2
    have g2 : ∀ q, 504 ≤ q → q ≠ 506 → V' q = V q := fun q q1 q2 => (f2 q q2).trans (f9 q q1)
    have h2 : LW V' ent n (tM mt a d) po b st pa nr rt rr pd kn kl := ⟨hc.low (fun q hq => f2 q (by omega)), h.2.1.fr (g2 504 (by decide) (by decide)), h.2.2.1.fr (g2 505 (by decide) (by decide)), m7, h.2.2.2.2.1.fr2 (g2 508 (by decide) (by decide)), h.2.2.2.2.2⟩
    exact w510 C K hN ho hls ht h2 hpa hz hi hr ((congrFun (g2 509 (by decide) (by decide)) 1).trans h9) rfl
  · have m6' := m6.fr2 (f9 506 (by decide))
    refine w270 (y := false) C K hN ho hls m6' (by omega) (by omega) (fun z => absurd z.2 Bool.false_ne_true) (fun V' k2 f2 => ?_)
    have m7 : MK V' 506 mt := by rw [← m2f_no hs (by omega) (by omega) hno]; exact k2
    have g2 : ∀ q, 504 ≤ q → q ≠ 506 → V' q = V q := fun q q1 q2 => (f2 q q2).trans (f9 q q1)
    have h2 : LW V' ent n mt po b st pa nr rt rr pd kn kl := ⟨hc.low (fun q hq => f2 q (by omega)), h.2.1.fr (g2 504 (by decide) (by decide)), h.2.2.1.fr (g2 505 (by decide) (by decide)), m7, h.2.2.2.2.1.fr2 (g2 508 (by decide) (by decide)), h.2.2.2.2.2⟩
    exact w510 C K hN ho hls ht h2 hpa hz hi hr ((congrFun (g2 509 (by decide) (by decide)) 1).trans h9) rfl
set_option maxHeartbeats 4000000 in
theorem w212 {V : aV} {wh : Nat} {v u : Int32} {a14 a15 a16 a17 : Option Value} (C : a_CG p s m args meth c mLaw) (K : a_K o x0 cA D s) (hN : aNcs s) (ho : o ≤ s.heap.size) (hls : l.stackTraces = false) (ht : ∀ V', LX V' (i + 1) → RG p l e room_1 s m args below meth c D cA o x0 mLaw Z (kc) (ks) 108 [some (.retAddr 2), some (.ref 0), some (.ref 504), some (.ref 505), some (.ref 506), some (.ref 507), some (.ref 508), some (.ref 509), some (.int 1), some (.int (nI (i + 1))), none, none, none, none, none, none, none, none] [] Sh V') (h : LW V ent n mt po b st pa nr rt rr pd kn kl) (hpa : pa ≤ 50400 * i) (hz : ∀ q, n ≤ q → q < 12 → po q = 0) (hi : i < 40) (hr : r < nr) (h9 : V 509 1 = .int (nI i)) : RG p l e room_1 s m args below meth c D cA o x0 mLaw Z (kc + 4623) (ks + 27738) 212 [some (.retAddr 2), some (.ref 0), some (.ref 504), some (.ref 505), some (.ref 506), some (.ref 507), some (.ref 508), some (.ref 509), some (.int 1), some (.int (nI i)), some (.int v), some (.int u), some (.int (nI wh)), some (.int (nI r)), a14, a15, a16, a17] [] Sh V := by
  obtain ⟨hC, ⟨e0, e1, e2, e3, e4, er⟩, aa, m6, m8, n2, n9, r1, hb5, hs6, hr3⟩ := id h
  have hs : sym mt n := hC.2.2.2.1.2.2.1
  have nr8 : nr ≤ 8 := hC.2.2.2.2.2.1
  refine G_iload_11 C K dL_law_212 ?_
  refine G_aload_2 C K dL_law_214 ?_
  refine G_iconst C K (v := 0) dL_law_215 (by decide) ?_
  refine G_iald C K dL_law_216 sh_504 (vp_in_nI (n := 0) (by decide) (by decide)) rfl e0 ?_
  refine G_callS (T' := mL_low) (As := [_, _]) (mc' := 0) (ms' := 0) C K ho hls okL_low mlL_36 (ct_low (n := n) _ (by omega) (by omega)) rfl ⟨Nat.le_of_ble_eq_true rfl, Nat.le_of_ble_eq_true rfl⟩ (Nat.le_of_ble_eq_true rfl) dL_law_217 (fun v9 S9 V9 u9 => ?_)
  obtain ⟨a, ha, rfl, rfl, rfl⟩ := u9
  refine G_istore_14 C K rfl (by decide) dL_law_220 ?_
  refine G_iload_11 C K dL_law_222 ?_
  refine G_iconst C K (v := 5) dL_law_224 (by decide) ?_
  refine G_ishr C K dL_law_225 ?_
  refine G_aload_2 C K dL_law_226 ?_
  refine G_iconst C K (v := 0) dL_law_227 (by decide) ?_
  refine G_iald C K dL_law_228 sh_504 (vp_in_nI (n := 0) (by decide) (by decide)) rfl e0 ?_
  refine G_callS (T' := mL_low) (As := [_, _]) (mc' := 0) (ms' := 0) C K ho hls okL_low mlL_36 (ct_low (n := n) _ (by omega) (by omega)) rfl ⟨Nat.le_of_ble_eq_true rfl, Nat.le_of_ble_eq_true rfl⟩ (Nat.le_of_ble_eq_true rfl) dL_law_229 (fun v9 S9 V9 u9 => ?_)
  obtain ⟨d, hd, rfl, rfl, rfl⟩ := u9
  refine G_istore_15 C K rfl (by decide) dL_law_232 ?_
  refine G_iload_14 C K dL_law_234 ?_
  refine G_iload_15 C K dL_law_236 ?_
  refine G_icmp_eq C K 259 dL_law_238 (by decide) (fun c238 => ?_) (fun c238 => ?_)
  · refine G_iconst C K (v := 0) dL_law_259 (by decide) ?_
    refine G_istore_16 C K rfl (by decide) dL_law_260 ?_
    first
      | exact w262 (W := true) C K hN ho hls ht h hpa hz hi hr h9 ha hd ⟨fun _ => ⟨hne, bI_1 c252⟩, fun _ => rfl⟩
      | exact w262 (W := false) C K hN ho hls ht h hpa hz hi hr h9 ha hd ⟨fun z => absurd z Bool.false_ne_true, fun z => absurd z.2 (bI_n1 c252)⟩
      | exact w262 (W := false) C K hN ho hls ht h hpa hz hi hr h9 ha hd ⟨fun z => absurd z Bool.false_ne_true, fun z => absurd ((nI_eq (by omega) (by omega)).1 c238) z.1⟩
  · have hne : ¬ a = d := fun z => c238 (by rw [z])
    have la := (m6 a (by omega)).2
    refine G_aload_4 C K dL_law_241 ?_
    refine G_iload_14 C K dL_law_243 ?_
    refine G_iald C K dL_law_245 sh_506 (vp_in_nI (by omega) (by decide)) (nI_clamp (by omega)) (m6 a (by omega)).1 ?_
    refine G_iload_15 C K dL_law_246 ?_
    refine G_ishr C K dL_law_248 ?_
    refine G_iconst C K (v := 1) dL_law_249 (by decide) ?_
    refine G_iand C K dL_law_250 ?_
    rw [mb_sh (by omega) (by omega)]
    refine G_iconst C K (v := 1) dL_law_251 (by decide) ?_
    refine G_icmp_ne C K 259 dL_law_252 (by decide) (fun c252 => ?_) (fun c252 => ?_)
    · refine G_iconst C K (v := 0) dL_law_259 (by decide) ?_
      refine G_istore_16 C K rfl (by decide) dL_law_260 ?_
      first
        | exact w262 (W := true) C K hN ho hls ht h hpa hz hi hr h9 ha hd ⟨fun _ => ⟨hne, bI_1 c252⟩, fun _ => rfl⟩
        | exact w262 (W := false) C K hN ho hls ht h hpa hz hi hr h9 ha hd ⟨fun z => absurd z Bool.false_ne_true, fun z => absurd z.2 (bI_n1 c252)⟩
        | exact w262 (W := false) C K hN ho hls ht h hpa hz hi hr h9 ha hd ⟨fun z => absurd z Bool.false_ne_true, fun z => absurd ((nI_eq (by omega) (by omega)).1 c238) z.1⟩
    · refine G_iconst C K (v := 1) dL_law_255 (by decide) ?_
      refine G_goto C K 260 dL_law_256 (by decide) ?_
      refine G_istore_16 C K rfl (by decide) dL_law_260 ?_
      first
        | exact w262 (W := true) C K hN ho hls ht h hpa hz hi hr h9 ha hd ⟨fun _ => ⟨hne, bI_1 c252⟩, fun _ => rfl⟩
        | exact w262 (W := false) C K hN ho hls ht h hpa hz hi hr h9 ha hd ⟨fun z => absurd z Bool.false_ne_true, fun z => absurd z.2 (bI_n1 c252)⟩
        | exact w262 (W := false) C K hN ho hls ht h hpa hz hi hr h9 ha hd ⟨fun z => absurd z Bool.false_ne_true, fun z => absurd ((nI_eq (by omega) (by omega)).1 c238) z.1⟩
set_option maxHeartbeats 4000000 in
theorem w199 {V : aV} {wh : Nat} {v u : Int32} {a14 a15 a16 a17 : Option Value} (C : a_CG p s m args meth c mLaw) (K : a_K o x0 cA D s) (hN : aNcs s) (ho : o ≤ s.heap.size) (hls : l.stackTraces = false) (ht : ∀ V', LX V' (i + 1) → RG p l e room_1 s m args below meth c D cA o x0 mLaw Z (kc) (ks) 108 [some (.retAddr 2), some (.ref 0), some (.ref 504), some (.ref 505), some (.ref 506), some (.ref 507), some (.ref 508), some (.ref 509), some (.int 1), some (.int (nI (i + 1))), none, none, none, none, none, none, none, none] [] Sh V') (h : LW V ent n mt po b st pa nr rt rr pd kn kl) (hpa : pa ≤ 50400 * i) (hz : ∀ q, n ≤ q → q < 12 → po q = 0) (hi : i < 40) (hr : r < nr) (h9 : V 509 1 = .int (nI i)) : RG p l e room_1 s m args below meth c D cA o x0 mLaw Z (kc + 4623) (ks + 27738) 199 [some (.retAddr 2), some (.ref 0), some (.ref 504), some (.ref 505), some (.ref 506), some (.ref 507), some (.ref 508), some (.ref 509), some (.int 1), some (.int (nI i)), some (.int v), some (.int u), some (.int (nI wh)), some (.int (nI r)), a14, a15, a16, a17] [] Sh V := by
  refine G_iload_12 C K dL_law_199 ?_
  refine G_iconst C K (v := 2) dL_law_201 (by decide) ?_
  refine G_icmp_le C K 362 dL_law_202 (by decide) (fun c202 => ?_) (fun c202 => ?_)
  · exact G_less (by omega) (by omega) (w362 C K hN ho hls ht h hpa hz hi hr h9)
  · refine G_iload_12 C K dL_law_205 ?_
    refine G_bipush C K (v := 6) dL_law_207 (by decide) ?_
    refine G_icmp_ge C K 362 dL_law_209 (by decide) (fun c209 => ?_) (fun c209 => ?_)
    · exact G_less (by omega) (by omega) (w362 C K hN ho hls ht h hpa hz hi hr h9)
    · exact w212 C K hN ho hls ht h hpa hz hi hr h9
set_option maxHeartbeats 4000000 in
theorem w172 {V : aV} {wh : Nat} {v u : Int32} {a14 a15 a16 a17 : Option Value} (C : a_CG p s m args meth c mLaw) (K : a_K o x0 cA D s) (hN : aNcs s) (ho : o ≤ s.heap.size) (hls : l.stackTraces = false) (ht : ∀ V', LX V' (i + 1) → RG p l e room_1 s m args below meth c D cA o x0 mLaw Z (kc) (ks) 108 [some (.retAddr 2), some (.ref 0), some (.ref 504), some (.ref 505), some (.ref 506), some (.ref 507), some (.ref 508), some (.ref 509), some (.int 1), some (.int (nI (i + 1))), none, none, none, none, none, none, none, none] [] Sh V') (h : LW V ent n mt po b st pa nr rt rr pd kn kl) (hpa : pa ≤ 50400 * i) (hz : ∀ q, n ≤ q → q < 12 → po q = 0) (hi : i < 40) (hr : r < nr) (h9 : V 509 1 = .int (nI i)) : RG p l e room_1 s m args below meth c D cA o x0 mLaw Z (kc + 4626) (ks + 27756) 172 [some (.retAddr 2), some (.ref 0), some (.ref 504), some (.ref 505), some (.ref 506), some (.ref 507), some (.ref 508), some (.ref 509), some (.int 1), some (.int (nI i)), some (.int v), some (.int u), some (.int (nI wh)), some (.int (nI r)), a14, a15, a16, a17] [] Sh V := by
  obtain ⟨hC, ⟨e0, e1, e2, e3, e4, er⟩, aa, m6, m8, n2, n9, r1, hb5, hs6, hr3⟩ := id h
  have hs : sym mt n := hC.2.2.2.1.2.2.1
  have nr8 : nr ≤ 8 := hC.2.2.2.2.2.1
  refine G_iload_12 C K dL_law_172 ?_
  refine G_iconst C K (v := 3) dL_law_174 (by decide) ?_
  refine G_icmp_ge C K 199 dL_law_175 (by decide) (fun c175 => ?_) (fun c175 => ?_)
  · exact G_less (by omega) (by omega) (w199 C K hN ho hls ht h hpa hz hi hr h9)
  · refine G_aload_2 C K dL_law_178 ?_
    refine G_iconst C K (v := 0) dL_law_179 (by decide) ?_
    refine G_iald C K dL_law_180 sh_504 (vp_in_nI (n := 0) (by decide) (by decide)) rfl e0 ?_
    refine G_bipush C K (v := 9) dL_law_181 (by decide) ?_
    refine G_icmp_ge C K 199 dL_law_183 (by decide) (fun c183 => ?_) (fun c183 => ?_)
    · exact G_less (by omega) (by omega) (w199 C K hN ho hls ht h hpa hz hi hr h9)
    · have n8 : n < 9 := Nat.lt_of_not_le fun y => c183 (nI_le (a := 9) y (by omega))
      refine G_aload_1 C K dL_law_186 ?_
      refine G_aload_2 C K dL_law_187 ?_
      refine G_aload_3 C K dL_law_188 ?_
      refine G_iload_11 C K dL_law_189 ?_
      refine G_callS (T' := mL_adds) (As := [_, _, _, _]) (mc' := 6) (ms' := 36) C K ho hls okL_adds mlL_144 (ct_adds u hC h.2.1 aa (show n < 9 from n8) (hz n (Nat.le_refl _) (by omega))) rfl ⟨Nat.le_of_ble_eq_true rfl, Nat.le_of_ble_eq_true rfl⟩ (Nat.le_of_ble_eq_true rfl) dL_law_191 (fun v9 S9 V9 u9 => ?_)
      obtain ⟨rfl, rfl, y, h1, h2, h3, h4⟩ := u9
      refine G_istore_8 C K rfl (by decide) dL_law_194 ?_
      refine G_goto C K 510 dL_law_196 (by decide) ?_
      have hw : LW V9 (upN ent n y) (n + 1) mt po b st pa nr rt rr pd kn kl := ⟨h1, h2, h3, m6.fr2 (h4 506 (by decide)), m8.fr2 (h4 508 (by decide)), by omega, by omega, r1, hb5, hs6, hr3⟩
      exact w510 C K hN ho hls ht hw hpa (fun q q1 q2 => hz q (by omega) q2) hi hr ((congrFun (h4 509 (by decide)) 1).trans h9) rfl
set_option maxHeartbeats 4000000 in
theorem w120 {V : aV} (C : a_CG p s m args meth c mLaw) (K : a_K o x0 cA D s) (hN : aNcs s) (ho : o ≤ s.heap.size) (hls : l.stackTraces = false) (ht : ∀ V', LX V' (i + 1) → RG p l e room_1 s m args below meth c D cA o x0 mLaw Z (kc) (ks) 108 [some (.retAddr 2), some (.ref 0), some (.ref 504), some (.ref 505), some (.ref 506), some (.ref 507), some (.ref 508), some (.ref 509), some (.int 1), some (.int (nI (i + 1))), none, none, none, none, none, none, none, none] [] Sh V') (hx : LX V i) (hi : i < 40) : RG p l e room_1 s m args below meth c D cA o x0 mLaw Z (kc + 4626) (ks + 27756) 120 [some (.retAddr 2), some (.ref 0), some (.ref 504), some (.ref 505), some (.ref 506), some (.ref 507), some (.ref 508), some (.ref 509), some (.int 1), some (.int (nI i)), none, none, none, none, none, none, none, none] [] Sh V := by
  obtain ⟨ent, n, mt, po, b, st, pa, nr, rt, rr, pd, kn, kl, h, hpa, hz⟩ := hx
  obtain ⟨hC, ⟨e0, e1, e2, e3, e4, er⟩, aa, m6, m8, n2, n9, r1, hb5, hs6, hr3⟩ := id h
  have hs : sym mt n := hC.2.2.2.1.2.2.1
  have nr8 : nr ≤ 8 := hC.2.2.2.2.2.1
  refine G_tload_0 C dL_law_120 ?_
  refine G_iconst C K (v := 2) dL_law_121 (by decide) ?_
  refine G_iconst C K (v := 2) dL_law_122 (by decide) ?_
  refine G_iload_9 C K dL_law_123 ?_
  refine G_imul C K dL_law_125 ?_
  refine G_iadd C K dL_law_126 ?_
  rw [show (2 : Int32) + (2 : Int32) * nI i = nI (2 + 2 * i) from by rw [show (2 : Int32) * nI i = nI (2 * i) from pk_mul 2 i]; exact nI_add 2 _]
  refine G_callS (T' := mL_cell) (As := [_, _]) (mc' := 0) (ms' := 0) C K ho hls okL_cell mlL_141 (ct_cell (k := 2 + 2 * i) (by omega)) rfl ⟨Nat.le_of_ble_eq_true rfl, Nat.le_of_ble_eq_true rfl⟩ (Nat.le_of_ble_eq_true rfl) dL_law_127 (fun v9 S9 V9 u9 => ?_)
  obtain ⟨⟨v, rfl⟩, rfl, rfl⟩ := u9
  refine G_istore_10 C K rfl (by decide) dL_law_130 ?_
  refine G_tload_0 C dL_law_132 ?_
  refine G_iconst C K (v := 3) dL_law_133 (by decide) ?_
  refine G_iconst C K (v := 2) dL_law_134 (by decide) ?_
  refine G_iload_9 C K dL_law_135 ?_
  refine G_imul C K dL_law_137 ?_
  refine G_iadd C K dL_law_138 ?_
  rw [show (3 : Int32) + (2 : Int32) * nI i = nI (3 + 2 * i) from by rw [show (2 : Int32) * nI i = nI (2 * i) from pk_mul 2 i]; exact nI_add 3 _]
  refine G_callS (T' := mL_cell) (As := [_, _]) (mc' := 0) (ms' := 0) C K ho hls okL_cell mlL_141 (ct_cell (k := 3 + 2 * i) (by omega)) rfl ⟨Nat.le_of_ble_eq_true rfl, Nat.le_of_ble_eq_true rfl⟩ (Nat.le_of_ble_eq_true rfl) dL_law_139 (fun v9 S9 V9 u9 => ?_)
  obtain ⟨⟨u, rfl⟩, rfl, rfl⟩ := u9
  refine G_istore_11 C K rfl (by decide) dL_law_142 ?_
  refine G_iload_10 C K dL_law_144 ?_
  refine G_bipush C K (v := 14) dL_law_146 (by decide) ?_
  refine G_ishr C K dL_law_148 ?_
  refine G_bipush C K (v := 10) dL_law_149 (by decide) ?_
  refine G_callS (T' := mL_low) (As := [_, _]) (mc' := 0) (ms' := 0) C K ho hls okL_low mlL_36 (ct_low (n := 10) _ (by decide) (by decide)) rfl ⟨Nat.le_of_ble_eq_true rfl, Nat.le_of_ble_eq_true rfl⟩ (Nat.le_of_ble_eq_true rfl) dL_law_151 (fun v9 S9 V9 u9 => ?_)
  obtain ⟨wh, hwh, rfl, rfl, rfl⟩ := u9
  refine G_istore_12 C K rfl (by decide) dL_law_154 ?_
  refine G_iload_11 C K dL_law_156 ?_
  refine G_aload_2 C K dL_law_158 ?_
  refine G_iconst C K (v := 1) dL_law_159 (by decide) ?_
  refine G_iald C K dL_law_160 sh_504 (vp_in_nI (n := 1) (by decide) (by decide)) rfl e1 ?_
  refine G_callS (T' := mL_low) (As := [_, _]) (mc' := 0) (ms' := 0) C K ho hls okL_low mlL_36 (ct_low (n := nr) _ (by omega) (by omega)) rfl ⟨Nat.le_of_ble_eq_true rfl, Nat.le_of_ble_eq_true rfl⟩ (Nat.le_of_ble_eq_true rfl) dL_law_161 (fun v9 S9 V9 u9 => ?_)
  obtain ⟨r, hr, rfl, rfl, rfl⟩ := u9
  refine G_istore_13 C K rfl (by decide) dL_law_164 ?_
  refine G_aload_7 C K dL_law_166 ?_
  refine G_iconst C K (v := 1) dL_law_168 (by decide) ?_
  refine G_iload_9 C K dL_law_169 ?_
  refine G_iast C K dL_law_171 sh_509 (vp_in_nI (n := 1) (by decide) (by decide)) rfl ?_
  have g2 : ∀ q, q ≠ 509 → a_up V 509 1 (.int (nI i)) q = V q := fun q hq => a_up_row hq
  have h2 : LW (a_up V 509 1 (.int (nI i))) ent n mt po b st pa nr rt rr pd kn kl := ⟨hC.low (fun q hq => g2 q (by omega)), h.2.1.fr (g2 504 (by decide)), h.2.2.1.fr (g2 505 (by decide)), h.2.2.2.1.fr2 (g2 506 (by decide)), h.2.2.2.2.1.fr2 (g2 508 (by decide)), h.2.2.2.2.2⟩
  exact w172 C K hN ho hls ht h2 hpa hz hi hr (a_up_self _ _ _ _)
set_option maxHeartbeats 4000000 in
theorem law_loop (C : a_CG p s m args meth c mLaw) (K : a_K o x0 cA D s) (hN : aNcs s) (ho : o ≤ s.heap.size) (hls : l.stackTraces = false) (hend : ∀ (V : aV), LX V 40 → RG p l e room_1 s m args below meth c D cA o x0 mLaw Z (kc) (ks) 624 [some (.retAddr 2), some (.ref 0), some (.ref 504), some (.ref 505), some (.ref 506), some (.ref 507), some (.ref 508), some (.ref 509), some (.int 1), some (.int (nI 40)), none, none, none, none, none, none, none, none] [] Sh V) : ∀ (d i : Nat) (V : aV), i + d = 40 → LX V i → RG p l e room_1 s m args below meth c D cA o x0 mLaw Z (kc + 4626 * d) (ks + 27756 * d) 108 [some (.retAddr 2), some (.ref 0), some (.ref 504), some (.ref 505), some (.ref 506), some (.ref 507), some (.ref 508), some (.ref 509), some (.int 1), some (.int (nI i)), none, none, none, none, none, none, none, none] [] Sh V := by
  intro d
  induction d with
  | zero =>
    intro i V hi hx
    have e9 : i = 40 := by omega
    subst e9
    refine G_iload_9 C K dL_law_108 ?_
    refine G_bipush C K (v := 40) dL_law_110 (by decide) ?_
    refine G_icmp_ge C K 624 dL_law_112 (by decide) (fun c112 => ?_) (fun c112 => absurd (by decide) c112)
    exact hend V hx
  | succ d ih =>
    intro i V hi hx
    refine G_less (kc' := kc + 4626 * d + 4626) (ks' := ks + 27756 * d + 27756) (by omega) (by omega) ?_
    refine G_iload_9 C K dL_law_108 ?_
    refine G_bipush C K (v := 40) dL_law_110 (by decide) ?_
    refine G_icmp_ge C K 624 dL_law_112 (by decide) (fun c112 => absurd c112 (nI_ge (a := i) (b := 40) (by omega) (by decide))) (fun c112 => ?_)
    refine G_iload_8 C K dL_law_115 ?_
    refine G_if_eq C K 624 dL_law_117 (by decide) (fun c117 => absurd c117 (by decide)) (fun c117 => ?_)
    exact w120 C K hN ho hls (fun V' h' => ih (i + 1) V' (by omega) h') hx (by omega)
end LAW2
