/-! ===== the law: its rounds ===== -/
abbrev mLaw : aMt := (yL_law, code, 18, ret)
/-- what holds between the rounds -/
def LX (V : aV) (i : Nat) : Prop := ∃ (ent : Nat → EntN) (n : Nat) (mt po : Nat → Nat) (b st pa nr : Nat) (rt rr : Nat → Nat) (pd : Nat → Bool) (kn : Nat → Nat) (kl : Nat → Nat → KL), LW V ent n mt po b st pa nr rt rr pd kn kl ∧ pa ≤ 50400 * i ∧ ∀ q, n ≤ q → q < 12 → po q = 0
section LAW1
variable {p : Program} {l : Launch} {e : Env} {s : State} {m : MethodId} {args : Array Value} {below : List Frame} {meth : Method} {c : Code} {D : va_G} {cA : Nat → ClassId} {o : Nat} {x0 : Nat → Nat} {Z : State → Prop} {kc ks i : Nat}
variable {ent : Nat → EntN} {n : Nat} {mt po : Nat → Nat} {b st pa nr r : Nat} {rt rr : Nat → Nat} {pd : Nat → Bool} {kn : Nat → Nat} {kl : Nat → Nat → KL}
theorem w618 {V : aV} {a10 a11 a12 a13 a14 : Option Value} (C : a_CG p s m args meth c mLaw) (K : a_K o x0 cA D s) (hN : aNcs s) (ho : o ≤ s.heap.size) (hls : l.stackTraces = false) (ht : ∀ V', LX V' (i + 1) → RG p l e room_1 s m args below meth c D cA o x0 mLaw Z (kc) (ks) 108 [some (.retAddr 2), some (.ref 0), some (.ref 504), some (.ref 505), some (.ref 506), some (.ref 507), some (.ref 508), some (.ref 509), some (.int 1), some (.int (nI (i + 1))), none, none, none, none, none, none, none, none] [] Sh V') (hx : LX V (i + 1)) : RG p l e room_1 s m args below meth c D cA o x0 mLaw Z (kc) (ks) 618 [some (.retAddr 2), some (.ref 0), some (.ref 504), some (.ref 505), some (.ref 506), some (.ref 507), some (.ref 508), some (.ref 509), some (.int 1), some (.int (nI i)), a10, a11, a12, a13, a14, none, none, none] [] Sh V := by
  refine G_iinc_9 C K rfl (by decide) dL_law_618 rfl ?_
  rw [show nI i + Int32.ofInt 1 = nI (i + 1) from nI_1 i]
  refine G_goto C K 108 dL_law_621 (by decide) ?_
  refine G_drop_10 C K ?_
  refine G_drop_11 C K ?_
  refine G_drop_12 C K ?_
  refine G_drop_13 C K ?_
  refine G_drop_14 C K ?_
  exact ht V hx
set_option maxHeartbeats 4000000 in
theorem w561 {V : aV} {wh : Nat} {v u : Int32} {a14 : Option Value} (C : a_CG p s m args meth c mLaw) (K : a_K o x0 cA D s) (hN : aNcs s) (ho : o ≤ s.heap.size) (hls : l.stackTraces = false) (ht : ∀ V', LX V' (i + 1) → RG p l e room_1 s m args below meth c D cA o x0 mLaw Z (kc) (ks) 108 [some (.retAddr 2), some (.ref 0), some (.ref 504), some (.ref 505), some (.ref 506), some (.ref 507), some (.ref 508), some (.ref 509), some (.int 1), some (.int (nI (i + 1))), none, none, none, none, none, none, none, none] [] Sh V') (h : LW V ent n mt po b st pa nr rt rr pd kn kl) (hpa : pa ≤ 50400 * i) (hz : ∀ q, n ≤ q → q < 12 → po q = 0) (hi : i < 40) (hr : r < nr) (hg : GV V n (gOf mt)) (h9 : V 509 1 = .int (nI i)) : RG p l e room_1 s m args below meth c D cA o x0 mLaw Z (kc + 4610) (ks + 27660) 561 [some (.retAddr 2), some (.ref 0), some (.ref 504), some (.ref 505), some (.ref 506), some (.ref 507), some (.ref 508), some (.ref 509), some (.int 1), some (.int (nI i)), some (.int v), some (.int u), some (.int (nI wh)), some (.int (nI r)), a14, none, none, none] [] Sh V := by
  obtain ⟨hC, ⟨e0, e1, e2, e3, e4, er⟩, aa, m6, m8, n2, n9, r1, hb5, hs6, hr3⟩ := id h
  have hs : sym mt n := hC.2.2.2.1.2.2.1
  have nr8 : nr ≤ 8 := hC.2.2.2.2.2.1
  have r8 : r < 8 := by omega
  refine G_iload_8 C K dL_law_561 ?_
  refine G_if_eq C K 618 dL_law_563 (by decide) (fun c563 => absurd c563 (by decide)) (fun c563 => ?_)
  refine G_aload_2 C K dL_law_566 ?_
  refine G_bipush C K (v := 30) dL_law_567 (by decide) ?_
  refine G_iload_13 C K dL_law_569 ?_
  refine G_iadd C K dL_law_571 ?_
  rw [show (30 : Int32) + nI r = nI (30 + r) from nI_add 30 r]
  refine G_iald C K dL_law_572 sh_504 (vp_in_nI (by omega) (by decide)) (nI_clamp (by omega)) (er r r8).2.2 ?_
  refine G_if_ne C K 618 dL_law_573 (by decide) (fun c573 => ?_) (fun c573 => ?_)
  · first
      | exact w618 C K hN ho hls ht ⟨_, _, _, _, _, _, _, _, _, _, _, _, _, hw, by omega, fun q q1 q2 => (hq2 q q1 q2).trans (hz q q1 q2)⟩
      | exact G_less (by omega) (by omega) (w618 C K hN ho hls ht ⟨_, _, _, _, _, _, _, _, _, _, _, _, _, h, by omega, hz⟩)
  · have hp2 : pd r = false := Bool.eq_false_iff.2 (bI_eq c573)
    refine G_iload_12 C K dL_law_576 ?_
    refine G_bipush C K (v := 8) dL_law_578 (by decide) ?_
    refine G_icmp_eq C K 590 dL_law_580 (by decide) (fun c580 => ?_) (fun c580 => ?_)
    · have hp3 := hp2
      refine G_aload_1 C K dL_law_590 ?_
      refine G_aload_2 C K dL_law_591 ?_
      refine G_aload_3 C K dL_law_592 ?_
      refine G_aload_5 C K dL_law_593 ?_
      refine G_aload_6 C K dL_law_595 ?_
      refine G_aload_7 C K dL_law_597 ?_
      refine G_iload_13 C K dL_law_599 ?_
      refine G_iload_12 C K dL_law_601 ?_
      refine G_bipush C K (v := 8) dL_law_603 (by decide) ?_
      refine G_icmp_ne C K 612 dL_law_605 (by decide) (fun c605 => ?_) (fun c605 => ?_)
      · refine G_iconst C K (v := 0) dL_law_612 (by decide) ?_
        refine G_callS (T' := mL_letters) (As := [_, _, _, _, _, _, _, _]) (mc' := 4610) (ms' := 27660) C K ho hls okL_letters mlL_164 (ct_letters2 h hg hr hp2 (j := i) (by omega) h9 (by omega)) rfl ⟨Nat.le_of_ble_eq_true rfl, Nat.le_of_ble_eq_true rfl⟩ (Nat.le_of_ble_eq_true rfl) dL_law_613 (fun v9 S9 V9 u9 => ?_)
        obtain ⟨rfl, rfl, po2, pa2, pd2, kn2, kl2, hw, hq1, hq2⟩ := u9
        refine G_istore_8 C K rfl (by decide) dL_law_616 ?_
        first
          | exact w618 C K hN ho hls ht ⟨_, _, _, _, _, _, _, _, _, _, _, _, _, hw, by omega, fun q q1 q2 => (hq2 q q1 q2).trans (hz q q1 q2)⟩
          | exact G_less (by omega) (by omega) (w618 C K hN ho hls ht ⟨_, _, _, _, _, _, _, _, _, _, _, _, _, h, by omega, hz⟩)
      · refine G_iconst C K (v := 1) dL_law_608 (by decide) ?_
        refine G_goto C K 613 dL_law_609 (by decide) ?_
        refine G_callS (T' := mL_letters) (As := [_, _, _, _, _, _, _, _]) (mc' := 4610) (ms' := 27660) C K ho hls okL_letters mlL_164 (ct_letters2 h hg hr hp2 (j := i) (by omega) h9 (by omega)) rfl ⟨Nat.le_of_ble_eq_true rfl, Nat.le_of_ble_eq_true rfl⟩ (Nat.le_of_ble_eq_true rfl) dL_law_613 (fun v9 S9 V9 u9 => ?_)
        obtain ⟨rfl, rfl, po2, pa2, pd2, kn2, kl2, hw, hq1, hq2⟩ := u9
        refine G_istore_8 C K rfl (by decide) dL_law_616 ?_
        first
          | exact w618 C K hN ho hls ht ⟨_, _, _, _, _, _, _, _, _, _, _, _, _, hw, by omega, fun q q1 q2 => (hq2 q q1 q2).trans (hz q q1 q2)⟩
          | exact G_less (by omega) (by omega) (w618 C K hN ho hls ht ⟨_, _, _, _, _, _, _, _, _, _, _, _, _, h, by omega, hz⟩)
    · refine G_iload_9 C K dL_law_583 ?_
      refine G_iconst C K (v := 2) dL_law_585 (by decide) ?_
      refine G_irem C K dL_law_586 (by decide) ?_
      refine G_if_ne C K 618 dL_law_587 (by decide) (fun c587 => ?_) (fun c587 => ?_)
      · first
          | exact w618 C K hN ho hls ht ⟨_, _, _, _, _, _, _, _, _, _, _, _, _, hw, by omega, fun q q1 q2 => (hq2 q q1 q2).trans (hz q q1 q2)⟩
          | exact G_less (by omega) (by omega) (w618 C K hN ho hls ht ⟨_, _, _, _, _, _, _, _, _, _, _, _, _, h, by omega, hz⟩)
      · have hp3 := hp2
        refine G_aload_1 C K dL_law_590 ?_
        refine G_aload_2 C K dL_law_591 ?_
        refine G_aload_3 C K dL_law_592 ?_
        refine G_aload_5 C K dL_law_593 ?_
        refine G_aload_6 C K dL_law_595 ?_
        refine G_aload_7 C K dL_law_597 ?_
        refine G_iload_13 C K dL_law_599 ?_
        refine G_iload_12 C K dL_law_601 ?_
        refine G_bipush C K (v := 8) dL_law_603 (by decide) ?_
        refine G_icmp_ne C K 612 dL_law_605 (by decide) (fun c605 => ?_) (fun c605 => ?_)
        · refine G_iconst C K (v := 0) dL_law_612 (by decide) ?_
          refine G_callS (T' := mL_letters) (As := [_, _, _, _, _, _, _, _]) (mc' := 4610) (ms' := 27660) C K ho hls okL_letters mlL_164 (ct_letters2 h hg hr hp2 (j := i) (by omega) h9 (by omega)) rfl ⟨Nat.le_of_ble_eq_true rfl, Nat.le_of_ble_eq_true rfl⟩ (Nat.le_of_ble_eq_true rfl) dL_law_613 (fun v9 S9 V9 u9 => ?_)
          obtain ⟨rfl, rfl, po2, pa2, pd2, kn2, kl2, hw, hq1, hq2⟩ := u9
          refine G_istore_8 C K rfl (by decide) dL_law_616 ?_
          first
            | exact w618 C K hN ho hls ht ⟨_, _, _, _, _, _, _, _, _, _, _, _, _, hw, by omega, fun q q1 q2 => (hq2 q q1 q2).trans (hz q q1 q2)⟩
            | exact G_less (by omega) (by omega) (w618 C K hN ho hls ht ⟨_, _, _, _, _, _, _, _, _, _, _, _, _, h, by omega, hz⟩)
        · refine G_iconst C K (v := 1) dL_law_608 (by decide) ?_
          refine G_goto C K 613 dL_law_609 (by decide) ?_
          refine G_callS (T' := mL_letters) (As := [_, _, _, _, _, _, _, _]) (mc' := 4610) (ms' := 27660) C K ho hls okL_letters mlL_164 (ct_letters2 h hg hr hp2 (j := i) (by omega) h9 (by omega)) rfl ⟨Nat.le_of_ble_eq_true rfl, Nat.le_of_ble_eq_true rfl⟩ (Nat.le_of_ble_eq_true rfl) dL_law_613 (fun v9 S9 V9 u9 => ?_)
          obtain ⟨rfl, rfl, po2, pa2, pd2, kn2, kl2, hw, hq1, hq2⟩ := u9
          refine G_istore_8 C K rfl (by decide) dL_law_616 ?_
          first
            | exact w618 C K hN ho hls ht ⟨_, _, _, _, _, _, _, _, _, _, _, _, _, hw, by omega, fun q q1 q2 => (hq2 q q1 q2).trans (hz q q1 q2)⟩
            | exact G_less (by omega) (by omega) (w618 C K hN ho hls ht ⟨_, _, _, _, _, _, _, _, _, _, _, _, _, h, by omega, hz⟩)
set_option maxHeartbeats 4000000 in
theorem w521 {V : aV} {wh : Nat} {v u : Int32} (C : a_CG p s m args meth c mLaw) (K : a_K o x0 cA D s) (hN : aNcs s) (ho : o ≤ s.heap.size) (hls : l.stackTraces = false) (ht : ∀ V', LX V' (i + 1) → RG p l e room_1 s m args below meth c D cA o x0 mLaw Z (kc) (ks) 108 [some (.retAddr 2), some (.ref 0), some (.ref 504), some (.ref 505), some (.ref 506), some (.ref 507), some (.ref 508), some (.ref 509), some (.int 1), some (.int (nI (i + 1))), none, none, none, none, none, none, none, none] [] Sh V') (h : LW V ent n mt po b st pa nr rt rr pd kn kl) (hpa : pa ≤ 50400 * i) (hz : ∀ q, n ≤ q → q < 12 → po q = 0) (hi : i < 40) (hr : r < nr) (hg : GV V n (gOf mt)) (h9 : V 509 1 = .int (nI i)) : ∀ (d k : Nat), k + d = n → RG p l e room_1 s m args below meth c D cA o x0 mLaw Z (kc + 4610 + d) (ks + 27660 + 6 * d) 521 [some (.retAddr 2), some (.ref 0), some (.ref 504), some (.ref 505), some (.ref 506), some (.ref 507), some (.ref 508), some (.ref 509), some (.int 1), some (.int (nI i)), some (.int v), some (.int u), some (.int (nI wh)), some (.int (nI r)), some (.int (nI k)), none, none, none] [] Sh V := by
  obtain ⟨hC, ⟨e0, e1, e2, e3, e4, er⟩, aa, m6, m8, n2, n9, r1, hb5, hs6, hr3⟩ := id h
  have hs : sym mt n := hC.2.2.2.1.2.2.1
  have nr8 : nr ≤ 8 := hC.2.2.2.2.2.1
  intro d
  induction d with
  | zero =>
    intro k hk
    have ek : k = n := by omega
    subst ek
    refine G_iload_14 C K dL_law_521 ?_
    refine G_aload_2 C K dL_law_523 ?_
    refine G_iconst C K (v := 0) dL_law_524 (by decide) ?_
    refine G_iald C K dL_law_525 sh_504 (vp_in_nI (n := 0) (by decide) (by decide)) rfl e0 ?_
    refine G_icmp_ge C K 561 dL_law_526 (by decide) (fun c526 => ?_) (fun c526 => absurd (nI_le (Nat.le_refl _) (by omega)) c526)
    exact w561 C K hN ho hls ht h hpa hz hi hr hg h9
  | succ d ih =>
    intro k hk
    have gk := hg k (by omega)
    refine G_less (kc' := kc + 4610 + d + 1) (ks' := ks + 27660 + 6 * d + 6) (by omega) (by omega) ?_
    refine G_iload_14 C K dL_law_521 ?_
    refine G_aload_2 C K dL_law_523 ?_
    refine G_iconst C K (v := 0) dL_law_524 (by decide) ?_
    refine G_iald C K dL_law_525 sh_504 (vp_in_nI (n := 0) (by decide) (by decide)) rfl e0 ?_
    refine G_icmp_ge C K 561 dL_law_526 (by decide) (fun c526 => absurd c526 (nI_ge (by omega) (by omega))) (fun c526 => ?_)
    refine G_iload_8 C K dL_law_529 ?_
    refine G_if_eq C K 561 dL_law_531 (by decide) (fun c531 => absurd c531 (by decide)) (fun c531 => ?_)
    refine G_aload_1 C K dL_law_534 ?_
    refine G_iload_14 C K dL_law_535 ?_
    refine G_callV (T' := mX11_group) (As := [_]) (mc' := 1) (ms' := 6) (ci := 11) C K ho hls okX11_group mlL_161 rfl (by decide) sh_0 (lc_group hC (k := k) (by omega)) rfl ⟨Nat.le_of_ble_eq_true rfl, Nat.le_of_ble_eq_true rfl⟩ (Nat.le_of_ble_eq_true rfl) dL_law_537 (fun v9 S9 V9 u9 => ?_) (fun E S9 V9 u9 => (show False from u9).elim)
    obtain ⟨rfl, rfl, rfl⟩ := u9
    refine G_aload_5 C K dL_law_540 ?_
    refine G_iload_14 C K dL_law_542 ?_
    refine G_iald C K dL_law_544 sh_507 (vp_in_nI (by omega) (by decide)) (nI_clamp (by omega)) gk ?_
    refine G_icmp_ne C K 552 dL_law_545 (by decide) (fun c545 => absurd rfl c545) (fun c545 => ?_)
    refine G_iconst C K (v := 1) dL_law_548 (by decide) ?_
    refine G_goto C K 553 dL_law_549 (by decide) ?_
    refine G_istore_8 C K rfl (by decide) dL_law_553 ?_
    refine G_iinc_14 C K rfl (by decide) dL_law_555 rfl ?_
    rw [show nI k + Int32.ofInt 1 = nI (k + 1) from nI_1 k]
    refine G_goto C K 521 dL_law_558 (by decide) ?_
    exact ih (k + 1) (by omega)
set_option maxHeartbeats 4000000 in
theorem w510 {V : aV} {wh : Nat} {v u : Int32} {a14 a15 a16 a17 : Option Value} (C : a_CG p s m args meth c mLaw) (K : a_K o x0 cA D s) (hN : aNcs s) (ho : o ≤ s.heap.size) (hls : l.stackTraces = false) (ht : ∀ V', LX V' (i + 1) → RG p l e room_1 s m args below meth c D cA o x0 mLaw Z (kc) (ks) 108 [some (.retAddr 2), some (.ref 0), some (.ref 504), some (.ref 505), some (.ref 506), some (.ref 507), some (.ref 508), some (.ref 509), some (.int 1), some (.int (nI (i + 1))), none, none, none, none, none, none, none, none] [] Sh V') (h : LW V ent n mt po b st pa nr rt rr pd kn kl) (hpa : pa ≤ 50400 * i) (hz : ∀ q, n ≤ q → q < 12 → po q = 0) (hi : i < 40) (hr : r < nr) (h9 : V 509 1 = .int (nI i)) (h13 : a_c1 (some (.int (nI r))) = true) : RG p l e room_1 s m args below meth c D cA o x0 mLaw Z (kc + 4620) (ks + 27720) 510 [some (.retAddr 2), some (.ref 0), some (.ref 504), some (.ref 505), some (.ref 506), some (.ref 507), some (.ref 508), some (.ref 509), some (.int 1), some (.int (nI i)), some (.int v), some (.int u), some (.int (nI wh)), some (.int (nI r)), a14, a15, a16, a17] [] Sh V := by
  obtain ⟨hC, ⟨e0, e1, e2, e3, e4, er⟩, aa, m6, m8, n2, n9, r1, hb5, hs6, hr3⟩ := id h
  have hs : sym mt n := hC.2.2.2.1.2.2.1
  have nr8 : nr ≤ 8 := hC.2.2.2.2.2.1
  refine G_drop_15 C K ?_
  refine G_drop_16 C K ?_
  refine G_drop_17 C K ?_
  refine G_aload_2 C K dL_law_510 ?_
  refine G_aload_4 C K dL_law_511 ?_
  refine G_aload_5 C K dL_law_513 ?_
  refine G_callS (T' := mL_groups) (As := [_, _, _]) (mc' := 0) (ms' := 0) C K ho hls okL_groups mlL_157 (ct_groups e0 m6 hs (by omega)) rfl ⟨Nat.le_of_ble_eq_true rfl, Nat.le_of_ble_eq_true rfl⟩ (Nat.le_of_ble_eq_true rfl) dL_law_515 (fun v9 S9 V9 u9 => ?_)
  obtain ⟨rfl, rfl, hg, f1⟩ := u9
  have h2 : LW V9 ent n mt po b st pa nr rt rr pd kn kl := ⟨hC.low (fun q hq => f1 q (by omega)), h.2.1.fr (f1 504 (by decide)), h.2.2.1.fr (f1 505 (by decide)), h.2.2.2.1.fr2 (f1 506 (by decide)), h.2.2.2.2.1.fr2 (f1 508 (by decide)), h.2.2.2.2.2⟩
  refine G_iconst C K (v := 0) dL_law_518 (by decide) ?_
  refine G_istore_14 C K rfl (by decide) dL_law_519 ?_
  refine G_less (kc' := kc + 4610 + n) (ks' := ks + 27660 + 6 * n) (by omega) (by omega) ?_
  exact w521 C K hN ho hls ht h2 hpa hz hi hr hg ((congrFun (f1 509 (by decide)) 1).trans h9) n 0 (by omega)
set_option maxHeartbeats 4000000 in
theorem w453 {V : aV} {wh : Nat} {v u : Int32} {a14 a15 a16 a17 : Option Value} (C : a_CG p s m args meth c mLaw) (K : a_K o x0 cA D s) (hN : aNcs s) (ho : o ≤ s.heap.size) (hls : l.stackTraces = false) (ht : ∀ V', LX V' (i + 1) → RG p l e room_1 s m args below meth c D cA o x0 mLaw Z (kc) (ks) 108 [some (.retAddr 2), some (.ref 0), some (.ref 504), some (.ref 505), some (.ref 506), some (.ref 507), some (.ref 508), some (.ref 509), some (.int 1), some (.int (nI (i + 1))), none, none, none, none, none, none, none, none] [] Sh V') (h : LW V ent n mt po b st pa nr rt rr pd kn kl) (hpa : pa ≤ 50400 * i) (hz : ∀ q, n ≤ q → q < 12 → po q = 0) (hi : i < 40) (hr : r < nr) (h9 : V 509 1 = .int (nI i)) : RG p l e room_1 s m args below meth c D cA o x0 mLaw Z (kc + 4621) (ks + 27726) 453 [some (.retAddr 2), some (.ref 0), some (.ref 504), some (.ref 505), some (.ref 506), some (.ref 507), some (.ref 508), some (.ref 509), some (.int 1), some (.int (nI i)), some (.int v), some (.int u), some (.int (nI wh)), some (.int (nI r)), a14, a15, a16, a17] [] Sh V := by
  obtain ⟨hC, ⟨e0, e1, e2, e3, e4, er⟩, aa, m6, m8, n2, n9, r1, hb5, hs6, hr3⟩ := id h
  have hs : sym mt n := hC.2.2.2.1.2.2.1
  have nr8 : nr ≤ 8 := hC.2.2.2.2.2.1
  refine G_iload_12 C K dL_law_453 ?_
  refine G_bipush C K (v := 7) dL_law_455 (by decide) ?_
  refine G_icmp_ne C K 510 dL_law_457 (by decide) (fun c457 => ?_) (fun c457 => ?_)
  · first
      | exact G_less (by omega) (by omega) (w510 C K hN ho hls ht h hpa hz hi hr h9 rfl)
      | (have q4 := f1 504 (by decide)
         have k4 : ∀ x, x ≠ 2 → x ≠ 3 → V9 504 x = V 504 x := fun x y1 y2 => (congrFun q4 x).trans ((a_up_ne (Or.inr y2)).trans (a_up_ne (Or.inr y1)))
         have g4 : ∀ q, 504 < q → V9 q = V q := fun q hq => (f1 q (by omega)).trans ((a_up_row (by omega)).trans (a_up_row (by omega)))
         have h2 : LW V9 ent n mt po b2 s2 pa nr rt rr pd kn kl := ⟨h1, ⟨(k4 0 (by decide) (by decide)).trans e0, (k4 1 (by decide) (by decide)).trans e1, (congrFun q4 2).trans ((a_up_ne (Or.inr (by decide))).trans (a_up_self _ _ _ _)), (congrFun q4 3).trans (a_up_self _ _ _ _), (k4 4 (by decide) (by decide)).trans e4, fun q hq => ⟨(k4 _ (by omega) (by omega)).trans (er q hq).1, (k4 _ (by omega) (by omega)).trans (er q hq).2.1, (k4 _ (by omega) (by omega)).trans (er q hq).2.2⟩⟩, aa.fr (g4 505 (by decide)), m6.fr2 (g4 506 (by decide)), m8.fr2 (g4 508 (by decide)), n2, n9, r1, by omega, by omega, hr3⟩
         exact w510 C K hN ho hls ht h2 hpa hz hi hr ((congrFun (g4 509 (by decide)) 1).trans h9) rfl)
  · refine G_aload_2 C K dL_law_460 ?_
    refine G_iconst C K (v := 2) dL_law_461 (by decide) ?_
    refine G_iload_11 C K dL_law_462 ?_
    refine G_sipush C K (v := 500) dL_law_464 (by decide) ?_
    refine G_callS (T' := mL_low) (As := [_, _]) (mc' := 0) (ms' := 0) C K ho hls okL_low mlL_36 (ct_low (n := 500) _ (by decide) (by decide)) rfl ⟨Nat.le_of_ble_eq_true rfl, Nat.le_of_ble_eq_true rfl⟩ (Nat.le_of_ble_eq_true rfl) dL_law_467 (fun v9 S9 V9 u9 => ?_)
    obtain ⟨b2, hb2, rfl, rfl, rfl⟩ := u9
    refine G_iast C K dL_law_470 sh_504 (vp_in_nI (n := 2) (by decide) (by decide)) rfl ?_
    refine G_aload_2 C K dL_law_471 ?_
    refine G_iconst C K (v := 3) dL_law_472 (by decide) ?_
    refine G_iload_11 C K dL_law_473 ?_
    refine G_bipush C K (v := 9) dL_law_475 (by decide) ?_
    refine G_ishr C K dL_law_477 ?_
    refine G_bipush C K (v := 60) dL_law_478 (by decide) ?_
    refine G_callS (T' := mL_low) (As := [_, _]) (mc' := 0) (ms' := 0) C K ho hls okL_low mlL_36 (ct_low (n := 60) _ (by decide) (by decide)) rfl ⟨Nat.le_of_ble_eq_true rfl, Nat.le_of_ble_eq_true rfl⟩ (Nat.le_of_ble_eq_true rfl) dL_law_480 (fun v9 S9 V9 u9 => ?_)
    obtain ⟨s2, hs2, rfl, rfl, rfl⟩ := u9
    refine G_iast C K dL_law_483 sh_504 (vp_in_nI (n := 3) (by decide) (by decide)) rfl ?_
    refine G_aload_1 C K dL_law_484 ?_
    refine G_aload_2 C K dL_law_485 ?_
    refine G_iconst C K (v := 2) dL_law_486 (by decide) ?_
    refine G_iald C K dL_law_487 sh_504 (vp_in_nI (n := 2) (by decide) (by decide)) rfl ((a_up_ne (Or.inr (by decide))).trans (a_up_self _ _ _ _)) ?_
    refine G_aload_2 C K dL_law_488 ?_
    refine G_iconst C K (v := 3) dL_law_489 (by decide) ?_
    refine G_iald C K dL_law_490 sh_504 (vp_in_nI (n := 3) (by decide) (by decide)) rfl (a_up_self _ _ _ _) ?_
    have W : CSt (a_up (a_up V 504 2 (.int (nI b2))) 504 3 (.int (nI s2))) [] lT lTo ent n mt po b st pa nr rt rr pd kn kl := hC.low (fun q hq => (a_up_row (by omega)).trans (a_up_row (by omega)))
    refine G_callV (T' := mX11_franking) (As := [_, _]) (mc' := 1) (ms' := 6) (ci := 11) C K ho hls okX11_franking mlL_154 rfl (by decide) sh_0 (lc_franking W (b' := b2) (st' := s2) (by omega) (by omega)) rfl ⟨Nat.le_of_ble_eq_true rfl, Nat.le_of_ble_eq_true rfl⟩ (Nat.le_of_ble_eq_true rfl) dL_law_491 (fun v9 S9 V9 u9 => ?_) (fun E S9 V9 u9 => (show False from u9).elim)
    obtain ⟨rfl, rfl, h1, f1⟩ := u9
    refine G_bipush C K (v := 7) dL_law_494 (by decide) ?_
    refine G_aload_2 C K dL_law_496 ?_
    refine G_iconst C K (v := 2) dL_law_497 (by decide) ?_
    refine G_iald C K dL_law_498 sh_504 (vp_in_nI (n := 2) (by decide) (by decide)) rfl ((congrFun (f1 504 (by decide)) 2).trans ((a_up_ne (Or.inr (by decide))).trans (a_up_self _ _ _ _))) ?_
    refine G_imul C K dL_law_499 ?_
    have ef : kost b2 s2 (wgt 20 1) 5 = 7 * nI b2 := by
      have e7 : (b2 + s2 * tens (wgt 20 1)) * (5 + 2) = 7 * b2 := by
        rw [show tens (wgt 20 1) = 0 from rfl, Nat.mul_zero, Nat.add_zero]
        omega
      unfold kost
      rw [e7, if_pos (by omega), show (7 : Int32) = nI 7 from rfl, pk_mul]
    refine G_icmp_ne C K 507 dL_law_500 (by decide) (fun c500 => absurd ef c500) (fun c500 => ?_)
    refine G_iconst C K (v := 1) dL_law_503 (by decide) ?_
    refine G_goto C K 508 dL_law_504 (by decide) ?_
    refine G_istore_8 C K rfl (by decide) dL_law_508 ?_
    first
      | exact G_less (by omega) (by omega) (w510 C K hN ho hls ht h hpa hz hi hr h9 rfl)
      | (have q4 := f1 504 (by decide)
         have k4 : ∀ x, x ≠ 2 → x ≠ 3 → V9 504 x = V 504 x := fun x y1 y2 => (congrFun q4 x).trans ((a_up_ne (Or.inr y2)).trans (a_up_ne (Or.inr y1)))
         have g4 : ∀ q, 504 < q → V9 q = V q := fun q hq => (f1 q (by omega)).trans ((a_up_row (by omega)).trans (a_up_row (by omega)))
         have h2 : LW V9 ent n mt po b2 s2 pa nr rt rr pd kn kl := ⟨h1, ⟨(k4 0 (by decide) (by decide)).trans e0, (k4 1 (by decide) (by decide)).trans e1, (congrFun q4 2).trans ((a_up_ne (Or.inr (by decide))).trans (a_up_self _ _ _ _)), (congrFun q4 3).trans (a_up_self _ _ _ _), (k4 4 (by decide) (by decide)).trans e4, fun q hq => ⟨(k4 _ (by omega) (by omega)).trans (er q hq).1, (k4 _ (by omega) (by omega)).trans (er q hq).2.1, (k4 _ (by omega) (by omega)).trans (er q hq).2.2⟩⟩, aa.fr (g4 505 (by decide)), m6.fr2 (g4 506 (by decide)), m8.fr2 (g4 508 (by decide)), n2, n9, r1, by omega, by omega, hr3⟩
         exact w510 C K hN ho hls ht h2 hpa hz hi hr ((congrFun (g4 509 (by decide)) 1).trans h9) rfl)
set_option maxHeartbeats 4000000 in
theorem w362 {V : aV} {wh : Nat} {v u : Int32} {a14 a15 a16 a17 : Option Value} (C : a_CG p s m args meth c mLaw) (K : a_K o x0 cA D s) (hN : aNcs s) (ho : o ≤ s.heap.size) (hls : l.stackTraces = false) (ht : ∀ V', LX V' (i + 1) → RG p l e room_1 s m args below meth c D cA o x0 mLaw Z (kc) (ks) 108 [some (.retAddr 2), some (.ref 0), some (.ref 504), some (.ref 505), some (.ref 506), some (.ref 507), some (.ref 508), some (.ref 509), some (.int 1), some (.int (nI (i + 1))), none, none, none, none, none, none, none, none] [] Sh V') (h : LW V ent n mt po b st pa nr rt rr pd kn kl) (hpa : pa ≤ 50400 * i) (hz : ∀ q, n ≤ q → q < 12 → po q = 0) (hi : i < 40) (hr : r < nr) (h9 : V 509 1 = .int (nI i)) : RG p l e room_1 s m args below meth c D cA o x0 mLaw Z (kc + 4622) (ks + 27732) 362 [some (.retAddr 2), some (.ref 0), some (.ref 504), some (.ref 505), some (.ref 506), some (.ref 507), some (.ref 508), some (.ref 509), some (.int 1), some (.int (nI i)), some (.int v), some (.int u), some (.int (nI wh)), some (.int (nI r)), a14, a15, a16, a17] [] Sh V := by
  obtain ⟨hC, ⟨e0, e1, e2, e3, e4, er⟩, aa, m6, m8, n2, n9, r1, hb5, hs6, hr3⟩ := id h
  have hs : sym mt n := hC.2.2.2.1.2.2.1
  have nr8 : nr ≤ 8 := hC.2.2.2.2.2.1
  refine G_iload_12 C K dL_law_362 ?_
  refine G_bipush C K (v := 6) dL_law_364 (by decide) ?_
  refine G_icmp_ne C K 453 dL_law_366 (by decide) (fun c366 => ?_) (fun c366 => ?_)
  · exact G_less (by omega) (by omega) (w453 C K hN ho hls ht h hpa hz hi hr h9)
  · refine G_aload_2 C K dL_law_369 ?_
    refine G_iconst C K (v := 1) dL_law_370 (by decide) ?_
    refine G_iald C K dL_law_371 sh_504 (vp_in_nI (n := 1) (by decide) (by decide)) (show (1 : Int32).toNatClampNeg = 1 from rfl) e1 ?_
    refine G_bipush C K (v := 8) dL_law_372 (by decide) ?_
    refine G_icmp_ge C K 453 dL_law_374 (by decide) (fun c374 => ?_) (fun c374 => ?_)
    · exact G_less (by omega) (by omega) (w453 C K hN ho hls ht h hpa hz hi hr h9)
    · have nr7 : nr < 8 := Nat.lt_of_not_le fun y => c374 (nI_le (a := 8) y (by omega))
      refine G_aload_2 C K dL_law_377 ?_
      refine G_bipush C K (v := 10) dL_law_378 (by decide) ?_
      refine G_aload_2 C K dL_law_380 ?_
      refine G_iconst C K (v := 1) dL_law_381 (by decide) ?_
      refine G_iald C K dL_law_382 sh_504 (vp_in_nI (n := 1) (by decide) (by decide)) (show (1 : Int32).toNatClampNeg = 1 from rfl) e1 ?_
      refine G_iadd C K dL_law_383 ?_
      rw [show (10 : Int32) + nI nr = nI (10 + nr) from nI_add 10 nr]
      refine G_iload_11 C K dL_law_384 ?_
      refine G_iconst C K (v := 3) dL_law_386 (by decide) ?_
      refine G_ishr C K dL_law_387 ?_
      refine G_iconst C K (v := 3) dL_law_388 (by decide) ?_
      refine G_callS (T' := mL_low) (As := [_, _]) (mc' := 0) (ms' := 0) C K ho hls okL_low mlL_36 (ct_low (n := 3) _ (by decide) (by decide)) rfl ⟨Nat.le_of_ble_eq_true rfl, Nat.le_of_ble_eq_true rfl⟩ (Nat.le_of_ble_eq_true rfl) dL_law_389 (fun v9 S9 V9 u9 => ?_)
      obtain ⟨j1, hj1, rfl, rfl, rfl⟩ := u9
      refine G_iast C K dL_law_392 sh_504 (vp_in_nI (by omega) (by decide)) (nI_clamp (by omega)) ?_
      refine G_aload_2 C K dL_law_393 ?_
      refine G_bipush C K (v := 20) dL_law_394 (by decide) ?_
      refine G_aload_2 C K dL_law_396 ?_
      refine G_iconst C K (v := 1) dL_law_397 (by decide) ?_
      refine G_iald C K dL_law_398 sh_504 (vp_in_nI (n := 1) (by decide) (by decide)) (show (1 : Int32).toNatClampNeg = 1 from rfl) ((a_up_ne (Or.inr (by omega))).trans e1) ?_
      refine G_iadd C K dL_law_399 ?_
      rw [show (20 : Int32) + nI nr = nI (20 + nr) from nI_add 20 nr]
      refine G_iload_11 C K dL_law_400 ?_
      refine G_bipush C K (v := 6) dL_law_402 (by decide) ?_
      refine G_ishr C K dL_law_404 ?_
      refine G_iconst C K (v := 3) dL_law_405 (by decide) ?_
      refine G_callS (T' := mL_low) (As := [_, _]) (mc' := 0) (ms' := 0) C K ho hls okL_low mlL_36 (ct_low (n := 3) _ (by decide) (by decide)) rfl ⟨Nat.le_of_ble_eq_true rfl, Nat.le_of_ble_eq_true rfl⟩ (Nat.le_of_ble_eq_true rfl) dL_law_406 (fun v9 S9 V9 u9 => ?_)
      obtain ⟨j2, hj2, rfl, rfl, rfl⟩ := u9
      refine G_iast C K dL_law_409 sh_504 (vp_in_nI (by omega) (by decide)) (nI_clamp (by omega)) ?_
      refine G_aload_1 C K dL_law_410 ?_
      refine G_aload_2 C K dL_law_411 ?_
      refine G_bipush C K (v := 10) dL_law_412 (by decide) ?_
      refine G_aload_2 C K dL_law_414 ?_
      refine G_iconst C K (v := 1) dL_law_415 (by decide) ?_
      refine G_iald C K dL_law_416 sh_504 (vp_in_nI (n := 1) (by decide) (by decide)) (show (1 : Int32).toNatClampNeg = 1 from rfl) ((a_up_ne (Or.inr (by omega))).trans ((a_up_ne (Or.inr (by omega))).trans e1)) ?_
      refine G_iadd C K dL_law_417 ?_
      rw [show (10 : Int32) + nI nr = nI (10 + nr) from nI_add 10 nr]
      refine G_iald C K dL_law_418 sh_504 (vp_in_nI (by omega) (by decide)) (nI_clamp (by omega)) ((a_up_ne (Or.inr (by omega))).trans (a_up_self _ _ _ _)) ?_
      refine G_aload_2 C K dL_law_419 ?_
      refine G_bipush C K (v := 20) dL_law_420 (by decide) ?_
      refine G_aload_2 C K dL_law_422 ?_
      refine G_iconst C K (v := 1) dL_law_423 (by decide) ?_
      refine G_iald C K dL_law_424 sh_504 (vp_in_nI (n := 1) (by decide) (by decide)) (show (1 : Int32).toNatClampNeg = 1 from rfl) ((a_up_ne (Or.inr (by omega))).trans ((a_up_ne (Or.inr (by omega))).trans e1)) ?_
      refine G_iadd C K dL_law_425 ?_
      rw [show (20 : Int32) + nI nr = nI (20 + nr) from nI_add 20 nr]
      refine G_iald C K dL_law_426 sh_504 (vp_in_nI (by omega) (by decide)) (nI_clamp (by omega)) (a_up_self _ _ _ _) ?_
      have W : CSt (a_up (a_up V 504 (10 + nr) (.int (nI j1))) 504 (20 + nr) (.int (nI j2))) [] lT lTo ent n mt po b st pa nr rt rr pd kn kl := hC.low (fun q hq => (a_up_row (by omega)).trans (a_up_row (by omega)))
      refine G_callV (T' := mX11_run) (As := [_, _]) (mc' := 2) (ms' := 12) (ci := 11) C K ho hls okX11_run mlL_148 rfl (by decide) sh_0 (lc_run W nr7 (a := j1) (c := j2) (by omega) (by omega)) rfl ⟨Nat.le_of_ble_eq_true rfl, Nat.le_of_ble_eq_true rfl⟩ (Nat.le_of_ble_eq_true rfl) dL_law_427 (fun v9 S9 V9 u9 => ?_) (fun E S9 V9 u9 => (show False from u9).elim)
      obtain ⟨rfl, rfl, h1, f1⟩ := u9
      refine G_aload_2 C K dL_law_430 ?_
      refine G_iconst C K (v := 1) dL_law_431 (by decide) ?_
      refine G_iald C K dL_law_432 sh_504 (vp_in_nI (n := 1) (by decide) (by decide)) (show (1 : Int32).toNatClampNeg = 1 from rfl) ((congrFun (f1 504 (by decide)) 1).trans ((a_up_ne (Or.inr (by omega))).trans ((a_up_ne (Or.inr (by omega))).trans e1))) ?_
      refine G_icmp_ne C K 440 dL_law_433 (by decide) (fun c433 => absurd rfl c433) (fun c433 => ?_)
      refine G_iconst C K (v := 1) dL_law_436 (by decide) ?_
      refine G_goto C K 441 dL_law_437 (by decide) ?_
      refine G_istore_8 C K rfl (by decide) dL_law_441 ?_
      refine G_aload_2 C K dL_law_443 ?_
      refine G_iconst C K (v := 1) dL_law_444 (by decide) ?_
      refine G_dup2_11 C K dL_law_445 rfl rfl ?_
      refine G_iald C K dL_law_446 sh_504 (vp_in_nI (n := 1) (by decide) (by decide)) (show (1 : Int32).toNatClampNeg = 1 from rfl) ((congrFun (f1 504 (by decide)) 1).trans ((a_up_ne (Or.inr (by omega))).trans ((a_up_ne (Or.inr (by omega))).trans e1))) ?_
      refine G_iconst C K (v := 1) dL_law_447 (by decide) ?_
      refine G_iadd C K dL_law_448 ?_
      rw [nI_1]
      refine G_iast C K dL_law_449 sh_504 (vp_in_nI (n := 1) (by decide) (by decide)) (show (1 : Int32).toNatClampNeg = 1 from rfl) ?_
      refine G_goto C K 510 dL_law_450 (by decide) ?_
      have q4 := f1 504 (by decide)
      have k4 : ∀ x, x ≠ 1 → x ≠ 10 + nr → x ≠ 20 + nr → a_up V9 504 1 (.int (nI (nr + 1))) 504 x = V 504 x := fun x y1 y2 y3 => (a_up_ne (Or.inr y1)).trans ((congrFun q4 x).trans ((a_up_ne (Or.inr y3)).trans (a_up_ne (Or.inr y2))))
      have g4 : ∀ q, 504 < q → a_up V9 504 1 (.int (nI (nr + 1))) q = V q := fun q hq => (a_up_row (by omega)).trans ((f1 q (by omega)).trans ((a_up_row (by omega)).trans (a_up_row (by omega))))
      have h2 : LW (a_up V9 504 1 (.int (nI (nr + 1)))) ent n mt po b st pa (nr + 1) (upN rt nr j1) (upN rr nr j2) pd kn kl := by
        refine ⟨h1.low (fun q hq => a_up_row (by omega)), ⟨(k4 0 (by decide) (by omega) (by omega)).trans e0, a_up_self _ _ _ _, (k4 2 (by decide) (by omega) (by omega)).trans e2, (k4 3 (by decide) (by omega) (by omega)).trans e3, (k4 4 (by decide) (by omega) (by omega)).trans e4, fun q hq => ⟨?_, ?_, (k4 _ (by omega) (by omega) (by omega)).trans (er q hq).2.2⟩⟩, aa.fr (g4 505 (by decide)), m6.fr2 (g4 506 (by decide)), m8.fr2 (g4 508 (by decide)), n2, n9, by omega, hb5, hs6, fun q hq => ?_⟩
        · by_cases y : q = nr
          · subst y
            rw [upN_s]
            exact (a_up_ne (Or.inr (by omega))).trans ((congrFun q4 _).trans ((a_up_ne (Or.inr (by omega))).trans (a_up_self _ _ _ _)))
          · rw [upN_n y]
            exact (k4 _ (by omega) (by omega) (by omega)).trans (er q hq).1
        · by_cases y : q = nr
          · subst y
            rw [upN_s]
            exact (a_up_ne (Or.inr (by omega))).trans ((congrFun q4 _).trans (a_up_self _ _ _ _))
          · rw [upN_n y]
            exact (k4 _ (by omega) (by omega) (by omega)).trans (er q hq).2.1
        · by_cases y : q = nr
          · subst y
            rw [upN_s, upN_s]
            exact ⟨hj1, hj2⟩
          · rw [upN_n y, upN_n y]
            exact hr3 q hq
      exact w510 C K hN ho hls ht h2 hpa hz hi (by omega) ((congrFun (g4 509 (by decide)) 1).trans h9) rfl
end LAW1
