/-! ===== Household: gather ===== -/
def EB (x : EntN) : Prop := x.1.length ≤ 12 ∧ x.2.2.1 < 1000 ∧ x.2.2.2.1 < 6 ∧ x.2.2.2.2 < 100
def gW (ent : Nat → EntN) (g : Nat) : Nat → (Nat → List Int32) × (Nat → Nat)
  | 0 => (fun _ => [], fun _ => 0)
  | j + 1 => if g.testBit j = true then (amW (gW ent g j).1 (gW ent g j).2 (ent j), amV (gW ent g j).2 (ent j)) else gW ent g j
theorem gW_t {ent : Nat → EntN} {g j : Nat} (h : g.testBit j = true) : gW ent g (j + 1) = (amW (gW ent g j).1 (gW ent g j).2 (ent j), amV (gW ent g j).2 (ent j)) := if_pos h
theorem gW_f {ent : Nat → EntN} {g j : Nat} (h : g.testBit j = false) : gW ent g (j + 1) = gW ent g j := if_neg (by rw [h]; decide)
theorem gW_ok {ent : Nat → EntN} {g : Nat} (hE : ∀ k, k < 12 → EB (ent k)) : ∀ j, j ≤ 12 → ((gW ent g j).1 0).length ≤ 15 * j - 3 ∧ ((gW ent g j).2 5 = 0 → (gW ent g j).1 0 = [] ∧ (gW ent g j).1 1 = []) ∧ (gW ent g j).2 5 ≤ j ∧ (gW ent g j).2 4 ≤ 99 * j ∧ (gW ent g j).2 2 < 1000 ∧ (gW ent g j).2 3 < 6 ∧ ∀ f, 2 ≤ f → (gW ent g j).1 f = [] := by
  intro j
  induction j with
  | zero => intro _; exact ⟨Nat.le_refl _, fun _ => ⟨rfl, rfl⟩, Nat.le_refl _, Nat.le_refl _, (by decide : 0 < 1000), (by decide : 0 < 6), fun _ _ => rfl⟩
  | succ j ih =>
    intro hj
    obtain ⟨i1, i2, i3, i4, i5, i6, i7⟩ := ih (by omega)
    obtain ⟨b1, b2, b3, b4⟩ := hE j (by omega)
    cases q : g.testBit j with
    | false => rw [gW_f q]; exact ⟨by omega, i2, by omega, by omega, i5, i6, i7⟩
    | true =>
      rw [gW_t q]
      generalize (gW ent g j).1 = W at *
      generalize (gW ent g j).2 = U at *
      by_cases z : U 5 = 0
      · have ea : amW W U (ent j) = upN (upN W 1 (ent j).2.1) 0 (W 0 ++ (ent j).1) := if_pos z
        have eb : amV U (ent j) = upN (upN (upN (upN U 2 (ent j).2.2.1) 3 (ent j).2.2.2.1) 4 (U 4 + (ent j).2.2.2.2)) 5 1 := if_pos z
        show ((amW W U (ent j)) 0).length ≤ _ ∧ (amV U (ent j) 5 = 0 → _) ∧ amV U (ent j) 5 ≤ _ ∧ amV U (ent j) 4 ≤ _ ∧ amV U (ent j) 2 < _ ∧ amV U (ent j) 3 < _ ∧ ∀ f, 2 ≤ f → amW W U (ent j) f = []
        rw [ea, eb]
        refine ⟨?_, fun h => ?_, ?_, ?_, ?_, ?_, fun f hf => ?_⟩
        · rw [upN_s, List.length_append, (i2 z).1]; show 0 + _ ≤ _; omega
        · rw [upN_s] at h; exact absurd h (by decide)
        · rw [upN_s]; omega
        · rw [upN_n (by decide), upN_s]; omega
        · rw [upN_n (by decide), upN_n (by decide), upN_n (by decide), upN_s]; exact b2
        · rw [upN_n (by decide), upN_n (by decide), upN_s]; exact b3
        · rw [upN_n (by omega), upN_n (by omega)]; exact i7 f hf
      · have ea : amW W U (ent j) = upN W 0 (W 0 ++ [32, 38, 32] ++ (ent j).1) := if_neg z
        have eb : amV U (ent j) = upN (upN U 4 (U 4 + (ent j).2.2.2.2)) 5 (U 5 + 1) := if_neg z
        show ((amW W U (ent j)) 0).length ≤ _ ∧ (amV U (ent j) 5 = 0 → _) ∧ amV U (ent j) 5 ≤ _ ∧ amV U (ent j) 4 ≤ _ ∧ amV U (ent j) 2 < _ ∧ amV U (ent j) 3 < _ ∧ ∀ f, 2 ≤ f → amW W U (ent j) f = []
        rw [ea, eb]
        refine ⟨?_, fun h => ?_, ?_, ?_, ?_, ?_, fun f hf => ?_⟩
        · rw [upN_s, List.length_append, List.length_append]; show _ + 3 + _ ≤ _; omega
        · rw [upN_s] at h; exact absurd h (by omega)
        · rw [upN_s]; omega
        · rw [upN_n (by decide), upN_s]; omega
        · rw [upN_n (by decide), upN_n (by decide)]; exact i5
        · rw [upN_n (by decide), upN_n (by decide)]; exact i6
        · rw [upN_n (by omega)]; exact i7 f hf
/-- the entries of the book, as the household reads them -/
def BR (V : aV) (en : Nat → Nat) (ent : Nat → EntN) : Prop := V 74 0 = .ref 75 ∧ ∀ k, k < 12 → V 75 k = .ref (en k) ∧ 27 < en k ∧ AE V (en k) (encE (ent k)) ∧ EB (ent k)
theorem BR.fr {V V' : aV} {en : Nat → Nat} {ent : Nat → EntN} (h : BR V en ent) (e : FrH V V') : BR V' en ent := by
  refine ⟨(congrFun (e 74 (by decide) (by decide)) 0).trans h.1, fun k hk => ?_⟩
  obtain ⟨h1, h2, h3, h4⟩ := h.2 k hk
  exact ⟨(congrFun (e 75 (by decide) (by decide)) k).trans h1, h2, h3.fr (fun b q1 q2 => e b (by omega) (by omega)), h4⟩
def clrW (w : Nat → List Int32) (f : Nat) : Nat → List Int32 := fun i => if i < f then [] else w i
def clrV (vl : Nat → Nat) (f : Nat) : Nat → Nat := fun i => if i < f then 0 else vl i
theorem clrW_s {w : Nat → List Int32} {f : Nat} : upN (clrW w f) f [] = clrW w (f + 1) := by
  funext i
  show (if i = f then _ else (if i < f then _ else w i)) = (if i < f + 1 then _ else w i)
  by_cases q : i = f
  · subst q; rw [if_pos rfl, if_pos (Nat.lt_succ_self i)]
  · rw [if_neg q]
    by_cases q2 : i < f
    · rw [if_pos q2, if_pos (by omega)]
    · rw [if_neg q2, if_neg (by omega)]
theorem clrV_s {w : Nat → Nat} {f : Nat} : upN (clrV w f) f 0 = clrV w (f + 1) := by
  funext i
  show (if i = f then _ else (if i < f then _ else w i)) = (if i < f + 1 then _ else w i)
  by_cases q : i = f
  · subst q; rw [if_pos rfl, if_pos (Nat.lt_succ_self i)]
  · rw [if_neg q]
    by_cases q2 : i < f
    · rw [if_pos q2, if_pos (by omega)]
    · rw [if_neg q2, if_neg (by omega)]
def tW (w : Nat → List Int32) (vl : Nat → Nat) (f : Nat) : Nat → List Int32 := fun i => if i < 2 then w i else if i < f then digs (vl i) else []
theorem tW_at {w : Nat → List Int32} {vl : Nat → Nat} {f : Nat} (h : 2 ≤ f) : tW w vl f f = [] := by
  unfold tW
  rw [if_neg (by omega), if_neg (by omega)]
theorem tW_s {w : Nat → List Int32} {vl : Nat → Nat} {f : Nat} (h : 2 ≤ f) : upN (tW w vl f) f (digs (vl f)) = tW w vl (f + 1) := by
  funext i
  show (if i = f then _ else (if i < 2 then w i else if i < f then digs (vl i) else [])) = (if i < 2 then w i else if i < f + 1 then digs (vl i) else [])
  by_cases q : i = f
  · subst q; rw [if_pos rfl, if_neg (by omega), if_pos (Nat.lt_succ_self i)]
  · rw [if_neg q]
    by_cases q1 : i < 2
    · rw [if_pos q1, if_pos q1]
    · rw [if_neg q1, if_neg q1]
      by_cases q2 : i < f
      · rw [if_pos q2, if_pos (by omega)]
      · rw [if_neg q2, if_neg (by omega)]
theorem HD.congr {V : aV} {w w' : Nat → List Int32} {vl vl' : Nat → Nat} (h : HD V w vl) (e1 : ∀ f, f < 6 → w' f = w f) (e2 : ∀ f, f < 6 → vl' f = vl f) : HD V w' vl' := fun f hf => by rw [e1 f hf, e2 f hf]; exact h f hf
def fW (ent : Nat → EntN) (g : Nat) : Nat → List Int32 := tW (gW ent g 12).1 (gW ent g 12).2 6
def fV (ent : Nat → EntN) (g : Nat) : Nat → Nat := upN (upN (gW ent g 12).2 0 ((gW ent g 12).1 0).length) 1 ((gW ent g 12).1 1).length
theorem cp4 {f : Nat} (h : 2 ≤ f) : cp f = 4 := by unfold cp; rw [if_neg (by omega), if_neg (by omega)]
set_option maxHeartbeats 4000000 in
theorem g3_loop {mc ms kc ks : Nat} {V0 : aV} {w : Nat → List Int32} {vl : Nat → Nat} {g : Nat} (hv : ∀ f, 2 ≤ f → f < 6 → vl f < 10000) {Q : Option Value → aS → aV → Prop} {QX : String → aS → aV → Prop} (hQ : ∀ V', HD V' (tW w vl 6) vl → FrH V0 V' → Q none Sh V') : ∀ (m f : Nat) (V : aV), f + m = 6 → 2 ≤ f → HB V → HD V (tW w vl f) vl → FrH V0 V → R mX3_gather 3 mc ms Q QX kc ks 95 [some (.ref 11), some (.ref 74), some (.int (nI g)), some (.int (nI f))] [] Sh V := by
  intro m
  induction m with
  | zero =>
    intro f V hf h2 hB hD hF
    have hf' : f = 6 := by omega
    subst hf'
    refine R_iload_3 dX3_gather_95 ?_
    refine R_bipush (v := 6) dX3_gather_96 (by decide) ?_
    refine R_icmp_ge 122 dX3_gather_98 (by decide) (fun c98 => ?_) (fun c98 => absurd (by decide) c98)
    refine R_vret rfl dX3_gather_122 (hQ V hD hF)
  | succ m ih =>
    intro f V hf h2 hB hD hF
    have hB0 := hB
    obtain ⟨b0, b1, b2, b3, b4⟩ := hB
    have hw := b3 f (by omega)
    obtain ⟨d1, d2⟩ := hD f (by omega)
    rw [tW_at h2, cp4 h2] at d1
    have hvf := hv f h2 (by omega)
    have h12 : ¬ (6 : Int32) ≤ nI f := nI_ge (a := f) (b := 6) (by omega) (by omega)
    refine R_iload_3 dX3_gather_95 ?_
    refine R_bipush (v := 6) dX3_gather_96 (by decide) ?_
    refine R_icmp_ge 122 dX3_gather_98 (by decide) (fun c98 => absurd c98 h12) (fun c98 => ?_)
    refine R_aload_0 dX3_gather_101 ?_
    refine gfX3_11 rfl dX3_gather_102 sh_11 b0 ?_
    refine R_iload_3 dX3_gather_105 ?_
    refine R_aald_19 dX3_gather_106 sh_12 (vp_in_nI (by omega) (by decide)) (nI_clamp (by omega)) hw ?_
    refine R_aload_0 dX3_gather_107 ?_
    refine gfX3_17 rfl dX3_gather_108 sh_11 b1 ?_
    refine R_iload_3 dX3_gather_111 ?_
    refine R_iald dX3_gather_112 sh_13 (vp_in_nI (by omega) (by decide)) (nI_clamp (by omega)) d2 ?_
    refine R_callVN (T := mX3_gather) (T' := mX9_addNumber) (As := [_]) (ci := 9) okX9_addNumber mlX3_46 rfl (by decide) d1.1 (ct_addNumber hvf d1 (Nat.le_refl 4)) rfl (by decide) (by decide) (Nat.le_of_ble_eq_true rfl) dX3_gather_113 (fun v9 S9 V1 h9 => ?_) (fun E S9 V9 h9 => h9.elim)
    obtain ⟨rfl, rfl, u3, u4⟩ := h9
    have u5 : SL Sh V1 (16 + 2 * f) (cp f) (digs (vl f)) := by rw [cp4 h2]; exact u3
    have hD1 := hD.setW u5 u4
    rw [tW_s h2] at hD1
    have hF1 : FrH V V1 := FrH.f1 (by omega) u4
    refine R_iinc_3 rfl (by decide) dX3_gather_116 rfl ?_
    rw [show nI f + Int32.ofInt 1 = nI (f + 1) from nI_1 f]
    refine R_goto 95 dX3_gather_119 (by decide) ?_
    exact ih (f + 1) V1 (by omega) (by omega) (hB0.fr hF1) hD1 (hF.trans hF1)
set_option maxHeartbeats 4000000 in
theorem g2_loop {mc ms kc ks : Nat} {V0 : aV} {en : Nat → Nat} {ent : Nat → EntN} {g : Nat} (hg : g < 2 ^ 12) {Q : Option Value → aS → aV → Prop} {QX : String → aS → aV → Prop} (hQ : ∀ V', HD V' (fW ent g) (fV ent g) → FrH V0 V' → Q none Sh V') : ∀ (m j : Nat) (V : aV), j + m = 12 → HB V → BR V en ent → HD V (gW ent g j).1 (gW ent g j).2 → FrH V0 V → R mX3_gather 3 mc ms Q QX kc ks 33 [some (.ref 11), some (.ref 74), some (.int (nI g)), some (.int (nI j))] [] Sh V := by
  intro m
  induction m with
  | zero =>
    intro j V hj hB hR hD hF
    have hj' : j = 12 := by omega
    subst hj'
    have hB0 := hB
    obtain ⟨b0, b1, b2, b3, b4⟩ := hB
    have ok := gW_ok (g := g) (fun k hk => (hR.2 k hk).2.2.2) 12 (Nat.le_refl _)
    have w0 := hD 0 (by decide)
    have w1 := hD 1 (by decide)
    have hw0 := b3 0 (by decide)
    have hw1 := b3 1 (by decide)
    have l0 := w0.1.len1
    have l1 := w1.1.len1
    refine R_iload_3 dX3_gather_33 ?_
    refine R_bipush (v := 12) dX3_gather_34 (by decide) ?_
    refine R_icmp_ge 63 dX3_gather_36 (by decide) (fun c36 => ?_) (fun c36 => absurd (by decide) c36)
    refine R_aload_0 dX3_gather_63 ?_
    refine gfX3_17 rfl dX3_gather_64 sh_11 b1 ?_
    refine R_iconst (v := 0) dX3_gather_67 (by decide) ?_
    refine R_aload_0 dX3_gather_68 ?_
    refine gfX3_11 rfl dX3_gather_69 sh_11 b0 ?_
    refine R_iconst (v := 0) dX3_gather_72 (by decide) ?_
    refine R_aald_19 dX3_gather_73 sh_12 (vp_in_nI (n := 0) (N := 6) (by decide) (by decide)) (nI_clamp (n := 0) (by decide)) hw0 ?_
    refine gfX3_32 rfl dX3_gather_74 w0.1.1 l0 ?_
    refine R_iast dX3_gather_77 sh_13 (vp_in_nI (n := 0) (N := 6) (by decide) (by decide)) (nI_clamp (n := 0) (by decide)) ?_
    refine R_aload_0 dX3_gather_78 ?_
    refine gfX3_17 rfl dX3_gather_79 sh_11 ((a_up_ne (Or.inl (by decide))).trans b1) ?_
    refine R_iconst (v := 1) dX3_gather_82 (by decide) ?_
    refine R_aload_0 dX3_gather_83 ?_
    refine gfX3_11 rfl dX3_gather_84 sh_11 ((a_up_ne (Or.inl (by decide))).trans b0) ?_
    refine R_iconst (v := 1) dX3_gather_87 (by decide) ?_
    refine R_aald_19 dX3_gather_88 sh_12 (vp_in_nI (n := 1) (N := 6) (by decide) (by decide)) (nI_clamp (n := 1) (by decide)) ((a_up_ne (Or.inl (by decide))).trans hw1) ?_
    refine gfX3_32 rfl dX3_gather_89 w1.1.1 ((a_up_ne (Or.inl (by decide))).trans l1) ?_
    refine R_iast dX3_gather_92 sh_13 (vp_in_nI (n := 1) (N := 6) (by decide) (by decide)) (nI_clamp (n := 1) (by decide)) ?_
    refine R_iconst (v := 2) dX3_gather_93 (by decide) ?_
    refine R_istore_3 rfl (by decide) dX3_gather_94 ?_
    have hD2 := (hD.setV (f := 0) (n := ((gW ent g 12).1 0).length)).setV (f := 1) (n := ((gW ent g 12).1 1).length)
    have hF2 : FrH V (a_up (a_up V 13 0 (.int (nI ((gW ent g 12).1 0).length))) 13 1 (.int (nI ((gW ent g 12).1 1).length))) := FrH.up.trans FrH.up
    have hD3 : HD (a_up (a_up V 13 0 (.int (nI ((gW ent g 12).1 0).length))) 13 1 (.int (nI ((gW ent g 12).1 1).length))) (tW (gW ent g 12).1 (fV ent g) 2) (fV ent g) := hD2.congr (fun f hf => by
      unfold tW
      by_cases q : f < 2
      · rw [if_pos q]
      · rw [if_neg q, if_neg q]; exact (ok.2.2.2.2.2.2 f (by omega)).symm) (fun f hf => rfl)
    refine g3_loop (V0 := V0) (w := (gW ent g 12).1) (vl := fV ent g) (fun f h2 h6 => ?_) (fun V9 q1 q2 => hQ V9 (q1.congr (fun f hf => ?_) (fun f hf => rfl)) q2) 4 2 _ rfl (Nat.le_refl _) (hB0.fr hF2) hD3 (hF.trans hF2)
    · unfold fV
      rw [upN_n (by omega), upN_n (by omega)]
      obtain ⟨_, _, o3, o4, o5, o6, _⟩ := ok
      have : f = 2 ∨ f = 3 ∨ f = 4 ∨ f = 5 := by omega
      rcases this with rfl | rfl | rfl | rfl <;> omega
    · unfold fW tW
      by_cases q : f < 2
      · rw [if_pos q, if_pos q]
      · rw [if_neg q, if_neg q, if_pos hf, if_pos hf]
        unfold fV
        rw [upN_n (by omega), upN_n (by omega)]
  | succ m ih =>
    intro j V hj hB hR hD hF
    have hR0 := hR
    obtain ⟨r0, r1⟩ := hR
    obtain ⟨r2, r3, r4, r5⟩ := r1 j (by omega)
    have ok := gW_ok (g := g) (fun k hk => (r1 k hk).2.2.2) j (by omega)
    have h12 : ¬ (12 : Int32) ≤ nI j := nI_ge (a := j) (b := 12) (by omega) (by omega)
    refine R_iload_3 dX3_gather_33 ?_
    refine R_bipush (v := 12) dX3_gather_34 (by decide) ?_
    refine R_icmp_ge 63 dX3_gather_36 (by decide) (fun c36 => absurd c36 h12) (fun c36 => ?_)
    refine R_iload_2 dX3_gather_39 ?_
    refine R_iconst (v := 1) dX3_gather_40 (by decide) ?_
    refine R_iload_3 dX3_gather_41 ?_
    refine R_ishl dX3_gather_42 ?_
    refine R_iand dX3_gather_43 ?_
    refine R_if_eq 57 dX3_gather_44 (by decide) (fun c44 => ?_) (fun c44 => ?_)
    · first
        | (refine R_iinc_3 rfl (by decide) dX3_gather_57 rfl ?_
           rw [show nI j + Int32.ofInt 1 = nI (j + 1) from nI_1 j]
           refine R_goto 33 dX3_gather_60 (by decide) ?_
           exact ih (j + 1) V1 (by omega) (hB.fr u4) (hR0.fr u4) (by rw [gW_t hb]; exact u3) (hF.trans u4))
        | (have hb0 := bk_f (by omega) (by omega) c44
           refine R_iinc_3 rfl (by decide) dX3_gather_57 rfl ?_
           rw [show nI j + Int32.ofInt 1 = nI (j + 1) from nI_1 j]
           refine R_goto 33 dX3_gather_60 (by decide) ?_
           exact ih (j + 1) V (by omega) hB hR0 (by rw [gW_f hb0]; exact hD) hF)
    · refine R_aload_0 dX3_gather_47 ?_
      refine R_aload_1 dX3_gather_48 ?_
      refine gfX3_36 rfl dX3_gather_49 sh_74 r0 ?_
      refine R_iload_3 dX3_gather_52 ?_
      refine R_aald_16 dX3_gather_53 sh_75 (vp_in_nI (by omega) (by decide)) (nI_clamp (by omega)) r2 ?_
      refine R_callV (T := mX3_gather) (T' := mX3_addMember) (As := [_]) (ci := 3) okX3_addMember mlX3_42 rfl (by decide) sh_11 (ct_addMember hB hD r4 r3 (by omega) (fun q => (ok.2.1 q).2) (by omega)) rfl (by decide) (by decide) (Nat.le_of_ble_eq_true rfl) dX3_gather_54 (fun v9 S9 V1 h9 => ?_) (fun E S9 V9 h9 => h9.elim)
      obtain ⟨rfl, rfl, u3, u4⟩ := h9
      have hb := bk_t (by omega) c44
      first
        | (refine R_iinc_3 rfl (by decide) dX3_gather_57 rfl ?_
           rw [show nI j + Int32.ofInt 1 = nI (j + 1) from nI_1 j]
           refine R_goto 33 dX3_gather_60 (by decide) ?_
           exact ih (j + 1) V1 (by omega) (hB.fr u4) (hR0.fr u4) (by rw [gW_t hb]; exact u3) (hF.trans u4))
        | (have hb0 := bk_f (by omega) (by omega) c44
           refine R_iinc_3 rfl (by decide) dX3_gather_57 rfl ?_
           rw [show nI j + Int32.ofInt 1 = nI (j + 1) from nI_1 j]
           refine R_goto 33 dX3_gather_60 (by decide) ?_
           exact ih (j + 1) V (by omega) hB hR0 (by rw [gW_f hb0]; exact hD) hF)
set_option maxHeartbeats 4000000 in
theorem g1_loop {mc ms kc ks : Nat} {V0 : aV} {w : Nat → List Int32} {vl : Nat → Nat} {g : Nat} {Q : Option Value → aS → aV → Prop} {QX : String → aS → aV → Prop} (hK : ∀ V', HB V' → HD V' (fun _ => []) (fun _ => 0) → FrH V0 V' → R mX3_gather 3 mc ms Q QX kc ks 33 [some (.ref 11), some (.ref 74), some (.int (nI g)), some (.int (nI 0))] [] Sh V') : ∀ (m f : Nat) (V : aV), f + m = 6 → HB V → HD V (clrW w f) (clrV vl f) → FrH V0 V → R mX3_gather 3 mc ms Q QX kc ks 2 [some (.ref 11), some (.ref 74), some (.int (nI g)), some (.int (nI f))] [] Sh V := by
  intro m
  induction m with
  | zero =>
    intro f V hf hB hD hF
    have hf' : f = 6 := by omega
    subst hf'
    refine R_iload_3 dX3_gather_2 ?_
    refine R_bipush (v := 6) dX3_gather_3 (by decide) ?_
    refine R_icmp_ge 31 dX3_gather_5 (by decide) (fun c5 => ?_) (fun c5 => absurd (by decide) c5)
    refine R_iconst (v := 0) dX3_gather_31 (by decide) ?_
    refine R_istore_3 rfl (by decide) dX3_gather_32 ?_
    exact hK V hB (hD.congr (fun f hf => (if_pos hf).symm) (fun f hf => (if_pos hf).symm)) hF
  | succ m ih =>
    intro f V hf hB hD hF
    have hB0 := hB
    obtain ⟨b0, b1, b2, b3, b4⟩ := hB
    have hw := b3 f (by omega)
    obtain ⟨d1, d2⟩ := hD f (by omega)
    have h12 : ¬ (6 : Int32) ≤ nI f := nI_ge (a := f) (b := 6) (by omega) (by omega)
    refine R_iload_3 dX3_gather_2 ?_
    refine R_bipush (v := 6) dX3_gather_3 (by decide) ?_
    refine R_icmp_ge 31 dX3_gather_5 (by decide) (fun c5 => absurd c5 h12) (fun c5 => ?_)
    refine R_aload_0 dX3_gather_8 ?_
    refine gfX3_11 rfl dX3_gather_9 sh_11 b0 ?_
    refine R_iload_3 dX3_gather_12 ?_
    refine R_aald_19 dX3_gather_13 sh_12 (vp_in_nI (by omega) (by decide)) (nI_clamp (by omega)) hw ?_
    refine R_iconst (v := 0) dX3_gather_14 (by decide) ?_
    refine pfX3_32 rfl dX3_gather_15 d1.1 ?_
    refine R_aload_0 dX3_gather_18 ?_
    refine gfX3_17 rfl dX3_gather_19 sh_11 ((a_up_ne (Or.inl (by omega))).trans b1) ?_
    refine R_iload_3 dX3_gather_22 ?_
    refine R_iconst (v := 0) dX3_gather_23 (by decide) ?_
    refine R_iast dX3_gather_24 sh_13 (vp_in_nI (by omega) (by decide)) (nI_clamp (by omega)) ?_
    refine R_iinc_3 rfl (by decide) dX3_gather_25 rfl ?_
    rw [show nI f + Int32.ofInt 1 = nI (f + 1) from nI_1 f]
    refine R_goto 2 dX3_gather_28 (by decide) ?_
    have hD1 := hD.setW (f := f) d1.clear Fr1.up
    rw [clrW_s] at hD1
    have hD2 := hD1.setV (f := f) (n := 0)
    rw [clrV_s] at hD2
    have hF1 : FrH V (a_up (a_up V (16 + 2 * f) 1 (.int 0)) 13 f (.int (nI 0))) := (FrH.f1 (f := f) (by omega) Fr1.up).trans FrH.up
    exact ih (f + 1) _ (by omega) (hB0.fr hF1) hD2 (hF.trans hF1)
set_option maxHeartbeats 4000000 in
theorem ct_gather {V : aV} {en : Nat → Nat} {ent : Nat → EntN} {w : Nat → List Int32} {vl : Nat → Nat} {g : Nat} (hg : g < 2 ^ 12) (hB : HB V) (hD : HD V w vl) (hR : BR V en ent) : CT mX3_gather 3 0 0 [.ref 11, .ref 74, .int (nI g)] Sh V (HPost V (fW ent g) (fV ent g)) aNo := by
  refine CT_of (by decide +kernel) (Nat.le_of_ble_eq_true rfl) ?_
  show R _ _ _ _ _ _ _ _ 0 [some (.ref 11), some (.ref 74), some (.int (nI g)), none] [] _ _
  refine R_iconst (v := 0) dX3_gather_0 (by decide) ?_
  refine R_istore_3 rfl (by decide) dX3_gather_1 ?_
  refine g1_loop (V0 := V) (w := w) (vl := vl) (fun V1 q1 q2 q3 => ?_) 6 0 V rfl hB (hD.congr (fun f hf => if_neg (Nat.not_lt_zero f)) (fun f hf => if_neg (Nat.not_lt_zero f))) FrH.refl
  exact g2_loop (V0 := V) hg (fun V9 u1 u2 => ⟨rfl, rfl, u1, u2⟩) 12 0 V1 rfl q1 (hR.fr q3) q2 q3

