/-! ===== the law: types, adds, templates ===== -/
section ADD
variable {T : Nat → List Int32} {to : Nat → Bool} {ent : Nat → EntN} {n : Nat} {mt po : Nat → Nat} {b st pa nr : Nat} {rt rr : Nat → Nat} {pd : Nat → Bool} {kn : Nat → Nat} {kl : Nat → Nat → KL}
theorem CSt.l {V : aV} {L L' : List Int32} (h : CSt V L T to ent n mt po b st pa nr rt rr pd kn kl) (e : L = L') : CSt V L' T to ent n mt po b st pa nr rt rr pd kn kl := e ▸ h
theorem ty_1 {V : aV} {L : List Int32} (h : CSt V L T to ent n mt po b st pa nr rt rr pd kn kl) {x : Int64} {l : List Int32} (hx : tyC x l = true) (h96 : L.length + l.length ≤ 96) : CT mX11_type 6 1 6 [.ref 0, .long x] Sh V (fun v S' V' => (∃ y, v = some (.int y)) ∧ Sh = S' ∧ CSt V' (L ++ l) T to ent n mt po b st pa nr rt rr pd kn kl ∧ FrX V V') aNo := by
  obtain ⟨h1, h2, h3, h4⟩ := tyC_of hx
  refine CT_mono (lc_type h h1 h3 h96 (fun s hs => ?_)) (fun v S' V' q => ⟨⟨_, q.1.symm⟩, q.2.1, by rw [h2] at q; exact q.2.2.1, q.2.2.2⟩) (fun _ _ _ q => q)
  rw [h2] at hs
  obtain ⟨a1, a2⟩ := h4 s hs
  exact ⟨Int32.le_iff_toInt_le.1 a1, Int32.le_iff_toInt_le.1 a2⟩
theorem ptL_len (q : Nat) : (ptL q).length ≤ 2 := by
  unfold ptL
  rw [List.length_append]
  split <;> simp
theorem oneOK.le {o : Nat} (h : oneOK o) : 97 ≤ o ∧ o ≤ 99 := by
  unfold oneOK at h
  simp only [List.mem_cons, List.not_mem_nil, or_false] at h
  omega
theorem twoOK.le {o : Nat} (h : twoOK o) : 65 ≤ o ∧ o ≤ 99 := by
  unfold twoOK at h
  simp only [List.mem_cons, List.not_mem_nil, or_false] at h
  omega
theorem oneOK_of {j : Nat} (h : j < 3) : oneOK (97 + j) := by
  rcases (show j = 0 ∨ j = 1 ∨ j = 2 from by omega) with rfl | rfl | rfl <;> (unfold oneOK; decide)
theorem twoOK_a {j : Nat} (h : j < 3) : twoOK (97 + j) := by
  rcases (show j = 0 ∨ j = 1 ∨ j = 2 from by omega) with rfl | rfl | rfl <;> (unfold twoOK; decide)
theorem twoOK_b {j : Nat} (h : j < 3) : twoOK (65 + j) := by
  rcases (show j = 0 ∨ j = 1 ∨ j = 2 from by omega) with rfl | rfl | rfl <;> (unfold twoOK; decide)
set_option maxHeartbeats 4000000 in
theorem ct_types {V : aV} {o t k h z q : Nat} (h0 : CSt V [] T to ent n mt po b st pa nr rt rr pd kn kl) (ho : oneOK o) (ht : twoOK t) (hk : k < 9) (hh : h < 1000) (hz : z < 6) (hq : q < 100) : CT mL_types 7 4 24 [.ref 0, .int (nI h), .int (nI z), .int (nI q), .int (nI o), .int (nI t), .int (nI k)] Sh V (fun v S' V' => none = v ∧ Sh = S' ∧ CSt V' (lnL o t k h z q) T to ent n mt po b st pa nr rt rr pd kn kl ∧ FrX V V') aNo := by
  refine CT_of (by decide +kernel) (Nat.le_of_ble_eq_true rfl) ?_
  show R _ _ _ _ _ _ _ _ 0 [some (.ref 0), some (.int (nI h)), some (.int (nI z)), some (.int (nI q)), some (.int (nI o)), some (.int (nI t)), some (.int (nI k))] [] _ _
  have o1 := ho.le
  have t1 := ht.le
  refine R_aload_0 dL_types_0 ?_
  refine R_iload_4 dL_types_1 ?_
  refine R_i2l dL_types_3 ?_
  rw [nI_l (by omega)]
  refine R_iload_5 dL_types_4 ?_
  refine R_i2l dL_types_6 ?_
  rw [nI_l (by omega)]
  refine R_bipush (v := 8) dL_types_7 (by decide) ?_
  refine R_lshl dL_types_9 ?_
  refine R_lor dL_types_10 ?_
  refine R_ldc2 dL_types_11 cwL_20 ?_
  refine R_lor dL_types_14 ?_
  refine R_ldc2 dL_types_15 cwL_22 ?_
  refine R_iload_6 dL_types_18 ?_
  refine R_i2l dL_types_20 ?_
  rw [nI_l (by omega)]
  refine R_ladd dL_types_21 ?_
  refine R_bipush (v := 24) dL_types_22 (by decide) ?_
  refine R_lshl dL_types_24 ?_
  refine R_lor dL_types_25 ?_
  refine R_ldc2 dL_types_26 cwL_24 ?_
  refine R_lor dL_types_29 ?_
  refine R_callV (T := mL_types) (T' := mX11_type) (As := [_]) (mc' := 1) (ms' := 6) (ci := 11) okX11_type mlL_26 rfl (by decide) sh_0 (ty_1 (x := x1 o t k) h0 (x1_ok ho ht hk) (by simp only [List.length_append, List.length_cons, List.length_nil]; omega)) rfl (by decide) (by decide) (Nat.le_of_ble_eq_true rfl) dL_types_30 (fun v9 S9 V9 u9 => ?_) (fun E S9 V9 h9 => h9.elim)
  obtain ⟨⟨y1, rfl⟩, rfl, h1, f1⟩ := u9
  refine R_pop dL_types_33 rfl ?_
  refine R_aload_0 dL_types_34 ?_
  refine R_ldc2 dL_types_35 cwL_30 ?_
  refine R_iload_1 dL_types_38 ?_
  refine R_bipush (v := 100) dL_types_39 (by decide) ?_
  refine R_idiv dL_types_41 (by decide) ?_
  rw [dv100 (by omega)]
  refine R_i2l dL_types_42 ?_
  rw [nI_l (by omega)]
  refine R_ladd dL_types_43 ?_
  refine R_ldc2 dL_types_44 cwL_30 ?_
  refine R_iload_1 dL_types_47 ?_
  refine R_bipush (v := 10) dL_types_48 (by decide) ?_
  refine R_idiv dL_types_50 (by decide) ?_
  rw [dv10 (by omega)]
  refine R_bipush (v := 10) dL_types_51 (by decide) ?_
  refine R_irem dL_types_53 (by decide) ?_
  rw [rm10 (by omega)]
  refine R_i2l dL_types_54 ?_
  rw [nI_l (by omega)]
  refine R_ladd dL_types_55 ?_
  refine R_bipush (v := 8) dL_types_56 (by decide) ?_
  refine R_lshl dL_types_58 ?_
  refine R_lor dL_types_59 ?_
  refine R_ldc2 dL_types_60 cwL_30 ?_
  refine R_iload_1 dL_types_63 ?_
  refine R_bipush (v := 10) dL_types_64 (by decide) ?_
  refine R_irem dL_types_66 (by decide) ?_
  rw [rm10 (by omega)]
  refine R_i2l dL_types_67 ?_
  rw [nI_l (by omega)]
  refine R_ladd dL_types_68 ?_
  refine R_bipush (v := 16) dL_types_69 (by decide) ?_
  refine R_lshl dL_types_71 ?_
  refine R_lor dL_types_72 ?_
  refine R_ldc2 dL_types_73 cwL_32 ?_
  refine R_lor dL_types_76 ?_
  refine R_ldc2 dL_types_77 cwL_30 ?_
  refine R_iload_2 dL_types_80 ?_
  refine R_i2l dL_types_81 ?_
  rw [nI_l (by omega)]
  refine R_ladd dL_types_82 ?_
  refine R_bipush (v := 32) dL_types_83 (by decide) ?_
  refine R_lshl dL_types_85 ?_
  refine R_lor dL_types_86 ?_
  refine R_ldc2 dL_types_87 cwL_34 ?_
  refine R_lor dL_types_90 ?_
  refine R_callV (T := mL_types) (T' := mX11_type) (As := [_]) (mc' := 1) (ms' := 6) (ci := 11) okX11_type mlL_26 rfl (by decide) sh_0 (ty_1 (x := x2 (h / 100) (h / 10 % 10) (h % 10) z) h1 (x2_ok (by omega) (by omega) (by omega) hz) (by simp only [List.length_append, List.length_cons, List.length_nil]; omega)) rfl (by decide) (by decide) (Nat.le_of_ble_eq_true rfl) dL_types_91 (fun v9 S9 V9 u9 => ?_) (fun E S9 V9 h9 => h9.elim)
  obtain ⟨⟨y2, rfl⟩, rfl, h2, f2⟩ := u9
  refine R_pop dL_types_94 rfl ?_
  refine R_iload_3 dL_types_95 ?_
  refine R_bipush (v := 9) dL_types_96 (by decide) ?_
  refine R_icmp_le 115 dL_types_98 (by decide) (fun c98 => ?_) (fun c98 => ?_)
  · first
      | (have q9 : ¬ 9 < q := fun y => absurd ((nI_leI (a := q) (b := 9) (by omega) (by decide)).1 c98) (by omega))
      | skip
    refine R_aload_0 dL_types_115 ?_
    refine R_ldc2 dL_types_116 cwL_30 ?_
    refine R_iload_3 dL_types_119 ?_
    refine R_bipush (v := 10) dL_types_120 (by decide) ?_
    refine R_irem dL_types_122 (by decide) ?_
    rw [rm10 (by omega)]
    refine R_i2l dL_types_123 ?_
    rw [nI_l (by omega)]
    refine R_ladd dL_types_124 ?_
    refine R_less (kc' := 1) (ks' := 6) (by decide) (by decide) ?_
    refine R_callV (T := mL_types) (T' := mX11_type) (As := [_]) (mc' := 1) (ms' := 6) (ci := 11) okX11_type mlL_26 rfl (by decide) sh_0 (ty_1 (x := x3 (q % 10)) h2 (x3_ok (by omega)) (by simp only [List.length_append, List.length_cons, List.length_nil]; omega)) rfl (by decide) (by decide) (Nat.le_of_ble_eq_true rfl) dL_types_125 (fun v9 S9 V9 u9 => ?_) (fun E S9 V9 h9 => h9.elim)
    obtain ⟨⟨y4, rfl⟩, rfl, h4, f4⟩ := u9
    refine R_pop dL_types_128 rfl ?_
    refine R_vret rfl dL_types_129 ⟨rfl, rfl, h4.l (by unfold lnL ptL; rw [if_neg q9]; rfl), fun b hb => (f4 b hb).trans ((f2 b hb).trans (f1 b hb))⟩
  · have q9 : 9 < q := Nat.lt_of_not_le fun y => c98 (nI_le (a := q) (b := 9) y (by decide))
    refine R_aload_0 dL_types_101 ?_
    refine R_ldc2 dL_types_102 cwL_30 ?_
    refine R_iload_3 dL_types_105 ?_
    refine R_bipush (v := 10) dL_types_106 (by decide) ?_
    refine R_idiv dL_types_108 (by decide) ?_
    rw [dv10 (by omega)]
    refine R_i2l dL_types_109 ?_
    rw [nI_l (by omega)]
    refine R_ladd dL_types_110 ?_
    refine R_callV (T := mL_types) (T' := mX11_type) (As := [_]) (mc' := 1) (ms' := 6) (ci := 11) okX11_type mlL_26 rfl (by decide) sh_0 (ty_1 (x := x3 (q / 10)) h2 (x3_ok (by omega)) (by simp only [List.length_append, List.length_cons, List.length_nil]; omega)) rfl (by decide) (by decide) (Nat.le_of_ble_eq_true rfl) dL_types_111 (fun v9 S9 V9 u9 => ?_) (fun E S9 V9 h9 => h9.elim)
    obtain ⟨⟨y3, rfl⟩, rfl, h3, f3⟩ := u9
    refine R_pop dL_types_114 rfl ?_
    first
      | (have q9 : ¬ 9 < q := fun y => absurd ((nI_leI (a := q) (b := 9) (by omega) (by decide)).1 c98) (by omega))
      | skip
    refine R_aload_0 dL_types_115 ?_
    refine R_ldc2 dL_types_116 cwL_30 ?_
    refine R_iload_3 dL_types_119 ?_
    refine R_bipush (v := 10) dL_types_120 (by decide) ?_
    refine R_irem dL_types_122 (by decide) ?_
    rw [rm10 (by omega)]
    refine R_i2l dL_types_123 ?_
    rw [nI_l (by omega)]
    refine R_ladd dL_types_124 ?_
    refine R_callV (T := mL_types) (T' := mX11_type) (As := [_]) (mc' := 1) (ms' := 6) (ci := 11) okX11_type mlL_26 rfl (by decide) sh_0 (ty_1 (x := x3 (q % 10)) h3 (x3_ok (by omega)) (by simp only [List.length_append, List.length_cons, List.length_nil]; omega)) rfl (by decide) (by decide) (Nat.le_of_ble_eq_true rfl) dL_types_125 (fun v9 S9 V9 u9 => ?_) (fun E S9 V9 h9 => h9.elim)
    obtain ⟨⟨y4, rfl⟩, rfl, h4, f4⟩ := u9
    refine R_pop dL_types_128 rfl ?_
    refine R_vret rfl dL_types_129 ⟨rfl, rfl, h4.l (by unfold lnL ptL; rw [if_pos q9]; rfl), fun b hb => (f4 b hb).trans ((f3 b hb).trans ((f2 b hb).trans (f1 b hb)))⟩

def AdP (V : aV) (ent : Nat → EntN) (n : Nat) (mt po : Nat → Nat) (b st pa nr : Nat) (rt rr : Nat → Nat) (pd : Nat → Bool) (kn : Nat → Nat) (kl : Nat → Nat → KL) : Option Value → aS → aV → Prop := fun v S' V' => some (.int 1) = v ∧ Sh = S' ∧ ∃ y, CSt V' [] lT lTo (upN ent n y) (n + 1) mt po b st pa nr rt rr pd kn kl ∧ LQ V' (n + 1) nr b st pa rt rr pd ∧ AA V' (n + 1) (upN ent n y) ∧ ∀ b, 506 ≤ b → V' b = V b
theorem mt_0 {mt : Nat → Nat} {n : Nat} (h : sym mt n) (hn : n < 12) : mt n = 0 := by
  apply Nat.eq_of_testBit_eq
  intro i
  rw [Nat.zero_testBit]
  rcases q : (mt n).testBit i with _ | _
  · rfl
  · exact absurd (h.2 n i hn (bit12 (h.1 n hn) q) q).1 (Nat.lt_irrefl n)
theorem AA.new {V V' : aV} {n c d : Nat} {y : EntN} (h : AA V n ent) (hy : y.1 = [nI c, nI d] ∧ y.2.1 = [nI (97 + n)]) (h0 : V' 505 (5 * n) = .int (nI c)) (h1 : V' 505 (5 * n + 1) = .int (nI d)) (h2 : V' 505 (5 * n + 2) = .int (nI y.2.2.1)) (h3 : V' 505 (5 * n + 3) = .int (nI y.2.2.2.1)) (h4 : V' 505 (5 * n + 4) = .int (nI y.2.2.2.2)) (e : ∀ q, q < 5 * n → V' 505 q = V 505 q) : AA V' (n + 1) (upN ent n y) := by
  intro k hk
  by_cases z : k = n
  · subst z
    rw [upN_s]
    exact ⟨c, d, hy.1, hy.2, h0, h1, h2, h3, h4⟩
  · rw [upN_n z]
    obtain ⟨c', d', a1, a2, a3, a4, a5, a6, a7⟩ := h k (by omega)
    exact ⟨c', d', a1, a2, (e _ (by omega)).trans a3, (e _ (by omega)).trans a4, (e _ (by omega)).trans a5, (e _ (by omega)).trans a6, (e _ (by omega)).trans a7⟩
set_option maxHeartbeats 4000000 in
theorem ad3 {V0 : aV} {v : Int32} {o t h z q : Nat} (hC : CSt V0 [] lT lTo ent n mt po b st pa nr rt rr pd kn kl) (hQ : LQ V0 n nr b st pa rt rr pd) (aa : AA V0 n ent) (hn : n < 9) (hz0 : po n = 0) (ho : oneOK o) (ht : twoOK t) (hh : h < 1000) (hz : z < 6) (hq : q < 100) : R mL_adds 8 6 36 (AdP V0 ent n mt po b st pa nr rt rr pd kn kl) aNo 6 36 100 [some (.ref 0), some (.ref 504), some (.ref 505), some (.int v), some (.int (nI n)), some (.int (nI o)), some (.int (nI t)), some (.int (nI h)), some (.int (nI z)), some (.int (nI q))] [] Sh V0 := by
  have o1 := ho.le
  have t1 := ht.le
  refine R_aload_0 dL_adds_100 ?_
  refine R_iload_7 dL_adds_101 ?_
  refine R_iload_8 dL_adds_103 ?_
  refine R_iload_9 dL_adds_105 ?_
  refine R_iload_5 dL_adds_107 ?_
  refine R_iload_6 dL_adds_109 ?_
  refine R_iload_4 dL_adds_111 ?_
  refine R_callS (T := mL_adds) (T' := mL_types) (As := [_, _, _, _, _, _, _]) (mc' := 4) (ms' := 24) okL_types mlL_42 rfl (ct_types hC ho ht hn hh hz hq) rfl (by decide) (by decide) (Nat.le_of_ble_eq_true rfl) dL_adds_113 (fun v9 S9 V1 u9 => ?_) (fun E S9 V9 h9 => h9.elim)
  obtain ⟨rfl, rfl, h1, f1⟩ := u9
  have q1 := f1 504 (by decide)
  have a1 := f1 505 (by decide)
  refine R_aload_2 dL_adds_116 ?_
  refine R_iconst (v := 5) dL_adds_117 (by decide) ?_
  refine R_iload_4 dL_adds_118 ?_
  refine R_imul dL_adds_120 ?_
  refine R_iload_5 dL_adds_121 ?_
  rw [i5]
  refine R_iast dL_adds_123 sh_505 (vp_in_nI (by omega) (by decide)) (nI_clamp (by omega)) ?_
  refine R_aload_2 dL_adds_124 ?_
  refine R_iconst (v := 5) dL_adds_125 (by decide) ?_
  refine R_iload_4 dL_adds_126 ?_
  refine R_imul dL_adds_128 ?_
  refine R_iconst (v := 1) dL_adds_129 (by decide) ?_
  refine R_iadd dL_adds_130 ?_
  refine R_iload_6 dL_adds_131 ?_
  rw [show (5 : Int32) * nI n + 1 = nI (5 * n + 1) from ia n 1]
  refine R_iast dL_adds_133 sh_505 (vp_in_nI (by omega) (by decide)) (nI_clamp (by omega)) ?_
  refine R_aload_2 dL_adds_134 ?_
  refine R_iconst (v := 5) dL_adds_135 (by decide) ?_
  refine R_iload_4 dL_adds_136 ?_
  refine R_imul dL_adds_138 ?_
  refine R_iconst (v := 2) dL_adds_139 (by decide) ?_
  refine R_iadd dL_adds_140 ?_
  refine R_iload_7 dL_adds_141 ?_
  rw [show (5 : Int32) * nI n + 2 = nI (5 * n + 2) from ia n 2]
  refine R_iast dL_adds_143 sh_505 (vp_in_nI (by omega) (by decide)) (nI_clamp (by omega)) ?_
  refine R_aload_2 dL_adds_144 ?_
  refine R_iconst (v := 5) dL_adds_145 (by decide) ?_
  refine R_iload_4 dL_adds_146 ?_
  refine R_imul dL_adds_148 ?_
  refine R_iconst (v := 3) dL_adds_149 (by decide) ?_
  refine R_iadd dL_adds_150 ?_
  refine R_iload_8 dL_adds_151 ?_
  rw [show (5 : Int32) * nI n + 3 = nI (5 * n + 3) from ia n 3]
  refine R_iast dL_adds_153 sh_505 (vp_in_nI (by omega) (by decide)) (nI_clamp (by omega)) ?_
  refine R_aload_2 dL_adds_154 ?_
  refine R_iconst (v := 5) dL_adds_155 (by decide) ?_
  refine R_iload_4 dL_adds_156 ?_
  refine R_imul dL_adds_158 ?_
  refine R_iconst (v := 4) dL_adds_159 (by decide) ?_
  refine R_iadd dL_adds_160 ?_
  refine R_iload_9 dL_adds_161 ?_
  rw [show (5 : Int32) * nI n + 4 = nI (5 * n + 4) from ia n 4]
  refine R_iast dL_adds_163 sh_505 (vp_in_nI (by omega) (by decide)) (nI_clamp (by omega)) ?_
  refine R_aload_1 dL_adds_164 ?_
  refine R_iconst (v := 0) dL_adds_165 (by decide) ?_
  refine R_dup2_11 dL_adds_166 rfl rfl ?_
  refine R_iald dL_adds_167 sh_504 (vp_in_nI (n := 0) (by decide) (by decide)) rfl ((a_up_ne (Or.inl (by decide))).trans ((a_up_ne (Or.inl (by decide))).trans ((a_up_ne (Or.inl (by decide))).trans ((a_up_ne (Or.inl (by decide))).trans ((a_up_ne (Or.inl (by decide))).trans ((congrFun q1 0).trans hQ.1)))))) ?_
  refine R_iconst (v := 1) dL_adds_168 (by decide) ?_
  refine R_iadd dL_adds_169 ?_
  rw [nI_1]
  refine R_iast dL_adds_170 sh_504 (vp_in_nI (n := 0) (by decide) (by decide)) rfl ?_
  refine R_aload_0 dL_adds_171 ?_
  refine R_iload_4 dL_adds_172 ?_
  have W : CSt (a_up (a_up (a_up (a_up (a_up (a_up V1 505 (5 * n) (.int (nI o))) 505 (5 * n + 1) (.int (nI t))) 505 (5 * n + 2) (.int (nI h))) 505 (5 * n + 3) (.int (nI z))) 505 (5 * n + 4) (.int (nI q))) 504 0 (.int (nI (n + 1)))) (lnL o t n h z q) lT lTo ent n mt po b st pa nr rt rr pd kn kl := h1.low (fun b hb => (a_up_row (by omega)).trans ((a_up_row (by omega)).trans ((a_up_row (by omega)).trans ((a_up_row (by omega)).trans ((a_up_row (by omega)).trans (a_up_row (by omega)))))))
  refine R_callV (T := mL_adds) (T' := mX11_address) (As := [_]) (mc' := 1) (ms' := 6) (ci := 11) okX11_address mlL_46 rfl (by decide) sh_0 (lc_address W (by omega) (mt_0 hC.2.2.2.1.2.2.1 (by omega)) (aRd_lnL ho ht hn hh hz hq) (EO_lnL ho ht hn hh hz hq)) rfl (by decide) (by decide) (Nat.le_of_ble_eq_true rfl) dL_adds_174 (fun v9 S9 V2 u9 => ?_) (fun E S9 V9 h9 => h9.elim)
  obtain ⟨rfl, rfl, h2, f2⟩ := u9
  refine R_iload_4 dL_adds_177 ?_
  refine R_icmp_ne 205 dL_adds_179 (by decide) (fun c179 => absurd rfl c179) (fun c179 => ?_)
  refine R_aload_0 dL_adds_182 ?_
  refine R_callV_e (T := mL_adds) (T' := mX11_addresses) (As := []) (mc' := 0) (ms' := 0) (ci := 11) okX11_addresses mlL_50 rfl (by decide) sh_0 (lc_addresses h2) rfl (by decide) (by decide) (Nat.le_of_ble_eq_true rfl) dL_adds_183 ?_
  refine R_aload_1 dL_adds_186 ?_
  refine R_iconst (v := 0) dL_adds_187 (by decide) ?_
  refine R_iald dL_adds_188 sh_504 (vp_in_nI (n := 0) (by decide) (by decide)) rfl ((congrFun (f2 504 (by decide)) 0).trans (a_up_self _ _ _ _)) ?_
  refine R_icmp_ne 205 dL_adds_189 (by decide) (fun c189 => absurd rfl c189) (fun c189 => ?_)
  refine R_aload_0 dL_adds_192 ?_
  refine R_iload_4 dL_adds_193 ?_
  refine R_callV_e (T := mL_adds) (T' := mX11_reasons) (As := [_]) (mc' := 1) (ms' := 6) (ci := 11) okX11_reasons mlL_54 rfl (by decide) sh_0 (lc_reasons h2 (k := n) (by omega)) rfl (by decide) (by decide) (Nat.le_of_ble_eq_true rfl) dL_adds_195 ?_
  have e0 : nI (po n) = 0 := by rw [hz0]; rfl
  refine R_if_ne 205 dL_adds_198 (by decide) (fun c198 => absurd e0 c198) (fun c198 => ?_)
  refine R_iconst (v := 1) dL_adds_201 (by decide) ?_
  refine R_goto 206 dL_adds_202 (by decide) ?_
  refine R_zret rfl (by first | rfl | assumption) dL_adds_206 ?_
  refine ⟨rfl, rfl, ([nI o, nI t], [nI (97 + n)], h, z, q), h2, ?_, ?_, ?_⟩
  · have s5 := f2 504 (by decide)
    have k0 : ∀ x, x ≠ 0 → V2 504 x = V0 504 x := fun x hx => (congrFun s5 x).trans ((a_up_ne (Or.inr hx)).trans ((a_up_ne (Or.inl (by decide))).trans ((a_up_ne (Or.inl (by decide))).trans ((a_up_ne (Or.inl (by decide))).trans ((a_up_ne (Or.inl (by decide))).trans ((a_up_ne (Or.inl (by decide))).trans (congrFun q1 x)))))))
    obtain ⟨e0, e1, e2, e3, e4, er⟩ := hQ
    exact ⟨(congrFun s5 0).trans (a_up_self _ _ _ _), (k0 1 (by decide)).trans e1, (k0 2 (by decide)).trans e2, (k0 3 (by decide)).trans e3, (k0 4 (by decide)).trans e4, fun i hi => ⟨(k0 _ (by omega)).trans (er i hi).1, (k0 _ (by omega)).trans (er i hi).2.1, (k0 _ (by omega)).trans (er i hi).2.2⟩⟩
  · have s5 := f2 505 (by decide)
    refine aa.new (V' := V2) (c := o) (d := t) ⟨rfl, rfl⟩ ?_ ?_ ?_ ?_ ?_ (fun x hx => ?_)
    · exact (congrFun s5 _).trans ((a_up_ne (Or.inl (by decide))).trans ((a_up_ne (Or.inr (by omega))).trans ((a_up_ne (Or.inr (by omega))).trans ((a_up_ne (Or.inr (by omega))).trans ((a_up_ne (Or.inr (by omega))).trans (a_up_self _ _ _ _))))))
    · exact (congrFun s5 _).trans ((a_up_ne (Or.inl (by decide))).trans ((a_up_ne (Or.inr (by omega))).trans ((a_up_ne (Or.inr (by omega))).trans ((a_up_ne (Or.inr (by omega))).trans (a_up_self _ _ _ _)))))
    · exact (congrFun s5 _).trans ((a_up_ne (Or.inl (by decide))).trans ((a_up_ne (Or.inr (by omega))).trans ((a_up_ne (Or.inr (by omega))).trans (a_up_self _ _ _ _))))
    · exact (congrFun s5 _).trans ((a_up_ne (Or.inl (by decide))).trans ((a_up_ne (Or.inr (by omega))).trans (a_up_self _ _ _ _)))
    · exact (congrFun s5 _).trans ((a_up_ne (Or.inl (by decide))).trans (a_up_self _ _ _ _))
    · exact (congrFun s5 _).trans ((a_up_ne (Or.inl (by decide))).trans ((a_up_ne (Or.inr (by omega))).trans ((a_up_ne (Or.inr (by omega))).trans ((a_up_ne (Or.inr (by omega))).trans ((a_up_ne (Or.inr (by omega))).trans ((a_up_ne (Or.inr (by omega))).trans (congrFun a1 x)))))))
  · intro x hx
    exact (f2 x (by omega)).trans ((a_up_row (by omega)).trans ((a_up_row (by omega)).trans ((a_up_row (by omega)).trans ((a_up_row (by omega)).trans ((a_up_row (by omega)).trans ((a_up_row (by omega)).trans (f1 x (by omega))))))))
set_option maxHeartbeats 4000000 in
theorem ad2 {V0 : aV} {v : Int32} {o t h : Nat} {a7 a8 a9 : Option Value} (hC : CSt V0 [] lT lTo ent n mt po b st pa nr rt rr pd kn kl) (hQ : LQ V0 n nr b st pa rt rr pd) (aa : AA V0 n ent) (hn : n < 9) (hz0 : po n = 0) (ho : oneOK o) (ht : twoOK t) (hh : h < 1000) : R mL_adds 8 6 36 (AdP V0 ent n mt po b st pa nr rt rr pd kn kl) aNo 6 36 76 [some (.ref 0), some (.ref 504), some (.ref 505), some (.int v), some (.int (nI n)), some (.int (nI o)), some (.int (nI t)), a7, a8, a9] [.int (nI h)] Sh V0 := by
  refine R_istore_7 rfl (by decide) dL_adds_76 ?_
  refine R_iload_3 dL_adds_78 ?_
  refine R_bipush (v := 18) dL_adds_79 (by decide) ?_
  refine R_ishr dL_adds_81 ?_
  refine R_bipush (v := 6) dL_adds_82 (by decide) ?_
  refine R_callS (T := mL_adds) (T' := mL_low) (As := [_, _]) (mc' := 0) (ms' := 0) okL_low mlL_36 rfl (ct_low (n := 6) _ (by decide) (by decide)) rfl (by decide) (by decide) (Nat.le_of_ble_eq_true rfl) dL_adds_84 (fun v9 S9 V9 u9 => ?_) (fun E S9 V9 h9 => h9.elim)
  obtain ⟨z, hz, rfl, rfl, rfl⟩ := u9
  refine R_istore_8 rfl (by decide) dL_adds_87 ?_
  refine R_iload_3 dL_adds_89 ?_
  refine R_bipush (v := 12) dL_adds_90 (by decide) ?_
  refine R_ishr dL_adds_92 ?_
  refine R_bipush (v := 100) dL_adds_93 (by decide) ?_
  refine R_callS (T := mL_adds) (T' := mL_low) (As := [_, _]) (mc' := 0) (ms' := 0) okL_low mlL_36 rfl (ct_low (n := 100) _ (by decide) (by decide)) rfl (by decide) (by decide) (Nat.le_of_ble_eq_true rfl) dL_adds_95 (fun v9 S9 V9 u9 => ?_) (fun E S9 V9 h9 => h9.elim)
  obtain ⟨q, hq, rfl, rfl, rfl⟩ := u9
  refine R_istore_9 rfl (by decide) dL_adds_98 ?_
  exact ad3 hC hQ aa hn hz0 ho ht hh hz hq
set_option maxHeartbeats 4000000 in
theorem ad1 {V0 : aV} {v : Int32} {o t : Nat} {a6 a7 a8 a9 : Option Value} (hC : CSt V0 [] lT lTo ent n mt po b st pa nr rt rr pd kn kl) (hQ : LQ V0 n nr b st pa rt rr pd) (aa : AA V0 n ent) (hn : n < 9) (hz0 : po n = 0) (ho : oneOK o) (ht : twoOK t) : R mL_adds 8 6 36 (AdP V0 ent n mt po b st pa nr rt rr pd kn kl) aNo 6 36 48 [some (.ref 0), some (.ref 504), some (.ref 505), some (.int v), some (.int (nI n)), some (.int (nI o)), a6, a7, a8, a9] [.int (nI t)] Sh V0 := by
  refine R_istore_6 rfl (by decide) dL_adds_48 ?_
  refine R_iload_3 dL_adds_50 ?_
  refine R_bipush (v := 6) dL_adds_51 (by decide) ?_
  refine R_ishr dL_adds_53 ?_
  refine R_iconst (v := 3) dL_adds_54 (by decide) ?_
  refine R_callS (T := mL_adds) (T' := mL_low) (As := [_, _]) (mc' := 0) (ms' := 0) okL_low mlL_36 rfl (ct_low (n := 3) _ (by decide) (by decide)) rfl (by decide) (by decide) (Nat.le_of_ble_eq_true rfl) dL_adds_55 (fun v9 S9 V9 u9 => ?_) (fun E S9 V9 h9 => h9.elim)
  obtain ⟨j, hj, rfl, rfl, rfl⟩ := u9
  refine R_if_ne 74 dL_adds_58 (by decide) (fun c58 => ?_) (fun c58 => ?_)
  · refine R_bipush (v := 7) dL_adds_74 (by decide) ?_
    first
      | exact ad2 hC hQ aa hn hz0 ho ht hh
      | exact ad2 (h := 7) hC hQ aa hn hz0 ho ht (by decide)
  · refine R_iload_3 dL_adds_61 ?_
    refine R_bipush (v := 8) dL_adds_62 (by decide) ?_
    refine R_ishr dL_adds_64 ?_
    refine R_sipush (v := 1000) dL_adds_65 (by decide) ?_
    refine R_callS (T := mL_adds) (T' := mL_low) (As := [_, _]) (mc' := 0) (ms' := 0) okL_low mlL_36 rfl (ct_low (n := 1000) _ (by decide) (by decide)) rfl (by decide) (by decide) (Nat.le_of_ble_eq_true rfl) dL_adds_68 (fun v9 S9 V9 u9 => ?_) (fun E S9 V9 h9 => h9.elim)
    obtain ⟨h, hh, rfl, rfl, rfl⟩ := u9
    refine R_goto 76 dL_adds_71 (by decide) ?_
    first
      | exact ad2 hC hQ aa hn hz0 ho ht hh
      | exact ad2 (h := 7) hC hQ aa hn hz0 ho ht (by decide)
set_option maxHeartbeats 4000000 in
theorem ct_adds {V0 : aV} (v : Int32) (hC : CSt V0 [] lT lTo ent n mt po b st pa nr rt rr pd kn kl) (hQ : LQ V0 n nr b st pa rt rr pd) (aa : AA V0 n ent) (hn : n < 9) (hz0 : po n = 0) : CT mL_adds 8 6 36 [.ref 0, .ref 504, .ref 505, .int v] Sh V0 (AdP V0 ent n mt po b st pa nr rt rr pd kn kl) aNo := by
  refine CT_of (by decide +kernel) (Nat.le_of_ble_eq_true rfl) ?_
  show R _ _ _ _ _ _ _ _ 0 [some (.ref 0), some (.ref 504), some (.ref 505), some (.int v), none, none, none, none, none, none] [] _ _
  refine R_aload_1 dL_adds_0 ?_
  refine R_iconst (v := 0) dL_adds_1 (by decide) ?_
  refine R_iald dL_adds_2 sh_504 (vp_in_nI (n := 0) (by decide) (by decide)) rfl hQ.1 ?_
  refine R_istore_4 rfl (by decide) dL_adds_3 ?_
  refine R_bipush (v := 97) dL_adds_5 (by decide) ?_
  refine R_iload_3 dL_adds_7 ?_
  refine R_iconst (v := 3) dL_adds_8 (by decide) ?_
  refine R_callS (T := mL_adds) (T' := mL_low) (As := [_, _]) (mc' := 0) (ms' := 0) okL_low mlL_36 rfl (ct_low (n := 3) _ (by decide) (by decide)) rfl (by decide) (by decide) (Nat.le_of_ble_eq_true rfl) dL_adds_9 (fun v9 S9 V9 u9 => ?_) (fun E S9 V9 h9 => h9.elim)
  obtain ⟨i1, hi1, rfl, rfl, rfl⟩ := u9
  refine R_iadd dL_adds_12 ?_
  rw [show (97 : Int32) + nI i1 = nI (97 + i1) from nI_add 97 i1]
  refine R_istore_5 rfl (by decide) dL_adds_13 ?_
  refine R_iload_3 dL_adds_15 ?_
  refine R_iconst (v := 2) dL_adds_16 (by decide) ?_
  refine R_ishr dL_adds_17 ?_
  refine R_iconst (v := 4) dL_adds_18 (by decide) ?_
  refine R_callS (T := mL_adds) (T' := mL_low) (As := [_, _]) (mc' := 0) (ms' := 0) okL_low mlL_36 rfl (ct_low (n := 4) _ (by decide) (by decide)) rfl (by decide) (by decide) (Nat.le_of_ble_eq_true rfl) dL_adds_19 (fun v9 S9 V9 u9 => ?_) (fun E S9 V9 h9 => h9.elim)
  obtain ⟨i2, hi2, rfl, rfl, rfl⟩ := u9
  refine R_if_ne 38 dL_adds_22 (by decide) (fun c22 => ?_) (fun c22 => ?_)
  · refine R_bipush (v := 97) dL_adds_38 (by decide) ?_
    refine R_iload_3 dL_adds_40 ?_
    refine R_iconst (v := 4) dL_adds_41 (by decide) ?_
    refine R_ishr dL_adds_42 ?_
    refine R_iconst (v := 3) dL_adds_43 (by decide) ?_
    refine R_callS (T := mL_adds) (T' := mL_low) (As := [_, _]) (mc' := 0) (ms' := 0) okL_low mlL_36 rfl (ct_low (n := 3) _ (by decide) (by decide)) rfl (by decide) (by decide) (Nat.le_of_ble_eq_true rfl) dL_adds_44 (fun v9 S9 V9 u9 => ?_) (fun E S9 V9 h9 => h9.elim)
    obtain ⟨i3, hi3, rfl, rfl, rfl⟩ := u9
    refine R_iadd dL_adds_47 ?_
    first
      | exact ad1 hC hQ aa hn hz0 (oneOK_of hi1) (twoOK_b hi3)
      | (rw [show (97 : Int32) + nI i3 = nI (97 + i3) from nI_add 97 i3]
         exact ad1 hC hQ aa hn hz0 (oneOK_of hi1) (twoOK_a hi3))
  · refine R_bipush (v := 65) dL_adds_25 (by decide) ?_
    refine R_iload_3 dL_adds_27 ?_
    refine R_iconst (v := 4) dL_adds_28 (by decide) ?_
    refine R_ishr dL_adds_29 ?_
    refine R_iconst (v := 3) dL_adds_30 (by decide) ?_
    refine R_callS (T := mL_adds) (T' := mL_low) (As := [_, _]) (mc' := 0) (ms' := 0) okL_low mlL_36 rfl (ct_low (n := 3) _ (by decide) (by decide)) rfl (by decide) (by decide) (Nat.le_of_ble_eq_true rfl) dL_adds_31 (fun v9 S9 V9 u9 => ?_) (fun E S9 V9 h9 => h9.elim)
    obtain ⟨i3, hi3, rfl, rfl, rfl⟩ := u9
    refine R_iadd dL_adds_34 ?_
    rw [show (65 : Int32) + nI i3 = nI (65 + i3) from nI_add 65 i3]
    refine R_goto 48 dL_adds_35 (by decide) ?_
    first
      | exact ad1 hC hQ aa hn hz0 (oneOK_of hi1) (twoOK_b hi3)
      | (rw [show (97 : Int32) + nI i3 = nI (97 + i3) from nI_add 97 i3]
         exact ad1 hC hQ aa hn hz0 (oneOK_of hi1) (twoOK_a hi3))

theorem lT_eq : upN (upN (upN (fun _ => []) 0 tp0) 1 tp1) 2 tp2 = lT := by
  funext k
  unfold lT upN
  by_cases h0 : k = 0
  · subst h0; rfl
  · by_cases h1 : k = 1
    · subst h1; rfl
    · by_cases h2 : k = 2
      · subst h2; rfl
      · rw [if_neg h2, if_neg h1, if_neg h0, if_neg h0, if_neg h1, if_neg h2]
theorem lTo_eq : upN (upN (upN (fun _ => false) 0 true) 1 true) 2 true = lTo := by
  funext k
  unfold lTo upN
  by_cases h0 : k = 0
  · subst h0; rfl
  · by_cases h1 : k = 1
    · subst h1; rfl
    · by_cases h2 : k = 2
      · subst h2; rfl
      · rw [if_neg h2, if_neg h1, if_neg h0]
        exact (decide_eq_false (by omega)).symm
set_option maxHeartbeats 4000000 in
theorem ct_templates {V : aV} (h0 : CSt V [] (fun _ => []) (fun _ => false) ent n mt po b st pa nr rt rr pd kn kl) : CT mL_templates 10 11 66 [.ref 0] Sh V (fun v S' V' => some (.int 1) = v ∧ Sh = S' ∧ CSt V' [] lT lTo ent n mt po b st pa nr rt rr pd kn kl ∧ FrX V V') aNo := by
  refine CT_of (by decide +kernel) (Nat.le_of_ble_eq_true rfl) ?_
  show R _ _ _ _ _ _ _ _ 0 [some (.ref 0), none] [] _ _
  refine R_aload_0 dL_templates_0 ?_
  refine R_ldc2 dL_templates_1 cwL_117 ?_
  refine R_callV (T := mL_templates) (T' := mX11_type) (As := [_]) (mc' := 1) (ms' := 6) (ci := 11) okX11_type mlL_26 rfl (by decide) sh_0 (ty_1 (x := 4196918605268282940) h0 (tyT0.1) (by simp only [List.length_append, List.length_cons, List.length_nil]; omega)) rfl (by decide) (by decide) (Nat.le_of_ble_eq_true rfl) dL_templates_4 (fun v9 S9 V9 u9 => ?_) (fun E S9 V9 h9 => h9.elim)
  obtain ⟨⟨y1, rfl⟩, rfl, h1, f1⟩ := u9
  refine R_pop dL_templates_7 rfl ?_
  refine R_aload_0 dL_templates_8 ?_
  refine R_ldc2 dL_templates_9 cwL_119 ?_
  refine R_callV (T := mL_templates) (T' := mX11_type) (As := [_]) (mc' := 1) (ms' := 6) (ci := 11) okX11_type mlL_26 rfl (by decide) sh_0 (ty_1 (x := 4196926301849675836) h1 (tyT0.2.1) (by simp only [List.length_append, List.length_cons, List.length_nil]; omega)) rfl (by decide) (by decide) (Nat.le_of_ble_eq_true rfl) dL_templates_12 (fun v9 S9 V9 u9 => ?_) (fun E S9 V9 h9 => h9.elim)
  obtain ⟨⟨y2, rfl⟩, rfl, h2, f2⟩ := u9
  refine R_pop dL_templates_15 rfl ?_
  refine R_aload_0 dL_templates_16 ?_
  refine R_ldc2 dL_templates_17 cwL_121 ?_
  refine R_callV (T := mL_templates) (T' := mX11_type) (As := [_]) (mc' := 1) (ms' := 6) (ci := 11) okX11_type mlL_26 rfl (by decide) sh_0 (ty_1 (x := 17571553998696508) h2 (tyT0.2.2) (by simp only [List.length_append, List.length_cons, List.length_nil]; omega)) rfl (by decide) (by decide) (Nat.le_of_ble_eq_true rfl) dL_templates_20 (fun v9 S9 V9 u9 => ?_) (fun E S9 V9 h9 => h9.elim)
  obtain ⟨⟨y3, rfl⟩, rfl, h3, f3⟩ := u9
  refine R_pop dL_templates_23 rfl ?_
  refine R_aload_0 dL_templates_24 ?_
  refine R_iconst (v := 0) dL_templates_25 (by decide) ?_
  refine R_callV (T := mL_templates) (T' := mX11_template) (As := [_]) (mc' := 1) (ms' := 6) (ci := 11) okX11_template mlL_123 rfl (by decide) sh_0 (lc_template (h3.l (show _ = tp0 from rfl)) (a := 0) (by decide) (okT_of tp0_ok).1) rfl (by decide) (by decide) (Nat.le_of_ble_eq_true rfl) dL_templates_26 (fun v9 S9 V9 u9 => ?_) (fun E S9 V9 h9 => h9.elim)
  obtain ⟨rfl, rfl, h4, f4⟩ := u9
  refine R_bipush (v := 23) dL_templates_29 (by decide) ?_
  refine R_icmp_ne 38 dL_templates_31 (by decide) (fun c31 => absurd rfl c31) (fun c31 => ?_)
  refine R_iconst (v := 1) dL_templates_34 (by decide) ?_
  refine R_goto 39 dL_templates_35 (by decide) ?_
  refine R_istore_1 rfl (by decide) dL_templates_39 ?_
  refine R_aload_0 dL_templates_40 ?_
  refine R_ldc2 dL_templates_41 cwL_126 ?_
  refine R_callV (T := mL_templates) (T' := mX11_type) (As := [_]) (mc' := 1) (ms' := 6) (ci := 11) okX11_type mlL_26 rfl (by decide) sh_0 (ty_1 (x := 8948723099738402139) h4 (tyT1.1) (by simp only [List.length_append, List.length_cons, List.length_nil]; omega)) rfl (by decide) (by decide) (Nat.le_of_ble_eq_true rfl) dL_templates_44 (fun v9 S9 V9 u9 => ?_) (fun E S9 V9 h9 => h9.elim)
  obtain ⟨⟨y5, rfl⟩, rfl, h5, f5⟩ := u9
  refine R_pop dL_templates_47 rfl ?_
  refine R_aload_0 dL_templates_48 ?_
  refine R_ldc2 dL_templates_49 cwL_128 ?_
  refine R_callV (T := mL_templates) (T' := mX11_type) (As := [_]) (mc' := 1) (ms' := 6) (ci := 11) okX11_type mlL_26 rfl (by decide) sh_0 (ty_1 (x := 4346043116763902043) h5 (tyT1.2.1) (by simp only [List.length_append, List.length_cons, List.length_nil]; omega)) rfl (by decide) (by decide) (Nat.le_of_ble_eq_true rfl) dL_templates_52 (fun v9 S9 V9 u9 => ?_) (fun E S9 V9 h9 => h9.elim)
  obtain ⟨⟨y6, rfl⟩, rfl, h6, f6⟩ := u9
  refine R_pop dL_templates_55 rfl ?_
  refine R_aload_0 dL_templates_56 ?_
  refine R_ldc2 dL_templates_57 cwL_130 ?_
  refine R_callV (T := mL_templates) (T' := mX11_type) (As := [_]) (mc' := 1) (ms' := 6) (ci := 11) okX11_type mlL_26 rfl (by decide) sh_0 (ty_1 (x := 6718922302206787184) h6 (tyT1.2.2.1) (by simp only [List.length_append, List.length_cons, List.length_nil]; omega)) rfl (by decide) (by decide) (Nat.le_of_ble_eq_true rfl) dL_templates_60 (fun v9 S9 V9 u9 => ?_) (fun E S9 V9 h9 => h9.elim)
  obtain ⟨⟨y7, rfl⟩, rfl, h7, f7⟩ := u9
  refine R_pop dL_templates_63 rfl ?_
  refine R_aload_0 dL_templates_64 ?_
  refine R_ldc2 dL_templates_65 cwL_132 ?_
  refine R_callV (T := mL_templates) (T' := mX11_type) (As := [_]) (mc' := 1) (ms' := 6) (ci := 11) okX11_type mlL_26 rfl (by decide) sh_0 (ty_1 (x := 11869) h7 (tyT1.2.2.2) (by simp only [List.length_append, List.length_cons, List.length_nil]; omega)) rfl (by decide) (by decide) (Nat.le_of_ble_eq_true rfl) dL_templates_68 (fun v9 S9 V9 u9 => ?_) (fun E S9 V9 h9 => h9.elim)
  obtain ⟨⟨y8, rfl⟩, rfl, h8, f8⟩ := u9
  refine R_pop dL_templates_71 rfl ?_
  refine R_iload_1 dL_templates_72 ?_
  refine R_if_eq 90 dL_templates_73 (by decide) (fun c73 => absurd c73 (by decide)) (fun c73 => ?_)
  refine R_aload_0 dL_templates_76 ?_
  refine R_iconst (v := 1) dL_templates_77 (by decide) ?_
  refine R_callV (T := mL_templates) (T' := mX11_template) (As := [_]) (mc' := 1) (ms' := 6) (ci := 11) okX11_template mlL_123 rfl (by decide) sh_0 (lc_template (h8.l (show _ = tp1 from rfl)) (a := 1) (by decide) (okT_of tp1_ok).1) rfl (by decide) (by decide) (Nat.le_of_ble_eq_true rfl) dL_templates_78 (fun v9 S9 V9 u9 => ?_) (fun E S9 V9 h9 => h9.elim)
  obtain ⟨rfl, rfl, h9, f9⟩ := u9
  refine R_bipush (v := 26) dL_templates_81 (by decide) ?_
  refine R_icmp_ne 90 dL_templates_83 (by decide) (fun c83 => absurd rfl c83) (fun c83 => ?_)
  refine R_iconst (v := 1) dL_templates_86 (by decide) ?_
  refine R_goto 91 dL_templates_87 (by decide) ?_
  refine R_istore_1 rfl (by decide) dL_templates_91 ?_
  refine R_aload_0 dL_templates_92 ?_
  refine R_ldc2 dL_templates_93 cwL_134 ?_
  refine R_callV (T := mL_templates) (T' := mX11_type) (As := [_]) (mc' := 1) (ms' := 6) (ci := 11) okX11_type mlL_26 rfl (by decide) sh_0 (ty_1 (x := 826290496) h9 (tyT2) (by simp only [List.length_append, List.length_cons, List.length_nil]; omega)) rfl (by decide) (by decide) (Nat.le_of_ble_eq_true rfl) dL_templates_96 (fun v9 S9 V9 u9 => ?_) (fun E S9 V9 h9 => h9.elim)
  obtain ⟨⟨y10, rfl⟩, rfl, h10, f10⟩ := u9
  refine R_pop dL_templates_99 rfl ?_
  refine R_iload_1 dL_templates_100 ?_
  refine R_if_eq 117 dL_templates_101 (by decide) (fun c101 => absurd c101 (by decide)) (fun c101 => ?_)
  refine R_aload_0 dL_templates_104 ?_
  refine R_iconst (v := 2) dL_templates_105 (by decide) ?_
  refine R_callV (T := mL_templates) (T' := mX11_template) (As := [_]) (mc' := 1) (ms' := 6) (ci := 11) okX11_template mlL_123 rfl (by decide) sh_0 (lc_template (h10.l (show _ = tp2 from rfl)) (a := 2) (by decide) (okT_of tp2_ok).1) rfl (by decide) (by decide) (Nat.le_of_ble_eq_true rfl) dL_templates_106 (fun v9 S9 V9 u9 => ?_) (fun E S9 V9 h9 => h9.elim)
  obtain ⟨rfl, rfl, h11, f11⟩ := u9
  refine R_iconst (v := 4) dL_templates_109 (by decide) ?_
  refine R_icmp_ne 117 dL_templates_110 (by decide) (fun c110 => absurd rfl c110) (fun c110 => ?_)
  refine R_iconst (v := 1) dL_templates_113 (by decide) ?_
  refine R_goto 118 dL_templates_114 (by decide) ?_
  refine R_zret rfl (by first | rfl | assumption) dL_templates_118 ⟨rfl, rfl, by rw [← lT_eq, ← lTo_eq]; exact h11, fun b hb => (f11 b hb).trans ((f10 b hb).trans ((f9 b hb).trans ((f8 b hb).trans ((f7 b hb).trans ((f6 b hb).trans ((f5 b hb).trans ((f4 b hb).trans ((f3 b hb).trans ((f2 b hb).trans (f1 b hb))))))))))⟩

end ADD
