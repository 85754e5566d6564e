/-! ===== MergePost: type, run ===== -/
theorem cSg_or (x : Int64) : ∀ m j c, j + m = 8 → cSg x m j c = -1 ∨ ∃ n, c ≤ n ∧ n ≤ c + m ∧ cSg x m j c = nI n
  | 0, j, c, _ => Or.inr ⟨c, Nat.le_refl _, Nat.le_refl _, rfl⟩
  | m + 1, j, c, hj => by
    by_cases h1 : sgc x (nI j) = 0
    · rw [show cSg x (m + 1) j c = cSg x m (j + 1) c from if_pos h1]
      rcases cSg_or x m (j + 1) c (by omega) with h | ⟨n, h1, h2, h3⟩
      · exact Or.inl h
      · exact Or.inr ⟨n, h1, by omega, h3⟩
    · by_cases h2 : sgc x (nI j) < 32 ∨ 126 < sgc x (nI j) ∨ c < j
      · exact Or.inl ((if_neg h1).trans (if_pos h2))
      · rw [show cSg x (m + 1) j c = cSg x m (j + 1) (c + 1) from (if_neg h1).trans (if_neg h2)]
        rcases cSg_or x m (j + 1) (c + 1) (by omega) with h | ⟨n, h1, h2, h3⟩
        · exact Or.inl h
        · exact Or.inr ⟨n, by omega, by omega, h3⟩
/-- the signs of a long, the first c -/
def tySg (x : Int64) (c : Nat) : List Int32 := (List.range c).map fun k => sgc x (nI k)
theorem tySg_len (x : Int64) (c : Nat) : (tySg x c).length = c := by simp [tySg]
theorem tySg_s (x : Int64) (c : Nat) : tySg x (c + 1) = tySg x c ++ [sgc x (nI c)] := by simp [tySg, List.range_succ]
theorem m1_ne {n : Nat} (h : n < 2 ^ 31) : ¬ nI n = -1 := fun e => nI_pos h (by rw [e]; decide)
set_option maxHeartbeats 4000000 in
theorem ty_loop {mc ms kc ks : Nat} {V0 : aV} {x : Int64} {L : List Int32} {c : Nat} (hM : MB V0) (h1 : V0 1 0 = .ref 2) (hc : L.length + c ≤ 96) {Q : Option Value → aS → aV → Prop} {QX : String → aS → aV → Prop} (hQ : ∀ V', SL Sh V' 2 96 (L ++ tySg x c) → Fr1 V0 V' 2 → Q (some (.int (nI (L.length + c)))) Sh V') : ∀ (m j : Nat) (V : aV), j + m = c → SL Sh V 2 96 (L ++ tySg x j) → Fr1 V0 V 2 → R mX11_type 6 mc ms Q QX kc ks 50 [some (.ref 0), some (.long x), none, some (.int (nI c)), some (.int (nI j))] [] Sh V := by
  have m0 := hM.1
  intro m
  induction m with
  | zero =>
    intro j V hj hS hF
    have hj' : j = c := by omega
    subst hj'
    have n0 := (congrFun (hF 0 (by decide) (by decide)) 0).trans m0
    have n1 := (congrFun (hF 1 (by decide) (by decide)) 0).trans h1
    have n2 : V 2 1 = .int (nI (L.length + j)) := by rw [← tySg_len x j, ← List.length_append]; exact hS.len1
    refine R_iload_4 dX11_type_50 ?_
    refine R_iload_3 dX11_type_52 ?_
    refine R_icmp_ge 78 dX11_type_53 (by decide) (fun c53 => ?_) (fun c53 => absurd (Int32.le_refl _) c53)
    refine R_aload_0 dX11_type_78 ?_
    refine gfX11_12 rfl dX11_type_79 sh_0 n0 ?_
    refine gfX11_62 rfl dX11_type_82 sh_1 n1 ?_
    refine gfX11_66 rfl dX11_type_85 sh_2 n2 ?_
    refine R_iret rfl dX11_type_88 (hQ V hS hF)
  | succ m ih =>
    intro j V hj hS hF
    have n0 := (congrFun (hF 0 (by decide) (by decide)) 0).trans m0
    have n1 := (congrFun (hF 1 (by decide) (by decide)) 0).trans h1
    have b9 : ¬ nI c ≤ nI j := nI_ge (a := j) (b := c) (by omega) (by omega)
    have hl : (L ++ tySg x j).length < 96 := by rw [List.length_append, tySg_len]; omega
    refine R_iload_4 dX11_type_50 ?_
    refine R_iload_3 dX11_type_52 ?_
    refine R_icmp_ge 78 dX11_type_53 (by decide) (fun c53 => absurd c53 b9) (fun c53 => ?_)
    refine R_aload_0 dX11_type_56 ?_
    refine gfX11_12 rfl dX11_type_57 sh_0 n0 ?_
    refine gfX11_62 rfl dX11_type_60 sh_1 n1 ?_
    refine R_lload_1 dX11_type_63 ?_
    refine R_iload_4 dX11_type_64 ?_
    refine R_callS_e (T := mX11_type) (T' := mX11_signOf) (As := [_, _]) okX11_signOf mlX11_77 rfl (ct_signOf x (nI j)) rfl (by decide) (by decide) (Nat.le_of_ble_eq_true rfl) dX11_type_66 ?_
    refine R_callVN (T := mX11_type) (T' := mX9_add) (As := [_]) (ci := 9) okX9_add mlX11_81 rfl (by decide) sh_2 (ct_addL hS (sgc x (nI j)) (sgc_chr x (nI j)) hl) rfl (by decide) (by decide) (Nat.le_of_ble_eq_true rfl) dX11_type_69 (fun v9 S9 V1 h9 => ?_) (fun E S9 V9 h9 => h9.elim)
    obtain ⟨rfl, rfl, u3, u4⟩ := h9
    rw [List.append_assoc, ← tySg_s] at u3
    refine R_iinc_4 rfl (by decide) dX11_type_72 rfl ?_
    rw [show nI j + Int32.ofInt 1 = nI (j + 1) from nI_1 j]
    refine R_goto 50 dX11_type_75 (by decide) ?_
    exact ih (j + 1) V1 (by omega) u3 (hF.trans u4)
set_option maxHeartbeats 4000000 in
theorem ct_type {V : aV} {L : List Int32} (hM : MB V) (hl : LI V L) (x : Int64) : CT mX11_type 6 1 6 [.ref 0, .long x] Sh V (fun v S' V' => ∃ c, c ≤ 8 ∧ cSg x 8 0 0 = nI c ∧ L.length + c ≤ 96 ∧ some (.int (nI (L.length + c))) = v ∧ Sh = S' ∧ SL Sh V' 2 96 (L ++ tySg x c) ∧ Fr1 V V' 2) (fun E S' V' => Sh = S' ∧ V = V' ∧ ((E = xA ∧ cSg x 8 0 0 = -1) ∨ (E = xS ∧ ∃ c, c ≤ 8 ∧ cSg x 8 0 0 = nI c ∧ 96 < L.length + c))) := by
  refine CT_of (by decide +kernel) (Nat.le_of_ble_eq_true rfl) ?_
  show R _ _ _ _ _ _ _ _ 0 [some (.ref 0), some (.long x), none, none, none] [] _ _
  have m0 := hM.1
  obtain ⟨l1, l2⟩ := hl
  have n2 : V 2 1 = .int (nI L.length) := l2.len1
  have n3 := l2.len
  refine R_lload_1 dX11_type_0 ?_
  refine R_callS_e (T := mX11_type) (T' := mX11_countSigns) (As := [_]) okX11_countSigns mlX11_51 rfl (ct_countSigns x) rfl (by decide) (by decide) (Nat.le_of_ble_eq_true rfl) dX11_type_1 ?_
  refine R_istore_3 rfl (by decide) dX11_type_4 ?_
  refine R_iload_3 dX11_type_5 ?_
  refine R_iconst (v := -1) dX11_type_6 (by decide) ?_
  refine R_icmp_ne 20 dX11_type_7 (by decide) (fun c7 => ?_) (fun c7 => ?_)
  · obtain ⟨c, -, h8, e⟩ := (cSg_or x 8 0 0 rfl).resolve_left c7
    refine R_aload_0 dX11_type_20 ?_
    refine gfX11_12 rfl dX11_type_21 sh_0 m0 ?_
    refine gfX11_62 rfl dX11_type_24 sh_1 l1 ?_
    refine gfX11_66 rfl dX11_type_27 sh_2 n2 ?_
    refine R_iload_3 dX11_type_30 ?_
    refine R_iadd dX11_type_31 ?_
    refine R_bipush (v := 96) dX11_type_32 (by decide) ?_
    refine R_icmp_le 47 dX11_type_34 (by decide) (fun c34 => ?_) (fun c34 => ?_)
    · refine R_iconst (v := 0) dX11_type_47 (by decide) ?_
      refine R_istore_4 rfl (by decide) dX11_type_48 ?_
      rw [e]
      have h9 : L.length + c ≤ 96 := (nI_leI (b := 96) (by omega) (by decide)).1 (by have q := c34; rw [e] at q; rw [← nI_add]; exact q)
      exact ty_loop hM l1 h9 (fun V' g1 g2 => ⟨c, h8, rfl, h9, rfl, rfl, g1, g2⟩) c 0 V (by omega) (by simpa [tySg] using l2) Fr1.refl
    · exact R_throw (T := mX11_type) rfl a_fit2 th_s4 clX11_72 th_s5 srX11_74 th_s1 th_s2 th_s3 dX11_type_37 dX11_type_40 dX11_type_41 dX11_type_43 dX11_type_46 (by decide) (Nat.le_of_ble_eq_true rfl) rfl ⟨rfl, rfl, Or.inr ⟨rfl, c, h8, e, Nat.lt_of_not_le (fun q => c34 (by rw [e]; show nI L.length + nI c ≤ nI 96; rw [nI_add]; exact nI_le q (by decide)))⟩⟩
  · exact R_throw (T := mX11_type) rfl a_fit2 th_a4 clX11_55 th_a5 srX11_57 th_a1 th_a2 th_a3 dX11_type_10 dX11_type_13 dX11_type_14 dX11_type_16 dX11_type_19 (by decide) (Nat.le_of_ble_eq_true rfl) rfl ⟨rfl, rfl, Or.inl ⟨rfl, c7⟩⟩

/-- the runs: where they lie, how many letters each keeps, whether it was posted, its template and reason -/
def RB (V : aV) (kn : Nat → Nat) (pd : Nat → Bool) (rt rr : Nat → Nat) : Prop := ∀ i, i < 8 → V 199 i = .ref (200 + 38 * i) ∧ RN V (200 + 38 * i) (kn i) ∧ V (200 + 38 * i) 4 = .int (bI (pd i = true)) ∧ V (200 + 38 * i) 2 = .int (nI (rt i)) ∧ V (200 + 38 * i) 3 = .int (nI (rr i)) ∧ rt i < 8 ∧ rr i < 8
set_option maxHeartbeats 4000000 in
theorem ct_run {V : aV} {n : Nat} {kn : Nat → Nat} {pd : Nat → Bool} {rt rr : Nat → Nat} (hM : MB V) (h6 : V 0 6 = .int (nI n)) (hn : n ≤ 8) (hR : RB V kn pd rt rr) (t u : Int32) : CT mX11_run 7 2 12 [.ref 0, .int t, .int u] Sh V (fun v S' V' => ∃ a b, a < 8 ∧ b < 8 ∧ n < 8 ∧ t = nI a ∧ u = nI b ∧ some (.int (nI n)) = v ∧ Sh = S' ∧ a_up (a_up (a_up V (200 + 38 * n) 2 (.int (nI a))) (200 + 38 * n) 3 (.int (nI b))) 0 6 (.int (nI (n + 1))) = V') (fun E S' V' => Sh = S' ∧ V = V' ∧ ((E = xI ∧ ¬ (¬ t < 0 ∧ t < 8)) ∨ ((¬ t < 0 ∧ t < 8) ∧ ((E = xA ∧ ¬ (¬ u < 0 ∧ u < 8)) ∨ (E = xS ∧ (¬ u < 0 ∧ u < 8) ∧ 8 ≤ n))))) := by
  refine CT_of (by decide +kernel) (Nat.le_of_ble_eq_true rfl) ?_
  show R _ _ _ _ _ _ _ _ 0 [some (.ref 0), some (.int t), some (.int u)] [] _ _
  have m5 := hM.2.2.2.2.2
  refine R_aload_0 dX11_run_0 ?_
  refine R_iload_1 dX11_run_1 ?_
  refine R_callV (T := mX11_run) (T' := mX11_checkTemplate) (As := [_]) (ci := 11) okX11_checkTemplate mlX11_85 rfl (by decide) sh_0 (ct_checkTemplate t) rfl (by decide) (by decide) (Nat.le_of_ble_eq_true rfl) dX11_run_2 (fun v9 S9 V9 h9 => ?_) (fun E S9 V9 h9 => ⟨h9.2.2.1, h9.2.2.2, Or.inl ⟨h9.1, h9.2.1⟩⟩)
  obtain ⟨rfl, ⟨t0, t8⟩, rfl, rfl⟩ := h9
  refine R_iload_2 dX11_run_5 ?_
  refine R_if_lt 15 dX11_run_6 (by decide) (fun c6 => ?_) (fun c6 => ?_)
  · first
      | exact R_throw (T := mX11_run) rfl a_fit2 th_a4 clX11_55 th_a5 srX11_183 th_a1 th_a2 th_a3 dX11_run_15 dX11_run_18 dX11_run_19 dX11_run_21 dX11_run_24 (by decide) (Nat.le_of_ble_eq_true rfl) rfl ⟨rfl, rfl, Or.inr ⟨⟨t0, t8⟩, Or.inl ⟨rfl, fun z => z.1 c6⟩⟩⟩
      | exact R_throw (T := mX11_run) rfl a_fit2 th_a4 clX11_55 th_a5 srX11_183 th_a1 th_a2 th_a3 dX11_run_15 dX11_run_18 dX11_run_19 dX11_run_21 dX11_run_24 (by decide) (Nat.le_of_ble_eq_true rfl) rfl ⟨rfl, rfl, Or.inr ⟨⟨t0, t8⟩, Or.inl ⟨rfl, fun z => c12 z.2⟩⟩⟩
  · refine R_iload_2 dX11_run_9 ?_
    refine R_bipush (v := 8) dX11_run_10 (by decide) ?_
    refine R_icmp_lt 25 dX11_run_12 (by decide) (fun c12 => ?_) (fun c12 => ?_)
    · refine R_aload_0 dX11_run_25 ?_
      refine gfX11_185 rfl dX11_run_26 sh_0 h6 ?_
      refine R_bipush (v := 8) dX11_run_29 (by decide) ?_
      refine R_icmp_lt 44 dX11_run_31 (by decide) (fun c31 => ?_) (fun c31 => ?_)
      · have n8 : n < 8 := (nI_ltI (b := 8) (by omega) (by decide)).1 c31
        obtain ⟨a, ha, rfl⟩ := nI_of t0
        obtain ⟨b, hb, rfl⟩ := nI_of c6
        have a8 := (nI_ltI (b := 8) ha (by decide)).1 t8
        have b8 := (nI_ltI (b := 8) hb (by decide)).1 c12
        obtain ⟨r1, r2, -⟩ := hR n n8
        have r3 := r2.1
        refine R_aload_0 dX11_run_44 ?_
        refine gfX11_46 rfl dX11_run_45 sh_0 m5 ?_
        refine R_aload_0 dX11_run_48 ?_
        refine gfX11_185 rfl dX11_run_49 sh_0 h6 ?_
        refine R_aald_18 dX11_run_52 sh_199 (vp_in_nI (by omega) (by decide)) (nI_clamp (by omega)) r1 ?_
        refine R_iload_1 dX11_run_53 ?_
        refine pfX11_190 rfl dX11_run_54 r3 ?_
        refine R_aload_0 dX11_run_57 ?_
        refine gfX11_46 rfl dX11_run_58 sh_0 ((a_up_ne (Or.inl (by omega))).trans m5) ?_
        refine R_aload_0 dX11_run_61 ?_
        refine gfX11_185 rfl dX11_run_62 sh_0 ((a_up_ne (Or.inl (by omega))).trans h6) ?_
        refine R_aald_18 dX11_run_65 sh_199 (vp_in_nI (by omega) (by decide)) (nI_clamp (by omega)) ((a_up_ne (Or.inl (by omega))).trans r1) ?_
        refine R_iload_2 dX11_run_66 ?_
        refine pfX11_193 rfl dX11_run_67 r3 ?_
        refine R_aload_0 dX11_run_70 ?_
        refine R_dup dX11_run_71 rfl ?_
        refine gfX11_185 rfl dX11_run_72 sh_0 ((a_up_ne (Or.inl (by omega))).trans ((a_up_ne (Or.inl (by omega))).trans h6)) ?_
        refine R_iconst (v := 1) dX11_run_75 (by decide) ?_
        refine R_iadd dX11_run_76 ?_
        rw [show nI n + 1 = nI (n + 1) from nI_1 n]
        refine pfX11_185 rfl dX11_run_77 sh_0 ?_
        refine R_aload_0 dX11_run_80 ?_
        refine gfX11_185 rfl dX11_run_81 sh_0 (a_up_self _ _ _ _) ?_
        refine R_iconst (v := 1) dX11_run_84 (by decide) ?_
        refine R_isub dX11_run_85 ?_
        rw [show nI (n + 1) - 1 = nI n from nI_pred n]
        refine R_iret rfl dX11_run_86 ⟨a, b, a8, b8, n8, rfl, rfl, rfl, rfl, rfl⟩
      · exact R_throw (T := mX11_run) rfl a_fit2 th_s4 clX11_72 th_s5 srX11_188 th_s1 th_s2 th_s3 dX11_run_34 dX11_run_37 dX11_run_38 dX11_run_40 dX11_run_43 (by decide) (Nat.le_of_ble_eq_true rfl) rfl ⟨rfl, rfl, Or.inr ⟨⟨t0, t8⟩, Or.inr ⟨rfl, ⟨c6, c12⟩, Nat.le_of_not_lt (fun q => c31 (nI_lt (b := 8) q (by decide)))⟩⟩⟩
    · first
        | exact R_throw (T := mX11_run) rfl a_fit2 th_a4 clX11_55 th_a5 srX11_183 th_a1 th_a2 th_a3 dX11_run_15 dX11_run_18 dX11_run_19 dX11_run_21 dX11_run_24 (by decide) (Nat.le_of_ble_eq_true rfl) rfl ⟨rfl, rfl, Or.inr ⟨⟨t0, t8⟩, Or.inl ⟨rfl, fun z => z.1 c6⟩⟩⟩
        | exact R_throw (T := mX11_run) rfl a_fit2 th_a4 clX11_55 th_a5 srX11_183 th_a1 th_a2 th_a3 dX11_run_15 dX11_run_18 dX11_run_19 dX11_run_21 dX11_run_24 (by decide) (Nat.le_of_ble_eq_true rfl) rfl ⟨rfl, rfl, Or.inr ⟨⟨t0, t8⟩, Or.inl ⟨rfl, fun z => c12 z.2⟩⟩⟩

