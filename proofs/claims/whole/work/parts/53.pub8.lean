/-! ===== MergePost: pairs ===== -/
def lst (h : Nat) : UInt32 := FP.fdiv (FP.i2f (nI h)) 1120403456
theorem lst_tab : ((List.range 101).all fun h => n32b (lst h)) = true := by decide +kernel
theorem lst_ok {h : Nat} (hh : h ≤ 100) : vf_n32 (FP.fdiv (FP.i2f (nI h)) 1120403456) := n32_of (List.all_eq_true.1 lst_tab h (List.mem_range.2 (by omega)))
/-- as like as that -/
abbrev geL (u : UInt32) (x y : Ent) : Prop := ¬ Op.cmpValue (FP.fcmp (lkV x y) u) .l < 0
noncomputable def prI (u : UInt32) (ent : Nat → Ent) (j : Nat) : Nat → Nat
  | 0 => 0
  | i + 1 => prI u ent j i + if geL u (ent i) (ent j) then 1 else 0
noncomputable def prs (u : UInt32) (ent : Nat → Ent) : Nat → Nat
  | 0 => 0
  | j + 1 => prs u ent j + prI u ent j j
theorem prI_le {u : UInt32} {ent : Nat → Ent} {j : Nat} : ∀ i, prI u ent j i ≤ i
  | 0 => Nat.le_refl _
  | i + 1 => by
    have := prI_le (u := u) (ent := ent) (j := j) i
    show prI u ent j i + (if _ then 1 else 0) ≤ _
    split <;> omega
theorem prs_le {u : UInt32} {ent : Nat → Ent} : ∀ j, prs u ent j ≤ j * j
  | 0 => Nat.le_refl _
  | j + 1 => by
    have := prs_le (u := u) (ent := ent) j
    have h2 := prI_le (u := u) (ent := ent) (j := j) j
    show prs u ent j + prI u ent j j ≤ _
    rw [Nat.succ_mul, Nat.mul_succ]
    omega
theorem prI_t {u : UInt32} {ent : Nat → Ent} {j i : Nat} (h : geL u (ent i) (ent j)) : prI u ent j (i + 1) = prI u ent j i + 1 := by show _ + (if _ then 1 else 0) = _; rw [if_pos h]
theorem prI_f {u : UInt32} {ent : Nat → Ent} {j i : Nat} (h : ¬ geL u (ent i) (ent j)) : prI u ent j (i + 1) = prI u ent j i := by show _ + (if _ then 1 else 0) = _; rw [if_neg h]; rfl
set_option maxHeartbeats 4000000 in
theorem pr_in {mc ms kc ks : Nat} {V0 : aV} {cnt h : Nat} {u : UInt32} {en : Nat → Nat} {sp : Nat} {ent : Nat → Ent} (hM : MB V0) (hB : BF V0) (hE : BE V0 en sp ent cnt) (h0 : V0 196 0 = .ref 197) {j f : Nat} (hj : j < 12) {Q : Option Value → aS → aV → Prop} {QX : String → aS → aV → Prop} (hK : ∀ V', Fr0 V0 V' 197 → R mX11_pairs 6 mc ms Q QX kc ks 94 [some (.ref 0), some (.int (nI h)), some (.float u), some (.int (nI (f + prI u ent j j))), some (.int (nI j)), none] [] Sh V') : ∀ (m i : Nat) (V : aV), i + m = j → Fr0 V0 V 197 → R mX11_pairs 6 mc ms Q QX kc ks 46 [some (.ref 0), some (.int (nI h)), some (.float u), some (.int (nI (f + prI u ent j i))), some (.int (nI j)), some (.int (nI i))] [] Sh V := by
  intro m
  induction m with
  | zero =>
    intro i V hi hF
    have hi' : i = j := by omega
    subst hi'

    refine R_iload_5 dX11_pairs_46 ?_
    refine R_iload_4 dX11_pairs_48 ?_
    refine R_icmp_ge 94 dX11_pairs_50 (by decide) (fun c50 => ?_) (fun c50 => absurd (Int32.le_refl _) c50)
    refine R_drop_5 ?_
    exact hK V hF
  | succ m ih =>
    intro i V hi hF
    obtain ⟨m0, m1, m2, m3, m4, m5⟩ := id hM
    obtain ⟨f0, f2, f3, f4⟩ := id hB
    have n2 := (congrFun (hF 0 (by decide)) 2).trans m2
    have n3 := (congrFun (hF 0 (by decide)) 3).trans m3
    have g0 := (congrFun (hF 74 (by decide)) 0).trans f0
    have g5 := (congrFun (hF 74 (by decide)) 5).trans hE.2.2.2.1
    have hE1 := hE.f197 hF
    have h01 := (congrFun (hF 196 (by decide)) 0).trans h0
    have b9 : ¬ nI j ≤ nI i := nI_ge (a := i) (b := j) (by omega) (by omega)
    obtain ⟨q1, q2, q3, _⟩ := hE1.1 i (by omega)
    obtain ⟨r1, r2, r3, _⟩ := hE1.1 j hj
    refine R_iload_5 dX11_pairs_46 ?_
    refine R_iload_4 dX11_pairs_48 ?_
    refine R_icmp_ge 94 dX11_pairs_50 (by decide) (fun c50 => absurd c50 b9) (fun c50 => ?_)
    refine R_aload_0 dX11_pairs_53 ?_
    refine gfX11_33 rfl dX11_pairs_54 sh_0 n3 ?_
    refine R_aload_0 dX11_pairs_57 ?_
    refine gfX11_26 rfl dX11_pairs_58 sh_0 n2 ?_
    refine gfX11_121 rfl dX11_pairs_61 sh_74 g0 ?_
    refine R_iload_5 dX11_pairs_64 ?_
    refine R_aald_16 dX11_pairs_66 sh_75 (vp_in_nI (by omega) (by decide)) (nI_clamp (by omega)) q1 ?_
    refine R_aload_0 dX11_pairs_67 ?_
    refine gfX11_26 rfl dX11_pairs_68 sh_0 n2 ?_
    refine gfX11_121 rfl dX11_pairs_71 sh_74 g0 ?_
    refine R_iload_4 dX11_pairs_74 ?_
    refine R_aald_16 dX11_pairs_76 sh_75 (vp_in_nI (by omega) (by decide)) (nI_clamp (by omega)) r1 ?_
    refine R_callVN (T := mX11_pairs) (T' := mX5_likenessOf) (As := [_, _]) (ci := 5) okX5_likenessOf mlX11_139 rfl (by decide) sh_196 (ct_likenessOf h01 q3 r3 q2 r2) rfl (by decide) (by decide) (Nat.le_of_ble_eq_true rfl) dX11_pairs_77 (fun v9 S9 V1 h9 => ?_) (fun E S9 V9 h9 => h9.elim)
    obtain ⟨rfl, rfl, u4⟩ := h9
    have hF1 : Fr0 V0 V1 197 := fun b hb => (u4 b hb).trans (hF b hb)
    refine R_fload_2 dX11_pairs_80 ?_
    refine R_fcmp dX11_pairs_81 ?_
    refine R_if_lt 88 dX11_pairs_82 (by decide) (fun c82 => ?_) (fun c82 => ?_)
    · rw [show f + prI u ent j i = f + prI u ent j (i + 1) by rw [prI_f (not_not_intro c82)]]
      refine R_iinc_5 rfl (by decide) dX11_pairs_88 rfl ?_
      rw [show nI i + Int32.ofInt 1 = nI (i + 1) from nI_1 i]
      refine R_goto 46 dX11_pairs_91 (by decide) ?_
      exact ih (i + 1) V1 (by omega) hF1
    · refine R_iinc_3 rfl (by decide) dX11_pairs_85 rfl ?_
      rw [show nI (f + prI u ent j i) + Int32.ofInt 1 = nI (f + prI u ent j (i + 1)) by rw [prI_t c82, ← Nat.add_assoc]; exact nI_1 _]
      refine R_iinc_5 rfl (by decide) dX11_pairs_88 rfl ?_
      rw [show nI i + Int32.ofInt 1 = nI (i + 1) from nI_1 i]
      refine R_goto 46 dX11_pairs_91 (by decide) ?_
      exact ih (i + 1) V1 (by omega) hF1
set_option maxHeartbeats 4000000 in
theorem pr_out {mc ms kc ks : Nat} {V0 : aV} {cnt h : Nat} {u : UInt32} {en : Nat → Nat} {sp : Nat} {ent : Nat → Ent} (hM : MB V0) (hB : BF V0) (hE : BE V0 en sp ent cnt) (h0 : V0 196 0 = .ref 197) (hc : cnt ≤ 12) {Q : Option Value → aS → aV → Prop} {QX : String → aS → aV → Prop} (hQ : ∀ V', Fr0 V0 V' 197 → Q (some (.int (nI (prs u ent cnt)))) Sh V') : ∀ (m j : Nat) (V : aV), j + m = cnt → Fr0 V0 V 197 → R mX11_pairs 6 mc ms Q QX kc ks 31 [some (.ref 0), some (.int (nI h)), some (.float u), some (.int (nI (prs u ent j))), some (.int (nI j)), none] [] Sh V := by
  intro m
  induction m with
  | zero =>
    intro j V hj hF
    have hj' : j = cnt := by omega
    subst hj'
    obtain ⟨m0, m1, m2, m3, m4, m5⟩ := id hM
    obtain ⟨f0, f2, f3, f4⟩ := id hB
    have n2 := (congrFun (hF 0 (by decide)) 2).trans m2
    have n3 := (congrFun (hF 0 (by decide)) 3).trans m3
    have g0 := (congrFun (hF 74 (by decide)) 0).trans f0
    have g5 := (congrFun (hF 74 (by decide)) 5).trans hE.2.2.2.1
    have hE1 := hE.f197 hF
    have h01 := (congrFun (hF 196 (by decide)) 0).trans h0
    refine R_iload_4 dX11_pairs_31 ?_
    refine R_aload_0 dX11_pairs_33 ?_
    refine gfX11_26 rfl dX11_pairs_34 sh_0 n2 ?_
    refine gfX11_99 rfl dX11_pairs_37 sh_74 g5 ?_
    refine R_icmp_ge 100 dX11_pairs_40 (by decide) (fun c40 => ?_) (fun c40 => absurd (Int32.le_refl _) c40)
    refine R_iload_3 dX11_pairs_100 ?_
    refine R_iret rfl dX11_pairs_101 (hQ V hF)
  | succ m ih =>
    intro j V hj hF
    obtain ⟨m0, m1, m2, m3, m4, m5⟩ := id hM
    obtain ⟨f0, f2, f3, f4⟩ := id hB
    have n2 := (congrFun (hF 0 (by decide)) 2).trans m2
    have n3 := (congrFun (hF 0 (by decide)) 3).trans m3
    have g0 := (congrFun (hF 74 (by decide)) 0).trans f0
    have g5 := (congrFun (hF 74 (by decide)) 5).trans hE.2.2.2.1
    have hE1 := hE.f197 hF
    have h01 := (congrFun (hF 196 (by decide)) 0).trans h0
    have b9 : ¬ nI cnt ≤ nI j := nI_ge (a := j) (b := cnt) (by omega) (by omega)
    refine R_iload_4 dX11_pairs_31 ?_
    refine R_aload_0 dX11_pairs_33 ?_
    refine gfX11_26 rfl dX11_pairs_34 sh_0 n2 ?_
    refine gfX11_99 rfl dX11_pairs_37 sh_74 g5 ?_
    refine R_icmp_ge 100 dX11_pairs_40 (by decide) (fun c40 => absurd c40 b9) (fun c40 => ?_)
    refine R_iconst (v := 0) dX11_pairs_43 (by decide) ?_
    refine R_istore_5 rfl (by decide) dX11_pairs_44 ?_
    refine pr_in (f := prs u ent j) hM hB hE h0 (by omega) (fun V' hF' => ?_) j 0 V (by omega) hF
    refine R_iinc_4 rfl (by decide) dX11_pairs_94 rfl ?_
    rw [show nI j + Int32.ofInt 1 = nI (j + 1) from nI_1 j]
    refine R_goto 31 dX11_pairs_97 (by decide) ?_
    exact ih (j + 1) V' (by omega) hF'
set_option maxHeartbeats 4000000 in
theorem ct_pairs {V : aV} {cnt : Nat} {en : Nat → Nat} {sp : Nat} {ent : Nat → Ent} (hM : MB V) (hB : BF V) (hE : BE V en sp ent cnt) (h0 : V 196 0 = .ref 197) (t : Int32) : CT mX11_pairs 6 1 6 [.ref 0, .int t] Sh V (fun v S' V' => ∃ h, h ≤ 100 ∧ t = nI h ∧ some (.int (nI (prs (lst h) ent cnt))) = v ∧ Sh = S' ∧ Fr0 V V' 197) (fun E S' V' => E = xA ∧ ¬ (¬ t < 0 ∧ t ≤ 100) ∧ Sh = S' ∧ V = V') := by
  refine CT_of (by decide +kernel) (Nat.le_of_ble_eq_true rfl) ?_
  show R _ _ _ _ _ _ _ _ 0 [some (.ref 0), some (.int t), none, none, none, none] [] _ _
  refine R_iload_1 dX11_pairs_0 ?_
  refine R_if_lt 10 dX11_pairs_1 (by decide) (fun c1 => ?_) (fun c1 => ?_)
  · first
      | exact R_throw (T := mX11_pairs) rfl a_fit2 th_a4 clX11_55 th_a5 srX11_147 th_a1 th_a2 th_a3 dX11_pairs_10 dX11_pairs_13 dX11_pairs_14 dX11_pairs_16 dX11_pairs_19 (by decide) (Nat.le_of_ble_eq_true rfl) rfl ⟨rfl, fun z => z.1 c1, rfl, rfl⟩
      | exact R_throw (T := mX11_pairs) rfl a_fit2 th_a4 clX11_55 th_a5 srX11_147 th_a1 th_a2 th_a3 dX11_pairs_10 dX11_pairs_13 dX11_pairs_14 dX11_pairs_16 dX11_pairs_19 (by decide) (Nat.le_of_ble_eq_true rfl) rfl ⟨rfl, fun z => c7 z.2, rfl, rfl⟩
  · refine R_iload_1 dX11_pairs_4 ?_
    refine R_bipush (v := 100) dX11_pairs_5 (by decide) ?_
    refine R_icmp_le 20 dX11_pairs_7 (by decide) (fun c7 => ?_) (fun c7 => ?_)
    · obtain ⟨h, hh, rfl⟩ := nI_of c1
      have h9 := (nI_leI (a := h) (b := 100) hh (by decide)).1 c7
      refine R_iload_1 dX11_pairs_20 ?_
      refine R_i2f dX11_pairs_21 ?_
      refine R_ldcf dX11_pairs_22 cwX11_149 ?_
      refine R_fdiv dX11_pairs_24 (lst_ok h9) ?_
      refine R_fstore_2 rfl (by decide) dX11_pairs_25 ?_
      refine R_iconst (v := 0) dX11_pairs_26 (by decide) ?_
      refine R_istore_3 rfl (by decide) dX11_pairs_27 ?_
      refine R_iconst (v := 0) dX11_pairs_28 (by decide) ?_
      refine R_istore_4 rfl (by decide) dX11_pairs_29 ?_
      exact pr_out (u := lst h) (h := h) hM hB hE h0 hE.2.2.2.2 (fun V' hF => ⟨h, h9, rfl, rfl, rfl, hF⟩) cnt 0 V (by omega) (fun _ _ => rfl)
    · first
        | exact R_throw (T := mX11_pairs) rfl a_fit2 th_a4 clX11_55 th_a5 srX11_147 th_a1 th_a2 th_a3 dX11_pairs_10 dX11_pairs_13 dX11_pairs_14 dX11_pairs_16 dX11_pairs_19 (by decide) (Nat.le_of_ble_eq_true rfl) rfl ⟨rfl, fun z => z.1 c1, rfl, rfl⟩
        | exact R_throw (T := mX11_pairs) rfl a_fit2 th_a4 clX11_55 th_a5 srX11_147 th_a1 th_a2 th_a3 dX11_pairs_10 dX11_pairs_13 dX11_pairs_14 dX11_pairs_16 dX11_pairs_19 (by decide) (Nat.le_of_ble_eq_true rfl) rfl ⟨rfl, fun z => c7 z.2, rfl, rfl⟩

