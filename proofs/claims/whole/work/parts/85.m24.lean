/-! ===== MergePostModel: keep, post, reasons ===== -/
set_option maxHeartbeats 4000000 in
theorem kp_cp {mc ms kc ks : Nat} {V0 : aV} {x : List Int32} {i k g : Nat} (hR0 : MR V0) (hX : TX V0 x) (hi : i < 8) (hk : k < 12) {Q : Option Value → aS → aV → Prop} {QX : String → aS → aV → Prop} (hK : ∀ V', (∀ q, q < x.length → V' 528 (160 * (12 * i + k) + q) = .int (x.getD q 0)) → (∀ q, q < 160 * (12 * i + k) ∨ 160 * (12 * i + k) + 160 ≤ q → V' 528 q = V0 528 q) → Fr0 V0 V' 528 → R mX12_keep 0 mc ms Q QX kc ks 77 [some (.ref 504), some (.int (nI i)), some (.int (nI g)), some (.int (nI (12 * i + k))), some (.int (nI x.length))] [] Sh V') : ∀ (m j : Nat) (V : aV), j + m = x.length → (∀ q, q < j → V 528 (160 * (12 * i + k) + q) = .int (x.getD q 0)) → (∀ q, q < 160 * (12 * i + k) ∨ 160 * (12 * i + k) + 160 ≤ q → V 528 q = V0 528 q) → Fr0 V0 V 528 → R mX12_keep 0 mc ms Q QX kc ks 42 [some (.ref 504), some (.int (nI i)), some (.int (nI g)), some (.int (nI (12 * i + k))), some (.int (nI j))] [] Sh V := by
  have hx := hX.2.2
  intro m
  induction m with
  | zero =>
    intro j V hj hB hO hF
    have hj' : j = x.length := by omega
    subst hj'
    have h32 := (congrFun (hF 504 (by decide)) 32).trans hX.1
    refine R_iload_4 dX12_keep_42 ?_
    refine R_aload_0 dX12_keep_44 ?_
    refine gfX12_239 rfl dX12_keep_45 sh_504 h32 ?_
    refine R_icmp_ge 77 dX12_keep_48 (by decide) (fun c48 => ?_) (fun c48 => absurd (Int32.le_refl _) c48)
    exact hK V hB hO hF
  | succ m ih =>
    intro j V hj hB hO hF
    have hR : MR V := hR0.fr (fun k _ => congrFun (hF 504 (by decide)) k)
    have h32 := (congrFun (hF 504 (by decide)) 32).trans hX.1
    have b9 : ¬ nI x.length ≤ nI j := nI_ge (a := j) (b := x.length) (by omega) (by omega)
    have hv := (congrFun (hF 529 (by decide)) j).trans (hX.2.1 j (by omega))
    refine R_iload_4 dX12_keep_42 ?_
    refine R_aload_0 dX12_keep_44 ?_
    refine gfX12_239 rfl dX12_keep_45 sh_504 h32 ?_
    refine R_icmp_ge 77 dX12_keep_48 (by decide) (fun c48 => absurd c48 b9) (fun c48 => ?_)
    refine R_aload_0 dX12_keep_51 ?_
    refine gfX12_87 rfl dX12_keep_52 sh_504 (by first | exact hR.g (k := 30) (a := 528) (by decide) | exact (a_up_ne (by omega)).trans (hR.g (k := 30) (a := 528) (by decide)) | exact (a_up_ne (by omega)).trans ((a_up_ne (by omega)).trans (hR.g (k := 30) (a := 528) (by decide))) | exact (a_up_ne (by omega)).trans ((a_up_ne (by omega)).trans ((a_up_ne (by omega)).trans (hR.g (k := 30) (a := 528) (by decide)))) | exact (a_up_ne (by omega)).trans ((a_up_ne (by omega)).trans ((a_up_ne (by omega)).trans ((a_up_ne (by omega)).trans (hR.g (k := 30) (a := 528) (by decide))))) | exact (a_up_ne (by omega)).trans ((a_up_ne (by omega)).trans ((a_up_ne (by omega)).trans ((a_up_ne (by omega)).trans ((a_up_ne (by omega)).trans (hR.g (k := 30) (a := 528) (by decide)))))) | exact (a_up_ne (by omega)).trans ((a_up_ne (by omega)).trans ((a_up_ne (by omega)).trans ((a_up_ne (by omega)).trans ((a_up_ne (by omega)).trans ((a_up_ne (by omega)).trans (hR.g (k := 30) (a := 528) (by decide)))))))) ?_
    refine R_sipush (v := 160) dX12_keep_55 (by decide) ?_
    refine R_iload_3 dX12_keep_58 ?_
    refine R_imul dX12_keep_59 ?_
    refine R_iload_4 dX12_keep_60 ?_
    refine R_iadd dX12_keep_62 ?_
    refine R_aload_0 dX12_keep_63 ?_
    refine gfX12_90 rfl dX12_keep_64 sh_504 (by first | exact hR.g (k := 31) (a := 529) (by decide) | exact (a_up_ne (by omega)).trans (hR.g (k := 31) (a := 529) (by decide)) | exact (a_up_ne (by omega)).trans ((a_up_ne (by omega)).trans (hR.g (k := 31) (a := 529) (by decide))) | exact (a_up_ne (by omega)).trans ((a_up_ne (by omega)).trans ((a_up_ne (by omega)).trans (hR.g (k := 31) (a := 529) (by decide)))) | exact (a_up_ne (by omega)).trans ((a_up_ne (by omega)).trans ((a_up_ne (by omega)).trans ((a_up_ne (by omega)).trans (hR.g (k := 31) (a := 529) (by decide))))) | exact (a_up_ne (by omega)).trans ((a_up_ne (by omega)).trans ((a_up_ne (by omega)).trans ((a_up_ne (by omega)).trans ((a_up_ne (by omega)).trans (hR.g (k := 31) (a := 529) (by decide)))))) | exact (a_up_ne (by omega)).trans ((a_up_ne (by omega)).trans ((a_up_ne (by omega)).trans ((a_up_ne (by omega)).trans ((a_up_ne (by omega)).trans ((a_up_ne (by omega)).trans (hR.g (k := 31) (a := 529) (by decide)))))))) ?_
    refine R_iload_4 dX12_keep_67 ?_
    refine R_ialdE dX12_keep_69 sh_529 rfl (by omega) (by decide) hv ?_
    refine R_iastE dX12_keep_70 sh_528 (ix1 160 (12 * i + k) j) (by omega) (by decide) ?_
    refine R_iinc_4 rfl (by decide) dX12_keep_71 rfl ?_
    rw [show nI j + Int32.ofInt 1 = nI (j + 1) from nI_1 j]
    refine R_goto 42 dX12_keep_74 (by decide) ?_
    refine ih (j + 1) _ (by omega) (fun q hq => ?_) (fun q hq => (a_up_ne (Or.inr (by omega))).trans (hO q hq)) (fun b hb => (a_up_row hb).trans (hF b hb))
    by_cases e : q = j
    · subst e; exact a_up_self _ _ _ _
    · exact (a_up_ne (Or.inr (by omega))).trans (hB q (by omega))
/-- as before but for what keeping the k-th letter of run i changes -/
def FrKp (i k : Nat) (V V' : aV) : Prop := (∀ b, b ≠ 504 → (b < 524 ∨ 528 < b) → V' b = V b) ∧ (∀ j, j ≠ 21 → V' 504 j = V 504 j) ∧ (∀ j, j ≠ i → V' 524 j = V 524 j) ∧ (∀ b, b = 525 ∨ b = 526 ∨ b = 527 → ∀ j, j ≠ 12 * i + k → V' b j = V b j) ∧ ∀ q, (q < 160 * (12 * i + k) ∨ 160 * (12 * i + k) + 160 ≤ q) → V' 528 q = V 528 q
set_option maxHeartbeats 4000000 in
theorem sp_min {pa c : Nat} (hp : pa < 2 ^ 31) (hc : c < 2 ^ 31) (h : nI pa ≤ 2147483647 - nI c) : nI pa + nI c = nI (min (pa + c) 2147483647) := by
  rw [show (2147483647 : Int32) = nI 2147483647 from rfl, pk_sub (by omega)] at h
  have := (nI_leI hp (by omega)).1 h
  rw [nI_add, Nat.min_eq_left (by omega)]
theorem sp_max {pa c : Nat} (hp : pa < 2 ^ 31) (hc : c < 2 ^ 31) (h : ¬ nI pa ≤ 2147483647 - nI c) : (2147483647 : Int32) = nI (min (pa + c) 2147483647) := by
  rw [show (2147483647 : Int32) = nI 2147483647 from rfl, pk_sub (by omega)] at h
  have : ¬ pa ≤ 2147483647 - c := fun z => h ((nI_leI hp (by omega)).2 z)
  rw [Nat.min_eq_right (by omega)]; rfl
set_option maxHeartbeats 4000000 in
theorem ct_keepL {V : aV} {x : List Int32} {i k g c pa : Nat} (hR : MR V) (hX : TX V x) (hi : i < 8) (hk : k < 12) (h34 : V 504 34 = .int (nI c)) (hc : c < 2 ^ 31) (h24 : V 524 i = .int (nI k)) (h21 : V 504 21 = .int (nI pa)) (hpa : pa < 2 ^ 31) : CT mX12_keep 0 0 0 [.ref 504, .int (nI i), .int (nI g)] Sh V (fun v S' V' => none = v ∧ Sh = S' ∧ (V' 525 (12 * i + k) = .int (nI g) ∧ V' 526 (12 * i + k) = .int (nI x.length) ∧ V' 527 (12 * i + k) = .int (nI c) ∧ ∀ q, q < x.length → V' 528 (160 * (12 * i + k) + q) = .int (x.getD q 0)) ∧ V' 524 i = .int (nI (k + 1)) ∧ V' 504 21 = .int (nI (min (pa + c) 2147483647)) ∧ FrKp i k V V') aNo := by
  refine CT_of (by decide +kernel) (Nat.le_of_ble_eq_true rfl) ?_
  show R _ _ _ _ _ _ _ _ 0 [some (.ref 504), some (.int (nI i)), some (.int (nI g)), none, none] [] _ _
  refine R_bipush (v := 12) dX12_keep_0 (by decide) ?_
  refine R_iload_1 dX12_keep_2 ?_
  refine R_imul dX12_keep_3 ?_
  refine R_aload_0 dX12_keep_4 ?_
  refine gfX12_75 rfl dX12_keep_5 sh_504 (by first | exact hR.g (k := 26) (a := 524) (by decide) | exact (a_up_ne (by omega)).trans (hR.g (k := 26) (a := 524) (by decide)) | exact (a_up_ne (by omega)).trans ((a_up_ne (by omega)).trans (hR.g (k := 26) (a := 524) (by decide))) | exact (a_up_ne (by omega)).trans ((a_up_ne (by omega)).trans ((a_up_ne (by omega)).trans (hR.g (k := 26) (a := 524) (by decide)))) | exact (a_up_ne (by omega)).trans ((a_up_ne (by omega)).trans ((a_up_ne (by omega)).trans ((a_up_ne (by omega)).trans (hR.g (k := 26) (a := 524) (by decide))))) | exact (a_up_ne (by omega)).trans ((a_up_ne (by omega)).trans ((a_up_ne (by omega)).trans ((a_up_ne (by omega)).trans ((a_up_ne (by omega)).trans (hR.g (k := 26) (a := 524) (by decide)))))) | exact (a_up_ne (by omega)).trans ((a_up_ne (by omega)).trans ((a_up_ne (by omega)).trans ((a_up_ne (by omega)).trans ((a_up_ne (by omega)).trans ((a_up_ne (by omega)).trans (hR.g (k := 26) (a := 524) (by decide)))))))) ?_
  refine R_iload_1 dX12_keep_8 ?_
  refine R_ialdE dX12_keep_9 sh_524 rfl (by omega) (by decide) h24 ?_
  refine R_iadd dX12_keep_10 ?_
  rw [show (12 : Int32) = nI 12 from rfl, ix1]
  refine R_istore_3 rfl (by decide) dX12_keep_11 ?_
  refine R_aload_0 dX12_keep_12 ?_
  refine gfX12_78 rfl dX12_keep_13 sh_504 (by first | exact hR.g (k := 27) (a := 525) (by decide) | exact (a_up_ne (by omega)).trans (hR.g (k := 27) (a := 525) (by decide)) | exact (a_up_ne (by omega)).trans ((a_up_ne (by omega)).trans (hR.g (k := 27) (a := 525) (by decide))) | exact (a_up_ne (by omega)).trans ((a_up_ne (by omega)).trans ((a_up_ne (by omega)).trans (hR.g (k := 27) (a := 525) (by decide)))) | exact (a_up_ne (by omega)).trans ((a_up_ne (by omega)).trans ((a_up_ne (by omega)).trans ((a_up_ne (by omega)).trans (hR.g (k := 27) (a := 525) (by decide))))) | exact (a_up_ne (by omega)).trans ((a_up_ne (by omega)).trans ((a_up_ne (by omega)).trans ((a_up_ne (by omega)).trans ((a_up_ne (by omega)).trans (hR.g (k := 27) (a := 525) (by decide)))))) | exact (a_up_ne (by omega)).trans ((a_up_ne (by omega)).trans ((a_up_ne (by omega)).trans ((a_up_ne (by omega)).trans ((a_up_ne (by omega)).trans ((a_up_ne (by omega)).trans (hR.g (k := 27) (a := 525) (by decide)))))))) ?_
  refine R_iload_3 dX12_keep_16 ?_
  refine R_iload_2 dX12_keep_17 ?_
  refine R_iastE dX12_keep_18 sh_525 rfl (by omega) (by decide) ?_
  refine R_aload_0 dX12_keep_19 ?_
  refine gfX12_81 rfl dX12_keep_20 sh_504 (by first | exact hR.g (k := 28) (a := 526) (by decide) | exact (a_up_ne (by omega)).trans (hR.g (k := 28) (a := 526) (by decide)) | exact (a_up_ne (by omega)).trans ((a_up_ne (by omega)).trans (hR.g (k := 28) (a := 526) (by decide))) | exact (a_up_ne (by omega)).trans ((a_up_ne (by omega)).trans ((a_up_ne (by omega)).trans (hR.g (k := 28) (a := 526) (by decide)))) | exact (a_up_ne (by omega)).trans ((a_up_ne (by omega)).trans ((a_up_ne (by omega)).trans ((a_up_ne (by omega)).trans (hR.g (k := 28) (a := 526) (by decide))))) | exact (a_up_ne (by omega)).trans ((a_up_ne (by omega)).trans ((a_up_ne (by omega)).trans ((a_up_ne (by omega)).trans ((a_up_ne (by omega)).trans (hR.g (k := 28) (a := 526) (by decide)))))) | exact (a_up_ne (by omega)).trans ((a_up_ne (by omega)).trans ((a_up_ne (by omega)).trans ((a_up_ne (by omega)).trans ((a_up_ne (by omega)).trans ((a_up_ne (by omega)).trans (hR.g (k := 28) (a := 526) (by decide)))))))) ?_
  refine R_iload_3 dX12_keep_23 ?_
  refine R_aload_0 dX12_keep_24 ?_
  refine gfX12_239 rfl dX12_keep_25 sh_504 ((a_up_ne (Or.inl (by decide))).trans hX.1) ?_
  refine R_iastE dX12_keep_28 sh_526 rfl (by omega) (by decide) ?_
  refine R_aload_0 dX12_keep_29 ?_
  refine gfX12_84 rfl dX12_keep_30 sh_504 (by first | exact hR.g (k := 29) (a := 527) (by decide) | exact (a_up_ne (by omega)).trans (hR.g (k := 29) (a := 527) (by decide)) | exact (a_up_ne (by omega)).trans ((a_up_ne (by omega)).trans (hR.g (k := 29) (a := 527) (by decide))) | exact (a_up_ne (by omega)).trans ((a_up_ne (by omega)).trans ((a_up_ne (by omega)).trans (hR.g (k := 29) (a := 527) (by decide)))) | exact (a_up_ne (by omega)).trans ((a_up_ne (by omega)).trans ((a_up_ne (by omega)).trans ((a_up_ne (by omega)).trans (hR.g (k := 29) (a := 527) (by decide))))) | exact (a_up_ne (by omega)).trans ((a_up_ne (by omega)).trans ((a_up_ne (by omega)).trans ((a_up_ne (by omega)).trans ((a_up_ne (by omega)).trans (hR.g (k := 29) (a := 527) (by decide)))))) | exact (a_up_ne (by omega)).trans ((a_up_ne (by omega)).trans ((a_up_ne (by omega)).trans ((a_up_ne (by omega)).trans ((a_up_ne (by omega)).trans ((a_up_ne (by omega)).trans (hR.g (k := 29) (a := 527) (by decide)))))))) ?_
  refine R_iload_3 dX12_keep_33 ?_
  refine R_aload_0 dX12_keep_34 ?_
  refine gfX12_273 rfl dX12_keep_35 sh_504 ((a_up_ne (Or.inl (by decide))).trans ((a_up_ne (Or.inl (by decide))).trans h34)) ?_
  refine R_iastE dX12_keep_38 sh_527 rfl (by omega) (by decide) ?_
  refine R_iconst (v := 0) dX12_keep_39 (by decide) ?_
  refine R_istore_4 rfl (by decide) dX12_keep_40 ?_
  have f3 : FrKp i k V (a_up (a_up (a_up V 525 (12 * i + k) (.int (nI g))) 526 (12 * i + k) (.int (nI x.length))) 527 (12 * i + k) (.int (nI c))) := ⟨fun b q1 q2 => (a_up_row (by omega)).trans ((a_up_row (by omega)).trans (a_up_row (by omega))), fun j _ => (a_up_ne (Or.inl (by decide))).trans ((a_up_ne (Or.inl (by decide))).trans (a_up_ne (Or.inl (by decide)))), fun j _ => (a_up_ne (Or.inl (by decide))).trans ((a_up_ne (Or.inl (by decide))).trans (a_up_ne (Or.inl (by decide)))), fun b _ j hj => (a_up_ne (Or.inr hj)).trans ((a_up_ne (Or.inr hj)).trans (a_up_ne (Or.inr hj))), fun q _ => (a_up_ne (Or.inl (by decide))).trans ((a_up_ne (Or.inl (by decide))).trans (a_up_ne (Or.inl (by decide))))⟩
  have hR3 : MR (a_up (a_up (a_up V 525 (12 * i + k) (.int (nI g))) 526 (12 * i + k) (.int (nI x.length))) 527 (12 * i + k) (.int (nI c))) := hR.fr (fun j _ => (a_up_ne (Or.inl (by decide))).trans ((a_up_ne (Or.inl (by decide))).trans (a_up_ne (Or.inl (by decide)))))
  have hX3 : TX (a_up (a_up (a_up V 525 (12 * i + k) (.int (nI g))) 526 (12 * i + k) (.int (nI x.length))) 527 (12 * i + k) (.int (nI c))) x := hX.fr ((a_up_row (by decide)).trans ((a_up_row (by decide)).trans (a_up_row (by decide)))) ((a_up_ne (Or.inl (by decide))).trans ((a_up_ne (Or.inl (by decide))).trans (a_up_ne (Or.inl (by decide)))))
  refine kp_cp (g := g) hR3 hX3 hi hk (fun V4 hB4 hO4 f4 => ?_) x.length 0 _ (by omega) (fun q hq => absurd hq (Nat.not_lt_zero q)) (fun _ _ => rfl) (fun _ _ => rfl)
  have hR : MR V4 := hR3.fr (fun j _ => congrFun (f4 504 (by decide)) j)
  have e24 := (congrFun (f4 524 (by decide)) i).trans (((a_up_ne (Or.inl (by decide))).trans ((a_up_ne (Or.inl (by decide))).trans (a_up_ne (Or.inl (by decide))))).trans h24)
  have e21 := (congrFun (f4 504 (by decide)) 21).trans (((a_up_ne (Or.inl (by decide))).trans ((a_up_ne (Or.inl (by decide))).trans (a_up_ne (Or.inl (by decide))))).trans h21)
  have e34 := (congrFun (f4 504 (by decide)) 34).trans ((f3.2.1 34 (by decide)).trans h34)
  refine R_aload_0 dX12_keep_77 ?_
  refine gfX12_75 rfl dX12_keep_78 sh_504 (by first | exact hR.g (k := 26) (a := 524) (by decide) | exact (a_up_ne (by omega)).trans (hR.g (k := 26) (a := 524) (by decide)) | exact (a_up_ne (by omega)).trans ((a_up_ne (by omega)).trans (hR.g (k := 26) (a := 524) (by decide))) | exact (a_up_ne (by omega)).trans ((a_up_ne (by omega)).trans ((a_up_ne (by omega)).trans (hR.g (k := 26) (a := 524) (by decide)))) | exact (a_up_ne (by omega)).trans ((a_up_ne (by omega)).trans ((a_up_ne (by omega)).trans ((a_up_ne (by omega)).trans (hR.g (k := 26) (a := 524) (by decide))))) | exact (a_up_ne (by omega)).trans ((a_up_ne (by omega)).trans ((a_up_ne (by omega)).trans ((a_up_ne (by omega)).trans ((a_up_ne (by omega)).trans (hR.g (k := 26) (a := 524) (by decide)))))) | exact (a_up_ne (by omega)).trans ((a_up_ne (by omega)).trans ((a_up_ne (by omega)).trans ((a_up_ne (by omega)).trans ((a_up_ne (by omega)).trans ((a_up_ne (by omega)).trans (hR.g (k := 26) (a := 524) (by decide)))))))) ?_
  refine R_iload_1 dX12_keep_81 ?_
  refine R_dup2_11 dX12_keep_82 rfl rfl ?_
  refine R_ialdE dX12_keep_83 sh_524 rfl (by omega) (by decide) e24 ?_
  refine R_iconst (v := 1) dX12_keep_84 (by decide) ?_
  refine R_iadd dX12_keep_85 ?_
  rw [nI_1]
  refine R_iastE dX12_keep_86 sh_524 rfl (by omega) (by decide) ?_
  refine R_aload_0 dX12_keep_87 ?_
  refine R_aload_0 dX12_keep_88 ?_
  refine gfX12_313 rfl dX12_keep_89 sh_504 ((a_up_ne (Or.inl (by decide))).trans e21) ?_
  refine R_ldcw cwX12_316 dX12_keep_92 ?_
  refine R_aload_0 dX12_keep_95 ?_
  refine gfX12_273 rfl dX12_keep_96 sh_504 ((a_up_ne (Or.inl (by decide))).trans e34) ?_
  refine R_isub dX12_keep_99 ?_
  refine R_icmp_le 109 dX12_keep_100 (by decide) (fun c100 => ?_) (fun c100 => ?_)
  · refine R_aload_0 dX12_keep_109 ?_
    refine gfX12_313 rfl dX12_keep_110 sh_504 ((a_up_ne (Or.inl (by decide))).trans e21) ?_
    refine R_aload_0 dX12_keep_113 ?_
    refine gfX12_273 rfl dX12_keep_114 sh_504 ((a_up_ne (Or.inl (by decide))).trans e34) ?_
    refine R_iadd dX12_keep_117 ?_
    refine pfX12_313 rfl dX12_keep_118 sh_504 ?_
    refine R_vret rfl dX12_keep_121 (by first | exact ⟨rfl, rfl, ⟨(a_up_ne (Or.inl (by decide))).trans ((a_up_ne (Or.inl (by decide))).trans ((congrFun (f4 525 (by decide)) _).trans ((a_up_ne (Or.inl (by decide))).trans ((a_up_ne (Or.inl (by decide))).trans (a_up_self _ _ _ _))))), (a_up_ne (Or.inl (by decide))).trans ((a_up_ne (Or.inl (by decide))).trans ((congrFun (f4 526 (by decide)) _).trans ((a_up_ne (Or.inl (by decide))).trans (a_up_self _ _ _ _)))), (a_up_ne (Or.inl (by decide))).trans ((a_up_ne (Or.inl (by decide))).trans ((congrFun (f4 527 (by decide)) _).trans (a_up_self _ _ _ _))), fun q hq => (a_up_ne (Or.inl (by decide))).trans ((a_up_ne (Or.inl (by decide))).trans (hB4 q hq))⟩, (a_up_ne (Or.inl (by decide))).trans (a_up_self _ _ _ _), (a_up_self _ _ _ _).trans (congrArg Value.int (sp_max hpa hc c100)), fun b q1 q2 => (a_up_row q1).trans ((a_up_row (by omega)).trans ((f4 b (by omega)).trans (f3.1 b q1 q2))), fun j hj => (a_up_ne (Or.inr hj)).trans ((a_up_ne (Or.inl (by decide))).trans ((congrFun (f4 504 (by decide)) j).trans (f3.2.1 j hj))), fun j hj => (a_up_ne (Or.inl (by decide))).trans ((a_up_ne (Or.inr hj)).trans ((congrFun (f4 524 (by decide)) j).trans (f3.2.2.1 j hj))), fun b hb j hj => (a_up_ne (Or.inl (by omega))).trans ((a_up_ne (Or.inl (by omega))).trans ((congrFun (f4 b (by omega)) j).trans (f3.2.2.2.1 b hb j hj))), fun q hq => (a_up_ne (Or.inl (by decide))).trans ((a_up_ne (Or.inl (by decide))).trans ((hO4 q hq).trans (f3.2.2.2.2 q hq)))⟩ | exact ⟨rfl, rfl, ⟨(a_up_ne (Or.inl (by decide))).trans ((a_up_ne (Or.inl (by decide))).trans ((congrFun (f4 525 (by decide)) _).trans ((a_up_ne (Or.inl (by decide))).trans ((a_up_ne (Or.inl (by decide))).trans (a_up_self _ _ _ _))))), (a_up_ne (Or.inl (by decide))).trans ((a_up_ne (Or.inl (by decide))).trans ((congrFun (f4 526 (by decide)) _).trans ((a_up_ne (Or.inl (by decide))).trans (a_up_self _ _ _ _)))), (a_up_ne (Or.inl (by decide))).trans ((a_up_ne (Or.inl (by decide))).trans ((congrFun (f4 527 (by decide)) _).trans (a_up_self _ _ _ _))), fun q hq => (a_up_ne (Or.inl (by decide))).trans ((a_up_ne (Or.inl (by decide))).trans (hB4 q hq))⟩, (a_up_ne (Or.inl (by decide))).trans (a_up_self _ _ _ _), (a_up_self _ _ _ _).trans (congrArg Value.int (sp_min hpa hc c100)), fun b q1 q2 => (a_up_row q1).trans ((a_up_row (by omega)).trans ((f4 b (by omega)).trans (f3.1 b q1 q2))), fun j hj => (a_up_ne (Or.inr hj)).trans ((a_up_ne (Or.inl (by decide))).trans ((congrFun (f4 504 (by decide)) j).trans (f3.2.1 j hj))), fun j hj => (a_up_ne (Or.inl (by decide))).trans ((a_up_ne (Or.inr hj)).trans ((congrFun (f4 524 (by decide)) j).trans (f3.2.2.1 j hj))), fun b hb j hj => (a_up_ne (Or.inl (by omega))).trans ((a_up_ne (Or.inl (by omega))).trans ((congrFun (f4 b (by omega)) j).trans (f3.2.2.2.1 b hb j hj))), fun q hq => (a_up_ne (Or.inl (by decide))).trans ((a_up_ne (Or.inl (by decide))).trans ((hO4 q hq).trans (f3.2.2.2.2 q hq)))⟩)
  · refine R_ldcw cwX12_316 dX12_keep_103 ?_
    refine R_goto 118 dX12_keep_106 (by decide) ?_
    refine pfX12_313 rfl dX12_keep_118 sh_504 ?_
    refine R_vret rfl dX12_keep_121 (by first | exact ⟨rfl, rfl, ⟨(a_up_ne (Or.inl (by decide))).trans ((a_up_ne (Or.inl (by decide))).trans ((congrFun (f4 525 (by decide)) _).trans ((a_up_ne (Or.inl (by decide))).trans ((a_up_ne (Or.inl (by decide))).trans (a_up_self _ _ _ _))))), (a_up_ne (Or.inl (by decide))).trans ((a_up_ne (Or.inl (by decide))).trans ((congrFun (f4 526 (by decide)) _).trans ((a_up_ne (Or.inl (by decide))).trans (a_up_self _ _ _ _)))), (a_up_ne (Or.inl (by decide))).trans ((a_up_ne (Or.inl (by decide))).trans ((congrFun (f4 527 (by decide)) _).trans (a_up_self _ _ _ _))), fun q hq => (a_up_ne (Or.inl (by decide))).trans ((a_up_ne (Or.inl (by decide))).trans (hB4 q hq))⟩, (a_up_ne (Or.inl (by decide))).trans (a_up_self _ _ _ _), (a_up_self _ _ _ _).trans (congrArg Value.int (sp_max hpa hc c100)), fun b q1 q2 => (a_up_row q1).trans ((a_up_row (by omega)).trans ((f4 b (by omega)).trans (f3.1 b q1 q2))), fun j hj => (a_up_ne (Or.inr hj)).trans ((a_up_ne (Or.inl (by decide))).trans ((congrFun (f4 504 (by decide)) j).trans (f3.2.1 j hj))), fun j hj => (a_up_ne (Or.inl (by decide))).trans ((a_up_ne (Or.inr hj)).trans ((congrFun (f4 524 (by decide)) j).trans (f3.2.2.1 j hj))), fun b hb j hj => (a_up_ne (Or.inl (by omega))).trans ((a_up_ne (Or.inl (by omega))).trans ((congrFun (f4 b (by omega)) j).trans (f3.2.2.2.1 b hb j hj))), fun q hq => (a_up_ne (Or.inl (by decide))).trans ((a_up_ne (Or.inl (by decide))).trans ((hO4 q hq).trans (f3.2.2.2.2 q hq)))⟩ | exact ⟨rfl, rfl, ⟨(a_up_ne (Or.inl (by decide))).trans ((a_up_ne (Or.inl (by decide))).trans ((congrFun (f4 525 (by decide)) _).trans ((a_up_ne (Or.inl (by decide))).trans ((a_up_ne (Or.inl (by decide))).trans (a_up_self _ _ _ _))))), (a_up_ne (Or.inl (by decide))).trans ((a_up_ne (Or.inl (by decide))).trans ((congrFun (f4 526 (by decide)) _).trans ((a_up_ne (Or.inl (by decide))).trans (a_up_self _ _ _ _)))), (a_up_ne (Or.inl (by decide))).trans ((a_up_ne (Or.inl (by decide))).trans ((congrFun (f4 527 (by decide)) _).trans (a_up_self _ _ _ _))), fun q hq => (a_up_ne (Or.inl (by decide))).trans ((a_up_ne (Or.inl (by decide))).trans (hB4 q hq))⟩, (a_up_ne (Or.inl (by decide))).trans (a_up_self _ _ _ _), (a_up_self _ _ _ _).trans (congrArg Value.int (sp_min hpa hc c100)), fun b q1 q2 => (a_up_row q1).trans ((a_up_row (by omega)).trans ((f4 b (by omega)).trans (f3.1 b q1 q2))), fun j hj => (a_up_ne (Or.inr hj)).trans ((a_up_ne (Or.inl (by decide))).trans ((congrFun (f4 504 (by decide)) j).trans (f3.2.1 j hj))), fun j hj => (a_up_ne (Or.inl (by decide))).trans ((a_up_ne (Or.inr hj)).trans ((congrFun (f4 524 (by decide)) j).trans (f3.2.2.1 j hj))), fun b hb j hj => (a_up_ne (Or.inl (by omega))).trans ((a_up_ne (Or.inl (by omega))).trans ((congrFun (f4 b (by omega)) j).trans (f3.2.2.2.1 b hb j hj))), fun q hq => (a_up_ne (Or.inl (by decide))).trans ((a_up_ne (Or.inl (by decide))).trans ((hO4 q hq).trans (f3.2.2.2.2 q hq)))⟩)

