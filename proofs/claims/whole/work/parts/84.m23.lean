/-! ===== MergePostModel: a letter made anew, post ===== -/
theorem okC_n0 {c : Int32} (h : okC c) : ¬ c = 0 := fun z => by rw [z] at h; exact absurd h.1 (by decide)
theorem unl_mx {L G : List Int32} (hL : ∀ c ∈ L, okC c) (hG : ∀ c ∈ G, okC c) : ∀ m, min L.length G.length + m ≤ max L.length G.length → unl L G (min L.length G.length + m) = unl L G (min L.length G.length) + m
  | 0, _ => rfl
  | m + 1, h => by
    have ih := unl_mx hL hG m (by omega)
    have ne : ¬ L.getD (min L.length G.length + m) 0 = G.getD (min L.length G.length + m) 0 := by
      rcases Nat.lt_or_ge (min L.length G.length + m) L.length with q | q
      · have q2 : ¬ min L.length G.length + m < G.length := by omega
        rw [gd_0 q2]; exact okC_n0 (hL _ (gd_mem q))
      · have q2 : min L.length G.length + m < G.length := by omega
        rw [gd_0 (Nat.not_lt.2 q)]; exact fun z => okC_n0 (hG _ (gd_mem (d := 0) q2)) z.symm
    rw [← Nat.add_assoc, unl_f ne, ih]; omega
theorem unl_all {L G : List Int32} (hL : ∀ c ∈ L, okC c) (hG : ∀ c ∈ G, okC c) : L.length + G.length - 2 * min L.length G.length + unl L G (min L.length G.length) = unl L G (max L.length G.length) := by
  have := unl_mx hL hG (max L.length G.length - min L.length G.length) (by omega)
  rw [show min L.length G.length + (max L.length G.length - min L.length G.length) = max L.length G.length by omega] at this
  omega
set_option maxHeartbeats 4000000 in
theorem an_cp {mc ms kc ks : Nat} {V0 : aV} {x : List Int32} {i l g : Nat} (hR0 : MR V0) (hX : TX V0 x) {Q : Option Value → aS → aV → Prop} {QX : String → aS → aV → Prop} (hK : ∀ V', (∀ q, q < x.length → V' 538 q = .int (x.getD q 0)) → Fr0 V0 V' 538 → R mX12_anew 8 mc ms Q QX kc ks 81 [some (.ref 504), some (.int (nI i)), some (.int (nI l)), some (.int (nI g)), some (.int (nI x.length)), none, none, none] [] Sh V') : ∀ (m j : Nat) (V : aV), j + m = x.length → (∀ q, q < j → V 538 q = .int (x.getD q 0)) → Fr0 V0 V 538 → R mX12_anew 8 mc ms Q QX kc ks 54 [some (.ref 504), some (.int (nI i)), some (.int (nI l)), some (.int (nI g)), some (.int (nI x.length)), some (.int (nI j)), none, none] [] Sh V := by
  have hx := hX.2.2
  intro m
  induction m with
  | zero =>
    intro j V hj hB hF
    have hj' : j = x.length := by omega
    subst hj'
    refine R_iload_5 dX12_anew_54 ?_
    refine R_iload_4 dX12_anew_56 ?_
    refine R_icmp_ge 81 dX12_anew_58 (by decide) (fun c58 => ?_) (fun c58 => absurd (Int32.le_refl _) c58)
    refine R_drop_5 ?_
    exact hK V hB hF
  | succ m ih =>
    intro j V hj hB hF
    have hR : MR V := hR0.fr (fun k _ => congrFun (hF 504 (by decide)) k)
    have b9 : ¬ nI x.length ≤ nI j := nI_ge (a := j) (b := x.length) (by omega) (by omega)
    have hv := (congrFun (hF 529 (by decide)) j).trans (hX.2.1 j (by omega))
    refine R_iload_5 dX12_anew_54 ?_
    refine R_iload_4 dX12_anew_56 ?_
    refine R_icmp_ge 81 dX12_anew_58 (by decide) (fun c58 => absurd c58 b9) (fun c58 => ?_)
    refine R_aload_0 dX12_anew_61 ?_
    refine gfX12_117 rfl dX12_anew_62 sh_504 (by first | exact hR.g (k := 45) (a := 538) (by decide) | exact (a_up_ne (by omega)).trans (hR.g (k := 45) (a := 538) (by decide)) | exact (a_up_ne (by omega)).trans ((a_up_ne (by omega)).trans (hR.g (k := 45) (a := 538) (by decide))) | exact (a_up_ne (by omega)).trans ((a_up_ne (by omega)).trans ((a_up_ne (by omega)).trans (hR.g (k := 45) (a := 538) (by decide)))) | exact (a_up_ne (by omega)).trans ((a_up_ne (by omega)).trans ((a_up_ne (by omega)).trans ((a_up_ne (by omega)).trans (hR.g (k := 45) (a := 538) (by decide))))) | exact (a_up_ne (by omega)).trans ((a_up_ne (by omega)).trans ((a_up_ne (by omega)).trans ((a_up_ne (by omega)).trans ((a_up_ne (by omega)).trans (hR.g (k := 45) (a := 538) (by decide)))))) | exact (a_up_ne (by omega)).trans ((a_up_ne (by omega)).trans ((a_up_ne (by omega)).trans ((a_up_ne (by omega)).trans ((a_up_ne (by omega)).trans ((a_up_ne (by omega)).trans (hR.g (k := 45) (a := 538) (by decide)))))))) ?_
    refine R_iload_5 dX12_anew_65 ?_
    refine R_aload_0 dX12_anew_67 ?_
    refine gfX12_90 rfl dX12_anew_68 sh_504 (by first | exact hR.g (k := 31) (a := 529) (by decide) | exact (a_up_ne (by omega)).trans (hR.g (k := 31) (a := 529) (by decide)) | exact (a_up_ne (by omega)).trans ((a_up_ne (by omega)).trans (hR.g (k := 31) (a := 529) (by decide))) | exact (a_up_ne (by omega)).trans ((a_up_ne (by omega)).trans ((a_up_ne (by omega)).trans (hR.g (k := 31) (a := 529) (by decide)))) | exact (a_up_ne (by omega)).trans ((a_up_ne (by omega)).trans ((a_up_ne (by omega)).trans ((a_up_ne (by omega)).trans (hR.g (k := 31) (a := 529) (by decide))))) | exact (a_up_ne (by omega)).trans ((a_up_ne (by omega)).trans ((a_up_ne (by omega)).trans ((a_up_ne (by omega)).trans ((a_up_ne (by omega)).trans (hR.g (k := 31) (a := 529) (by decide)))))) | exact (a_up_ne (by omega)).trans ((a_up_ne (by omega)).trans ((a_up_ne (by omega)).trans ((a_up_ne (by omega)).trans ((a_up_ne (by omega)).trans ((a_up_ne (by omega)).trans (hR.g (k := 31) (a := 529) (by decide)))))))) ?_
    refine R_iload_5 dX12_anew_71 ?_
    refine R_ialdE dX12_anew_73 sh_529 rfl (by omega) (by decide) hv ?_
    refine R_iastE dX12_anew_74 sh_538 rfl (by omega) (by decide) ?_
    refine R_iinc_5 rfl (by decide) dX12_anew_75 rfl ?_
    rw [show nI j + Int32.ofInt 1 = nI (j + 1) from nI_1 j]
    refine R_goto 54 dX12_anew_78 (by decide) ?_
    refine ih (j + 1) _ (by omega) (fun q hq => ?_) (fun b hb => (a_up_row hb).trans (hF b hb))
    by_cases e : q = j
    · subst e; exact a_up_self _ _ _ _
    · exact (a_up_ne (Or.inr e)).trans (hB q (by omega))
set_option maxHeartbeats 4000000 in
theorem an_un {mc ms kc ks : Nat} {V : aV} {x y : List Int32} {i l g s d : Nat} (hR : MR V) (h1 : s ≤ x.length) (h2 : s ≤ y.length) (hx : x.length ≤ 160) (hX : ∀ q, q < x.length → V 538 q = .int (x.getD q 0)) (hY : ∀ q, q < y.length → V 529 q = .int (y.getD q 0)) {Q : Option Value → aS → aV → Prop} {QX : String → aS → aV → Prop} (hQ : Q (some (.int (nI (d + unl x y s)))) Sh V) : ∀ (m j : Nat), j + m = s → R mX12_anew 8 mc ms Q QX kc ks 138 [some (.ref 504), some (.int (nI i)), some (.int (nI l)), some (.int (nI g)), some (.int (nI x.length)), some (.int (nI s)), some (.int (nI (d + unl x y j))), some (.int (nI j))] [] Sh V := by
  intro m
  induction m with
  | zero =>
    intro j hj
    have hj' : j = s := by omega
    subst hj'
    refine R_iload_7 dX12_anew_138 ?_
    refine R_iload_5 dX12_anew_140 ?_
    refine R_icmp_ge 178 dX12_anew_142 (by decide) (fun c142 => ?_) (fun c142 => absurd (Int32.le_refl _) c142)
    refine R_iload_6 dX12_anew_178 ?_
    refine R_iret rfl dX12_anew_180 hQ
  | succ m ih =>
    intro j hj
    have b9 : ¬ nI s ≤ nI j := nI_ge (a := j) (b := s) (by omega) (by omega)
    refine R_iload_7 dX12_anew_138 ?_
    refine R_iload_5 dX12_anew_140 ?_
    refine R_icmp_ge 178 dX12_anew_142 (by decide) (fun c142 => absurd c142 b9) (fun c142 => ?_)
    refine R_iload_6 dX12_anew_145 ?_
    refine R_aload_0 dX12_anew_147 ?_
    refine gfX12_117 rfl dX12_anew_148 sh_504 (by first | exact hR.g (k := 45) (a := 538) (by decide) | exact (a_up_ne (by omega)).trans (hR.g (k := 45) (a := 538) (by decide)) | exact (a_up_ne (by omega)).trans ((a_up_ne (by omega)).trans (hR.g (k := 45) (a := 538) (by decide))) | exact (a_up_ne (by omega)).trans ((a_up_ne (by omega)).trans ((a_up_ne (by omega)).trans (hR.g (k := 45) (a := 538) (by decide)))) | exact (a_up_ne (by omega)).trans ((a_up_ne (by omega)).trans ((a_up_ne (by omega)).trans ((a_up_ne (by omega)).trans (hR.g (k := 45) (a := 538) (by decide))))) | exact (a_up_ne (by omega)).trans ((a_up_ne (by omega)).trans ((a_up_ne (by omega)).trans ((a_up_ne (by omega)).trans ((a_up_ne (by omega)).trans (hR.g (k := 45) (a := 538) (by decide)))))) | exact (a_up_ne (by omega)).trans ((a_up_ne (by omega)).trans ((a_up_ne (by omega)).trans ((a_up_ne (by omega)).trans ((a_up_ne (by omega)).trans ((a_up_ne (by omega)).trans (hR.g (k := 45) (a := 538) (by decide)))))))) ?_
    refine R_iload_7 dX12_anew_151 ?_
    refine R_ialdE dX12_anew_153 sh_538 rfl (by omega) (by decide) (hX j (by omega)) ?_
    refine R_aload_0 dX12_anew_154 ?_
    refine gfX12_90 rfl dX12_anew_155 sh_504 (by first | exact hR.g (k := 31) (a := 529) (by decide) | exact (a_up_ne (by omega)).trans (hR.g (k := 31) (a := 529) (by decide)) | exact (a_up_ne (by omega)).trans ((a_up_ne (by omega)).trans (hR.g (k := 31) (a := 529) (by decide))) | exact (a_up_ne (by omega)).trans ((a_up_ne (by omega)).trans ((a_up_ne (by omega)).trans (hR.g (k := 31) (a := 529) (by decide)))) | exact (a_up_ne (by omega)).trans ((a_up_ne (by omega)).trans ((a_up_ne (by omega)).trans ((a_up_ne (by omega)).trans (hR.g (k := 31) (a := 529) (by decide))))) | exact (a_up_ne (by omega)).trans ((a_up_ne (by omega)).trans ((a_up_ne (by omega)).trans ((a_up_ne (by omega)).trans ((a_up_ne (by omega)).trans (hR.g (k := 31) (a := 529) (by decide)))))) | exact (a_up_ne (by omega)).trans ((a_up_ne (by omega)).trans ((a_up_ne (by omega)).trans ((a_up_ne (by omega)).trans ((a_up_ne (by omega)).trans ((a_up_ne (by omega)).trans (hR.g (k := 31) (a := 529) (by decide)))))))) ?_
    refine R_iload_7 dX12_anew_158 ?_
    refine R_ialdE dX12_anew_160 sh_529 rfl (by omega) (by decide) (hY j (by omega)) ?_
    refine R_icmp_ne 168 dX12_anew_161 (by decide) (fun c161 => ?_) (fun c161 => ?_)
    · refine R_iconst (v := 1) dX12_anew_168 (by decide) ?_
      refine R_iadd dX12_anew_169 ?_
      first
        | rw [show nI (d + unl x y j) + 0 = nI (d + unl x y (j + 1)) by rw [unl_t c161]; exact Int32.add_zero _]
        | rw [show nI (d + unl x y j) + 1 = nI (d + unl x y (j + 1)) by rw [unl_f c161]; exact nI_1 _]
      refine R_istore_6 rfl (by decide) dX12_anew_170 ?_
      refine R_iinc_7 rfl (by decide) dX12_anew_172 rfl ?_
      rw [show nI j + Int32.ofInt 1 = nI (j + 1) from nI_1 j]
      refine R_goto 138 dX12_anew_175 (by decide) ?_
      exact ih (j + 1) (by omega)
    · refine R_iconst (v := 0) dX12_anew_164 (by decide) ?_
      refine R_goto 169 dX12_anew_165 (by decide) ?_
      refine R_iadd dX12_anew_169 ?_
      first
        | rw [show nI (d + unl x y j) + 0 = nI (d + unl x y (j + 1)) by rw [unl_t c161]; exact Int32.add_zero _]
        | rw [show nI (d + unl x y j) + 1 = nI (d + unl x y (j + 1)) by rw [unl_f c161]; exact nI_1 _]
      refine R_istore_6 rfl (by decide) dX12_anew_170 ?_
      refine R_iinc_7 rfl (by decide) dX12_anew_172 rfl ?_
      rw [show nI j + Int32.ofInt 1 = nI (j + 1) from nI_1 j]
      refine R_goto 138 dX12_anew_175 (by decide) ?_
      exact ih (j + 1) (by omega)
theorem dgc3 {x y : Nat} (h : nI y ≤ nI x) (hx : x < 2 ^ 31) (hy : y < 2 ^ 31) : y ≤ x := (nI_leI hy hx).1 h
set_option maxHeartbeats 4000000 in
theorem ct_manew {V : aV} {L : List Int32} {T : Nat → List Int32} {to : Nat → Bool} {ent : Nat → EntN} {cnt : Nat} {mt po : Nat → Nat} {b st pa n : Nat} {rt rr : Nat → Nat} {pd : Nat → Bool} {kn : Nat → Nat} {kl : Nat → Nat → KL} (hI : MI V L T to ent cnt mt po b st pa n rt rr pd kn kl) (hS : SOK L T to ent cnt mt po b st pa n rt rr pd kn kl) (t u : Int32) : CT mX12_anew 8 0 0 [.ref 504, .int t, .int u] Sh V (fun v S' V' => Sh = S' ∧ FrS V V' ∧ ∃ y, v = some (.int y) ∧ ((V' 504 0 = .int 1 ∧ ¬ ltOK n (lcn mt po cnt kn pd rr) t u) ∨ (V' 504 0 = .int 0 ∧ ∃ i l, i < n ∧ i < 8 ∧ t = nI i ∧ u = nI l ∧ l < lcn mt po cnt kn pd rr i ∧ y = anv (lrs T to ent cnt mt po b st rt rr pd kl i l) (ltr T to ent b st (rt i) (mmb cnt mt po rr pd kl i l))))) aNo := by
  refine CT_of (by decide +kernel) (Nat.le_of_ble_eq_true rfl) ?_
  show R _ _ _ _ _ _ _ _ 0 [some (.ref 504), some (.int t), some (.int u), none, none, none, none, none] [] _ _
  obtain ⟨⟨hR, hML, hT⟩, ⟨hE, hM, hP⟩, ⟨hb0, hs0, hpa0⟩, hRu, hKe⟩ := id hI
  obtain ⟨-, ⟨hK8, hT8⟩, ⟨hc, hEO, hm, hpo⟩, ⟨hb, hst, hpa⟩, hn, hk8⟩ := id hS
  have hpo2 := po12 hpo
  have hrr := fun i hi => (hk8 i hi).2.1
  have hkn := fun i hi => (hk8 i hi).2.2.1
  refine R_aload_0 dX12_anew_0 ?_
  refine R_aload_0 dX12_anew_1 ?_
  refine R_iload_1 dX12_anew_2 ?_
  refine R_iload_2 dX12_anew_3 ?_
  refine R_callV (T := mX12_anew) (T' := mX12_isLetter) (As := [_, _]) (ci := 12) okX12_isLetter mlX12_301 rfl (by decide) sh_504 (ct_isLetter hR hE.1 hM hm hc hP hpo2 hRu hrr hn hkn t u) rfl (by decide) (by decide) (Nat.le_of_ble_eq_true rfl) dX12_anew_4 (fun v9 S9 V9 h9 => ?_) (fun E S9 V9 h9 => h9.elim)
  obtain ⟨rfl, rfl, h8⟩ := h9
  rcases h8 with ⟨rfl, hlt⟩ | ⟨rfl, hlt⟩
  · obtain ⟨i, l, i9, i8, rfl, rfl, hll⟩ := hlt
    have f1 := (FrS.f (V := V) (k := 0) (v := .int 0) (Or.inl rfl))
    have hI1 := hI.s f1
    refine R_if_eq 14 dX12_anew_7 (by decide) (fun c7 => absurd c7 (by decide)) (fun c7 => ?_)
    refine R_iconst (v := 0) dX12_anew_10 (by decide) ?_
    refine R_goto 15 dX12_anew_11 (by decide) ?_
    refine R_callV_e (T := mX12_anew) (T' := mX12_fails) (As := [_]) (ci := 12) okX12_fails mlX12_128 rfl (by decide) sh_504 (ct_mfails _) rfl (by decide) (by decide) (Nat.le_of_ble_eq_true rfl) dX12_anew_15 ?_
    refine R_if_eq 23 dX12_anew_18 (by decide) (fun c18 => ?_) (fun c18 => absurd (by decide) c18)
    refine R_aload_0 dX12_anew_23 ?_
    refine R_iload_1 dX12_anew_24 ?_
    refine R_iload_2 dX12_anew_25 ?_
    refine R_callV (T := mX12_anew) (T' := mX12_layLetter) (As := [_, _]) (ci := 12) okX12_layLetter mlX12_307 rfl (by decide) sh_504 (ct_layLetter hI1 hS i8 hll) rfl (by decide) (by decide) (Nat.le_of_ble_eq_true rfl) dX12_anew_26 (fun v9 S9 V2 h9 => ?_) (fun E S9 V9 h9 => h9.elim)
    obtain ⟨rfl, rfl, g4, u4⟩ := h9
    have f2 := f1.trans u4.s
    have hI2 := hI1.s u4.s
    have hR := hI2.1.1
    cases eL : lrs T to ent cnt mt po b st rt rr pd kl i l with
    | inl x =>
      have gI := g4.il eL
      have hko := lrs_KO hS i8 hll eL
      have hmb := mmb_mbr hS i8 hll
      have hT2 := hI2.1.2.2
      have hE2 := hI2.2.1.1
      have hx160 := gI.1.2.2
      refine R_aload_0 dX12_anew_29 ?_
      refine gfX12_233 rfl dX12_anew_30 sh_504 gI.2.1 ?_
      refine R_if_eq 38 dX12_anew_33 (by decide) (fun c33 => ?_) (fun c33 => absurd rfl c33)
      refine R_aload_0 dX12_anew_38 ?_
      refine R_iload_1 dX12_anew_39 ?_
      refine R_iload_2 dX12_anew_40 ?_
      refine R_callV_e (T := mX12_anew) (T' := mX12_membersOf) (As := [_, _]) (ci := 12) okX12_membersOf mlX12_304 rfl (by decide) sh_504 (ct_membersOf hI2 hS i8 hll) rfl (by decide) (by decide) (Nat.le_of_ble_eq_true rfl) dX12_anew_41 ?_
      refine R_istore_3 rfl (by decide) dX12_anew_44 ?_
      refine R_aload_0 dX12_anew_45 ?_
      refine gfX12_239 rfl dX12_anew_46 sh_504 gI.1.1 ?_
      refine R_istore_4 rfl (by decide) dX12_anew_49 ?_
      refine R_iconst (v := 0) dX12_anew_51 (by decide) ?_
      refine R_istore_5 rfl (by decide) dX12_anew_52 ?_
      refine an_cp (x := x.1) hR gI.1 (fun V3 hB3 f3 => ?_) x.1.length 0 _ (by omega) (fun q hq => absurd hq (Nat.not_lt_zero q)) (fun _ _ => rfl)
      have fs3 : FrS V2 V3 := FrS.r f3 (by decide) (by decide)
      have hI3 := hI2.s fs3
      have hR := hI3.1.1
      refine R_aload_0 dX12_anew_81 ?_
      refine R_aload_0 dX12_anew_82 ?_
      refine gfX12_66 rfl dX12_anew_83 sh_504 (by first | exact hR.g (k := 23) (a := 521) (by decide) | exact (a_up_ne (by omega)).trans (hR.g (k := 23) (a := 521) (by decide)) | exact (a_up_ne (by omega)).trans ((a_up_ne (by omega)).trans (hR.g (k := 23) (a := 521) (by decide))) | exact (a_up_ne (by omega)).trans ((a_up_ne (by omega)).trans ((a_up_ne (by omega)).trans (hR.g (k := 23) (a := 521) (by decide)))) | exact (a_up_ne (by omega)).trans ((a_up_ne (by omega)).trans ((a_up_ne (by omega)).trans ((a_up_ne (by omega)).trans (hR.g (k := 23) (a := 521) (by decide))))) | exact (a_up_ne (by omega)).trans ((a_up_ne (by omega)).trans ((a_up_ne (by omega)).trans ((a_up_ne (by omega)).trans ((a_up_ne (by omega)).trans (hR.g (k := 23) (a := 521) (by decide)))))) | exact (a_up_ne (by omega)).trans ((a_up_ne (by omega)).trans ((a_up_ne (by omega)).trans ((a_up_ne (by omega)).trans ((a_up_ne (by omega)).trans ((a_up_ne (by omega)).trans (hR.g (k := 23) (a := 521) (by decide)))))))) ?_
      refine R_iload_1 dX12_anew_86 ?_
      refine R_ialdE dX12_anew_87 sh_521 rfl (by omega) (by decide) (hI3.2.2.2.1.2 i i8).1 ?_
      refine R_iload_3 dX12_anew_88 ?_
      refine R_callV (T := mX12_anew) (T' := mX12_letterOf) (As := [_, _]) (ci := 12) okX12_letterOf mlX12_298 rfl (by decide) sh_504 (ct_letterOf (t := rt i) (g := (mmb cnt mt po rr pd kl i l)) hR hI3.1.2.2 hI3.2.1.1 hEO hmb hK8 (hk8 i i8).1 hI3.2.2.1.1 hI3.2.2.1.2.1 (by omega) (by omega)) rfl (by decide) (by decide) (Nat.le_of_ble_eq_true rfl) dX12_anew_89 (fun v9 S9 V4 h9 => ?_) (fun E S9 V9 h9 => h9.elim)
      obtain ⟨rfl, rfl, g5, u5⟩ := h9
      have f5 := f2.trans (fs3.trans u5.s)
      have hR := (hI3.s u5.s).1.1
      have z5 := (u5.2 0 (by decide) (by decide) (by decide) (by decide) (by decide)).trans ((congrFun (f3 504 (by decide)) 0).trans ((u4.2 0 (by decide) (by decide) (by decide) (by decide) (by decide)).trans (a_up_self _ _ _ _)))
      cases eM : ltr T to ent b st (rt i) (mmb cnt mt po rr pd kl i l) with
      | inl y =>
        have gJ := g5.il eM
        have hky := ltr_ok (fun k => (hT8 k).2) hEO hmb eM
        have hy160 := gJ.1.2.2
        have hX5 : ∀ q, q < x.1.length → V4 538 q = .int (x.1.getD q 0) := fun q hq => (congrFun (u5.1 538 (by decide) (by decide)) q).trans (hB3 q hq)
        have ua := unl_all (L := x.1) (G := y.1) hko.2.1 hky.2.1
        refine R_aload_0 dX12_anew_92 ?_
        refine gfX12_233 rfl dX12_anew_93 sh_504 gJ.2.1 ?_
        refine R_if_eq 101 dX12_anew_96 (by decide) (fun c96 => ?_) (fun c96 => absurd rfl c96)
        refine R_iload_4 dX12_anew_101 ?_
        refine R_aload_0 dX12_anew_103 ?_
        refine gfX12_239 rfl dX12_anew_104 sh_504 gJ.1.1 ?_
        refine R_icmp_ge 115 dX12_anew_107 (by decide) (fun c107 => ?_) (fun c107 => ?_)
        · refine R_aload_0 dX12_anew_115 ?_
          refine gfX12_239 rfl dX12_anew_116 sh_504 gJ.1.1 ?_
          have hmin : min x.1.length y.1.length = y.1.length := Nat.min_eq_right (dgc3 c107 (by omega) (by omega))
          rw [hmin] at ua
          refine R_istore_5 rfl (by decide) dX12_anew_119 ?_
          refine R_iload_4 dX12_anew_121 ?_
          refine R_aload_0 dX12_anew_123 ?_
          refine gfX12_239 rfl dX12_anew_124 sh_504 gJ.1.1 ?_
          refine R_iadd dX12_anew_127 ?_
          rw [nI_add]
          refine R_iconst (v := 2) dX12_anew_128 (by decide) ?_
          refine R_iload_5 dX12_anew_129 ?_
          refine R_imul dX12_anew_131 ?_
          rw [show (2 : Int32) * nI y.1.length = nI (2 * y.1.length) from pk_mul 2 _]
          refine R_isub dX12_anew_132 ?_
          rw [pk_sub (by omega)]
          refine R_istore_6 rfl (by decide) dX12_anew_133 ?_
          refine R_iconst (v := 0) dX12_anew_135 (by decide) ?_
          refine R_istore_7 rfl (by decide) dX12_anew_136 ?_
          exact an_un (s := y.1.length) (x := x.1) (y := y.1) hR (by omega) (by omega) hx160 hX5 gJ.1.2.1 ⟨rfl, f5, _, rfl, Or.inr ⟨z5, i, l, i9, i8, rfl, rfl, hll, by rw [eL, eM]; exact congrArg nI ua⟩⟩ y.1.length 0 (by omega)
        · refine R_iload_4 dX12_anew_110 ?_
          refine R_goto 119 dX12_anew_112 (by decide) ?_
          have hmin : min x.1.length y.1.length = x.1.length := Nat.min_eq_left (Nat.le_of_lt (Nat.lt_of_not_le fun z => c107 (nI_le z (by omega))))
          rw [hmin] at ua
          refine R_istore_5 rfl (by decide) dX12_anew_119 ?_
          refine R_iload_4 dX12_anew_121 ?_
          refine R_aload_0 dX12_anew_123 ?_
          refine gfX12_239 rfl dX12_anew_124 sh_504 gJ.1.1 ?_
          refine R_iadd dX12_anew_127 ?_
          rw [nI_add]
          refine R_iconst (v := 2) dX12_anew_128 (by decide) ?_
          refine R_iload_5 dX12_anew_129 ?_
          refine R_imul dX12_anew_131 ?_
          rw [show (2 : Int32) * nI x.1.length = nI (2 * x.1.length) from pk_mul 2 _]
          refine R_isub dX12_anew_132 ?_
          rw [pk_sub (by omega)]
          refine R_istore_6 rfl (by decide) dX12_anew_133 ?_
          refine R_iconst (v := 0) dX12_anew_135 (by decide) ?_
          refine R_istore_7 rfl (by decide) dX12_anew_136 ?_
          exact an_un (s := x.1.length) (x := x.1) (y := y.1) hR (by omega) (by omega) hx160 hX5 gJ.1.2.1 ⟨rfl, f5, _, rfl, Or.inr ⟨z5, i, l, i9, i8, rfl, rfl, hll, by rw [eL, eM]; exact congrArg nI ua⟩⟩ x.1.length 0 (by omega)
      | inr q =>
        obtain ⟨c, c1, c4, ec, t5⟩ := g5.ir eM
        refine R_aload_0 dX12_anew_92 ?_
        refine gfX12_233 rfl dX12_anew_93 sh_504 t5.1 ?_
        refine R_if_eq 101 dX12_anew_96 (by decide) (fun c96 => absurd c96 (nI_ne0 (by omega) (by omega))) (fun c96 => ?_)
        refine R_iconst (v := -1) dX12_anew_99 (by decide) ?_
        refine R_iret rfl dX12_anew_100 ⟨rfl, f5, _, rfl, Or.inr ⟨z5, i, l, i9, i8, rfl, rfl, hll, by rw [eL, eM]; rfl⟩⟩
    | inr q =>
      obtain ⟨c, c1, c4, ec, t4⟩ := g4.ir eL
      refine R_aload_0 dX12_anew_29 ?_
      refine gfX12_233 rfl dX12_anew_30 sh_504 t4.1 ?_
      refine R_if_eq 38 dX12_anew_33 (by decide) (fun c33 => absurd c33 (nI_ne0 (by omega) (by omega))) (fun c33 => ?_)
      refine R_iconst (v := 0) dX12_anew_36 (by decide) ?_
      refine R_iret rfl dX12_anew_37 ⟨rfl, f2, _, rfl, Or.inr ⟨((u4.2 0 (by decide) (by decide) (by decide) (by decide) (by decide)).trans (a_up_self _ _ _ _)), i, l, i9, i8, rfl, rfl, hll, by rw [eL]; rfl⟩⟩
  · refine R_if_eq 14 dX12_anew_7 (by decide) (fun c7 => ?_) (fun c7 => absurd rfl c7)
    refine R_iconst (v := 1) dX12_anew_14 (by decide) ?_
    refine R_callV_e (T := mX12_anew) (T' := mX12_fails) (As := [_]) (ci := 12) okX12_fails mlX12_128 rfl (by decide) sh_504 (ct_mfails _) rfl (by decide) (by decide) (Nat.le_of_ble_eq_true rfl) dX12_anew_15 ?_
    refine R_if_eq 23 dX12_anew_18 (by decide) (fun c18 => absurd c18 (by decide)) (fun c18 => ?_)
    refine R_iconst (v := 0) dX12_anew_21 (by decide) ?_
    refine R_iret rfl dX12_anew_22 ⟨rfl, FrS.f (Or.inl rfl), _, rfl, Or.inl ⟨a_up_self _ _ _ _, hlt⟩⟩

