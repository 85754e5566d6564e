/-! ===== Likener: words, addresses ===== -/
def lev (L G : List Int32) : Nat := lvR G L L.length G.length
theorem lev_le {L G : List Int32} : lev L G ≤ max L.length G.length := lvR_max _ _
abbrev WL (d g : Nat) : UInt32 := wlv d g
theorem wl_tab : ((List.range 13).all fun g => (List.range (g + 1)).all fun d => g == 0 || (n32b (FP.fdiv (FP.i2f (nI d)) (FP.i2f (nI g))) && n32b (FP.fsub 1065353216 (FP.fdiv (FP.i2f (nI d)) (FP.i2f (nI g)))))) = true := by decide +kernel
theorem wl_ok {d g : Nat} (hg : g ≤ 12) (hd : d ≤ g) (h0 : 0 < g) : vf_n32 (FP.fdiv (FP.i2f (nI d)) (FP.i2f (nI g))) ∧ vf_n32 (FP.fsub 1065353216 (FP.fdiv (FP.i2f (nI d)) (FP.i2f (nI g)))) := by
  have h := List.all_eq_true.1 (List.all_eq_true.1 wl_tab g (List.mem_range.2 (by omega))) d (List.mem_range.2 (by omega))
  rw [Bool.or_eq_true, beq_iff_eq] at h
  rcases h with h | h
  · omega
  · rw [Bool.and_eq_true] at h
    exact ⟨n32_of h.1, n32_of h.2⟩
set_option maxHeartbeats 4000000 in
theorem ds_loop2 {mc ms kc ks : Nat} {V0 : aV} {s cs q cq : Nat} {L G : List Int32} (hL : L.length ≤ 12) (hG : G.length ≤ 12) (hs : s < 196 ∨ 197 < s) (hs2 : s + 1 < 196 ∨ 197 < s + 1) (hq : q < 196 ∨ 197 < q) (hq2 : q + 1 < 196 ∨ 197 < q + 1) {Q : Option Value → aS → aV → Prop} {QX : String → aS → aV → Prop} (hQ : ∀ V', Fr0 V0 V' 197 → Q (some (.int (nI (lev L G)))) Sh V') : ∀ (m i : Nat) (V : aV), i + m = L.length → V 196 0 = .ref 197 → SL Sh V s cs L → SL Sh V q cq G → RW V G.length (lvR G L i) → Fr0 V0 V 197 → R mX5_distance 2 mc ms Q QX kc ks 37 [some (.ref 196), some (.ref s), some (.ref q), some (.int (nI G.length)), some (.int (nI i))] [] Sh V := by
  intro m
  induction m with
  | zero =>
    intro i V hi h0 h1 h2 hR hF
    have hi' : i = L.length := by omega
    subst hi'
    have hr := (hR G.length (Nat.le_refl _)).1
    refine R_iload_4 dX5_distance_37 ?_
    refine R_aload_1 dX5_distance_39 ?_
    refine gfX5_15 rfl dX5_distance_40 h1.1 h1.len1 ?_
    refine R_icmp_ge 64 dX5_distance_43 (by decide) (fun c43 => ?_) (fun c43 => absurd (Int32.le_refl _) c43)
    refine R_iload_3 dX5_distance_64 ?_
    refine R_if_lt 77 dX5_distance_65 (by decide) (fun c65 => absurd c65 (nI_pos (by omega))) (fun c65 => ?_)
    refine R_aload_0 dX5_distance_68 ?_
    refine gfX5_9 rfl dX5_distance_69 sh_196 h0 ?_
    refine R_iload_3 dX5_distance_72 ?_
    refine R_iald dX5_distance_73 sh_197 (vp_in_nI (by omega) (by decide)) (nI_clamp (by omega)) hr ?_
    refine R_goto 78 dX5_distance_74 (by decide) ?_
    refine R_iret rfl dX5_distance_78 (hQ V hF)
  | succ m ih =>
    intro i V hi h0 h1 h2 hR hF
    have hr : ∀ k, k ≤ G.length → lvR G L i k ≤ 12 := fun k hk => by have := lvR_max (G := G) (L := L) i k; omega
    have hRx : RW V G.length (fun k => min (lvR G L i k) 400) := fun k hk => by have := hR k hk; have h3 := hr k hk; show _ = Value.int (nI (min (lvR G L i k) 400)) ∧ _; exact ⟨by rw [Nat.min_eq_left (by omega)]; exact this.1, by show min _ 400 < 1000; omega⟩
    have bw : ¬ nI L.length ≤ nI i := nI_ge (by omega) (by omega)
    have hrx : ∀ k, (fun k => min (lvR G L i k) 400) k < 500 := fun k => by show min _ 400 < 500; omega
    have hr2 : ∀ k, lvS G (L.getD i 0) (fun k => min (lvR G L i k) 400) k < 501 := by
      intro k
      cases k with
      | zero => show min _ 400 + 1 < 501; omega
      | succ k =>
        show min (min _ 400 + _) _ < 501
        have : (if G.getD k 0 = L.getD i 0 then 0 else 1) ≤ 1 := by split <;> decide
        omega
    have he : ∀ k, k ≤ G.length → lvS G (L.getD i 0) (fun k => min (lvR G L i k) 400) k = lvS G (L.getD i 0) (lvR G L i) k := by
      intro k
      induction k with
      | zero => intro hk; have := hr 0 (by omega); show min _ 400 + 1 = _ + 1; omega
      | succ k ihk =>
        intro hk
        have e1 := ihk (by omega)
        have h3 := hr k (by omega)
        have h4 := hr (k + 1) hk
        show min (min (lvR G L i k) 400 + _) (1 + min (min (lvR G L i (k + 1)) 400) (lvS G (L.getD i 0) (fun k => min (lvR G L i k) 400) k)) = min (lvR G L i k + _) (1 + min (lvR G L i (k + 1)) (lvS G (L.getD i 0) (lvR G L i) k))
        rw [e1, Nat.min_eq_left (by omega : lvR G L i k ≤ 400), Nat.min_eq_left (by omega : lvR G L i (k + 1) ≤ 400)]
    refine R_iload_4 dX5_distance_37 ?_
    refine R_aload_1 dX5_distance_39 ?_
    refine gfX5_15 rfl dX5_distance_40 h1.1 h1.len1 ?_
    refine R_icmp_ge 64 dX5_distance_43 (by decide) (fun c43 => absurd c43 bw) (fun c43 => ?_)
    refine R_aload_0 dX5_distance_46 ?_
    refine R_aload_1 dX5_distance_47 ?_
    refine R_iload_4 dX5_distance_48 ?_
    refine R_callVN_e (T := mX5_distance) (T' := mX9_signAt) (As := [_]) (ci := 9) okX9_signAt mlX5_27 rfl (by decide) h1.1 (ct_signAtL h1 (nI i)) rfl (by decide) (by decide) (Nat.le_of_ble_eq_true rfl) dX5_distance_50 ?_
    rw [lAt_nI (by omega)]
    refine R_aload_2 dX5_distance_53 ?_
    refine R_iload_3 dX5_distance_54 ?_
    refine R_callV (T := mX5_distance) (T' := mX5_readSign) (As := [_, _, _]) (ci := 5) okX5_readSign mlX5_31 rfl (by decide) sh_196 (ct_readSign h0 h2 hRx hrx hr2 hG hq hq2) rfl (by decide) (by decide) (Nat.le_of_ble_eq_true rfl) dX5_distance_55 (fun v9 S9 V9 h9 => ?_) (fun E S9 V9 h9 => h9.elim)
    obtain ⟨rfl, rfl, u3, u4⟩ := h9
    refine R_iinc_4 rfl (by decide) dX5_distance_58 rfl ?_
    rw [show nI i + Int32.ofInt 1 = nI (i + 1) from nI_1 i]
    refine R_goto 37 dX5_distance_61 (by decide) ?_
    exact ih (i + 1) V9 (by omega) ((congrFun (u4 196 (by decide)) 0).trans h0) (h1.frame (u4 _ (by omega)) (u4 _ (by omega))) (h2.frame (u4 _ (by omega)) (u4 _ (by omega))) (fun k hk => by have := u3 k hk; rw [he k hk] at this; exact this) (fun b hb => (u4 b hb).trans (hF b hb))
set_option maxHeartbeats 4000000 in
theorem ds_loop1 {mc ms kc ks : Nat} {V0 : aV} {s q : Nat} {G : List Int32} (hG : G.length ≤ 12) {Q : Option Value → aS → aV → Prop} {QX : String → aS → aV → Prop} (hK : ∀ V', V' 196 0 = .ref 197 → RW V' G.length (fun j => j) → Fr0 V0 V' 197 → R mX5_distance 2 mc ms Q QX kc ks 37 [some (.ref 196), some (.ref s), some (.ref q), some (.int (nI G.length)), some (.int (nI 0))] [] Sh V') : ∀ (m j : Nat) (V : aV), j + m = G.length + 1 → V 196 0 = .ref 197 → (∀ k, k < j → V 197 k = .int (nI k)) → Fr0 V0 V 197 → R mX5_distance 2 mc ms Q QX kc ks 13 [some (.ref 196), some (.ref s), some (.ref q), some (.int (nI G.length)), some (.int (nI j))] [] Sh V := by
  intro m
  induction m with
  | zero =>
    intro j V hj h0 hR hF
    have hj' : j = G.length + 1 := by omega
    subst hj'
    refine R_iload_4 dX5_distance_13 ?_
    refine R_iload_3 dX5_distance_15 ?_
    refine R_icmp_gt 34 dX5_distance_16 (by decide) (fun c16 => ?_) (fun c16 => absurd (Int32.not_le.1 (nI_ge (Nat.lt_succ_self G.length) (by omega))) c16)
    refine R_iconst (v := 0) dX5_distance_34 (by decide) ?_
    refine R_istore_4 rfl (by decide) dX5_distance_35 ?_
    exact hK V h0 (fun k hk => ⟨hR k (by omega), (by omega : k < 1000)⟩) hF
  | succ m ih =>
    intro j V hj h0 hR hF
    have bw : ¬ nI j > nI G.length := nI_nlt (by omega) (by omega)
    refine R_iload_4 dX5_distance_13 ?_
    refine R_iload_3 dX5_distance_15 ?_
    refine R_icmp_gt 34 dX5_distance_16 (by decide) (fun c16 => absurd c16 bw) (fun c16 => ?_)
    refine R_aload_0 dX5_distance_19 ?_
    refine gfX5_9 rfl dX5_distance_20 sh_196 h0 ?_
    refine R_iload_4 dX5_distance_23 ?_
    refine R_iload_4 dX5_distance_25 ?_
    refine R_iast dX5_distance_27 sh_197 (vp_in_nI (by omega) (by decide)) (nI_clamp (by omega)) ?_
    refine R_iinc_4 rfl (by decide) dX5_distance_28 rfl ?_
    rw [show nI j + Int32.ofInt 1 = nI (j + 1) from nI_1 j]
    refine R_goto 13 dX5_distance_31 (by decide) ?_
    exact ih (j + 1) _ (by omega) ((a_up_ne (Or.inl (by decide))).trans h0) (fun k hk => by
      by_cases e : k = j
      · subst e; exact a_up_self _ _ _ _
      · exact (a_up_ne (Or.inr e)).trans (hR k (by omega))) (fun b hb => (a_up_row hb).trans (hF b hb))
set_option maxHeartbeats 4000000 in
theorem ct_distance {V : aV} {s cs q cq : Nat} {L G : List Int32} (h0 : V 196 0 = .ref 197) (h1 : SL Sh V s cs L) (h2 : SL Sh V q cq G) (hL : L.length ≤ 12) (hG : G.length ≤ 12) (hs : s < 196 ∨ 197 < s) (hs2 : s + 1 < 196 ∨ 197 < s + 1) (hq : q < 196 ∨ 197 < q) (hq2 : q + 1 < 196 ∨ 197 < q + 1) : CT mX5_distance 2 0 0 [.ref 196, .ref s, .ref q] Sh V (fun v S' V' => some (.int (nI (lev L G))) = v ∧ Sh = S' ∧ Fr0 V V' 197) aNo := by
  refine CT_of (by decide +kernel) (Nat.le_of_ble_eq_true rfl) ?_
  show R _ _ _ _ _ _ _ _ 0 [some (.ref 196), some (.ref s), some (.ref q), none, none] [] _ _
  have em : (if (12 : Int32) < nI G.length then 12 else nI G.length) = nI G.length := if_neg (Int32.not_lt.2 (nI_le (b := 12) hG (by decide)))
  refine R_aload_2 dX5_distance_0 ?_
  refine gfX5_15 rfl dX5_distance_1 h2.1 h2.len1 ?_
  refine R_bipush (v := 12) dX5_distance_4 (by decide) ?_
  refine R_min mmX5_21 wm_min1 wm_ini wm_min2 dX5_distance_6 (by decide) (Nat.le_of_ble_eq_true rfl) em ?_
  refine R_istore_3 rfl (by decide) dX5_distance_9 ?_
  refine R_iconst (v := 0) dX5_distance_10 (by decide) ?_
  refine R_istore_4 rfl (by decide) dX5_distance_11 ?_
  refine ds_loop1 (V0 := V) hG (fun V1 y0 y1 y2 => ?_) (G.length + 1) 0 V (Nat.zero_add _) h0 (fun k hk => absurd hk (Nat.not_lt_zero k)) (fun _ _ => rfl)
  exact ds_loop2 (V0 := V) hL hG hs hs2 hq hq2 (fun V9 z => ⟨rfl, rfl, z⟩) L.length 0 V1 (Nat.zero_add _) y0 (h1.frame (y2 _ (by omega)) (y2 _ (by omega))) (h2.frame (y2 _ (by omega)) (y2 _ (by omega))) y1 y2

set_option maxHeartbeats 4000000 in
theorem ct_wordLikeness {V : aV} {s cs q cq : Nat} {L G : List Int32} (h0 : V 196 0 = .ref 197) (h1 : SL Sh V s cs L) (h2 : SL Sh V q cq G) (hL : L.length ≤ 12) (hG : G.length ≤ 12) (hs : s < 196 ∨ 197 < s) (hs2 : s + 1 < 196 ∨ 197 < s + 1) (hq : q < 196 ∨ 197 < q) (hq2 : q + 1 < 196 ∨ 197 < q + 1) : CT mX5_wordLikeness 3 0 0 [.ref 196, .ref s, .ref q] Sh V (fun v S' V' => some (.float (WL (lev L G) (max L.length G.length))) = v ∧ Sh = S' ∧ Fr0 V V' 197) aNo := by
  refine CT_of (by decide +kernel) (Nat.le_of_ble_eq_true rfl) ?_
  show R _ _ _ _ _ _ _ _ 0 [some (.ref 196), some (.ref s), some (.ref q), none] [] _ _
  have hle := lev_le (L := L) (G := G)
  refine R_aload_1 dX5_wordLikeness_0 ?_
  refine gfX5_15 rfl dX5_wordLikeness_1 h1.1 h1.len1 ?_
  refine R_aload_2 dX5_wordLikeness_4 ?_
  refine gfX5_15 rfl dX5_wordLikeness_5 h2.1 h2.len1 ?_
  refine R_max mmX5_35 wm_max1 wm_ini wm_max2 dX5_wordLikeness_8 (by decide) (Nat.le_of_ble_eq_true rfl) (nI_max (by omega) (by omega)) ?_
  refine R_istore_3 rfl (by decide) dX5_wordLikeness_11 ?_
  refine R_iload_3 dX5_wordLikeness_12 ?_
  refine R_if_gt 18 dX5_wordLikeness_13 (by decide) (fun c13 => ?_) (fun c13 => ?_)
  · have hg : 0 < max L.length G.length := Nat.pos_of_ne_zero (fun q => absurd c13 (by rw [q]; decide))
    have e : WL (lev L G) (max L.length G.length) = FP.fsub 1065353216 (FP.fdiv (FP.i2f (nI (lev L G))) (FP.i2f (nI (max L.length G.length)))) := if_neg (by omega)
    rw [e]
    have ok := wl_ok (by omega) hle hg
    refine R_fconst1 dX5_wordLikeness_18 ?_
    refine R_aload_0 dX5_wordLikeness_19 ?_
    refine R_aload_1 dX5_wordLikeness_20 ?_
    refine R_aload_2 dX5_wordLikeness_21 ?_
    refine R_callV (T := mX5_wordLikeness) (T' := mX5_distance) (As := [_, _]) (ci := 5) okX5_distance mlX5_38 rfl (by decide) sh_196 (ct_distance h0 h1 h2 hL hG hs hs2 hq hq2) rfl (by decide) (by decide) (Nat.le_of_ble_eq_true rfl) dX5_wordLikeness_22 (fun v9 S9 V9 h9 => ?_) (fun E S9 V9 h9 => h9.elim)
    obtain ⟨rfl, rfl, u4⟩ := h9
    refine R_i2f dX5_wordLikeness_25 ?_
    refine R_iload_3 dX5_wordLikeness_26 ?_
    refine R_i2f dX5_wordLikeness_27 ?_
    refine R_fdiv dX5_wordLikeness_28 ok.1 ?_
    refine R_fsub dX5_wordLikeness_29 ok.2 ?_
    refine R_fret rfl dX5_wordLikeness_30 ⟨rfl, rfl, u4⟩
  · have hg : max L.length G.length = 0 := Nat.eq_zero_of_not_pos (fun q => c13 (nI_lt (a := 0) q (by omega)))
    have e : WL (lev L G) (max L.length G.length) = 1065353216 := if_pos hg
    rw [e]
    refine R_fconst1 dX5_wordLikeness_16 ?_
    refine R_fret rfl dX5_wordLikeness_17 ⟨rfl, rfl, fun _ _ => rfl⟩

