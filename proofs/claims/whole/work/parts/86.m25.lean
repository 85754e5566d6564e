/-! ===== MergePostModel: post ===== -/
theorem MI.kp {V V' : aV} {L : List Int32} {T : Nat → List Int32} {to : Nat → Bool} {ent : Nat → EntN} {cnt : Nat} {mt po : Nat → Nat} {b st pa n : Nat} {rt rr : Nat → Nat} {pd : Nat → Bool} {kn : Nat → Nat} {kl : Nat → Nat → KL} {i c : Nat} {x : KL} (h : MI V L T to ent cnt mt po b st pa n rt rr pd kn kl) (hi : i < 8) (hk : kn i < 12) (hkl : ∀ a, a < 8 → ∀ q, q < kn a → (kl a q).1.length ≤ 160) (hk12 : ∀ a, a < 8 → kn a ≤ 12)
    (h1 : V' 525 (12 * i + kn i) = .int (nI x.2.1) ∧ V' 526 (12 * i + kn i) = .int (nI x.1.length) ∧ V' 527 (12 * i + kn i) = .int (nI c) ∧ ∀ q, q < x.1.length → V' 528 (160 * (12 * i + kn i) + q) = .int (x.1.getD q 0)) (hx : x.2.2.2 = nI c) (h2 : V' 524 i = .int (nI (kn i + 1))) (h3 : V' 504 21 = .int (nI (min (pa + c) 2147483647))) (f : FrKp i (kn i) V V') :
    MI V' L T to ent cnt mt po b st (min (pa + c) 2147483647) n rt rr pd (upN kn i (kn i + 1)) (fun a q => if a = i ∧ q = kn i then x else kl a q) := by
  obtain ⟨⟨a1, a2, a3⟩, ⟨b1, b2, b3⟩, ⟨c1, c2, c3⟩, d1, d2⟩ := h
  have lo : ∀ b, b ≠ 504 → b < 524 → V' b = V b := fun b q1 q2 => f.1 b q1 (Or.inl q2)
  refine ⟨⟨a1.fr (fun k hk => f.2.1 k (fun z => hk (by rw [z]; decide))), a2.fr (f.2.1 2 (by decide)) (lo 505 (by decide) (by decide)), a3.fr (lo 506 (by decide) (by decide)) (lo 507 (by decide) (by decide))⟩, ⟨b1.fr (f.2.1 5 (by decide)) (fun b q1 q2 => lo b (by omega) (by omega)), b2.fr (lo 519 (by decide) (by decide)), b3.fr (lo 520 (by decide) (by decide))⟩, ⟨(f.2.1 19 (by decide)).trans c1, (f.2.1 20 (by decide)).trans c2, h3⟩, ⟨(f.2.1 22 (by decide)).trans d1.1, fun a ha => ?_⟩, fun a ha q hq => ?_⟩
  · obtain ⟨e1, e2, e3, e4⟩ := d1.2 a ha
    refine ⟨(congrFun (lo 521 (by decide) (by decide)) a).trans e1, (congrFun (lo 522 (by decide) (by decide)) a).trans e2, (congrFun (lo 523 (by decide) (by decide)) a).trans e3, ?_⟩
    show _ = Value.int (nI (if a = i then _ else _))
    by_cases q : a = i
    · subst q; rw [if_pos rfl]; exact h2
    · rw [if_neg q]; exact (f.2.2.1 a q).trans e4
  · show _ = Value.int (nI (if a = i ∧ q = kn i then x else kl a q).2.1) ∧ _ = Value.int (nI (if a = i ∧ q = kn i then x else kl a q).1.length) ∧ _ = Value.int (if a = i ∧ q = kn i then x else kl a q).2.2.2 ∧ ∀ j, j < (if a = i ∧ q = kn i then x else kl a q).1.length → _ = Value.int ((if a = i ∧ q = kn i then x else kl a q).1.getD j 0)
    by_cases z : a = i ∧ q = kn i
    · obtain ⟨rfl, rfl⟩ := z
      rw [if_pos ⟨rfl, rfl⟩, hx]; exact h1
    · rw [if_neg z]
      have hq' : q < kn a := by
        have hq2 : q < (if a = i then kn i + 1 else kn a) := hq
        by_cases y : a = i
        · subst y; rw [if_pos rfl] at hq2; exact Nat.lt_of_le_of_ne (by omega) (fun w => z ⟨rfl, w⟩)
        · rwa [if_neg y] at hq2
      obtain ⟨e1, e2, e3, e4⟩ := d2 a ha q hq'
      have ka := hk12 a ha
      have ki := hk12 i hi
      have ne : 12 * a + q ≠ 12 * i + kn i := fun w => z (by omega)
      have ll := hkl a ha q hq'
      exact ⟨(f.2.2.2.1 525 (Or.inl rfl) _ ne).trans e1, (f.2.2.2.1 526 (Or.inr (Or.inl rfl)) _ ne).trans e2, (f.2.2.2.1 527 (Or.inr (Or.inr rfl)) _ ne).trans e3, fun j hj => (f.2.2.2.2 _ (by rcases Nat.lt_or_ge (12 * a + q) (12 * i + kn i) with y | y <;> omega)).trans (e4 j hj)⟩
theorem MKe.cg {V : aV} {kn kn' : Nat → Nat} {kl kl' : Nat → Nat → KL} (h : MKe V kn kl) (e1 : ∀ i, i < 8 → kn' i = kn i) (e : ∀ i, i < 8 → ∀ j, j < kn i → kl' i j = kl i j) : MKe V kn' kl' := fun i hi j hj => by
  rw [e1 i hi] at hj
  rw [e i hi j hj]; exact h i hi j hj
theorem MRu.cg {V : aV} {n : Nat} {rt rr : Nat → Nat} {pd : Nat → Bool} {kn kn' : Nat → Nat} (h : MRu V n rt rr pd kn) (e : ∀ i, i < 8 → kn' i = kn i) : MRu V n rt rr pd kn' := ⟨h.1, fun i hi => by rw [e i hi]; exact h.2 i hi⟩
theorem kpt_mem {F : Nat → LRs} {l : List Nat} {x : KL} (h : x ∈ kpt F l) : x.2.1 ∈ l ∧ F x.2.1 = .inl (x.1, x.2.2.1, x.2.2.2) := by
  obtain ⟨g, hg, e⟩ := List.mem_filterMap.1 h
  unfold kpo at e
  cases q : F g with
  | inl y => rw [q] at e; cases e; exact ⟨hg, q⟩
  | inr y => rw [q] at e; cases e
theorem nP_cnt {po : Nat → Nat} {g r cnt : Nat} (h : ∀ i, g.testBit i = true → i < cnt) (hc : cnt ≤ 12) : nP po g r cnt = nP po g r 12 := by
  funext a
  unfold nP
  by_cases q : a < cnt ∧ g.testBit a = true
  · rw [if_pos q, if_pos ⟨by omega, q.2⟩]
  · rw [if_neg q, if_neg (fun z => q ⟨h a z.2, z.2⟩)]
theorem nP_lt {po : Nat → Nat} {g r j : Nat} (h : ∀ i, i < 12 → po i < 2 ^ 12) (hr : r < 8) : ∀ i, i < 12 → nP po g r j i < 2 ^ 12 := fun i hi => by
  unfold nP
  split
  · exact Nat.or_lt_two_pow (h i hi) (Nat.pow_lt_pow_right (by decide) (by omega))
  · exact h i hi
theorem poF_lt {r : Nat} (hr : r < 8) : ∀ (K : List KL) (po : Nat → Nat), (∀ i, i < 12 → po i < 2 ^ 12) → ∀ i, i < 12 → poF r K po i < 2 ^ 12
  | [], po, h => h
  | x :: K, po, h => poF_lt hr K (nP po x.2.1 r 12) (nP_lt h hr)
set_option maxHeartbeats 4000000 in
theorem ps_1 {mc ms kc ks : Nat} {V0 : aV} {L : List Int32} {T : Nat → List Int32} {to : Nat → Bool} {ent : Nat → EntN} {cnt : Nat} {mt po : Nat → Nat} {b st pa n : Nat} {rt rr : Nat → Nat} {pd : Nat → Bool} {kn : Nat → Nat} {kl : Nat → Nat → KL} (hS : SOK L T to ent cnt mt po b st pa n rt rr pd kn kl) {i : Nat} (hi : i < 8) {Q : Option Value → aS → aV → Prop} {QX : String → aS → aV → Prop} (hK : ∀ V', MI V' L T to ent cnt mt po b st (paF (kpt (fun g => ltr T to ent b st (rt i) g) (dLst mt po (rr i) cnt)) pa) n rt rr pd (upN kn i (kpt (fun g => ltr T to ent b st (rt i) g) (dLst mt po (rr i) cnt)).length) (klF kl i (kpt (fun g => ltr T to ent b st (rt i) g) (dLst mt po (rr i) cnt))) → V' 504 0 = .int 0 → (∀ b, b < 504 ∨ 538 < b → V' b = V0 b) → R mX12_post 6 mc ms Q QX kc ks 88 [some (.ref 504), some (.int (nI i)), some (.int (nI (dLst mt po (rr i) cnt).length)), some (.int (nI (dLst mt po (rr i) cnt).length)), none] [] Sh V') : ∀ (m j : Nat) (V : aV), j + m = (dLst mt po (rr i) cnt).length → MI V L T to ent cnt mt po b st (paF (kpt (fun g => ltr T to ent b st (rt i) g) ((dLst mt po (rr i) cnt).take j)) pa) n rt rr pd (upN kn i (kpt (fun g => ltr T to ent b st (rt i) g) ((dLst mt po (rr i) cnt).take j)).length) (klF kl i (kpt (fun g => ltr T to ent b st (rt i) g) ((dLst mt po (rr i) cnt).take j))) → V 504 0 = .int 0 → (∀ b, b < 504 ∨ 538 < b → V b = V0 b) → R mX12_post 6 mc ms Q QX kc ks 43 [some (.ref 504), some (.int (nI i)), some (.int (nI (dLst mt po (rr i) cnt).length)), some (.int (nI j)), none] [] Sh V := by
  obtain ⟨-, ⟨hK8, hT8⟩, ⟨hc, hEO, hm, hpo⟩, ⟨hb, hst, hpa⟩, hn, hk8⟩ := id hS
  have hpo2 := po12 hpo
  have dl12 := dLst_len (mt := mt) (po := po) (r := rr i) cnt
  intro m
  induction m with
  | zero =>
    intro j V hj hI h00 hF
    have hj' : j = (dLst mt po (rr i) cnt).length := by omega
    subst hj'
    rw [List.take_length] at hI
    refine R_iload_3 dX12_post_43 ?_
    refine R_iload_2 dX12_post_44 ?_
    refine R_icmp_ge 88 dX12_post_45 (by decide) (fun c45 => ?_) (fun c45 => absurd (Int32.le_refl _) c45)
    exact hK V hI h00 hF
  | succ m ih =>
    intro j V hj hI h00 hF
    have hjl : j < (dLst mt po (rr i) cnt).length := by omega
    obtain ⟨⟨hR0, hML, hT⟩, ⟨hE, hM, hP⟩, ⟨hb0, hs0, hpa0⟩, hRu, hKe⟩ := id hI
    have hR := hR0
    have hg := dLst_mbr (po := po) (r := rr i) hm.1 hc hjl
    have b9 : ¬ nI (dLst mt po (rr i) cnt).length ≤ nI j := nI_ge (by omega) (by omega)
    refine R_iload_3 dX12_post_43 ?_
    refine R_iload_2 dX12_post_44 ?_
    refine R_icmp_ge 88 dX12_post_45 (by decide) (fun c45 => absurd c45 b9) (fun c45 => ?_)
    refine R_aload_0 dX12_post_48 ?_
    refine R_iload_1 dX12_post_49 ?_
    refine R_iload_3 dX12_post_50 ?_
    refine R_callV_e (T := mX12_post) (T' := mX12_openMembers) (As := [_, _]) (ci := 12) okX12_openMembers mlX12_289 rfl (by decide) sh_504 (ct_openMembers (m := j) hR hE.1 hM hm hc hP hpo2 hi (hRu.2 i hi).2.1 (hk8 i hi).2.1 (by omega)) rfl (by decide) (by decide) (Nat.le_of_ble_eq_true rfl) dX12_post_51 ?_
    refine R_istore_4 rfl (by decide) dX12_post_54 ?_
    refine R_aload_0 dX12_post_56 ?_
    refine R_aload_0 dX12_post_57 ?_
    refine gfX12_66 rfl dX12_post_58 sh_504 (by first | exact hR.g (k := 23) (a := 521) (by decide) | exact (a_up_ne (by omega)).trans (hR.g (k := 23) (a := 521) (by decide)) | exact (a_up_ne (by omega)).trans ((a_up_ne (by omega)).trans (hR.g (k := 23) (a := 521) (by decide))) | exact (a_up_ne (by omega)).trans ((a_up_ne (by omega)).trans ((a_up_ne (by omega)).trans (hR.g (k := 23) (a := 521) (by decide)))) | exact (a_up_ne (by omega)).trans ((a_up_ne (by omega)).trans ((a_up_ne (by omega)).trans ((a_up_ne (by omega)).trans (hR.g (k := 23) (a := 521) (by decide))))) | exact (a_up_ne (by omega)).trans ((a_up_ne (by omega)).trans ((a_up_ne (by omega)).trans ((a_up_ne (by omega)).trans ((a_up_ne (by omega)).trans (hR.g (k := 23) (a := 521) (by decide)))))) | exact (a_up_ne (by omega)).trans ((a_up_ne (by omega)).trans ((a_up_ne (by omega)).trans ((a_up_ne (by omega)).trans ((a_up_ne (by omega)).trans ((a_up_ne (by omega)).trans (hR.g (k := 23) (a := 521) (by decide)))))))) ?_
    refine R_iload_1 dX12_post_61 ?_
    refine R_ialdE dX12_post_62 sh_521 rfl (by omega) (by decide) (hRu.2 i hi).1 ?_
    refine R_iload_4 dX12_post_63 ?_
    refine R_callV (T := mX12_post) (T' := mX12_letterOf) (As := [_, _]) (ci := 12) okX12_letterOf mlX12_298 rfl (by decide) sh_504 (ct_letterOf (t := rt i) (g := ((dLst mt po (rr i) cnt).getD j 0)) hR hT hE hEO hg hK8 (hk8 i hi).1 hb0 hs0 (by omega) (by omega)) rfl (by decide) (by decide) (Nat.le_of_ble_eq_true rfl) dX12_post_65 (fun v9 S9 V2 h9 => ?_) (fun E S9 V9 h9 => h9.elim)
    obtain ⟨rfl, rfl, g4, u4⟩ := h9
    have hI2 := hI.s u4.s
    have hR := hI2.1.1
    have z2 := (u4.2 0 (by decide) (by decide) (by decide) (by decide) (by decide)).trans h00
    have lo2 : ∀ b, b < 504 ∨ 538 < b → V2 b = V0 b := fun b hb => (u4.1 b (by omega) (by omega)).trans (hF b hb)
    cases eL : ltr T to ent b st (rt i) ((dLst mt po (rr i) cnt).getD j 0) with
    | inl x =>
      have gI := g4.il eL
      have hko := ltr_ok (fun k => (hT8 k).2) hEO hg eL
      obtain ⟨c, hc31, ec⟩ := hko.2.2.2.2
      have hek := kpt_t (F := (fun g => ltr T to ent b st (rt i) g)) hjl eL
      have kl1 : (kpt (fun g => ltr T to ent b st (rt i) g) ((dLst mt po (rr i) cnt).take j)).length ≤ j := Nat.le_trans kpt_len (by rw [List.length_take]; omega)
      have pl := paF_lt (kpt (fun g => ltr T to ent b st (rt i) g) ((dLst mt po (rr i) cnt).take j)) pa hpa
      have h34 := gI.2.2
      have ec' : x.2.2 = nI c := ec
      rw [ec'] at h34
      have ku : upN kn i (kpt (fun g => ltr T to ent b st (rt i) g) ((dLst mt po (rr i) cnt).take j)).length i = (kpt (fun g => ltr T to ent b st (rt i) g) ((dLst mt po (rr i) cnt).take j)).length := if_pos rfl
      have h24 := (hI2.2.2.2.1.2 i hi).2.2.2
      rw [ku] at h24
      refine R_aload_0 dX12_post_68 ?_
      refine gfX12_233 rfl dX12_post_69 sh_504 gI.2.1 ?_
      refine R_if_ne 82 dX12_post_72 (by decide) (fun c72 => absurd rfl c72) (fun c72 => ?_)
      refine R_aload_0 dX12_post_75 ?_
      refine R_iload_1 dX12_post_76 ?_
      refine R_iload_4 dX12_post_77 ?_
      refine R_callV (T := mX12_post) (T' := mX12_keep) (As := [_, _]) (ci := 12) okX12_keep mlX12_310 rfl (by decide) sh_504 (ct_keepL (x := x.1) (i := i) (k := (kpt (fun g => ltr T to ent b st (rt i) g) ((dLst mt po (rr i) cnt).take j)).length) (g := ((dLst mt po (rr i) cnt).getD j 0)) (c := c) (pa := paF (kpt (fun g => ltr T to ent b st (rt i) g) ((dLst mt po (rr i) cnt).take j)) pa) hR gI.1 hi (by omega) h34 hc31 h24 hI2.2.2.1.2.2 pl) rfl (by decide) (by decide) (Nat.le_of_ble_eq_true rfl) dX12_post_79 (fun v9 S9 V3 h9 => ?_) (fun E S9 V9 h9 => h9.elim)
      obtain ⟨rfl, rfl, k1, k2, k3, k4⟩ := h9
      have z3 := (k4.2.1 0 (by decide)).trans z2
      have lo3 : ∀ b, b < 504 ∨ 538 < b → V3 b = V0 b := fun b hb => (k4.1 b (by omega) (by omega)).trans (lo2 b hb)
      have hI3 := MI.kp (i := i) (c := c) (x := (x.1, ((dLst mt po (rr i) cnt).getD j 0), x.2.1, x.2.2)) hI2 hi (by rw [ku]; omega) (fun a ha q hq => by
          have hq2 : q < (if a = i then (kpt (fun g => ltr T to ent b st (rt i) g) ((dLst mt po (rr i) cnt).take j)).length else kn a) := hq
          show (if a = i then (kpt (fun g => ltr T to ent b st (rt i) g) ((dLst mt po (rr i) cnt).take j)).getD q ([], 0, 0, 0) else kl a q).1.length ≤ 160
          by_cases y : a = i
          · rw [if_pos y] at hq2 ⊢
            have hm9 := kpt_mem (gd_mem (d := (([], 0, 0, 0) : KL)) hq2)
            obtain ⟨ai, hai, eg⟩ := dLst_mem cnt (List.mem_of_mem_take hm9.1)
            exact (ltr_ok (fun k => (hT8 k).2) hEO (by rw [eg]; exact gOf_mbr hm.1 (by omega)) hm9.2).1
          · rw [if_neg y] at hq2 ⊢
            exact ((hk8 a ha).2.2.2.2.2 q hq2).1) (fun a ha => by
          show (if a = i then (kpt (fun g => ltr T to ent b st (rt i) g) ((dLst mt po (rr i) cnt).take j)).length else kn a) ≤ 12
          split
          · omega
          · exact (hk8 a ha).2.2.1) (by rw [ku]; exact k1) ec (by rw [ku]; exact k2) k3 (by rw [ku]; exact k4)
      have hI4 : MI V3 L T to ent cnt mt po b st (paF (kpt (fun g => ltr T to ent b st (rt i) g) ((dLst mt po (rr i) cnt).take (j + 1))) pa) n rt rr pd (upN kn i (kpt (fun g => ltr T to ent b st (rt i) g) ((dLst mt po (rr i) cnt).take (j + 1))).length) (klF kl i (kpt (fun g => ltr T to ent b st (rt i) g) ((dLst mt po (rr i) cnt).take (j + 1)))) := by
        rw [hek, paF_app hc31 ec]
        rw [ku, upN_up] at hI3
        have e9 : (kpt (fun g => ltr T to ent b st (rt i) g) (List.take j (dLst mt po (rr i) cnt)) ++ [(x.1, ((dLst mt po (rr i) cnt).getD j 0), x.2.1, x.2.2)]).length = (kpt (fun g => ltr T to ent b st (rt i) g) ((dLst mt po (rr i) cnt).take j)).length + 1 := List.length_append
        rw [e9]
        refine ⟨hI3.1, hI3.2.1, hI3.2.2.1, hI3.2.2.2.1, hI3.2.2.2.2.cg (fun _ _ => rfl) (fun a ha q hq => klF_app (fun z => ?_))⟩
        subst z
        have hq2 : q < (if a = a then (kpt (fun g => ltr T to ent b st (rt a) g) ((dLst mt po (rr a) cnt).take j)).length + 1 else kn a) := hq
        rw [if_pos rfl] at hq2
        omega
      refine R_iinc_3 rfl (by decide) dX12_post_82 rfl ?_
      rw [show nI j + Int32.ofInt 1 = nI (j + 1) from nI_1 j]
      refine R_goto 43 dX12_post_85 (by decide) ?_
      refine R_drop_4 ?_
      exact ih (j + 1) V3 (by omega) hI4 z3 lo3
    | inr q =>
      obtain ⟨c, c1, c4, ec, t4⟩ := g4.ir eL
      refine R_aload_0 dX12_post_68 ?_
      refine gfX12_233 rfl dX12_post_69 sh_504 t4.1 ?_
      refine R_if_ne 82 dX12_post_72 (by decide) (fun c72 => ?_) (fun c72 => absurd c72 (nI_ne0 (by omega) (by omega)))
      rw [← kpt_f (F := (fun g => ltr T to ent b st (rt i) g)) hjl eL] at hI2
      refine R_iinc_3 rfl (by decide) dX12_post_82 rfl ?_
      rw [show nI j + Int32.ofInt 1 = nI (j + 1) from nI_1 j]
      refine R_goto 43 dX12_post_85 (by decide) ?_
      refine R_drop_4 ?_
      exact ih (j + 1) V2 (by omega) hI2 z2 lo2
set_option maxHeartbeats 4000000 in
theorem ps_in {mc ms kc ks : Nat} {Vb : aV} {cnt i r : Nat} {K : List KL} {x2 : Int32} (hRb : MR Vb) (h5 : Vb 504 5 = .int (nI cnt)) (hc : cnt ≤ 12) (hi : i < 8) (hr : Vb 522 i = .int (nI r)) (hr8 : r < 8) {j g : Nat} {p0 : Nat → Nat} (hj12 : j < 12) (hg : g < 2 ^ 12) (hgv : Vb 525 (12 * i + j) = .int (nI g)) (hp0 : ∀ i, i < 12 → p0 i < 2 ^ 12) {Q : Option Value → aS → aV → Prop} {QX : String → aS → aV → Prop} (hK : ∀ V', Fr0 Vb V' 520 → MPo V' (nP p0 g r cnt) → R mX12_post 6 mc ms Q QX kc ks 163 [some (.ref 504), some (.int (nI i)), some (.int x2), some (.int (nI j)), none] [] Sh V') : ∀ (m a : Nat) (V : aV), a + m = cnt → Fr0 Vb V 520 → MPo V (nP p0 g r a) → R mX12_post 6 mc ms Q QX kc ks 110 [some (.ref 504), some (.int (nI i)), some (.int x2), some (.int (nI j)), some (.int (nI a))] [] Sh V := by
  intro m
  induction m with
  | zero =>
    intro a V ha hF hP
    have ha' : a = cnt := by omega
    subst ha'
    have h5' := (congrFun (hF 504 (by decide)) 5).trans h5
    refine R_iload_4 dX12_post_110 ?_
    refine R_aload_0 dX12_post_112 ?_
    refine gfX12_166 rfl dX12_post_113 sh_504 h5' ?_
    refine R_icmp_ge 163 dX12_post_116 (by decide) (fun c116 => ?_) (fun c116 => absurd (Int32.le_refl _) c116)
    refine R_drop_4 ?_
    exact hK V hF hP
  | succ m ih =>
    intro a V ha hF hP
    have hR : MR V := hRb.fr (fun k _ => congrFun (hF 504 (by decide)) k)
    have h5' := (congrFun (hF 504 (by decide)) 5).trans h5
    have hgv' := (congrFun (hF 525 (by decide)) (12 * i + j)).trans hgv
    have hr' := (congrFun (hF 522 (by decide)) i).trans hr
    have hpa := hP a (by omega)
    rw [nP_at] at hpa
    have b9 : ¬ nI cnt ≤ nI a := nI_ge (a := a) (b := cnt) (by omega) (by omega)
    refine R_iload_4 dX12_post_110 ?_
    refine R_aload_0 dX12_post_112 ?_
    refine gfX12_166 rfl dX12_post_113 sh_504 h5' ?_
    refine R_icmp_ge 163 dX12_post_116 (by decide) (fun c116 => absurd c116 b9) (fun c116 => ?_)
    refine R_aload_0 dX12_post_119 ?_
    refine gfX12_78 rfl dX12_post_120 sh_504 (by first | exact hR.g (k := 27) (a := 525) (by decide) | exact (a_up_ne (by omega)).trans (hR.g (k := 27) (a := 525) (by decide)) | exact (a_up_ne (by omega)).trans ((a_up_ne (by omega)).trans (hR.g (k := 27) (a := 525) (by decide))) | exact (a_up_ne (by omega)).trans ((a_up_ne (by omega)).trans ((a_up_ne (by omega)).trans (hR.g (k := 27) (a := 525) (by decide)))) | exact (a_up_ne (by omega)).trans ((a_up_ne (by omega)).trans ((a_up_ne (by omega)).trans ((a_up_ne (by omega)).trans (hR.g (k := 27) (a := 525) (by decide))))) | exact (a_up_ne (by omega)).trans ((a_up_ne (by omega)).trans ((a_up_ne (by omega)).trans ((a_up_ne (by omega)).trans ((a_up_ne (by omega)).trans (hR.g (k := 27) (a := 525) (by decide)))))) | exact (a_up_ne (by omega)).trans ((a_up_ne (by omega)).trans ((a_up_ne (by omega)).trans ((a_up_ne (by omega)).trans ((a_up_ne (by omega)).trans ((a_up_ne (by omega)).trans (hR.g (k := 27) (a := 525) (by decide)))))))) ?_
    refine R_bipush (v := 12) dX12_post_123 (by decide) ?_
    refine R_iload_1 dX12_post_125 ?_
    refine R_imul dX12_post_126 ?_
    refine R_iload_3 dX12_post_127 ?_
    refine R_iadd dX12_post_128 ?_
    refine R_ialdE dX12_post_129 sh_525 (ix1 12 i j) (by omega) (by decide) hgv' ?_
    refine R_iload_4 dX12_post_130 ?_
    refine R_ishr dX12_post_132 ?_
    refine R_iconst (v := 1) dX12_post_133 (by decide) ?_
    refine R_iand dX12_post_134 ?_
    rw [mb_sh (by omega) (by omega)]
    refine R_iconst (v := 1) dX12_post_135 (by decide) ?_
    refine R_icmp_ne 157 dX12_post_136 (by decide) (fun c136 => ?_) (fun c136 => ?_)
    · have hb : g.testBit a = false := Bool.eq_false_iff.2 (mb_0 c136)
      refine R_iinc_4 rfl (by decide) dX12_post_157 rfl ?_
      rw [show nI a + Int32.ofInt 1 = nI (a + 1) from nI_1 a]
      refine R_goto 110 dX12_post_160 (by decide) ?_
      exact ih (a + 1) V (by omega) hF (by rw [nP_f hb]; exact hP)
    · refine R_aload_0 dX12_post_139 ?_
      refine gfX12_56 rfl dX12_post_140 sh_504 (by first | exact hR.g (k := 18) (a := 520) (by decide) | exact (a_up_ne (by omega)).trans (hR.g (k := 18) (a := 520) (by decide)) | exact (a_up_ne (by omega)).trans ((a_up_ne (by omega)).trans (hR.g (k := 18) (a := 520) (by decide))) | exact (a_up_ne (by omega)).trans ((a_up_ne (by omega)).trans ((a_up_ne (by omega)).trans (hR.g (k := 18) (a := 520) (by decide)))) | exact (a_up_ne (by omega)).trans ((a_up_ne (by omega)).trans ((a_up_ne (by omega)).trans ((a_up_ne (by omega)).trans (hR.g (k := 18) (a := 520) (by decide))))) | exact (a_up_ne (by omega)).trans ((a_up_ne (by omega)).trans ((a_up_ne (by omega)).trans ((a_up_ne (by omega)).trans ((a_up_ne (by omega)).trans (hR.g (k := 18) (a := 520) (by decide)))))) | exact (a_up_ne (by omega)).trans ((a_up_ne (by omega)).trans ((a_up_ne (by omega)).trans ((a_up_ne (by omega)).trans ((a_up_ne (by omega)).trans ((a_up_ne (by omega)).trans (hR.g (k := 18) (a := 520) (by decide)))))))) ?_
      refine R_iload_4 dX12_post_143 ?_
      refine R_dup2_11 dX12_post_145 rfl rfl ?_
      refine R_ialdE dX12_post_146 sh_520 rfl (by omega) (by decide) hpa ?_
      refine R_iconst (v := 1) dX12_post_147 (by decide) ?_
      refine R_aload_0 dX12_post_148 ?_
      refine gfX12_69 rfl dX12_post_149 sh_504 (by first | exact hR.g (k := 24) (a := 522) (by decide) | exact (a_up_ne (by omega)).trans (hR.g (k := 24) (a := 522) (by decide)) | exact (a_up_ne (by omega)).trans ((a_up_ne (by omega)).trans (hR.g (k := 24) (a := 522) (by decide))) | exact (a_up_ne (by omega)).trans ((a_up_ne (by omega)).trans ((a_up_ne (by omega)).trans (hR.g (k := 24) (a := 522) (by decide)))) | exact (a_up_ne (by omega)).trans ((a_up_ne (by omega)).trans ((a_up_ne (by omega)).trans ((a_up_ne (by omega)).trans (hR.g (k := 24) (a := 522) (by decide))))) | exact (a_up_ne (by omega)).trans ((a_up_ne (by omega)).trans ((a_up_ne (by omega)).trans ((a_up_ne (by omega)).trans ((a_up_ne (by omega)).trans (hR.g (k := 24) (a := 522) (by decide)))))) | exact (a_up_ne (by omega)).trans ((a_up_ne (by omega)).trans ((a_up_ne (by omega)).trans ((a_up_ne (by omega)).trans ((a_up_ne (by omega)).trans ((a_up_ne (by omega)).trans (hR.g (k := 24) (a := 522) (by decide)))))))) ?_
      refine R_iload_1 dX12_post_152 ?_
      refine R_ialdE dX12_post_153 sh_522 rfl (by omega) (by decide) hr' ?_
      refine R_ishl dX12_post_154 ?_
      rw [bk_shl (by omega)]
      refine R_ior dX12_post_155 ?_
      rw [bk_or]
      refine R_iastE dX12_post_156 sh_520 rfl (by omega) (by decide) ?_
      have hb : g.testBit a = true := bI_ne (mb_1 c136)
      refine R_iinc_4 rfl (by decide) dX12_post_157 rfl ?_
      rw [show nI a + Int32.ofInt 1 = nI (a + 1) from nI_1 a]
      refine R_goto 110 dX12_post_160 (by decide) ?_
      refine ih (a + 1) _ (by omega) (fun b hb9 => (a_up_row hb9).trans (hF b hb9)) (fun q hq => ?_)
      rw [nP_t hb q]
      by_cases e : q = a
      · subst e; rw [if_pos rfl]; exact a_up_self _ _ _ _
      · rw [if_neg e]; exact (a_up_ne (Or.inr e)).trans (hP q hq)
set_option maxHeartbeats 4000000 in
theorem ps_2 {mc ms kc ks : Nat} {Vb : aV} {cnt i r : Nat} {K : List KL} {x2 : Int32} (hRb : MR Vb) (h5 : Vb 504 5 = .int (nI cnt)) (hc : cnt ≤ 12) (hi : i < 8) (hr : Vb 522 i = .int (nI r)) (hr8 : r < 8) {po : Nat → Nat} (hk9 : K.length ≤ 12) (h24 : Vb 524 i = .int (nI K.length)) (hKm : ∀ j, j < K.length → Vb 525 (12 * i + j) = .int (nI (K.getD j ([], 0, 0, 0)).2.1) ∧ (K.getD j ([], 0, 0, 0)).2.1 < 2 ^ 12 ∧ ∀ q, (K.getD j ([], 0, 0, 0)).2.1.testBit q = true → q < cnt) (hpo : ∀ i, i < 12 → po i < 2 ^ 12) {Q : Option Value → aS → aV → Prop} {QX : String → aS → aV → Prop} (hQ : ∀ V', Fr0 Vb V' 520 → MPo V' (poF r K po) → Q (some (.int (nI K.length))) Sh V') : ∀ (m j : Nat) (V : aV), j + m = K.length → Fr0 Vb V 520 → MPo V (poF r (K.take j) po) → R mX12_post 6 mc ms Q QX kc ks 97 [some (.ref 504), some (.int (nI i)), some (.int x2), some (.int (nI j)), none] [] Sh V := by
  intro m
  induction m with
  | zero =>
    intro j V hj hF hP
    have hj' : j = K.length := by omega
    subst hj'
    have hR : MR V := hRb.fr (fun k _ => congrFun (hF 504 (by decide)) k)
    have h24' := (congrFun (hF 524 (by decide)) i).trans h24
    rw [List.take_length] at hP
    refine R_iload_3 dX12_post_97 ?_
    refine R_aload_0 dX12_post_98 ?_
    refine gfX12_75 rfl dX12_post_99 sh_504 (by first | exact hR.g (k := 26) (a := 524) (by decide) | exact (a_up_ne (by omega)).trans (hR.g (k := 26) (a := 524) (by decide)) | exact (a_up_ne (by omega)).trans ((a_up_ne (by omega)).trans (hR.g (k := 26) (a := 524) (by decide))) | exact (a_up_ne (by omega)).trans ((a_up_ne (by omega)).trans ((a_up_ne (by omega)).trans (hR.g (k := 26) (a := 524) (by decide)))) | exact (a_up_ne (by omega)).trans ((a_up_ne (by omega)).trans ((a_up_ne (by omega)).trans ((a_up_ne (by omega)).trans (hR.g (k := 26) (a := 524) (by decide))))) | exact (a_up_ne (by omega)).trans ((a_up_ne (by omega)).trans ((a_up_ne (by omega)).trans ((a_up_ne (by omega)).trans ((a_up_ne (by omega)).trans (hR.g (k := 26) (a := 524) (by decide)))))) | exact (a_up_ne (by omega)).trans ((a_up_ne (by omega)).trans ((a_up_ne (by omega)).trans ((a_up_ne (by omega)).trans ((a_up_ne (by omega)).trans ((a_up_ne (by omega)).trans (hR.g (k := 26) (a := 524) (by decide)))))))) ?_
    refine R_iload_1 dX12_post_102 ?_
    refine R_ialdE dX12_post_103 sh_524 rfl (by omega) (by decide) h24' ?_
    refine R_icmp_ge 169 dX12_post_104 (by decide) (fun c104 => ?_) (fun c104 => absurd (Int32.le_refl _) c104)
    refine R_aload_0 dX12_post_169 ?_
    refine gfX12_75 rfl dX12_post_170 sh_504 (by first | exact hR.g (k := 26) (a := 524) (by decide) | exact (a_up_ne (by omega)).trans (hR.g (k := 26) (a := 524) (by decide)) | exact (a_up_ne (by omega)).trans ((a_up_ne (by omega)).trans (hR.g (k := 26) (a := 524) (by decide))) | exact (a_up_ne (by omega)).trans ((a_up_ne (by omega)).trans ((a_up_ne (by omega)).trans (hR.g (k := 26) (a := 524) (by decide)))) | exact (a_up_ne (by omega)).trans ((a_up_ne (by omega)).trans ((a_up_ne (by omega)).trans ((a_up_ne (by omega)).trans (hR.g (k := 26) (a := 524) (by decide))))) | exact (a_up_ne (by omega)).trans ((a_up_ne (by omega)).trans ((a_up_ne (by omega)).trans ((a_up_ne (by omega)).trans ((a_up_ne (by omega)).trans (hR.g (k := 26) (a := 524) (by decide)))))) | exact (a_up_ne (by omega)).trans ((a_up_ne (by omega)).trans ((a_up_ne (by omega)).trans ((a_up_ne (by omega)).trans ((a_up_ne (by omega)).trans ((a_up_ne (by omega)).trans (hR.g (k := 26) (a := 524) (by decide)))))))) ?_
    refine R_iload_1 dX12_post_173 ?_
    refine R_ialdE dX12_post_174 sh_524 rfl (by omega) (by decide) h24' ?_
    refine R_iret rfl dX12_post_175 (hQ V hF hP)
  | succ m ih =>
    intro j V hj hF hP
    have hR : MR V := hRb.fr (fun k _ => congrFun (hF 504 (by decide)) k)
    have h24' := (congrFun (hF 524 (by decide)) i).trans h24
    obtain ⟨k1, k2, k3⟩ := hKm j (by omega)
    have b9 : ¬ nI K.length ≤ nI j := nI_ge (a := j) (b := K.length) (by omega) (by omega)
    have e9 : poF r (K.take (j + 1)) po = nP (poF r (K.take j) po) (K.getD j ([], 0, 0, 0)).2.1 r cnt := by rw [take_sa (d := (([], 0, 0, 0) : KL)) (by omega), poF_app, nP_cnt k3 hc]
    refine R_iload_3 dX12_post_97 ?_
    refine R_aload_0 dX12_post_98 ?_
    refine gfX12_75 rfl dX12_post_99 sh_504 (by first | exact hR.g (k := 26) (a := 524) (by decide) | exact (a_up_ne (by omega)).trans (hR.g (k := 26) (a := 524) (by decide)) | exact (a_up_ne (by omega)).trans ((a_up_ne (by omega)).trans (hR.g (k := 26) (a := 524) (by decide))) | exact (a_up_ne (by omega)).trans ((a_up_ne (by omega)).trans ((a_up_ne (by omega)).trans (hR.g (k := 26) (a := 524) (by decide)))) | exact (a_up_ne (by omega)).trans ((a_up_ne (by omega)).trans ((a_up_ne (by omega)).trans ((a_up_ne (by omega)).trans (hR.g (k := 26) (a := 524) (by decide))))) | exact (a_up_ne (by omega)).trans ((a_up_ne (by omega)).trans ((a_up_ne (by omega)).trans ((a_up_ne (by omega)).trans ((a_up_ne (by omega)).trans (hR.g (k := 26) (a := 524) (by decide)))))) | exact (a_up_ne (by omega)).trans ((a_up_ne (by omega)).trans ((a_up_ne (by omega)).trans ((a_up_ne (by omega)).trans ((a_up_ne (by omega)).trans ((a_up_ne (by omega)).trans (hR.g (k := 26) (a := 524) (by decide)))))))) ?_
    refine R_iload_1 dX12_post_102 ?_
    refine R_ialdE dX12_post_103 sh_524 rfl (by omega) (by decide) h24' ?_
    refine R_icmp_ge 169 dX12_post_104 (by decide) (fun c104 => absurd c104 b9) (fun c104 => ?_)
    refine R_iconst (v := 0) dX12_post_107 (by decide) ?_
    refine R_istore_4 rfl (by decide) dX12_post_108 ?_
    refine ps_in (K := K) (p0 := poF r (K.take j) po) hRb h5 hc hi hr hr8 (by omega) k2 k1 (poF_lt hr8 _ po hpo) (fun V' hF' hP' => ?_) cnt 0 V (by omega) hF (by rw [nP_0]; exact hP)
    refine R_iinc_3 rfl (by decide) dX12_post_163 rfl ?_
    rw [show nI j + Int32.ofInt 1 = nI (j + 1) from nI_1 j]
    refine R_goto 97 dX12_post_166 (by decide) ?_
    exact ih (j + 1) V' (by omega) hF' (by rw [e9]; exact hP')
set_option maxHeartbeats 4000000 in
theorem ct_mpost {V : aV} {L : List Int32} {T : Nat → List Int32} {to : Nat → Bool} {ent : Nat → EntN} {cnt : Nat} {mt po : Nat → Nat} {b st pa n : Nat} {rt rr : Nat → Nat} {pd : Nat → Bool} {kn : Nat → Nat} {kl : Nat → Nat → KL} (hI : MI V L T to ent cnt mt po b st pa n rt rr pd kn kl) (hS : SOK L T to ent cnt mt po b st pa n rt rr pd kn kl) (t : Int32) : CT mX12_post 6 0 0 [.ref 504, .int t] Sh V (fun v S' V' => Sh = S' ∧ (∀ b, b < 504 ∨ 538 < b → V' b = V b) ∧ ∃ y, v = some (.int y) ∧ ((V' 504 0 = .int 1 ∧ ¬ okN t n 8 ∧ FrS V V') ∨ (V' 504 0 = .int 2 ∧ (∃ i, i < n ∧ i < 8 ∧ t = nI i ∧ pd i = true) ∧ FrS V V') ∨ (V' 504 0 = .int 0 ∧ ∃ i, i < n ∧ i < 8 ∧ t = nI i ∧ pd i = false ∧ y = nI (kpt (fun g => ltr T to ent b st (rt i) g) (dLst mt po (rr i) cnt)).length ∧ MI V' L T to ent cnt mt (poF (rr i) (kpt (fun g => ltr T to ent b st (rt i) g) (dLst mt po (rr i) cnt)) po) b st (paF (kpt (fun g => ltr T to ent b st (rt i) g) (dLst mt po (rr i) cnt)) pa) n rt rr (upN pd i true) (upN kn i (kpt (fun g => ltr T to ent b st (rt i) g) (dLst mt po (rr i) cnt)).length) (klF kl i (kpt (fun g => ltr T to ent b st (rt i) g) (dLst mt po (rr i) cnt)))))) aNo := by
  refine CT_of (by decide +kernel) (Nat.le_of_ble_eq_true rfl) ?_
  show R _ _ _ _ _ _ _ _ 0 [some (.ref 504), some (.int t), none, none, none] [] _ _
  obtain ⟨⟨hR, hML, hT⟩, ⟨hE, hM, hP⟩, ⟨hb0, hs0, hpa0⟩, hRu, hKe⟩ := id hI
  obtain ⟨-, ⟨hK8, hT8⟩, ⟨hc, hEO, hm, hpo⟩, ⟨hb, hst, hpa⟩, hn, hk8⟩ := id hS
  have hpo2 := po12 hpo
  have hrr := fun i hi => (hk8 i hi).2.1
  have hkn := fun i hi => (hk8 i hi).2.2.1
  refine R_aload_0 dX12_post_0 ?_
  refine R_aload_0 dX12_post_1 ?_
  refine R_iload_1 dX12_post_2 ?_
  refine R_callV_e (T := mX12_post) (T' := mX12_isRun) (As := [_]) (ci := 12) okX12_isRun mlX12_292 rfl (by decide) sh_504 (ct_misRun hRu.1 t) rfl (by decide) (by decide) (Nat.le_of_ble_eq_true rfl) dX12_post_3 ?_
  refine R_if_ne 13 dX12_post_6 (by decide) (fun c6 => ?_) (fun c6 => ?_)
  · obtain ⟨i, i9, i8, rfl⟩ := tN8 (bI_ne c6) hn
    have hi := i8
    refine R_aload_0 dX12_post_13 ?_
    refine gfX12_72 rfl dX12_post_14 sh_504 (by first | exact hR.g (k := 25) (a := 523) (by decide) | exact (a_up_ne (by omega)).trans (hR.g (k := 25) (a := 523) (by decide)) | exact (a_up_ne (by omega)).trans ((a_up_ne (by omega)).trans (hR.g (k := 25) (a := 523) (by decide))) | exact (a_up_ne (by omega)).trans ((a_up_ne (by omega)).trans ((a_up_ne (by omega)).trans (hR.g (k := 25) (a := 523) (by decide)))) | exact (a_up_ne (by omega)).trans ((a_up_ne (by omega)).trans ((a_up_ne (by omega)).trans ((a_up_ne (by omega)).trans (hR.g (k := 25) (a := 523) (by decide))))) | exact (a_up_ne (by omega)).trans ((a_up_ne (by omega)).trans ((a_up_ne (by omega)).trans ((a_up_ne (by omega)).trans ((a_up_ne (by omega)).trans (hR.g (k := 25) (a := 523) (by decide)))))) | exact (a_up_ne (by omega)).trans ((a_up_ne (by omega)).trans ((a_up_ne (by omega)).trans ((a_up_ne (by omega)).trans ((a_up_ne (by omega)).trans ((a_up_ne (by omega)).trans (hR.g (k := 25) (a := 523) (by decide)))))))) ?_
    refine R_iload_1 dX12_post_17 ?_
    refine R_zaldE dX12_post_18 sh_523 rfl (by omega) (by decide) (hRu.2 i i8).2.2.1 ?_
    refine R_if_eq 26 dX12_post_19 (by decide) (fun c19 => ?_) (fun c19 => ?_)
    · have hpd : pd i = false := Bool.eq_false_iff.2 (bI_eq c19)
      have f1 := (FrS.f (V := V) (k := 0) (v := .int 0) (Or.inl rfl))
      have hI1 := hI.s f1
      have elc : lcn mt po cnt kn pd rr i = (dLst mt po (rr i) cnt).length := by unfold lcn; rw [if_neg (by rw [hpd]; decide)]
      have kn0 : kn i = 0 := (hk8 i i8).2.2.2.1 hpd
      have dl12 := dLst_len (mt := mt) (po := po) (r := rr i) cnt
      have kq : ∀ j, (upN kn i 0) j = kn j := fun j => by
        show (if j = i then 0 else kn j) = kn j
        split
        · rename_i z; rw [z, kn0]
        · rfl
      have hI0 : MI (a_up V 504 0 (.int 0)) L T to ent cnt mt po b st (paF (kpt (fun g => ltr T to ent b st (rt i) g) ((dLst mt po (rr i) cnt).take 0)) pa) n rt rr pd (upN kn i (kpt (fun g => ltr T to ent b st (rt i) g) ((dLst mt po (rr i) cnt).take 0)).length) (klF kl i (kpt (fun g => ltr T to ent b st (rt i) g) ((dLst mt po (rr i) cnt).take 0))) := by
        rw [List.take_zero]
        refine ⟨hI1.1, hI1.2.1, hI1.2.2.1, hI1.2.2.2.1.cg (fun j _ => kq j), hI1.2.2.2.2.cg (fun j _ => kq j) (fun a ha j hj => ?_)⟩
        show (if a = i then _ else _) = _
        by_cases z : a = i
        · subst z; rw [kn0] at hj; exact absurd hj (Nat.not_lt_zero j)
        · rw [if_neg z]
      refine R_iconst (v := 0) dX12_post_26 (by decide) ?_
      refine R_callV_e (T := mX12_post) (T' := mX12_fails) (As := [_]) (ci := 12) okX12_fails mlX12_128 rfl (by decide) sh_504 (ct_mfails _) rfl (by decide) (by decide) (Nat.le_of_ble_eq_true rfl) dX12_post_27 ?_
      refine R_if_eq 35 dX12_post_30 (by decide) (fun c30 => ?_) (fun c30 => absurd (by decide) c30)
      refine R_aload_0 dX12_post_35 ?_
      refine R_iload_1 dX12_post_36 ?_
      refine R_callV_e (T := mX12_post) (T' := mX12_lettersOf) (As := [_]) (ci := 12) okX12_lettersOf mlX12_295 rfl (by decide) sh_504 (ct_lettersOf hI1.1.1 hI1.2.1.1.1 hI1.2.1.2.1 hm hc hI1.2.1.2.2 hpo2 hI1.2.2.2.1 hrr i8) rfl (by decide) (by decide) (Nat.le_of_ble_eq_true rfl) dX12_post_37 ?_
      rw [elc]
      refine R_istore_2 rfl (by decide) dX12_post_40 ?_
      refine R_iconst (v := 0) dX12_post_41 (by decide) ?_
      refine R_istore_3 rfl (by decide) dX12_post_42 ?_
      refine ps_1 (V0 := (a_up V 504 0 (.int 0))) hS i8 (fun V2 hI2 h2 lo2 => ?_) (dLst mt po (rr i) cnt).length 0 (a_up V 504 0 (.int 0)) (by omega) hI0 (a_up_self _ _ _ _) (fun _ _ => rfl)
      have hR := hI2.1.1
      have kl1 : (kpt (fun g => ltr T to ent b st (rt i) g) (dLst mt po (rr i) cnt)).length ≤ 12 := Nat.le_trans kpt_len (by omega)
      have ku : upN kn i (kpt (fun g => ltr T to ent b st (rt i) g) (dLst mt po (rr i) cnt)).length i = (kpt (fun g => ltr T to ent b st (rt i) g) (dLst mt po (rr i) cnt)).length := if_pos rfl
      refine R_aload_0 dX12_post_88 ?_
      refine gfX12_72 rfl dX12_post_89 sh_504 (by first | exact hR.g (k := 25) (a := 523) (by decide) | exact (a_up_ne (by omega)).trans (hR.g (k := 25) (a := 523) (by decide)) | exact (a_up_ne (by omega)).trans ((a_up_ne (by omega)).trans (hR.g (k := 25) (a := 523) (by decide))) | exact (a_up_ne (by omega)).trans ((a_up_ne (by omega)).trans ((a_up_ne (by omega)).trans (hR.g (k := 25) (a := 523) (by decide)))) | exact (a_up_ne (by omega)).trans ((a_up_ne (by omega)).trans ((a_up_ne (by omega)).trans ((a_up_ne (by omega)).trans (hR.g (k := 25) (a := 523) (by decide))))) | exact (a_up_ne (by omega)).trans ((a_up_ne (by omega)).trans ((a_up_ne (by omega)).trans ((a_up_ne (by omega)).trans ((a_up_ne (by omega)).trans (hR.g (k := 25) (a := 523) (by decide)))))) | exact (a_up_ne (by omega)).trans ((a_up_ne (by omega)).trans ((a_up_ne (by omega)).trans ((a_up_ne (by omega)).trans ((a_up_ne (by omega)).trans ((a_up_ne (by omega)).trans (hR.g (k := 25) (a := 523) (by decide)))))))) ?_
      refine R_iload_1 dX12_post_92 ?_
      refine R_iconst (v := 1) dX12_post_93 (by decide) ?_
      refine R_zastE dX12_post_94 sh_523 rfl (by omega) (by decide) rfl ?_
      refine R_iconst (v := 0) dX12_post_95 (by decide) ?_
      refine R_istore_3 rfl (by decide) dX12_post_96 ?_
      have fb : ∀ b, b ≠ 523 → (a_up V2 523 i (.int 1)) b = V2 b := fun b hb => a_up_row hb
      have hRb : MR (a_up V2 523 i (.int 1)) := hR.o (by decide)
      refine ps_2 (K := (kpt (fun g => ltr T to ent b st (rt i) g) (dLst mt po (rr i) cnt))) (r := rr i) hRb ((a_up_ne (Or.inl (by decide))).trans hI2.2.1.1.1) hc i8 ((a_up_ne (Or.inl (by decide))).trans (hI2.2.2.2.1.2 i i8).2.1) (hrr i i8) kl1 ((a_up_ne (Or.inl (by decide))).trans ((hI2.2.2.2.1.2 i i8).2.2.2.trans (by rw [ku]))) (fun j hj => ?_) hpo2 (fun V5 f5 p5 => ?_) (kpt (fun g => ltr T to ent b st (rt i) g) (dLst mt po (rr i) cnt)).length 0 _ (by omega) (fun _ _ => rfl) (by rw [List.take_zero]; exact hI2.2.1.2.2.fr (a_up_row (by decide)))
      · have e1 := (hI2.2.2.2.2 i i8 j (by rw [ku]; exact hj)).1
        have e2 : klF kl i (kpt (fun g => ltr T to ent b st (rt i) g) (dLst mt po (rr i) cnt)) i j = (kpt (fun g => ltr T to ent b st (rt i) g) (dLst mt po (rr i) cnt)).getD j ([], 0, 0, 0) := if_pos rfl
        rw [e2] at e1
        have hm9 := kpt_mem (gd_mem (d := (([], 0, 0, 0) : KL)) hj)
        obtain ⟨ai, hai, eg⟩ := dLst_mem cnt hm9.1
        refine ⟨(a_up_ne (Or.inl (by decide))).trans e1, ?_, fun q hq => ?_⟩
        · rw [eg]; exact gOf_lt hm.1 (by omega)
        · rw [eg] at hq; exact gOf_cnt hm hai hc q hq
      · have g5 : ∀ b, b ≠ 520 → b ≠ 523 → V5 b = V2 b := fun b q1 q2 => (f5 b q1).trans (fb b q2)
        have g504 := g5 504 (by decide) (by decide)
        refine ⟨rfl, fun b hb => (g5 b (by omega) (by omega)).trans ((lo2 b hb).trans (a_up_row (by omega))), _, rfl, Or.inr (Or.inr ⟨(congrFun g504 0).trans h2, i, i9, i8, rfl, hpd, rfl, ?_⟩)⟩
        obtain ⟨⟨a1, a2, a3⟩, ⟨b1, b2, b3⟩, ⟨c1, c2, c3⟩, d1, d2⟩ := hI2
        refine ⟨⟨a1.fr (fun q _ => congrFun g504 q), a2.fr (congrFun g504 2) (g5 505 (by decide) (by decide)), a3.fr (g5 506 (by decide) (by decide)) (g5 507 (by decide) (by decide))⟩, ⟨b1.fr (congrFun g504 5) (fun b q1 q2 => g5 b (by omega) (by omega)), b2.fr (g5 519 (by decide) (by decide)), p5⟩, ⟨(congrFun g504 19).trans c1, (congrFun g504 20).trans c2, (congrFun g504 21).trans c3⟩, ⟨(congrFun g504 22).trans d1.1, fun a ha => ?_⟩, d2.fr (fun b q1 q2 => g5 b (by omega) (by omega))⟩
        obtain ⟨e1, e2, e3, e4⟩ := d1.2 a ha
        refine ⟨(congrFun (g5 521 (by decide) (by decide)) a).trans e1, (congrFun (g5 522 (by decide) (by decide)) a).trans e2, (congrFun (f5 523 (by decide)) a).trans ?_, (congrFun (g5 524 (by decide) (by decide)) a).trans e4⟩
        show _ = Value.int (bI ((if a = i then true else pd a) = true))
        by_cases z : a = i
        · subst z; rw [if_pos rfl]; exact a_up_self _ _ _ _
        · rw [if_neg z]; exact (a_up_ne (Or.inr z)).trans e3
    · refine R_iconst (v := 2) dX12_post_22 (by decide) ?_
      refine R_goto 27 dX12_post_23 (by decide) ?_
      refine R_callV_e (T := mX12_post) (T' := mX12_fails) (As := [_]) (ci := 12) okX12_fails mlX12_128 rfl (by decide) sh_504 (ct_mfails _) rfl (by decide) (by decide) (Nat.le_of_ble_eq_true rfl) dX12_post_27 ?_
      refine R_if_eq 35 dX12_post_30 (by decide) (fun c30 => absurd c30 (by decide)) (fun c30 => ?_)
      refine R_iconst (v := 0) dX12_post_33 (by decide) ?_
      refine R_iret rfl dX12_post_34 ⟨rfl, fun b hb => a_up_row (by omega), _, rfl, Or.inr (Or.inl ⟨a_up_self _ _ _ _, ⟨i, i9, i8, rfl, bI_ne c19⟩, FrS.f (Or.inl rfl)⟩)⟩
  · refine R_iconst (v := 1) dX12_post_9 (by decide) ?_
    refine R_goto 27 dX12_post_10 (by decide) ?_
    refine R_callV_e (T := mX12_post) (T' := mX12_fails) (As := [_]) (ci := 12) okX12_fails mlX12_128 rfl (by decide) sh_504 (ct_mfails _) rfl (by decide) (by decide) (Nat.le_of_ble_eq_true rfl) dX12_post_27 ?_
    refine R_if_eq 35 dX12_post_30 (by decide) (fun c30 => absurd c30 (by decide)) (fun c30 => ?_)
    refine R_iconst (v := 0) dX12_post_33 (by decide) ?_
    refine R_iret rfl dX12_post_34 ⟨rfl, fun b hb => a_up_row (by omega), _, rfl, Or.inl ⟨a_up_self _ _ _ _, fun z => bI_eq c6 ⟨z.1, z.2.1⟩, FrS.f (Or.inl rfl)⟩⟩

set_option maxHeartbeats 4000000 in
theorem ct_mreasons {V : aV} {L : List Int32} {T : Nat → List Int32} {to : Nat → Bool} {ent : Nat → EntN} {cnt : Nat} {mt po : Nat → Nat} {b st pa n : Nat} {rt rr : Nat → Nat} {pd : Nat → Bool} {kn : Nat → Nat} {kl : Nat → Nat → KL} (hI : MI V L T to ent cnt mt po b st pa n rt rr pd kn kl) (hS : SOK L T to ent cnt mt po b st pa n rt rr pd kn kl) (t : Int32) : CT mX12_reasons 1 0 0 [.ref 504, .int t] Sh V (MQy V (xc1 cnt t) (nI (po t.toNatClampNeg))) aNo := by
  refine CT_of (by decide +kernel) (Nat.le_of_ble_eq_true rfl) ?_
  show R _ _ _ _ _ _ _ _ 0 [some (.ref 504), some (.int t)] [] _ _
  obtain ⟨⟨hR, hML, hT⟩, ⟨hE, hM, hP⟩, ⟨hb0, hs0, hpa0⟩, hRu, hKe⟩ := id hI
  obtain ⟨-, ⟨hK8, hT8⟩, ⟨hc, hEO, hm, hpo⟩, ⟨hb, hst, hpa⟩, hn, hk8⟩ := id hS
  have hpo2 := po12 hpo
  have hrr := fun i hi => (hk8 i hi).2.1
  have hkn := fun i hi => (hk8 i hi).2.2.1
  refine R_aload_0 dX12_reasons_0 ?_
  refine R_aload_0 dX12_reasons_1 ?_
  refine R_iload_1 dX12_reasons_2 ?_
  refine R_callV_e (T := mX12_reasons) (T' := mX12_isOne) (As := [_]) (ci := 12) okX12_isOne mlX12_175 rfl (by decide) sh_504 (ct_misOne hE.1 t) rfl (by decide) (by decide) (Nat.le_of_ble_eq_true rfl) dX12_reasons_3 ?_
  refine R_if_eq 13 dX12_reasons_6 (by decide) (fun c6 => ?_) (fun c6 => ?_)
  · have hx : xc1 cnt t = 1 := if_neg (bI_eq c6)
    refine R_iconst (v := 1) dX12_reasons_13 (by decide) ?_
    refine R_callV_e (T := mX12_reasons) (T' := mX12_fails) (As := [_]) (ci := 12) okX12_fails mlX12_128 rfl (by decide) sh_504 (ct_mfails _) rfl (by decide) (by decide) (Nat.le_of_ble_eq_true rfl) dX12_reasons_14 ?_
    refine R_if_eq 22 dX12_reasons_17 (by decide) (fun c17 => absurd c17 (by decide)) (fun c17 => ?_)
    refine R_iconst (v := 0) dX12_reasons_20 (by decide) ?_
    refine R_iret rfl dX12_reasons_21 ⟨rfl, (a_up_self _ _ _ _).trans (by rw [hx]; rfl), ⟨_, rfl, fun z => by rw [hx] at z; cases z⟩, FrS.f (Or.inl rfl)⟩
  · have hx : xc1 cnt t = 0 := if_pos (bI_ne c6)
    obtain ⟨i, ic, i12, rfl⟩ := tN (bI_ne c6) hc
    refine R_iconst (v := 0) dX12_reasons_9 (by decide) ?_
    refine R_goto 14 dX12_reasons_10 (by decide) ?_
    refine R_callV_e (T := mX12_reasons) (T' := mX12_fails) (As := [_]) (ci := 12) okX12_fails mlX12_128 rfl (by decide) sh_504 (ct_mfails _) rfl (by decide) (by decide) (Nat.le_of_ble_eq_true rfl) dX12_reasons_14 ?_
    refine R_if_eq 22 dX12_reasons_17 (by decide) (fun c17 => ?_) (fun c17 => absurd (by decide) c17)
    refine R_aload_0 dX12_reasons_22 ?_
    refine gfX12_56 rfl dX12_reasons_23 sh_504 (by first | exact hR.g (k := 18) (a := 520) (by decide) | exact (a_up_ne (by omega)).trans (hR.g (k := 18) (a := 520) (by decide)) | exact (a_up_ne (by omega)).trans ((a_up_ne (by omega)).trans (hR.g (k := 18) (a := 520) (by decide))) | exact (a_up_ne (by omega)).trans ((a_up_ne (by omega)).trans ((a_up_ne (by omega)).trans (hR.g (k := 18) (a := 520) (by decide)))) | exact (a_up_ne (by omega)).trans ((a_up_ne (by omega)).trans ((a_up_ne (by omega)).trans ((a_up_ne (by omega)).trans (hR.g (k := 18) (a := 520) (by decide))))) | exact (a_up_ne (by omega)).trans ((a_up_ne (by omega)).trans ((a_up_ne (by omega)).trans ((a_up_ne (by omega)).trans ((a_up_ne (by omega)).trans (hR.g (k := 18) (a := 520) (by decide)))))) | exact (a_up_ne (by omega)).trans ((a_up_ne (by omega)).trans ((a_up_ne (by omega)).trans ((a_up_ne (by omega)).trans ((a_up_ne (by omega)).trans ((a_up_ne (by omega)).trans (hR.g (k := 18) (a := 520) (by decide)))))))) ?_
    refine R_iload_1 dX12_reasons_26 ?_
    refine R_ialdE dX12_reasons_27 sh_520 rfl (by omega) (by decide) ((a_up_ne (Or.inl (by decide))).trans (hP i i12)) ?_
    refine R_iret rfl dX12_reasons_28 ⟨rfl, (a_up_self _ _ _ _).trans (by rw [hx]; rfl), ⟨_, rfl, fun _ => by rw [nI_clamp (n := i) (by omega)]⟩, FrS.f (Or.inl rfl)⟩

