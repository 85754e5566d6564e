/-! ===== MergePostModel: address ===== -/
def entOf (x : Ent) : EntN := (x.1, x.2.1, x.2.2.1.toNatClampNeg, x.2.2.2.1.toNatClampNeg, x.2.2.2.2.toNatClampNeg)
theorem entOf_e {y : EntN} (h : EO y) : entOf (encE y) = y := by
  obtain ⟨⟨-, h1, h2, h3⟩, -⟩ := h
  unfold entOf encE
  dsimp only
  rw [nI_clamp (by omega), nI_clamp (by omega), nI_clamp (by omega)]
theorem aRd_ok {L : List Int32} (hok : ∀ c ∈ L, okC c) {q : Nat} {x : Ent} (h : aRd L = (q, some x)) : ∃ y, x = encE y ∧ EO y := by
  have l1 := e1_le (L := L)
  by_cases h1 : e1 L = 0 ∨ ¬ cm L (e1 L)
  · rw [ra1 h1] at h; cases h
  obtain ⟨z1, c1, r1⟩ := ra1' h1
  have l2 := e2_le c1.1
  rw [r1] at h
  by_cases h2 : e2 L = e1 L + 1 ∨ ¬ cm L (e2 L)
  · rw [ra2 c1 h2] at h; cases h
  obtain ⟨c2, r2⟩ := ra2' (W := sub L 0 (e1 L)) c1 h2
  rw [r2] at h
  by_cases h3 : dgE L 57 3 (e2 L + 1) = e2 L + 1 ∨ ¬ cm L (dgE L 57 3 (e2 L + 1))
  · rw [ra4n (an1 h3)] at h; cases h
  have h3a : ¬ dgE L 57 3 (e2 L + 1) = e2 L + 1 := fun z => h3 (Or.inl z)
  have c3 : cm L (dgE L 57 3 (e2 L + 1)) := Classical.byContradiction fun z => h3 (Or.inr z)
  obtain ⟨hn, hn1, hn2, hn3⟩ := an2 h3a c3
  by_cases c4 : isDg (L.getD (dgE L 57 3 (e2 L + 1) + 1) 0) 53
  · obtain ⟨zn, zn1, zn2, zn3, zn4⟩ := an4 (x := nI hn) c4
    by_cases c5 : cm L (dgE L 57 3 (e2 L + 1) + 1 + 1)
    · by_cases h4 : dgE L 57 2 (dgE L 57 3 (e2 L + 1) + 1 + 2) = dgE L 57 3 (e2 L + 1) + 1 + 2
      · rw [ra4n (hn3.trans ((zn4 c5).trans (an5 h4)))] at h; cases h
      · obtain ⟨qn, qn1, qn2, qn3⟩ := an6 (x := nI hn) (y := nI zn) h4
        rw [ra4s (hn3.trans ((zn4 c5).trans qn3))] at h
        split at h
        · cases h
          exact ⟨(sub L 0 (e1 L), sub L (e1 L + 1) (e2 L), hn, zn, qn), rfl, ⟨by show (sub L 0 (e1 L)).length ≤ 12; rw [sub_len (Nat.zero_le _) (by omega)]; omega, hn1, zn1, qn1⟩, by show (sub L (e1 L + 1) (e2 L)).length ≤ 12; rw [sub_len (by omega) (by omega)]; omega, fun c hc => hok c (sub_mem hc), fun c hc => hok c (sub_mem hc)⟩
        · cases h
    · rw [ra4n (hn3.trans (zn3 c5))] at h; cases h
  · rw [ra4n (hn3.trans (an3 c4))] at h; cases h
/-- what address does -/
def xcA (cnt : Nat) (mt : Nat → Nat) (t : Int32) : Nat := if ¬ (¬ t < 0 ∧ t ≤ nI cnt) then 1 else if 12 ≤ t ∨ mt t.toNatClampNeg ≠ 0 then 2 else 0
noncomputable def adA (L : List Int32) (t : Int32) : Int32 := match (aRd L).2 with
  | none => -1 - nI (aRd L).1
  | some _ => t
noncomputable def adE (L : List Int32) (ent : Nat → EntN) (a : Nat) : Nat → EntN := match (aRd L).2 with
  | none => ent
  | some x => upN ent a (entOf x)
noncomputable def adC (L : List Int32) (cnt a : Nat) : Nat := match (aRd L).2 with
  | none => cnt
  | some _ => max cnt (a + 1)
theorem MRA.or {V V' : aV} {L : List Int32} {t : Nat} {v : Option Value} {S' : aS} (h : MRA V L t v S' V') : Sh = S' ∧ ((∃ q, aRd L = (q, none) ∧ q < 2000 ∧ v = some (.int (nI q)) ∧ V = V') ∨ (∃ q y, aRd L = (q, some (encE y)) ∧ EO y ∧ v = some (.int (-1)) ∧ MEk V' t y ∧ FRA V V' t)) := by
  obtain ⟨h1, h2⟩ := h
  refine ⟨h1, ?_⟩
  cases e : aRd L with
  | mk q o =>
    rw [e] at h2
    cases o with
    | none => exact Or.inl ⟨q, rfl, h2.2.1, h2.1, h2.2.2⟩
    | some x =>
      obtain ⟨g1, y, rfl, g2, g3, g4⟩ := h2
      exact Or.inr ⟨q, y, rfl, g2, g1, g3, g4⟩
theorem ME.fr {V V' : aV} {ent : Nat → EntN} {cnt : Nat} (h : ME V ent cnt) (e4 : V' 504 5 = V 504 5) (e : ∀ b, 508 ≤ b → b ≤ 518 → V' b = V b) : ME V' ent cnt := by
  refine ⟨e4.trans h.1, fun k hk => ?_⟩
  obtain ⟨⟨a1, a2⟩, ⟨b1, b2⟩, ⟨c1, c2⟩, ⟨d1, d2⟩, i1, i2, i3⟩ := h.2 k hk
  exact ⟨⟨(congrFun (e 509 (by decide) (by decide)) k).trans a1, a2.fr (e 508 (by decide) (by decide))⟩, ⟨(congrFun (e 511 (by decide) (by decide)) k).trans b1, b2.fr (e 510 (by decide) (by decide))⟩, ⟨(congrFun (e 513 (by decide) (by decide)) k).trans c1, c2.fr (e 512 (by decide) (by decide))⟩, ⟨(congrFun (e 515 (by decide) (by decide)) k).trans d1, d2.fr (e 514 (by decide) (by decide))⟩, (congrFun (e 516 (by decide) (by decide)) k).trans i1, (congrFun (e 517 (by decide) (by decide)) k).trans i2, (congrFun (e 518 (by decide) (by decide)) k).trans i3⟩
def MAdP (V : aV) (L : List Int32) (ent : Nat → EntN) (cnt : Nat) (mt : Nat → Nat) (t : Int32) : Option Value → aS → aV → Prop := fun v S' V' => Sh = S' ∧ V' 504 0 = .int (nI (xcA cnt mt t)) ∧ (∃ y, v = some (.int y) ∧ (xcA cnt mt t = 0 → y = adA L t)) ∧ ML V' (if xcA cnt mt t = 0 then [] else L) ∧ ME V' (if xcA cnt mt t = 0 then adE L ent t.toNatClampNeg else ent) (if xcA cnt mt t = 0 then adC L cnt t.toNatClampNeg else cnt) ∧ (∀ b, b ≠ 504 → (b < 508 ∨ 518 < b) → V' b = V b) ∧ ∀ k, k ≠ 0 → k ≠ 2 → k ≠ 5 → V' 504 k = V 504 k
set_option maxHeartbeats 4000000 in
theorem ct_maddress {V : aV} {L : List Int32} {ent : Nat → EntN} {cnt : Nat} {mt : Nat → Nat} (hR : MR V) (hl : ML V L) (hE : ME V ent cnt) (hM : MM V mt) (hm : MTO mt cnt) (hc12 : cnt ≤ 12) (hEO : ∀ k, k < 12 → EO (ent k)) (t : Int32) : CT mX12_address 4 0 0 [.ref 504, .int t] Sh V (MAdP V L ent cnt mt t) aNo := by
  refine CT_of (by decide +kernel) (Nat.le_of_ble_eq_true rfl) ?_
  show R _ _ _ _ _ _ _ _ 0 [some (.ref 504), some (.int t), none, none] [] _ _
  have h5 := hE.1
  refine R_iload_1 dX12_address_0 ?_
  refine R_if_lt 16 dX12_address_1 (by decide) (fun c1 => ?_) (fun c1 => ?_)
  · refine R_iconst (v := 0) dX12_address_16 (by decide) ?_
    first
      | (have hx : xcA cnt mt t = 1 := if_pos (fun z => (by first | exact z.1 c1 | exact absurd z.2 (Int32.not_le.2 (by first | exact c9 | exact Int32.not_le.1 c9))))
         refine R_istore_2 rfl (by decide) dX12_address_17 ?_
         refine R_aload_0 dX12_address_18 ?_
         refine R_iload_2 dX12_address_19 ?_
         refine R_if_ne 27 dX12_address_20 (by decide) (fun c20 => absurd rfl c20) (fun c20 => ?_)
         refine R_iconst (v := 1) dX12_address_23 (by decide) ?_
         refine R_goto 65 dX12_address_24 (by decide) ?_
         refine R_callV_e (T := mX12_address) (T' := mX12_fails) (As := [_]) (ci := 12) okX12_fails mlX12_128 rfl (by decide) sh_504 (ct_mfails _) rfl (by decide) (by decide) (Nat.le_of_ble_eq_true rfl) dX12_address_65 ?_
         refine R_if_eq 73 dX12_address_68 (by decide) (fun c68 => absurd c68 (by decide)) (fun c68 => ?_)
         refine R_iconst (v := 0) dX12_address_71 (by decide) ?_
         refine R_iret rfl dX12_address_72 ⟨rfl, (a_up_self _ _ _ _).trans (by rw [hx]; rfl), ⟨_, rfl, fun z => by rw [hx] at z; cases z⟩, by rw [if_neg (by rw [hx]; decide)]; exact hl.f0 (by decide), by rw [if_neg (by rw [hx]; decide), if_neg (by rw [hx]; decide)]; exact hE.fr (a_up_ne (Or.inr (by decide))) (fun b q1 _ => a_up_row (by omega)), fun b q1 _ => a_up_row q1, fun k q1 _ _ => a_up_ne (Or.inr q1)⟩)
      | (have hth : ¬ t < 0 ∧ t ≤ nI cnt := ⟨c1, (by first | exact Int32.not_lt.1 c9 | exact c9)⟩
         obtain ⟨n, hn, rfl⟩ := nI_of c1
         have nc : n ≤ cnt := (nI_leI hn (by omega)).1 hth.2
         have ncl := nI_clamp hn
         refine R_istore_2 rfl (by decide) dX12_address_17 ?_
         refine R_aload_0 dX12_address_18 ?_
         refine R_iload_2 dX12_address_19 ?_
         refine R_if_ne 27 dX12_address_20 (by decide) (fun c20 => ?_) (fun c20 => absurd c20 (by decide))
         refine R_iload_1 dX12_address_27 ?_
         refine R_aload_0 dX12_address_28 ?_
         refine gfX12_166 rfl dX12_address_29 sh_504 (by first | assumption | exact a_up_self _ _ _ _ | exact (a_up_ne (by omega)).trans (by assumption) | exact (a_up_ne (by omega)).trans (a_up_self _ _ _ _) | exact (a_up_ne (by omega)).trans ((a_up_ne (by omega)).trans (by assumption)) | exact (a_up_ne (by omega)).trans ((a_up_ne (by omega)).trans (a_up_self _ _ _ _)) | exact (a_up_ne (by omega)).trans ((a_up_ne (by omega)).trans ((a_up_ne (by omega)).trans (by assumption))) | exact (a_up_ne (by omega)).trans ((a_up_ne (by omega)).trans ((a_up_ne (by omega)).trans (a_up_self _ _ _ _))) | exact (a_up_ne (by omega)).trans ((a_up_ne (by omega)).trans ((a_up_ne (by omega)).trans ((a_up_ne (by omega)).trans (by assumption)))) | exact (a_up_ne (by omega)).trans ((a_up_ne (by omega)).trans ((a_up_ne (by omega)).trans ((a_up_ne (by omega)).trans (a_up_self _ _ _ _)))) | exact (a_up_ne (by omega)).trans ((a_up_ne (by omega)).trans ((a_up_ne (by omega)).trans ((a_up_ne (by omega)).trans ((a_up_ne (by omega)).trans (by assumption))))) | exact (a_up_ne (by omega)).trans ((a_up_ne (by omega)).trans ((a_up_ne (by omega)).trans ((a_up_ne (by omega)).trans ((a_up_ne (by omega)).trans (a_up_self _ _ _ _)))))) ?_
         refine R_icmp_ne 52 dX12_address_32 (by decide) (fun c32 => ?_) (fun c32 => ?_)
         · refine R_aload_0 dX12_address_52 ?_
           refine R_iload_1 dX12_address_53 ?_
           refine R_callV_e (T := mX12_address) (T' := mX12_isMatched) (As := [_]) (ci := 12) okX12_isMatched mlX12_169 rfl (by decide) sh_504 (ct_isMatched (t := n) hR h5 hM hc12 (by have : ¬ n = cnt := fun z => c32 (by rw [z]); omega)) rfl (by decide) (by decide) (Nat.le_of_ble_eq_true rfl) dX12_address_54 ?_
           refine R_if_eq 64 dX12_address_57 (by decide) (fun c57 => ?_) (fun c57 => ?_)
           · have ne : ¬ n = cnt := fun z => c32 (by rw [z])
             have n12 : n < 12 := by omega
             have hx : xcA cnt mt (nI n) = 0 := by
               unfold xcA
               rw [if_neg (not_not_intro hth), ncl]
               refine if_neg (fun z => z.elim (fun z => ?_) (fun z => ?_))
               · exact nI_ge (a := n) (b := 12) n12 (by decide) z
               · exact bI_eq c57 ((anyB_iff hm n12 hc12).2 z)
             refine R_iconst (v := 0) dX12_address_64 (by decide) ?_
             refine R_callV_e (T := mX12_address) (T' := mX12_fails) (As := [_]) (ci := 12) okX12_fails mlX12_128 rfl (by decide) sh_504 (ct_mfails _) rfl (by decide) (by decide) (Nat.le_of_ble_eq_true rfl) dX12_address_65 ?_
             refine R_if_eq 73 dX12_address_68 (by decide) (fun c68 => ?_) (fun c68 => absurd (by decide) c68)
             refine R_aload_0 dX12_address_73 ?_
             refine R_iload_1 dX12_address_74 ?_
             refine R_callV (T := mX12_address) (T' := mX12_readAddress) (As := [_]) (ci := 12) okX12_readAddress mlX12_172 rfl (by decide) sh_504 (ct_mreadAddress (hR.u (k := 0) (v := .int 0) (by decide)) (hl.f0 (k := 0) (v := .int 0) (by decide)) n12) rfl (by decide) (by decide) (Nat.le_of_ble_eq_true rfl) dX12_address_75 (fun v9 S9 V2 h9 => ?_) (fun E S9 V9 h9 => h9.elim)
             obtain ⟨rfl, g9⟩ := h9.or
             rcases g9 with ⟨q, er, hq, rfl, rfl⟩ | ⟨q, y, er, ey, rfl, hk, hf⟩
             · refine R_istore_3 rfl (by decide) dX12_address_78 ?_
               refine R_aload_0 dX12_address_79 ?_
               refine R_iconst (v := 0) dX12_address_80 (by decide) ?_
               refine pfX12_125 rfl dX12_address_81 sh_504 ?_
               refine R_iload_3 dX12_address_84 ?_
               refine R_iconst (v := -1) dX12_address_85 (by decide) ?_
               refine R_icmp_eq 93 dX12_address_86 (by decide) (fun c86 => absurd c86 (m1_ne (by omega))) (fun c86 => ?_)
               refine R_iconst (v := -1) dX12_address_89 (by decide) ?_
               refine R_iload_3 dX12_address_90 ?_
               refine R_isub dX12_address_91 ?_
               refine R_iret rfl dX12_address_92 ⟨rfl, (a_up_ne (Or.inr (by decide))).trans ((a_up_self _ _ _ _).trans (by rw [hx]; rfl)), ⟨_, rfl, fun _ => by unfold adA; rw [er]⟩, by rw [if_pos hx]; exact ML.nil (a_up_self _ _ _ _), by rw [if_pos hx, if_pos hx, ncl, show adE L ent n = ent by unfold adE; rw [er], show adC L cnt n = cnt by unfold adC; rw [er]]; exact hE.fr ((a_up_ne (Or.inr (by decide))).trans (a_up_ne (Or.inr (by decide)))) (fun b q1 _ => (a_up_row (by omega)).trans (a_up_row (by omega))), fun b q1 _ => (a_up_row q1).trans (a_up_row q1), fun k q1 q2 _ => (a_up_ne (Or.inr q2)).trans (a_up_ne (Or.inr q1))⟩
             · have e5 : V2 504 5 = .int (nI cnt) := (congrFun (hf.1 504 (by decide)) 5).trans ((a_up_ne (Or.inr (by decide))).trans h5)
               have e0 : V2 504 0 = .int 0 := (congrFun (hf.1 504 (by decide)) 0).trans (a_up_self _ _ _ _)
               have eE : adE L ent n = upN ent n y := by unfold adE; rw [er]; show upN ent n (entOf (encE y)) = _; rw [entOf_e ey]
               have eC : adC L cnt n = max cnt (n + 1) := by unfold adC; rw [er]
               have eA : adA L (nI n) = nI n := by unfold adA; rw [er]
               have hfr : ∀ k, k ≠ 2 → a_up V2 504 2 (.int 0) 504 k = V2 504 k := fun k hk => a_up_ne (Or.inr hk)
               have hmk : ∀ V9 : aV, (∀ b, b ≠ 504 → V9 b = V2 b) → ∀ k, k < 12 → MEk V9 k (upN ent n y k) := fun V9 hv k hk9 => by
                 have hb : MEk V2 k (upN ent n y k) := by
                   by_cases z : k = n
                   · subst z; rw [upN_s]; exact hk
                   · rw [upN_n z]
                     have hE1 : ME (a_up V 504 0 (.int 0)) ent cnt := hE.fr (a_up_ne (Or.inr (by decide))) (fun b q1 _ => a_up_row (by omega))
                     exact (hE1.2 k hk9).fra hf z (hEO k hk9).1.1 (hEO k hk9).2.1
                 obtain ⟨⟨b1, b2⟩, ⟨b3, b4⟩, ⟨b5, b6⟩, ⟨b7, b8⟩, b9, b10, b11⟩ := hb
                 exact ⟨⟨(congrFun (hv 509 (by decide)) k).trans b1, b2.fr (hv 508 (by decide))⟩, ⟨(congrFun (hv 511 (by decide)) k).trans b3, b4.fr (hv 510 (by decide))⟩, ⟨(congrFun (hv 513 (by decide)) k).trans b5, b6.fr (hv 512 (by decide))⟩, ⟨(congrFun (hv 515 (by decide)) k).trans b7, b8.fr (hv 514 (by decide))⟩, (congrFun (hv 516 (by decide)) k).trans b9, (congrFun (hv 517 (by decide)) k).trans b10, (congrFun (hv 518 (by decide)) k).trans b11⟩
               refine R_istore_3 rfl (by decide) dX12_address_78 ?_
               refine R_aload_0 dX12_address_79 ?_
               refine R_iconst (v := 0) dX12_address_80 (by decide) ?_
               refine pfX12_125 rfl dX12_address_81 sh_504 ?_
               refine R_iload_3 dX12_address_84 ?_
               refine R_iconst (v := -1) dX12_address_85 (by decide) ?_
               refine R_icmp_eq 93 dX12_address_86 (by decide) (fun c86 => ?_) (fun c86 => absurd rfl c86)
               refine R_iload_1 dX12_address_93 ?_
               refine R_aload_0 dX12_address_94 ?_
               refine gfX12_166 rfl dX12_address_95 sh_504 ((a_up_ne (Or.inr (by decide))).trans e5) ?_
               refine R_icmp_ne 111 dX12_address_98 (by decide) (fun c98 => ?_) (fun c98 => ?_)
               · refine R_iload_1 dX12_address_111 ?_
                 refine R_iret rfl dX12_address_112 (by first | exact ⟨rfl, ((a_up_ne (Or.inr (by decide))).trans (a_up_ne (Or.inr (by decide)))).trans (e0.trans (by rw [hx]; rfl)), ⟨_, rfl, fun _ => eA.symm⟩, by rw [if_pos hx]; exact ML.nil ((a_up_ne (Or.inr (by decide))).trans (a_up_self _ _ _ _)), by rw [if_pos hx, if_pos hx, ncl, eE, eC]; exact ⟨by rw [en, show max cnt (cnt + 1) = cnt + 1 by omega]; exact a_up_self _ _ _ _, hmk _ (fun b q => (a_up_row q).trans (a_up_row q))⟩, fun b q1 q2 => ((fun b q => (a_up_row q).trans (a_up_row q)) b q1).trans ((hf.1 b q2).trans (a_up_row q1)), fun k q1 q2 q3 => (a_up_ne (Or.inr q3)).trans ((a_up_ne (Or.inr q2)).trans ((congrFun (hf.1 504 (by decide)) k).trans (a_up_ne (Or.inr q1))))⟩ | exact ⟨rfl, (a_up_ne (Or.inr (by decide))).trans (e0.trans (by rw [hx]; rfl)), ⟨_, rfl, fun _ => eA.symm⟩, by rw [if_pos hx]; exact ML.nil (a_up_self _ _ _ _), by rw [if_pos hx, if_pos hx, ncl, eE, eC]; exact ⟨by rw [show max cnt (n + 1) = cnt by have : ¬ n = cnt := fun z => c98 (by rw [z]); omega]; exact (a_up_ne (Or.inr (by decide))).trans e5, hmk _ (fun b q => a_up_row q)⟩, fun b q1 q2 => ((fun b q => a_up_row q) b q1).trans ((hf.1 b q2).trans (a_up_row q1)), fun k q1 q2 q3 => (a_up_ne (Or.inr q2)).trans ((congrFun (hf.1 504 (by decide)) k).trans (a_up_ne (Or.inr q1)))⟩)
               · have en : n = cnt := (nI_eq hn (by omega)).1 c98
                 refine R_aload_0 dX12_address_101 ?_
                 refine R_dup dX12_address_102 rfl ?_
                 refine gfX12_166 rfl dX12_address_103 sh_504 ((a_up_ne (Or.inr (by decide))).trans e5) ?_
                 refine R_iconst (v := 1) dX12_address_106 (by decide) ?_
                 refine R_iadd dX12_address_107 ?_
                 rw [show nI cnt + 1 = nI (cnt + 1) from nI_1 _]
                 refine pfX12_166 rfl dX12_address_108 sh_504 ?_
                 refine R_iload_1 dX12_address_111 ?_
                 refine R_iret rfl dX12_address_112 (by first | exact ⟨rfl, ((a_up_ne (Or.inr (by decide))).trans (a_up_ne (Or.inr (by decide)))).trans (e0.trans (by rw [hx]; rfl)), ⟨_, rfl, fun _ => eA.symm⟩, by rw [if_pos hx]; exact ML.nil ((a_up_ne (Or.inr (by decide))).trans (a_up_self _ _ _ _)), by rw [if_pos hx, if_pos hx, ncl, eE, eC]; exact ⟨by rw [en, show max cnt (cnt + 1) = cnt + 1 by omega]; exact a_up_self _ _ _ _, hmk _ (fun b q => (a_up_row q).trans (a_up_row q))⟩, fun b q1 q2 => ((fun b q => (a_up_row q).trans (a_up_row q)) b q1).trans ((hf.1 b q2).trans (a_up_row q1)), fun k q1 q2 q3 => (a_up_ne (Or.inr q3)).trans ((a_up_ne (Or.inr q2)).trans ((congrFun (hf.1 504 (by decide)) k).trans (a_up_ne (Or.inr q1))))⟩ | exact ⟨rfl, (a_up_ne (Or.inr (by decide))).trans (e0.trans (by rw [hx]; rfl)), ⟨_, rfl, fun _ => eA.symm⟩, by rw [if_pos hx]; exact ML.nil (a_up_self _ _ _ _), by rw [if_pos hx, if_pos hx, ncl, eE, eC]; exact ⟨by rw [show max cnt (n + 1) = cnt by have : ¬ n = cnt := fun z => c98 (by rw [z]); omega]; exact (a_up_ne (Or.inr (by decide))).trans e5, hmk _ (fun b q => a_up_row q)⟩, fun b q1 q2 => ((fun b q => a_up_row q) b q1).trans ((hf.1 b q2).trans (a_up_row q1)), fun k q1 q2 q3 => (a_up_ne (Or.inr q2)).trans ((congrFun (hf.1 504 (by decide)) k).trans (a_up_ne (Or.inr q1)))⟩)
           · have hx : xcA cnt mt (nI n) = 2 := by
               unfold xcA
               rw [if_neg (not_not_intro hth), ncl]
               have n9 : ¬ n = cnt := fun z => c32 (by rw [z])
               exact if_pos (Or.inr ((anyB_iff hm (by omega) hc12).1 (bI_ne c57)))
             refine R_iconst (v := 2) dX12_address_60 (by decide) ?_
             refine R_goto 65 dX12_address_61 (by decide) ?_
             refine R_callV_e (T := mX12_address) (T' := mX12_fails) (As := [_]) (ci := 12) okX12_fails mlX12_128 rfl (by decide) sh_504 (ct_mfails _) rfl (by decide) (by decide) (Nat.le_of_ble_eq_true rfl) dX12_address_65 ?_
             refine R_if_eq 73 dX12_address_68 (by decide) (fun c68 => absurd c68 (by decide)) (fun c68 => ?_)
             refine R_iconst (v := 0) dX12_address_71 (by decide) ?_
             refine R_iret rfl dX12_address_72 ⟨rfl, (a_up_self _ _ _ _).trans (by rw [hx]; rfl), ⟨_, rfl, fun z => by rw [hx] at z; cases z⟩, by rw [if_neg (by rw [hx]; decide)]; exact hl.f0 (by decide), by rw [if_neg (by rw [hx]; decide), if_neg (by rw [hx]; decide)]; exact hE.fr (a_up_ne (Or.inr (by decide))) (fun b q1 _ => a_up_row (by omega)), fun b q1 _ => a_up_row q1, fun k q1 _ _ => a_up_ne (Or.inr q1)⟩
         · refine R_aload_0 dX12_address_35 ?_
           refine gfX12_166 rfl dX12_address_36 sh_504 (by first | assumption | exact a_up_self _ _ _ _ | exact (a_up_ne (by omega)).trans (by assumption) | exact (a_up_ne (by omega)).trans (a_up_self _ _ _ _) | exact (a_up_ne (by omega)).trans ((a_up_ne (by omega)).trans (by assumption)) | exact (a_up_ne (by omega)).trans ((a_up_ne (by omega)).trans (a_up_self _ _ _ _)) | exact (a_up_ne (by omega)).trans ((a_up_ne (by omega)).trans ((a_up_ne (by omega)).trans (by assumption))) | exact (a_up_ne (by omega)).trans ((a_up_ne (by omega)).trans ((a_up_ne (by omega)).trans (a_up_self _ _ _ _))) | exact (a_up_ne (by omega)).trans ((a_up_ne (by omega)).trans ((a_up_ne (by omega)).trans ((a_up_ne (by omega)).trans (by assumption)))) | exact (a_up_ne (by omega)).trans ((a_up_ne (by omega)).trans ((a_up_ne (by omega)).trans ((a_up_ne (by omega)).trans (a_up_self _ _ _ _)))) | exact (a_up_ne (by omega)).trans ((a_up_ne (by omega)).trans ((a_up_ne (by omega)).trans ((a_up_ne (by omega)).trans ((a_up_ne (by omega)).trans (by assumption))))) | exact (a_up_ne (by omega)).trans ((a_up_ne (by omega)).trans ((a_up_ne (by omega)).trans ((a_up_ne (by omega)).trans ((a_up_ne (by omega)).trans (a_up_self _ _ _ _)))))) ?_
           refine R_bipush (v := 12) dX12_address_39 (by decide) ?_
           refine R_icmp_ge 48 dX12_address_41 (by decide) (fun c41 => ?_) (fun c41 => ?_)
           · have hx : xcA cnt mt (nI n) = 2 := by
               unfold xcA
               rw [if_neg (not_not_intro hth), ncl]
               refine if_pos (Or.inl ?_)
               rw [c32]
               exact c41
             refine R_iconst (v := 2) dX12_address_48 (by decide) ?_
             refine R_goto 65 dX12_address_49 (by decide) ?_
             refine R_callV_e (T := mX12_address) (T' := mX12_fails) (As := [_]) (ci := 12) okX12_fails mlX12_128 rfl (by decide) sh_504 (ct_mfails _) rfl (by decide) (by decide) (Nat.le_of_ble_eq_true rfl) dX12_address_65 ?_
             refine R_if_eq 73 dX12_address_68 (by decide) (fun c68 => absurd c68 (by decide)) (fun c68 => ?_)
             refine R_iconst (v := 0) dX12_address_71 (by decide) ?_
             refine R_iret rfl dX12_address_72 ⟨rfl, (a_up_self _ _ _ _).trans (by rw [hx]; rfl), ⟨_, rfl, fun z => by rw [hx] at z; cases z⟩, by rw [if_neg (by rw [hx]; decide)]; exact hl.f0 (by decide), by rw [if_neg (by rw [hx]; decide), if_neg (by rw [hx]; decide)]; exact hE.fr (a_up_ne (Or.inr (by decide))) (fun b q1 _ => a_up_row (by omega)), fun b q1 _ => a_up_row q1, fun k q1 _ _ => a_up_ne (Or.inr q1)⟩
           · have ne : n = cnt := (nI_eq hn (by omega)).1 c32
             have n12 : n < 12 := by
               have : cnt < 12 := (nI_ltI (b := 12) (by omega) (by decide)).1 (by first | exact Int32.not_le.1 c41 | exact c41)
               omega
             have hx : xcA cnt mt (nI n) = 0 := by
               unfold xcA
               rw [if_neg (not_not_intro hth), ncl]
               refine if_neg (fun z => z.elim (fun z => ?_) (fun z => ?_))
               · exact nI_ge (a := n) (b := 12) n12 (by decide) z
               · obtain ⟨i, hi⟩ := Nat.exists_testBit_of_ne_zero z
                 have i12 : i < 12 := Nat.lt_of_not_le fun q => by
                   rw [Nat.testBit_lt_two_pow (Nat.lt_of_lt_of_le (hm.1 n n12) (Nat.pow_le_pow_right (by decide) q))] at hi
                   cases hi
                 have := (hm.2 n i n12 i12 hi).1
                 omega
             refine R_iconst (v := 0) dX12_address_44 (by decide) ?_
             refine R_goto 65 dX12_address_45 (by decide) ?_
             refine R_callV_e (T := mX12_address) (T' := mX12_fails) (As := [_]) (ci := 12) okX12_fails mlX12_128 rfl (by decide) sh_504 (ct_mfails _) rfl (by decide) (by decide) (Nat.le_of_ble_eq_true rfl) dX12_address_65 ?_
             refine R_if_eq 73 dX12_address_68 (by decide) (fun c68 => ?_) (fun c68 => absurd (by decide) c68)
             refine R_aload_0 dX12_address_73 ?_
             refine R_iload_1 dX12_address_74 ?_
             refine R_callV (T := mX12_address) (T' := mX12_readAddress) (As := [_]) (ci := 12) okX12_readAddress mlX12_172 rfl (by decide) sh_504 (ct_mreadAddress (hR.u (k := 0) (v := .int 0) (by decide)) (hl.f0 (k := 0) (v := .int 0) (by decide)) n12) rfl (by decide) (by decide) (Nat.le_of_ble_eq_true rfl) dX12_address_75 (fun v9 S9 V2 h9 => ?_) (fun E S9 V9 h9 => h9.elim)
             obtain ⟨rfl, g9⟩ := h9.or
             rcases g9 with ⟨q, er, hq, rfl, rfl⟩ | ⟨q, y, er, ey, rfl, hk, hf⟩
             · refine R_istore_3 rfl (by decide) dX12_address_78 ?_
               refine R_aload_0 dX12_address_79 ?_
               refine R_iconst (v := 0) dX12_address_80 (by decide) ?_
               refine pfX12_125 rfl dX12_address_81 sh_504 ?_
               refine R_iload_3 dX12_address_84 ?_
               refine R_iconst (v := -1) dX12_address_85 (by decide) ?_
               refine R_icmp_eq 93 dX12_address_86 (by decide) (fun c86 => absurd c86 (m1_ne (by omega))) (fun c86 => ?_)
               refine R_iconst (v := -1) dX12_address_89 (by decide) ?_
               refine R_iload_3 dX12_address_90 ?_
               refine R_isub dX12_address_91 ?_
               refine R_iret rfl dX12_address_92 ⟨rfl, (a_up_ne (Or.inr (by decide))).trans ((a_up_self _ _ _ _).trans (by rw [hx]; rfl)), ⟨_, rfl, fun _ => by unfold adA; rw [er]⟩, by rw [if_pos hx]; exact ML.nil (a_up_self _ _ _ _), by rw [if_pos hx, if_pos hx, ncl, show adE L ent n = ent by unfold adE; rw [er], show adC L cnt n = cnt by unfold adC; rw [er]]; exact hE.fr ((a_up_ne (Or.inr (by decide))).trans (a_up_ne (Or.inr (by decide)))) (fun b q1 _ => (a_up_row (by omega)).trans (a_up_row (by omega))), fun b q1 _ => (a_up_row q1).trans (a_up_row q1), fun k q1 q2 _ => (a_up_ne (Or.inr q2)).trans (a_up_ne (Or.inr q1))⟩
             · have e5 : V2 504 5 = .int (nI cnt) := (congrFun (hf.1 504 (by decide)) 5).trans ((a_up_ne (Or.inr (by decide))).trans h5)
               have e0 : V2 504 0 = .int 0 := (congrFun (hf.1 504 (by decide)) 0).trans (a_up_self _ _ _ _)
               have eE : adE L ent n = upN ent n y := by unfold adE; rw [er]; show upN ent n (entOf (encE y)) = _; rw [entOf_e ey]
               have eC : adC L cnt n = max cnt (n + 1) := by unfold adC; rw [er]
               have eA : adA L (nI n) = nI n := by unfold adA; rw [er]
               have hfr : ∀ k, k ≠ 2 → a_up V2 504 2 (.int 0) 504 k = V2 504 k := fun k hk => a_up_ne (Or.inr hk)
               have hmk : ∀ V9 : aV, (∀ b, b ≠ 504 → V9 b = V2 b) → ∀ k, k < 12 → MEk V9 k (upN ent n y k) := fun V9 hv k hk9 => by
                 have hb : MEk V2 k (upN ent n y k) := by
                   by_cases z : k = n
                   · subst z; rw [upN_s]; exact hk
                   · rw [upN_n z]
                     have hE1 : ME (a_up V 504 0 (.int 0)) ent cnt := hE.fr (a_up_ne (Or.inr (by decide))) (fun b q1 _ => a_up_row (by omega))
                     exact (hE1.2 k hk9).fra hf z (hEO k hk9).1.1 (hEO k hk9).2.1
                 obtain ⟨⟨b1, b2⟩, ⟨b3, b4⟩, ⟨b5, b6⟩, ⟨b7, b8⟩, b9, b10, b11⟩ := hb
                 exact ⟨⟨(congrFun (hv 509 (by decide)) k).trans b1, b2.fr (hv 508 (by decide))⟩, ⟨(congrFun (hv 511 (by decide)) k).trans b3, b4.fr (hv 510 (by decide))⟩, ⟨(congrFun (hv 513 (by decide)) k).trans b5, b6.fr (hv 512 (by decide))⟩, ⟨(congrFun (hv 515 (by decide)) k).trans b7, b8.fr (hv 514 (by decide))⟩, (congrFun (hv 516 (by decide)) k).trans b9, (congrFun (hv 517 (by decide)) k).trans b10, (congrFun (hv 518 (by decide)) k).trans b11⟩
               refine R_istore_3 rfl (by decide) dX12_address_78 ?_
               refine R_aload_0 dX12_address_79 ?_
               refine R_iconst (v := 0) dX12_address_80 (by decide) ?_
               refine pfX12_125 rfl dX12_address_81 sh_504 ?_
               refine R_iload_3 dX12_address_84 ?_
               refine R_iconst (v := -1) dX12_address_85 (by decide) ?_
               refine R_icmp_eq 93 dX12_address_86 (by decide) (fun c86 => ?_) (fun c86 => absurd rfl c86)
               refine R_iload_1 dX12_address_93 ?_
               refine R_aload_0 dX12_address_94 ?_
               refine gfX12_166 rfl dX12_address_95 sh_504 ((a_up_ne (Or.inr (by decide))).trans e5) ?_
               refine R_icmp_ne 111 dX12_address_98 (by decide) (fun c98 => ?_) (fun c98 => ?_)
               · refine R_iload_1 dX12_address_111 ?_
                 refine R_iret rfl dX12_address_112 (by first | exact ⟨rfl, ((a_up_ne (Or.inr (by decide))).trans (a_up_ne (Or.inr (by decide)))).trans (e0.trans (by rw [hx]; rfl)), ⟨_, rfl, fun _ => eA.symm⟩, by rw [if_pos hx]; exact ML.nil ((a_up_ne (Or.inr (by decide))).trans (a_up_self _ _ _ _)), by rw [if_pos hx, if_pos hx, ncl, eE, eC]; exact ⟨by rw [en, show max cnt (cnt + 1) = cnt + 1 by omega]; exact a_up_self _ _ _ _, hmk _ (fun b q => (a_up_row q).trans (a_up_row q))⟩, fun b q1 q2 => ((fun b q => (a_up_row q).trans (a_up_row q)) b q1).trans ((hf.1 b q2).trans (a_up_row q1)), fun k q1 q2 q3 => (a_up_ne (Or.inr q3)).trans ((a_up_ne (Or.inr q2)).trans ((congrFun (hf.1 504 (by decide)) k).trans (a_up_ne (Or.inr q1))))⟩ | exact ⟨rfl, (a_up_ne (Or.inr (by decide))).trans (e0.trans (by rw [hx]; rfl)), ⟨_, rfl, fun _ => eA.symm⟩, by rw [if_pos hx]; exact ML.nil (a_up_self _ _ _ _), by rw [if_pos hx, if_pos hx, ncl, eE, eC]; exact ⟨by rw [show max cnt (n + 1) = cnt by have : ¬ n = cnt := fun z => c98 (by rw [z]); omega]; exact (a_up_ne (Or.inr (by decide))).trans e5, hmk _ (fun b q => a_up_row q)⟩, fun b q1 q2 => ((fun b q => a_up_row q) b q1).trans ((hf.1 b q2).trans (a_up_row q1)), fun k q1 q2 q3 => (a_up_ne (Or.inr q2)).trans ((congrFun (hf.1 504 (by decide)) k).trans (a_up_ne (Or.inr q1)))⟩)
               · have en : n = cnt := (nI_eq hn (by omega)).1 c98
                 refine R_aload_0 dX12_address_101 ?_
                 refine R_dup dX12_address_102 rfl ?_
                 refine gfX12_166 rfl dX12_address_103 sh_504 ((a_up_ne (Or.inr (by decide))).trans e5) ?_
                 refine R_iconst (v := 1) dX12_address_106 (by decide) ?_
                 refine R_iadd dX12_address_107 ?_
                 rw [show nI cnt + 1 = nI (cnt + 1) from nI_1 _]
                 refine pfX12_166 rfl dX12_address_108 sh_504 ?_
                 refine R_iload_1 dX12_address_111 ?_
                 refine R_iret rfl dX12_address_112 (by first | exact ⟨rfl, ((a_up_ne (Or.inr (by decide))).trans (a_up_ne (Or.inr (by decide)))).trans (e0.trans (by rw [hx]; rfl)), ⟨_, rfl, fun _ => eA.symm⟩, by rw [if_pos hx]; exact ML.nil ((a_up_ne (Or.inr (by decide))).trans (a_up_self _ _ _ _)), by rw [if_pos hx, if_pos hx, ncl, eE, eC]; exact ⟨by rw [en, show max cnt (cnt + 1) = cnt + 1 by omega]; exact a_up_self _ _ _ _, hmk _ (fun b q => (a_up_row q).trans (a_up_row q))⟩, fun b q1 q2 => ((fun b q => (a_up_row q).trans (a_up_row q)) b q1).trans ((hf.1 b q2).trans (a_up_row q1)), fun k q1 q2 q3 => (a_up_ne (Or.inr q3)).trans ((a_up_ne (Or.inr q2)).trans ((congrFun (hf.1 504 (by decide)) k).trans (a_up_ne (Or.inr q1))))⟩ | exact ⟨rfl, (a_up_ne (Or.inr (by decide))).trans (e0.trans (by rw [hx]; rfl)), ⟨_, rfl, fun _ => eA.symm⟩, by rw [if_pos hx]; exact ML.nil (a_up_self _ _ _ _), by rw [if_pos hx, if_pos hx, ncl, eE, eC]; exact ⟨by rw [show max cnt (n + 1) = cnt by have : ¬ n = cnt := fun z => c98 (by rw [z]); omega]; exact (a_up_ne (Or.inr (by decide))).trans e5, hmk _ (fun b q => a_up_row q)⟩, fun b q1 q2 => ((fun b q => a_up_row q) b q1).trans ((hf.1 b q2).trans (a_up_row q1)), fun k q1 q2 q3 => (a_up_ne (Or.inr q2)).trans ((congrFun (hf.1 504 (by decide)) k).trans (a_up_ne (Or.inr q1)))⟩))
  · refine R_iload_1 dX12_address_4 ?_
    refine R_aload_0 dX12_address_5 ?_
    refine gfX12_166 rfl dX12_address_6 sh_504 (by first | assumption | exact a_up_self _ _ _ _ | exact (a_up_ne (by omega)).trans (by assumption) | exact (a_up_ne (by omega)).trans (a_up_self _ _ _ _) | exact (a_up_ne (by omega)).trans ((a_up_ne (by omega)).trans (by assumption)) | exact (a_up_ne (by omega)).trans ((a_up_ne (by omega)).trans (a_up_self _ _ _ _)) | exact (a_up_ne (by omega)).trans ((a_up_ne (by omega)).trans ((a_up_ne (by omega)).trans (by assumption))) | exact (a_up_ne (by omega)).trans ((a_up_ne (by omega)).trans ((a_up_ne (by omega)).trans (a_up_self _ _ _ _))) | exact (a_up_ne (by omega)).trans ((a_up_ne (by omega)).trans ((a_up_ne (by omega)).trans ((a_up_ne (by omega)).trans (by assumption)))) | exact (a_up_ne (by omega)).trans ((a_up_ne (by omega)).trans ((a_up_ne (by omega)).trans ((a_up_ne (by omega)).trans (a_up_self _ _ _ _)))) | exact (a_up_ne (by omega)).trans ((a_up_ne (by omega)).trans ((a_up_ne (by omega)).trans ((a_up_ne (by omega)).trans ((a_up_ne (by omega)).trans (by assumption))))) | exact (a_up_ne (by omega)).trans ((a_up_ne (by omega)).trans ((a_up_ne (by omega)).trans ((a_up_ne (by omega)).trans ((a_up_ne (by omega)).trans (a_up_self _ _ _ _)))))) ?_
    refine R_icmp_gt 16 dX12_address_9 (by decide) (fun c9 => ?_) (fun c9 => ?_)
    · refine R_iconst (v := 0) dX12_address_16 (by decide) ?_
      first
        | (have hx : xcA cnt mt t = 1 := if_pos (fun z => (by first | exact z.1 c1 | exact absurd z.2 (Int32.not_le.2 (by first | exact c9 | exact Int32.not_le.1 c9))))
           refine R_istore_2 rfl (by decide) dX12_address_17 ?_
           refine R_aload_0 dX12_address_18 ?_
           refine R_iload_2 dX12_address_19 ?_
           refine R_if_ne 27 dX12_address_20 (by decide) (fun c20 => absurd rfl c20) (fun c20 => ?_)
           refine R_iconst (v := 1) dX12_address_23 (by decide) ?_
           refine R_goto 65 dX12_address_24 (by decide) ?_
           refine R_callV_e (T := mX12_address) (T' := mX12_fails) (As := [_]) (ci := 12) okX12_fails mlX12_128 rfl (by decide) sh_504 (ct_mfails _) rfl (by decide) (by decide) (Nat.le_of_ble_eq_true rfl) dX12_address_65 ?_
           refine R_if_eq 73 dX12_address_68 (by decide) (fun c68 => absurd c68 (by decide)) (fun c68 => ?_)
           refine R_iconst (v := 0) dX12_address_71 (by decide) ?_
           refine R_iret rfl dX12_address_72 ⟨rfl, (a_up_self _ _ _ _).trans (by rw [hx]; rfl), ⟨_, rfl, fun z => by rw [hx] at z; cases z⟩, by rw [if_neg (by rw [hx]; decide)]; exact hl.f0 (by decide), by rw [if_neg (by rw [hx]; decide), if_neg (by rw [hx]; decide)]; exact hE.fr (a_up_ne (Or.inr (by decide))) (fun b q1 _ => a_up_row (by omega)), fun b q1 _ => a_up_row q1, fun k q1 _ _ => a_up_ne (Or.inr q1)⟩)
        | (have hth : ¬ t < 0 ∧ t ≤ nI cnt := ⟨c1, (by first | exact Int32.not_lt.1 c9 | exact c9)⟩
           obtain ⟨n, hn, rfl⟩ := nI_of c1
           have nc : n ≤ cnt := (nI_leI hn (by omega)).1 hth.2
           have ncl := nI_clamp hn
           refine R_istore_2 rfl (by decide) dX12_address_17 ?_
           refine R_aload_0 dX12_address_18 ?_
           refine R_iload_2 dX12_address_19 ?_
           refine R_if_ne 27 dX12_address_20 (by decide) (fun c20 => ?_) (fun c20 => absurd c20 (by decide))
           refine R_iload_1 dX12_address_27 ?_
           refine R_aload_0 dX12_address_28 ?_
           refine gfX12_166 rfl dX12_address_29 sh_504 (by first | assumption | exact a_up_self _ _ _ _ | exact (a_up_ne (by omega)).trans (by assumption) | exact (a_up_ne (by omega)).trans (a_up_self _ _ _ _) | exact (a_up_ne (by omega)).trans ((a_up_ne (by omega)).trans (by assumption)) | exact (a_up_ne (by omega)).trans ((a_up_ne (by omega)).trans (a_up_self _ _ _ _)) | exact (a_up_ne (by omega)).trans ((a_up_ne (by omega)).trans ((a_up_ne (by omega)).trans (by assumption))) | exact (a_up_ne (by omega)).trans ((a_up_ne (by omega)).trans ((a_up_ne (by omega)).trans (a_up_self _ _ _ _))) | exact (a_up_ne (by omega)).trans ((a_up_ne (by omega)).trans ((a_up_ne (by omega)).trans ((a_up_ne (by omega)).trans (by assumption)))) | exact (a_up_ne (by omega)).trans ((a_up_ne (by omega)).trans ((a_up_ne (by omega)).trans ((a_up_ne (by omega)).trans (a_up_self _ _ _ _)))) | exact (a_up_ne (by omega)).trans ((a_up_ne (by omega)).trans ((a_up_ne (by omega)).trans ((a_up_ne (by omega)).trans ((a_up_ne (by omega)).trans (by assumption))))) | exact (a_up_ne (by omega)).trans ((a_up_ne (by omega)).trans ((a_up_ne (by omega)).trans ((a_up_ne (by omega)).trans ((a_up_ne (by omega)).trans (a_up_self _ _ _ _)))))) ?_
           refine R_icmp_ne 52 dX12_address_32 (by decide) (fun c32 => ?_) (fun c32 => ?_)
           · refine R_aload_0 dX12_address_52 ?_
             refine R_iload_1 dX12_address_53 ?_
             refine R_callV_e (T := mX12_address) (T' := mX12_isMatched) (As := [_]) (ci := 12) okX12_isMatched mlX12_169 rfl (by decide) sh_504 (ct_isMatched (t := n) hR h5 hM hc12 (by have : ¬ n = cnt := fun z => c32 (by rw [z]); omega)) rfl (by decide) (by decide) (Nat.le_of_ble_eq_true rfl) dX12_address_54 ?_
             refine R_if_eq 64 dX12_address_57 (by decide) (fun c57 => ?_) (fun c57 => ?_)
             · have ne : ¬ n = cnt := fun z => c32 (by rw [z])
               have n12 : n < 12 := by omega
               have hx : xcA cnt mt (nI n) = 0 := by
                 unfold xcA
                 rw [if_neg (not_not_intro hth), ncl]
                 refine if_neg (fun z => z.elim (fun z => ?_) (fun z => ?_))
                 · exact nI_ge (a := n) (b := 12) n12 (by decide) z
                 · exact bI_eq c57 ((anyB_iff hm n12 hc12).2 z)
               refine R_iconst (v := 0) dX12_address_64 (by decide) ?_
               refine R_callV_e (T := mX12_address) (T' := mX12_fails) (As := [_]) (ci := 12) okX12_fails mlX12_128 rfl (by decide) sh_504 (ct_mfails _) rfl (by decide) (by decide) (Nat.le_of_ble_eq_true rfl) dX12_address_65 ?_
               refine R_if_eq 73 dX12_address_68 (by decide) (fun c68 => ?_) (fun c68 => absurd (by decide) c68)
               refine R_aload_0 dX12_address_73 ?_
               refine R_iload_1 dX12_address_74 ?_
               refine R_callV (T := mX12_address) (T' := mX12_readAddress) (As := [_]) (ci := 12) okX12_readAddress mlX12_172 rfl (by decide) sh_504 (ct_mreadAddress (hR.u (k := 0) (v := .int 0) (by decide)) (hl.f0 (k := 0) (v := .int 0) (by decide)) n12) rfl (by decide) (by decide) (Nat.le_of_ble_eq_true rfl) dX12_address_75 (fun v9 S9 V2 h9 => ?_) (fun E S9 V9 h9 => h9.elim)
               obtain ⟨rfl, g9⟩ := h9.or
               rcases g9 with ⟨q, er, hq, rfl, rfl⟩ | ⟨q, y, er, ey, rfl, hk, hf⟩
               · refine R_istore_3 rfl (by decide) dX12_address_78 ?_
                 refine R_aload_0 dX12_address_79 ?_
                 refine R_iconst (v := 0) dX12_address_80 (by decide) ?_
                 refine pfX12_125 rfl dX12_address_81 sh_504 ?_
                 refine R_iload_3 dX12_address_84 ?_
                 refine R_iconst (v := -1) dX12_address_85 (by decide) ?_
                 refine R_icmp_eq 93 dX12_address_86 (by decide) (fun c86 => absurd c86 (m1_ne (by omega))) (fun c86 => ?_)
                 refine R_iconst (v := -1) dX12_address_89 (by decide) ?_
                 refine R_iload_3 dX12_address_90 ?_
                 refine R_isub dX12_address_91 ?_
                 refine R_iret rfl dX12_address_92 ⟨rfl, (a_up_ne (Or.inr (by decide))).trans ((a_up_self _ _ _ _).trans (by rw [hx]; rfl)), ⟨_, rfl, fun _ => by unfold adA; rw [er]⟩, by rw [if_pos hx]; exact ML.nil (a_up_self _ _ _ _), by rw [if_pos hx, if_pos hx, ncl, show adE L ent n = ent by unfold adE; rw [er], show adC L cnt n = cnt by unfold adC; rw [er]]; exact hE.fr ((a_up_ne (Or.inr (by decide))).trans (a_up_ne (Or.inr (by decide)))) (fun b q1 _ => (a_up_row (by omega)).trans (a_up_row (by omega))), fun b q1 _ => (a_up_row q1).trans (a_up_row q1), fun k q1 q2 _ => (a_up_ne (Or.inr q2)).trans (a_up_ne (Or.inr q1))⟩
               · have e5 : V2 504 5 = .int (nI cnt) := (congrFun (hf.1 504 (by decide)) 5).trans ((a_up_ne (Or.inr (by decide))).trans h5)
                 have e0 : V2 504 0 = .int 0 := (congrFun (hf.1 504 (by decide)) 0).trans (a_up_self _ _ _ _)
                 have eE : adE L ent n = upN ent n y := by unfold adE; rw [er]; show upN ent n (entOf (encE y)) = _; rw [entOf_e ey]
                 have eC : adC L cnt n = max cnt (n + 1) := by unfold adC; rw [er]
                 have eA : adA L (nI n) = nI n := by unfold adA; rw [er]
                 have hfr : ∀ k, k ≠ 2 → a_up V2 504 2 (.int 0) 504 k = V2 504 k := fun k hk => a_up_ne (Or.inr hk)
                 have hmk : ∀ V9 : aV, (∀ b, b ≠ 504 → V9 b = V2 b) → ∀ k, k < 12 → MEk V9 k (upN ent n y k) := fun V9 hv k hk9 => by
                   have hb : MEk V2 k (upN ent n y k) := by
                     by_cases z : k = n
                     · subst z; rw [upN_s]; exact hk
                     · rw [upN_n z]
                       have hE1 : ME (a_up V 504 0 (.int 0)) ent cnt := hE.fr (a_up_ne (Or.inr (by decide))) (fun b q1 _ => a_up_row (by omega))
                       exact (hE1.2 k hk9).fra hf z (hEO k hk9).1.1 (hEO k hk9).2.1
                   obtain ⟨⟨b1, b2⟩, ⟨b3, b4⟩, ⟨b5, b6⟩, ⟨b7, b8⟩, b9, b10, b11⟩ := hb
                   exact ⟨⟨(congrFun (hv 509 (by decide)) k).trans b1, b2.fr (hv 508 (by decide))⟩, ⟨(congrFun (hv 511 (by decide)) k).trans b3, b4.fr (hv 510 (by decide))⟩, ⟨(congrFun (hv 513 (by decide)) k).trans b5, b6.fr (hv 512 (by decide))⟩, ⟨(congrFun (hv 515 (by decide)) k).trans b7, b8.fr (hv 514 (by decide))⟩, (congrFun (hv 516 (by decide)) k).trans b9, (congrFun (hv 517 (by decide)) k).trans b10, (congrFun (hv 518 (by decide)) k).trans b11⟩
                 refine R_istore_3 rfl (by decide) dX12_address_78 ?_
                 refine R_aload_0 dX12_address_79 ?_
                 refine R_iconst (v := 0) dX12_address_80 (by decide) ?_
                 refine pfX12_125 rfl dX12_address_81 sh_504 ?_
                 refine R_iload_3 dX12_address_84 ?_
                 refine R_iconst (v := -1) dX12_address_85 (by decide) ?_
                 refine R_icmp_eq 93 dX12_address_86 (by decide) (fun c86 => ?_) (fun c86 => absurd rfl c86)
                 refine R_iload_1 dX12_address_93 ?_
                 refine R_aload_0 dX12_address_94 ?_
                 refine gfX12_166 rfl dX12_address_95 sh_504 ((a_up_ne (Or.inr (by decide))).trans e5) ?_
                 refine R_icmp_ne 111 dX12_address_98 (by decide) (fun c98 => ?_) (fun c98 => ?_)
                 · refine R_iload_1 dX12_address_111 ?_
                   refine R_iret rfl dX12_address_112 (by first | exact ⟨rfl, ((a_up_ne (Or.inr (by decide))).trans (a_up_ne (Or.inr (by decide)))).trans (e0.trans (by rw [hx]; rfl)), ⟨_, rfl, fun _ => eA.symm⟩, by rw [if_pos hx]; exact ML.nil ((a_up_ne (Or.inr (by decide))).trans (a_up_self _ _ _ _)), by rw [if_pos hx, if_pos hx, ncl, eE, eC]; exact ⟨by rw [en, show max cnt (cnt + 1) = cnt + 1 by omega]; exact a_up_self _ _ _ _, hmk _ (fun b q => (a_up_row q).trans (a_up_row q))⟩, fun b q1 q2 => ((fun b q => (a_up_row q).trans (a_up_row q)) b q1).trans ((hf.1 b q2).trans (a_up_row q1)), fun k q1 q2 q3 => (a_up_ne (Or.inr q3)).trans ((a_up_ne (Or.inr q2)).trans ((congrFun (hf.1 504 (by decide)) k).trans (a_up_ne (Or.inr q1))))⟩ | exact ⟨rfl, (a_up_ne (Or.inr (by decide))).trans (e0.trans (by rw [hx]; rfl)), ⟨_, rfl, fun _ => eA.symm⟩, by rw [if_pos hx]; exact ML.nil (a_up_self _ _ _ _), by rw [if_pos hx, if_pos hx, ncl, eE, eC]; exact ⟨by rw [show max cnt (n + 1) = cnt by have : ¬ n = cnt := fun z => c98 (by rw [z]); omega]; exact (a_up_ne (Or.inr (by decide))).trans e5, hmk _ (fun b q => a_up_row q)⟩, fun b q1 q2 => ((fun b q => a_up_row q) b q1).trans ((hf.1 b q2).trans (a_up_row q1)), fun k q1 q2 q3 => (a_up_ne (Or.inr q2)).trans ((congrFun (hf.1 504 (by decide)) k).trans (a_up_ne (Or.inr q1)))⟩)
                 · have en : n = cnt := (nI_eq hn (by omega)).1 c98
                   refine R_aload_0 dX12_address_101 ?_
                   refine R_dup dX12_address_102 rfl ?_
                   refine gfX12_166 rfl dX12_address_103 sh_504 ((a_up_ne (Or.inr (by decide))).trans e5) ?_
                   refine R_iconst (v := 1) dX12_address_106 (by decide) ?_
                   refine R_iadd dX12_address_107 ?_
                   rw [show nI cnt + 1 = nI (cnt + 1) from nI_1 _]
                   refine pfX12_166 rfl dX12_address_108 sh_504 ?_
                   refine R_iload_1 dX12_address_111 ?_
                   refine R_iret rfl dX12_address_112 (by first | exact ⟨rfl, ((a_up_ne (Or.inr (by decide))).trans (a_up_ne (Or.inr (by decide)))).trans (e0.trans (by rw [hx]; rfl)), ⟨_, rfl, fun _ => eA.symm⟩, by rw [if_pos hx]; exact ML.nil ((a_up_ne (Or.inr (by decide))).trans (a_up_self _ _ _ _)), by rw [if_pos hx, if_pos hx, ncl, eE, eC]; exact ⟨by rw [en, show max cnt (cnt + 1) = cnt + 1 by omega]; exact a_up_self _ _ _ _, hmk _ (fun b q => (a_up_row q).trans (a_up_row q))⟩, fun b q1 q2 => ((fun b q => (a_up_row q).trans (a_up_row q)) b q1).trans ((hf.1 b q2).trans (a_up_row q1)), fun k q1 q2 q3 => (a_up_ne (Or.inr q3)).trans ((a_up_ne (Or.inr q2)).trans ((congrFun (hf.1 504 (by decide)) k).trans (a_up_ne (Or.inr q1))))⟩ | exact ⟨rfl, (a_up_ne (Or.inr (by decide))).trans (e0.trans (by rw [hx]; rfl)), ⟨_, rfl, fun _ => eA.symm⟩, by rw [if_pos hx]; exact ML.nil (a_up_self _ _ _ _), by rw [if_pos hx, if_pos hx, ncl, eE, eC]; exact ⟨by rw [show max cnt (n + 1) = cnt by have : ¬ n = cnt := fun z => c98 (by rw [z]); omega]; exact (a_up_ne (Or.inr (by decide))).trans e5, hmk _ (fun b q => a_up_row q)⟩, fun b q1 q2 => ((fun b q => a_up_row q) b q1).trans ((hf.1 b q2).trans (a_up_row q1)), fun k q1 q2 q3 => (a_up_ne (Or.inr q2)).trans ((congrFun (hf.1 504 (by decide)) k).trans (a_up_ne (Or.inr q1)))⟩)
             · have hx : xcA cnt mt (nI n) = 2 := by
                 unfold xcA
                 rw [if_neg (not_not_intro hth), ncl]
                 have n9 : ¬ n = cnt := fun z => c32 (by rw [z])
                 exact if_pos (Or.inr ((anyB_iff hm (by omega) hc12).1 (bI_ne c57)))
               refine R_iconst (v := 2) dX12_address_60 (by decide) ?_
               refine R_goto 65 dX12_address_61 (by decide) ?_
               refine R_callV_e (T := mX12_address) (T' := mX12_fails) (As := [_]) (ci := 12) okX12_fails mlX12_128 rfl (by decide) sh_504 (ct_mfails _) rfl (by decide) (by decide) (Nat.le_of_ble_eq_true rfl) dX12_address_65 ?_
               refine R_if_eq 73 dX12_address_68 (by decide) (fun c68 => absurd c68 (by decide)) (fun c68 => ?_)
               refine R_iconst (v := 0) dX12_address_71 (by decide) ?_
               refine R_iret rfl dX12_address_72 ⟨rfl, (a_up_self _ _ _ _).trans (by rw [hx]; rfl), ⟨_, rfl, fun z => by rw [hx] at z; cases z⟩, by rw [if_neg (by rw [hx]; decide)]; exact hl.f0 (by decide), by rw [if_neg (by rw [hx]; decide), if_neg (by rw [hx]; decide)]; exact hE.fr (a_up_ne (Or.inr (by decide))) (fun b q1 _ => a_up_row (by omega)), fun b q1 _ => a_up_row q1, fun k q1 _ _ => a_up_ne (Or.inr q1)⟩
           · refine R_aload_0 dX12_address_35 ?_
             refine gfX12_166 rfl dX12_address_36 sh_504 (by first | assumption | exact a_up_self _ _ _ _ | exact (a_up_ne (by omega)).trans (by assumption) | exact (a_up_ne (by omega)).trans (a_up_self _ _ _ _) | exact (a_up_ne (by omega)).trans ((a_up_ne (by omega)).trans (by assumption)) | exact (a_up_ne (by omega)).trans ((a_up_ne (by omega)).trans (a_up_self _ _ _ _)) | exact (a_up_ne (by omega)).trans ((a_up_ne (by omega)).trans ((a_up_ne (by omega)).trans (by assumption))) | exact (a_up_ne (by omega)).trans ((a_up_ne (by omega)).trans ((a_up_ne (by omega)).trans (a_up_self _ _ _ _))) | exact (a_up_ne (by omega)).trans ((a_up_ne (by omega)).trans ((a_up_ne (by omega)).trans ((a_up_ne (by omega)).trans (by assumption)))) | exact (a_up_ne (by omega)).trans ((a_up_ne (by omega)).trans ((a_up_ne (by omega)).trans ((a_up_ne (by omega)).trans (a_up_self _ _ _ _)))) | exact (a_up_ne (by omega)).trans ((a_up_ne (by omega)).trans ((a_up_ne (by omega)).trans ((a_up_ne (by omega)).trans ((a_up_ne (by omega)).trans (by assumption))))) | exact (a_up_ne (by omega)).trans ((a_up_ne (by omega)).trans ((a_up_ne (by omega)).trans ((a_up_ne (by omega)).trans ((a_up_ne (by omega)).trans (a_up_self _ _ _ _)))))) ?_
             refine R_bipush (v := 12) dX12_address_39 (by decide) ?_
             refine R_icmp_ge 48 dX12_address_41 (by decide) (fun c41 => ?_) (fun c41 => ?_)
             · have hx : xcA cnt mt (nI n) = 2 := by
                 unfold xcA
                 rw [if_neg (not_not_intro hth), ncl]
                 refine if_pos (Or.inl ?_)
                 rw [c32]
                 exact c41
               refine R_iconst (v := 2) dX12_address_48 (by decide) ?_
               refine R_goto 65 dX12_address_49 (by decide) ?_
               refine R_callV_e (T := mX12_address) (T' := mX12_fails) (As := [_]) (ci := 12) okX12_fails mlX12_128 rfl (by decide) sh_504 (ct_mfails _) rfl (by decide) (by decide) (Nat.le_of_ble_eq_true rfl) dX12_address_65 ?_
               refine R_if_eq 73 dX12_address_68 (by decide) (fun c68 => absurd c68 (by decide)) (fun c68 => ?_)
               refine R_iconst (v := 0) dX12_address_71 (by decide) ?_
               refine R_iret rfl dX12_address_72 ⟨rfl, (a_up_self _ _ _ _).trans (by rw [hx]; rfl), ⟨_, rfl, fun z => by rw [hx] at z; cases z⟩, by rw [if_neg (by rw [hx]; decide)]; exact hl.f0 (by decide), by rw [if_neg (by rw [hx]; decide), if_neg (by rw [hx]; decide)]; exact hE.fr (a_up_ne (Or.inr (by decide))) (fun b q1 _ => a_up_row (by omega)), fun b q1 _ => a_up_row q1, fun k q1 _ _ => a_up_ne (Or.inr q1)⟩
             · have ne : n = cnt := (nI_eq hn (by omega)).1 c32
               have n12 : n < 12 := by
                 have : cnt < 12 := (nI_ltI (b := 12) (by omega) (by decide)).1 (by first | exact Int32.not_le.1 c41 | exact c41)
                 omega
               have hx : xcA cnt mt (nI n) = 0 := by
                 unfold xcA
                 rw [if_neg (not_not_intro hth), ncl]
                 refine if_neg (fun z => z.elim (fun z => ?_) (fun z => ?_))
                 · exact nI_ge (a := n) (b := 12) n12 (by decide) z
                 · obtain ⟨i, hi⟩ := Nat.exists_testBit_of_ne_zero z
                   have i12 : i < 12 := Nat.lt_of_not_le fun q => by
                     rw [Nat.testBit_lt_two_pow (Nat.lt_of_lt_of_le (hm.1 n n12) (Nat.pow_le_pow_right (by decide) q))] at hi
                     cases hi
                   have := (hm.2 n i n12 i12 hi).1
                   omega
               refine R_iconst (v := 0) dX12_address_44 (by decide) ?_
               refine R_goto 65 dX12_address_45 (by decide) ?_
               refine R_callV_e (T := mX12_address) (T' := mX12_fails) (As := [_]) (ci := 12) okX12_fails mlX12_128 rfl (by decide) sh_504 (ct_mfails _) rfl (by decide) (by decide) (Nat.le_of_ble_eq_true rfl) dX12_address_65 ?_
               refine R_if_eq 73 dX12_address_68 (by decide) (fun c68 => ?_) (fun c68 => absurd (by decide) c68)
               refine R_aload_0 dX12_address_73 ?_
               refine R_iload_1 dX12_address_74 ?_
               refine R_callV (T := mX12_address) (T' := mX12_readAddress) (As := [_]) (ci := 12) okX12_readAddress mlX12_172 rfl (by decide) sh_504 (ct_mreadAddress (hR.u (k := 0) (v := .int 0) (by decide)) (hl.f0 (k := 0) (v := .int 0) (by decide)) n12) rfl (by decide) (by decide) (Nat.le_of_ble_eq_true rfl) dX12_address_75 (fun v9 S9 V2 h9 => ?_) (fun E S9 V9 h9 => h9.elim)
               obtain ⟨rfl, g9⟩ := h9.or
               rcases g9 with ⟨q, er, hq, rfl, rfl⟩ | ⟨q, y, er, ey, rfl, hk, hf⟩
               · refine R_istore_3 rfl (by decide) dX12_address_78 ?_
                 refine R_aload_0 dX12_address_79 ?_
                 refine R_iconst (v := 0) dX12_address_80 (by decide) ?_
                 refine pfX12_125 rfl dX12_address_81 sh_504 ?_
                 refine R_iload_3 dX12_address_84 ?_
                 refine R_iconst (v := -1) dX12_address_85 (by decide) ?_
                 refine R_icmp_eq 93 dX12_address_86 (by decide) (fun c86 => absurd c86 (m1_ne (by omega))) (fun c86 => ?_)
                 refine R_iconst (v := -1) dX12_address_89 (by decide) ?_
                 refine R_iload_3 dX12_address_90 ?_
                 refine R_isub dX12_address_91 ?_
                 refine R_iret rfl dX12_address_92 ⟨rfl, (a_up_ne (Or.inr (by decide))).trans ((a_up_self _ _ _ _).trans (by rw [hx]; rfl)), ⟨_, rfl, fun _ => by unfold adA; rw [er]⟩, by rw [if_pos hx]; exact ML.nil (a_up_self _ _ _ _), by rw [if_pos hx, if_pos hx, ncl, show adE L ent n = ent by unfold adE; rw [er], show adC L cnt n = cnt by unfold adC; rw [er]]; exact hE.fr ((a_up_ne (Or.inr (by decide))).trans (a_up_ne (Or.inr (by decide)))) (fun b q1 _ => (a_up_row (by omega)).trans (a_up_row (by omega))), fun b q1 _ => (a_up_row q1).trans (a_up_row q1), fun k q1 q2 _ => (a_up_ne (Or.inr q2)).trans (a_up_ne (Or.inr q1))⟩
               · have e5 : V2 504 5 = .int (nI cnt) := (congrFun (hf.1 504 (by decide)) 5).trans ((a_up_ne (Or.inr (by decide))).trans h5)
                 have e0 : V2 504 0 = .int 0 := (congrFun (hf.1 504 (by decide)) 0).trans (a_up_self _ _ _ _)
                 have eE : adE L ent n = upN ent n y := by unfold adE; rw [er]; show upN ent n (entOf (encE y)) = _; rw [entOf_e ey]
                 have eC : adC L cnt n = max cnt (n + 1) := by unfold adC; rw [er]
                 have eA : adA L (nI n) = nI n := by unfold adA; rw [er]
                 have hfr : ∀ k, k ≠ 2 → a_up V2 504 2 (.int 0) 504 k = V2 504 k := fun k hk => a_up_ne (Or.inr hk)
                 have hmk : ∀ V9 : aV, (∀ b, b ≠ 504 → V9 b = V2 b) → ∀ k, k < 12 → MEk V9 k (upN ent n y k) := fun V9 hv k hk9 => by
                   have hb : MEk V2 k (upN ent n y k) := by
                     by_cases z : k = n
                     · subst z; rw [upN_s]; exact hk
                     · rw [upN_n z]
                       have hE1 : ME (a_up V 504 0 (.int 0)) ent cnt := hE.fr (a_up_ne (Or.inr (by decide))) (fun b q1 _ => a_up_row (by omega))
                       exact (hE1.2 k hk9).fra hf z (hEO k hk9).1.1 (hEO k hk9).2.1
                   obtain ⟨⟨b1, b2⟩, ⟨b3, b4⟩, ⟨b5, b6⟩, ⟨b7, b8⟩, b9, b10, b11⟩ := hb
                   exact ⟨⟨(congrFun (hv 509 (by decide)) k).trans b1, b2.fr (hv 508 (by decide))⟩, ⟨(congrFun (hv 511 (by decide)) k).trans b3, b4.fr (hv 510 (by decide))⟩, ⟨(congrFun (hv 513 (by decide)) k).trans b5, b6.fr (hv 512 (by decide))⟩, ⟨(congrFun (hv 515 (by decide)) k).trans b7, b8.fr (hv 514 (by decide))⟩, (congrFun (hv 516 (by decide)) k).trans b9, (congrFun (hv 517 (by decide)) k).trans b10, (congrFun (hv 518 (by decide)) k).trans b11⟩
                 refine R_istore_3 rfl (by decide) dX12_address_78 ?_
                 refine R_aload_0 dX12_address_79 ?_
                 refine R_iconst (v := 0) dX12_address_80 (by decide) ?_
                 refine pfX12_125 rfl dX12_address_81 sh_504 ?_
                 refine R_iload_3 dX12_address_84 ?_
                 refine R_iconst (v := -1) dX12_address_85 (by decide) ?_
                 refine R_icmp_eq 93 dX12_address_86 (by decide) (fun c86 => ?_) (fun c86 => absurd rfl c86)
                 refine R_iload_1 dX12_address_93 ?_
                 refine R_aload_0 dX12_address_94 ?_
                 refine gfX12_166 rfl dX12_address_95 sh_504 ((a_up_ne (Or.inr (by decide))).trans e5) ?_
                 refine R_icmp_ne 111 dX12_address_98 (by decide) (fun c98 => ?_) (fun c98 => ?_)
                 · refine R_iload_1 dX12_address_111 ?_
                   refine R_iret rfl dX12_address_112 (by first | exact ⟨rfl, ((a_up_ne (Or.inr (by decide))).trans (a_up_ne (Or.inr (by decide)))).trans (e0.trans (by rw [hx]; rfl)), ⟨_, rfl, fun _ => eA.symm⟩, by rw [if_pos hx]; exact ML.nil ((a_up_ne (Or.inr (by decide))).trans (a_up_self _ _ _ _)), by rw [if_pos hx, if_pos hx, ncl, eE, eC]; exact ⟨by rw [en, show max cnt (cnt + 1) = cnt + 1 by omega]; exact a_up_self _ _ _ _, hmk _ (fun b q => (a_up_row q).trans (a_up_row q))⟩, fun b q1 q2 => ((fun b q => (a_up_row q).trans (a_up_row q)) b q1).trans ((hf.1 b q2).trans (a_up_row q1)), fun k q1 q2 q3 => (a_up_ne (Or.inr q3)).trans ((a_up_ne (Or.inr q2)).trans ((congrFun (hf.1 504 (by decide)) k).trans (a_up_ne (Or.inr q1))))⟩ | exact ⟨rfl, (a_up_ne (Or.inr (by decide))).trans (e0.trans (by rw [hx]; rfl)), ⟨_, rfl, fun _ => eA.symm⟩, by rw [if_pos hx]; exact ML.nil (a_up_self _ _ _ _), by rw [if_pos hx, if_pos hx, ncl, eE, eC]; exact ⟨by rw [show max cnt (n + 1) = cnt by have : ¬ n = cnt := fun z => c98 (by rw [z]); omega]; exact (a_up_ne (Or.inr (by decide))).trans e5, hmk _ (fun b q => a_up_row q)⟩, fun b q1 q2 => ((fun b q => a_up_row q) b q1).trans ((hf.1 b q2).trans (a_up_row q1)), fun k q1 q2 q3 => (a_up_ne (Or.inr q2)).trans ((congrFun (hf.1 504 (by decide)) k).trans (a_up_ne (Or.inr q1)))⟩)
                 · have en : n = cnt := (nI_eq hn (by omega)).1 c98
                   refine R_aload_0 dX12_address_101 ?_
                   refine R_dup dX12_address_102 rfl ?_
                   refine gfX12_166 rfl dX12_address_103 sh_504 ((a_up_ne (Or.inr (by decide))).trans e5) ?_
                   refine R_iconst (v := 1) dX12_address_106 (by decide) ?_
                   refine R_iadd dX12_address_107 ?_
                   rw [show nI cnt + 1 = nI (cnt + 1) from nI_1 _]
                   refine pfX12_166 rfl dX12_address_108 sh_504 ?_
                   refine R_iload_1 dX12_address_111 ?_
                   refine R_iret rfl dX12_address_112 (by first | exact ⟨rfl, ((a_up_ne (Or.inr (by decide))).trans (a_up_ne (Or.inr (by decide)))).trans (e0.trans (by rw [hx]; rfl)), ⟨_, rfl, fun _ => eA.symm⟩, by rw [if_pos hx]; exact ML.nil ((a_up_ne (Or.inr (by decide))).trans (a_up_self _ _ _ _)), by rw [if_pos hx, if_pos hx, ncl, eE, eC]; exact ⟨by rw [en, show max cnt (cnt + 1) = cnt + 1 by omega]; exact a_up_self _ _ _ _, hmk _ (fun b q => (a_up_row q).trans (a_up_row q))⟩, fun b q1 q2 => ((fun b q => (a_up_row q).trans (a_up_row q)) b q1).trans ((hf.1 b q2).trans (a_up_row q1)), fun k q1 q2 q3 => (a_up_ne (Or.inr q3)).trans ((a_up_ne (Or.inr q2)).trans ((congrFun (hf.1 504 (by decide)) k).trans (a_up_ne (Or.inr q1))))⟩ | exact ⟨rfl, (a_up_ne (Or.inr (by decide))).trans (e0.trans (by rw [hx]; rfl)), ⟨_, rfl, fun _ => eA.symm⟩, by rw [if_pos hx]; exact ML.nil (a_up_self _ _ _ _), by rw [if_pos hx, if_pos hx, ncl, eE, eC]; exact ⟨by rw [show max cnt (n + 1) = cnt by have : ¬ n = cnt := fun z => c98 (by rw [z]); omega]; exact (a_up_ne (Or.inr (by decide))).trans e5, hmk _ (fun b q => a_up_row q)⟩, fun b q1 q2 => ((fun b q => a_up_row q) b q1).trans ((hf.1 b q2).trans (a_up_row q1)), fun k q1 q2 q3 => (a_up_ne (Or.inr q2)).trans ((congrFun (hf.1 504 (by decide)) k).trans (a_up_ne (Or.inr q1)))⟩))
    · refine R_iconst (v := 1) dX12_address_12 (by decide) ?_
      refine R_goto 17 dX12_address_13 (by decide) ?_
      first
        | (have hx : xcA cnt mt t = 1 := if_pos (fun z => (by first | exact z.1 c1 | exact absurd z.2 (Int32.not_le.2 (by first | exact c9 | exact Int32.not_le.1 c9))))
           refine R_istore_2 rfl (by decide) dX12_address_17 ?_
           refine R_aload_0 dX12_address_18 ?_
           refine R_iload_2 dX12_address_19 ?_
           refine R_if_ne 27 dX12_address_20 (by decide) (fun c20 => absurd rfl c20) (fun c20 => ?_)
           refine R_iconst (v := 1) dX12_address_23 (by decide) ?_
           refine R_goto 65 dX12_address_24 (by decide) ?_
           refine R_callV_e (T := mX12_address) (T' := mX12_fails) (As := [_]) (ci := 12) okX12_fails mlX12_128 rfl (by decide) sh_504 (ct_mfails _) rfl (by decide) (by decide) (Nat.le_of_ble_eq_true rfl) dX12_address_65 ?_
           refine R_if_eq 73 dX12_address_68 (by decide) (fun c68 => absurd c68 (by decide)) (fun c68 => ?_)
           refine R_iconst (v := 0) dX12_address_71 (by decide) ?_
           refine R_iret rfl dX12_address_72 ⟨rfl, (a_up_self _ _ _ _).trans (by rw [hx]; rfl), ⟨_, rfl, fun z => by rw [hx] at z; cases z⟩, by rw [if_neg (by rw [hx]; decide)]; exact hl.f0 (by decide), by rw [if_neg (by rw [hx]; decide), if_neg (by rw [hx]; decide)]; exact hE.fr (a_up_ne (Or.inr (by decide))) (fun b q1 _ => a_up_row (by omega)), fun b q1 _ => a_up_row q1, fun k q1 _ _ => a_up_ne (Or.inr q1)⟩)
        | (have hth : ¬ t < 0 ∧ t ≤ nI cnt := ⟨c1, (by first | exact Int32.not_lt.1 c9 | exact c9)⟩
           obtain ⟨n, hn, rfl⟩ := nI_of c1
           have nc : n ≤ cnt := (nI_leI hn (by omega)).1 hth.2
           have ncl := nI_clamp hn
           refine R_istore_2 rfl (by decide) dX12_address_17 ?_
           refine R_aload_0 dX12_address_18 ?_
           refine R_iload_2 dX12_address_19 ?_
           refine R_if_ne 27 dX12_address_20 (by decide) (fun c20 => ?_) (fun c20 => absurd c20 (by decide))
           refine R_iload_1 dX12_address_27 ?_
           refine R_aload_0 dX12_address_28 ?_
           refine gfX12_166 rfl dX12_address_29 sh_504 (by first | assumption | exact a_up_self _ _ _ _ | exact (a_up_ne (by omega)).trans (by assumption) | exact (a_up_ne (by omega)).trans (a_up_self _ _ _ _) | exact (a_up_ne (by omega)).trans ((a_up_ne (by omega)).trans (by assumption)) | exact (a_up_ne (by omega)).trans ((a_up_ne (by omega)).trans (a_up_self _ _ _ _)) | exact (a_up_ne (by omega)).trans ((a_up_ne (by omega)).trans ((a_up_ne (by omega)).trans (by assumption))) | exact (a_up_ne (by omega)).trans ((a_up_ne (by omega)).trans ((a_up_ne (by omega)).trans (a_up_self _ _ _ _))) | exact (a_up_ne (by omega)).trans ((a_up_ne (by omega)).trans ((a_up_ne (by omega)).trans ((a_up_ne (by omega)).trans (by assumption)))) | exact (a_up_ne (by omega)).trans ((a_up_ne (by omega)).trans ((a_up_ne (by omega)).trans ((a_up_ne (by omega)).trans (a_up_self _ _ _ _)))) | exact (a_up_ne (by omega)).trans ((a_up_ne (by omega)).trans ((a_up_ne (by omega)).trans ((a_up_ne (by omega)).trans ((a_up_ne (by omega)).trans (by assumption))))) | exact (a_up_ne (by omega)).trans ((a_up_ne (by omega)).trans ((a_up_ne (by omega)).trans ((a_up_ne (by omega)).trans ((a_up_ne (by omega)).trans (a_up_self _ _ _ _)))))) ?_
           refine R_icmp_ne 52 dX12_address_32 (by decide) (fun c32 => ?_) (fun c32 => ?_)
           · refine R_aload_0 dX12_address_52 ?_
             refine R_iload_1 dX12_address_53 ?_
             refine R_callV_e (T := mX12_address) (T' := mX12_isMatched) (As := [_]) (ci := 12) okX12_isMatched mlX12_169 rfl (by decide) sh_504 (ct_isMatched (t := n) hR h5 hM hc12 (by have : ¬ n = cnt := fun z => c32 (by rw [z]); omega)) rfl (by decide) (by decide) (Nat.le_of_ble_eq_true rfl) dX12_address_54 ?_
             refine R_if_eq 64 dX12_address_57 (by decide) (fun c57 => ?_) (fun c57 => ?_)
             · have ne : ¬ n = cnt := fun z => c32 (by rw [z])
               have n12 : n < 12 := by omega
               have hx : xcA cnt mt (nI n) = 0 := by
                 unfold xcA
                 rw [if_neg (not_not_intro hth), ncl]
                 refine if_neg (fun z => z.elim (fun z => ?_) (fun z => ?_))
                 · exact nI_ge (a := n) (b := 12) n12 (by decide) z
                 · exact bI_eq c57 ((anyB_iff hm n12 hc12).2 z)
               refine R_iconst (v := 0) dX12_address_64 (by decide) ?_
               refine R_callV_e (T := mX12_address) (T' := mX12_fails) (As := [_]) (ci := 12) okX12_fails mlX12_128 rfl (by decide) sh_504 (ct_mfails _) rfl (by decide) (by decide) (Nat.le_of_ble_eq_true rfl) dX12_address_65 ?_
               refine R_if_eq 73 dX12_address_68 (by decide) (fun c68 => ?_) (fun c68 => absurd (by decide) c68)
               refine R_aload_0 dX12_address_73 ?_
               refine R_iload_1 dX12_address_74 ?_
               refine R_callV (T := mX12_address) (T' := mX12_readAddress) (As := [_]) (ci := 12) okX12_readAddress mlX12_172 rfl (by decide) sh_504 (ct_mreadAddress (hR.u (k := 0) (v := .int 0) (by decide)) (hl.f0 (k := 0) (v := .int 0) (by decide)) n12) rfl (by decide) (by decide) (Nat.le_of_ble_eq_true rfl) dX12_address_75 (fun v9 S9 V2 h9 => ?_) (fun E S9 V9 h9 => h9.elim)
               obtain ⟨rfl, g9⟩ := h9.or
               rcases g9 with ⟨q, er, hq, rfl, rfl⟩ | ⟨q, y, er, ey, rfl, hk, hf⟩
               · refine R_istore_3 rfl (by decide) dX12_address_78 ?_
                 refine R_aload_0 dX12_address_79 ?_
                 refine R_iconst (v := 0) dX12_address_80 (by decide) ?_
                 refine pfX12_125 rfl dX12_address_81 sh_504 ?_
                 refine R_iload_3 dX12_address_84 ?_
                 refine R_iconst (v := -1) dX12_address_85 (by decide) ?_
                 refine R_icmp_eq 93 dX12_address_86 (by decide) (fun c86 => absurd c86 (m1_ne (by omega))) (fun c86 => ?_)
                 refine R_iconst (v := -1) dX12_address_89 (by decide) ?_
                 refine R_iload_3 dX12_address_90 ?_
                 refine R_isub dX12_address_91 ?_
                 refine R_iret rfl dX12_address_92 ⟨rfl, (a_up_ne (Or.inr (by decide))).trans ((a_up_self _ _ _ _).trans (by rw [hx]; rfl)), ⟨_, rfl, fun _ => by unfold adA; rw [er]⟩, by rw [if_pos hx]; exact ML.nil (a_up_self _ _ _ _), by rw [if_pos hx, if_pos hx, ncl, show adE L ent n = ent by unfold adE; rw [er], show adC L cnt n = cnt by unfold adC; rw [er]]; exact hE.fr ((a_up_ne (Or.inr (by decide))).trans (a_up_ne (Or.inr (by decide)))) (fun b q1 _ => (a_up_row (by omega)).trans (a_up_row (by omega))), fun b q1 _ => (a_up_row q1).trans (a_up_row q1), fun k q1 q2 _ => (a_up_ne (Or.inr q2)).trans (a_up_ne (Or.inr q1))⟩
               · have e5 : V2 504 5 = .int (nI cnt) := (congrFun (hf.1 504 (by decide)) 5).trans ((a_up_ne (Or.inr (by decide))).trans h5)
                 have e0 : V2 504 0 = .int 0 := (congrFun (hf.1 504 (by decide)) 0).trans (a_up_self _ _ _ _)
                 have eE : adE L ent n = upN ent n y := by unfold adE; rw [er]; show upN ent n (entOf (encE y)) = _; rw [entOf_e ey]
                 have eC : adC L cnt n = max cnt (n + 1) := by unfold adC; rw [er]
                 have eA : adA L (nI n) = nI n := by unfold adA; rw [er]
                 have hfr : ∀ k, k ≠ 2 → a_up V2 504 2 (.int 0) 504 k = V2 504 k := fun k hk => a_up_ne (Or.inr hk)
                 have hmk : ∀ V9 : aV, (∀ b, b ≠ 504 → V9 b = V2 b) → ∀ k, k < 12 → MEk V9 k (upN ent n y k) := fun V9 hv k hk9 => by
                   have hb : MEk V2 k (upN ent n y k) := by
                     by_cases z : k = n
                     · subst z; rw [upN_s]; exact hk
                     · rw [upN_n z]
                       have hE1 : ME (a_up V 504 0 (.int 0)) ent cnt := hE.fr (a_up_ne (Or.inr (by decide))) (fun b q1 _ => a_up_row (by omega))
                       exact (hE1.2 k hk9).fra hf z (hEO k hk9).1.1 (hEO k hk9).2.1
                   obtain ⟨⟨b1, b2⟩, ⟨b3, b4⟩, ⟨b5, b6⟩, ⟨b7, b8⟩, b9, b10, b11⟩ := hb
                   exact ⟨⟨(congrFun (hv 509 (by decide)) k).trans b1, b2.fr (hv 508 (by decide))⟩, ⟨(congrFun (hv 511 (by decide)) k).trans b3, b4.fr (hv 510 (by decide))⟩, ⟨(congrFun (hv 513 (by decide)) k).trans b5, b6.fr (hv 512 (by decide))⟩, ⟨(congrFun (hv 515 (by decide)) k).trans b7, b8.fr (hv 514 (by decide))⟩, (congrFun (hv 516 (by decide)) k).trans b9, (congrFun (hv 517 (by decide)) k).trans b10, (congrFun (hv 518 (by decide)) k).trans b11⟩
                 refine R_istore_3 rfl (by decide) dX12_address_78 ?_
                 refine R_aload_0 dX12_address_79 ?_
                 refine R_iconst (v := 0) dX12_address_80 (by decide) ?_
                 refine pfX12_125 rfl dX12_address_81 sh_504 ?_
                 refine R_iload_3 dX12_address_84 ?_
                 refine R_iconst (v := -1) dX12_address_85 (by decide) ?_
                 refine R_icmp_eq 93 dX12_address_86 (by decide) (fun c86 => ?_) (fun c86 => absurd rfl c86)
                 refine R_iload_1 dX12_address_93 ?_
                 refine R_aload_0 dX12_address_94 ?_
                 refine gfX12_166 rfl dX12_address_95 sh_504 ((a_up_ne (Or.inr (by decide))).trans e5) ?_
                 refine R_icmp_ne 111 dX12_address_98 (by decide) (fun c98 => ?_) (fun c98 => ?_)
                 · refine R_iload_1 dX12_address_111 ?_
                   refine R_iret rfl dX12_address_112 (by first | exact ⟨rfl, ((a_up_ne (Or.inr (by decide))).trans (a_up_ne (Or.inr (by decide)))).trans (e0.trans (by rw [hx]; rfl)), ⟨_, rfl, fun _ => eA.symm⟩, by rw [if_pos hx]; exact ML.nil ((a_up_ne (Or.inr (by decide))).trans (a_up_self _ _ _ _)), by rw [if_pos hx, if_pos hx, ncl, eE, eC]; exact ⟨by rw [en, show max cnt (cnt + 1) = cnt + 1 by omega]; exact a_up_self _ _ _ _, hmk _ (fun b q => (a_up_row q).trans (a_up_row q))⟩, fun b q1 q2 => ((fun b q => (a_up_row q).trans (a_up_row q)) b q1).trans ((hf.1 b q2).trans (a_up_row q1)), fun k q1 q2 q3 => (a_up_ne (Or.inr q3)).trans ((a_up_ne (Or.inr q2)).trans ((congrFun (hf.1 504 (by decide)) k).trans (a_up_ne (Or.inr q1))))⟩ | exact ⟨rfl, (a_up_ne (Or.inr (by decide))).trans (e0.trans (by rw [hx]; rfl)), ⟨_, rfl, fun _ => eA.symm⟩, by rw [if_pos hx]; exact ML.nil (a_up_self _ _ _ _), by rw [if_pos hx, if_pos hx, ncl, eE, eC]; exact ⟨by rw [show max cnt (n + 1) = cnt by have : ¬ n = cnt := fun z => c98 (by rw [z]); omega]; exact (a_up_ne (Or.inr (by decide))).trans e5, hmk _ (fun b q => a_up_row q)⟩, fun b q1 q2 => ((fun b q => a_up_row q) b q1).trans ((hf.1 b q2).trans (a_up_row q1)), fun k q1 q2 q3 => (a_up_ne (Or.inr q2)).trans ((congrFun (hf.1 504 (by decide)) k).trans (a_up_ne (Or.inr q1)))⟩)
                 · have en : n = cnt := (nI_eq hn (by omega)).1 c98
                   refine R_aload_0 dX12_address_101 ?_
                   refine R_dup dX12_address_102 rfl ?_
                   refine gfX12_166 rfl dX12_address_103 sh_504 ((a_up_ne (Or.inr (by decide))).trans e5) ?_
                   refine R_iconst (v := 1) dX12_address_106 (by decide) ?_
                   refine R_iadd dX12_address_107 ?_
                   rw [show nI cnt + 1 = nI (cnt + 1) from nI_1 _]
                   refine pfX12_166 rfl dX12_address_108 sh_504 ?_
                   refine R_iload_1 dX12_address_111 ?_
                   refine R_iret rfl dX12_address_112 (by first | exact ⟨rfl, ((a_up_ne (Or.inr (by decide))).trans (a_up_ne (Or.inr (by decide)))).trans (e0.trans (by rw [hx]; rfl)), ⟨_, rfl, fun _ => eA.symm⟩, by rw [if_pos hx]; exact ML.nil ((a_up_ne (Or.inr (by decide))).trans (a_up_self _ _ _ _)), by rw [if_pos hx, if_pos hx, ncl, eE, eC]; exact ⟨by rw [en, show max cnt (cnt + 1) = cnt + 1 by omega]; exact a_up_self _ _ _ _, hmk _ (fun b q => (a_up_row q).trans (a_up_row q))⟩, fun b q1 q2 => ((fun b q => (a_up_row q).trans (a_up_row q)) b q1).trans ((hf.1 b q2).trans (a_up_row q1)), fun k q1 q2 q3 => (a_up_ne (Or.inr q3)).trans ((a_up_ne (Or.inr q2)).trans ((congrFun (hf.1 504 (by decide)) k).trans (a_up_ne (Or.inr q1))))⟩ | exact ⟨rfl, (a_up_ne (Or.inr (by decide))).trans (e0.trans (by rw [hx]; rfl)), ⟨_, rfl, fun _ => eA.symm⟩, by rw [if_pos hx]; exact ML.nil (a_up_self _ _ _ _), by rw [if_pos hx, if_pos hx, ncl, eE, eC]; exact ⟨by rw [show max cnt (n + 1) = cnt by have : ¬ n = cnt := fun z => c98 (by rw [z]); omega]; exact (a_up_ne (Or.inr (by decide))).trans e5, hmk _ (fun b q => a_up_row q)⟩, fun b q1 q2 => ((fun b q => a_up_row q) b q1).trans ((hf.1 b q2).trans (a_up_row q1)), fun k q1 q2 q3 => (a_up_ne (Or.inr q2)).trans ((congrFun (hf.1 504 (by decide)) k).trans (a_up_ne (Or.inr q1)))⟩)
             · have hx : xcA cnt mt (nI n) = 2 := by
                 unfold xcA
                 rw [if_neg (not_not_intro hth), ncl]
                 have n9 : ¬ n = cnt := fun z => c32 (by rw [z])
                 exact if_pos (Or.inr ((anyB_iff hm (by omega) hc12).1 (bI_ne c57)))
               refine R_iconst (v := 2) dX12_address_60 (by decide) ?_
               refine R_goto 65 dX12_address_61 (by decide) ?_
               refine R_callV_e (T := mX12_address) (T' := mX12_fails) (As := [_]) (ci := 12) okX12_fails mlX12_128 rfl (by decide) sh_504 (ct_mfails _) rfl (by decide) (by decide) (Nat.le_of_ble_eq_true rfl) dX12_address_65 ?_
               refine R_if_eq 73 dX12_address_68 (by decide) (fun c68 => absurd c68 (by decide)) (fun c68 => ?_)
               refine R_iconst (v := 0) dX12_address_71 (by decide) ?_
               refine R_iret rfl dX12_address_72 ⟨rfl, (a_up_self _ _ _ _).trans (by rw [hx]; rfl), ⟨_, rfl, fun z => by rw [hx] at z; cases z⟩, by rw [if_neg (by rw [hx]; decide)]; exact hl.f0 (by decide), by rw [if_neg (by rw [hx]; decide), if_neg (by rw [hx]; decide)]; exact hE.fr (a_up_ne (Or.inr (by decide))) (fun b q1 _ => a_up_row (by omega)), fun b q1 _ => a_up_row q1, fun k q1 _ _ => a_up_ne (Or.inr q1)⟩
           · refine R_aload_0 dX12_address_35 ?_
             refine gfX12_166 rfl dX12_address_36 sh_504 (by first | assumption | exact a_up_self _ _ _ _ | exact (a_up_ne (by omega)).trans (by assumption) | exact (a_up_ne (by omega)).trans (a_up_self _ _ _ _) | exact (a_up_ne (by omega)).trans ((a_up_ne (by omega)).trans (by assumption)) | exact (a_up_ne (by omega)).trans ((a_up_ne (by omega)).trans (a_up_self _ _ _ _)) | exact (a_up_ne (by omega)).trans ((a_up_ne (by omega)).trans ((a_up_ne (by omega)).trans (by assumption))) | exact (a_up_ne (by omega)).trans ((a_up_ne (by omega)).trans ((a_up_ne (by omega)).trans (a_up_self _ _ _ _))) | exact (a_up_ne (by omega)).trans ((a_up_ne (by omega)).trans ((a_up_ne (by omega)).trans ((a_up_ne (by omega)).trans (by assumption)))) | exact (a_up_ne (by omega)).trans ((a_up_ne (by omega)).trans ((a_up_ne (by omega)).trans ((a_up_ne (by omega)).trans (a_up_self _ _ _ _)))) | exact (a_up_ne (by omega)).trans ((a_up_ne (by omega)).trans ((a_up_ne (by omega)).trans ((a_up_ne (by omega)).trans ((a_up_ne (by omega)).trans (by assumption))))) | exact (a_up_ne (by omega)).trans ((a_up_ne (by omega)).trans ((a_up_ne (by omega)).trans ((a_up_ne (by omega)).trans ((a_up_ne (by omega)).trans (a_up_self _ _ _ _)))))) ?_
             refine R_bipush (v := 12) dX12_address_39 (by decide) ?_
             refine R_icmp_ge 48 dX12_address_41 (by decide) (fun c41 => ?_) (fun c41 => ?_)
             · have hx : xcA cnt mt (nI n) = 2 := by
                 unfold xcA
                 rw [if_neg (not_not_intro hth), ncl]
                 refine if_pos (Or.inl ?_)
                 rw [c32]
                 exact c41
               refine R_iconst (v := 2) dX12_address_48 (by decide) ?_
               refine R_goto 65 dX12_address_49 (by decide) ?_
               refine R_callV_e (T := mX12_address) (T' := mX12_fails) (As := [_]) (ci := 12) okX12_fails mlX12_128 rfl (by decide) sh_504 (ct_mfails _) rfl (by decide) (by decide) (Nat.le_of_ble_eq_true rfl) dX12_address_65 ?_
               refine R_if_eq 73 dX12_address_68 (by decide) (fun c68 => absurd c68 (by decide)) (fun c68 => ?_)
               refine R_iconst (v := 0) dX12_address_71 (by decide) ?_
               refine R_iret rfl dX12_address_72 ⟨rfl, (a_up_self _ _ _ _).trans (by rw [hx]; rfl), ⟨_, rfl, fun z => by rw [hx] at z; cases z⟩, by rw [if_neg (by rw [hx]; decide)]; exact hl.f0 (by decide), by rw [if_neg (by rw [hx]; decide), if_neg (by rw [hx]; decide)]; exact hE.fr (a_up_ne (Or.inr (by decide))) (fun b q1 _ => a_up_row (by omega)), fun b q1 _ => a_up_row q1, fun k q1 _ _ => a_up_ne (Or.inr q1)⟩
             · have ne : n = cnt := (nI_eq hn (by omega)).1 c32
               have n12 : n < 12 := by
                 have : cnt < 12 := (nI_ltI (b := 12) (by omega) (by decide)).1 (by first | exact Int32.not_le.1 c41 | exact c41)
                 omega
               have hx : xcA cnt mt (nI n) = 0 := by
                 unfold xcA
                 rw [if_neg (not_not_intro hth), ncl]
                 refine if_neg (fun z => z.elim (fun z => ?_) (fun z => ?_))
                 · exact nI_ge (a := n) (b := 12) n12 (by decide) z
                 · obtain ⟨i, hi⟩ := Nat.exists_testBit_of_ne_zero z
                   have i12 : i < 12 := Nat.lt_of_not_le fun q => by
                     rw [Nat.testBit_lt_two_pow (Nat.lt_of_lt_of_le (hm.1 n n12) (Nat.pow_le_pow_right (by decide) q))] at hi
                     cases hi
                   have := (hm.2 n i n12 i12 hi).1
                   omega
               refine R_iconst (v := 0) dX12_address_44 (by decide) ?_
               refine R_goto 65 dX12_address_45 (by decide) ?_
               refine R_callV_e (T := mX12_address) (T' := mX12_fails) (As := [_]) (ci := 12) okX12_fails mlX12_128 rfl (by decide) sh_504 (ct_mfails _) rfl (by decide) (by decide) (Nat.le_of_ble_eq_true rfl) dX12_address_65 ?_
               refine R_if_eq 73 dX12_address_68 (by decide) (fun c68 => ?_) (fun c68 => absurd (by decide) c68)
               refine R_aload_0 dX12_address_73 ?_
               refine R_iload_1 dX12_address_74 ?_
               refine R_callV (T := mX12_address) (T' := mX12_readAddress) (As := [_]) (ci := 12) okX12_readAddress mlX12_172 rfl (by decide) sh_504 (ct_mreadAddress (hR.u (k := 0) (v := .int 0) (by decide)) (hl.f0 (k := 0) (v := .int 0) (by decide)) n12) rfl (by decide) (by decide) (Nat.le_of_ble_eq_true rfl) dX12_address_75 (fun v9 S9 V2 h9 => ?_) (fun E S9 V9 h9 => h9.elim)
               obtain ⟨rfl, g9⟩ := h9.or
               rcases g9 with ⟨q, er, hq, rfl, rfl⟩ | ⟨q, y, er, ey, rfl, hk, hf⟩
               · refine R_istore_3 rfl (by decide) dX12_address_78 ?_
                 refine R_aload_0 dX12_address_79 ?_
                 refine R_iconst (v := 0) dX12_address_80 (by decide) ?_
                 refine pfX12_125 rfl dX12_address_81 sh_504 ?_
                 refine R_iload_3 dX12_address_84 ?_
                 refine R_iconst (v := -1) dX12_address_85 (by decide) ?_
                 refine R_icmp_eq 93 dX12_address_86 (by decide) (fun c86 => absurd c86 (m1_ne (by omega))) (fun c86 => ?_)
                 refine R_iconst (v := -1) dX12_address_89 (by decide) ?_
                 refine R_iload_3 dX12_address_90 ?_
                 refine R_isub dX12_address_91 ?_
                 refine R_iret rfl dX12_address_92 ⟨rfl, (a_up_ne (Or.inr (by decide))).trans ((a_up_self _ _ _ _).trans (by rw [hx]; rfl)), ⟨_, rfl, fun _ => by unfold adA; rw [er]⟩, by rw [if_pos hx]; exact ML.nil (a_up_self _ _ _ _), by rw [if_pos hx, if_pos hx, ncl, show adE L ent n = ent by unfold adE; rw [er], show adC L cnt n = cnt by unfold adC; rw [er]]; exact hE.fr ((a_up_ne (Or.inr (by decide))).trans (a_up_ne (Or.inr (by decide)))) (fun b q1 _ => (a_up_row (by omega)).trans (a_up_row (by omega))), fun b q1 _ => (a_up_row q1).trans (a_up_row q1), fun k q1 q2 _ => (a_up_ne (Or.inr q2)).trans (a_up_ne (Or.inr q1))⟩
               · have e5 : V2 504 5 = .int (nI cnt) := (congrFun (hf.1 504 (by decide)) 5).trans ((a_up_ne (Or.inr (by decide))).trans h5)
                 have e0 : V2 504 0 = .int 0 := (congrFun (hf.1 504 (by decide)) 0).trans (a_up_self _ _ _ _)
                 have eE : adE L ent n = upN ent n y := by unfold adE; rw [er]; show upN ent n (entOf (encE y)) = _; rw [entOf_e ey]
                 have eC : adC L cnt n = max cnt (n + 1) := by unfold adC; rw [er]
                 have eA : adA L (nI n) = nI n := by unfold adA; rw [er]
                 have hfr : ∀ k, k ≠ 2 → a_up V2 504 2 (.int 0) 504 k = V2 504 k := fun k hk => a_up_ne (Or.inr hk)
                 have hmk : ∀ V9 : aV, (∀ b, b ≠ 504 → V9 b = V2 b) → ∀ k, k < 12 → MEk V9 k (upN ent n y k) := fun V9 hv k hk9 => by
                   have hb : MEk V2 k (upN ent n y k) := by
                     by_cases z : k = n
                     · subst z; rw [upN_s]; exact hk
                     · rw [upN_n z]
                       have hE1 : ME (a_up V 504 0 (.int 0)) ent cnt := hE.fr (a_up_ne (Or.inr (by decide))) (fun b q1 _ => a_up_row (by omega))
                       exact (hE1.2 k hk9).fra hf z (hEO k hk9).1.1 (hEO k hk9).2.1
                   obtain ⟨⟨b1, b2⟩, ⟨b3, b4⟩, ⟨b5, b6⟩, ⟨b7, b8⟩, b9, b10, b11⟩ := hb
                   exact ⟨⟨(congrFun (hv 509 (by decide)) k).trans b1, b2.fr (hv 508 (by decide))⟩, ⟨(congrFun (hv 511 (by decide)) k).trans b3, b4.fr (hv 510 (by decide))⟩, ⟨(congrFun (hv 513 (by decide)) k).trans b5, b6.fr (hv 512 (by decide))⟩, ⟨(congrFun (hv 515 (by decide)) k).trans b7, b8.fr (hv 514 (by decide))⟩, (congrFun (hv 516 (by decide)) k).trans b9, (congrFun (hv 517 (by decide)) k).trans b10, (congrFun (hv 518 (by decide)) k).trans b11⟩
                 refine R_istore_3 rfl (by decide) dX12_address_78 ?_
                 refine R_aload_0 dX12_address_79 ?_
                 refine R_iconst (v := 0) dX12_address_80 (by decide) ?_
                 refine pfX12_125 rfl dX12_address_81 sh_504 ?_
                 refine R_iload_3 dX12_address_84 ?_
                 refine R_iconst (v := -1) dX12_address_85 (by decide) ?_
                 refine R_icmp_eq 93 dX12_address_86 (by decide) (fun c86 => ?_) (fun c86 => absurd rfl c86)
                 refine R_iload_1 dX12_address_93 ?_
                 refine R_aload_0 dX12_address_94 ?_
                 refine gfX12_166 rfl dX12_address_95 sh_504 ((a_up_ne (Or.inr (by decide))).trans e5) ?_
                 refine R_icmp_ne 111 dX12_address_98 (by decide) (fun c98 => ?_) (fun c98 => ?_)
                 · refine R_iload_1 dX12_address_111 ?_
                   refine R_iret rfl dX12_address_112 (by first | exact ⟨rfl, ((a_up_ne (Or.inr (by decide))).trans (a_up_ne (Or.inr (by decide)))).trans (e0.trans (by rw [hx]; rfl)), ⟨_, rfl, fun _ => eA.symm⟩, by rw [if_pos hx]; exact ML.nil ((a_up_ne (Or.inr (by decide))).trans (a_up_self _ _ _ _)), by rw [if_pos hx, if_pos hx, ncl, eE, eC]; exact ⟨by rw [en, show max cnt (cnt + 1) = cnt + 1 by omega]; exact a_up_self _ _ _ _, hmk _ (fun b q => (a_up_row q).trans (a_up_row q))⟩, fun b q1 q2 => ((fun b q => (a_up_row q).trans (a_up_row q)) b q1).trans ((hf.1 b q2).trans (a_up_row q1)), fun k q1 q2 q3 => (a_up_ne (Or.inr q3)).trans ((a_up_ne (Or.inr q2)).trans ((congrFun (hf.1 504 (by decide)) k).trans (a_up_ne (Or.inr q1))))⟩ | exact ⟨rfl, (a_up_ne (Or.inr (by decide))).trans (e0.trans (by rw [hx]; rfl)), ⟨_, rfl, fun _ => eA.symm⟩, by rw [if_pos hx]; exact ML.nil (a_up_self _ _ _ _), by rw [if_pos hx, if_pos hx, ncl, eE, eC]; exact ⟨by rw [show max cnt (n + 1) = cnt by have : ¬ n = cnt := fun z => c98 (by rw [z]); omega]; exact (a_up_ne (Or.inr (by decide))).trans e5, hmk _ (fun b q => a_up_row q)⟩, fun b q1 q2 => ((fun b q => a_up_row q) b q1).trans ((hf.1 b q2).trans (a_up_row q1)), fun k q1 q2 q3 => (a_up_ne (Or.inr q2)).trans ((congrFun (hf.1 504 (by decide)) k).trans (a_up_ne (Or.inr q1)))⟩)
                 · have en : n = cnt := (nI_eq hn (by omega)).1 c98
                   refine R_aload_0 dX12_address_101 ?_
                   refine R_dup dX12_address_102 rfl ?_
                   refine gfX12_166 rfl dX12_address_103 sh_504 ((a_up_ne (Or.inr (by decide))).trans e5) ?_
                   refine R_iconst (v := 1) dX12_address_106 (by decide) ?_
                   refine R_iadd dX12_address_107 ?_
                   rw [show nI cnt + 1 = nI (cnt + 1) from nI_1 _]
                   refine pfX12_166 rfl dX12_address_108 sh_504 ?_
                   refine R_iload_1 dX12_address_111 ?_
                   refine R_iret rfl dX12_address_112 (by first | exact ⟨rfl, ((a_up_ne (Or.inr (by decide))).trans (a_up_ne (Or.inr (by decide)))).trans (e0.trans (by rw [hx]; rfl)), ⟨_, rfl, fun _ => eA.symm⟩, by rw [if_pos hx]; exact ML.nil ((a_up_ne (Or.inr (by decide))).trans (a_up_self _ _ _ _)), by rw [if_pos hx, if_pos hx, ncl, eE, eC]; exact ⟨by rw [en, show max cnt (cnt + 1) = cnt + 1 by omega]; exact a_up_self _ _ _ _, hmk _ (fun b q => (a_up_row q).trans (a_up_row q))⟩, fun b q1 q2 => ((fun b q => (a_up_row q).trans (a_up_row q)) b q1).trans ((hf.1 b q2).trans (a_up_row q1)), fun k q1 q2 q3 => (a_up_ne (Or.inr q3)).trans ((a_up_ne (Or.inr q2)).trans ((congrFun (hf.1 504 (by decide)) k).trans (a_up_ne (Or.inr q1))))⟩ | exact ⟨rfl, (a_up_ne (Or.inr (by decide))).trans (e0.trans (by rw [hx]; rfl)), ⟨_, rfl, fun _ => eA.symm⟩, by rw [if_pos hx]; exact ML.nil (a_up_self _ _ _ _), by rw [if_pos hx, if_pos hx, ncl, eE, eC]; exact ⟨by rw [show max cnt (n + 1) = cnt by have : ¬ n = cnt := fun z => c98 (by rw [z]); omega]; exact (a_up_ne (Or.inr (by decide))).trans e5, hmk _ (fun b q => a_up_row q)⟩, fun b q1 q2 => ((fun b q => a_up_row q) b q1).trans ((hf.1 b q2).trans (a_up_row q1)), fun k q1 q2 q3 => (a_up_ne (Or.inr q2)).trans ((congrFun (hf.1 504 (by decide)) k).trans (a_up_ne (Or.inr q1)))⟩))

