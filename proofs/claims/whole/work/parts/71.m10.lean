/-! ===== MergePostModel: changes ===== -/
def RWm (V : aV) (wd : Nat) (r : Nat → Nat) : Prop := ∀ j, j ≤ wd → V 537 j = .int (nI (r j)) ∧ r j < 1000
theorem RWm.set {V : aV} {wd j x : Nat} {r' r : Nat → Nat} (h : RWm V wd (mixR r' r j)) (e : r' j = x) (hx : x < 1000) : RWm (a_up V 537 j (.int (nI x))) wd (mixR r' r (j + 1)) := by
  intro k hk
  by_cases q : k = j
  · subst q
    have e1 : mixR r' r (k + 1) k = x := (if_pos (Nat.lt_succ_self k)).trans e
    rw [e1]
    exact ⟨a_up_self _ _ _ _, hx⟩
  · have e1 : mixR r' r (j + 1) k = mixR r' r j k := by
      unfold mixR
      by_cases z : k < j
      · rw [if_pos z, if_pos (by omega)]
      · rw [if_neg z, if_neg (by omega)]
    rw [e1, a_up_ne (Or.inr q)]
    exact h k hk
theorem RWm.cg {V : aV} {wd : Nat} {r r' : Nat → Nat} (h : RWm V wd r) (e : ∀ j, j ≤ wd → r' j = r j) : RWm V wd r' := fun j hj => by rw [e j hj]; exact h j hj
set_option maxHeartbeats 4000000 in
theorem ch_1 {mc ms kc ks : Nat} {V0 : aV} {a f g : Nat} {L G : List Int32} (hR0 : MR V0) (ha : Sh.1 a = (14, 144)) (ha9 : a ≠ 537 ∧ a ≠ 504) (hf : f < 12) (hg : g < 12) (hL : RWS V0 a (12 * f) L) (hG : RWS V0 a (12 * g) G) (hl : L.length ≤ 12) (hgl : G.length ≤ 12) {Q : Option Value → aS → aV → Prop} {QX : String → aS → aV → Prop} (hK : ∀ V', RWm V' G.length (fun j => j) → Fr0 V0 V' 537 → R mX12_changes 0 mc ms Q QX kc ks 25 [some (.ref 504), some (.ref a), some (.int (nI f)), some (.int (nI L.length)), some (.int (nI g)), some (.int (nI G.length)), none, none, none, none] [] Sh V') : ∀ (m j : Nat) (V : aV), j + m = G.length + 1 → (∀ i, i < j → V 537 i = .int (nI i)) → Fr0 V0 V 537 → R mX12_changes 0 mc ms Q QX kc ks 3 [some (.ref 504), some (.ref a), some (.int (nI f)), some (.int (nI L.length)), some (.int (nI g)), some (.int (nI G.length)), some (.int (nI j)), none, none, none] [] Sh V := by
  intro m
  induction m with
  | zero =>
    intro j V hj hi hF
    have hj' : j = G.length + 1 := by omega
    subst hj'
    refine R_iload_6 dX12_changes_3 ?_
    refine R_iload_5 dX12_changes_5 ?_
    refine R_icmp_gt 25 dX12_changes_7 (by decide) (fun c7 => ?_) (fun c7 => absurd (nI_lt (by omega) (by omega)) c7)
    refine R_drop_6 ?_
    exact hK V (fun j hj => ⟨hi j (by omega), by show j < 1000; omega⟩) hF
  | succ m ih =>
    intro j V hj hi hF
    have hR : MR V := hR0.fr (fun k _ => congrFun (hF 504 (by decide)) k)
    refine R_iload_6 dX12_changes_3 ?_
    refine R_iload_5 dX12_changes_5 ?_
    refine R_icmp_gt 25 dX12_changes_7 (by decide) (fun c7 => absurd c7 (Int32.not_lt.2 (nI_le (by omega) (by omega)))) (fun c7 => ?_)
    refine R_aload_0 dX12_changes_10 ?_
    refine gfX12_114 rfl dX12_changes_11 sh_504 (by first | exact hR.g (k := 44) (a := 537) (by decide) | exact (a_up_ne (by omega)).trans (hR.g (k := 44) (a := 537) (by decide)) | exact (a_up_ne (by omega)).trans ((a_up_ne (by omega)).trans (hR.g (k := 44) (a := 537) (by decide))) | exact (a_up_ne (by omega)).trans ((a_up_ne (by omega)).trans ((a_up_ne (by omega)).trans (hR.g (k := 44) (a := 537) (by decide)))) | exact (a_up_ne (by omega)).trans ((a_up_ne (by omega)).trans ((a_up_ne (by omega)).trans ((a_up_ne (by omega)).trans (hR.g (k := 44) (a := 537) (by decide))))) | exact (a_up_ne (by omega)).trans ((a_up_ne (by omega)).trans ((a_up_ne (by omega)).trans ((a_up_ne (by omega)).trans ((a_up_ne (by omega)).trans (hR.g (k := 44) (a := 537) (by decide)))))) | exact (a_up_ne (by omega)).trans ((a_up_ne (by omega)).trans ((a_up_ne (by omega)).trans ((a_up_ne (by omega)).trans ((a_up_ne (by omega)).trans ((a_up_ne (by omega)).trans (hR.g (k := 44) (a := 537) (by decide)))))))) ?_
    refine R_iload_6 dX12_changes_14 ?_
    refine R_iload_6 dX12_changes_16 ?_
    refine R_iastE dX12_changes_18 sh_537 rfl (by omega) (by decide) ?_
    refine R_iinc_6 rfl (by decide) dX12_changes_19 rfl ?_
    rw [show nI j + Int32.ofInt 1 = nI (j + 1) from nI_1 _]
    refine R_goto 3 dX12_changes_22 (by decide) ?_
    refine ih (j + 1) _ (by omega) (fun i hi2 => ?_) (fun b hb => (a_up_row hb).trans (hF b hb))
    by_cases q : i = j
    · subst q; exact a_up_self _ _ _ _
    · exact (a_up_ne (Or.inr q)).trans (hi i (by omega))
set_option maxHeartbeats 8000000 in
theorem ch_3 {mc ms kc ks : Nat} {V0 : aV} {a f g : Nat} {L G : List Int32} (hR0 : MR V0) (ha : Sh.1 a = (14, 144)) (ha9 : a ≠ 537 ∧ a ≠ 504) (hf : f < 12) (hg : g < 12) (hL : RWS V0 a (12 * f) L) (hG : RWS V0 a (12 * g) G) (hl : L.length ≤ 12) (hgl : G.length ≤ 12) {j : Nat} (hj : j < L.length) {r : Nat → Nat} (hr : ∀ k, k ≤ G.length → r k < 500) (hr2 : ∀ k, k ≤ G.length → lvS G (L.getD j 0) r k < 501) {Q : Option Value → aS → aV → Prop} {QX : String → aS → aV → Prop} (hK : ∀ V', RWm V' G.length (lvS G (L.getD j 0) r) → Fr0 V0 V' 537 → R mX12_changes 0 mc ms Q QX kc ks 174 [some (.ref 504), some (.ref a), some (.int (nI f)), some (.int (nI L.length)), some (.int (nI g)), some (.int (nI G.length)), some (.int (nI (j + 1))), none, none, none] [] Sh V') : ∀ (m k : Nat) (V : aV), k + m = G.length + 1 → 1 ≤ k → RWm V G.length (mixR (lvS G (L.getD j 0) r) r k) → Fr0 V0 V 537 → R mX12_changes 0 mc ms Q QX kc ks 53 [some (.ref 504), some (.ref a), some (.int (nI f)), some (.int (nI L.length)), some (.int (nI g)), some (.int (nI G.length)), some (.int (nI (j + 1))), some (.int (nI (r (k - 1)))), some (.int (nI k)), none] [] Sh V := by
  intro m
  induction m with
  | zero =>
    intro k V hk h1 hW hF
    have hk' : k = G.length + 1 := by omega
    subst hk'
    refine R_iload_8 dX12_changes_53 ?_
    refine R_iload_5 dX12_changes_55 ?_
    refine R_icmp_gt 174 dX12_changes_57 (by decide) (fun c57 => ?_) (fun c57 => absurd (nI_lt (by omega) (by omega)) c57)
    refine R_drop_7 ?_
    refine R_drop_8 ?_
    exact hK V (hW.cg (fun i hi => (if_pos (by omega)).symm)) hF
  | succ m ih =>
    intro k V hk h1 hW hF
    have hR : MR V := hR0.fr (fun k _ => congrFun (hF 504 (by decide)) k)
    obtain ⟨q, rfl⟩ : ∃ q, k = q + 1 := ⟨k - 1, by omega⟩
    have hvL := (congrFun (hF a ha9.1) (12 * f + j)).trans (hL j hj)
    have hvG := (congrFun (hF a ha9.1) (12 * g + q)).trans (hG q (by omega))
    have hk1 := (hW (q + 1) (by omega)).1
    have hk0 := (hW q (by omega)).1
    have e1 : mixR (lvS G (L.getD j 0) r) r (q + 1) (q + 1) = r (q + 1) := if_neg (by omega)
    have e0 : mixR (lvS G (L.getD j 0) r) r (q + 1) q = lvS G (L.getD j 0) r q := if_pos (by omega)
    rw [e1] at hk1
    rw [e0] at hk0
    rw [Nat.add_sub_cancel]
    have b1 := hr q (by omega)
    have b2 := hr (q + 1) (by omega)
    have b3 := hr2 q (by omega)
    have els : lvS G (L.getD j 0) r (q + 1) = min (r q + if G.getD q 0 = L.getD j 0 then 0 else 1) (1 + min (r (q + 1)) (lvS G (L.getD j 0) r q)) := rfl
    refine R_iload_8 dX12_changes_53 ?_
    refine R_iload_5 dX12_changes_55 ?_
    refine R_icmp_gt 174 dX12_changes_57 (by decide) (fun c57 => absurd c57 (Int32.not_lt.2 (nI_le (by omega) (by omega)))) (fun c57 => ?_)
    refine R_iload_7 dX12_changes_60 ?_
    refine R_aload_1 dX12_changes_62 ?_
    refine R_bipush (v := 12) dX12_changes_63 (by decide) ?_
    refine R_iload_2 dX12_changes_65 ?_
    refine R_imul dX12_changes_66 ?_
    refine R_iload_6 dX12_changes_67 ?_
    refine R_iadd dX12_changes_69 ?_
    refine R_iconst (v := 1) dX12_changes_70 (by decide) ?_
    refine R_isub dX12_changes_71 ?_
    refine R_ialdE dX12_changes_72 ha (show nI 12 * nI f + nI (j + 1) - 1 = nI (12 * f + j) by rw [ix1, ← Nat.add_assoc]; exact nI_pred _) (by omega) (by decide) hvL ?_
    refine R_aload_1 dX12_changes_73 ?_
    refine R_bipush (v := 12) dX12_changes_74 (by decide) ?_
    refine R_iload_4 dX12_changes_76 ?_
    refine R_imul dX12_changes_78 ?_
    refine R_iload_8 dX12_changes_79 ?_
    refine R_iadd dX12_changes_81 ?_
    refine R_iconst (v := 1) dX12_changes_82 (by decide) ?_
    refine R_isub dX12_changes_83 ?_
    refine R_ialdE dX12_changes_84 ha (show nI 12 * nI g + nI (q + 1) - 1 = nI (12 * g + q) by rw [ix1, ← Nat.add_assoc]; exact nI_pred _) (by omega) (by decide) hvG ?_
    refine R_icmp_ne 92 dX12_changes_85 (by decide) (fun c85 => ?_) (fun c85 => ?_)
    · refine R_iconst (v := 1) dX12_changes_92 (by decide) ?_
      refine R_iadd dX12_changes_93 ?_
      first
        | rw [show nI (r q) + 0 = nI (r q) from nI_a0 _]
        | rw [show nI (r q) + 1 = nI (r q + 1) from nI_1 _]
      refine R_istore_9 rfl (by decide) dX12_changes_94 ?_
      refine R_aload_0 dX12_changes_96 ?_
      refine gfX12_114 rfl dX12_changes_97 sh_504 (by first | exact hR.g (k := 44) (a := 537) (by decide) | exact (a_up_ne (by omega)).trans (hR.g (k := 44) (a := 537) (by decide)) | exact (a_up_ne (by omega)).trans ((a_up_ne (by omega)).trans (hR.g (k := 44) (a := 537) (by decide))) | exact (a_up_ne (by omega)).trans ((a_up_ne (by omega)).trans ((a_up_ne (by omega)).trans (hR.g (k := 44) (a := 537) (by decide)))) | exact (a_up_ne (by omega)).trans ((a_up_ne (by omega)).trans ((a_up_ne (by omega)).trans ((a_up_ne (by omega)).trans (hR.g (k := 44) (a := 537) (by decide))))) | exact (a_up_ne (by omega)).trans ((a_up_ne (by omega)).trans ((a_up_ne (by omega)).trans ((a_up_ne (by omega)).trans ((a_up_ne (by omega)).trans (hR.g (k := 44) (a := 537) (by decide)))))) | exact (a_up_ne (by omega)).trans ((a_up_ne (by omega)).trans ((a_up_ne (by omega)).trans ((a_up_ne (by omega)).trans ((a_up_ne (by omega)).trans ((a_up_ne (by omega)).trans (hR.g (k := 44) (a := 537) (by decide)))))))) ?_
      refine R_iload_8 dX12_changes_100 ?_
      refine R_ialdE dX12_changes_102 sh_537 rfl (by omega) (by decide) hk1 ?_
      refine R_iconst (v := 1) dX12_changes_103 (by decide) ?_
      refine R_iadd dX12_changes_104 ?_
      rw [nI_1]
      refine R_iload_9 dX12_changes_105 ?_
      refine R_icmp_ge 121 dX12_changes_107 (by decide) (fun c107 => ?_) (fun c107 => ?_)
      · refine R_aload_0 dX12_changes_121 ?_
        refine gfX12_114 rfl dX12_changes_122 sh_504 (by first | exact hR.g (k := 44) (a := 537) (by decide) | exact (a_up_ne (by omega)).trans (hR.g (k := 44) (a := 537) (by decide)) | exact (a_up_ne (by omega)).trans ((a_up_ne (by omega)).trans (hR.g (k := 44) (a := 537) (by decide))) | exact (a_up_ne (by omega)).trans ((a_up_ne (by omega)).trans ((a_up_ne (by omega)).trans (hR.g (k := 44) (a := 537) (by decide)))) | exact (a_up_ne (by omega)).trans ((a_up_ne (by omega)).trans ((a_up_ne (by omega)).trans ((a_up_ne (by omega)).trans (hR.g (k := 44) (a := 537) (by decide))))) | exact (a_up_ne (by omega)).trans ((a_up_ne (by omega)).trans ((a_up_ne (by omega)).trans ((a_up_ne (by omega)).trans ((a_up_ne (by omega)).trans (hR.g (k := 44) (a := 537) (by decide)))))) | exact (a_up_ne (by omega)).trans ((a_up_ne (by omega)).trans ((a_up_ne (by omega)).trans ((a_up_ne (by omega)).trans ((a_up_ne (by omega)).trans ((a_up_ne (by omega)).trans (hR.g (k := 44) (a := 537) (by decide)))))))) ?_
        refine R_iload_8 dX12_changes_125 ?_
        refine R_iconst (v := 1) dX12_changes_127 (by decide) ?_
        refine R_isub dX12_changes_128 ?_
        refine R_ialdE dX12_changes_129 sh_537 (nI_pred q) (by omega) (by decide) hk0 ?_
        refine R_iconst (v := 1) dX12_changes_130 (by decide) ?_
        refine R_iadd dX12_changes_131 ?_
        rw [nI_1]
        refine R_iload_9 dX12_changes_132 ?_
        refine R_icmp_ge 150 dX12_changes_134 (by decide) (fun c134 => ?_) (fun c134 => ?_)
        · refine R_aload_0 dX12_changes_150 ?_
          refine gfX12_114 rfl dX12_changes_151 sh_504 (by first | exact hR.g (k := 44) (a := 537) (by decide) | exact (a_up_ne (by omega)).trans (hR.g (k := 44) (a := 537) (by decide)) | exact (a_up_ne (by omega)).trans ((a_up_ne (by omega)).trans (hR.g (k := 44) (a := 537) (by decide))) | exact (a_up_ne (by omega)).trans ((a_up_ne (by omega)).trans ((a_up_ne (by omega)).trans (hR.g (k := 44) (a := 537) (by decide)))) | exact (a_up_ne (by omega)).trans ((a_up_ne (by omega)).trans ((a_up_ne (by omega)).trans ((a_up_ne (by omega)).trans (hR.g (k := 44) (a := 537) (by decide))))) | exact (a_up_ne (by omega)).trans ((a_up_ne (by omega)).trans ((a_up_ne (by omega)).trans ((a_up_ne (by omega)).trans ((a_up_ne (by omega)).trans (hR.g (k := 44) (a := 537) (by decide)))))) | exact (a_up_ne (by omega)).trans ((a_up_ne (by omega)).trans ((a_up_ne (by omega)).trans ((a_up_ne (by omega)).trans ((a_up_ne (by omega)).trans ((a_up_ne (by omega)).trans (hR.g (k := 44) (a := 537) (by decide)))))))) ?_
          refine R_iload_8 dX12_changes_154 ?_
          refine R_ialdE dX12_changes_156 sh_537 rfl (by omega) (by decide) hk1 ?_
          refine R_istore_7 rfl (by decide) dX12_changes_157 ?_
          refine R_aload_0 dX12_changes_159 ?_
          refine gfX12_114 rfl dX12_changes_160 sh_504 (by first | exact hR.g (k := 44) (a := 537) (by decide) | exact (a_up_ne (by omega)).trans (hR.g (k := 44) (a := 537) (by decide)) | exact (a_up_ne (by omega)).trans ((a_up_ne (by omega)).trans (hR.g (k := 44) (a := 537) (by decide))) | exact (a_up_ne (by omega)).trans ((a_up_ne (by omega)).trans ((a_up_ne (by omega)).trans (hR.g (k := 44) (a := 537) (by decide)))) | exact (a_up_ne (by omega)).trans ((a_up_ne (by omega)).trans ((a_up_ne (by omega)).trans ((a_up_ne (by omega)).trans (hR.g (k := 44) (a := 537) (by decide))))) | exact (a_up_ne (by omega)).trans ((a_up_ne (by omega)).trans ((a_up_ne (by omega)).trans ((a_up_ne (by omega)).trans ((a_up_ne (by omega)).trans (hR.g (k := 44) (a := 537) (by decide)))))) | exact (a_up_ne (by omega)).trans ((a_up_ne (by omega)).trans ((a_up_ne (by omega)).trans ((a_up_ne (by omega)).trans ((a_up_ne (by omega)).trans ((a_up_ne (by omega)).trans (hR.g (k := 44) (a := 537) (by decide)))))))) ?_
          refine R_iload_8 dX12_changes_163 ?_
          refine R_iload_9 dX12_changes_165 ?_
          first
            | (have e9 : nI (r q) = nI (lvS G (L.getD j 0) r (q + 1)) := by
                 rw [els]
                 refine congrArg nI ?_
                 first
                   | rw [if_pos c85.symm]
                   | rw [if_neg (fun z => c85 z.symm)]
                 first
                   | (have d1 := (nI_leI (by omega) (by omega)).1 c107
                      have d2 := (nI_leI (by omega) (by omega)).1 c134
                      omega)
                   | (have d1 := (nI_leI (by omega) (by omega)).1 c107
                      have d2 := (nI_ltI (by omega) (by omega)).1 (Int32.not_le.1 c134)
                      omega)
                   | (have d1 := (nI_ltI (by omega) (by omega)).1 (Int32.not_le.1 c107)
                      have d2 := (nI_leI (by omega) (by omega)).1 c134
                      omega)
                   | (have d1 := (nI_ltI (by omega) (by omega)).1 (Int32.not_le.1 c107)
                      have d2 := (nI_ltI (by omega) (by omega)).1 (Int32.not_le.1 c134)
                      omega)
               rw [e9])
            | (have e9 : nI (r q + 1) = nI (lvS G (L.getD j 0) r (q + 1)) := by
                 rw [els]
                 refine congrArg nI ?_
                 first
                   | rw [if_pos c85.symm]
                   | rw [if_neg (fun z => c85 z.symm)]
                 first
                   | (have d1 := (nI_leI (by omega) (by omega)).1 c107
                      have d2 := (nI_leI (by omega) (by omega)).1 c134
                      omega)
                   | (have d1 := (nI_leI (by omega) (by omega)).1 c107
                      have d2 := (nI_ltI (by omega) (by omega)).1 (Int32.not_le.1 c134)
                      omega)
                   | (have d1 := (nI_ltI (by omega) (by omega)).1 (Int32.not_le.1 c107)
                      have d2 := (nI_leI (by omega) (by omega)).1 c134
                      omega)
                   | (have d1 := (nI_ltI (by omega) (by omega)).1 (Int32.not_le.1 c107)
                      have d2 := (nI_ltI (by omega) (by omega)).1 (Int32.not_le.1 c134)
                      omega)
               rw [e9])
            | (have e9 : nI (r (q + 1) + 1) = nI (lvS G (L.getD j 0) r (q + 1)) := by
                 rw [els]
                 refine congrArg nI ?_
                 first
                   | rw [if_pos c85.symm]
                   | rw [if_neg (fun z => c85 z.symm)]
                 first
                   | (have d1 := (nI_leI (by omega) (by omega)).1 c107
                      have d2 := (nI_leI (by omega) (by omega)).1 c134
                      omega)
                   | (have d1 := (nI_leI (by omega) (by omega)).1 c107
                      have d2 := (nI_ltI (by omega) (by omega)).1 (Int32.not_le.1 c134)
                      omega)
                   | (have d1 := (nI_ltI (by omega) (by omega)).1 (Int32.not_le.1 c107)
                      have d2 := (nI_leI (by omega) (by omega)).1 c134
                      omega)
                   | (have d1 := (nI_ltI (by omega) (by omega)).1 (Int32.not_le.1 c107)
                      have d2 := (nI_ltI (by omega) (by omega)).1 (Int32.not_le.1 c134)
                      omega)
               rw [e9])
            | (have e9 : nI (lvS G (L.getD j 0) r q + 1) = nI (lvS G (L.getD j 0) r (q + 1)) := by
                 rw [els]
                 refine congrArg nI ?_
                 first
                   | rw [if_pos c85.symm]
                   | rw [if_neg (fun z => c85 z.symm)]
                 first
                   | (have d1 := (nI_leI (by omega) (by omega)).1 c107
                      have d2 := (nI_leI (by omega) (by omega)).1 c134
                      omega)
                   | (have d1 := (nI_leI (by omega) (by omega)).1 c107
                      have d2 := (nI_ltI (by omega) (by omega)).1 (Int32.not_le.1 c134)
                      omega)
                   | (have d1 := (nI_ltI (by omega) (by omega)).1 (Int32.not_le.1 c107)
                      have d2 := (nI_leI (by omega) (by omega)).1 c134
                      omega)
                   | (have d1 := (nI_ltI (by omega) (by omega)).1 (Int32.not_le.1 c107)
                      have d2 := (nI_ltI (by omega) (by omega)).1 (Int32.not_le.1 c134)
                      omega)
               rw [e9])
          refine R_iastE dX12_changes_167 sh_537 rfl (by omega) (by decide) ?_
          refine R_drop_9 ?_
          refine R_iinc_8 rfl (by decide) dX12_changes_168 rfl ?_
          rw [show nI (q + 1) + Int32.ofInt 1 = nI (q + 1 + 1) from nI_1 _]
          refine R_goto 53 dX12_changes_171 (by decide) ?_
          exact ih (q + 1 + 1) _ (by omega) (by omega) (hW.set rfl (by have := hr2 (q + 1) (by omega); omega)) (fun b hb => (a_up_row hb).trans (hF b hb))
        · refine R_aload_0 dX12_changes_137 ?_
          refine gfX12_114 rfl dX12_changes_138 sh_504 (by first | exact hR.g (k := 44) (a := 537) (by decide) | exact (a_up_ne (by omega)).trans (hR.g (k := 44) (a := 537) (by decide)) | exact (a_up_ne (by omega)).trans ((a_up_ne (by omega)).trans (hR.g (k := 44) (a := 537) (by decide))) | exact (a_up_ne (by omega)).trans ((a_up_ne (by omega)).trans ((a_up_ne (by omega)).trans (hR.g (k := 44) (a := 537) (by decide)))) | exact (a_up_ne (by omega)).trans ((a_up_ne (by omega)).trans ((a_up_ne (by omega)).trans ((a_up_ne (by omega)).trans (hR.g (k := 44) (a := 537) (by decide))))) | exact (a_up_ne (by omega)).trans ((a_up_ne (by omega)).trans ((a_up_ne (by omega)).trans ((a_up_ne (by omega)).trans ((a_up_ne (by omega)).trans (hR.g (k := 44) (a := 537) (by decide)))))) | exact (a_up_ne (by omega)).trans ((a_up_ne (by omega)).trans ((a_up_ne (by omega)).trans ((a_up_ne (by omega)).trans ((a_up_ne (by omega)).trans ((a_up_ne (by omega)).trans (hR.g (k := 44) (a := 537) (by decide)))))))) ?_
          refine R_iload_8 dX12_changes_141 ?_
          refine R_iconst (v := 1) dX12_changes_143 (by decide) ?_
          refine R_isub dX12_changes_144 ?_
          refine R_ialdE dX12_changes_145 sh_537 (nI_pred q) (by omega) (by decide) hk0 ?_
          refine R_iconst (v := 1) dX12_changes_146 (by decide) ?_
          refine R_iadd dX12_changes_147 ?_
          rw [nI_1]
          refine R_istore_9 rfl (by decide) dX12_changes_148 ?_
          refine R_aload_0 dX12_changes_150 ?_
          refine gfX12_114 rfl dX12_changes_151 sh_504 (by first | exact hR.g (k := 44) (a := 537) (by decide) | exact (a_up_ne (by omega)).trans (hR.g (k := 44) (a := 537) (by decide)) | exact (a_up_ne (by omega)).trans ((a_up_ne (by omega)).trans (hR.g (k := 44) (a := 537) (by decide))) | exact (a_up_ne (by omega)).trans ((a_up_ne (by omega)).trans ((a_up_ne (by omega)).trans (hR.g (k := 44) (a := 537) (by decide)))) | exact (a_up_ne (by omega)).trans ((a_up_ne (by omega)).trans ((a_up_ne (by omega)).trans ((a_up_ne (by omega)).trans (hR.g (k := 44) (a := 537) (by decide))))) | exact (a_up_ne (by omega)).trans ((a_up_ne (by omega)).trans ((a_up_ne (by omega)).trans ((a_up_ne (by omega)).trans ((a_up_ne (by omega)).trans (hR.g (k := 44) (a := 537) (by decide)))))) | exact (a_up_ne (by omega)).trans ((a_up_ne (by omega)).trans ((a_up_ne (by omega)).trans ((a_up_ne (by omega)).trans ((a_up_ne (by omega)).trans ((a_up_ne (by omega)).trans (hR.g (k := 44) (a := 537) (by decide)))))))) ?_
          refine R_iload_8 dX12_changes_154 ?_
          refine R_ialdE dX12_changes_156 sh_537 rfl (by omega) (by decide) hk1 ?_
          refine R_istore_7 rfl (by decide) dX12_changes_157 ?_
          refine R_aload_0 dX12_changes_159 ?_
          refine gfX12_114 rfl dX12_changes_160 sh_504 (by first | exact hR.g (k := 44) (a := 537) (by decide) | exact (a_up_ne (by omega)).trans (hR.g (k := 44) (a := 537) (by decide)) | exact (a_up_ne (by omega)).trans ((a_up_ne (by omega)).trans (hR.g (k := 44) (a := 537) (by decide))) | exact (a_up_ne (by omega)).trans ((a_up_ne (by omega)).trans ((a_up_ne (by omega)).trans (hR.g (k := 44) (a := 537) (by decide)))) | exact (a_up_ne (by omega)).trans ((a_up_ne (by omega)).trans ((a_up_ne (by omega)).trans ((a_up_ne (by omega)).trans (hR.g (k := 44) (a := 537) (by decide))))) | exact (a_up_ne (by omega)).trans ((a_up_ne (by omega)).trans ((a_up_ne (by omega)).trans ((a_up_ne (by omega)).trans ((a_up_ne (by omega)).trans (hR.g (k := 44) (a := 537) (by decide)))))) | exact (a_up_ne (by omega)).trans ((a_up_ne (by omega)).trans ((a_up_ne (by omega)).trans ((a_up_ne (by omega)).trans ((a_up_ne (by omega)).trans ((a_up_ne (by omega)).trans (hR.g (k := 44) (a := 537) (by decide)))))))) ?_
          refine R_iload_8 dX12_changes_163 ?_
          refine R_iload_9 dX12_changes_165 ?_
          first
            | (have e9 : nI (r q) = nI (lvS G (L.getD j 0) r (q + 1)) := by
                 rw [els]
                 refine congrArg nI ?_
                 first
                   | rw [if_pos c85.symm]
                   | rw [if_neg (fun z => c85 z.symm)]
                 first
                   | (have d1 := (nI_leI (by omega) (by omega)).1 c107
                      have d2 := (nI_leI (by omega) (by omega)).1 c134
                      omega)
                   | (have d1 := (nI_leI (by omega) (by omega)).1 c107
                      have d2 := (nI_ltI (by omega) (by omega)).1 (Int32.not_le.1 c134)
                      omega)
                   | (have d1 := (nI_ltI (by omega) (by omega)).1 (Int32.not_le.1 c107)
                      have d2 := (nI_leI (by omega) (by omega)).1 c134
                      omega)
                   | (have d1 := (nI_ltI (by omega) (by omega)).1 (Int32.not_le.1 c107)
                      have d2 := (nI_ltI (by omega) (by omega)).1 (Int32.not_le.1 c134)
                      omega)
               rw [e9])
            | (have e9 : nI (r q + 1) = nI (lvS G (L.getD j 0) r (q + 1)) := by
                 rw [els]
                 refine congrArg nI ?_
                 first
                   | rw [if_pos c85.symm]
                   | rw [if_neg (fun z => c85 z.symm)]
                 first
                   | (have d1 := (nI_leI (by omega) (by omega)).1 c107
                      have d2 := (nI_leI (by omega) (by omega)).1 c134
                      omega)
                   | (have d1 := (nI_leI (by omega) (by omega)).1 c107
                      have d2 := (nI_ltI (by omega) (by omega)).1 (Int32.not_le.1 c134)
                      omega)
                   | (have d1 := (nI_ltI (by omega) (by omega)).1 (Int32.not_le.1 c107)
                      have d2 := (nI_leI (by omega) (by omega)).1 c134
                      omega)
                   | (have d1 := (nI_ltI (by omega) (by omega)).1 (Int32.not_le.1 c107)
                      have d2 := (nI_ltI (by omega) (by omega)).1 (Int32.not_le.1 c134)
                      omega)
               rw [e9])
            | (have e9 : nI (r (q + 1) + 1) = nI (lvS G (L.getD j 0) r (q + 1)) := by
                 rw [els]
                 refine congrArg nI ?_
                 first
                   | rw [if_pos c85.symm]
                   | rw [if_neg (fun z => c85 z.symm)]
                 first
                   | (have d1 := (nI_leI (by omega) (by omega)).1 c107
                      have d2 := (nI_leI (by omega) (by omega)).1 c134
                      omega)
                   | (have d1 := (nI_leI (by omega) (by omega)).1 c107
                      have d2 := (nI_ltI (by omega) (by omega)).1 (Int32.not_le.1 c134)
                      omega)
                   | (have d1 := (nI_ltI (by omega) (by omega)).1 (Int32.not_le.1 c107)
                      have d2 := (nI_leI (by omega) (by omega)).1 c134
                      omega)
                   | (have d1 := (nI_ltI (by omega) (by omega)).1 (Int32.not_le.1 c107)
                      have d2 := (nI_ltI (by omega) (by omega)).1 (Int32.not_le.1 c134)
                      omega)
               rw [e9])
            | (have e9 : nI (lvS G (L.getD j 0) r q + 1) = nI (lvS G (L.getD j 0) r (q + 1)) := by
                 rw [els]
                 refine congrArg nI ?_
                 first
                   | rw [if_pos c85.symm]
                   | rw [if_neg (fun z => c85 z.symm)]
                 first
                   | (have d1 := (nI_leI (by omega) (by omega)).1 c107
                      have d2 := (nI_leI (by omega) (by omega)).1 c134
                      omega)
                   | (have d1 := (nI_leI (by omega) (by omega)).1 c107
                      have d2 := (nI_ltI (by omega) (by omega)).1 (Int32.not_le.1 c134)
                      omega)
                   | (have d1 := (nI_ltI (by omega) (by omega)).1 (Int32.not_le.1 c107)
                      have d2 := (nI_leI (by omega) (by omega)).1 c134
                      omega)
                   | (have d1 := (nI_ltI (by omega) (by omega)).1 (Int32.not_le.1 c107)
                      have d2 := (nI_ltI (by omega) (by omega)).1 (Int32.not_le.1 c134)
                      omega)
               rw [e9])
          refine R_iastE dX12_changes_167 sh_537 rfl (by omega) (by decide) ?_
          refine R_drop_9 ?_
          refine R_iinc_8 rfl (by decide) dX12_changes_168 rfl ?_
          rw [show nI (q + 1) + Int32.ofInt 1 = nI (q + 1 + 1) from nI_1 _]
          refine R_goto 53 dX12_changes_171 (by decide) ?_
          exact ih (q + 1 + 1) _ (by omega) (by omega) (hW.set rfl (by have := hr2 (q + 1) (by omega); omega)) (fun b hb => (a_up_row hb).trans (hF b hb))
      · refine R_aload_0 dX12_changes_110 ?_
        refine gfX12_114 rfl dX12_changes_111 sh_504 (by first | exact hR.g (k := 44) (a := 537) (by decide) | exact (a_up_ne (by omega)).trans (hR.g (k := 44) (a := 537) (by decide)) | exact (a_up_ne (by omega)).trans ((a_up_ne (by omega)).trans (hR.g (k := 44) (a := 537) (by decide))) | exact (a_up_ne (by omega)).trans ((a_up_ne (by omega)).trans ((a_up_ne (by omega)).trans (hR.g (k := 44) (a := 537) (by decide)))) | exact (a_up_ne (by omega)).trans ((a_up_ne (by omega)).trans ((a_up_ne (by omega)).trans ((a_up_ne (by omega)).trans (hR.g (k := 44) (a := 537) (by decide))))) | exact (a_up_ne (by omega)).trans ((a_up_ne (by omega)).trans ((a_up_ne (by omega)).trans ((a_up_ne (by omega)).trans ((a_up_ne (by omega)).trans (hR.g (k := 44) (a := 537) (by decide)))))) | exact (a_up_ne (by omega)).trans ((a_up_ne (by omega)).trans ((a_up_ne (by omega)).trans ((a_up_ne (by omega)).trans ((a_up_ne (by omega)).trans ((a_up_ne (by omega)).trans (hR.g (k := 44) (a := 537) (by decide)))))))) ?_
        refine R_iload_8 dX12_changes_114 ?_
        refine R_ialdE dX12_changes_116 sh_537 rfl (by omega) (by decide) hk1 ?_
        refine R_iconst (v := 1) dX12_changes_117 (by decide) ?_
        refine R_iadd dX12_changes_118 ?_
        rw [nI_1]
        refine R_istore_9 rfl (by decide) dX12_changes_119 ?_
        refine R_aload_0 dX12_changes_121 ?_
        refine gfX12_114 rfl dX12_changes_122 sh_504 (by first | exact hR.g (k := 44) (a := 537) (by decide) | exact (a_up_ne (by omega)).trans (hR.g (k := 44) (a := 537) (by decide)) | exact (a_up_ne (by omega)).trans ((a_up_ne (by omega)).trans (hR.g (k := 44) (a := 537) (by decide))) | exact (a_up_ne (by omega)).trans ((a_up_ne (by omega)).trans ((a_up_ne (by omega)).trans (hR.g (k := 44) (a := 537) (by decide)))) | exact (a_up_ne (by omega)).trans ((a_up_ne (by omega)).trans ((a_up_ne (by omega)).trans ((a_up_ne (by omega)).trans (hR.g (k := 44) (a := 537) (by decide))))) | exact (a_up_ne (by omega)).trans ((a_up_ne (by omega)).trans ((a_up_ne (by omega)).trans ((a_up_ne (by omega)).trans ((a_up_ne (by omega)).trans (hR.g (k := 44) (a := 537) (by decide)))))) | exact (a_up_ne (by omega)).trans ((a_up_ne (by omega)).trans ((a_up_ne (by omega)).trans ((a_up_ne (by omega)).trans ((a_up_ne (by omega)).trans ((a_up_ne (by omega)).trans (hR.g (k := 44) (a := 537) (by decide)))))))) ?_
        refine R_iload_8 dX12_changes_125 ?_
        refine R_iconst (v := 1) dX12_changes_127 (by decide) ?_
        refine R_isub dX12_changes_128 ?_
        refine R_ialdE dX12_changes_129 sh_537 (nI_pred q) (by omega) (by decide) hk0 ?_
        refine R_iconst (v := 1) dX12_changes_130 (by decide) ?_
        refine R_iadd dX12_changes_131 ?_
        rw [nI_1]
        refine R_iload_9 dX12_changes_132 ?_
        refine R_icmp_ge 150 dX12_changes_134 (by decide) (fun c134 => ?_) (fun c134 => ?_)
        · refine R_aload_0 dX12_changes_150 ?_
          refine gfX12_114 rfl dX12_changes_151 sh_504 (by first | exact hR.g (k := 44) (a := 537) (by decide) | exact (a_up_ne (by omega)).trans (hR.g (k := 44) (a := 537) (by decide)) | exact (a_up_ne (by omega)).trans ((a_up_ne (by omega)).trans (hR.g (k := 44) (a := 537) (by decide))) | exact (a_up_ne (by omega)).trans ((a_up_ne (by omega)).trans ((a_up_ne (by omega)).trans (hR.g (k := 44) (a := 537) (by decide)))) | exact (a_up_ne (by omega)).trans ((a_up_ne (by omega)).trans ((a_up_ne (by omega)).trans ((a_up_ne (by omega)).trans (hR.g (k := 44) (a := 537) (by decide))))) | exact (a_up_ne (by omega)).trans ((a_up_ne (by omega)).trans ((a_up_ne (by omega)).trans ((a_up_ne (by omega)).trans ((a_up_ne (by omega)).trans (hR.g (k := 44) (a := 537) (by decide)))))) | exact (a_up_ne (by omega)).trans ((a_up_ne (by omega)).trans ((a_up_ne (by omega)).trans ((a_up_ne (by omega)).trans ((a_up_ne (by omega)).trans ((a_up_ne (by omega)).trans (hR.g (k := 44) (a := 537) (by decide)))))))) ?_
          refine R_iload_8 dX12_changes_154 ?_
          refine R_ialdE dX12_changes_156 sh_537 rfl (by omega) (by decide) hk1 ?_
          refine R_istore_7 rfl (by decide) dX12_changes_157 ?_
          refine R_aload_0 dX12_changes_159 ?_
          refine gfX12_114 rfl dX12_changes_160 sh_504 (by first | exact hR.g (k := 44) (a := 537) (by decide) | exact (a_up_ne (by omega)).trans (hR.g (k := 44) (a := 537) (by decide)) | exact (a_up_ne (by omega)).trans ((a_up_ne (by omega)).trans (hR.g (k := 44) (a := 537) (by decide))) | exact (a_up_ne (by omega)).trans ((a_up_ne (by omega)).trans ((a_up_ne (by omega)).trans (hR.g (k := 44) (a := 537) (by decide)))) | exact (a_up_ne (by omega)).trans ((a_up_ne (by omega)).trans ((a_up_ne (by omega)).trans ((a_up_ne (by omega)).trans (hR.g (k := 44) (a := 537) (by decide))))) | exact (a_up_ne (by omega)).trans ((a_up_ne (by omega)).trans ((a_up_ne (by omega)).trans ((a_up_ne (by omega)).trans ((a_up_ne (by omega)).trans (hR.g (k := 44) (a := 537) (by decide)))))) | exact (a_up_ne (by omega)).trans ((a_up_ne (by omega)).trans ((a_up_ne (by omega)).trans ((a_up_ne (by omega)).trans ((a_up_ne (by omega)).trans ((a_up_ne (by omega)).trans (hR.g (k := 44) (a := 537) (by decide)))))))) ?_
          refine R_iload_8 dX12_changes_163 ?_
          refine R_iload_9 dX12_changes_165 ?_
          first
            | (have e9 : nI (r q) = nI (lvS G (L.getD j 0) r (q + 1)) := by
                 rw [els]
                 refine congrArg nI ?_
                 first
                   | rw [if_pos c85.symm]
                   | rw [if_neg (fun z => c85 z.symm)]
                 first
                   | (have d1 := (nI_leI (by omega) (by omega)).1 c107
                      have d2 := (nI_leI (by omega) (by omega)).1 c134
                      omega)
                   | (have d1 := (nI_leI (by omega) (by omega)).1 c107
                      have d2 := (nI_ltI (by omega) (by omega)).1 (Int32.not_le.1 c134)
                      omega)
                   | (have d1 := (nI_ltI (by omega) (by omega)).1 (Int32.not_le.1 c107)
                      have d2 := (nI_leI (by omega) (by omega)).1 c134
                      omega)
                   | (have d1 := (nI_ltI (by omega) (by omega)).1 (Int32.not_le.1 c107)
                      have d2 := (nI_ltI (by omega) (by omega)).1 (Int32.not_le.1 c134)
                      omega)
               rw [e9])
            | (have e9 : nI (r q + 1) = nI (lvS G (L.getD j 0) r (q + 1)) := by
                 rw [els]
                 refine congrArg nI ?_
                 first
                   | rw [if_pos c85.symm]
                   | rw [if_neg (fun z => c85 z.symm)]
                 first
                   | (have d1 := (nI_leI (by omega) (by omega)).1 c107
                      have d2 := (nI_leI (by omega) (by omega)).1 c134
                      omega)
                   | (have d1 := (nI_leI (by omega) (by omega)).1 c107
                      have d2 := (nI_ltI (by omega) (by omega)).1 (Int32.not_le.1 c134)
                      omega)
                   | (have d1 := (nI_ltI (by omega) (by omega)).1 (Int32.not_le.1 c107)
                      have d2 := (nI_leI (by omega) (by omega)).1 c134
                      omega)
                   | (have d1 := (nI_ltI (by omega) (by omega)).1 (Int32.not_le.1 c107)
                      have d2 := (nI_ltI (by omega) (by omega)).1 (Int32.not_le.1 c134)
                      omega)
               rw [e9])
            | (have e9 : nI (r (q + 1) + 1) = nI (lvS G (L.getD j 0) r (q + 1)) := by
                 rw [els]
                 refine congrArg nI ?_
                 first
                   | rw [if_pos c85.symm]
                   | rw [if_neg (fun z => c85 z.symm)]
                 first
                   | (have d1 := (nI_leI (by omega) (by omega)).1 c107
                      have d2 := (nI_leI (by omega) (by omega)).1 c134
                      omega)
                   | (have d1 := (nI_leI (by omega) (by omega)).1 c107
                      have d2 := (nI_ltI (by omega) (by omega)).1 (Int32.not_le.1 c134)
                      omega)
                   | (have d1 := (nI_ltI (by omega) (by omega)).1 (Int32.not_le.1 c107)
                      have d2 := (nI_leI (by omega) (by omega)).1 c134
                      omega)
                   | (have d1 := (nI_ltI (by omega) (by omega)).1 (Int32.not_le.1 c107)
                      have d2 := (nI_ltI (by omega) (by omega)).1 (Int32.not_le.1 c134)
                      omega)
               rw [e9])
            | (have e9 : nI (lvS G (L.getD j 0) r q + 1) = nI (lvS G (L.getD j 0) r (q + 1)) := by
                 rw [els]
                 refine congrArg nI ?_
                 first
                   | rw [if_pos c85.symm]
                   | rw [if_neg (fun z => c85 z.symm)]
                 first
                   | (have d1 := (nI_leI (by omega) (by omega)).1 c107
                      have d2 := (nI_leI (by omega) (by omega)).1 c134
                      omega)
                   | (have d1 := (nI_leI (by omega) (by omega)).1 c107
                      have d2 := (nI_ltI (by omega) (by omega)).1 (Int32.not_le.1 c134)
                      omega)
                   | (have d1 := (nI_ltI (by omega) (by omega)).1 (Int32.not_le.1 c107)
                      have d2 := (nI_leI (by omega) (by omega)).1 c134
                      omega)
                   | (have d1 := (nI_ltI (by omega) (by omega)).1 (Int32.not_le.1 c107)
                      have d2 := (nI_ltI (by omega) (by omega)).1 (Int32.not_le.1 c134)
                      omega)
               rw [e9])
          refine R_iastE dX12_changes_167 sh_537 rfl (by omega) (by decide) ?_
          refine R_drop_9 ?_
          refine R_iinc_8 rfl (by decide) dX12_changes_168 rfl ?_
          rw [show nI (q + 1) + Int32.ofInt 1 = nI (q + 1 + 1) from nI_1 _]
          refine R_goto 53 dX12_changes_171 (by decide) ?_
          exact ih (q + 1 + 1) _ (by omega) (by omega) (hW.set rfl (by have := hr2 (q + 1) (by omega); omega)) (fun b hb => (a_up_row hb).trans (hF b hb))
        · refine R_aload_0 dX12_changes_137 ?_
          refine gfX12_114 rfl dX12_changes_138 sh_504 (by first | exact hR.g (k := 44) (a := 537) (by decide) | exact (a_up_ne (by omega)).trans (hR.g (k := 44) (a := 537) (by decide)) | exact (a_up_ne (by omega)).trans ((a_up_ne (by omega)).trans (hR.g (k := 44) (a := 537) (by decide))) | exact (a_up_ne (by omega)).trans ((a_up_ne (by omega)).trans ((a_up_ne (by omega)).trans (hR.g (k := 44) (a := 537) (by decide)))) | exact (a_up_ne (by omega)).trans ((a_up_ne (by omega)).trans ((a_up_ne (by omega)).trans ((a_up_ne (by omega)).trans (hR.g (k := 44) (a := 537) (by decide))))) | exact (a_up_ne (by omega)).trans ((a_up_ne (by omega)).trans ((a_up_ne (by omega)).trans ((a_up_ne (by omega)).trans ((a_up_ne (by omega)).trans (hR.g (k := 44) (a := 537) (by decide)))))) | exact (a_up_ne (by omega)).trans ((a_up_ne (by omega)).trans ((a_up_ne (by omega)).trans ((a_up_ne (by omega)).trans ((a_up_ne (by omega)).trans ((a_up_ne (by omega)).trans (hR.g (k := 44) (a := 537) (by decide)))))))) ?_
          refine R_iload_8 dX12_changes_141 ?_
          refine R_iconst (v := 1) dX12_changes_143 (by decide) ?_
          refine R_isub dX12_changes_144 ?_
          refine R_ialdE dX12_changes_145 sh_537 (nI_pred q) (by omega) (by decide) hk0 ?_
          refine R_iconst (v := 1) dX12_changes_146 (by decide) ?_
          refine R_iadd dX12_changes_147 ?_
          rw [nI_1]
          refine R_istore_9 rfl (by decide) dX12_changes_148 ?_
          refine R_aload_0 dX12_changes_150 ?_
          refine gfX12_114 rfl dX12_changes_151 sh_504 (by first | exact hR.g (k := 44) (a := 537) (by decide) | exact (a_up_ne (by omega)).trans (hR.g (k := 44) (a := 537) (by decide)) | exact (a_up_ne (by omega)).trans ((a_up_ne (by omega)).trans (hR.g (k := 44) (a := 537) (by decide))) | exact (a_up_ne (by omega)).trans ((a_up_ne (by omega)).trans ((a_up_ne (by omega)).trans (hR.g (k := 44) (a := 537) (by decide)))) | exact (a_up_ne (by omega)).trans ((a_up_ne (by omega)).trans ((a_up_ne (by omega)).trans ((a_up_ne (by omega)).trans (hR.g (k := 44) (a := 537) (by decide))))) | exact (a_up_ne (by omega)).trans ((a_up_ne (by omega)).trans ((a_up_ne (by omega)).trans ((a_up_ne (by omega)).trans ((a_up_ne (by omega)).trans (hR.g (k := 44) (a := 537) (by decide)))))) | exact (a_up_ne (by omega)).trans ((a_up_ne (by omega)).trans ((a_up_ne (by omega)).trans ((a_up_ne (by omega)).trans ((a_up_ne (by omega)).trans ((a_up_ne (by omega)).trans (hR.g (k := 44) (a := 537) (by decide)))))))) ?_
          refine R_iload_8 dX12_changes_154 ?_
          refine R_ialdE dX12_changes_156 sh_537 rfl (by omega) (by decide) hk1 ?_
          refine R_istore_7 rfl (by decide) dX12_changes_157 ?_
          refine R_aload_0 dX12_changes_159 ?_
          refine gfX12_114 rfl dX12_changes_160 sh_504 (by first | exact hR.g (k := 44) (a := 537) (by decide) | exact (a_up_ne (by omega)).trans (hR.g (k := 44) (a := 537) (by decide)) | exact (a_up_ne (by omega)).trans ((a_up_ne (by omega)).trans (hR.g (k := 44) (a := 537) (by decide))) | exact (a_up_ne (by omega)).trans ((a_up_ne (by omega)).trans ((a_up_ne (by omega)).trans (hR.g (k := 44) (a := 537) (by decide)))) | exact (a_up_ne (by omega)).trans ((a_up_ne (by omega)).trans ((a_up_ne (by omega)).trans ((a_up_ne (by omega)).trans (hR.g (k := 44) (a := 537) (by decide))))) | exact (a_up_ne (by omega)).trans ((a_up_ne (by omega)).trans ((a_up_ne (by omega)).trans ((a_up_ne (by omega)).trans ((a_up_ne (by omega)).trans (hR.g (k := 44) (a := 537) (by decide)))))) | exact (a_up_ne (by omega)).trans ((a_up_ne (by omega)).trans ((a_up_ne (by omega)).trans ((a_up_ne (by omega)).trans ((a_up_ne (by omega)).trans ((a_up_ne (by omega)).trans (hR.g (k := 44) (a := 537) (by decide)))))))) ?_
          refine R_iload_8 dX12_changes_163 ?_
          refine R_iload_9 dX12_changes_165 ?_
          first
            | (have e9 : nI (r q) = nI (lvS G (L.getD j 0) r (q + 1)) := by
                 rw [els]
                 refine congrArg nI ?_
                 first
                   | rw [if_pos c85.symm]
                   | rw [if_neg (fun z => c85 z.symm)]
                 first
                   | (have d1 := (nI_leI (by omega) (by omega)).1 c107
                      have d2 := (nI_leI (by omega) (by omega)).1 c134
                      omega)
                   | (have d1 := (nI_leI (by omega) (by omega)).1 c107
                      have d2 := (nI_ltI (by omega) (by omega)).1 (Int32.not_le.1 c134)
                      omega)
                   | (have d1 := (nI_ltI (by omega) (by omega)).1 (Int32.not_le.1 c107)
                      have d2 := (nI_leI (by omega) (by omega)).1 c134
                      omega)
                   | (have d1 := (nI_ltI (by omega) (by omega)).1 (Int32.not_le.1 c107)
                      have d2 := (nI_ltI (by omega) (by omega)).1 (Int32.not_le.1 c134)
                      omega)
               rw [e9])
            | (have e9 : nI (r q + 1) = nI (lvS G (L.getD j 0) r (q + 1)) := by
                 rw [els]
                 refine congrArg nI ?_
                 first
                   | rw [if_pos c85.symm]
                   | rw [if_neg (fun z => c85 z.symm)]
                 first
                   | (have d1 := (nI_leI (by omega) (by omega)).1 c107
                      have d2 := (nI_leI (by omega) (by omega)).1 c134
                      omega)
                   | (have d1 := (nI_leI (by omega) (by omega)).1 c107
                      have d2 := (nI_ltI (by omega) (by omega)).1 (Int32.not_le.1 c134)
                      omega)
                   | (have d1 := (nI_ltI (by omega) (by omega)).1 (Int32.not_le.1 c107)
                      have d2 := (nI_leI (by omega) (by omega)).1 c134
                      omega)
                   | (have d1 := (nI_ltI (by omega) (by omega)).1 (Int32.not_le.1 c107)
                      have d2 := (nI_ltI (by omega) (by omega)).1 (Int32.not_le.1 c134)
                      omega)
               rw [e9])
            | (have e9 : nI (r (q + 1) + 1) = nI (lvS G (L.getD j 0) r (q + 1)) := by
                 rw [els]
                 refine congrArg nI ?_
                 first
                   | rw [if_pos c85.symm]
                   | rw [if_neg (fun z => c85 z.symm)]
                 first
                   | (have d1 := (nI_leI (by omega) (by omega)).1 c107
                      have d2 := (nI_leI (by omega) (by omega)).1 c134
                      omega)
                   | (have d1 := (nI_leI (by omega) (by omega)).1 c107
                      have d2 := (nI_ltI (by omega) (by omega)).1 (Int32.not_le.1 c134)
                      omega)
                   | (have d1 := (nI_ltI (by omega) (by omega)).1 (Int32.not_le.1 c107)
                      have d2 := (nI_leI (by omega) (by omega)).1 c134
                      omega)
                   | (have d1 := (nI_ltI (by omega) (by omega)).1 (Int32.not_le.1 c107)
                      have d2 := (nI_ltI (by omega) (by omega)).1 (Int32.not_le.1 c134)
                      omega)
               rw [e9])
            | (have e9 : nI (lvS G (L.getD j 0) r q + 1) = nI (lvS G (L.getD j 0) r (q + 1)) := by
                 rw [els]
                 refine congrArg nI ?_
                 first
                   | rw [if_pos c85.symm]
                   | rw [if_neg (fun z => c85 z.symm)]
                 first
                   | (have d1 := (nI_leI (by omega) (by omega)).1 c107
                      have d2 := (nI_leI (by omega) (by omega)).1 c134
                      omega)
                   | (have d1 := (nI_leI (by omega) (by omega)).1 c107
                      have d2 := (nI_ltI (by omega) (by omega)).1 (Int32.not_le.1 c134)
                      omega)
                   | (have d1 := (nI_ltI (by omega) (by omega)).1 (Int32.not_le.1 c107)
                      have d2 := (nI_leI (by omega) (by omega)).1 c134
                      omega)
                   | (have d1 := (nI_ltI (by omega) (by omega)).1 (Int32.not_le.1 c107)
                      have d2 := (nI_ltI (by omega) (by omega)).1 (Int32.not_le.1 c134)
                      omega)
               rw [e9])
          refine R_iastE dX12_changes_167 sh_537 rfl (by omega) (by decide) ?_
          refine R_drop_9 ?_
          refine R_iinc_8 rfl (by decide) dX12_changes_168 rfl ?_
          rw [show nI (q + 1) + Int32.ofInt 1 = nI (q + 1 + 1) from nI_1 _]
          refine R_goto 53 dX12_changes_171 (by decide) ?_
          exact ih (q + 1 + 1) _ (by omega) (by omega) (hW.set rfl (by have := hr2 (q + 1) (by omega); omega)) (fun b hb => (a_up_row hb).trans (hF b hb))
    · refine R_iconst (v := 0) dX12_changes_88 (by decide) ?_
      refine R_goto 93 dX12_changes_89 (by decide) ?_
      refine R_iadd dX12_changes_93 ?_
      first
        | rw [show nI (r q) + 0 = nI (r q) from nI_a0 _]
        | rw [show nI (r q) + 1 = nI (r q + 1) from nI_1 _]
      refine R_istore_9 rfl (by decide) dX12_changes_94 ?_
      refine R_aload_0 dX12_changes_96 ?_
      refine gfX12_114 rfl dX12_changes_97 sh_504 (by first | exact hR.g (k := 44) (a := 537) (by decide) | exact (a_up_ne (by omega)).trans (hR.g (k := 44) (a := 537) (by decide)) | exact (a_up_ne (by omega)).trans ((a_up_ne (by omega)).trans (hR.g (k := 44) (a := 537) (by decide))) | exact (a_up_ne (by omega)).trans ((a_up_ne (by omega)).trans ((a_up_ne (by omega)).trans (hR.g (k := 44) (a := 537) (by decide)))) | exact (a_up_ne (by omega)).trans ((a_up_ne (by omega)).trans ((a_up_ne (by omega)).trans ((a_up_ne (by omega)).trans (hR.g (k := 44) (a := 537) (by decide))))) | exact (a_up_ne (by omega)).trans ((a_up_ne (by omega)).trans ((a_up_ne (by omega)).trans ((a_up_ne (by omega)).trans ((a_up_ne (by omega)).trans (hR.g (k := 44) (a := 537) (by decide)))))) | exact (a_up_ne (by omega)).trans ((a_up_ne (by omega)).trans ((a_up_ne (by omega)).trans ((a_up_ne (by omega)).trans ((a_up_ne (by omega)).trans ((a_up_ne (by omega)).trans (hR.g (k := 44) (a := 537) (by decide)))))))) ?_
      refine R_iload_8 dX12_changes_100 ?_
      refine R_ialdE dX12_changes_102 sh_537 rfl (by omega) (by decide) hk1 ?_
      refine R_iconst (v := 1) dX12_changes_103 (by decide) ?_
      refine R_iadd dX12_changes_104 ?_
      rw [nI_1]
      refine R_iload_9 dX12_changes_105 ?_
      refine R_icmp_ge 121 dX12_changes_107 (by decide) (fun c107 => ?_) (fun c107 => ?_)
      · refine R_aload_0 dX12_changes_121 ?_
        refine gfX12_114 rfl dX12_changes_122 sh_504 (by first | exact hR.g (k := 44) (a := 537) (by decide) | exact (a_up_ne (by omega)).trans (hR.g (k := 44) (a := 537) (by decide)) | exact (a_up_ne (by omega)).trans ((a_up_ne (by omega)).trans (hR.g (k := 44) (a := 537) (by decide))) | exact (a_up_ne (by omega)).trans ((a_up_ne (by omega)).trans ((a_up_ne (by omega)).trans (hR.g (k := 44) (a := 537) (by decide)))) | exact (a_up_ne (by omega)).trans ((a_up_ne (by omega)).trans ((a_up_ne (by omega)).trans ((a_up_ne (by omega)).trans (hR.g (k := 44) (a := 537) (by decide))))) | exact (a_up_ne (by omega)).trans ((a_up_ne (by omega)).trans ((a_up_ne (by omega)).trans ((a_up_ne (by omega)).trans ((a_up_ne (by omega)).trans (hR.g (k := 44) (a := 537) (by decide)))))) | exact (a_up_ne (by omega)).trans ((a_up_ne (by omega)).trans ((a_up_ne (by omega)).trans ((a_up_ne (by omega)).trans ((a_up_ne (by omega)).trans ((a_up_ne (by omega)).trans (hR.g (k := 44) (a := 537) (by decide)))))))) ?_
        refine R_iload_8 dX12_changes_125 ?_
        refine R_iconst (v := 1) dX12_changes_127 (by decide) ?_
        refine R_isub dX12_changes_128 ?_
        refine R_ialdE dX12_changes_129 sh_537 (nI_pred q) (by omega) (by decide) hk0 ?_
        refine R_iconst (v := 1) dX12_changes_130 (by decide) ?_
        refine R_iadd dX12_changes_131 ?_
        rw [nI_1]
        refine R_iload_9 dX12_changes_132 ?_
        refine R_icmp_ge 150 dX12_changes_134 (by decide) (fun c134 => ?_) (fun c134 => ?_)
        · refine R_aload_0 dX12_changes_150 ?_
          refine gfX12_114 rfl dX12_changes_151 sh_504 (by first | exact hR.g (k := 44) (a := 537) (by decide) | exact (a_up_ne (by omega)).trans (hR.g (k := 44) (a := 537) (by decide)) | exact (a_up_ne (by omega)).trans ((a_up_ne (by omega)).trans (hR.g (k := 44) (a := 537) (by decide))) | exact (a_up_ne (by omega)).trans ((a_up_ne (by omega)).trans ((a_up_ne (by omega)).trans (hR.g (k := 44) (a := 537) (by decide)))) | exact (a_up_ne (by omega)).trans ((a_up_ne (by omega)).trans ((a_up_ne (by omega)).trans ((a_up_ne (by omega)).trans (hR.g (k := 44) (a := 537) (by decide))))) | exact (a_up_ne (by omega)).trans ((a_up_ne (by omega)).trans ((a_up_ne (by omega)).trans ((a_up_ne (by omega)).trans ((a_up_ne (by omega)).trans (hR.g (k := 44) (a := 537) (by decide)))))) | exact (a_up_ne (by omega)).trans ((a_up_ne (by omega)).trans ((a_up_ne (by omega)).trans ((a_up_ne (by omega)).trans ((a_up_ne (by omega)).trans ((a_up_ne (by omega)).trans (hR.g (k := 44) (a := 537) (by decide)))))))) ?_
          refine R_iload_8 dX12_changes_154 ?_
          refine R_ialdE dX12_changes_156 sh_537 rfl (by omega) (by decide) hk1 ?_
          refine R_istore_7 rfl (by decide) dX12_changes_157 ?_
          refine R_aload_0 dX12_changes_159 ?_
          refine gfX12_114 rfl dX12_changes_160 sh_504 (by first | exact hR.g (k := 44) (a := 537) (by decide) | exact (a_up_ne (by omega)).trans (hR.g (k := 44) (a := 537) (by decide)) | exact (a_up_ne (by omega)).trans ((a_up_ne (by omega)).trans (hR.g (k := 44) (a := 537) (by decide))) | exact (a_up_ne (by omega)).trans ((a_up_ne (by omega)).trans ((a_up_ne (by omega)).trans (hR.g (k := 44) (a := 537) (by decide)))) | exact (a_up_ne (by omega)).trans ((a_up_ne (by omega)).trans ((a_up_ne (by omega)).trans ((a_up_ne (by omega)).trans (hR.g (k := 44) (a := 537) (by decide))))) | exact (a_up_ne (by omega)).trans ((a_up_ne (by omega)).trans ((a_up_ne (by omega)).trans ((a_up_ne (by omega)).trans ((a_up_ne (by omega)).trans (hR.g (k := 44) (a := 537) (by decide)))))) | exact (a_up_ne (by omega)).trans ((a_up_ne (by omega)).trans ((a_up_ne (by omega)).trans ((a_up_ne (by omega)).trans ((a_up_ne (by omega)).trans ((a_up_ne (by omega)).trans (hR.g (k := 44) (a := 537) (by decide)))))))) ?_
          refine R_iload_8 dX12_changes_163 ?_
          refine R_iload_9 dX12_changes_165 ?_
          first
            | (have e9 : nI (r q) = nI (lvS G (L.getD j 0) r (q + 1)) := by
                 rw [els]
                 refine congrArg nI ?_
                 first
                   | rw [if_pos c85.symm]
                   | rw [if_neg (fun z => c85 z.symm)]
                 first
                   | (have d1 := (nI_leI (by omega) (by omega)).1 c107
                      have d2 := (nI_leI (by omega) (by omega)).1 c134
                      omega)
                   | (have d1 := (nI_leI (by omega) (by omega)).1 c107
                      have d2 := (nI_ltI (by omega) (by omega)).1 (Int32.not_le.1 c134)
                      omega)
                   | (have d1 := (nI_ltI (by omega) (by omega)).1 (Int32.not_le.1 c107)
                      have d2 := (nI_leI (by omega) (by omega)).1 c134
                      omega)
                   | (have d1 := (nI_ltI (by omega) (by omega)).1 (Int32.not_le.1 c107)
                      have d2 := (nI_ltI (by omega) (by omega)).1 (Int32.not_le.1 c134)
                      omega)
               rw [e9])
            | (have e9 : nI (r q + 1) = nI (lvS G (L.getD j 0) r (q + 1)) := by
                 rw [els]
                 refine congrArg nI ?_
                 first
                   | rw [if_pos c85.symm]
                   | rw [if_neg (fun z => c85 z.symm)]
                 first
                   | (have d1 := (nI_leI (by omega) (by omega)).1 c107
                      have d2 := (nI_leI (by omega) (by omega)).1 c134
                      omega)
                   | (have d1 := (nI_leI (by omega) (by omega)).1 c107
                      have d2 := (nI_ltI (by omega) (by omega)).1 (Int32.not_le.1 c134)
                      omega)
                   | (have d1 := (nI_ltI (by omega) (by omega)).1 (Int32.not_le.1 c107)
                      have d2 := (nI_leI (by omega) (by omega)).1 c134
                      omega)
                   | (have d1 := (nI_ltI (by omega) (by omega)).1 (Int32.not_le.1 c107)
                      have d2 := (nI_ltI (by omega) (by omega)).1 (Int32.not_le.1 c134)
                      omega)
               rw [e9])
            | (have e9 : nI (r (q + 1) + 1) = nI (lvS G (L.getD j 0) r (q + 1)) := by
                 rw [els]
                 refine congrArg nI ?_
                 first
                   | rw [if_pos c85.symm]
                   | rw [if_neg (fun z => c85 z.symm)]
                 first
                   | (have d1 := (nI_leI (by omega) (by omega)).1 c107
                      have d2 := (nI_leI (by omega) (by omega)).1 c134
                      omega)
                   | (have d1 := (nI_leI (by omega) (by omega)).1 c107
                      have d2 := (nI_ltI (by omega) (by omega)).1 (Int32.not_le.1 c134)
                      omega)
                   | (have d1 := (nI_ltI (by omega) (by omega)).1 (Int32.not_le.1 c107)
                      have d2 := (nI_leI (by omega) (by omega)).1 c134
                      omega)
                   | (have d1 := (nI_ltI (by omega) (by omega)).1 (Int32.not_le.1 c107)
                      have d2 := (nI_ltI (by omega) (by omega)).1 (Int32.not_le.1 c134)
                      omega)
               rw [e9])
            | (have e9 : nI (lvS G (L.getD j 0) r q + 1) = nI (lvS G (L.getD j 0) r (q + 1)) := by
                 rw [els]
                 refine congrArg nI ?_
                 first
                   | rw [if_pos c85.symm]
                   | rw [if_neg (fun z => c85 z.symm)]
                 first
                   | (have d1 := (nI_leI (by omega) (by omega)).1 c107
                      have d2 := (nI_leI (by omega) (by omega)).1 c134
                      omega)
                   | (have d1 := (nI_leI (by omega) (by omega)).1 c107
                      have d2 := (nI_ltI (by omega) (by omega)).1 (Int32.not_le.1 c134)
                      omega)
                   | (have d1 := (nI_ltI (by omega) (by omega)).1 (Int32.not_le.1 c107)
                      have d2 := (nI_leI (by omega) (by omega)).1 c134
                      omega)
                   | (have d1 := (nI_ltI (by omega) (by omega)).1 (Int32.not_le.1 c107)
                      have d2 := (nI_ltI (by omega) (by omega)).1 (Int32.not_le.1 c134)
                      omega)
               rw [e9])
          refine R_iastE dX12_changes_167 sh_537 rfl (by omega) (by decide) ?_
          refine R_drop_9 ?_
          refine R_iinc_8 rfl (by decide) dX12_changes_168 rfl ?_
          rw [show nI (q + 1) + Int32.ofInt 1 = nI (q + 1 + 1) from nI_1 _]
          refine R_goto 53 dX12_changes_171 (by decide) ?_
          exact ih (q + 1 + 1) _ (by omega) (by omega) (hW.set rfl (by have := hr2 (q + 1) (by omega); omega)) (fun b hb => (a_up_row hb).trans (hF b hb))
        · refine R_aload_0 dX12_changes_137 ?_
          refine gfX12_114 rfl dX12_changes_138 sh_504 (by first | exact hR.g (k := 44) (a := 537) (by decide) | exact (a_up_ne (by omega)).trans (hR.g (k := 44) (a := 537) (by decide)) | exact (a_up_ne (by omega)).trans ((a_up_ne (by omega)).trans (hR.g (k := 44) (a := 537) (by decide))) | exact (a_up_ne (by omega)).trans ((a_up_ne (by omega)).trans ((a_up_ne (by omega)).trans (hR.g (k := 44) (a := 537) (by decide)))) | exact (a_up_ne (by omega)).trans ((a_up_ne (by omega)).trans ((a_up_ne (by omega)).trans ((a_up_ne (by omega)).trans (hR.g (k := 44) (a := 537) (by decide))))) | exact (a_up_ne (by omega)).trans ((a_up_ne (by omega)).trans ((a_up_ne (by omega)).trans ((a_up_ne (by omega)).trans ((a_up_ne (by omega)).trans (hR.g (k := 44) (a := 537) (by decide)))))) | exact (a_up_ne (by omega)).trans ((a_up_ne (by omega)).trans ((a_up_ne (by omega)).trans ((a_up_ne (by omega)).trans ((a_up_ne (by omega)).trans ((a_up_ne (by omega)).trans (hR.g (k := 44) (a := 537) (by decide)))))))) ?_
          refine R_iload_8 dX12_changes_141 ?_
          refine R_iconst (v := 1) dX12_changes_143 (by decide) ?_
          refine R_isub dX12_changes_144 ?_
          refine R_ialdE dX12_changes_145 sh_537 (nI_pred q) (by omega) (by decide) hk0 ?_
          refine R_iconst (v := 1) dX12_changes_146 (by decide) ?_
          refine R_iadd dX12_changes_147 ?_
          rw [nI_1]
          refine R_istore_9 rfl (by decide) dX12_changes_148 ?_
          refine R_aload_0 dX12_changes_150 ?_
          refine gfX12_114 rfl dX12_changes_151 sh_504 (by first | exact hR.g (k := 44) (a := 537) (by decide) | exact (a_up_ne (by omega)).trans (hR.g (k := 44) (a := 537) (by decide)) | exact (a_up_ne (by omega)).trans ((a_up_ne (by omega)).trans (hR.g (k := 44) (a := 537) (by decide))) | exact (a_up_ne (by omega)).trans ((a_up_ne (by omega)).trans ((a_up_ne (by omega)).trans (hR.g (k := 44) (a := 537) (by decide)))) | exact (a_up_ne (by omega)).trans ((a_up_ne (by omega)).trans ((a_up_ne (by omega)).trans ((a_up_ne (by omega)).trans (hR.g (k := 44) (a := 537) (by decide))))) | exact (a_up_ne (by omega)).trans ((a_up_ne (by omega)).trans ((a_up_ne (by omega)).trans ((a_up_ne (by omega)).trans ((a_up_ne (by omega)).trans (hR.g (k := 44) (a := 537) (by decide)))))) | exact (a_up_ne (by omega)).trans ((a_up_ne (by omega)).trans ((a_up_ne (by omega)).trans ((a_up_ne (by omega)).trans ((a_up_ne (by omega)).trans ((a_up_ne (by omega)).trans (hR.g (k := 44) (a := 537) (by decide)))))))) ?_
          refine R_iload_8 dX12_changes_154 ?_
          refine R_ialdE dX12_changes_156 sh_537 rfl (by omega) (by decide) hk1 ?_
          refine R_istore_7 rfl (by decide) dX12_changes_157 ?_
          refine R_aload_0 dX12_changes_159 ?_
          refine gfX12_114 rfl dX12_changes_160 sh_504 (by first | exact hR.g (k := 44) (a := 537) (by decide) | exact (a_up_ne (by omega)).trans (hR.g (k := 44) (a := 537) (by decide)) | exact (a_up_ne (by omega)).trans ((a_up_ne (by omega)).trans (hR.g (k := 44) (a := 537) (by decide))) | exact (a_up_ne (by omega)).trans ((a_up_ne (by omega)).trans ((a_up_ne (by omega)).trans (hR.g (k := 44) (a := 537) (by decide)))) | exact (a_up_ne (by omega)).trans ((a_up_ne (by omega)).trans ((a_up_ne (by omega)).trans ((a_up_ne (by omega)).trans (hR.g (k := 44) (a := 537) (by decide))))) | exact (a_up_ne (by omega)).trans ((a_up_ne (by omega)).trans ((a_up_ne (by omega)).trans ((a_up_ne (by omega)).trans ((a_up_ne (by omega)).trans (hR.g (k := 44) (a := 537) (by decide)))))) | exact (a_up_ne (by omega)).trans ((a_up_ne (by omega)).trans ((a_up_ne (by omega)).trans ((a_up_ne (by omega)).trans ((a_up_ne (by omega)).trans ((a_up_ne (by omega)).trans (hR.g (k := 44) (a := 537) (by decide)))))))) ?_
          refine R_iload_8 dX12_changes_163 ?_
          refine R_iload_9 dX12_changes_165 ?_
          first
            | (have e9 : nI (r q) = nI (lvS G (L.getD j 0) r (q + 1)) := by
                 rw [els]
                 refine congrArg nI ?_
                 first
                   | rw [if_pos c85.symm]
                   | rw [if_neg (fun z => c85 z.symm)]
                 first
                   | (have d1 := (nI_leI (by omega) (by omega)).1 c107
                      have d2 := (nI_leI (by omega) (by omega)).1 c134
                      omega)
                   | (have d1 := (nI_leI (by omega) (by omega)).1 c107
                      have d2 := (nI_ltI (by omega) (by omega)).1 (Int32.not_le.1 c134)
                      omega)
                   | (have d1 := (nI_ltI (by omega) (by omega)).1 (Int32.not_le.1 c107)
                      have d2 := (nI_leI (by omega) (by omega)).1 c134
                      omega)
                   | (have d1 := (nI_ltI (by omega) (by omega)).1 (Int32.not_le.1 c107)
                      have d2 := (nI_ltI (by omega) (by omega)).1 (Int32.not_le.1 c134)
                      omega)
               rw [e9])
            | (have e9 : nI (r q + 1) = nI (lvS G (L.getD j 0) r (q + 1)) := by
                 rw [els]
                 refine congrArg nI ?_
                 first
                   | rw [if_pos c85.symm]
                   | rw [if_neg (fun z => c85 z.symm)]
                 first
                   | (have d1 := (nI_leI (by omega) (by omega)).1 c107
                      have d2 := (nI_leI (by omega) (by omega)).1 c134
                      omega)
                   | (have d1 := (nI_leI (by omega) (by omega)).1 c107
                      have d2 := (nI_ltI (by omega) (by omega)).1 (Int32.not_le.1 c134)
                      omega)
                   | (have d1 := (nI_ltI (by omega) (by omega)).1 (Int32.not_le.1 c107)
                      have d2 := (nI_leI (by omega) (by omega)).1 c134
                      omega)
                   | (have d1 := (nI_ltI (by omega) (by omega)).1 (Int32.not_le.1 c107)
                      have d2 := (nI_ltI (by omega) (by omega)).1 (Int32.not_le.1 c134)
                      omega)
               rw [e9])
            | (have e9 : nI (r (q + 1) + 1) = nI (lvS G (L.getD j 0) r (q + 1)) := by
                 rw [els]
                 refine congrArg nI ?_
                 first
                   | rw [if_pos c85.symm]
                   | rw [if_neg (fun z => c85 z.symm)]
                 first
                   | (have d1 := (nI_leI (by omega) (by omega)).1 c107
                      have d2 := (nI_leI (by omega) (by omega)).1 c134
                      omega)
                   | (have d1 := (nI_leI (by omega) (by omega)).1 c107
                      have d2 := (nI_ltI (by omega) (by omega)).1 (Int32.not_le.1 c134)
                      omega)
                   | (have d1 := (nI_ltI (by omega) (by omega)).1 (Int32.not_le.1 c107)
                      have d2 := (nI_leI (by omega) (by omega)).1 c134
                      omega)
                   | (have d1 := (nI_ltI (by omega) (by omega)).1 (Int32.not_le.1 c107)
                      have d2 := (nI_ltI (by omega) (by omega)).1 (Int32.not_le.1 c134)
                      omega)
               rw [e9])
            | (have e9 : nI (lvS G (L.getD j 0) r q + 1) = nI (lvS G (L.getD j 0) r (q + 1)) := by
                 rw [els]
                 refine congrArg nI ?_
                 first
                   | rw [if_pos c85.symm]
                   | rw [if_neg (fun z => c85 z.symm)]
                 first
                   | (have d1 := (nI_leI (by omega) (by omega)).1 c107
                      have d2 := (nI_leI (by omega) (by omega)).1 c134
                      omega)
                   | (have d1 := (nI_leI (by omega) (by omega)).1 c107
                      have d2 := (nI_ltI (by omega) (by omega)).1 (Int32.not_le.1 c134)
                      omega)
                   | (have d1 := (nI_ltI (by omega) (by omega)).1 (Int32.not_le.1 c107)
                      have d2 := (nI_leI (by omega) (by omega)).1 c134
                      omega)
                   | (have d1 := (nI_ltI (by omega) (by omega)).1 (Int32.not_le.1 c107)
                      have d2 := (nI_ltI (by omega) (by omega)).1 (Int32.not_le.1 c134)
                      omega)
               rw [e9])
          refine R_iastE dX12_changes_167 sh_537 rfl (by omega) (by decide) ?_
          refine R_drop_9 ?_
          refine R_iinc_8 rfl (by decide) dX12_changes_168 rfl ?_
          rw [show nI (q + 1) + Int32.ofInt 1 = nI (q + 1 + 1) from nI_1 _]
          refine R_goto 53 dX12_changes_171 (by decide) ?_
          exact ih (q + 1 + 1) _ (by omega) (by omega) (hW.set rfl (by have := hr2 (q + 1) (by omega); omega)) (fun b hb => (a_up_row hb).trans (hF b hb))
      · refine R_aload_0 dX12_changes_110 ?_
        refine gfX12_114 rfl dX12_changes_111 sh_504 (by first | exact hR.g (k := 44) (a := 537) (by decide) | exact (a_up_ne (by omega)).trans (hR.g (k := 44) (a := 537) (by decide)) | exact (a_up_ne (by omega)).trans ((a_up_ne (by omega)).trans (hR.g (k := 44) (a := 537) (by decide))) | exact (a_up_ne (by omega)).trans ((a_up_ne (by omega)).trans ((a_up_ne (by omega)).trans (hR.g (k := 44) (a := 537) (by decide)))) | exact (a_up_ne (by omega)).trans ((a_up_ne (by omega)).trans ((a_up_ne (by omega)).trans ((a_up_ne (by omega)).trans (hR.g (k := 44) (a := 537) (by decide))))) | exact (a_up_ne (by omega)).trans ((a_up_ne (by omega)).trans ((a_up_ne (by omega)).trans ((a_up_ne (by omega)).trans ((a_up_ne (by omega)).trans (hR.g (k := 44) (a := 537) (by decide)))))) | exact (a_up_ne (by omega)).trans ((a_up_ne (by omega)).trans ((a_up_ne (by omega)).trans ((a_up_ne (by omega)).trans ((a_up_ne (by omega)).trans ((a_up_ne (by omega)).trans (hR.g (k := 44) (a := 537) (by decide)))))))) ?_
        refine R_iload_8 dX12_changes_114 ?_
        refine R_ialdE dX12_changes_116 sh_537 rfl (by omega) (by decide) hk1 ?_
        refine R_iconst (v := 1) dX12_changes_117 (by decide) ?_
        refine R_iadd dX12_changes_118 ?_
        rw [nI_1]
        refine R_istore_9 rfl (by decide) dX12_changes_119 ?_
        refine R_aload_0 dX12_changes_121 ?_
        refine gfX12_114 rfl dX12_changes_122 sh_504 (by first | exact hR.g (k := 44) (a := 537) (by decide) | exact (a_up_ne (by omega)).trans (hR.g (k := 44) (a := 537) (by decide)) | exact (a_up_ne (by omega)).trans ((a_up_ne (by omega)).trans (hR.g (k := 44) (a := 537) (by decide))) | exact (a_up_ne (by omega)).trans ((a_up_ne (by omega)).trans ((a_up_ne (by omega)).trans (hR.g (k := 44) (a := 537) (by decide)))) | exact (a_up_ne (by omega)).trans ((a_up_ne (by omega)).trans ((a_up_ne (by omega)).trans ((a_up_ne (by omega)).trans (hR.g (k := 44) (a := 537) (by decide))))) | exact (a_up_ne (by omega)).trans ((a_up_ne (by omega)).trans ((a_up_ne (by omega)).trans ((a_up_ne (by omega)).trans ((a_up_ne (by omega)).trans (hR.g (k := 44) (a := 537) (by decide)))))) | exact (a_up_ne (by omega)).trans ((a_up_ne (by omega)).trans ((a_up_ne (by omega)).trans ((a_up_ne (by omega)).trans ((a_up_ne (by omega)).trans ((a_up_ne (by omega)).trans (hR.g (k := 44) (a := 537) (by decide)))))))) ?_
        refine R_iload_8 dX12_changes_125 ?_
        refine R_iconst (v := 1) dX12_changes_127 (by decide) ?_
        refine R_isub dX12_changes_128 ?_
        refine R_ialdE dX12_changes_129 sh_537 (nI_pred q) (by omega) (by decide) hk0 ?_
        refine R_iconst (v := 1) dX12_changes_130 (by decide) ?_
        refine R_iadd dX12_changes_131 ?_
        rw [nI_1]
        refine R_iload_9 dX12_changes_132 ?_
        refine R_icmp_ge 150 dX12_changes_134 (by decide) (fun c134 => ?_) (fun c134 => ?_)
        · refine R_aload_0 dX12_changes_150 ?_
          refine gfX12_114 rfl dX12_changes_151 sh_504 (by first | exact hR.g (k := 44) (a := 537) (by decide) | exact (a_up_ne (by omega)).trans (hR.g (k := 44) (a := 537) (by decide)) | exact (a_up_ne (by omega)).trans ((a_up_ne (by omega)).trans (hR.g (k := 44) (a := 537) (by decide))) | exact (a_up_ne (by omega)).trans ((a_up_ne (by omega)).trans ((a_up_ne (by omega)).trans (hR.g (k := 44) (a := 537) (by decide)))) | exact (a_up_ne (by omega)).trans ((a_up_ne (by omega)).trans ((a_up_ne (by omega)).trans ((a_up_ne (by omega)).trans (hR.g (k := 44) (a := 537) (by decide))))) | exact (a_up_ne (by omega)).trans ((a_up_ne (by omega)).trans ((a_up_ne (by omega)).trans ((a_up_ne (by omega)).trans ((a_up_ne (by omega)).trans (hR.g (k := 44) (a := 537) (by decide)))))) | exact (a_up_ne (by omega)).trans ((a_up_ne (by omega)).trans ((a_up_ne (by omega)).trans ((a_up_ne (by omega)).trans ((a_up_ne (by omega)).trans ((a_up_ne (by omega)).trans (hR.g (k := 44) (a := 537) (by decide)))))))) ?_
          refine R_iload_8 dX12_changes_154 ?_
          refine R_ialdE dX12_changes_156 sh_537 rfl (by omega) (by decide) hk1 ?_
          refine R_istore_7 rfl (by decide) dX12_changes_157 ?_
          refine R_aload_0 dX12_changes_159 ?_
          refine gfX12_114 rfl dX12_changes_160 sh_504 (by first | exact hR.g (k := 44) (a := 537) (by decide) | exact (a_up_ne (by omega)).trans (hR.g (k := 44) (a := 537) (by decide)) | exact (a_up_ne (by omega)).trans ((a_up_ne (by omega)).trans (hR.g (k := 44) (a := 537) (by decide))) | exact (a_up_ne (by omega)).trans ((a_up_ne (by omega)).trans ((a_up_ne (by omega)).trans (hR.g (k := 44) (a := 537) (by decide)))) | exact (a_up_ne (by omega)).trans ((a_up_ne (by omega)).trans ((a_up_ne (by omega)).trans ((a_up_ne (by omega)).trans (hR.g (k := 44) (a := 537) (by decide))))) | exact (a_up_ne (by omega)).trans ((a_up_ne (by omega)).trans ((a_up_ne (by omega)).trans ((a_up_ne (by omega)).trans ((a_up_ne (by omega)).trans (hR.g (k := 44) (a := 537) (by decide)))))) | exact (a_up_ne (by omega)).trans ((a_up_ne (by omega)).trans ((a_up_ne (by omega)).trans ((a_up_ne (by omega)).trans ((a_up_ne (by omega)).trans ((a_up_ne (by omega)).trans (hR.g (k := 44) (a := 537) (by decide)))))))) ?_
          refine R_iload_8 dX12_changes_163 ?_
          refine R_iload_9 dX12_changes_165 ?_
          first
            | (have e9 : nI (r q) = nI (lvS G (L.getD j 0) r (q + 1)) := by
                 rw [els]
                 refine congrArg nI ?_
                 first
                   | rw [if_pos c85.symm]
                   | rw [if_neg (fun z => c85 z.symm)]
                 first
                   | (have d1 := (nI_leI (by omega) (by omega)).1 c107
                      have d2 := (nI_leI (by omega) (by omega)).1 c134
                      omega)
                   | (have d1 := (nI_leI (by omega) (by omega)).1 c107
                      have d2 := (nI_ltI (by omega) (by omega)).1 (Int32.not_le.1 c134)
                      omega)
                   | (have d1 := (nI_ltI (by omega) (by omega)).1 (Int32.not_le.1 c107)
                      have d2 := (nI_leI (by omega) (by omega)).1 c134
                      omega)
                   | (have d1 := (nI_ltI (by omega) (by omega)).1 (Int32.not_le.1 c107)
                      have d2 := (nI_ltI (by omega) (by omega)).1 (Int32.not_le.1 c134)
                      omega)
               rw [e9])
            | (have e9 : nI (r q + 1) = nI (lvS G (L.getD j 0) r (q + 1)) := by
                 rw [els]
                 refine congrArg nI ?_
                 first
                   | rw [if_pos c85.symm]
                   | rw [if_neg (fun z => c85 z.symm)]
                 first
                   | (have d1 := (nI_leI (by omega) (by omega)).1 c107
                      have d2 := (nI_leI (by omega) (by omega)).1 c134
                      omega)
                   | (have d1 := (nI_leI (by omega) (by omega)).1 c107
                      have d2 := (nI_ltI (by omega) (by omega)).1 (Int32.not_le.1 c134)
                      omega)
                   | (have d1 := (nI_ltI (by omega) (by omega)).1 (Int32.not_le.1 c107)
                      have d2 := (nI_leI (by omega) (by omega)).1 c134
                      omega)
                   | (have d1 := (nI_ltI (by omega) (by omega)).1 (Int32.not_le.1 c107)
                      have d2 := (nI_ltI (by omega) (by omega)).1 (Int32.not_le.1 c134)
                      omega)
               rw [e9])
            | (have e9 : nI (r (q + 1) + 1) = nI (lvS G (L.getD j 0) r (q + 1)) := by
                 rw [els]
                 refine congrArg nI ?_
                 first
                   | rw [if_pos c85.symm]
                   | rw [if_neg (fun z => c85 z.symm)]
                 first
                   | (have d1 := (nI_leI (by omega) (by omega)).1 c107
                      have d2 := (nI_leI (by omega) (by omega)).1 c134
                      omega)
                   | (have d1 := (nI_leI (by omega) (by omega)).1 c107
                      have d2 := (nI_ltI (by omega) (by omega)).1 (Int32.not_le.1 c134)
                      omega)
                   | (have d1 := (nI_ltI (by omega) (by omega)).1 (Int32.not_le.1 c107)
                      have d2 := (nI_leI (by omega) (by omega)).1 c134
                      omega)
                   | (have d1 := (nI_ltI (by omega) (by omega)).1 (Int32.not_le.1 c107)
                      have d2 := (nI_ltI (by omega) (by omega)).1 (Int32.not_le.1 c134)
                      omega)
               rw [e9])
            | (have e9 : nI (lvS G (L.getD j 0) r q + 1) = nI (lvS G (L.getD j 0) r (q + 1)) := by
                 rw [els]
                 refine congrArg nI ?_
                 first
                   | rw [if_pos c85.symm]
                   | rw [if_neg (fun z => c85 z.symm)]
                 first
                   | (have d1 := (nI_leI (by omega) (by omega)).1 c107
                      have d2 := (nI_leI (by omega) (by omega)).1 c134
                      omega)
                   | (have d1 := (nI_leI (by omega) (by omega)).1 c107
                      have d2 := (nI_ltI (by omega) (by omega)).1 (Int32.not_le.1 c134)
                      omega)
                   | (have d1 := (nI_ltI (by omega) (by omega)).1 (Int32.not_le.1 c107)
                      have d2 := (nI_leI (by omega) (by omega)).1 c134
                      omega)
                   | (have d1 := (nI_ltI (by omega) (by omega)).1 (Int32.not_le.1 c107)
                      have d2 := (nI_ltI (by omega) (by omega)).1 (Int32.not_le.1 c134)
                      omega)
               rw [e9])
          refine R_iastE dX12_changes_167 sh_537 rfl (by omega) (by decide) ?_
          refine R_drop_9 ?_
          refine R_iinc_8 rfl (by decide) dX12_changes_168 rfl ?_
          rw [show nI (q + 1) + Int32.ofInt 1 = nI (q + 1 + 1) from nI_1 _]
          refine R_goto 53 dX12_changes_171 (by decide) ?_
          exact ih (q + 1 + 1) _ (by omega) (by omega) (hW.set rfl (by have := hr2 (q + 1) (by omega); omega)) (fun b hb => (a_up_row hb).trans (hF b hb))
        · refine R_aload_0 dX12_changes_137 ?_
          refine gfX12_114 rfl dX12_changes_138 sh_504 (by first | exact hR.g (k := 44) (a := 537) (by decide) | exact (a_up_ne (by omega)).trans (hR.g (k := 44) (a := 537) (by decide)) | exact (a_up_ne (by omega)).trans ((a_up_ne (by omega)).trans (hR.g (k := 44) (a := 537) (by decide))) | exact (a_up_ne (by omega)).trans ((a_up_ne (by omega)).trans ((a_up_ne (by omega)).trans (hR.g (k := 44) (a := 537) (by decide)))) | exact (a_up_ne (by omega)).trans ((a_up_ne (by omega)).trans ((a_up_ne (by omega)).trans ((a_up_ne (by omega)).trans (hR.g (k := 44) (a := 537) (by decide))))) | exact (a_up_ne (by omega)).trans ((a_up_ne (by omega)).trans ((a_up_ne (by omega)).trans ((a_up_ne (by omega)).trans ((a_up_ne (by omega)).trans (hR.g (k := 44) (a := 537) (by decide)))))) | exact (a_up_ne (by omega)).trans ((a_up_ne (by omega)).trans ((a_up_ne (by omega)).trans ((a_up_ne (by omega)).trans ((a_up_ne (by omega)).trans ((a_up_ne (by omega)).trans (hR.g (k := 44) (a := 537) (by decide)))))))) ?_
          refine R_iload_8 dX12_changes_141 ?_
          refine R_iconst (v := 1) dX12_changes_143 (by decide) ?_
          refine R_isub dX12_changes_144 ?_
          refine R_ialdE dX12_changes_145 sh_537 (nI_pred q) (by omega) (by decide) hk0 ?_
          refine R_iconst (v := 1) dX12_changes_146 (by decide) ?_
          refine R_iadd dX12_changes_147 ?_
          rw [nI_1]
          refine R_istore_9 rfl (by decide) dX12_changes_148 ?_
          refine R_aload_0 dX12_changes_150 ?_
          refine gfX12_114 rfl dX12_changes_151 sh_504 (by first | exact hR.g (k := 44) (a := 537) (by decide) | exact (a_up_ne (by omega)).trans (hR.g (k := 44) (a := 537) (by decide)) | exact (a_up_ne (by omega)).trans ((a_up_ne (by omega)).trans (hR.g (k := 44) (a := 537) (by decide))) | exact (a_up_ne (by omega)).trans ((a_up_ne (by omega)).trans ((a_up_ne (by omega)).trans (hR.g (k := 44) (a := 537) (by decide)))) | exact (a_up_ne (by omega)).trans ((a_up_ne (by omega)).trans ((a_up_ne (by omega)).trans ((a_up_ne (by omega)).trans (hR.g (k := 44) (a := 537) (by decide))))) | exact (a_up_ne (by omega)).trans ((a_up_ne (by omega)).trans ((a_up_ne (by omega)).trans ((a_up_ne (by omega)).trans ((a_up_ne (by omega)).trans (hR.g (k := 44) (a := 537) (by decide)))))) | exact (a_up_ne (by omega)).trans ((a_up_ne (by omega)).trans ((a_up_ne (by omega)).trans ((a_up_ne (by omega)).trans ((a_up_ne (by omega)).trans ((a_up_ne (by omega)).trans (hR.g (k := 44) (a := 537) (by decide)))))))) ?_
          refine R_iload_8 dX12_changes_154 ?_
          refine R_ialdE dX12_changes_156 sh_537 rfl (by omega) (by decide) hk1 ?_
          refine R_istore_7 rfl (by decide) dX12_changes_157 ?_
          refine R_aload_0 dX12_changes_159 ?_
          refine gfX12_114 rfl dX12_changes_160 sh_504 (by first | exact hR.g (k := 44) (a := 537) (by decide) | exact (a_up_ne (by omega)).trans (hR.g (k := 44) (a := 537) (by decide)) | exact (a_up_ne (by omega)).trans ((a_up_ne (by omega)).trans (hR.g (k := 44) (a := 537) (by decide))) | exact (a_up_ne (by omega)).trans ((a_up_ne (by omega)).trans ((a_up_ne (by omega)).trans (hR.g (k := 44) (a := 537) (by decide)))) | exact (a_up_ne (by omega)).trans ((a_up_ne (by omega)).trans ((a_up_ne (by omega)).trans ((a_up_ne (by omega)).trans (hR.g (k := 44) (a := 537) (by decide))))) | exact (a_up_ne (by omega)).trans ((a_up_ne (by omega)).trans ((a_up_ne (by omega)).trans ((a_up_ne (by omega)).trans ((a_up_ne (by omega)).trans (hR.g (k := 44) (a := 537) (by decide)))))) | exact (a_up_ne (by omega)).trans ((a_up_ne (by omega)).trans ((a_up_ne (by omega)).trans ((a_up_ne (by omega)).trans ((a_up_ne (by omega)).trans ((a_up_ne (by omega)).trans (hR.g (k := 44) (a := 537) (by decide)))))))) ?_
          refine R_iload_8 dX12_changes_163 ?_
          refine R_iload_9 dX12_changes_165 ?_
          first
            | (have e9 : nI (r q) = nI (lvS G (L.getD j 0) r (q + 1)) := by
                 rw [els]
                 refine congrArg nI ?_
                 first
                   | rw [if_pos c85.symm]
                   | rw [if_neg (fun z => c85 z.symm)]
                 first
                   | (have d1 := (nI_leI (by omega) (by omega)).1 c107
                      have d2 := (nI_leI (by omega) (by omega)).1 c134
                      omega)
                   | (have d1 := (nI_leI (by omega) (by omega)).1 c107
                      have d2 := (nI_ltI (by omega) (by omega)).1 (Int32.not_le.1 c134)
                      omega)
                   | (have d1 := (nI_ltI (by omega) (by omega)).1 (Int32.not_le.1 c107)
                      have d2 := (nI_leI (by omega) (by omega)).1 c134
                      omega)
                   | (have d1 := (nI_ltI (by omega) (by omega)).1 (Int32.not_le.1 c107)
                      have d2 := (nI_ltI (by omega) (by omega)).1 (Int32.not_le.1 c134)
                      omega)
               rw [e9])
            | (have e9 : nI (r q + 1) = nI (lvS G (L.getD j 0) r (q + 1)) := by
                 rw [els]
                 refine congrArg nI ?_
                 first
                   | rw [if_pos c85.symm]
                   | rw [if_neg (fun z => c85 z.symm)]
                 first
                   | (have d1 := (nI_leI (by omega) (by omega)).1 c107
                      have d2 := (nI_leI (by omega) (by omega)).1 c134
                      omega)
                   | (have d1 := (nI_leI (by omega) (by omega)).1 c107
                      have d2 := (nI_ltI (by omega) (by omega)).1 (Int32.not_le.1 c134)
                      omega)
                   | (have d1 := (nI_ltI (by omega) (by omega)).1 (Int32.not_le.1 c107)
                      have d2 := (nI_leI (by omega) (by omega)).1 c134
                      omega)
                   | (have d1 := (nI_ltI (by omega) (by omega)).1 (Int32.not_le.1 c107)
                      have d2 := (nI_ltI (by omega) (by omega)).1 (Int32.not_le.1 c134)
                      omega)
               rw [e9])
            | (have e9 : nI (r (q + 1) + 1) = nI (lvS G (L.getD j 0) r (q + 1)) := by
                 rw [els]
                 refine congrArg nI ?_
                 first
                   | rw [if_pos c85.symm]
                   | rw [if_neg (fun z => c85 z.symm)]
                 first
                   | (have d1 := (nI_leI (by omega) (by omega)).1 c107
                      have d2 := (nI_leI (by omega) (by omega)).1 c134
                      omega)
                   | (have d1 := (nI_leI (by omega) (by omega)).1 c107
                      have d2 := (nI_ltI (by omega) (by omega)).1 (Int32.not_le.1 c134)
                      omega)
                   | (have d1 := (nI_ltI (by omega) (by omega)).1 (Int32.not_le.1 c107)
                      have d2 := (nI_leI (by omega) (by omega)).1 c134
                      omega)
                   | (have d1 := (nI_ltI (by omega) (by omega)).1 (Int32.not_le.1 c107)
                      have d2 := (nI_ltI (by omega) (by omega)).1 (Int32.not_le.1 c134)
                      omega)
               rw [e9])
            | (have e9 : nI (lvS G (L.getD j 0) r q + 1) = nI (lvS G (L.getD j 0) r (q + 1)) := by
                 rw [els]
                 refine congrArg nI ?_
                 first
                   | rw [if_pos c85.symm]
                   | rw [if_neg (fun z => c85 z.symm)]
                 first
                   | (have d1 := (nI_leI (by omega) (by omega)).1 c107
                      have d2 := (nI_leI (by omega) (by omega)).1 c134
                      omega)
                   | (have d1 := (nI_leI (by omega) (by omega)).1 c107
                      have d2 := (nI_ltI (by omega) (by omega)).1 (Int32.not_le.1 c134)
                      omega)
                   | (have d1 := (nI_ltI (by omega) (by omega)).1 (Int32.not_le.1 c107)
                      have d2 := (nI_leI (by omega) (by omega)).1 c134
                      omega)
                   | (have d1 := (nI_ltI (by omega) (by omega)).1 (Int32.not_le.1 c107)
                      have d2 := (nI_ltI (by omega) (by omega)).1 (Int32.not_le.1 c134)
                      omega)
               rw [e9])
          refine R_iastE dX12_changes_167 sh_537 rfl (by omega) (by decide) ?_
          refine R_drop_9 ?_
          refine R_iinc_8 rfl (by decide) dX12_changes_168 rfl ?_
          rw [show nI (q + 1) + Int32.ofInt 1 = nI (q + 1 + 1) from nI_1 _]
          refine R_goto 53 dX12_changes_171 (by decide) ?_
          exact ih (q + 1 + 1) _ (by omega) (by omega) (hW.set rfl (by have := hr2 (q + 1) (by omega); omega)) (fun b hb => (a_up_row hb).trans (hF b hb))
set_option maxHeartbeats 4000000 in
theorem ch_2 {mc ms kc ks : Nat} {V0 : aV} {a f g : Nat} {L G : List Int32} (hR0 : MR V0) (ha : Sh.1 a = (14, 144)) (ha9 : a ≠ 537 ∧ a ≠ 504) (hf : f < 12) (hg : g < 12) (hL : RWS V0 a (12 * f) L) (hG : RWS V0 a (12 * g) G) (hl : L.length ≤ 12) (hgl : G.length ≤ 12) {Q : Option Value → aS → aV → Prop} {QX : String → aS → aV → Prop} (hQ : ∀ V', Fr0 V0 V' 537 → Q (some (.int (nI (lev L G)))) Sh V') : ∀ (m j : Nat) (V : aV), j + m = L.length → RWm V G.length (lvR G L j) → Fr0 V0 V 537 → R mX12_changes 0 mc ms Q QX kc ks 28 [some (.ref 504), some (.ref a), some (.int (nI f)), some (.int (nI L.length)), some (.int (nI g)), some (.int (nI G.length)), some (.int (nI (j + 1))), none, none, none] [] Sh V := by
  intro m
  induction m with
  | zero =>
    intro j V hj hW hF
    have hj' : j = L.length := by omega
    subst hj'
    have hR : MR V := hR0.fr (fun k _ => congrFun (hF 504 (by decide)) k)
    have hv := (hW G.length (Nat.le_refl _)).1
    refine R_iload_6 dX12_changes_28 ?_
    refine R_iload_3 dX12_changes_30 ?_
    refine R_icmp_gt 180 dX12_changes_31 (by decide) (fun c31 => ?_) (fun c31 => absurd (nI_lt (by omega) (by omega)) c31)
    refine R_aload_0 dX12_changes_180 ?_
    refine gfX12_114 rfl dX12_changes_181 sh_504 (by first | exact hR.g (k := 44) (a := 537) (by decide) | exact (a_up_ne (by omega)).trans (hR.g (k := 44) (a := 537) (by decide)) | exact (a_up_ne (by omega)).trans ((a_up_ne (by omega)).trans (hR.g (k := 44) (a := 537) (by decide))) | exact (a_up_ne (by omega)).trans ((a_up_ne (by omega)).trans ((a_up_ne (by omega)).trans (hR.g (k := 44) (a := 537) (by decide)))) | exact (a_up_ne (by omega)).trans ((a_up_ne (by omega)).trans ((a_up_ne (by omega)).trans ((a_up_ne (by omega)).trans (hR.g (k := 44) (a := 537) (by decide))))) | exact (a_up_ne (by omega)).trans ((a_up_ne (by omega)).trans ((a_up_ne (by omega)).trans ((a_up_ne (by omega)).trans ((a_up_ne (by omega)).trans (hR.g (k := 44) (a := 537) (by decide)))))) | exact (a_up_ne (by omega)).trans ((a_up_ne (by omega)).trans ((a_up_ne (by omega)).trans ((a_up_ne (by omega)).trans ((a_up_ne (by omega)).trans ((a_up_ne (by omega)).trans (hR.g (k := 44) (a := 537) (by decide)))))))) ?_
    refine R_iload_5 dX12_changes_184 ?_
    refine R_ialdE dX12_changes_186 sh_537 rfl (by omega) (by decide) hv ?_
    refine R_iret rfl dX12_changes_187 (hQ V hF)
  | succ m ih =>
    intro j V hj hW hF
    have hR : MR V := hR0.fr (fun k _ => congrFun (hF 504 (by decide)) k)
    have hv0 := (hW 0 (Nat.zero_le _)).1
    have hm := lvR_max (G := G) (L := L) j
    have h0 : lvR G L j 0 + 1 = j + 1 := by
      have : ∀ i, lvR G L i 0 = i := fun i => by
        induction i with
        | zero => rfl
        | succ i ih => show lvR G L i 0 + 1 = i + 1; rw [ih]
      rw [this]
    have hr : ∀ k, k ≤ G.length → lvR G L j k < 500 := fun k hk => by have := hm k; omega
    have hr2 : ∀ k, k ≤ G.length → lvS G (L.getD j 0) (lvR G L j) k < 501 := fun k hk => by
      have := lvR_max (G := G) (L := L) (j + 1) k
      have e : lvR G L (j + 1) k = lvS G (L.getD j 0) (lvR G L j) k := rfl
      omega
    refine R_iload_6 dX12_changes_28 ?_
    refine R_iload_3 dX12_changes_30 ?_
    refine R_icmp_gt 180 dX12_changes_31 (by decide) (fun c31 => absurd c31 (Int32.not_lt.2 (nI_le (by omega) (by omega)))) (fun c31 => ?_)
    refine R_aload_0 dX12_changes_34 ?_
    refine gfX12_114 rfl dX12_changes_35 sh_504 (by first | exact hR.g (k := 44) (a := 537) (by decide) | exact (a_up_ne (by omega)).trans (hR.g (k := 44) (a := 537) (by decide)) | exact (a_up_ne (by omega)).trans ((a_up_ne (by omega)).trans (hR.g (k := 44) (a := 537) (by decide))) | exact (a_up_ne (by omega)).trans ((a_up_ne (by omega)).trans ((a_up_ne (by omega)).trans (hR.g (k := 44) (a := 537) (by decide)))) | exact (a_up_ne (by omega)).trans ((a_up_ne (by omega)).trans ((a_up_ne (by omega)).trans ((a_up_ne (by omega)).trans (hR.g (k := 44) (a := 537) (by decide))))) | exact (a_up_ne (by omega)).trans ((a_up_ne (by omega)).trans ((a_up_ne (by omega)).trans ((a_up_ne (by omega)).trans ((a_up_ne (by omega)).trans (hR.g (k := 44) (a := 537) (by decide)))))) | exact (a_up_ne (by omega)).trans ((a_up_ne (by omega)).trans ((a_up_ne (by omega)).trans ((a_up_ne (by omega)).trans ((a_up_ne (by omega)).trans ((a_up_ne (by omega)).trans (hR.g (k := 44) (a := 537) (by decide)))))))) ?_
    refine R_iconst (v := 0) dX12_changes_38 (by decide) ?_
    refine R_ialdE dX12_changes_39 sh_537 (show (0 : Int32) = nI 0 from rfl) (by omega) (by decide) hv0 ?_
    refine R_istore_7 rfl (by decide) dX12_changes_40 ?_
    refine R_aload_0 dX12_changes_42 ?_
    refine gfX12_114 rfl dX12_changes_43 sh_504 (by first | exact hR.g (k := 44) (a := 537) (by decide) | exact (a_up_ne (by omega)).trans (hR.g (k := 44) (a := 537) (by decide)) | exact (a_up_ne (by omega)).trans ((a_up_ne (by omega)).trans (hR.g (k := 44) (a := 537) (by decide))) | exact (a_up_ne (by omega)).trans ((a_up_ne (by omega)).trans ((a_up_ne (by omega)).trans (hR.g (k := 44) (a := 537) (by decide)))) | exact (a_up_ne (by omega)).trans ((a_up_ne (by omega)).trans ((a_up_ne (by omega)).trans ((a_up_ne (by omega)).trans (hR.g (k := 44) (a := 537) (by decide))))) | exact (a_up_ne (by omega)).trans ((a_up_ne (by omega)).trans ((a_up_ne (by omega)).trans ((a_up_ne (by omega)).trans ((a_up_ne (by omega)).trans (hR.g (k := 44) (a := 537) (by decide)))))) | exact (a_up_ne (by omega)).trans ((a_up_ne (by omega)).trans ((a_up_ne (by omega)).trans ((a_up_ne (by omega)).trans ((a_up_ne (by omega)).trans ((a_up_ne (by omega)).trans (hR.g (k := 44) (a := 537) (by decide)))))))) ?_
    refine R_iconst (v := 0) dX12_changes_46 (by decide) ?_
    refine R_iload_6 dX12_changes_47 ?_
    refine R_iastE dX12_changes_49 sh_537 (show (0 : Int32) = nI 0 from rfl) (by omega) (by decide) ?_
    refine R_iconst (v := 1) dX12_changes_50 (by decide) ?_
    refine R_istore_8 rfl (by decide) dX12_changes_51 ?_
    refine ch_3 hR0 ha ha9 hf hg hL hG hl hgl (j := j) (by omega) (r := lvR G L j) hr hr2 (fun V' hW' hF' => ?_) G.length 1 _ (by omega) (Nat.le_refl _) (fun i hi => ?_) (fun b hb => (a_up_row hb).trans (hF b hb))
    · refine R_iinc_6 rfl (by decide) dX12_changes_174 rfl ?_
      rw [show nI (j + 1) + Int32.ofInt 1 = nI (j + 1 + 1) from nI_1 _]
      refine R_goto 28 dX12_changes_177 (by decide) ?_
      exact ih (j + 1) V' (by omega) hW' hF'
    · cases i with
      | zero =>
        have e : mixR (lvS G (L.getD j 0) (lvR G L j)) (lvR G L j) 1 0 = j + 1 := (if_pos (by decide)).trans h0
        rw [e]
        exact ⟨a_up_self _ _ _ _, by omega⟩
      | succ i =>
        have e : mixR (lvS G (L.getD j 0) (lvR G L j)) (lvR G L j) 1 (i + 1) = lvR G L j (i + 1) := if_neg (by omega)
        rw [e, a_up_ne (Or.inr (Nat.succ_ne_zero i))]
        exact hW (i + 1) hi
set_option maxHeartbeats 4000000 in
theorem ct_changes {V : aV} {a f g : Nat} {L G : List Int32} (hR : MR V) (ha : Sh.1 a = (14, 144)) (ha9 : a ≠ 537 ∧ a ≠ 504) (hf : f < 12) (hg : g < 12) (hL : RWS V a (12 * f) L) (hG : RWS V a (12 * g) G) (hl : L.length ≤ 12) (hgl : G.length ≤ 12) : CT mX12_changes 0 0 0 [.ref 504, .ref a, .int (nI f), .int (nI L.length), .int (nI g), .int (nI G.length)] Sh V (fun v S' V' => some (.int (nI (lev L G))) = v ∧ Sh = S' ∧ Fr0 V V' 537) aNo := by
  refine CT_of (by decide +kernel) (Nat.le_of_ble_eq_true rfl) ?_
  show R _ _ _ _ _ _ _ _ 0 [some (.ref 504), some (.ref a), some (.int (nI f)), some (.int (nI L.length)), some (.int (nI g)), some (.int (nI G.length)), none, none, none, none] [] _ _
  refine R_iconst (v := 0) dX12_changes_0 (by decide) ?_
  refine R_istore_6 rfl (by decide) dX12_changes_1 ?_
  refine ch_1 hR ha ha9 hf hg hL hG hl hgl (fun V' hW hF => ?_) (G.length + 1) 0 V (by omega) (fun i hi => absurd hi (Nat.not_lt_zero i)) (fun _ _ => rfl)
  refine R_iconst (v := 1) dX12_changes_25 (by decide) ?_
  refine R_istore_6 rfl (by decide) dX12_changes_26 ?_
  exact ch_2 hR ha ha9 hf hg hL hG hl hgl (fun V2 hF2 => ⟨rfl, rfl, hF2⟩) L.length 0 V' (by omega) hW hF

