/-! ===== MergePostModel: a letter, its signs, its trouble ===== -/
/-- the model stands so -/
def MI (V : aV) (L : List Int32) (T : Nat → List Int32) (to : Nat → Bool) (ent : Nat → EntN) (cnt : Nat) (mt po : Nat → Nat) (b st pa n : Nat) (rt rr : Nat → Nat) (pd : Nat → Bool) (kn : Nat → Nat) (kl : Nat → Nat → KL) : Prop :=
  (MR V ∧ ML V L ∧ MT V T to) ∧ (ME V ent cnt ∧ MM V mt ∧ MPo V po) ∧ (V 504 19 = .int (nI b) ∧ V 504 20 = .int (nI st) ∧ V 504 21 = .int (nI pa)) ∧ MRu V n rt rr pd kn ∧ MKe V kn kl
section MIS
variable {V V' : aV} {L : List Int32} {T : Nat → List Int32} {to : Nat → Bool} {ent : Nat → EntN} {cnt : Nat} {mt po : Nat → Nat} {b st pa n : Nat} {rt rr : Nat → Nat} {pd : Nat → Bool} {kn : Nat → Nat} {kl : Nat → Nat → KL}
theorem MI.s (h : MI V L T to ent cnt mt po b st pa n rt rr pd kn kl) (f : FrS V V') : MI V' L T to ent cnt mt po b st pa n rt rr pd kn kl := by
  obtain ⟨⟨a1, a2, a3⟩, ⟨b1, b2, b3⟩, ⟨c1, c2, c3⟩, d1, d2⟩ := h
  exact ⟨⟨f.mr a1, f.ml a2, f.mt a3⟩, ⟨f.me b1, f.mm b2, f.mp b3⟩, ⟨(f.2 19 (by decide) (by decide) (by decide)).trans c1, (f.2 20 (by decide) (by decide) (by decide)).trans c2, (f.2 21 (by decide) (by decide) (by decide)).trans c3⟩, f.mru d1, f.mke d2⟩
end MIS
theorem po12 {po : Nat → Nat} (h : ∀ k, k < 12 → po k < 2 ^ 8) : ∀ k, k < 12 → po k < 2 ^ 12 := fun k hk => Nat.lt_of_lt_of_le (h k hk) (by decide)
theorem lrs_KO {L : List Int32} {T : Nat → List Int32} {to : Nat → Bool} {ent : Nat → EntN} {cnt : Nat} {mt po : Nat → Nat} {b st pa n : Nat} {rt rr : Nat → Nat} {pd : Nat → Bool} {kn : Nat → Nat} {kl : Nat → Nat → KL} (hS : SOK L T to ent cnt mt po b st pa n rt rr pd kn kl) {i l : Nat} (hi : i < 8) (hl : l < lcn mt po cnt kn pd rr i) {x : List Int32 × Nat × Int32} (e : lrs T to ent cnt mt po b st rt rr pd kl i l = .inl x) : KO (x.1, mmb cnt mt po rr pd kl i l, x.2.1, x.2.2) := by
  have hm := mmb_mbr hS hi hl
  obtain ⟨-, ⟨-, hT⟩, ⟨-, hE, -, -⟩, -, -, hk⟩ := hS
  unfold lrs at e
  unfold mmb at hm ⊢
  by_cases q : pd i = true
  · rw [if_pos q] at e hm ⊢
    cases e
    exact (hk i hi).2.2.2.2.2 l (by unfold lcn at hl; rwa [if_pos q] at hl)
  · rw [if_neg q] at e hm ⊢
    exact ltr_ok (fun k => (hT k).2) hE hm e
set_option maxHeartbeats 4000000 in
theorem ct_membersOf {V : aV} {L : List Int32} {T : Nat → List Int32} {to : Nat → Bool} {ent : Nat → EntN} {cnt : Nat} {mt po : Nat → Nat} {b st pa n : Nat} {rt rr : Nat → Nat} {pd : Nat → Bool} {kn : Nat → Nat} {kl : Nat → Nat → KL} (hI : MI V L T to ent cnt mt po b st pa n rt rr pd kn kl) (hS : SOK L T to ent cnt mt po b st pa n rt rr pd kn kl) {i l : Nat} (hi : i < 8) (hl : l < lcn mt po cnt kn pd rr i) : CT mX12_membersOf 2 0 0 [.ref 504, .int (nI i), .int (nI l)] Sh V (aRet (some (.int (nI (mmb cnt mt po rr pd kl i l)))) Sh V) aNo := by
  refine CT_of (by decide +kernel) (Nat.le_of_ble_eq_true rfl) ?_
  show R _ _ _ _ _ _ _ _ 0 [some (.ref 504), some (.int (nI i)), some (.int (nI l))] [] _ _
  obtain ⟨⟨hR, hML, hT⟩, ⟨hE, hM, hP⟩, ⟨hb0, hs0, hpa0⟩, hRu, hKe⟩ := id hI
  obtain ⟨-, ⟨hK8, hT8⟩, ⟨hc, hEO, hm, hpo⟩, ⟨hb, hst, hpa⟩, hn, hk8⟩ := id hS
  have hpo2 := po12 hpo
  have hrr := fun i hi => (hk8 i hi).2.1
  have hkn := fun i hi => (hk8 i hi).2.2.1
  have l12 : l < 12 := by
    unfold lcn at hl
    split at hl
    · have := hkn i hi; omega
    · have := dLst_len (mt := mt) (po := po) (r := rr i) cnt; omega
  refine R_aload_0 dX12_membersOf_0 ?_
  refine gfX12_72 rfl dX12_membersOf_1 sh_504 (by first | exact hR.g (k := 25) (a := 523) (by decide) | exact (a_up_ne (by omega)).trans (hR.g (k := 25) (a := 523) (by decide)) | exact (a_up_ne (by omega)).trans ((a_up_ne (by omega)).trans (hR.g (k := 25) (a := 523) (by decide))) | exact (a_up_ne (by omega)).trans ((a_up_ne (by omega)).trans ((a_up_ne (by omega)).trans (hR.g (k := 25) (a := 523) (by decide)))) | exact (a_up_ne (by omega)).trans ((a_up_ne (by omega)).trans ((a_up_ne (by omega)).trans ((a_up_ne (by omega)).trans (hR.g (k := 25) (a := 523) (by decide))))) | exact (a_up_ne (by omega)).trans ((a_up_ne (by omega)).trans ((a_up_ne (by omega)).trans ((a_up_ne (by omega)).trans ((a_up_ne (by omega)).trans (hR.g (k := 25) (a := 523) (by decide)))))) | exact (a_up_ne (by omega)).trans ((a_up_ne (by omega)).trans ((a_up_ne (by omega)).trans ((a_up_ne (by omega)).trans ((a_up_ne (by omega)).trans ((a_up_ne (by omega)).trans (hR.g (k := 25) (a := 523) (by decide)))))))) ?_
  refine R_iload_1 dX12_membersOf_4 ?_
  refine R_zaldE dX12_membersOf_5 sh_523 rfl (by omega) (by decide) (hRu.2 i hi).2.2.1 ?_
  refine R_if_eq 23 dX12_membersOf_6 (by decide) (fun c6 => ?_) (fun c6 => ?_)
  · refine R_aload_0 dX12_membersOf_23 ?_
    refine R_iload_1 dX12_membersOf_24 ?_
    refine R_iload_2 dX12_membersOf_25 ?_
    refine R_callV_e (T := mX12_membersOf) (T' := mX12_openMembers) (As := [_, _]) (ci := 12) okX12_openMembers mlX12_289 rfl (by decide) sh_504 (ct_openMembers (m := l) hR hE.1 hM hm hc hP hpo2 hi (hRu.2 i hi).2.1 (hrr i hi) (by omega)) rfl (by decide) (by decide) (Nat.le_of_ble_eq_true rfl) dX12_membersOf_26 ?_
    refine R_iret rfl dX12_membersOf_29 (by first | exact ret_i (by unfold mmb; rw [if_pos (bI_ne c6)]) | exact ret_i (by unfold mmb; rw [if_neg (bI_eq c6)]))
  · have hlk : l < kn i := by unfold lcn at hl; rwa [if_pos (bI_ne c6)] at hl
    refine R_aload_0 dX12_membersOf_9 ?_
    refine gfX12_78 rfl dX12_membersOf_10 sh_504 (by first | exact hR.g (k := 27) (a := 525) (by decide) | exact (a_up_ne (by omega)).trans (hR.g (k := 27) (a := 525) (by decide)) | exact (a_up_ne (by omega)).trans ((a_up_ne (by omega)).trans (hR.g (k := 27) (a := 525) (by decide))) | exact (a_up_ne (by omega)).trans ((a_up_ne (by omega)).trans ((a_up_ne (by omega)).trans (hR.g (k := 27) (a := 525) (by decide)))) | exact (a_up_ne (by omega)).trans ((a_up_ne (by omega)).trans ((a_up_ne (by omega)).trans ((a_up_ne (by omega)).trans (hR.g (k := 27) (a := 525) (by decide))))) | exact (a_up_ne (by omega)).trans ((a_up_ne (by omega)).trans ((a_up_ne (by omega)).trans ((a_up_ne (by omega)).trans ((a_up_ne (by omega)).trans (hR.g (k := 27) (a := 525) (by decide)))))) | exact (a_up_ne (by omega)).trans ((a_up_ne (by omega)).trans ((a_up_ne (by omega)).trans ((a_up_ne (by omega)).trans ((a_up_ne (by omega)).trans ((a_up_ne (by omega)).trans (hR.g (k := 27) (a := 525) (by decide)))))))) ?_
    refine R_bipush (v := 12) dX12_membersOf_13 (by decide) ?_
    refine R_iload_1 dX12_membersOf_15 ?_
    refine R_imul dX12_membersOf_16 ?_
    refine R_iload_2 dX12_membersOf_17 ?_
    refine R_iadd dX12_membersOf_18 ?_
    refine R_ialdE dX12_membersOf_19 sh_525 (ix1 12 i l) (by omega) (by decide) (hKe i hi l hlk).1 ?_
    refine R_goto 29 dX12_membersOf_20 (by decide) ?_
    refine R_iret rfl dX12_membersOf_29 (by first | exact ret_i (by unfold mmb; rw [if_pos (bI_ne c6)]) | exact ret_i (by unfold mmb; rw [if_neg (bI_eq c6)]))

theorem ix2l (i l j : Nat) : nI 160 * (nI 12 * nI i + nI l) + nI j = nI (160 * (12 * i + l) + j) := ix2 160 12 i l j
set_option maxHeartbeats 4000000 in
theorem ll_loop {mc ms kc ks : Nat} {V0 : aV} {x : List Int32} {i l : Nat} (hR0 : MR V0) (hi : i < 8) (hl : l < 12) (hx : x.length ≤ 160) (hT : ∀ q, q < x.length → V0 528 (160 * (12 * i + l) + q) = .int (x.getD q 0)) {Q : Option Value → aS → aV → Prop} {QX : String → aS → aV → Prop} (hQ : ∀ V', TX V' x → Fr0 V0 V' 529 → Q none Sh V') : ∀ (m j : Nat) (V : aV), j + m = x.length → (∀ q, q < j → V 529 q = .int (x.getD q 0)) → V 504 32 = .int (nI x.length) → Fr0 V0 V 529 → R mX12_layLetter 6 mc ms Q QX kc ks 68 [some (.ref 504), some (.int (nI i)), some (.int (nI l)), some (.int (nI j))] [] Sh V := by
  intro m
  induction m with
  | zero =>
    intro j V hj hX h32 hF
    have hj' : j = x.length := by omega
    subst hj'
    refine R_iload_3 dX12_layLetter_68 ?_
    refine R_aload_0 dX12_layLetter_69 ?_
    refine gfX12_239 rfl dX12_layLetter_70 sh_504 h32 ?_
    refine R_icmp_ge 105 dX12_layLetter_73 (by decide) (fun c73 => ?_) (fun c73 => absurd (Int32.le_refl _) c73)
    refine R_vret rfl dX12_layLetter_105 (hQ V ⟨h32, hX, hx⟩ hF)
  | succ m ih =>
    intro j V hj hX h32 hF
    have hR : MR V := hR0.fr (fun k _ => congrFun (hF 504 (by decide)) k)
    have b9 : ¬ nI x.length ≤ nI j := nI_ge (a := j) (b := x.length) (by omega) (by omega)
    have hv := (congrFun (hF 528 (by decide)) (160 * (12 * i + l) + j)).trans (hT j (by omega))
    refine R_iload_3 dX12_layLetter_68 ?_
    refine R_aload_0 dX12_layLetter_69 ?_
    refine gfX12_239 rfl dX12_layLetter_70 sh_504 h32 ?_
    refine R_icmp_ge 105 dX12_layLetter_73 (by decide) (fun c73 => absurd c73 b9) (fun c73 => ?_)
    refine R_aload_0 dX12_layLetter_76 ?_
    refine gfX12_90 rfl dX12_layLetter_77 sh_504 (by first | exact hR.g (k := 31) (a := 529) (by decide) | exact (a_up_ne (by omega)).trans (hR.g (k := 31) (a := 529) (by decide)) | exact (a_up_ne (by omega)).trans ((a_up_ne (by omega)).trans (hR.g (k := 31) (a := 529) (by decide))) | exact (a_up_ne (by omega)).trans ((a_up_ne (by omega)).trans ((a_up_ne (by omega)).trans (hR.g (k := 31) (a := 529) (by decide)))) | exact (a_up_ne (by omega)).trans ((a_up_ne (by omega)).trans ((a_up_ne (by omega)).trans ((a_up_ne (by omega)).trans (hR.g (k := 31) (a := 529) (by decide))))) | exact (a_up_ne (by omega)).trans ((a_up_ne (by omega)).trans ((a_up_ne (by omega)).trans ((a_up_ne (by omega)).trans ((a_up_ne (by omega)).trans (hR.g (k := 31) (a := 529) (by decide)))))) | exact (a_up_ne (by omega)).trans ((a_up_ne (by omega)).trans ((a_up_ne (by omega)).trans ((a_up_ne (by omega)).trans ((a_up_ne (by omega)).trans ((a_up_ne (by omega)).trans (hR.g (k := 31) (a := 529) (by decide)))))))) ?_
    refine R_iload_3 dX12_layLetter_80 ?_
    refine R_aload_0 dX12_layLetter_81 ?_
    refine gfX12_87 rfl dX12_layLetter_82 sh_504 (by first | exact hR.g (k := 30) (a := 528) (by decide) | exact (a_up_ne (by omega)).trans (hR.g (k := 30) (a := 528) (by decide)) | exact (a_up_ne (by omega)).trans ((a_up_ne (by omega)).trans (hR.g (k := 30) (a := 528) (by decide))) | exact (a_up_ne (by omega)).trans ((a_up_ne (by omega)).trans ((a_up_ne (by omega)).trans (hR.g (k := 30) (a := 528) (by decide)))) | exact (a_up_ne (by omega)).trans ((a_up_ne (by omega)).trans ((a_up_ne (by omega)).trans ((a_up_ne (by omega)).trans (hR.g (k := 30) (a := 528) (by decide))))) | exact (a_up_ne (by omega)).trans ((a_up_ne (by omega)).trans ((a_up_ne (by omega)).trans ((a_up_ne (by omega)).trans ((a_up_ne (by omega)).trans (hR.g (k := 30) (a := 528) (by decide)))))) | exact (a_up_ne (by omega)).trans ((a_up_ne (by omega)).trans ((a_up_ne (by omega)).trans ((a_up_ne (by omega)).trans ((a_up_ne (by omega)).trans ((a_up_ne (by omega)).trans (hR.g (k := 30) (a := 528) (by decide)))))))) ?_
    refine R_sipush (v := 160) dX12_layLetter_85 (by decide) ?_
    refine R_bipush (v := 12) dX12_layLetter_88 (by decide) ?_
    refine R_iload_1 dX12_layLetter_90 ?_
    refine R_imul dX12_layLetter_91 ?_
    refine R_iload_2 dX12_layLetter_92 ?_
    refine R_iadd dX12_layLetter_93 ?_
    refine R_imul dX12_layLetter_94 ?_
    refine R_iload_3 dX12_layLetter_95 ?_
    refine R_iadd dX12_layLetter_96 ?_
    refine R_ialdE dX12_layLetter_97 sh_528 (ix2l i l j) (by omega) (by decide) hv ?_
    refine R_iastE dX12_layLetter_98 sh_529 rfl (by omega) (by decide) ?_
    refine R_iinc_3 rfl (by decide) dX12_layLetter_99 rfl ?_
    rw [show nI j + Int32.ofInt 1 = nI (j + 1) from nI_1 j]
    refine R_goto 68 dX12_layLetter_102 (by decide) ?_
    refine ih (j + 1) _ (by omega) (fun q hq => ?_) ((a_up_ne (Or.inl (by decide))).trans h32) (fun b hb => (a_up_row hb).trans (hF b hb))
    by_cases e : q = j
    · subst e; exact a_up_self _ _ _ _
    · exact (a_up_ne (Or.inr e)).trans (hX q (by omega))
set_option maxHeartbeats 4000000 in
theorem ct_layLetter {V : aV} {L : List Int32} {T : Nat → List Int32} {to : Nat → Bool} {ent : Nat → EntN} {cnt : Nat} {mt po : Nat → Nat} {b st pa n : Nat} {rt rr : Nat → Nat} {pd : Nat → Bool} {kn : Nat → Nat} {kl : Nat → Nat → KL} (hI : MI V L T to ent cnt mt po b st pa n rt rr pd kn kl) (hS : SOK L T to ent cnt mt po b st pa n rt rr pd kn kl) {i l : Nat} (hi : i < 8) (hl : l < lcn mt po cnt kn pd rr i) : CT mX12_layLetter 6 0 0 [.ref 504, .int (nI i), .int (nI l)] Sh V (fun v S' V' => none = v ∧ Sh = S' ∧ MDR V' (lrs T to ent cnt mt po b st rt rr pd kl i l) ∧ FrR V V') aNo := by
  refine CT_of (by decide +kernel) (Nat.le_of_ble_eq_true rfl) ?_
  show R _ _ _ _ _ _ _ _ 0 [some (.ref 504), some (.int (nI i)), some (.int (nI l)), none] [] _ _
  obtain ⟨⟨hR, hML, hT⟩, ⟨hE, hM, hP⟩, ⟨hb0, hs0, hpa0⟩, hRu, hKe⟩ := id hI
  obtain ⟨-, ⟨hK8, hT8⟩, ⟨hc, hEO, hm, hpo⟩, ⟨hb, hst, hpa⟩, hn, hk8⟩ := id hS
  have hpo2 := po12 hpo
  have hrr := fun i hi => (hk8 i hi).2.1
  have hkn := fun i hi => (hk8 i hi).2.2.1
  have l12 : l < 12 := by
    unfold lcn at hl
    split at hl
    · have := hkn i hi; omega
    · have := dLst_len (mt := mt) (po := po) (r := rr i) cnt; omega
  refine R_aload_0 dX12_layLetter_0 ?_
  refine gfX12_72 rfl dX12_layLetter_1 sh_504 (by first | exact hR.g (k := 25) (a := 523) (by decide) | exact (a_up_ne (by omega)).trans (hR.g (k := 25) (a := 523) (by decide)) | exact (a_up_ne (by omega)).trans ((a_up_ne (by omega)).trans (hR.g (k := 25) (a := 523) (by decide))) | exact (a_up_ne (by omega)).trans ((a_up_ne (by omega)).trans ((a_up_ne (by omega)).trans (hR.g (k := 25) (a := 523) (by decide)))) | exact (a_up_ne (by omega)).trans ((a_up_ne (by omega)).trans ((a_up_ne (by omega)).trans ((a_up_ne (by omega)).trans (hR.g (k := 25) (a := 523) (by decide))))) | exact (a_up_ne (by omega)).trans ((a_up_ne (by omega)).trans ((a_up_ne (by omega)).trans ((a_up_ne (by omega)).trans ((a_up_ne (by omega)).trans (hR.g (k := 25) (a := 523) (by decide)))))) | exact (a_up_ne (by omega)).trans ((a_up_ne (by omega)).trans ((a_up_ne (by omega)).trans ((a_up_ne (by omega)).trans ((a_up_ne (by omega)).trans ((a_up_ne (by omega)).trans (hR.g (k := 25) (a := 523) (by decide)))))))) ?_
  refine R_iload_1 dX12_layLetter_4 ?_
  refine R_zaldE dX12_layLetter_5 sh_523 rfl (by omega) (by decide) (hRu.2 i hi).2.2.1 ?_
  refine R_if_ne 26 dX12_layLetter_6 (by decide) (fun c6 => ?_) (fun c6 => ?_)
  · have hp := bI_ne c6
    have hlk : l < kn i := by unfold lcn at hl; rwa [if_pos hp] at hl
    refine R_aload_0 dX12_layLetter_26 ?_
    refine R_iconst (v := 0) dX12_layLetter_27 (by decide) ?_
    refine pfX12_233 rfl dX12_layLetter_28 sh_504 ?_
    refine R_aload_0 dX12_layLetter_31 ?_
    refine R_iconst (v := 0) dX12_layLetter_32 (by decide) ?_
    refine pfX12_236 rfl dX12_layLetter_33 sh_504 ?_
    refine R_aload_0 dX12_layLetter_36 ?_
    refine R_aload_0 dX12_layLetter_37 ?_
    refine gfX12_81 rfl dX12_layLetter_38 sh_504 (by first | exact hR.g (k := 28) (a := 526) (by decide) | exact (a_up_ne (by omega)).trans (hR.g (k := 28) (a := 526) (by decide)) | exact (a_up_ne (by omega)).trans ((a_up_ne (by omega)).trans (hR.g (k := 28) (a := 526) (by decide))) | exact (a_up_ne (by omega)).trans ((a_up_ne (by omega)).trans ((a_up_ne (by omega)).trans (hR.g (k := 28) (a := 526) (by decide)))) | exact (a_up_ne (by omega)).trans ((a_up_ne (by omega)).trans ((a_up_ne (by omega)).trans ((a_up_ne (by omega)).trans (hR.g (k := 28) (a := 526) (by decide))))) | exact (a_up_ne (by omega)).trans ((a_up_ne (by omega)).trans ((a_up_ne (by omega)).trans ((a_up_ne (by omega)).trans ((a_up_ne (by omega)).trans (hR.g (k := 28) (a := 526) (by decide)))))) | exact (a_up_ne (by omega)).trans ((a_up_ne (by omega)).trans ((a_up_ne (by omega)).trans ((a_up_ne (by omega)).trans ((a_up_ne (by omega)).trans ((a_up_ne (by omega)).trans (hR.g (k := 28) (a := 526) (by decide)))))))) ?_
    refine R_bipush (v := 12) dX12_layLetter_41 (by decide) ?_
    refine R_iload_1 dX12_layLetter_43 ?_
    refine R_imul dX12_layLetter_44 ?_
    refine R_iload_2 dX12_layLetter_45 ?_
    refine R_iadd dX12_layLetter_46 ?_
    refine R_ialdE dX12_layLetter_47 sh_526 (ix1 12 i l) (by omega) (by decide) ((a_up_ne (Or.inl (by decide))).trans ((a_up_ne (Or.inl (by decide))).trans (hKe i hi l hlk).2.1)) ?_
    refine pfX12_239 rfl dX12_layLetter_48 sh_504 ?_
    refine R_aload_0 dX12_layLetter_51 ?_
    refine R_aload_0 dX12_layLetter_52 ?_
    refine gfX12_84 rfl dX12_layLetter_53 sh_504 (by first | exact hR.g (k := 29) (a := 527) (by decide) | exact (a_up_ne (by omega)).trans (hR.g (k := 29) (a := 527) (by decide)) | exact (a_up_ne (by omega)).trans ((a_up_ne (by omega)).trans (hR.g (k := 29) (a := 527) (by decide))) | exact (a_up_ne (by omega)).trans ((a_up_ne (by omega)).trans ((a_up_ne (by omega)).trans (hR.g (k := 29) (a := 527) (by decide)))) | exact (a_up_ne (by omega)).trans ((a_up_ne (by omega)).trans ((a_up_ne (by omega)).trans ((a_up_ne (by omega)).trans (hR.g (k := 29) (a := 527) (by decide))))) | exact (a_up_ne (by omega)).trans ((a_up_ne (by omega)).trans ((a_up_ne (by omega)).trans ((a_up_ne (by omega)).trans ((a_up_ne (by omega)).trans (hR.g (k := 29) (a := 527) (by decide)))))) | exact (a_up_ne (by omega)).trans ((a_up_ne (by omega)).trans ((a_up_ne (by omega)).trans ((a_up_ne (by omega)).trans ((a_up_ne (by omega)).trans ((a_up_ne (by omega)).trans (hR.g (k := 29) (a := 527) (by decide)))))))) ?_
    refine R_bipush (v := 12) dX12_layLetter_56 (by decide) ?_
    refine R_iload_1 dX12_layLetter_58 ?_
    refine R_imul dX12_layLetter_59 ?_
    refine R_iload_2 dX12_layLetter_60 ?_
    refine R_iadd dX12_layLetter_61 ?_
    refine R_ialdE dX12_layLetter_62 sh_527 (ix1 12 i l) (by omega) (by decide) ((a_up_ne (Or.inl (by decide))).trans ((a_up_ne (Or.inl (by decide))).trans ((a_up_ne (Or.inl (by decide))).trans (hKe i hi l hlk).2.2.1))) ?_
    refine pfX12_273 rfl dX12_layLetter_63 sh_504 ?_
    refine R_iconst (v := 0) dX12_layLetter_66 (by decide) ?_
    refine R_istore_3 rfl (by decide) dX12_layLetter_67 ?_
    have f4 : FrR V (a_up (a_up (a_up (a_up V 504 33 (.int 0)) 504 35 (.int 0)) 504 32 (.int (nI (kl i l).1.length))) 504 34 (.int (kl i l).2.2.2)) := (FrR.f (Or.inr (Or.inl rfl))).trans ((FrR.f (Or.inr (Or.inr (Or.inr (Or.inl rfl))))).trans ((FrR.f (Or.inl rfl)).trans (FrR.f (Or.inr (Or.inr (Or.inl rfl))))))
    refine ll_loop (x := (kl i l).1) (f4.s.mr hR) hi l12 ((hk8 i hi).2.2.2.2.2 l hlk).1 (fun q hq => (congrFun (f4.1 528 (by decide) (by decide)) _).trans ((hKe i hi l hlk).2.2.2 q hq)) (fun V' t5 f5 => ⟨rfl, rfl, ?_, f4.trans ⟨fun b q1 q2 => f5 b (by omega), fun k _ _ _ _ _ => congrFun (f5 504 (by decide)) k⟩⟩) (kl i l).1.length 0 _ (by omega) (fun q hq => absurd hq (Nat.not_lt_zero q)) ((a_up_ne (Or.inr (by decide))).trans (a_up_self _ _ _ _)) (fun _ _ => rfl)
    unfold lrs
    rw [if_pos hp]
    exact ⟨t5, (congrFun (f5 504 (by decide)) 33).trans ((a_up_ne (Or.inr (by decide))).trans ((a_up_ne (Or.inr (by decide))).trans ((a_up_ne (Or.inr (by decide))).trans (a_up_self _ _ _ _)))), (congrFun (f5 504 (by decide)) 34).trans (a_up_self _ _ _ _)⟩
  · have hp := bI_eq c6
    have hgm := mmb_mbr hS hi hl
    unfold mmb at hgm
    rw [if_neg hp] at hgm
    refine R_aload_0 dX12_layLetter_9 ?_
    refine R_aload_0 dX12_layLetter_10 ?_
    refine gfX12_66 rfl dX12_layLetter_11 sh_504 (by first | exact hR.g (k := 23) (a := 521) (by decide) | exact (a_up_ne (by omega)).trans (hR.g (k := 23) (a := 521) (by decide)) | exact (a_up_ne (by omega)).trans ((a_up_ne (by omega)).trans (hR.g (k := 23) (a := 521) (by decide))) | exact (a_up_ne (by omega)).trans ((a_up_ne (by omega)).trans ((a_up_ne (by omega)).trans (hR.g (k := 23) (a := 521) (by decide)))) | exact (a_up_ne (by omega)).trans ((a_up_ne (by omega)).trans ((a_up_ne (by omega)).trans ((a_up_ne (by omega)).trans (hR.g (k := 23) (a := 521) (by decide))))) | exact (a_up_ne (by omega)).trans ((a_up_ne (by omega)).trans ((a_up_ne (by omega)).trans ((a_up_ne (by omega)).trans ((a_up_ne (by omega)).trans (hR.g (k := 23) (a := 521) (by decide)))))) | exact (a_up_ne (by omega)).trans ((a_up_ne (by omega)).trans ((a_up_ne (by omega)).trans ((a_up_ne (by omega)).trans ((a_up_ne (by omega)).trans ((a_up_ne (by omega)).trans (hR.g (k := 23) (a := 521) (by decide)))))))) ?_
    refine R_iload_1 dX12_layLetter_14 ?_
    refine R_ialdE dX12_layLetter_15 sh_521 rfl (by omega) (by decide) (hRu.2 i hi).1 ?_
    refine R_aload_0 dX12_layLetter_16 ?_
    refine R_iload_1 dX12_layLetter_17 ?_
    refine R_iload_2 dX12_layLetter_18 ?_
    refine R_callV_e (T := mX12_layLetter) (T' := mX12_openMembers) (As := [_, _]) (ci := 12) okX12_openMembers mlX12_289 rfl (by decide) sh_504 (ct_openMembers (m := l) hR hE.1 hM hm hc hP hpo2 hi (hRu.2 i hi).2.1 (hrr i hi) (by omega)) rfl (by decide) (by decide) (Nat.le_of_ble_eq_true rfl) dX12_layLetter_19 ?_
    refine R_callV (T := mX12_layLetter) (T' := mX12_letterOf) (As := [_, _]) (ci := 12) okX12_letterOf mlX12_298 rfl (by decide) sh_504 (ct_letterOf (t := rt i) (g := (dLst mt po (rr i) cnt).getD l 0) hR hT hE hEO hgm hK8 (hk8 i hi).1 hb0 hs0 (by omega) (by omega)) rfl (by decide) (by decide) (Nat.le_of_ble_eq_true rfl) dX12_layLetter_22 (fun v9 S9 V2 h9 => ?_) (fun E S9 V9 h9 => h9.elim)
    obtain ⟨rfl, rfl, g4, u4⟩ := h9
    refine R_vret rfl dX12_layLetter_25 ⟨rfl, rfl, by unfold lrs; rw [if_neg hp]; exact g4, u4⟩

theorem MDR.il {V : aV} {x : List Int32 × Nat × Int32} {r : LRs} (h : MDR V r) (e : r = .inl x) : TX V x.1 ∧ V 504 33 = .int 0 ∧ V 504 34 = .int x.2.2 := by subst e; exact h
theorem MDR.ir {V : aV} {q : Int32 × List (Nat × Nat)} {r : LRs} (h : MDR V r) (e : r = .inr q) : ∃ c, 1 ≤ c ∧ c ≤ 4 ∧ q.1 = nI c ∧ TRl V 0 c q.2 := by subst e; exact h
set_option maxHeartbeats 4000000 in
theorem ct_mletter {V : aV} {L : List Int32} {T : Nat → List Int32} {to : Nat → Bool} {ent : Nat → EntN} {cnt : Nat} {mt po : Nat → Nat} {b st pa n : Nat} {rt rr : Nat → Nat} {pd : Nat → Bool} {kn : Nat → Nat} {kl : Nat → Nat → KL} (hI : MI V L T to ent cnt mt po b st pa n rt rr pd kn kl) (hS : SOK L T to ent cnt mt po b st pa n rt rr pd kn kl) (t u wh : Int32) : CT mX12_letter 7 0 0 [.ref 504, .int t, .int u, .int wh] Sh V (fun v S' V' => Sh = S' ∧ FrS V V' ∧ ∃ y, v = some (.int y) ∧ (((V' 504 0 = .int 1 ∧ ¬ ltOK n (lcn mt po cnt kn pd rr) t u) ∨ (V' 504 0 = .int 2 ∧ ltOK n (lcn mt po cnt kn pd rr) t u ∧ ¬ (¬ wh < 0 ∧ wh ≤ 4))) ∨ (V' 504 0 = .int 0 ∧ ∃ i l k, i < n ∧ i < 8 ∧ t = nI i ∧ u = nI l ∧ l < lcn mt po cnt kn pd rr i ∧ k ≤ 4 ∧ wh = nI k ∧ y = lval (mmb cnt mt po rr pd kl i l) (lrs T to ent cnt mt po b st rt rr pd kl i l) k))) aNo := by
  refine CT_of (by decide +kernel) (Nat.le_of_ble_eq_true rfl) ?_
  show R _ _ _ _ _ _ _ _ 0 [some (.ref 504), some (.int t), some (.int u), some (.int wh), none] [] _ _
  obtain ⟨⟨hR, hML, hT⟩, ⟨hE, hM, hP⟩, ⟨hb0, hs0, hpa0⟩, hRu, hKe⟩ := id hI
  obtain ⟨-, ⟨hK8, hT8⟩, ⟨hc, hEO, hm, hpo⟩, ⟨hb, hst, hpa⟩, hn, hk8⟩ := id hS
  have hpo2 := po12 hpo
  have hrr := fun i hi => (hk8 i hi).2.1
  have hkn := fun i hi => (hk8 i hi).2.2.1
  refine R_aload_0 dX12_letter_0 ?_
  refine R_aload_0 dX12_letter_1 ?_
  refine R_iload_1 dX12_letter_2 ?_
  refine R_iload_2 dX12_letter_3 ?_
  refine R_callV (T := mX12_letter) (T' := mX12_isLetter) (As := [_, _]) (ci := 12) okX12_isLetter mlX12_301 rfl (by decide) sh_504 (ct_isLetter hR hE.1 hM hm hc hP hpo2 hRu hrr hn hkn t u) rfl (by decide) (by decide) (Nat.le_of_ble_eq_true rfl) dX12_letter_4 (fun v9 S9 V9 h9 => ?_) (fun E S9 V9 h9 => h9.elim)
  obtain ⟨rfl, rfl, h8⟩ := h9
  rcases h8 with ⟨rfl, hlt⟩ | ⟨rfl, hlt⟩
  · refine R_if_ne 14 dX12_letter_7 (by decide) (fun c7 => ?_) (fun c7 => absurd c7 (by decide))
    refine R_iload_3 dX12_letter_14 ?_
    refine R_if_lt 23 dX12_letter_15 (by decide) (fun c15 => ?_) (fun c15 => ?_)
    · refine R_iconst (v := 2) dX12_letter_23 (by decide) ?_
      refine R_goto 28 dX12_letter_24 (by decide) ?_
      refine R_callV_e (T := mX12_letter) (T' := mX12_fails) (As := [_]) (ci := 12) okX12_fails mlX12_128 rfl (by decide) sh_504 (ct_mfails _) rfl (by decide) (by decide) (Nat.le_of_ble_eq_true rfl) dX12_letter_28 ?_
      refine R_if_eq 36 dX12_letter_31 (by decide) (fun c31 => absurd c31 (by decide)) (fun c31 => ?_)
      refine R_iconst (v := 0) dX12_letter_34 (by decide) ?_
      refine R_iret rfl dX12_letter_35 ⟨rfl, FrS.f (Or.inl rfl), _, rfl, Or.inl (Or.inr ⟨a_up_self _ _ _ _, hlt, by first | exact fun z => z.1 c15 | exact fun z => c20 z.2⟩)⟩
    · refine R_iload_3 dX12_letter_18 ?_
      refine R_iconst (v := 4) dX12_letter_19 (by decide) ?_
      refine R_icmp_le 27 dX12_letter_20 (by decide) (fun c20 => ?_) (fun c20 => ?_)
      · obtain ⟨i, l, i9, i8, rfl, rfl, hll⟩ := hlt
        have f1 := (FrS.f (V := V) (k := 0) (v := .int 0) (Or.inl rfl))
        have hI1 := hI.s f1
        obtain ⟨kw, hkw, rfl⟩ := nI_of c15
        have kw4 := (nI_leI (a := kw) (b := 4) hkw (by decide)).1 c20
        refine R_iconst (v := 0) dX12_letter_27 (by decide) ?_
        refine R_callV_e (T := mX12_letter) (T' := mX12_fails) (As := [_]) (ci := 12) okX12_fails mlX12_128 rfl (by decide) sh_504 (ct_mfails _) rfl (by decide) (by decide) (Nat.le_of_ble_eq_true rfl) dX12_letter_28 ?_
        refine R_if_eq 36 dX12_letter_31 (by decide) (fun c31 => ?_) (fun c31 => absurd (by decide) c31)
        refine R_aload_0 dX12_letter_36 ?_
        refine R_iload_1 dX12_letter_37 ?_
        refine R_iload_2 dX12_letter_38 ?_
        refine R_callV_e (T := mX12_letter) (T' := mX12_membersOf) (As := [_, _]) (ci := 12) okX12_membersOf mlX12_304 rfl (by decide) sh_504 (ct_membersOf hI1 hS i8 hll) rfl (by decide) (by decide) (Nat.le_of_ble_eq_true rfl) dX12_letter_39 ?_
        refine R_istore_4 rfl (by decide) dX12_letter_42 ?_
        refine R_iload_3 dX12_letter_44 ?_
        refine R_if_ne 51 dX12_letter_45 (by decide) (fun c45 => ?_) (fun c45 => ?_)
        · refine R_aload_0 dX12_letter_51 ?_
          refine R_iload_1 dX12_letter_52 ?_
          refine R_iload_2 dX12_letter_53 ?_
          refine R_callV (T := mX12_letter) (T' := mX12_layLetter) (As := [_, _]) (ci := 12) okX12_layLetter mlX12_307 rfl (by decide) sh_504 (ct_layLetter hI1 hS i8 hll) rfl (by decide) (by decide) (Nat.le_of_ble_eq_true rfl) dX12_letter_54 (fun v9 S9 V2 h9 => ?_) (fun E S9 V9 h9 => h9.elim)
          obtain ⟨rfl, rfl, g4, u4⟩ := h9
          have f2 := f1.trans u4.s
          have hR := (hI1.s u4.s).1.1
          have k0 : ¬ kw = 0 := fun z => c45 (by rw [z]; rfl)
          cases eL : lrs T to ent cnt mt po b st rt rr pd kl i l with
          | inl x =>
            have gI := g4.il eL
            have hko := lrs_KO hS i8 hll eL
            have h33 := gI.2.1
            have h32 := gI.1.1
            have h34 := gI.2.2
            have hx160 := gI.1.2.2
            have hww : x.2.1 = _ := hko.2.2.2.1
            refine R_iload_3 dX12_letter_57 ?_
            refine R_iconst (v := 1) dX12_letter_58 (by decide) ?_
            refine R_icmp_ne 67 dX12_letter_59 (by decide) (fun c59 => ?_) (fun c59 => ?_)
            · refine R_aload_0 dX12_letter_67 ?_
              refine gfX12_233 rfl dX12_letter_68 sh_504 h33 ?_
              refine R_if_eq 76 dX12_letter_71 (by decide) (fun c71 => ?_) (fun c71 => absurd rfl c71)
              refine R_iload_3 dX12_letter_76 ?_
              refine R_iconst (v := 2) dX12_letter_77 (by decide) ?_
              refine R_icmp_ne 88 dX12_letter_78 (by decide) (fun c78 => ?_) (fun c78 => ?_)
              · refine R_iload_3 dX12_letter_88 ?_
                refine R_iconst (v := 3) dX12_letter_89 (by decide) ?_
                refine R_icmp_ne 105 dX12_letter_90 (by decide) (fun c90 => ?_) (fun c90 => ?_)
                · have n1 : ¬ kw = 1 := fun z => c59 (by rw [z]; rfl)
                  have n2 : ¬ kw = 2 := fun z => c78 (by rw [z]; rfl)
                  have n3 : ¬ kw = 3 := fun z => c90 (by rw [z]; rfl)
                  have e4 : kw = 4 := by omega
                  subst e4
                  refine R_aload_0 dX12_letter_105 ?_
                  refine gfX12_273 rfl dX12_letter_106 sh_504 h34 ?_
                  refine R_iret rfl dX12_letter_109 ⟨rfl, f2, _, rfl, Or.inr ⟨((u4.2 0 (by decide) (by decide) (by decide) (by decide) (by decide)).trans (a_up_self _ _ _ _)), i, l, 4, i9, i8, rfl, rfl, hll, by omega, rfl, by rw [eL]; rfl⟩⟩
                · refine R_aload_0 dX12_letter_93 ?_
                  refine gfX12_239 rfl dX12_letter_94 sh_504 h32 ?_
                  refine R_iload_4 dX12_letter_97 ?_
                  refine R_callS_e (T := mX12_letter) (T' := mX12_weightOf) (As := [_, _]) okX12_weightOf mlX12_279 rfl (ct_mweightOf (n := x.1.length) (g := mmb cnt mt po rr pd kl i l) (by omega) (mmb_mbr hS i8 hll)) rfl (by decide) (by decide) (Nat.le_of_ble_eq_true rfl) dX12_letter_99 ?_
                  have e3 : kw = 3 := (nI_eq (by omega) (by decide)).1 c90
                  subst e3
                  refine R_goto 109 dX12_letter_102 (by decide) ?_
                  refine R_iret rfl dX12_letter_109 ⟨rfl, f2, _, rfl, Or.inr ⟨((u4.2 0 (by decide) (by decide) (by decide) (by decide) (by decide)).trans (a_up_self _ _ _ _)), i, l, 3, i9, i8, rfl, rfl, hll, by omega, rfl, by rw [eL]; show _ = nI x.2.1; rw [hww]⟩⟩
              · refine R_aload_0 dX12_letter_81 ?_
                refine gfX12_239 rfl dX12_letter_82 sh_504 h32 ?_
                have e2 : kw = 2 := (nI_eq (by omega) (by decide)).1 c78
                subst e2
                refine R_goto 109 dX12_letter_85 (by decide) ?_
                refine R_iret rfl dX12_letter_109 ⟨rfl, f2, _, rfl, Or.inr ⟨((u4.2 0 (by decide) (by decide) (by decide) (by decide) (by decide)).trans (a_up_self _ _ _ _)), i, l, 2, i9, i8, rfl, rfl, hll, by omega, rfl, by rw [eL]; rfl⟩⟩
            · have e1 : kw = 1 := (nI_eq (by omega) (by decide)).1 c59
              subst e1
              refine R_aload_0 dX12_letter_62 ?_
              refine gfX12_233 rfl dX12_letter_63 sh_504 h33 ?_
              refine R_iret rfl dX12_letter_66 ⟨rfl, f2, _, rfl, Or.inr ⟨((u4.2 0 (by decide) (by decide) (by decide) (by decide) (by decide)).trans (a_up_self _ _ _ _)), i, l, 1, i9, i8, rfl, rfl, hll, by omega, rfl, by rw [eL]; rfl⟩⟩
          | inr q =>
            obtain ⟨c, c1, c4, ec, t4⟩ := g4.ir eL
            have h33 := t4.1
            refine R_iload_3 dX12_letter_57 ?_
            refine R_iconst (v := 1) dX12_letter_58 (by decide) ?_
            refine R_icmp_ne 67 dX12_letter_59 (by decide) (fun c59 => ?_) (fun c59 => ?_)
            · have n1 : ¬ kw = 1 := fun z => c59 (by rw [z]; rfl)
              refine R_aload_0 dX12_letter_67 ?_
              refine gfX12_233 rfl dX12_letter_68 sh_504 h33 ?_
              refine R_if_eq 76 dX12_letter_71 (by decide) (fun c71 => absurd c71 (nI_ne0 (by omega) (by omega))) (fun c71 => ?_)
              refine R_iconst (v := -1) dX12_letter_74 (by decide) ?_
              refine R_iret rfl dX12_letter_75 ⟨rfl, f2, _, rfl, Or.inr ⟨((u4.2 0 (by decide) (by decide) (by decide) (by decide) (by decide)).trans (a_up_self _ _ _ _)), i, l, kw, i9, i8, rfl, rfl, hll, by omega, rfl, by rw [eL, lval_r k0 n1]⟩⟩
            · have e1 : kw = 1 := (nI_eq (by omega) (by decide)).1 c59
              subst e1
              refine R_aload_0 dX12_letter_62 ?_
              refine gfX12_233 rfl dX12_letter_63 sh_504 h33 ?_
              refine R_iret rfl dX12_letter_66 ⟨rfl, f2, _, rfl, Or.inr ⟨((u4.2 0 (by decide) (by decide) (by decide) (by decide) (by decide)).trans (a_up_self _ _ _ _)), i, l, 1, i9, i8, rfl, rfl, hll, by omega, rfl, by rw [eL]; show _ = q.1; rw [ec]⟩⟩
        · refine R_iload_4 dX12_letter_48 ?_
          refine R_iret rfl dX12_letter_50 ⟨rfl, f1, _, rfl, Or.inr ⟨(a_up_self _ _ _ _), i, l, 0, i9, i8, rfl, rfl, hll, by omega, c45, rfl⟩⟩
      · refine R_iconst (v := 2) dX12_letter_23 (by decide) ?_
        refine R_goto 28 dX12_letter_24 (by decide) ?_
        refine R_callV_e (T := mX12_letter) (T' := mX12_fails) (As := [_]) (ci := 12) okX12_fails mlX12_128 rfl (by decide) sh_504 (ct_mfails _) rfl (by decide) (by decide) (Nat.le_of_ble_eq_true rfl) dX12_letter_28 ?_
        refine R_if_eq 36 dX12_letter_31 (by decide) (fun c31 => absurd c31 (by decide)) (fun c31 => ?_)
        refine R_iconst (v := 0) dX12_letter_34 (by decide) ?_
        refine R_iret rfl dX12_letter_35 ⟨rfl, FrS.f (Or.inl rfl), _, rfl, Or.inl (Or.inr ⟨a_up_self _ _ _ _, hlt, by first | exact fun z => z.1 c15 | exact fun z => c20 z.2⟩)⟩
  · refine R_if_ne 14 dX12_letter_7 (by decide) (fun c7 => absurd rfl c7) (fun c7 => ?_)
    refine R_iconst (v := 1) dX12_letter_10 (by decide) ?_
    refine R_goto 28 dX12_letter_11 (by decide) ?_
    refine R_callV_e (T := mX12_letter) (T' := mX12_fails) (As := [_]) (ci := 12) okX12_fails mlX12_128 rfl (by decide) sh_504 (ct_mfails _) rfl (by decide) (by decide) (Nat.le_of_ble_eq_true rfl) dX12_letter_28 ?_
    refine R_if_eq 36 dX12_letter_31 (by decide) (fun c31 => absurd c31 (by decide)) (fun c31 => ?_)
    refine R_iconst (v := 0) dX12_letter_34 (by decide) ?_
    refine R_iret rfl dX12_letter_35 ⟨rfl, FrS.f (Or.inl rfl), _, rfl, Or.inl (Or.inl ⟨a_up_self _ _ _ _, hlt⟩)⟩

set_option maxHeartbeats 4000000 in
theorem ct_msign {V : aV} {L : List Int32} {T : Nat → List Int32} {to : Nat → Bool} {ent : Nat → EntN} {cnt : Nat} {mt po : Nat → Nat} {b st pa n : Nat} {rt rr : Nat → Nat} {pd : Nat → Bool} {kn : Nat → Nat} {kl : Nat → Nat → KL} (hI : MI V L T to ent cnt mt po b st pa n rt rr pd kn kl) (hS : SOK L T to ent cnt mt po b st pa n rt rr pd kn kl) (t u p : Int32) : CT mX12_sign 7 0 0 [.ref 504, .int t, .int u, .int p] Sh V (fun v S' V' => Sh = S' ∧ FrS V V' ∧ ∃ y, v = some (.int y) ∧ ((V' 504 0 = .int 1 ∧ ¬ (ltOK n (lcn mt po cnt kn pd rr) t u ∧ ¬ p < 0)) ∨ (V' 504 0 = .int 0 ∧ ∃ i l, i < n ∧ i < 8 ∧ t = nI i ∧ u = nI l ∧ l < lcn mt po cnt kn pd rr i ∧ ¬ p < 0 ∧ y = lsg (lrs T to ent cnt mt po b st rt rr pd kl i l) p))) aNo := by
  refine CT_of (by decide +kernel) (Nat.le_of_ble_eq_true rfl) ?_
  show R _ _ _ _ _ _ _ _ 0 [some (.ref 504), some (.int t), some (.int u), some (.int p), none] [] _ _
  obtain ⟨⟨hR, hML, hT⟩, ⟨hE, hM, hP⟩, ⟨hb0, hs0, hpa0⟩, hRu, hKe⟩ := id hI
  obtain ⟨-, ⟨hK8, hT8⟩, ⟨hc, hEO, hm, hpo⟩, ⟨hb, hst, hpa⟩, hn, hk8⟩ := id hS
  have hpo2 := po12 hpo
  have hrr := fun i hi => (hk8 i hi).2.1
  have hkn := fun i hi => (hk8 i hi).2.2.1
  refine R_aload_0 dX12_sign_0 ?_
  refine R_aload_0 dX12_sign_1 ?_
  refine R_iload_1 dX12_sign_2 ?_
  refine R_iload_2 dX12_sign_3 ?_
  refine R_callV (T := mX12_sign) (T' := mX12_isLetter) (As := [_, _]) (ci := 12) okX12_isLetter mlX12_301 rfl (by decide) sh_504 (ct_isLetter hR hE.1 hM hm hc hP hpo2 hRu hrr hn hkn t u) rfl (by decide) (by decide) (Nat.le_of_ble_eq_true rfl) dX12_sign_4 (fun v9 S9 V9 h9 => ?_) (fun E S9 V9 h9 => h9.elim)
  obtain ⟨rfl, rfl, h8⟩ := h9
  rcases h8 with ⟨rfl, hlt⟩ | ⟨rfl, hlt⟩
  · refine R_if_eq 18 dX12_sign_7 (by decide) (fun c7 => absurd c7 (by decide)) (fun c7 => ?_)
    refine R_iload_3 dX12_sign_10 ?_
    refine R_if_lt 18 dX12_sign_11 (by decide) (fun c11 => ?_) (fun c11 => ?_)
    · refine R_iconst (v := 1) dX12_sign_18 (by decide) ?_
      refine R_callV_e (T := mX12_sign) (T' := mX12_fails) (As := [_]) (ci := 12) okX12_fails mlX12_128 rfl (by decide) sh_504 (ct_mfails _) rfl (by decide) (by decide) (Nat.le_of_ble_eq_true rfl) dX12_sign_19 ?_
      refine R_if_eq 27 dX12_sign_22 (by decide) (fun c22 => absurd c22 (by decide)) (fun c22 => ?_)
      refine R_iconst (v := 0) dX12_sign_25 (by decide) ?_
      refine R_zret rfl rfl dX12_sign_26 ⟨rfl, FrS.f (Or.inl rfl), _, rfl, Or.inl ⟨a_up_self _ _ _ _, fun z => z.2 c11⟩⟩
    · obtain ⟨i, l, i9, i8, rfl, rfl, hll⟩ := hlt
      have f1 := (FrS.f (V := V) (k := 0) (v := .int 0) (Or.inl rfl))
      have hI1 := hI.s f1
      obtain ⟨pq, hpq, rfl⟩ := nI_of c11
      refine R_iconst (v := 0) dX12_sign_14 (by decide) ?_
      refine R_goto 19 dX12_sign_15 (by decide) ?_
      refine R_callV_e (T := mX12_sign) (T' := mX12_fails) (As := [_]) (ci := 12) okX12_fails mlX12_128 rfl (by decide) sh_504 (ct_mfails _) rfl (by decide) (by decide) (Nat.le_of_ble_eq_true rfl) dX12_sign_19 ?_
      refine R_if_eq 27 dX12_sign_22 (by decide) (fun c22 => ?_) (fun c22 => absurd (by decide) c22)
      refine R_aload_0 dX12_sign_27 ?_
      refine R_iload_1 dX12_sign_28 ?_
      refine R_iload_2 dX12_sign_29 ?_
      refine R_callV (T := mX12_sign) (T' := mX12_layLetter) (As := [_, _]) (ci := 12) okX12_layLetter mlX12_307 rfl (by decide) sh_504 (ct_layLetter hI1 hS i8 hll) rfl (by decide) (by decide) (Nat.le_of_ble_eq_true rfl) dX12_sign_30 (fun v9 S9 V2 h9 => ?_) (fun E S9 V9 h9 => h9.elim)
      obtain ⟨rfl, rfl, g4, u4⟩ := h9
      have f2 := f1.trans u4.s
      have hR := (hI1.s u4.s).1.1
      cases eL : lrs T to ent cnt mt po b st rt rr pd kl i l with
      | inl x =>
        have gI := g4.il eL
        have hko := lrs_KO hS i8 hll eL
        have h33 := gI.2.1
        have h32 := gI.1.1
        have h34 := gI.2.2
        have hx160 := gI.1.2.2
        have hww : x.2.1 = _ := hko.2.2.2.1
        refine R_aload_0 dX12_sign_33 ?_
        refine gfX12_233 rfl dX12_sign_34 sh_504 h33 ?_
        refine R_if_ne 57 dX12_sign_37 (by decide) (fun c37 => absurd rfl c37) (fun c37 => ?_)
        refine R_iload_3 dX12_sign_40 ?_
        refine R_aload_0 dX12_sign_41 ?_
        refine gfX12_239 rfl dX12_sign_42 sh_504 h32 ?_
        refine R_icmp_ge 57 dX12_sign_45 (by decide) (fun c45 => ?_) (fun c45 => ?_)
        · have hge : ¬ pq < x.1.length := fun z => by have := (nI_leI (by omega) (by omega)).1 c45; omega
          refine R_iconst (v := 0) dX12_sign_57 (by decide) ?_
          refine R_istore_4 rfl (by decide) dX12_sign_58 ?_
          refine R_iload_4 dX12_sign_60 ?_
          refine R_i2c dX12_sign_62 ?_
          rw [show (0 : Int32) = nI 0 from rfl, nI_i2c (n := 0) (by decide)]
          refine R_zret rfl (narc_of (nI_chr (n := 0) (by decide))) dX12_sign_63 ⟨rfl, f2, _, rfl, Or.inr ⟨((u4.2 0 (by decide) (by decide) (by decide) (by decide) (by decide)).trans (a_up_self _ _ _ _)), i, l, i9, i8, rfl, rfl, hll, c11, by rw [eL]; show _ = lAt x.1 (nI pq); rw [lAt_nI (by omega), gd_0 hge]; rfl⟩⟩
        · have hlp : pq < x.1.length := Nat.lt_of_not_le fun z => c45 (nI_le z (by omega))
          obtain ⟨cc, d1, d2, d3⟩ := okC_nI' (hko.2.1 _ (gd_mem (d := 0) hlp))
          refine R_aload_0 dX12_sign_48 ?_
          refine gfX12_90 rfl dX12_sign_49 sh_504 (by first | exact hR.g (k := 31) (a := 529) (by decide) | exact (a_up_ne (by omega)).trans (hR.g (k := 31) (a := 529) (by decide)) | exact (a_up_ne (by omega)).trans ((a_up_ne (by omega)).trans (hR.g (k := 31) (a := 529) (by decide))) | exact (a_up_ne (by omega)).trans ((a_up_ne (by omega)).trans ((a_up_ne (by omega)).trans (hR.g (k := 31) (a := 529) (by decide)))) | exact (a_up_ne (by omega)).trans ((a_up_ne (by omega)).trans ((a_up_ne (by omega)).trans ((a_up_ne (by omega)).trans (hR.g (k := 31) (a := 529) (by decide))))) | exact (a_up_ne (by omega)).trans ((a_up_ne (by omega)).trans ((a_up_ne (by omega)).trans ((a_up_ne (by omega)).trans ((a_up_ne (by omega)).trans (hR.g (k := 31) (a := 529) (by decide)))))) | exact (a_up_ne (by omega)).trans ((a_up_ne (by omega)).trans ((a_up_ne (by omega)).trans ((a_up_ne (by omega)).trans ((a_up_ne (by omega)).trans ((a_up_ne (by omega)).trans (hR.g (k := 31) (a := 529) (by decide)))))))) ?_
          refine R_iload_3 dX12_sign_52 ?_
          refine R_ialdE dX12_sign_53 sh_529 rfl (by omega) (by decide) (gI.1.2.1 pq hlp) ?_
          refine R_goto 58 dX12_sign_54 (by decide) ?_
          refine R_istore_4 rfl (by decide) dX12_sign_58 ?_
          refine R_iload_4 dX12_sign_60 ?_
          rw [d3]
          refine R_i2c dX12_sign_62 ?_
          rw [nI_i2c (n := cc) (by omega)]
          refine R_zret rfl (narc_of (nI_chr (n := cc) (by omega))) dX12_sign_63 ⟨rfl, f2, _, rfl, Or.inr ⟨((u4.2 0 (by decide) (by decide) (by decide) (by decide) (by decide)).trans (a_up_self _ _ _ _)), i, l, i9, i8, rfl, rfl, hll, c11, by rw [eL]; show _ = lAt x.1 (nI pq); rw [lAt_nI (by omega), d3]⟩⟩
      | inr q =>
        obtain ⟨c, c1, c4, ec, t4⟩ := g4.ir eL
        have h33 := t4.1
        refine R_aload_0 dX12_sign_33 ?_
        refine gfX12_233 rfl dX12_sign_34 sh_504 h33 ?_
        refine R_if_ne 57 dX12_sign_37 (by decide) (fun c37 => ?_) (fun c37 => absurd c37 (nI_ne0 (by omega) (by omega)))
        refine R_iconst (v := 0) dX12_sign_57 (by decide) ?_
        refine R_istore_4 rfl (by decide) dX12_sign_58 ?_
        refine R_iload_4 dX12_sign_60 ?_
        refine R_i2c dX12_sign_62 ?_
        rw [show (0 : Int32) = nI 0 from rfl, nI_i2c (n := 0) (by decide)]
        refine R_zret rfl (narc_of (nI_chr (n := 0) (by decide))) dX12_sign_63 ⟨rfl, f2, _, rfl, Or.inr ⟨((u4.2 0 (by decide) (by decide) (by decide) (by decide) (by decide)).trans (a_up_self _ _ _ _)), i, l, i9, i8, rfl, rfl, hll, c11, by rw [eL]; rfl⟩⟩
  · refine R_if_eq 18 dX12_sign_7 (by decide) (fun c7 => ?_) (fun c7 => absurd rfl c7)
    refine R_iconst (v := 1) dX12_sign_18 (by decide) ?_
    refine R_callV_e (T := mX12_sign) (T' := mX12_fails) (As := [_]) (ci := 12) okX12_fails mlX12_128 rfl (by decide) sh_504 (ct_mfails _) rfl (by decide) (by decide) (Nat.le_of_ble_eq_true rfl) dX12_sign_19 ?_
    refine R_if_eq 27 dX12_sign_22 (by decide) (fun c22 => absurd c22 (by decide)) (fun c22 => ?_)
    refine R_iconst (v := 0) dX12_sign_25 (by decide) ?_
    refine R_zret rfl rfl dX12_sign_26 ⟨rfl, FrS.f (Or.inl rfl), _, rfl, Or.inl ⟨a_up_self _ _ _ _, fun z => hlt z.1⟩⟩

set_option maxHeartbeats 4000000 in
theorem ct_mtrouble {V : aV} {L : List Int32} {T : Nat → List Int32} {to : Nat → Bool} {ent : Nat → EntN} {cnt : Nat} {mt po : Nat → Nat} {b st pa n : Nat} {rt rr : Nat → Nat} {pd : Nat → Bool} {kn : Nat → Nat} {kl : Nat → Nat → KL} (hI : MI V L T to ent cnt mt po b st pa n rt rr pd kn kl) (hS : SOK L T to ent cnt mt po b st pa n rt rr pd kn kl) (t u lev pl : Int32) : CT mX12_trouble 7 0 0 [.ref 504, .int t, .int u, .int lev, .int pl] Sh V (fun v S' V' => Sh = S' ∧ FrS V V' ∧ ∃ y, v = some (.int y) ∧ ((V' 504 0 = .int 1 ∧ ¬ (ltOK n (lcn mt po cnt kn pd rr) t u ∧ ¬ lev < 0)) ∨ (V' 504 0 = .int 0 ∧ ∃ i l, i < n ∧ i < 8 ∧ t = nI i ∧ u = nI l ∧ l < lcn mt po cnt kn pd rr i ∧ ¬ lev < 0 ∧ y = trv (lrs T to ent cnt mt po b st rt rr pd kl i l) lev pl))) aNo := by
  refine CT_of (by decide +kernel) (Nat.le_of_ble_eq_true rfl) ?_
  show R _ _ _ _ _ _ _ _ 0 [some (.ref 504), some (.int t), some (.int u), some (.int lev), some (.int pl)] [] _ _
  obtain ⟨⟨hR, hML, hT⟩, ⟨hE, hM, hP⟩, ⟨hb0, hs0, hpa0⟩, hRu, hKe⟩ := id hI
  obtain ⟨-, ⟨hK8, hT8⟩, ⟨hc, hEO, hm, hpo⟩, ⟨hb, hst, hpa⟩, hn, hk8⟩ := id hS
  have hpo2 := po12 hpo
  have hrr := fun i hi => (hk8 i hi).2.1
  have hkn := fun i hi => (hk8 i hi).2.2.1
  refine R_aload_0 dX12_trouble_0 ?_
  refine R_aload_0 dX12_trouble_1 ?_
  refine R_iload_1 dX12_trouble_2 ?_
  refine R_iload_2 dX12_trouble_3 ?_
  refine R_callV (T := mX12_trouble) (T' := mX12_isLetter) (As := [_, _]) (ci := 12) okX12_isLetter mlX12_301 rfl (by decide) sh_504 (ct_isLetter hR hE.1 hM hm hc hP hpo2 hRu hrr hn hkn t u) rfl (by decide) (by decide) (Nat.le_of_ble_eq_true rfl) dX12_trouble_4 (fun v9 S9 V9 h9 => ?_) (fun E S9 V9 h9 => h9.elim)
  obtain ⟨rfl, rfl, h8⟩ := h9
  rcases h8 with ⟨rfl, hlt⟩ | ⟨rfl, hlt⟩
  · refine R_if_eq 18 dX12_trouble_7 (by decide) (fun c7 => absurd c7 (by decide)) (fun c7 => ?_)
    refine R_iload_3 dX12_trouble_10 ?_
    refine R_if_lt 18 dX12_trouble_11 (by decide) (fun c11 => ?_) (fun c11 => ?_)
    · refine R_iconst (v := 1) dX12_trouble_18 (by decide) ?_
      refine R_callV_e (T := mX12_trouble) (T' := mX12_fails) (As := [_]) (ci := 12) okX12_fails mlX12_128 rfl (by decide) sh_504 (ct_mfails _) rfl (by decide) (by decide) (Nat.le_of_ble_eq_true rfl) dX12_trouble_19 ?_
      refine R_if_eq 27 dX12_trouble_22 (by decide) (fun c22 => absurd c22 (by decide)) (fun c22 => ?_)
      refine R_iconst (v := 0) dX12_trouble_25 (by decide) ?_
      refine R_iret rfl dX12_trouble_26 ⟨rfl, FrS.f (Or.inl rfl), _, rfl, Or.inl ⟨a_up_self _ _ _ _, fun z => z.2 c11⟩⟩
    · obtain ⟨i, l, i9, i8, rfl, rfl, hll⟩ := hlt
      have f1 := (FrS.f (V := V) (k := 0) (v := .int 0) (Or.inl rfl))
      have hI1 := hI.s f1
      obtain ⟨lq, hlq, rfl⟩ := nI_of c11
      refine R_iconst (v := 0) dX12_trouble_14 (by decide) ?_
      refine R_goto 19 dX12_trouble_15 (by decide) ?_
      refine R_callV_e (T := mX12_trouble) (T' := mX12_fails) (As := [_]) (ci := 12) okX12_fails mlX12_128 rfl (by decide) sh_504 (ct_mfails _) rfl (by decide) (by decide) (Nat.le_of_ble_eq_true rfl) dX12_trouble_19 ?_
      refine R_if_eq 27 dX12_trouble_22 (by decide) (fun c22 => ?_) (fun c22 => absurd (by decide) c22)
      refine R_aload_0 dX12_trouble_27 ?_
      refine R_iload_1 dX12_trouble_28 ?_
      refine R_iload_2 dX12_trouble_29 ?_
      refine R_callV (T := mX12_trouble) (T' := mX12_layLetter) (As := [_, _]) (ci := 12) okX12_layLetter mlX12_307 rfl (by decide) sh_504 (ct_layLetter hI1 hS i8 hll) rfl (by decide) (by decide) (Nat.le_of_ble_eq_true rfl) dX12_trouble_30 (fun v9 S9 V2 h9 => ?_) (fun E S9 V9 h9 => h9.elim)
      obtain ⟨rfl, rfl, g4, u4⟩ := h9
      have f2 := f1.trans u4.s
      have hR := (hI1.s u4.s).1.1
      cases eL : lrs T to ent cnt mt po b st rt rr pd kl i l with
      | inl x =>
        have gI := g4.il eL
        refine R_aload_0 dX12_trouble_33 ?_
        refine gfX12_233 rfl dX12_trouble_34 sh_504 gI.2.1 ?_
        refine R_if_eq 48 dX12_trouble_37 (by decide) (fun c37 => ?_) (fun c37 => absurd rfl c37)
        refine R_iconst (v := -1) dX12_trouble_48 (by decide) ?_
        refine R_iret rfl dX12_trouble_49 ⟨rfl, f2, _, rfl, Or.inr ⟨((u4.2 0 (by decide) (by decide) (by decide) (by decide) (by decide)).trans (a_up_self _ _ _ _)), i, l, i9, i8, rfl, rfl, hll, c11, by rw [eL]; rfl⟩⟩
      | inr q =>
        obtain ⟨c, c1, c4, ec, t4⟩ := g4.ir eL
        have h33 := t4.1
        have h35 := t4.2.1
        rw [Nat.zero_add] at h35
        have t5 := t4.2.2.1
        rw [Nat.zero_add] at t5
        have t8 : ∀ j, j < q.2.length → V2 530 j = .int (nI (q.2.getD j (0, 0)).1) ∧ V2 531 j = .int (nI (q.2.getD j (0, 0)).2) := fun j hj => by
          have := t4.2.2.2 j hj
          rwa [Nat.zero_add] at this
        refine R_aload_0 dX12_trouble_33 ?_
        refine gfX12_233 rfl dX12_trouble_34 sh_504 h33 ?_
        refine R_if_eq 48 dX12_trouble_37 (by decide) (fun c37 => absurd c37 (nI_ne0 (by omega) (by omega))) (fun c37 => ?_)
        refine R_iload_3 dX12_trouble_40 ?_
        refine R_aload_0 dX12_trouble_41 ?_
        refine gfX12_236 rfl dX12_trouble_42 sh_504 h35 ?_
        refine R_icmp_lt 50 dX12_trouble_45 (by decide) (fun c45 => ?_) (fun c45 => ?_)
        · have hlp : lq < q.2.length := (nI_ltI (by omega) (by omega)).1 c45
          have hx : nI lq < nI q.2.length := c45
          refine R_iload_4 dX12_trouble_50 ?_
          refine R_if_eq 64 dX12_trouble_52 (by decide) (fun c52 => ?_) (fun c52 => ?_)
          · refine R_aload_0 dX12_trouble_64 ?_
            refine gfX12_93 rfl dX12_trouble_65 sh_504 (by first | exact hR.g (k := 36) (a := 530) (by decide) | exact (a_up_ne (by omega)).trans (hR.g (k := 36) (a := 530) (by decide)) | exact (a_up_ne (by omega)).trans ((a_up_ne (by omega)).trans (hR.g (k := 36) (a := 530) (by decide))) | exact (a_up_ne (by omega)).trans ((a_up_ne (by omega)).trans ((a_up_ne (by omega)).trans (hR.g (k := 36) (a := 530) (by decide)))) | exact (a_up_ne (by omega)).trans ((a_up_ne (by omega)).trans ((a_up_ne (by omega)).trans ((a_up_ne (by omega)).trans (hR.g (k := 36) (a := 530) (by decide))))) | exact (a_up_ne (by omega)).trans ((a_up_ne (by omega)).trans ((a_up_ne (by omega)).trans ((a_up_ne (by omega)).trans ((a_up_ne (by omega)).trans (hR.g (k := 36) (a := 530) (by decide)))))) | exact (a_up_ne (by omega)).trans ((a_up_ne (by omega)).trans ((a_up_ne (by omega)).trans ((a_up_ne (by omega)).trans ((a_up_ne (by omega)).trans ((a_up_ne (by omega)).trans (hR.g (k := 36) (a := 530) (by decide)))))))) ?_
            refine R_iload_3 dX12_trouble_68 ?_
            refine R_ialdE dX12_trouble_69 sh_530 rfl (by omega) (by decide) (t8 lq hlp).1 ?_
            refine R_iret rfl dX12_trouble_70 (by first | exact ⟨rfl, f2, _, rfl, Or.inr ⟨((u4.2 0 (by decide) (by decide) (by decide) (by decide) (by decide)).trans (a_up_self _ _ _ _)), i, l, i9, i8, rfl, rfl, hll, c11, by rw [eL]; show _ = (if _ then (if _ then _ else _) else _); rw [if_pos hx, if_pos c52, nI_clamp (n := lq) (by omega)]⟩⟩ | exact ⟨rfl, f2, _, rfl, Or.inr ⟨((u4.2 0 (by decide) (by decide) (by decide) (by decide) (by decide)).trans (a_up_self _ _ _ _)), i, l, i9, i8, rfl, rfl, hll, c11, by rw [eL]; show _ = (if _ then (if _ then _ else _) else _); rw [if_pos hx, if_neg c52, nI_clamp (n := lq) (by omega)]⟩⟩)
          · refine R_aload_0 dX12_trouble_55 ?_
            refine gfX12_96 rfl dX12_trouble_56 sh_504 (by first | exact hR.g (k := 37) (a := 531) (by decide) | exact (a_up_ne (by omega)).trans (hR.g (k := 37) (a := 531) (by decide)) | exact (a_up_ne (by omega)).trans ((a_up_ne (by omega)).trans (hR.g (k := 37) (a := 531) (by decide))) | exact (a_up_ne (by omega)).trans ((a_up_ne (by omega)).trans ((a_up_ne (by omega)).trans (hR.g (k := 37) (a := 531) (by decide)))) | exact (a_up_ne (by omega)).trans ((a_up_ne (by omega)).trans ((a_up_ne (by omega)).trans ((a_up_ne (by omega)).trans (hR.g (k := 37) (a := 531) (by decide))))) | exact (a_up_ne (by omega)).trans ((a_up_ne (by omega)).trans ((a_up_ne (by omega)).trans ((a_up_ne (by omega)).trans ((a_up_ne (by omega)).trans (hR.g (k := 37) (a := 531) (by decide)))))) | exact (a_up_ne (by omega)).trans ((a_up_ne (by omega)).trans ((a_up_ne (by omega)).trans ((a_up_ne (by omega)).trans ((a_up_ne (by omega)).trans ((a_up_ne (by omega)).trans (hR.g (k := 37) (a := 531) (by decide)))))))) ?_
            refine R_iload_3 dX12_trouble_59 ?_
            refine R_ialdE dX12_trouble_60 sh_531 rfl (by omega) (by decide) (t8 lq hlp).2 ?_
            refine R_goto 70 dX12_trouble_61 (by decide) ?_
            refine R_iret rfl dX12_trouble_70 (by first | exact ⟨rfl, f2, _, rfl, Or.inr ⟨((u4.2 0 (by decide) (by decide) (by decide) (by decide) (by decide)).trans (a_up_self _ _ _ _)), i, l, i9, i8, rfl, rfl, hll, c11, by rw [eL]; show _ = (if _ then (if _ then _ else _) else _); rw [if_pos hx, if_pos c52, nI_clamp (n := lq) (by omega)]⟩⟩ | exact ⟨rfl, f2, _, rfl, Or.inr ⟨((u4.2 0 (by decide) (by decide) (by decide) (by decide) (by decide)).trans (a_up_self _ _ _ _)), i, l, i9, i8, rfl, rfl, hll, c11, by rw [eL]; show _ = (if _ then (if _ then _ else _) else _); rw [if_pos hx, if_neg c52, nI_clamp (n := lq) (by omega)]⟩⟩)
        · refine R_iconst (v := -1) dX12_trouble_48 (by decide) ?_
          refine R_iret rfl dX12_trouble_49 ⟨rfl, f2, _, rfl, Or.inr ⟨((u4.2 0 (by decide) (by decide) (by decide) (by decide) (by decide)).trans (a_up_self _ _ _ _)), i, l, i9, i8, rfl, rfl, hll, c11, by rw [eL]; show _ = (if _ then (if _ then _ else _) else _); rw [if_neg c45]⟩⟩
  · refine R_if_eq 18 dX12_trouble_7 (by decide) (fun c7 => ?_) (fun c7 => absurd rfl c7)
    refine R_iconst (v := 1) dX12_trouble_18 (by decide) ?_
    refine R_callV_e (T := mX12_trouble) (T' := mX12_fails) (As := [_]) (ci := 12) okX12_fails mlX12_128 rfl (by decide) sh_504 (ct_mfails _) rfl (by decide) (by decide) (Nat.le_of_ble_eq_true rfl) dX12_trouble_19 ?_
    refine R_if_eq 27 dX12_trouble_22 (by decide) (fun c22 => absurd c22 (by decide)) (fun c22 => ?_)
    refine R_iconst (v := 0) dX12_trouble_25 (by decide) ?_
    refine R_iret rfl dX12_trouble_26 ⟨rfl, FrS.f (Or.inl rfl), _, rfl, Or.inl ⟨a_up_self _ _ _ _, fun z => hlt z.1⟩⟩

