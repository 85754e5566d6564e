/-! ===== MergePostModel: words, numbers, rows laid ===== -/
/-- where a word of at most m signs ends -/
def wdE (L : List Int32) : Nat → Nat → Nat
  | 0, p => p
  | m + 1, p => if p < L.length ∧ ¬ L.getD p 0 = 44 then wdE L m (p + 1) else p
theorem wdE_t {L : List Int32} {m p : Nat} (h : p < L.length ∧ ¬ L.getD p 0 = 44) : wdE L (m + 1) p = wdE L m (p + 1) := if_pos h
theorem wdE_f {L : List Int32} {m p : Nat} (h : ¬ (p < L.length ∧ ¬ L.getD p 0 = 44)) : wdE L (m + 1) p = p := if_neg h
theorem wdE_le {L : List Int32} : ∀ m p, p ≤ wdE L m p ∧ wdE L m p ≤ p + m ∧ (p ≤ L.length → wdE L m p ≤ L.length)
  | 0, p => ⟨Nat.le_refl _, Nat.le_refl _, fun h => h⟩
  | m + 1, p => by
    by_cases h : p < L.length ∧ ¬ L.getD p 0 = 44
    · rw [wdE_t h]; have := wdE_le (L := L) m (p + 1); exact ⟨by omega, by omega, fun _ => this.2.2 (by omega)⟩
    · rw [wdE_f h]; exact ⟨Nat.le_refl _, by omega, fun h => h⟩
/-- the signs from p to e -/
def sub (L : List Int32) (p e : Nat) : List Int32 := (L.drop p).take (e - p)
theorem sub_nil {L : List Int32} {p : Nat} : sub L p p = [] := by unfold sub; rw [Nat.sub_self]; rfl
theorem sub_s {L : List Int32} {p e : Nat} (h : p ≤ e) (he : e < L.length) : sub L p (e + 1) = sub L p e ++ [L.getD e 0] := by
  unfold sub
  rw [show e + 1 - p = (e - p) + 1 by omega, List.take_succ, List.getElem?_drop, show p + (e - p) = e by omega, List.getD_eq_getElem?_getD, List.getElem?_eq_getElem he]
  rfl
theorem sub_c {L : List Int32} {p e : Nat} (h : p < e) (he : e ≤ L.length) : sub L p e = L.getD p 0 :: sub L (p + 1) e := by
  unfold sub
  rw [List.drop_eq_getElem_cons (by omega), show e - p = (e - (p + 1)) + 1 by omega, List.take_succ_cons, List.getD_eq_getElem?_getD, List.getElem?_eq_getElem (by omega)]
  rfl
theorem sub_len {L : List Int32} {p e : Nat} (h : p ≤ e) (he : e ≤ L.length) : (sub L p e).length = e - p := by
  unfold sub
  rw [List.length_take, List.length_drop]
  omega
theorem sub_mem {L : List Int32} {p e : Nat} {c : Int32} (h : c ∈ sub L p e) : c ∈ L := List.mem_of_mem_drop (List.mem_of_mem_take h)
theorem tWord_e {L : List Int32} : ∀ m p acc, p ≤ L.length → tWord L m p acc = (wdE L m p, acc ++ sub L p (wdE L m p))
  | 0, p, acc, _ => by show (p, acc) = (p, acc ++ sub L p p); rw [sub_nil, List.append_nil]
  | m + 1, p, acc, hp => by
    by_cases h : p < L.length ∧ ¬ L.getD p 0 = 44
    · have e : tWord L (m + 1) p acc = tWord L m (p + 1) (acc ++ [L.getD p 0]) := if_pos h
      have h1 := wdE_le (L := L) m (p + 1)
      have hs := sub_c (L := L) (p := p) (e := wdE L m (p + 1)) (by omega) (h1.2.2 (by omega))
      rw [e, tWord_e m (p + 1) _ (by omega), wdE_t h, hs, List.append_assoc]
      rfl
    · have e : tWord L (m + 1) p acc = (p, acc) := if_neg h
      rw [e, wdE_f h, sub_nil, List.append_nil]
/-- what the model tells of a word from p on -/
def wdV (L : List Int32) (p : Nat) : Int32 := if wdE L 12 p = p ∨ ¬ cm L (wdE L 12 p) then -1 - nI (wdE L 12 p) else nI (wdE L 12 p)
set_option maxHeartbeats 4000000 in
theorem we_loop {mc ms kc ks : Nat} {V : aV} {L : List Int32} {p : Nat} (hR : MR V) (hl : ML V L) (hp : p ≤ L.length) {Q : Option Value → aS → aV → Prop} {QX : String → aS → aV → Prop} (hQ : Q (some (.int (wdV L p))) Sh V) : ∀ (m j : Nat), j + m = 12 → wdE L 12 p = wdE L m (p + j) → R mX12_wordEnd 0 mc ms Q QX kc ks 2 [some (.ref 504), some (.int (nI p)), some (.int (nI (p + j)))] [] Sh V := by
  have hl1 := hl.1
  have hl3 := hl.2.2.1
  have fin : ∀ j, j ≤ 12 → wdE L 12 p = p + j → ¬ (p + j < L.length ∧ ¬ L.getD (p + j) 0 = 44) → R mX12_wordEnd 0 mc ms Q QX kc ks 39 [some (.ref 504), some (.int (nI p)), some (.int (nI (p + j)))] [] Sh V := by
    intro j hj he hn
    refine R_iload_2 dX12_wordEnd_39 ?_
    refine R_iload_1 dX12_wordEnd_40 ?_
    refine R_icmp_eq 52 dX12_wordEnd_41 (by decide) (fun c41 => ?_) (fun c41 => ?_)
    · have e9 : wdV L p = -1 - nI (p + j) := by
        unfold wdV
        rw [he]
        refine if_pos (by first | exact Or.inl ((nI_eq (by omega) (by omega)).1 c41) | exact Or.inr (fun z => by have := (nI_eq (by omega) (by omega)).1 c49; omega))
      refine R_iconst (v := -1) dX12_wordEnd_52 (by decide) ?_
      refine R_iload_2 dX12_wordEnd_53 ?_
      refine R_isub dX12_wordEnd_54 ?_
      refine R_goto 59 dX12_wordEnd_55 (by decide) ?_
      refine R_iret rfl dX12_wordEnd_59 (by rw [e9] at hQ; exact hQ)
    · refine R_iload_2 dX12_wordEnd_44 ?_
      refine R_aload_0 dX12_wordEnd_45 ?_
      refine gfX12_125 rfl dX12_wordEnd_46 sh_504 (by first | assumption | exact a_up_self _ _ _ _ | exact (a_up_ne (by omega)).trans (by assumption) | exact (a_up_ne (by omega)).trans (a_up_self _ _ _ _) | exact (a_up_ne (by omega)).trans ((a_up_ne (by omega)).trans (by assumption)) | exact (a_up_ne (by omega)).trans ((a_up_ne (by omega)).trans (a_up_self _ _ _ _)) | exact (a_up_ne (by omega)).trans ((a_up_ne (by omega)).trans ((a_up_ne (by omega)).trans (by assumption))) | exact (a_up_ne (by omega)).trans ((a_up_ne (by omega)).trans ((a_up_ne (by omega)).trans (a_up_self _ _ _ _))) | exact (a_up_ne (by omega)).trans ((a_up_ne (by omega)).trans ((a_up_ne (by omega)).trans ((a_up_ne (by omega)).trans (by assumption)))) | exact (a_up_ne (by omega)).trans ((a_up_ne (by omega)).trans ((a_up_ne (by omega)).trans ((a_up_ne (by omega)).trans (a_up_self _ _ _ _)))) | exact (a_up_ne (by omega)).trans ((a_up_ne (by omega)).trans ((a_up_ne (by omega)).trans ((a_up_ne (by omega)).trans ((a_up_ne (by omega)).trans (by assumption))))) | exact (a_up_ne (by omega)).trans ((a_up_ne (by omega)).trans ((a_up_ne (by omega)).trans ((a_up_ne (by omega)).trans ((a_up_ne (by omega)).trans (a_up_self _ _ _ _)))))) ?_
      refine R_icmp_ne 58 dX12_wordEnd_49 (by decide) (fun c49 => ?_) (fun c49 => ?_)
      · have e9 : wdV L p = nI (p + j) := by
          unfold wdV
          rw [he]
          refine if_neg (fun z => z.elim (fun z => c41 (by rw [z])) (fun z => z ?_))
          by_cases q : p + j < L.length
          · exact ⟨q, Classical.byContradiction fun y => hn ⟨q, y⟩⟩
          · exact absurd (show nI (p + j) = nI L.length from by rw [show p + j = L.length by have := (wdE_le (L := L) 12 p).2.2; omega]) c49
        refine R_iload_2 dX12_wordEnd_58 ?_
        refine R_iret rfl dX12_wordEnd_59 (by rw [e9] at hQ; exact hQ)
      · have e9 : wdV L p = -1 - nI (p + j) := by
          unfold wdV
          rw [he]
          refine if_pos (by first | exact Or.inl ((nI_eq (by omega) (by omega)).1 c41) | exact Or.inr (fun z => by have := (nI_eq (by omega) (by omega)).1 c49; omega))
        refine R_iconst (v := -1) dX12_wordEnd_52 (by decide) ?_
        refine R_iload_2 dX12_wordEnd_53 ?_
        refine R_isub dX12_wordEnd_54 ?_
        refine R_goto 59 dX12_wordEnd_55 (by decide) ?_
        refine R_iret rfl dX12_wordEnd_59 (by rw [e9] at hQ; exact hQ)
  intro m
  induction m with
  | zero =>
    intro j hj he
    have hj' : j = 12 := by omega
    subst hj'
    have he' : wdE L 12 p = p + 12 := he
    refine R_iload_2 dX12_wordEnd_2 ?_
    refine R_aload_0 dX12_wordEnd_3 ?_
    refine gfX12_125 rfl dX12_wordEnd_4 sh_504 (by first | assumption | exact a_up_self _ _ _ _ | exact (a_up_ne (by omega)).trans (by assumption) | exact (a_up_ne (by omega)).trans (a_up_self _ _ _ _) | exact (a_up_ne (by omega)).trans ((a_up_ne (by omega)).trans (by assumption)) | exact (a_up_ne (by omega)).trans ((a_up_ne (by omega)).trans (a_up_self _ _ _ _)) | exact (a_up_ne (by omega)).trans ((a_up_ne (by omega)).trans ((a_up_ne (by omega)).trans (by assumption))) | exact (a_up_ne (by omega)).trans ((a_up_ne (by omega)).trans ((a_up_ne (by omega)).trans (a_up_self _ _ _ _))) | exact (a_up_ne (by omega)).trans ((a_up_ne (by omega)).trans ((a_up_ne (by omega)).trans ((a_up_ne (by omega)).trans (by assumption)))) | exact (a_up_ne (by omega)).trans ((a_up_ne (by omega)).trans ((a_up_ne (by omega)).trans ((a_up_ne (by omega)).trans (a_up_self _ _ _ _)))) | exact (a_up_ne (by omega)).trans ((a_up_ne (by omega)).trans ((a_up_ne (by omega)).trans ((a_up_ne (by omega)).trans ((a_up_ne (by omega)).trans (by assumption))))) | exact (a_up_ne (by omega)).trans ((a_up_ne (by omega)).trans ((a_up_ne (by omega)).trans ((a_up_ne (by omega)).trans ((a_up_ne (by omega)).trans (a_up_self _ _ _ _)))))) ?_
    refine R_icmp_ge 39 dX12_wordEnd_7 (by decide) (fun c7 => ?_) (fun c7 => ?_)
    · exact fin 12 (by omega) he' (by first | exact fun z => absurd c7 (nI_ge z.1 (by omega)) | exact fun z => z.2 c18)
    · have hlt : p + 12 < L.length := Nat.lt_of_not_le fun z => c7 (nI_le z (by omega))
      have hch := hl.2.1 (p + 12) hlt
      refine R_aload_0 dX12_wordEnd_10 ?_
      refine gfX12_7 rfl dX12_wordEnd_11 sh_504 (by first | exact hR.g (k := 1) (a := 505) (by decide) | exact (a_up_ne (by omega)).trans (hR.g (k := 1) (a := 505) (by decide)) | exact (a_up_ne (by omega)).trans ((a_up_ne (by omega)).trans (hR.g (k := 1) (a := 505) (by decide))) | exact (a_up_ne (by omega)).trans ((a_up_ne (by omega)).trans ((a_up_ne (by omega)).trans (hR.g (k := 1) (a := 505) (by decide)))) | exact (a_up_ne (by omega)).trans ((a_up_ne (by omega)).trans ((a_up_ne (by omega)).trans ((a_up_ne (by omega)).trans (hR.g (k := 1) (a := 505) (by decide))))) | exact (a_up_ne (by omega)).trans ((a_up_ne (by omega)).trans ((a_up_ne (by omega)).trans ((a_up_ne (by omega)).trans ((a_up_ne (by omega)).trans (hR.g (k := 1) (a := 505) (by decide)))))) | exact (a_up_ne (by omega)).trans ((a_up_ne (by omega)).trans ((a_up_ne (by omega)).trans ((a_up_ne (by omega)).trans ((a_up_ne (by omega)).trans ((a_up_ne (by omega)).trans (hR.g (k := 1) (a := 505) (by decide)))))))) ?_
      refine R_iload_2 dX12_wordEnd_14 ?_
      refine R_ialdE dX12_wordEnd_15 sh_505 rfl (by omega) (by decide) hch ?_
      refine R_bipush (v := 44) dX12_wordEnd_16 (by decide) ?_
      refine R_icmp_eq 39 dX12_wordEnd_18 (by decide) (fun c18 => ?_) (fun c18 => ?_)
      · exact fin 12 (by omega) he' (by first | exact fun z => absurd c7 (nI_ge z.1 (by omega)) | exact fun z => z.2 c18)
      · refine R_iload_2 dX12_wordEnd_21 ?_
        refine R_iload_1 dX12_wordEnd_22 ?_
        refine R_bipush (v := 12) dX12_wordEnd_23 (by decide) ?_
        refine R_iadd dX12_wordEnd_25 ?_
        rw [show nI p + 12 = nI (p + 12) from nI_add p 12]
        refine R_icmp_ne 33 dX12_wordEnd_26 (by decide) (fun c26 => absurd rfl c26) (fun c26 => ?_)
        have e9 : wdV L p = -1 - nI (p + 12) := by unfold wdV; rw [he']; exact if_pos (Or.inr (fun z => c18 z.2))
        refine R_iconst (v := -1) dX12_wordEnd_29 (by decide) ?_
        refine R_iload_2 dX12_wordEnd_30 ?_
        refine R_isub dX12_wordEnd_31 ?_
        refine R_iret rfl dX12_wordEnd_32 (by rw [e9] at hQ; exact hQ)
  | succ m ih =>
    intro j hj he
    refine R_iload_2 dX12_wordEnd_2 ?_
    refine R_aload_0 dX12_wordEnd_3 ?_
    refine gfX12_125 rfl dX12_wordEnd_4 sh_504 (by first | assumption | exact a_up_self _ _ _ _ | exact (a_up_ne (by omega)).trans (by assumption) | exact (a_up_ne (by omega)).trans (a_up_self _ _ _ _) | exact (a_up_ne (by omega)).trans ((a_up_ne (by omega)).trans (by assumption)) | exact (a_up_ne (by omega)).trans ((a_up_ne (by omega)).trans (a_up_self _ _ _ _)) | exact (a_up_ne (by omega)).trans ((a_up_ne (by omega)).trans ((a_up_ne (by omega)).trans (by assumption))) | exact (a_up_ne (by omega)).trans ((a_up_ne (by omega)).trans ((a_up_ne (by omega)).trans (a_up_self _ _ _ _))) | exact (a_up_ne (by omega)).trans ((a_up_ne (by omega)).trans ((a_up_ne (by omega)).trans ((a_up_ne (by omega)).trans (by assumption)))) | exact (a_up_ne (by omega)).trans ((a_up_ne (by omega)).trans ((a_up_ne (by omega)).trans ((a_up_ne (by omega)).trans (a_up_self _ _ _ _)))) | exact (a_up_ne (by omega)).trans ((a_up_ne (by omega)).trans ((a_up_ne (by omega)).trans ((a_up_ne (by omega)).trans ((a_up_ne (by omega)).trans (by assumption))))) | exact (a_up_ne (by omega)).trans ((a_up_ne (by omega)).trans ((a_up_ne (by omega)).trans ((a_up_ne (by omega)).trans ((a_up_ne (by omega)).trans (a_up_self _ _ _ _)))))) ?_
    refine R_icmp_ge 39 dX12_wordEnd_7 (by decide) (fun c7 => ?_) (fun c7 => ?_)
    · have hn : ¬ (p + j < L.length ∧ ¬ L.getD (p + j) 0 = 44) := (by first | exact fun z => absurd c7 (nI_ge z.1 (by omega)) | exact fun z => z.2 c18)
      exact fin j (by omega) (he.trans (wdE_f hn)) hn
    · have hlt : p + j < L.length := Nat.lt_of_not_le fun z => c7 (nI_le z (by omega))
      have hch := hl.2.1 (p + j) hlt
      refine R_aload_0 dX12_wordEnd_10 ?_
      refine gfX12_7 rfl dX12_wordEnd_11 sh_504 (by first | exact hR.g (k := 1) (a := 505) (by decide) | exact (a_up_ne (by omega)).trans (hR.g (k := 1) (a := 505) (by decide)) | exact (a_up_ne (by omega)).trans ((a_up_ne (by omega)).trans (hR.g (k := 1) (a := 505) (by decide))) | exact (a_up_ne (by omega)).trans ((a_up_ne (by omega)).trans ((a_up_ne (by omega)).trans (hR.g (k := 1) (a := 505) (by decide)))) | exact (a_up_ne (by omega)).trans ((a_up_ne (by omega)).trans ((a_up_ne (by omega)).trans ((a_up_ne (by omega)).trans (hR.g (k := 1) (a := 505) (by decide))))) | exact (a_up_ne (by omega)).trans ((a_up_ne (by omega)).trans ((a_up_ne (by omega)).trans ((a_up_ne (by omega)).trans ((a_up_ne (by omega)).trans (hR.g (k := 1) (a := 505) (by decide)))))) | exact (a_up_ne (by omega)).trans ((a_up_ne (by omega)).trans ((a_up_ne (by omega)).trans ((a_up_ne (by omega)).trans ((a_up_ne (by omega)).trans ((a_up_ne (by omega)).trans (hR.g (k := 1) (a := 505) (by decide)))))))) ?_
      refine R_iload_2 dX12_wordEnd_14 ?_
      refine R_ialdE dX12_wordEnd_15 sh_505 rfl (by omega) (by decide) hch ?_
      refine R_bipush (v := 44) dX12_wordEnd_16 (by decide) ?_
      refine R_icmp_eq 39 dX12_wordEnd_18 (by decide) (fun c18 => ?_) (fun c18 => ?_)
      · have hn : ¬ (p + j < L.length ∧ ¬ L.getD (p + j) 0 = 44) := (by first | exact fun z => absurd c7 (nI_ge z.1 (by omega)) | exact fun z => z.2 c18)
        exact fin j (by omega) (he.trans (wdE_f hn)) hn
      · refine R_iload_2 dX12_wordEnd_21 ?_
        refine R_iload_1 dX12_wordEnd_22 ?_
        refine R_bipush (v := 12) dX12_wordEnd_23 (by decide) ?_
        refine R_iadd dX12_wordEnd_25 ?_
        rw [show nI p + 12 = nI (p + 12) from nI_add p 12]
        refine R_icmp_ne 33 dX12_wordEnd_26 (by decide) (fun c26 => ?_) (fun c26 => absurd c26 (fun z => by have := (nI_eq (by omega) (by omega)).1 z; omega))
        refine R_iinc_2 rfl (by decide) dX12_wordEnd_33 rfl ?_
        rw [show nI (p + j) + Int32.ofInt 1 = nI (p + j + 1) from nI_1 _]
        refine R_goto 2 dX12_wordEnd_36 (by decide) ?_
        exact ih (j + 1) (by omega) (he.trans (wdE_t ⟨hlt, c18⟩))
set_option maxHeartbeats 4000000 in
theorem ct_wordEnd {V : aV} {L : List Int32} (hR : MR V) (hl : ML V L) {p : Nat} (hp : p ≤ L.length) : CT mX12_wordEnd 0 0 0 [.ref 504, .int (nI p)] Sh V (aRet (some (.int (wdV L p))) Sh V) aNo := by
  refine CT_of (by decide +kernel) (Nat.le_of_ble_eq_true rfl) ?_
  show R _ _ _ _ _ _ _ _ 0 [some (.ref 504), some (.int (nI p)), none] [] _ _
  refine R_iload_1 dX12_wordEnd_0 ?_
  refine R_istore_2 rfl (by decide) dX12_wordEnd_1 ?_
  exact we_loop hR hl hp ⟨rfl, rfl, rfl⟩ 12 0 rfl rfl

def dgV (L : List Int32) (m p : Nat) : Int32 := if dgE L 57 m p = p then -1 - nI p else nI (dgE L 57 m p)
set_option maxHeartbeats 4000000 in
theorem de_loop {mc ms kc ks : Nat} {V : aV} {L : List Int32} {p mo : Nat} (hR : MR V) (hl : ML V L) (hp : p ≤ 500) (hm : mo ≤ 9) {Q : Option Value → aS → aV → Prop} {QX : String → aS → aV → Prop} (hQ : Q (some (.int (dgV L mo p))) Sh V) : ∀ (m j : Nat), j + m = mo → dgE L 57 mo p = dgE L 57 m (p + j) → R mX12_digitsEnd 1 mc ms Q QX kc ks 2 [some (.ref 504), some (.int (nI p)), some (.int (nI mo)), some (.int (nI (p + j)))] [] Sh V := by
  have fin : ∀ j, j ≤ mo → dgE L 57 mo p = p + j → R mX12_digitsEnd 1 mc ms Q QX kc ks 26 [some (.ref 504), some (.int (nI p)), some (.int (nI mo)), some (.int (nI (p + j)))] [] Sh V := by
    intro j hj he
    refine R_iload_3 dX12_digitsEnd_26 ?_
    refine R_iload_1 dX12_digitsEnd_27 ?_
    refine R_icmp_ne 37 dX12_digitsEnd_28 (by decide) (fun c28 => ?_) (fun c28 => ?_)
    · have e9 : dgV L mo p = nI (p + j) := by unfold dgV; rw [he]; exact if_neg (fun z => c28 (by rw [z]))
      refine R_iload_3 dX12_digitsEnd_37 ?_
      refine R_iret rfl dX12_digitsEnd_38 (by rw [e9] at hQ; exact hQ)
    · have hj0 : j = 0 := by have := (nI_eq (by omega) (by omega)).1 c28; omega
      subst hj0
      have e9 : dgV L mo p = -1 - nI (p + 0) := if_pos he
      refine R_iconst (v := -1) dX12_digitsEnd_31 (by decide) ?_
      refine R_iload_3 dX12_digitsEnd_32 ?_
      refine R_isub dX12_digitsEnd_33 ?_
      refine R_goto 38 dX12_digitsEnd_34 (by decide) ?_
      refine R_iret rfl dX12_digitsEnd_38 (by rw [e9] at hQ; exact hQ)
  intro m
  induction m with
  | zero =>
    intro j hj he
    have hj' : j = mo := by omega
    subst hj'
    have he' : dgE L 57 j p = p + j := he
    refine R_iload_3 dX12_digitsEnd_2 ?_
    refine R_iload_1 dX12_digitsEnd_3 ?_
    refine R_iload_2 dX12_digitsEnd_4 ?_
    refine R_iadd dX12_digitsEnd_5 ?_
    rw [show nI p + nI j = nI (p + j) from nI_add p j]
    refine R_icmp_ge 26 dX12_digitsEnd_6 (by decide) (fun c6 => ?_) (fun c6 => absurd (Int32.le_refl _) c6)
    exact fin j (Nat.le_refl _) he'
  | succ m ih =>
    intro j hj he
    refine R_iload_3 dX12_digitsEnd_2 ?_
    refine R_iload_1 dX12_digitsEnd_3 ?_
    refine R_iload_2 dX12_digitsEnd_4 ?_
    refine R_iadd dX12_digitsEnd_5 ?_
    rw [show nI p + nI mo = nI (p + mo) from nI_add p mo]
    refine R_icmp_ge 26 dX12_digitsEnd_6 (by decide) (fun c6 => absurd c6 (nI_ge (by omega) (by omega))) (fun c6 => ?_)
    refine R_aload_0 dX12_digitsEnd_9 ?_
    refine R_iload_3 dX12_digitsEnd_10 ?_
    refine R_callV_e (T := mX12_digitsEnd) (T' := mX12_signAt) (As := [_]) (ci := 12) okX12_signAt mlX12_132 rfl (by decide) sh_504 (ct_msignAt (p := p + j) hR hl (by omega)) rfl (by decide) (by decide) (Nat.le_of_ble_eq_true rfl) dX12_digitsEnd_11 ?_
    refine R_callS_e (T := mX12_digitsEnd) (T' := mX12_isDigit) (As := [_]) okX12_isDigit mlX12_142 rfl (ct_misDigit _) rfl (by decide) (by decide) (Nat.le_of_ble_eq_true rfl) dX12_digitsEnd_14 ?_
    refine R_if_eq 26 dX12_digitsEnd_17 (by decide) (fun c17 => ?_) (fun c17 => ?_)
    · exact fin j (by omega) (he.trans (dgE_f (fun z => bI_eq c17 (lm_dg.2 z))))
    · refine R_iinc_3 rfl (by decide) dX12_digitsEnd_20 rfl ?_
      rw [show nI (p + j) + Int32.ofInt 1 = nI (p + j + 1) from nI_1 _]
      refine R_goto 2 dX12_digitsEnd_23 (by decide) ?_
      exact ih (j + 1) (by omega) (he.trans (dgE_t (lm_dg.1 (bI_ne c17))))
set_option maxHeartbeats 4000000 in
theorem ct_digitsEnd {V : aV} {L : List Int32} (hR : MR V) (hl : ML V L) {p mo : Nat} (hp : p ≤ 500) (hm : mo ≤ 9) : CT mX12_digitsEnd 1 0 0 [.ref 504, .int (nI p), .int (nI mo)] Sh V (aRet (some (.int (dgV L mo p))) Sh V) aNo := by
  refine CT_of (by decide +kernel) (Nat.le_of_ble_eq_true rfl) ?_
  show R _ _ _ _ _ _ _ _ 0 [some (.ref 504), some (.int (nI p)), some (.int (nI mo)), none] [] _ _
  refine R_iload_1 dX12_digitsEnd_0 ?_
  refine R_istore_3 rfl (by decide) dX12_digitsEnd_1 ?_
  exact de_loop hR hl hp hm ⟨rfl, rfl, rfl⟩ mo 0 (by omega) rfl

theorem nm_s (a c : Int32) : 10 * a + c - 48 = a * 10 + (c - 48) := by rw [Int32.mul_comm, Int32.sub_eq_add_neg, Int32.sub_eq_add_neg, Int32.add_assoc]
set_option maxHeartbeats 4000000 in
theorem nu_loop {mc ms kc ks : Nat} {V : aV} {L : List Int32} {p e : Nat} (hR : MR V) (hl : ML V L) (he : e ≤ L.length) {Q : Option Value → aS → aV → Prop} {QX : String → aS → aV → Prop} : ∀ (m j : Nat) (a : Int32), j + m = e → Q (some (.int (nmb L m j a))) Sh V → R mX12_number 0 mc ms Q QX kc ks 5 [some (.ref 504), some (.int (nI p)), some (.int (nI e)), some (.int a), some (.int (nI j))] [] Sh V := by
  have hl3 := hl.2.2.1
  intro m
  induction m with
  | zero =>
    intro j a hj hQ
    have hj' : j = e := by omega
    subst hj'
    refine R_iload_4 dX12_number_5 ?_
    refine R_iload_2 dX12_number_7 ?_
    refine R_icmp_ge 33 dX12_number_8 (by decide) (fun c8 => ?_) (fun c8 => absurd (Int32.le_refl _) c8)
    refine R_iload_3 dX12_number_33 ?_
    refine R_iret rfl dX12_number_34 hQ
  | succ m ih =>
    intro j a hj hQ
    have hch := hl.2.1 j (by omega)
    refine R_iload_4 dX12_number_5 ?_
    refine R_iload_2 dX12_number_7 ?_
    refine R_icmp_ge 33 dX12_number_8 (by decide) (fun c8 => absurd c8 (nI_ge (by omega) (by omega))) (fun c8 => ?_)
    refine R_bipush (v := 10) dX12_number_11 (by decide) ?_
    refine R_iload_3 dX12_number_13 ?_
    refine R_imul dX12_number_14 ?_
    refine R_aload_0 dX12_number_15 ?_
    refine gfX12_7 rfl dX12_number_16 sh_504 (by first | exact hR.g (k := 1) (a := 505) (by decide) | exact (a_up_ne (by omega)).trans (hR.g (k := 1) (a := 505) (by decide)) | exact (a_up_ne (by omega)).trans ((a_up_ne (by omega)).trans (hR.g (k := 1) (a := 505) (by decide))) | exact (a_up_ne (by omega)).trans ((a_up_ne (by omega)).trans ((a_up_ne (by omega)).trans (hR.g (k := 1) (a := 505) (by decide)))) | exact (a_up_ne (by omega)).trans ((a_up_ne (by omega)).trans ((a_up_ne (by omega)).trans ((a_up_ne (by omega)).trans (hR.g (k := 1) (a := 505) (by decide))))) | exact (a_up_ne (by omega)).trans ((a_up_ne (by omega)).trans ((a_up_ne (by omega)).trans ((a_up_ne (by omega)).trans ((a_up_ne (by omega)).trans (hR.g (k := 1) (a := 505) (by decide)))))) | exact (a_up_ne (by omega)).trans ((a_up_ne (by omega)).trans ((a_up_ne (by omega)).trans ((a_up_ne (by omega)).trans ((a_up_ne (by omega)).trans ((a_up_ne (by omega)).trans (hR.g (k := 1) (a := 505) (by decide)))))))) ?_
    refine R_iload_4 dX12_number_19 ?_
    refine R_ialdE dX12_number_21 sh_505 rfl (by omega) (by decide) hch ?_
    refine R_iadd dX12_number_22 ?_
    refine R_bipush (v := 48) dX12_number_23 (by decide) ?_
    refine R_isub dX12_number_25 ?_
    rw [nm_s]
    refine R_istore_3 rfl (by decide) dX12_number_26 ?_
    refine R_iinc_4 rfl (by decide) dX12_number_27 rfl ?_
    rw [show nI j + Int32.ofInt 1 = nI (j + 1) from nI_1 _]
    refine R_goto 5 dX12_number_30 (by decide) ?_
    exact ih (j + 1) _ (by omega) hQ
set_option maxHeartbeats 4000000 in
theorem ct_number {V : aV} {L : List Int32} (hR : MR V) (hl : ML V L) {p e : Nat} (hp : p ≤ e) (he : e ≤ L.length) : CT mX12_number 0 0 0 [.ref 504, .int (nI p), .int (nI e)] Sh V (aRet (some (.int (nmb L (e - p) p 0))) Sh V) aNo := by
  refine CT_of (by decide +kernel) (Nat.le_of_ble_eq_true rfl) ?_
  show R _ _ _ _ _ _ _ _ 0 [some (.ref 504), some (.int (nI p)), some (.int (nI e)), none, none] [] _ _
  refine R_iconst (v := 0) dX12_number_0 (by decide) ?_
  refine R_istore_3 rfl (by decide) dX12_number_1 ?_
  refine R_iload_1 dX12_number_2 ?_
  refine R_istore_4 rfl (by decide) dX12_number_3 ?_
  exact nu_loop hR hl he (e - p) p 0 (by omega) ⟨rfl, rfl, rfl⟩

/-- a sign as it is laid -/
noncomputable def lyF (b c : Int32) : Option Int32 := if b = 0 then some c else clS c
/-- while a row is laid -/
def LYI (V0 V : aV) (a t : Nat) (D : List Int32) : Prop := (∀ i, i < D.length → V a (12 * t + i) = .int (D.getD i 0)) ∧ (∀ q, (q < 12 * t ∨ 12 * t + 12 ≤ q) → V a q = V0 a q) ∧ ∀ b, b ≠ a → V b = V0 b
theorem LYI.s {V0 V : aV} {a t : Nat} {D : List Int32} {c : Int32} (h : LYI V0 V a t D) (hd : D.length < 12) : LYI V0 (a_up V a (12 * t + D.length) (.int c)) a t (D ++ [c]) := by
  obtain ⟨h1, h2, h3⟩ := h
  refine ⟨fun i hi => ?_, fun q hq => (a_up_ne (Or.inr (by omega))).trans (h2 q hq), fun b hb => (a_up_row hb).trans (h3 b hb)⟩
  rw [List.length_append] at hi
  by_cases q : i = D.length
  · subst q
    rw [a_up_self, List.getD_eq_getElem?_getD, List.getElem?_append_right (Nat.le_refl _), Nat.sub_self]
    rfl
  · have hi2 : i < D.length := by simp at hi; omega
    rw [a_up_ne (Or.inr (by omega)), h1 i hi2, List.getD_eq_getElem?_getD, List.getD_eq_getElem?_getD, List.getElem?_append_left hi2]
theorem mcl_n {c : Int32} (h : okC c) : (clS c = none ∧ mcl c = -1) ∨ (∃ x, clS c = some x ∧ mcl c = x ∧ ¬ x = -1 ∧ okC x) := by
  cases e : clS c with
  | none => exact Or.inl ⟨rfl, by unfold mcl; rw [e]⟩
  | some x =>
    refine Or.inr ⟨x, rfl, by unfold mcl; rw [e], ?_⟩
    have hx : okC x := by
      unfold clS at e
      split at e
      · rename_i q
        have e2 := Option.some.inj e
        rw [← e2, ← cl_add]
        have h1 : (65 : Int) ≤ c.toInt := Int32.le_iff_toInt_le.1 q.1
        have h2 : c.toInt ≤ (90 : Int) := Int32.le_iff_toInt_le.1 q.2
        have e3 : (c + 32).toInt = c.toInt + 32 := by
          rw [Int32.toInt_add]
          show Int.bmod (c.toInt + 32) (2 ^ 32) = _
          rw [Int.bmod_eq_of_le (by omega) (by omega)]
        constructor <;> omega
      · split at e
        · have e2 := Option.some.inj e
          rw [← e2]; exact h
        · cases e
    exact ⟨fun z => by rw [z] at hx; exact absurd hx.1 (by decide), hx⟩
theorem okC_m1 {c : Int32} (h : okC c) : ¬ c = -1 := fun z => by rw [z] at h; exact absurd h.1 (by decide)
set_option maxHeartbeats 4000000 in
theorem ly_loop {mc ms kc ks : Nat} {V0 : aV} {L : List Int32} {a t p e : Nat} {b : Int32} (hR0 : MR V0) (hl0 : ML V0 L) (ha : Sh.1 a = (14, 144)) (h4 : a ≠ 504) (h5 : a ≠ 505) (ht : t < 12) (he : e ≤ L.length) (hpe : p ≤ e) (hp12 : e ≤ p + 12) {Q : Option Value → aS → aV → Prop} {QX : String → aS → aV → Prop} (hQ : ∀ V', LYI V0 V' a t ((sub L p e).filterMap (lyF b)) → Q (some (.int (nI ((sub L p e).filterMap (lyF b)).length))) Sh V') : ∀ (m j : Nat) (V : aV), j + m = e → p ≤ j → LYI V0 V a t ((sub L p j).filterMap (lyF b)) → R mX12_lay 2 mc ms Q QX kc ks 6 [some (.ref 504), some (.ref a), some (.int (nI t)), some (.int (nI p)), some (.int (nI e)), some (.int b), some (.int (nI ((sub L p j).filterMap (lyF b)).length)), some (.int (nI j)), none] [] Sh V := by
  have hl3 := hl0.2.2.1
  intro m
  induction m with
  | zero =>
    intro j V hj hpj hD
    have hj' : j = e := by omega
    subst hj'
    refine R_iload_7 dX12_lay_6 ?_
    refine R_iload_4 dX12_lay_8 ?_
    refine R_icmp_ge 66 dX12_lay_10 (by decide) (fun c10 => ?_) (fun c10 => absurd (Int32.le_refl _) c10)
    refine R_iload_6 dX12_lay_66 ?_
    refine R_iret rfl dX12_lay_68 (hQ V hD)
  | succ m ih =>
    intro j V hj hpj hD
    have hR : MR V := hR0.fr (fun k _ => congrFun (hD.2.2 504 (Ne.symm h4)) k)
    have hjl : j < L.length := by omega
    have hch := (congrFun (hD.2.2 505 (Ne.symm h5)) j).trans (hl0.2.1 j hjl)
    have hok : okC (L.getD j 0) := hl0.2.2.2 _ (gd_mem (d := 0) hjl)
    have hs := sub_s hpj hjl
    have hlen : ((sub L p j).filterMap (lyF b)).length < 12 := Nat.lt_of_le_of_lt (List.length_filterMap_le _ _) (by rw [sub_len hpj (by omega)]; omega)
    refine R_iload_7 dX12_lay_6 ?_
    refine R_iload_4 dX12_lay_8 ?_
    refine R_icmp_ge 66 dX12_lay_10 (by decide) (fun c10 => absurd c10 (nI_ge (by omega) (by omega))) (fun c10 => ?_)
    refine R_iload_5 dX12_lay_13 ?_
    refine R_if_eq 31 dX12_lay_15 (by decide) (fun c15 => ?_) (fun c15 => ?_)
    · refine R_aload_0 dX12_lay_31 ?_
      refine gfX12_7 rfl dX12_lay_32 sh_504 (by first | exact hR.g (k := 1) (a := 505) (by decide) | exact (a_up_ne (by omega)).trans (hR.g (k := 1) (a := 505) (by decide)) | exact (a_up_ne (by omega)).trans ((a_up_ne (by omega)).trans (hR.g (k := 1) (a := 505) (by decide))) | exact (a_up_ne (by omega)).trans ((a_up_ne (by omega)).trans ((a_up_ne (by omega)).trans (hR.g (k := 1) (a := 505) (by decide)))) | exact (a_up_ne (by omega)).trans ((a_up_ne (by omega)).trans ((a_up_ne (by omega)).trans ((a_up_ne (by omega)).trans (hR.g (k := 1) (a := 505) (by decide))))) | exact (a_up_ne (by omega)).trans ((a_up_ne (by omega)).trans ((a_up_ne (by omega)).trans ((a_up_ne (by omega)).trans ((a_up_ne (by omega)).trans (hR.g (k := 1) (a := 505) (by decide)))))) | exact (a_up_ne (by omega)).trans ((a_up_ne (by omega)).trans ((a_up_ne (by omega)).trans ((a_up_ne (by omega)).trans ((a_up_ne (by omega)).trans ((a_up_ne (by omega)).trans (hR.g (k := 1) (a := 505) (by decide)))))))) ?_
      refine R_iload_7 dX12_lay_35 ?_
      refine R_ialdE dX12_lay_37 sh_505 rfl (by omega) (by decide) hch ?_
      first
        | (have hf : lyF b (L.getD j 0) = some (L.getD j 0) := if_pos c15
           refine R_istore_8 rfl (by decide) dX12_lay_38 ?_
           refine R_iload_8 dX12_lay_40 ?_
           refine R_iconst (v := -1) dX12_lay_42 (by decide) ?_
           refine R_icmp_eq 60 dX12_lay_43 (by decide) (fun c43 => absurd c43 (okC_m1 hok)) (fun c43 => ?_)
           refine R_aload_1 dX12_lay_46 ?_
           refine R_bipush (v := 12) dX12_lay_47 (by decide) ?_
           refine R_iload_2 dX12_lay_49 ?_
           refine R_imul dX12_lay_50 ?_
           refine R_iload_6 dX12_lay_51 ?_
           refine R_iadd dX12_lay_53 ?_
           refine R_iload_8 dX12_lay_54 ?_
           refine R_iastE dX12_lay_56 ha (ix1 12 t _) (by omega) (by decide) ?_
           refine R_iinc_6 rfl (by decide) dX12_lay_57 rfl ?_
           rw [show nI ((sub L p j).filterMap (lyF b)).length + Int32.ofInt 1 = nI (((sub L p j).filterMap (lyF b)).length + 1) from nI_1 _]
           refine R_drop_8 ?_
           refine R_iinc_7 rfl (by decide) dX12_lay_60 rfl ?_
           rw [show nI j + Int32.ofInt 1 = nI (j + 1) from nI_1 _]
           refine R_goto 6 dX12_lay_63 (by decide) ?_
           have ef : (sub L p (j + 1)).filterMap (lyF b) = (sub L p j).filterMap (lyF b) ++ [L.getD j 0] := by rw [hs, List.filterMap_append]; simp only [List.filterMap_cons, List.filterMap_nil, hf]
           have h9 := hD.s (c := L.getD j 0) hlen
           rw [← ef] at h9
           have h10 := ih (j + 1) _ (by omega) (by omega) h9
           have el : ((sub L p (j + 1)).filterMap (lyF b)).length = ((sub L p j).filterMap (lyF b)).length + 1 := by rw [ef, List.length_append]; rfl
           rw [el] at h10
           exact h10)
        | (rcases mcl_n hok with ⟨hf0, hm⟩ | ⟨x, hf0, hm, hx, hx2⟩
           · have hf : lyF b (L.getD j 0) = none := (if_neg c15).trans hf0
             rw [hm]
             refine R_istore_8 rfl (by decide) dX12_lay_38 ?_
             refine R_iload_8 dX12_lay_40 ?_
             refine R_iconst (v := -1) dX12_lay_42 (by decide) ?_
             refine R_icmp_eq 60 dX12_lay_43 (by decide) (fun c43 => ?_) (fun c43 => absurd rfl c43)
             refine R_drop_8 ?_
             refine R_iinc_7 rfl (by decide) dX12_lay_60 rfl ?_
             rw [show nI j + Int32.ofInt 1 = nI (j + 1) from nI_1 _]
             refine R_goto 6 dX12_lay_63 (by decide) ?_
             have ef : (sub L p (j + 1)).filterMap (lyF b) = (sub L p j).filterMap (lyF b) := by rw [hs, List.filterMap_append]; simp only [List.filterMap_cons, List.filterMap_nil, hf, List.append_nil]
             have h10 := ih (j + 1) V (by omega) (by omega) (by rw [ef]; exact hD)
             rw [ef] at h10
             exact h10
           · have hf : lyF b (L.getD j 0) = some x := (if_neg c15).trans hf0
             rw [hm]
             refine R_istore_8 rfl (by decide) dX12_lay_38 ?_
             refine R_iload_8 dX12_lay_40 ?_
             refine R_iconst (v := -1) dX12_lay_42 (by decide) ?_
             refine R_icmp_eq 60 dX12_lay_43 (by decide) (fun c43 => absurd c43 hx) (fun c43 => ?_)
             refine R_aload_1 dX12_lay_46 ?_
             refine R_bipush (v := 12) dX12_lay_47 (by decide) ?_
             refine R_iload_2 dX12_lay_49 ?_
             refine R_imul dX12_lay_50 ?_
             refine R_iload_6 dX12_lay_51 ?_
             refine R_iadd dX12_lay_53 ?_
             refine R_iload_8 dX12_lay_54 ?_
             refine R_iastE dX12_lay_56 ha (ix1 12 t _) (by omega) (by decide) ?_
             refine R_iinc_6 rfl (by decide) dX12_lay_57 rfl ?_
             rw [show nI ((sub L p j).filterMap (lyF b)).length + Int32.ofInt 1 = nI (((sub L p j).filterMap (lyF b)).length + 1) from nI_1 _]
             refine R_drop_8 ?_
             refine R_iinc_7 rfl (by decide) dX12_lay_60 rfl ?_
             rw [show nI j + Int32.ofInt 1 = nI (j + 1) from nI_1 _]
             refine R_goto 6 dX12_lay_63 (by decide) ?_
             have ef : (sub L p (j + 1)).filterMap (lyF b) = (sub L p j).filterMap (lyF b) ++ [x] := by rw [hs, List.filterMap_append]; simp only [List.filterMap_cons, List.filterMap_nil, hf]
             have h9 := hD.s (c := x) hlen
             rw [← ef] at h9
             have h10 := ih (j + 1) _ (by omega) (by omega) h9
             have el : ((sub L p (j + 1)).filterMap (lyF b)).length = ((sub L p j).filterMap (lyF b)).length + 1 := by rw [ef, List.length_append]; rfl
             rw [el] at h10
             exact h10)
    · refine R_aload_0 dX12_lay_18 ?_
      refine gfX12_7 rfl dX12_lay_19 sh_504 (by first | exact hR.g (k := 1) (a := 505) (by decide) | exact (a_up_ne (by omega)).trans (hR.g (k := 1) (a := 505) (by decide)) | exact (a_up_ne (by omega)).trans ((a_up_ne (by omega)).trans (hR.g (k := 1) (a := 505) (by decide))) | exact (a_up_ne (by omega)).trans ((a_up_ne (by omega)).trans ((a_up_ne (by omega)).trans (hR.g (k := 1) (a := 505) (by decide)))) | exact (a_up_ne (by omega)).trans ((a_up_ne (by omega)).trans ((a_up_ne (by omega)).trans ((a_up_ne (by omega)).trans (hR.g (k := 1) (a := 505) (by decide))))) | exact (a_up_ne (by omega)).trans ((a_up_ne (by omega)).trans ((a_up_ne (by omega)).trans ((a_up_ne (by omega)).trans ((a_up_ne (by omega)).trans (hR.g (k := 1) (a := 505) (by decide)))))) | exact (a_up_ne (by omega)).trans ((a_up_ne (by omega)).trans ((a_up_ne (by omega)).trans ((a_up_ne (by omega)).trans ((a_up_ne (by omega)).trans ((a_up_ne (by omega)).trans (hR.g (k := 1) (a := 505) (by decide)))))))) ?_
      refine R_iload_7 dX12_lay_22 ?_
      refine R_ialdE dX12_lay_24 sh_505 rfl (by omega) (by decide) hch ?_
      refine R_callS_e (T := mX12_lay) (T' := mX12_clean) (As := [_]) okX12_clean mlX12_149 rfl (ct_mclean _) rfl (by decide) (by decide) (Nat.le_of_ble_eq_true rfl) dX12_lay_25 ?_
      refine R_goto 38 dX12_lay_28 (by decide) ?_
      first
        | (have hf : lyF b (L.getD j 0) = some (L.getD j 0) := if_pos c15
           refine R_istore_8 rfl (by decide) dX12_lay_38 ?_
           refine R_iload_8 dX12_lay_40 ?_
           refine R_iconst (v := -1) dX12_lay_42 (by decide) ?_
           refine R_icmp_eq 60 dX12_lay_43 (by decide) (fun c43 => absurd c43 (okC_m1 hok)) (fun c43 => ?_)
           refine R_aload_1 dX12_lay_46 ?_
           refine R_bipush (v := 12) dX12_lay_47 (by decide) ?_
           refine R_iload_2 dX12_lay_49 ?_
           refine R_imul dX12_lay_50 ?_
           refine R_iload_6 dX12_lay_51 ?_
           refine R_iadd dX12_lay_53 ?_
           refine R_iload_8 dX12_lay_54 ?_
           refine R_iastE dX12_lay_56 ha (ix1 12 t _) (by omega) (by decide) ?_
           refine R_iinc_6 rfl (by decide) dX12_lay_57 rfl ?_
           rw [show nI ((sub L p j).filterMap (lyF b)).length + Int32.ofInt 1 = nI (((sub L p j).filterMap (lyF b)).length + 1) from nI_1 _]
           refine R_drop_8 ?_
           refine R_iinc_7 rfl (by decide) dX12_lay_60 rfl ?_
           rw [show nI j + Int32.ofInt 1 = nI (j + 1) from nI_1 _]
           refine R_goto 6 dX12_lay_63 (by decide) ?_
           have ef : (sub L p (j + 1)).filterMap (lyF b) = (sub L p j).filterMap (lyF b) ++ [L.getD j 0] := by rw [hs, List.filterMap_append]; simp only [List.filterMap_cons, List.filterMap_nil, hf]
           have h9 := hD.s (c := L.getD j 0) hlen
           rw [← ef] at h9
           have h10 := ih (j + 1) _ (by omega) (by omega) h9
           have el : ((sub L p (j + 1)).filterMap (lyF b)).length = ((sub L p j).filterMap (lyF b)).length + 1 := by rw [ef, List.length_append]; rfl
           rw [el] at h10
           exact h10)
        | (rcases mcl_n hok with ⟨hf0, hm⟩ | ⟨x, hf0, hm, hx, hx2⟩
           · have hf : lyF b (L.getD j 0) = none := (if_neg c15).trans hf0
             rw [hm]
             refine R_istore_8 rfl (by decide) dX12_lay_38 ?_
             refine R_iload_8 dX12_lay_40 ?_
             refine R_iconst (v := -1) dX12_lay_42 (by decide) ?_
             refine R_icmp_eq 60 dX12_lay_43 (by decide) (fun c43 => ?_) (fun c43 => absurd rfl c43)
             refine R_drop_8 ?_
             refine R_iinc_7 rfl (by decide) dX12_lay_60 rfl ?_
             rw [show nI j + Int32.ofInt 1 = nI (j + 1) from nI_1 _]
             refine R_goto 6 dX12_lay_63 (by decide) ?_
             have ef : (sub L p (j + 1)).filterMap (lyF b) = (sub L p j).filterMap (lyF b) := by rw [hs, List.filterMap_append]; simp only [List.filterMap_cons, List.filterMap_nil, hf, List.append_nil]
             have h10 := ih (j + 1) V (by omega) (by omega) (by rw [ef]; exact hD)
             rw [ef] at h10
             exact h10
           · have hf : lyF b (L.getD j 0) = some x := (if_neg c15).trans hf0
             rw [hm]
             refine R_istore_8 rfl (by decide) dX12_lay_38 ?_
             refine R_iload_8 dX12_lay_40 ?_
             refine R_iconst (v := -1) dX12_lay_42 (by decide) ?_
             refine R_icmp_eq 60 dX12_lay_43 (by decide) (fun c43 => absurd c43 hx) (fun c43 => ?_)
             refine R_aload_1 dX12_lay_46 ?_
             refine R_bipush (v := 12) dX12_lay_47 (by decide) ?_
             refine R_iload_2 dX12_lay_49 ?_
             refine R_imul dX12_lay_50 ?_
             refine R_iload_6 dX12_lay_51 ?_
             refine R_iadd dX12_lay_53 ?_
             refine R_iload_8 dX12_lay_54 ?_
             refine R_iastE dX12_lay_56 ha (ix1 12 t _) (by omega) (by decide) ?_
             refine R_iinc_6 rfl (by decide) dX12_lay_57 rfl ?_
             rw [show nI ((sub L p j).filterMap (lyF b)).length + Int32.ofInt 1 = nI (((sub L p j).filterMap (lyF b)).length + 1) from nI_1 _]
             refine R_drop_8 ?_
             refine R_iinc_7 rfl (by decide) dX12_lay_60 rfl ?_
             rw [show nI j + Int32.ofInt 1 = nI (j + 1) from nI_1 _]
             refine R_goto 6 dX12_lay_63 (by decide) ?_
             have ef : (sub L p (j + 1)).filterMap (lyF b) = (sub L p j).filterMap (lyF b) ++ [x] := by rw [hs, List.filterMap_append]; simp only [List.filterMap_cons, List.filterMap_nil, hf]
             have h9 := hD.s (c := x) hlen
             rw [← ef] at h9
             have h10 := ih (j + 1) _ (by omega) (by omega) h9
             have el : ((sub L p (j + 1)).filterMap (lyF b)).length = ((sub L p j).filterMap (lyF b)).length + 1 := by rw [ef, List.length_append]; rfl
             rw [el] at h10
             exact h10)
set_option maxHeartbeats 4000000 in
theorem ct_lay {V : aV} {L : List Int32} {a t p e : Nat} {b : Int32} (hR : MR V) (hl : ML V L) (ha : Sh.1 a = (14, 144)) (h4 : a ≠ 504) (h5 : a ≠ 505) (ht : t < 12) (he : e ≤ L.length) (hpe : p ≤ e) (hp12 : e ≤ p + 12) : CT mX12_lay 2 0 0 [.ref 504, .ref a, .int (nI t), .int (nI p), .int (nI e), .int b] Sh V (fun v S' V' => some (.int (nI ((sub L p e).filterMap (lyF b)).length)) = v ∧ Sh = S' ∧ LYI V V' a t ((sub L p e).filterMap (lyF b))) aNo := by
  refine CT_of (by decide +kernel) (Nat.le_of_ble_eq_true rfl) ?_
  show R _ _ _ _ _ _ _ _ 0 [some (.ref 504), some (.ref a), some (.int (nI t)), some (.int (nI p)), some (.int (nI e)), some (.int b), none, none, none] [] _ _
  refine R_iconst (v := 0) dX12_lay_0 (by decide) ?_
  refine R_istore_6 rfl (by decide) dX12_lay_1 ?_
  refine R_iload_3 dX12_lay_3 ?_
  refine R_istore_7 rfl (by decide) dX12_lay_4 ?_
  have h0 : sub L p p = [] := sub_nil
  have h9 := ly_loop (V0 := V) (b := b) (Q := fun v S' V' => some (.int (nI ((sub L p e).filterMap (lyF b)).length)) = v ∧ Sh = S' ∧ LYI V V' a t ((sub L p e).filterMap (lyF b))) (QX := aNo) (mc := 0) (ms := 0) (kc := 0) (ks := 0) hR hl ha h4 h5 ht he hpe hp12 (fun V' h => ⟨rfl, rfl, h⟩) (e - p) p V (by omega) (Nat.le_refl _) (by rw [h0]; exact ⟨fun i hi => absurd hi (Nat.not_lt_zero i), fun _ _ => rfl, fun _ _ => rfl⟩)
  rw [h0] at h9
  exact h9

