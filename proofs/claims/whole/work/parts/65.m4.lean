/-! ===== MergePostModel: templates ===== -/
/-! the bits of the second texts -/
def clB (s d : Nat) : Nat := if s.testBit d = true then s - 2 ^ d else s
theorem sq_tab1 : ((List.range 64).all fun s => (List.range 6).all fun d => decide (nI s &&& (((1 : Int32) <<< (nI d &&& 31)) ^^^ (-1)) = nI (clB s d)) && decide (clB s d < 64) && decide ((nI s >>> (nI d &&& 31)) &&& 1 = if s.testBit d = true then 1 else 0)) = true := by decide +kernel
theorem sq_tab2 : ((List.range 64).all fun s => (List.range 6).all fun d => (List.range 6).all fun i => decide ((clB s d).testBit i = if i = d then false else s.testBit i)) = true := by decide +kernel
theorem sq_1 {s d : Nat} (hs : s < 64) (hd : d < 6) : nI s &&& (((1 : Int32) <<< (nI d &&& 31)) ^^^ (-1)) = nI (clB s d) ∧ clB s d < 64 ∧ (nI s >>> (nI d &&& 31)) &&& 1 = if s.testBit d = true then 1 else 0 := by
  have h := List.all_eq_true.1 (List.all_eq_true.1 sq_tab1 s (List.mem_range.2 hs)) d (List.mem_range.2 hd)
  simp only [Bool.and_eq_true, decide_eq_true_eq] at h
  exact ⟨h.1.1, h.1.2, h.2⟩
theorem sq_2 {s d i : Nat} (hs : s < 64) (hd : d < 6) (hi : i < 6) : (clB s d).testBit i = if i = d then false else s.testBit i := by
  have h := List.all_eq_true.1 (List.all_eq_true.1 (List.all_eq_true.1 sq_tab2 s (List.mem_range.2 hs)) d (List.mem_range.2 hd)) i (List.mem_range.2 hi)
  exact of_decide_eq_true h
theorem sq_3 {s d : Nat} (hs : s < 64) (hd : d < 6) : nI s ||| ((1 : Int32) <<< (nI d &&& 31)) = nI (s ||| 2 ^ d) ∧ s ||| 2 ^ d < 64 := by
  refine ⟨by rw [bk_shl (by omega), bk_or], ?_⟩
  have h2 : 2 ^ d < 2 ^ 6 := Nat.pow_lt_pow_right (by decide) hd
  exact Nat.or_lt_two_pow (n := 6) hs h2
/-- the marks of the open choices and the bits agree -/
def SQ (L : List Int32) (mks : List Nat) (s : Nat) : Prop := s < 64 ∧ ∀ k, k < mks.length → L.getD (mks.getD k 0) 0 = if s.testBit (mks.length - k) = true then 124 else 91
theorem SQ.push {L : List Int32} {mks : List Nat} {s p : Nat} (h : SQ L mks s) (hl : mks.length < 5) (hp : L.getD p 0 = 91) : SQ L (p :: mks) (clB s (mks.length + 1)) := by
  refine ⟨(sq_1 h.1 (by omega)).2.1, fun k hk => ?_⟩
  have hk' : k < mks.length + 1 := hk
  show L.getD ((p :: mks).getD k 0) 0 = if (clB s (mks.length + 1)).testBit (mks.length + 1 - k) = true then 124 else 91
  cases k with
  | zero =>
    have e : (clB s (mks.length + 1)).testBit (mks.length + 1 - 0) = false := by rw [sq_2 h.1 (by omega) (by omega), if_pos (by omega)]
    rw [e]
    exact hp
  | succ k =>
    have e : (clB s (mks.length + 1)).testBit (mks.length + 1 - (k + 1)) = s.testBit (mks.length - k) := by rw [sq_2 h.1 (by omega) (by omega), if_neg (by omega), show mks.length + 1 - (k + 1) = mks.length - k by omega]
    rw [e]
    exact h.2 k (by omega)
theorem SQ.turn {L : List Int32} {m p : Nat} {r : List Nat} {s : Nat} (h : SQ L (m :: r) s) (hl : r.length < 5) (hp : L.getD p 0 = 124) : SQ L (p :: r) (s ||| 2 ^ (r.length + 1)) := by
  refine ⟨(sq_3 h.1 (by omega)).2, fun k hk => ?_⟩
  have hk' : k < r.length + 1 := hk
  show L.getD ((p :: r).getD k 0) 0 = if (s ||| 2 ^ (r.length + 1)).testBit (r.length + 1 - k) = true then 124 else 91
  rw [Nat.testBit_or, Nat.testBit_two_pow]
  cases k with
  | zero => rw [if_pos (by simp)]; exact hp
  | succ k =>
    have h2 := h.2 (k + 1) hk
    have h3 : L.getD (r.getD k 0) 0 = if s.testBit (r.length + 1 - (k + 1)) = true then 124 else 91 := h2
    rw [show decide (r.length + 1 = r.length + 1 - (k + 1)) = false from decide_eq_false (by omega), Bool.or_false]
    exact h3
theorem SQ.pop {L : List Int32} {m : Nat} {r : List Nat} {s : Nat} (h : SQ L (m :: r) s) : SQ L r s := by
  refine ⟨h.1, fun k hk => ?_⟩
  have h2 := h.2 (k + 1) (Nat.succ_lt_succ hk)
  have h3 : L.getD (r.getD k 0) 0 = if s.testBit (r.length + 1 - (k + 1)) = true then 124 else 91 := h2
  rw [show r.length + 1 - (k + 1) = r.length - k by omega] at h3
  exact h3
theorem SQ.top {L : List Int32} {m : Nat} {r : List Nat} {s : Nat} (h : SQ L (m :: r) s) : L.getD m 0 = if s.testBit (r.length + 1) = true then 124 else 91 := h.2 0 (Nat.succ_pos _)
/-! one part, case by case -/
section RP
variable {L : List Int32} {p : Nat} {mks : List Nat} {jm : Nat → Option Nat}
theorem rP_f0 (c : L.getD p 0 = 60) (h : ¬ isFd (L.getD (p + 1) 0)) : rPart L p mks jm = .inl (p + 1) := by unfold rPart; rw [if_pos c, if_pos h]
theorem rP_f1 (c : L.getD p 0 = 60) (h : isFd (L.getD (p + 1) 0)) (h2 : ¬ L.getD (p + 2) 0 = 62) : rPart L p mks jm = .inl (p + 2) := by unfold rPart; rw [if_pos c, if_neg (not_not_intro h), if_neg (fun z => h2 z.2)]
theorem rP_f2 (c : L.getD p 0 = 60) (h : isFd (L.getD (p + 1) 0)) (h2 : L.getD (p + 2) 0 = 62) : rPart L p mks jm = .inr (p + 3, mks, jm) := by unfold rPart; rw [if_pos c, if_neg (not_not_intro h), if_pos ⟨gd_lt h2 (by decide), h2⟩]
theorem rP_a0 (c : L.getD p 0 = 64) (h : ¬ isDg (L.getD (p + 1) 0) 55) : rPart L p mks jm = .inl (p + 1) := by unfold rPart; rw [if_neg (by rw [c]; decide), if_pos c, if_neg h]
theorem rP_a1 (c : L.getD p 0 = 64) (h : isDg (L.getD (p + 1) 0) 55) : rPart L p mks jm = .inr (p + 2, mks, jm) := by unfold rPart; rw [if_neg (by rw [c]; decide), if_pos c, if_pos h]
theorem rP_o5 (c : L.getD p 0 = 91) (h : 5 ≤ mks.length) : rPart L p mks jm = .inl p := by unfold rPart rOpen; rw [if_neg (by rw [c]; decide), if_neg (by rw [c]; decide), if_pos c, if_pos h]
theorem rP_o (c : L.getD p 0 = 91) (h : ¬ 5 ≤ mks.length) : rPart L p mks jm = match hdE L p with
    | .inl q => .inl q
    | .inr q => .inr (q, p :: mks, jm) := by
  have e1 : (tNum L 57 3 (p + 3) (-1)).1 = hE L p := rfl
  have e2 : ((tNum L 57 3 (p + 3) (-1)).2 = -1) = (hE L p = p + 3) := propext hN_iff
  unfold rPart rOpen hdE
  rw [if_neg (by rw [c]; decide), if_neg (by rw [c]; decide), if_pos c, if_neg h, e1]
  by_cases h1 : isFd (L.getD (p + 1) 0)
  · rw [if_neg (not_not_intro h1), if_neg (not_not_intro h1)]
    by_cases h2 : isRl (L.getD (p + 2) 0)
    · rw [if_neg (not_not_intro h2), if_neg (not_not_intro h2)]
      by_cases h3 : hE L p = p + 3
      · rw [if_pos (by rw [e2]; exact h3), if_pos h3]
      · rw [if_neg (by rw [e2]; exact h3), if_neg h3]
        by_cases h4 : L.getD (hE L p) 0 = 63
        · rw [if_pos ⟨gd_lt h4 (by decide), h4⟩, if_pos h4]
        · rw [if_neg (fun z => h4 z.2), if_neg h4]
    · rw [if_pos h2, if_pos h2]
  · rw [if_pos h1, if_pos h1]
theorem rP_t (c : L.getD p 0 = 124) : rPart L p mks jm = rTurn L p mks jm := by unfold rPart; rw [if_neg (by rw [c]; decide), if_neg (by rw [c]; decide), if_neg (by rw [c]; decide), if_pos c]
theorem rP_c (c : L.getD p 0 = 93) : rPart L p mks jm = rClose L p mks jm := by unfold rPart; rw [if_neg (by rw [c]; decide), if_neg (by rw [c]; decide), if_neg (by rw [c]; decide), if_neg (by rw [c]; decide), if_pos c]
theorem rP_s (c1 : ¬ L.getD p 0 = 60) (c2 : ¬ L.getD p 0 = 64) (c3 : ¬ L.getD p 0 = 91) (c4 : ¬ L.getD p 0 = 124) (c5 : ¬ L.getD p 0 = 93) : rPart L p mks jm = .inr (p + 1, mks, jm) := by unfold rPart; rw [if_neg c1, if_neg c2, if_neg c3, if_neg c4, if_neg c5]
end RP
/-- what the model tells of the line as a template -/
def wiV (L : List Int32) (r : RRes) : Int32 := match r with
  | .inl q => nI q
  | .inr r => if r.2.1.length = 0 then -1 else nI L.length
theorem hd_neg {q : Nat} (h : q < 2000) : -1 - nI q < 0 := by
  have e : -1 - nI q = nI 0 - nI (q + 1) := by
    have : nI (q + 1) = nI q + 1 := nI_succ q
    rw [this]
    show -1 - nI q = 0 - (nI q + 1)
    rw [Int32.sub_eq_add_neg, Int32.sub_eq_add_neg, Int32.neg_add, Int32.zero_add, Int32.sub_eq_add_neg, Int32.add_comm]
  rw [e]
  exact pk_sneg (by omega) (by omega)
theorem hd_back (q : Nat) : -1 - (-1 - nI q) = nI q := by
  rw [Int32.sub_eq_add_neg, Int32.neg_sub, Int32.sub_eq_add_neg, Int32.add_comm, Int32.add_assoc]
  show nI q + 0 = _
  exact Int32.add_zero _
theorem hd_lt {L : List Int32} {p q : Nat} (hl : L.length ≤ 96) (hp : p < L.length) (h : hdE L p = .inl q) : q < 2000 := by
  have h1 := hE_lt (L := L) (p := p)
  unfold hdE at h
  split at h
  · cases h; omega
  · split at h
    · cases h; omega
    · split at h
      · cases h; omega
      · split at h
        · cases h
        · cases h; omega
theorem hd_lt2 {L : List Int32} {p q : Nat} (hl : L.length ≤ 96) (hp : p < L.length) (h : hdE L p = .inr q) : p < q ∧ q ≤ L.length := by
  unfold hdE at h
  split at h
  · cases h
  · split at h
    · cases h
    · rename_i h2
      split at h
      · cases h
      · split at h
        · rename_i h3
          cases h
          have h4 := gd_lt h3 (by decide)
          have h5 := hE_le (Classical.not_not.1 h2)
          omega
        · cases h
set_option maxHeartbeats 8000000 in
theorem wi_loop {mc ms kc ks : Nat} {V : aV} {L : List Int32} (hR : MR V) (hl : ML V L) {Q : Option Value → aS → aV → Prop} {QX : String → aS → aV → Prop} : ∀ (m p : Nat) (mks : List Nat) (jm : Nat → Option Nat) (s : Nat), L.length ≤ p + m → p ≤ L.length → mks.length ≤ 5 → SQ L mks s → Q (some (.int (wiV L (rAll L m p mks jm)))) Sh V → R mX12_wrongInTemplate 2 mc ms Q QX kc ks 6 [some (.ref 504), some (.int (nI mks.length)), some (.int (nI s)), some (.int (nI p)), none, none] [] Sh V := by
  have hl1 := hl.1
  have hl3 := hl.2.2.1
  have fin : ∀ (m p : Nat) (mks : List Nat) (jm : Nat → Option Nat) (s : Nat), p = L.length → mks.length ≤ 5 → Q (some (.int (wiV L (rAll L m p mks jm)))) Sh V → R mX12_wrongInTemplate 2 mc ms Q QX kc ks 6 [some (.ref 504), some (.int (nI mks.length)), some (.int (nI s)), some (.int (nI p)), none, none] [] Sh V := by
    intro m p mks jm s hp h5 hQ
    subst hp
    rw [rAll_end (Nat.le_refl _)] at hQ
    refine R_iload_3 dX12_wrongInTemplate_6 ?_
    refine R_aload_0 dX12_wrongInTemplate_7 ?_
    refine gfX12_125 rfl dX12_wrongInTemplate_8 sh_504 (by first | assumption | exact a_up_self _ _ _ _ | exact (a_up_ne (by omega)).trans (by assumption) | exact (a_up_ne (by omega)).trans (a_up_self _ _ _ _) | exact (a_up_ne (by omega)).trans ((a_up_ne (by omega)).trans (by assumption)) | exact (a_up_ne (by omega)).trans ((a_up_ne (by omega)).trans (a_up_self _ _ _ _)) | exact (a_up_ne (by omega)).trans ((a_up_ne (by omega)).trans ((a_up_ne (by omega)).trans (by assumption))) | exact (a_up_ne (by omega)).trans ((a_up_ne (by omega)).trans ((a_up_ne (by omega)).trans (a_up_self _ _ _ _))) | exact (a_up_ne (by omega)).trans ((a_up_ne (by omega)).trans ((a_up_ne (by omega)).trans ((a_up_ne (by omega)).trans (by assumption)))) | exact (a_up_ne (by omega)).trans ((a_up_ne (by omega)).trans ((a_up_ne (by omega)).trans ((a_up_ne (by omega)).trans (a_up_self _ _ _ _)))) | exact (a_up_ne (by omega)).trans ((a_up_ne (by omega)).trans ((a_up_ne (by omega)).trans ((a_up_ne (by omega)).trans ((a_up_ne (by omega)).trans (by assumption))))) | exact (a_up_ne (by omega)).trans ((a_up_ne (by omega)).trans ((a_up_ne (by omega)).trans ((a_up_ne (by omega)).trans ((a_up_ne (by omega)).trans (a_up_self _ _ _ _)))))) ?_
    refine R_icmp_ge 227 dX12_wrongInTemplate_11 (by decide) (fun c11 => ?_) (fun c11 => absurd (Int32.le_refl _) c11)
    refine R_iload_1 dX12_wrongInTemplate_227 ?_
    refine R_if_le 238 dX12_wrongInTemplate_228 (by decide) (fun c228 => ?_) (fun c228 => ?_)
    · have hz : mks.length = 0 := nI_z (by omega) c228
      have e9 : wiV L (.inr (L.length, mks, jm)) = -1 := if_pos hz
      rw [e9] at hQ
      refine R_iconst (v := -1) dX12_wrongInTemplate_238 (by decide) ?_
      refine R_iret rfl dX12_wrongInTemplate_239 hQ
    · have hz : ¬ mks.length = 0 := fun z => c228 (by rw [z]; decide)
      have e9 : wiV L (.inr (L.length, mks, jm)) = nI L.length := if_neg hz
      rw [e9] at hQ
      refine R_aload_0 dX12_wrongInTemplate_231 ?_
      refine gfX12_125 rfl dX12_wrongInTemplate_232 sh_504 (by first | assumption | exact a_up_self _ _ _ _ | exact (a_up_ne (by omega)).trans (by assumption) | exact (a_up_ne (by omega)).trans (a_up_self _ _ _ _) | exact (a_up_ne (by omega)).trans ((a_up_ne (by omega)).trans (by assumption)) | exact (a_up_ne (by omega)).trans ((a_up_ne (by omega)).trans (a_up_self _ _ _ _)) | exact (a_up_ne (by omega)).trans ((a_up_ne (by omega)).trans ((a_up_ne (by omega)).trans (by assumption))) | exact (a_up_ne (by omega)).trans ((a_up_ne (by omega)).trans ((a_up_ne (by omega)).trans (a_up_self _ _ _ _))) | exact (a_up_ne (by omega)).trans ((a_up_ne (by omega)).trans ((a_up_ne (by omega)).trans ((a_up_ne (by omega)).trans (by assumption)))) | exact (a_up_ne (by omega)).trans ((a_up_ne (by omega)).trans ((a_up_ne (by omega)).trans ((a_up_ne (by omega)).trans (a_up_self _ _ _ _)))) | exact (a_up_ne (by omega)).trans ((a_up_ne (by omega)).trans ((a_up_ne (by omega)).trans ((a_up_ne (by omega)).trans ((a_up_ne (by omega)).trans (by assumption))))) | exact (a_up_ne (by omega)).trans ((a_up_ne (by omega)).trans ((a_up_ne (by omega)).trans ((a_up_ne (by omega)).trans ((a_up_ne (by omega)).trans (a_up_self _ _ _ _)))))) ?_
      refine R_goto 239 dX12_wrongInTemplate_235 (by decide) ?_
      refine R_iret rfl dX12_wrongInTemplate_239 hQ
  intro m
  induction m with
  | zero => intro p mks jm s h1 h2 h5 hS hQ; exact fin 0 p mks jm s (by omega) h5 hQ
  | succ m ih =>
    intro p mks jm s h1 h2 h5 hS hQ
    by_cases hp : p = L.length
    · exact fin (m + 1) p mks jm s hp h5 hQ
    have hp9 : p < L.length := by omega
    have hnp : ¬ L.length ≤ p := by omega
    have hch := hl.2.1 p hp9
    have b9 : ¬ nI L.length ≤ nI p := nI_ge hp9 (by omega)
    refine R_iload_3 dX12_wrongInTemplate_6 ?_
    refine R_aload_0 dX12_wrongInTemplate_7 ?_
    refine gfX12_125 rfl dX12_wrongInTemplate_8 sh_504 (by first | assumption | exact a_up_self _ _ _ _ | exact (a_up_ne (by omega)).trans (by assumption) | exact (a_up_ne (by omega)).trans (a_up_self _ _ _ _) | exact (a_up_ne (by omega)).trans ((a_up_ne (by omega)).trans (by assumption)) | exact (a_up_ne (by omega)).trans ((a_up_ne (by omega)).trans (a_up_self _ _ _ _)) | exact (a_up_ne (by omega)).trans ((a_up_ne (by omega)).trans ((a_up_ne (by omega)).trans (by assumption))) | exact (a_up_ne (by omega)).trans ((a_up_ne (by omega)).trans ((a_up_ne (by omega)).trans (a_up_self _ _ _ _))) | exact (a_up_ne (by omega)).trans ((a_up_ne (by omega)).trans ((a_up_ne (by omega)).trans ((a_up_ne (by omega)).trans (by assumption)))) | exact (a_up_ne (by omega)).trans ((a_up_ne (by omega)).trans ((a_up_ne (by omega)).trans ((a_up_ne (by omega)).trans (a_up_self _ _ _ _)))) | exact (a_up_ne (by omega)).trans ((a_up_ne (by omega)).trans ((a_up_ne (by omega)).trans ((a_up_ne (by omega)).trans ((a_up_ne (by omega)).trans (by assumption))))) | exact (a_up_ne (by omega)).trans ((a_up_ne (by omega)).trans ((a_up_ne (by omega)).trans ((a_up_ne (by omega)).trans ((a_up_ne (by omega)).trans (a_up_self _ _ _ _)))))) ?_
    refine R_icmp_ge 227 dX12_wrongInTemplate_11 (by decide) (fun c11 => absurd c11 b9) (fun c11 => ?_)
    refine R_aload_0 dX12_wrongInTemplate_14 ?_
    refine gfX12_7 rfl dX12_wrongInTemplate_15 sh_504 (by first | exact hR.g (k := 1) (a := 505) (by decide) | exact (a_up_ne (by omega)).trans (hR.g (k := 1) (a := 505) (by decide)) | exact (a_up_ne (by omega)).trans ((a_up_ne (by omega)).trans (hR.g (k := 1) (a := 505) (by decide))) | exact (a_up_ne (by omega)).trans ((a_up_ne (by omega)).trans ((a_up_ne (by omega)).trans (hR.g (k := 1) (a := 505) (by decide)))) | exact (a_up_ne (by omega)).trans ((a_up_ne (by omega)).trans ((a_up_ne (by omega)).trans ((a_up_ne (by omega)).trans (hR.g (k := 1) (a := 505) (by decide))))) | exact (a_up_ne (by omega)).trans ((a_up_ne (by omega)).trans ((a_up_ne (by omega)).trans ((a_up_ne (by omega)).trans ((a_up_ne (by omega)).trans (hR.g (k := 1) (a := 505) (by decide)))))) | exact (a_up_ne (by omega)).trans ((a_up_ne (by omega)).trans ((a_up_ne (by omega)).trans ((a_up_ne (by omega)).trans ((a_up_ne (by omega)).trans ((a_up_ne (by omega)).trans (hR.g (k := 1) (a := 505) (by decide)))))))) ?_
    refine R_iload_3 dX12_wrongInTemplate_18 ?_
    refine R_ialdE dX12_wrongInTemplate_19 sh_505 rfl (by omega) (by decide) hch ?_
    refine R_istore_4 rfl (by decide) dX12_wrongInTemplate_20 ?_
    refine R_iload_4 dX12_wrongInTemplate_22 ?_
    refine R_bipush (v := 60) dX12_wrongInTemplate_24 (by decide) ?_
    refine R_icmp_ne 68 dX12_wrongInTemplate_26 (by decide) (fun c26 => ?_) (fun c26 => ?_)
    · refine R_iload_4 dX12_wrongInTemplate_68 ?_
      refine R_bipush (v := 64) dX12_wrongInTemplate_70 (by decide) ?_
      refine R_icmp_ne 109 dX12_wrongInTemplate_72 (by decide) (fun c72 => ?_) (fun c72 => ?_)
      · refine R_iload_4 dX12_wrongInTemplate_109 ?_
        refine R_bipush (v := 91) dX12_wrongInTemplate_111 (by decide) ?_
        refine R_icmp_ne 157 dX12_wrongInTemplate_113 (by decide) (fun c113 => ?_) (fun c113 => ?_)
        · refine R_iload_4 dX12_wrongInTemplate_157 ?_
          refine R_bipush (v := 124) dX12_wrongInTemplate_159 (by decide) ?_
          refine R_icmp_ne 191 dX12_wrongInTemplate_161 (by decide) (fun c161 => ?_) (fun c161 => ?_)
          · refine R_iload_4 dX12_wrongInTemplate_191 ?_
            refine R_bipush (v := 93) dX12_wrongInTemplate_193 (by decide) ?_
            refine R_icmp_ne 221 dX12_wrongInTemplate_195 (by decide) (fun c195 => ?_) (fun c195 => ?_)
            · refine R_iinc_3 rfl (by decide) dX12_wrongInTemplate_221 rfl ?_
              rw [show nI p + Int32.ofInt 1 = nI (p + 1) from nI_1 p]
              rw [rAll_r (m := m) hnp (rP_s c26 c72 c113 c161 c195)] at hQ
              refine R_goto 6 dX12_wrongInTemplate_224 (by decide) ?_
              refine R_drop_4 ?_
              exact ih (p + 1) mks _ s (by omega) (by omega) h5 hS hQ
            · have hT := rP_c (mks := mks) (jm := jm) c195
              cases mks with
              | nil =>
                refine R_iload_1 dX12_wrongInTemplate_198 ?_
                refine R_if_eq 210 dX12_wrongInTemplate_199 (by decide) (fun c199 => ?_) (fun c199 => absurd rfl c199)
                refine R_iload_3 dX12_wrongInTemplate_210 ?_
                exact R_iret rfl dX12_wrongInTemplate_211 (by rw [rAll_l (m := m) hnp hT] at hQ; exact hQ)
              | cons m0 r =>
                have htop := hS.top
                have hr5 : r.length + 1 ≤ 5 := h5
                refine R_iload_1 dX12_wrongInTemplate_198 ?_
                refine R_if_eq 210 dX12_wrongInTemplate_199 (by decide) (fun c199 => absurd c199 (nI_ne0 (Nat.succ_pos _) (by show r.length + 1 < _; omega))) (fun c199 => ?_)
                refine R_iload_2 dX12_wrongInTemplate_202 ?_
                refine R_iload_1 dX12_wrongInTemplate_203 ?_
                refine R_ishr dX12_wrongInTemplate_204 ?_
                refine R_iconst (v := 1) dX12_wrongInTemplate_205 (by decide) ?_
                refine R_iand dX12_wrongInTemplate_206 ?_
                have e9 := (sq_1 (s := s) (d := r.length + 1) hS.1 (by omega)).2.2
                rw [show (m0 :: r).length = r.length + 1 from rfl, e9]
                by_cases hb : s.testBit (r.length + 1) = true
                · rw [if_pos hb] at htop ⊢
                  refine R_if_ne 212 dX12_wrongInTemplate_207 (by decide) (fun c207 => ?_) (fun c207 => absurd c207 (by decide))
                  have hT2 : rClose L p (m0 :: r) jm = .inr (p + 1, r, jSet jm m0 (p + 1)) := if_pos htop
                  refine R_iinc_1 rfl (by decide) dX12_wrongInTemplate_212 rfl ?_
                  rw [show nI (r.length + 1) + Int32.ofInt (-1) = nI r.length from pk_m1 _]
                  refine R_iinc_3 rfl (by decide) dX12_wrongInTemplate_215 rfl ?_
                  rw [show nI p + Int32.ofInt 1 = nI (p + 1) from nI_1 p]
                  refine R_goto 224 dX12_wrongInTemplate_218 (by decide) ?_
                  rw [rAll_r (m := m) hnp (hT.trans hT2)] at hQ
                  refine R_goto 6 dX12_wrongInTemplate_224 (by decide) ?_
                  refine R_drop_4 ?_
                  exact ih (p + 1) r _ _ (by omega) (by omega) (by omega) hS.pop hQ
                · rw [if_neg hb] at htop ⊢
                  refine R_if_ne 212 dX12_wrongInTemplate_207 (by decide) (fun c207 => absurd rfl c207) (fun c207 => ?_)
                  refine R_iload_3 dX12_wrongInTemplate_210 ?_
                  have hT2 : rClose L p (m0 :: r) jm = .inl p := if_neg (by rw [htop]; decide)
                  exact R_iret rfl dX12_wrongInTemplate_211 (by rw [rAll_l (m := m) hnp (hT.trans hT2)] at hQ; exact hQ)
          · have hT := rP_t (mks := mks) (jm := jm) c161
            cases mks with
            | nil =>
              refine R_iload_1 dX12_wrongInTemplate_164 ?_
              refine R_if_eq 177 dX12_wrongInTemplate_165 (by decide) (fun c165 => ?_) (fun c165 => absurd rfl c165)
              refine R_iload_3 dX12_wrongInTemplate_177 ?_
              exact R_iret rfl dX12_wrongInTemplate_178 (by rw [rAll_l (m := m) hnp hT] at hQ; exact hQ)
            | cons m0 r =>
              have htop := hS.top
              have hr5 : r.length + 1 ≤ 5 := h5
              refine R_iload_1 dX12_wrongInTemplate_164 ?_
              refine R_if_eq 177 dX12_wrongInTemplate_165 (by decide) (fun c165 => absurd c165 (nI_ne0 (Nat.succ_pos _) (by show r.length + 1 < _; omega))) (fun c165 => ?_)
              refine R_iload_2 dX12_wrongInTemplate_168 ?_
              refine R_iload_1 dX12_wrongInTemplate_169 ?_
              refine R_ishr dX12_wrongInTemplate_170 ?_
              refine R_iconst (v := 1) dX12_wrongInTemplate_171 (by decide) ?_
              refine R_iand dX12_wrongInTemplate_172 ?_
              have e9 := (sq_1 (s := s) (d := r.length + 1) hS.1 (by omega)).2.2
              rw [show (m0 :: r).length = r.length + 1 from rfl, e9]
              refine R_iconst (v := 1) dX12_wrongInTemplate_173 (by decide) ?_
              by_cases hb : s.testBit (r.length + 1) = true
              · rw [if_pos hb] at htop ⊢
                refine R_icmp_ne 179 dX12_wrongInTemplate_174 (by decide) (fun c174 => absurd rfl c174) (fun c174 => ?_)
                refine R_iload_3 dX12_wrongInTemplate_177 ?_
                have hT2 : rTurn L p (m0 :: r) jm = .inl p := if_neg (by rw [htop]; decide)
                exact R_iret rfl dX12_wrongInTemplate_178 (by rw [rAll_l (m := m) hnp (hT.trans hT2)] at hQ; exact hQ)
              · rw [if_neg hb] at htop ⊢
                refine R_icmp_ne 179 dX12_wrongInTemplate_174 (by decide) (fun c174 => ?_) (fun c174 => absurd c174 (by decide))
                have hT2 : rTurn L p (m0 :: r) jm = .inr (p + 1, p :: r, jSet jm m0 (p + 1)) := if_pos htop
                refine R_iload_2 dX12_wrongInTemplate_179 ?_
                refine R_iconst (v := 1) dX12_wrongInTemplate_180 (by decide) ?_
                refine R_iload_1 dX12_wrongInTemplate_181 ?_
                refine R_ishl dX12_wrongInTemplate_182 ?_
                refine R_ior dX12_wrongInTemplate_183 ?_
                rw [(sq_3 (s := s) (d := r.length + 1) hS.1 (by omega)).1]
                refine R_istore_2 rfl (by decide) dX12_wrongInTemplate_184 ?_
                refine R_iinc_3 rfl (by decide) dX12_wrongInTemplate_185 rfl ?_
                rw [show nI p + Int32.ofInt 1 = nI (p + 1) from nI_1 p]
                refine R_goto 224 dX12_wrongInTemplate_188 (by decide) ?_
                rw [rAll_r (m := m) hnp (hT.trans hT2)] at hQ
                refine R_goto 6 dX12_wrongInTemplate_224 (by decide) ?_
                refine R_drop_4 ?_
                exact ih (p + 1) (p :: r) _ _ (by omega) (by omega) h5 (hS.turn (by omega) c161) hQ
        · refine R_iload_1 dX12_wrongInTemplate_116 ?_
          refine R_iconst (v := 5) dX12_wrongInTemplate_117 (by decide) ?_
          refine R_icmp_ne 123 dX12_wrongInTemplate_118 (by decide) (fun c118 => ?_) (fun c118 => ?_)
          · refine R_aload_0 dX12_wrongInTemplate_123 ?_
            refine R_iload_3 dX12_wrongInTemplate_124 ?_
            refine R_callV_e (T := mX12_wrongInTemplate) (T' := mX12_headEnd) (As := [_]) (ci := 12) okX12_headEnd mlX12_139 rfl (by decide) sh_504 (ct_headEnd hR hl (p := p) (by omega)) rfl (by decide) (by decide) (Nat.le_of_ble_eq_true rfl) dX12_wrongInTemplate_125 ?_
            have h5n : ¬ 5 ≤ mks.length := fun z => c118 (by rw [show mks.length = 5 by omega]; rfl)
            have hO := rP_o (mks := mks) (jm := jm) c113 h5n
            refine R_istore_5 rfl (by decide) dX12_wrongInTemplate_128 ?_
            refine R_iload_5 dX12_wrongInTemplate_130 ?_
            cases hh : hdE L p with
            | inl q =>
              have hq : q < 2000 := hd_lt hl3 hp9 hh
              rw [hh] at hO
              refine R_if_ge 140 dX12_wrongInTemplate_132 (by decide) (fun c132 => absurd (hd_neg hq) (Int32.not_lt.2 c132)) (fun c132 => ?_)
              refine R_iconst (v := -1) dX12_wrongInTemplate_135 (by decide) ?_
              refine R_iload_5 dX12_wrongInTemplate_136 ?_
              refine R_isub dX12_wrongInTemplate_138 ?_
              rw [show (-1 : Int32) - hdV (.inl q) = nI q from hd_back q]
              exact R_iret rfl dX12_wrongInTemplate_139 (by rw [rAll_l (m := m) hnp hO] at hQ; exact hQ)
            | inr q =>
              obtain ⟨hq1, hq2⟩ := hd_lt2 hl3 hp9 hh
              rw [hh] at hO
              refine R_if_ge 140 dX12_wrongInTemplate_132 (by decide) (fun c132 => ?_) (fun c132 => absurd (nI_pos' (by omega)) c132)
              refine R_iinc_1 rfl (by decide) dX12_wrongInTemplate_140 rfl ?_
              rw [show nI mks.length + Int32.ofInt 1 = nI (mks.length + 1) from nI_1 _]
              refine R_iload_2 dX12_wrongInTemplate_143 ?_
              refine R_iconst (v := 1) dX12_wrongInTemplate_144 (by decide) ?_
              refine R_iload_1 dX12_wrongInTemplate_145 ?_
              refine R_ishl dX12_wrongInTemplate_146 ?_
              refine R_iconst (v := -1) dX12_wrongInTemplate_147 (by decide) ?_
              refine R_ixor dX12_wrongInTemplate_148 ?_
              refine R_iand dX12_wrongInTemplate_149 ?_
              rw [(sq_1 (s := s) (d := mks.length + 1) hS.1 (by omega)).1]
              refine R_istore_2 rfl (by decide) dX12_wrongInTemplate_150 ?_
              refine R_iload_5 dX12_wrongInTemplate_151 ?_
              refine R_istore_3 rfl (by decide) dX12_wrongInTemplate_153 ?_
              refine R_goto 224 dX12_wrongInTemplate_154 (by decide) ?_
              rw [rAll_r (m := m) hnp hO] at hQ
              refine R_goto 6 dX12_wrongInTemplate_224 (by decide) ?_
              refine R_drop_4 ?_
              refine R_drop_5 ?_
              exact ih q (p :: mks) _ _ (by omega) (by omega) (by show mks.length + 1 ≤ 5; omega) (hS.push (by omega) c113) hQ
          · refine R_iload_3 dX12_wrongInTemplate_121 ?_
            refine R_iret rfl dX12_wrongInTemplate_122 (by rw [rAll_l (m := m) hnp (rP_o5 c113 (Nat.le_of_not_lt fun z => absurd c118 (fun y => by have := (nI_eq (b := 5) (by omega) (by decide)).1 y; omega)))] at hQ; exact hQ)
      · refine R_aload_0 dX12_wrongInTemplate_75 ?_
        refine R_iload_3 dX12_wrongInTemplate_76 ?_
        refine R_iconst (v := 1) dX12_wrongInTemplate_77 (by decide) ?_
        refine R_iadd dX12_wrongInTemplate_78 ?_
        rw [show nI p + 1 = nI (p + 1) from nI_1 p]
        refine R_callV_e (T := mX12_wrongInTemplate) (T' := mX12_signAt) (As := [_]) (ci := 12) okX12_signAt mlX12_132 rfl (by decide) sh_504 (ct_msignAt (p := p + 1) hR hl (by omega)) rfl (by decide) (by decide) (Nat.le_of_ble_eq_true rfl) dX12_wrongInTemplate_79 ?_
        refine R_bipush (v := 48) dX12_wrongInTemplate_82 (by decide) ?_
        refine R_icmp_lt 99 dX12_wrongInTemplate_84 (by decide) (fun c84 => ?_) (fun c84 => ?_)
        · have hd : ¬ isDg (L.getD (p + 1) 0) 55 := fun z => (by first | exact absurd c84 (Int32.not_lt.2 (lm_dg.2 z).1) | exact absurd (lm_dg.2 z).2 c96)
          refine R_iload_3 dX12_wrongInTemplate_99 ?_
          refine R_iconst (v := 1) dX12_wrongInTemplate_100 (by decide) ?_
          refine R_iadd dX12_wrongInTemplate_101 ?_
          rw [show nI p + 1 = nI (p + 1) from nI_1 p]
          refine R_iret rfl dX12_wrongInTemplate_102 (by rw [rAll_l (m := m) hnp (rP_a0 c72 hd)] at hQ; exact hQ)
        · refine R_aload_0 dX12_wrongInTemplate_87 ?_
          refine R_iload_3 dX12_wrongInTemplate_88 ?_
          refine R_iconst (v := 1) dX12_wrongInTemplate_89 (by decide) ?_
          refine R_iadd dX12_wrongInTemplate_90 ?_
          rw [show nI p + 1 = nI (p + 1) from nI_1 p]
          refine R_callV_e (T := mX12_wrongInTemplate) (T' := mX12_signAt) (As := [_]) (ci := 12) okX12_signAt mlX12_132 rfl (by decide) sh_504 (ct_msignAt (p := p + 1) hR hl (by omega)) rfl (by decide) (by decide) (Nat.le_of_ble_eq_true rfl) dX12_wrongInTemplate_91 ?_
          refine R_bipush (v := 55) dX12_wrongInTemplate_94 (by decide) ?_
          refine R_icmp_le 103 dX12_wrongInTemplate_96 (by decide) (fun c96 => ?_) (fun c96 => ?_)
          · have hd : isDg (L.getD (p + 1) 0) 55 := lm_dg.1 ⟨Int32.not_lt.1 c84, c96⟩
            have hlt := dg_lt2 hd
            refine R_iinc_3 rfl (by decide) dX12_wrongInTemplate_103 rfl ?_
            rw [show nI p + Int32.ofInt 2 = nI (p + 2) from nI_add p 2]
            refine R_goto 224 dX12_wrongInTemplate_106 (by decide) ?_
            rw [rAll_r (m := m) hnp (rP_a1 c72 hd)] at hQ
            refine R_goto 6 dX12_wrongInTemplate_224 (by decide) ?_
            refine R_drop_4 ?_
            exact ih (p + 2) mks _ s (by omega) (by omega) (by first | assumption | (simp at *; omega)) (hS) hQ
          · have hd : ¬ isDg (L.getD (p + 1) 0) 55 := fun z => (by first | exact absurd c84 (Int32.not_lt.2 (lm_dg.2 z).1) | exact absurd (lm_dg.2 z).2 c96)
            refine R_iload_3 dX12_wrongInTemplate_99 ?_
            refine R_iconst (v := 1) dX12_wrongInTemplate_100 (by decide) ?_
            refine R_iadd dX12_wrongInTemplate_101 ?_
            rw [show nI p + 1 = nI (p + 1) from nI_1 p]
            refine R_iret rfl dX12_wrongInTemplate_102 (by rw [rAll_l (m := m) hnp (rP_a0 c72 hd)] at hQ; exact hQ)
    · refine R_aload_0 dX12_wrongInTemplate_29 ?_
      refine R_iload_3 dX12_wrongInTemplate_30 ?_
      refine R_iconst (v := 1) dX12_wrongInTemplate_31 (by decide) ?_
      refine R_iadd dX12_wrongInTemplate_32 ?_
      rw [show nI p + 1 = nI (p + 1) from nI_1 p]
      refine R_callV_e (T := mX12_wrongInTemplate) (T' := mX12_signAt) (As := [_]) (ci := 12) okX12_signAt mlX12_132 rfl (by decide) sh_504 (ct_msignAt (p := p + 1) hR hl (by omega)) rfl (by decide) (by decide) (Nat.le_of_ble_eq_true rfl) dX12_wrongInTemplate_33 ?_
      refine R_callS_e (T := mX12_wrongInTemplate) (T' := mX12_isField) (As := [_]) okX12_isField mlX12_136 rfl (ct_misField _) rfl (by decide) (by decide) (Nat.le_of_ble_eq_true rfl) dX12_wrongInTemplate_36 ?_
      refine R_if_ne 46 dX12_wrongInTemplate_39 (by decide) (fun c39 => ?_) (fun c39 => ?_)
      · have hf : isFd (L.getD (p + 1) 0) := lm_fd.1 (bI_ne c39)
        refine R_aload_0 dX12_wrongInTemplate_46 ?_
        refine R_iload_3 dX12_wrongInTemplate_47 ?_
        refine R_iconst (v := 2) dX12_wrongInTemplate_48 (by decide) ?_
        refine R_iadd dX12_wrongInTemplate_49 ?_
        rw [show nI p + 2 = nI (p + 2) from nI_add p 2]
        refine R_callV_e (T := mX12_wrongInTemplate) (T' := mX12_signAt) (As := [_]) (ci := 12) okX12_signAt mlX12_132 rfl (by decide) sh_504 (ct_msignAt (p := p + 2) hR hl (by omega)) rfl (by decide) (by decide) (Nat.le_of_ble_eq_true rfl) dX12_wrongInTemplate_50 ?_
        refine R_bipush (v := 62) dX12_wrongInTemplate_53 (by decide) ?_
        refine R_icmp_eq 62 dX12_wrongInTemplate_55 (by decide) (fun c55 => ?_) (fun c55 => ?_)
        · have hg : L.getD (p + 2) 0 = 62 := (lm_eq (by decide) (by decide)).1 c55
          have hlt := gd_lt hg (by decide)
          refine R_iinc_3 rfl (by decide) dX12_wrongInTemplate_62 rfl ?_
          rw [show nI p + Int32.ofInt 3 = nI (p + 3) from nI_add p 3]
          refine R_goto 224 dX12_wrongInTemplate_65 (by decide) ?_
          rw [rAll_r (m := m) hnp (rP_f2 c26 hf hg)] at hQ
          refine R_goto 6 dX12_wrongInTemplate_224 (by decide) ?_
          refine R_drop_4 ?_
          exact ih (p + 3) mks _ s (by omega) (by omega) (by first | assumption | (simp at *; omega)) (hS) hQ
        · refine R_iload_3 dX12_wrongInTemplate_58 ?_
          refine R_iconst (v := 2) dX12_wrongInTemplate_59 (by decide) ?_
          refine R_iadd dX12_wrongInTemplate_60 ?_
          rw [show nI p + 2 = nI (p + 2) from nI_add p 2]
          refine R_iret rfl dX12_wrongInTemplate_61 (by rw [rAll_l (m := m) hnp (rP_f1 c26 hf (fun z => c55 ((lm_eq (by decide) (by decide)).2 z)))] at hQ; exact hQ)
      · have hf : ¬ isFd (L.getD (p + 1) 0) := fun z => bI_eq c39 (lm_fd.2 z)
        refine R_iload_3 dX12_wrongInTemplate_42 ?_
        refine R_iconst (v := 1) dX12_wrongInTemplate_43 (by decide) ?_
        refine R_iadd dX12_wrongInTemplate_44 ?_
        rw [show nI p + 1 = nI (p + 1) from nI_1 p]
        refine R_iret rfl dX12_wrongInTemplate_45 (by rw [rAll_l (m := m) hnp (rP_f0 c26 hf)] at hQ; exact hQ)
set_option maxHeartbeats 4000000 in
theorem ct_mwrong {V : aV} {L : List Int32} (hR : MR V) (hl : ML V L) : CT mX12_wrongInTemplate 2 0 0 [.ref 504] Sh V (aRet (some (.int (wiV L (rAll L 96 0 [] (fun _ => none))))) Sh V) aNo := by
  refine CT_of (by decide +kernel) (Nat.le_of_ble_eq_true rfl) ?_
  show R _ _ _ _ _ _ _ _ 0 [some (.ref 504), none, none, none, none, none] [] _ _
  refine R_iconst (v := 0) dX12_wrongInTemplate_0 (by decide) ?_
  refine R_istore_1 rfl (by decide) dX12_wrongInTemplate_1 ?_
  refine R_iconst (v := 0) dX12_wrongInTemplate_2 (by decide) ?_
  refine R_istore_2 rfl (by decide) dX12_wrongInTemplate_3 ?_
  refine R_iconst (v := 0) dX12_wrongInTemplate_4 (by decide) ?_
  refine R_istore_3 rfl (by decide) dX12_wrongInTemplate_5 ?_
  exact wi_loop hR hl 96 0 [] (fun _ => none) 0 (by have := hl.2.2.1; omega) (Nat.zero_le _) (by decide) ⟨by decide, fun k hk => absurd hk (Nat.not_lt_zero k)⟩ ⟨rfl, rfl, rfl⟩

