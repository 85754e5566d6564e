/-! ===== Book: masks ===== -/
theorem bk_bv (x : Nat) : (nI x).toBitVec = BitVec.ofNat 32 x := by
  rfl
theorem bk_and (x y : Nat) : nI x &&& nI y = nI (x &&& y) := by
  apply Int32.toBitVec_inj.1
  rw [Int32.toBitVec_and, bk_bv, bk_bv, bk_bv, BitVec.ofNat_and]
theorem bk_or (x y : Nat) : nI x ||| nI y = nI (x ||| y) := by
  apply Int32.toBitVec_inj.1
  rw [Int32.toBitVec_or, bk_bv, bk_bv, bk_bv, BitVec.ofNat_or]
theorem bk_xor (x y : Nat) : nI x ^^^ nI y = nI (x ^^^ y) := by
  apply Int32.toBitVec_inj.1
  rw [Int32.toBitVec_xor, bk_bv, bk_bv, bk_bv, BitVec.ofNat_xor]
theorem bk_shl {k : Nat} (h : k < 31) : (1 : Int32) <<< (nI k &&& 31) = nI (2 ^ k) := by
  have : ∀ k : Fin 31, (1 : Int32) <<< (nI k &&& 31) = nI (2 ^ k.val) := by decide +kernel
  exact this ⟨k, h⟩
theorem bk_tp (x k : Nat) : (x &&& 2 ^ k = 0) ↔ x.testBit k = false := by
  constructor
  · intro h
    have := congrArg (fun z => z.testBit k) h
    simpa [Nat.testBit_and, Nat.testBit_two_pow] using this
  · intro h
    apply Nat.eq_of_testBit_eq
    intro i
    rw [Nat.testBit_and, Nat.testBit_two_pow, Nat.zero_testBit]
    by_cases e : k = i
    · subst e; simp [h]
    · simp [e]
theorem bk_z0 {k : Nat} (hk : k < 2 ^ 31) (h : nI k = 0) : k = 0 := by
  have h2 : (nI k).toBitVec.toNat = 0 := by rw [h]; rfl
  rw [bk_bv, BitVec.toNat_ofNat] at h2
  omega
theorem bk_t {x k : Nat} (hk : k < 31) (h : ¬ nI x &&& (1 : Int32) <<< (nI k &&& 31) = 0) : x.testBit k = true := by
  rw [bk_shl hk, bk_and] at h
  cases q : x.testBit k
  · rw [(bk_tp x k).2 q] at h; exact absurd rfl h
  · rfl
theorem bk_f {x k : Nat} (hx : x < 2 ^ 31) (hk : k < 31) (h : nI x &&& (1 : Int32) <<< (nI k &&& 31) = 0) : x.testBit k = false := by
  rw [bk_shl hk, bk_and] at h
  exact (bk_tp x k).1 (bk_z0 (Nat.lt_of_le_of_lt Nat.and_le_left hx) h)
theorem bk_inj {x y : Nat} (hx : x < 2 ^ 31) (hy : y < 2 ^ 31) (h : nI x = nI y) : x = y := by
  have h2 : (nI x).toBitVec.toNat = (nI y).toBitVec.toNat := by rw [h]
  rw [bk_bv, bk_bv, BitVec.toNat_ofNat, BitVec.toNat_ofNat] at h2
  omega
theorem bk_pred {k : Nat} (h : k < 31) : nI (2 ^ k) - 1 = nI (2 ^ k - 1) := by
  have : ∀ k : Fin 31, nI (2 ^ k.val) - 1 = nI (2 ^ k.val - 1) := by decide +kernel
  exact this ⟨k, h⟩
theorem ret_b {P : Prop} [Decidable P] {S : aS} {V : aV} {x : Int32} (h : bI P = x) : aRet (some (.int (bI P))) S V (some (.int x)) S V := by rw [h]; exact ⟨rfl, rfl, rfl⟩
theorem ret_i {S : aS} {V : aV} {x y : Int32} (h : y = x) : aRet (some (.int y)) S V (some (.int x)) S V := by rw [h]; exact ⟨rfl, rfl, rfl⟩
/-- masks in an array -/
def MK (V : aV) (b : Nat) (m : Nat → Nat) : Prop := ∀ j, j < 12 → V b j = .int (nI (m j)) ∧ m j < 2 ^ 12
theorem MK.fr {V V' : aV} {b : Nat} {m : Nat → Nat} (h : MK V b m) (e : V' b = V b) : MK V' b m := fun j hj => by rw [e]; exact h j hj
/-- the book's own places -/
def BF (V : aV) : Prop := V 74 0 = .ref 75 ∧ V 74 2 = .ref 85 ∧ V 74 3 = .ref 86 ∧ V 74 4 = .ref 87

set_option maxHeartbeats 4000000 in
theorem ct_hasMatch {V : aV} {mt : Nat → Nat} {a : Nat} (hB : BF V) (hM : MK V 85 mt) (ha : a < 12) : CT mX1_hasMatch 1 0 0 [.ref 74, .int (nI a)] Sh V (aRet (some (.int (bI (mt a ≠ 0)))) Sh V) aNo := by
  refine CT_of (by decide +kernel) (Nat.le_of_ble_eq_true rfl) ?_
  show R _ _ _ _ _ _ _ _ 0 [some (.ref 74), some (.int (nI a))] [] _ _
  obtain ⟨f0, f2, f3, f4⟩ := hB
  have hv := (hM a ha).1
  have hlt := (hM a ha).2
  have h0 : ¬ nI a < 0 := nI_pos (by omega)
  have h12 : ¬ (12 : Int32) ≤ nI a := nI_ge (a := a) (b := 12) (by omega) (by omega)
  refine R_iload_1 dX1_hasMatch_0 ?_
  refine R_if_lt 23 dX1_hasMatch_1 (by decide) (fun c1 => absurd c1 h0) (fun c1 => ?_)
  refine R_iload_1 dX1_hasMatch_4 ?_
  refine R_bipush (v := 12) dX1_hasMatch_5 (by decide) ?_
  refine R_icmp_ge 23 dX1_hasMatch_7 (by decide) (fun c7 => absurd c7 h12) (fun c7 => ?_)
  refine R_aload_0 dX1_hasMatch_10 ?_
  refine gfX1_22 rfl dX1_hasMatch_11 sh_74 (by first | assumption | exact a_up_self _ _ _ _ | exact (a_up_ne (by omega)).trans (by assumption) | exact (a_up_ne (by omega)).trans (a_up_self _ _ _ _) | exact (a_up_ne (by omega)).trans ((a_up_ne (by omega)).trans (by assumption)) | exact (a_up_ne (by omega)).trans ((a_up_ne (by omega)).trans (a_up_self _ _ _ _)) | exact (a_up_ne (by omega)).trans ((a_up_ne (by omega)).trans ((a_up_ne (by omega)).trans (by assumption))) | exact (a_up_ne (by omega)).trans ((a_up_ne (by omega)).trans ((a_up_ne (by omega)).trans (a_up_self _ _ _ _))) | exact (a_up_ne (by omega)).trans ((a_up_ne (by omega)).trans ((a_up_ne (by omega)).trans ((a_up_ne (by omega)).trans (by assumption)))) | exact (a_up_ne (by omega)).trans ((a_up_ne (by omega)).trans ((a_up_ne (by omega)).trans ((a_up_ne (by omega)).trans (a_up_self _ _ _ _)))) | exact (a_up_ne (by omega)).trans ((a_up_ne (by omega)).trans ((a_up_ne (by omega)).trans ((a_up_ne (by omega)).trans ((a_up_ne (by omega)).trans (by assumption))))) | exact (a_up_ne (by omega)).trans ((a_up_ne (by omega)).trans ((a_up_ne (by omega)).trans ((a_up_ne (by omega)).trans ((a_up_ne (by omega)).trans (a_up_self _ _ _ _)))))) ?_
  refine R_iload_1 dX1_hasMatch_14 ?_
  refine R_iald dX1_hasMatch_15 sh_85 (vp_in_nI (by omega) (by decide)) (nI_clamp (by omega)) hv ?_
  refine R_if_eq 23 dX1_hasMatch_16 (by decide) (fun c16 => ?_) (fun c16 => ?_)
  · refine R_iconst (v := 0) dX1_hasMatch_23 (by decide) ?_
    refine R_zret rfl (by first | rfl | assumption) dX1_hasMatch_24 (by first | exact ret_b (bI_f (not_not_intro (bk_z0 (by omega) c16))) | exact ret_b (bI_t (fun z => c16 (by rw [z]; rfl))))
  · refine R_iconst (v := 1) dX1_hasMatch_19 (by decide) ?_
    refine R_goto 24 dX1_hasMatch_20 (by decide) ?_
    refine R_zret rfl (by first | rfl | assumption) dX1_hasMatch_24 (by first | exact ret_b (bI_f (not_not_intro (bk_z0 (by omega) c16))) | exact ret_b (bI_t (fun z => c16 (by rw [z]; rfl))))

set_option maxHeartbeats 4000000 in
theorem ct_areMatched {V : aV} {mt : Nat → Nat} {a : Nat} (hB : BF V) (hM : MK V 85 mt) (ha : a < 12) {b : Nat} (hb : b < 12) : CT mX1_areMatched 1 0 0 [.ref 74, .int (nI a), .int (nI b)] Sh V (aRet (some (.int (bI ((mt a).testBit b = true)))) Sh V) aNo := by
  refine CT_of (by decide +kernel) (Nat.le_of_ble_eq_true rfl) ?_
  show R _ _ _ _ _ _ _ _ 0 [some (.ref 74), some (.int (nI a)), some (.int (nI b))] [] _ _
  obtain ⟨f0, f2, f3, f4⟩ := hB
  have hv := (hM a ha).1
  have hlt := (hM a ha).2
  have h0 : ¬ nI a < 0 := nI_pos (by omega)
  have h12 : ¬ (12 : Int32) ≤ nI a := nI_ge (a := a) (b := 12) (by omega) (by omega)
  refine R_iload_1 dX1_areMatched_0 ?_
  refine R_if_lt 27 dX1_areMatched_1 (by decide) (fun c1 => absurd c1 h0) (fun c1 => ?_)
  refine R_iload_1 dX1_areMatched_4 ?_
  refine R_bipush (v := 12) dX1_areMatched_5 (by decide) ?_
  refine R_icmp_ge 27 dX1_areMatched_7 (by decide) (fun c7 => absurd c7 h12) (fun c7 => ?_)
  refine R_aload_0 dX1_areMatched_10 ?_
  refine gfX1_22 rfl dX1_areMatched_11 sh_74 (by first | assumption | exact a_up_self _ _ _ _ | exact (a_up_ne (by omega)).trans (by assumption) | exact (a_up_ne (by omega)).trans (a_up_self _ _ _ _) | exact (a_up_ne (by omega)).trans ((a_up_ne (by omega)).trans (by assumption)) | exact (a_up_ne (by omega)).trans ((a_up_ne (by omega)).trans (a_up_self _ _ _ _)) | exact (a_up_ne (by omega)).trans ((a_up_ne (by omega)).trans ((a_up_ne (by omega)).trans (by assumption))) | exact (a_up_ne (by omega)).trans ((a_up_ne (by omega)).trans ((a_up_ne (by omega)).trans (a_up_self _ _ _ _))) | exact (a_up_ne (by omega)).trans ((a_up_ne (by omega)).trans ((a_up_ne (by omega)).trans ((a_up_ne (by omega)).trans (by assumption)))) | exact (a_up_ne (by omega)).trans ((a_up_ne (by omega)).trans ((a_up_ne (by omega)).trans ((a_up_ne (by omega)).trans (a_up_self _ _ _ _)))) | exact (a_up_ne (by omega)).trans ((a_up_ne (by omega)).trans ((a_up_ne (by omega)).trans ((a_up_ne (by omega)).trans ((a_up_ne (by omega)).trans (by assumption))))) | exact (a_up_ne (by omega)).trans ((a_up_ne (by omega)).trans ((a_up_ne (by omega)).trans ((a_up_ne (by omega)).trans ((a_up_ne (by omega)).trans (a_up_self _ _ _ _)))))) ?_
  refine R_iload_1 dX1_areMatched_14 ?_
  refine R_iald dX1_areMatched_15 sh_85 (vp_in_nI (by omega) (by decide)) (nI_clamp (by omega)) hv ?_
  refine R_iconst (v := 1) dX1_areMatched_16 (by decide) ?_
  refine R_iload_2 dX1_areMatched_17 ?_
  refine R_ishl dX1_areMatched_18 ?_
  refine R_iand dX1_areMatched_19 ?_
  refine R_if_eq 27 dX1_areMatched_20 (by decide) (fun c20 => ?_) (fun c20 => ?_)
  · refine R_iconst (v := 0) dX1_areMatched_27 (by decide) ?_
    refine R_zret rfl (by first | rfl | assumption) dX1_areMatched_28 (by first | exact ret_b (bI_f (by rw [bk_f (by omega) (by omega) c20]; decide)) | exact ret_b (bI_t (bk_t (by omega) c20)))
  · refine R_iconst (v := 1) dX1_areMatched_23 (by decide) ?_
    refine R_goto 28 dX1_areMatched_24 (by decide) ?_
    refine R_zret rfl (by first | rfl | assumption) dX1_areMatched_28 (by first | exact ret_b (bI_f (by rw [bk_f (by omega) (by omega) c20]; decide)) | exact ret_b (bI_t (bk_t (by omega) c20)))

set_option maxHeartbeats 4000000 in
theorem ct_dueAt {V : aV} {a : Nat} {x : Int32} (hB : BF V) (ha : a < 12) (hv : V 87 a = .int x) : CT mX1_dueAt 1 0 0 [.ref 74, .int (nI a)] Sh V (aRet (some (.int x)) Sh V) aNo := by
  refine CT_of (by decide +kernel) (Nat.le_of_ble_eq_true rfl) ?_
  show R _ _ _ _ _ _ _ _ 0 [some (.ref 74), some (.int (nI a))] [] _ _
  obtain ⟨f0, f2, f3, f4⟩ := hB
  have h0 : ¬ nI a < 0 := nI_pos (by omega)
  have h12 : ¬ (12 : Int32) ≤ nI a := nI_ge (a := a) (b := 12) (by omega) (by omega)
  refine R_iload_1 dX1_dueAt_0 ?_
  refine R_if_lt 19 dX1_dueAt_1 (by decide) (fun c1 => absurd c1 h0) (fun c1 => ?_)
  refine R_iload_1 dX1_dueAt_4 ?_
  refine R_bipush (v := 12) dX1_dueAt_5 (by decide) ?_
  refine R_icmp_ge 19 dX1_dueAt_7 (by decide) (fun c7 => absurd c7 h12) (fun c7 => ?_)
  refine R_aload_0 dX1_dueAt_10 ?_
  refine gfX1_29 rfl dX1_dueAt_11 sh_74 (by first | assumption | exact a_up_self _ _ _ _ | exact (a_up_ne (by omega)).trans (by assumption) | exact (a_up_ne (by omega)).trans (a_up_self _ _ _ _) | exact (a_up_ne (by omega)).trans ((a_up_ne (by omega)).trans (by assumption)) | exact (a_up_ne (by omega)).trans ((a_up_ne (by omega)).trans (a_up_self _ _ _ _)) | exact (a_up_ne (by omega)).trans ((a_up_ne (by omega)).trans ((a_up_ne (by omega)).trans (by assumption))) | exact (a_up_ne (by omega)).trans ((a_up_ne (by omega)).trans ((a_up_ne (by omega)).trans (a_up_self _ _ _ _))) | exact (a_up_ne (by omega)).trans ((a_up_ne (by omega)).trans ((a_up_ne (by omega)).trans ((a_up_ne (by omega)).trans (by assumption)))) | exact (a_up_ne (by omega)).trans ((a_up_ne (by omega)).trans ((a_up_ne (by omega)).trans ((a_up_ne (by omega)).trans (a_up_self _ _ _ _)))) | exact (a_up_ne (by omega)).trans ((a_up_ne (by omega)).trans ((a_up_ne (by omega)).trans ((a_up_ne (by omega)).trans ((a_up_ne (by omega)).trans (by assumption))))) | exact (a_up_ne (by omega)).trans ((a_up_ne (by omega)).trans ((a_up_ne (by omega)).trans ((a_up_ne (by omega)).trans ((a_up_ne (by omega)).trans (a_up_self _ _ _ _)))))) ?_
  refine R_iload_1 dX1_dueAt_14 ?_
  refine R_iald dX1_dueAt_15 sh_87 (vp_in_nI (by omega) (by decide)) (nI_clamp (by omega)) hv ?_
  refine R_goto 20 dX1_dueAt_16 (by decide) ?_
  refine R_iret rfl dX1_dueAt_20 ⟨rfl, rfl, rfl⟩

/-- whom the first j of the members are matched with -/
def mOf (mt : Nat → Nat) (ms : Nat) : Nat → Nat
  | 0 => 0
  | j + 1 => if ms.testBit j = true then mOf mt ms j ||| mt j else mOf mt ms j
theorem mOf_lt {mt : Nat → Nat} {ms : Nat} (h : ∀ j, j < 12 → mt j < 2 ^ 12) : ∀ j, j ≤ 12 → mOf mt ms j < 2 ^ 12
  | 0, _ => (by decide : 0 < 2 ^ 12)
  | j + 1, hj => by
    show (if _ then _ else _) < _
    split
    · exact Nat.or_lt_two_pow (mOf_lt h j (by omega)) (h j (by omega))
    · exact mOf_lt h j (by omega)
theorem mOf_t {mt : Nat → Nat} {ms j : Nat} (h : ms.testBit j = true) : mOf mt ms (j + 1) = mOf mt ms j ||| mt j := if_pos h
theorem mOf_f {mt : Nat → Nat} {ms j : Nat} (h : ms.testBit j = false) : mOf mt ms (j + 1) = mOf mt ms j := if_neg (by rw [h]; decide)
set_option maxHeartbeats 4000000 in
theorem mOf_loop {mc ms kc ks : Nat} {V : aV} {mt : Nat → Nat} {g : Nat} (hB : BF V) (hM : MK V 85 mt) (hg : g < 2 ^ 12) {Q : Option Value → aS → aV → Prop} {QX : String → aS → aV → Prop} (hQ : Q (some (.int (nI (mOf mt g 12)))) Sh V) : ∀ (m j : Nat), j + m = 12 → R mX1_matchesOf 1 mc ms Q QX kc ks 4 [some (.ref 74), some (.int (nI g)), some (.int (nI (mOf mt g j))), some (.int (nI j))] [] Sh V := by
  obtain ⟨f0, f2, f3, f4⟩ := hB
  intro m
  induction m with
  | zero =>
    intro j hj
    have hj' : j = 12 := by omega
    subst hj'
    refine R_iload_3 dX1_matchesOf_4 ?_
    refine R_bipush (v := 12) dX1_matchesOf_5 (by decide) ?_
    refine R_icmp_ge 33 dX1_matchesOf_7 (by decide) (fun c7 => ?_) (fun c7 => absurd (by decide) c7)
    refine R_iload_2 dX1_matchesOf_33 ?_
    refine R_iret rfl dX1_matchesOf_34 hQ
  | succ m ih =>
    intro j hj
    have ihj := ih (j + 1) (by omega)
    have hv := (hM j (by omega)).1
    have h12 : ¬ (12 : Int32) ≤ nI j := nI_ge (a := j) (b := 12) (by omega) (by omega)
    refine R_iload_3 dX1_matchesOf_4 ?_
    refine R_bipush (v := 12) dX1_matchesOf_5 (by decide) ?_
    refine R_icmp_ge 33 dX1_matchesOf_7 (by decide) (fun c7 => absurd c7 h12) (fun c7 => ?_)
    refine R_iload_1 dX1_matchesOf_10 ?_
    refine R_iconst (v := 1) dX1_matchesOf_11 (by decide) ?_
    refine R_iload_3 dX1_matchesOf_12 ?_
    refine R_ishl dX1_matchesOf_13 ?_
    refine R_iand dX1_matchesOf_14 ?_
    refine R_if_eq 27 dX1_matchesOf_15 (by decide) (fun c15 => ?_) (fun c15 => ?_)
    · first
        | (have hb0 := bk_f (by omega) (by omega) c15
           refine R_iinc_3 rfl (by decide) dX1_matchesOf_27 rfl ?_
           rw [show nI j + Int32.ofInt 1 = nI (j + 1) from nI_1 j]
           refine R_goto 4 dX1_matchesOf_30 (by decide) ?_
           rw [mOf_f hb0] at ihj
           exact ihj)
        | (refine R_iinc_3 rfl (by decide) dX1_matchesOf_27 rfl ?_
           rw [show nI j + Int32.ofInt 1 = nI (j + 1) from nI_1 j]
           refine R_goto 4 dX1_matchesOf_30 (by decide) ?_
           rw [mOf_t hb] at ihj
           exact ihj)
    · have hb := bk_t (by omega) c15
      refine R_iload_2 dX1_matchesOf_18 ?_
      refine R_aload_0 dX1_matchesOf_19 ?_
      refine gfX1_22 rfl dX1_matchesOf_20 sh_74 (by first | assumption | exact a_up_self _ _ _ _ | exact (a_up_ne (by omega)).trans (by assumption) | exact (a_up_ne (by omega)).trans (a_up_self _ _ _ _) | exact (a_up_ne (by omega)).trans ((a_up_ne (by omega)).trans (by assumption)) | exact (a_up_ne (by omega)).trans ((a_up_ne (by omega)).trans (a_up_self _ _ _ _)) | exact (a_up_ne (by omega)).trans ((a_up_ne (by omega)).trans ((a_up_ne (by omega)).trans (by assumption))) | exact (a_up_ne (by omega)).trans ((a_up_ne (by omega)).trans ((a_up_ne (by omega)).trans (a_up_self _ _ _ _))) | exact (a_up_ne (by omega)).trans ((a_up_ne (by omega)).trans ((a_up_ne (by omega)).trans ((a_up_ne (by omega)).trans (by assumption)))) | exact (a_up_ne (by omega)).trans ((a_up_ne (by omega)).trans ((a_up_ne (by omega)).trans ((a_up_ne (by omega)).trans (a_up_self _ _ _ _)))) | exact (a_up_ne (by omega)).trans ((a_up_ne (by omega)).trans ((a_up_ne (by omega)).trans ((a_up_ne (by omega)).trans ((a_up_ne (by omega)).trans (by assumption))))) | exact (a_up_ne (by omega)).trans ((a_up_ne (by omega)).trans ((a_up_ne (by omega)).trans ((a_up_ne (by omega)).trans ((a_up_ne (by omega)).trans (a_up_self _ _ _ _)))))) ?_
      refine R_iload_3 dX1_matchesOf_23 ?_
      refine R_iald dX1_matchesOf_24 sh_85 (vp_in_nI (by omega) (by decide)) (nI_clamp (by omega)) hv ?_
      refine R_ior dX1_matchesOf_25 ?_
      rw [bk_or]
      refine R_istore_2 rfl (by decide) dX1_matchesOf_26 ?_
      first
        | (have hb0 := bk_f (by omega) (by omega) c15
           refine R_iinc_3 rfl (by decide) dX1_matchesOf_27 rfl ?_
           rw [show nI j + Int32.ofInt 1 = nI (j + 1) from nI_1 j]
           refine R_goto 4 dX1_matchesOf_30 (by decide) ?_
           rw [mOf_f hb0] at ihj
           exact ihj)
        | (refine R_iinc_3 rfl (by decide) dX1_matchesOf_27 rfl ?_
           rw [show nI j + Int32.ofInt 1 = nI (j + 1) from nI_1 j]
           refine R_goto 4 dX1_matchesOf_30 (by decide) ?_
           rw [mOf_t hb] at ihj
           exact ihj)
set_option maxHeartbeats 4000000 in
theorem ct_matchesOf {V : aV} {mt : Nat → Nat} {g : Nat} (hB : BF V) (hM : MK V 85 mt) (hg : g < 2 ^ 12) : CT mX1_matchesOf 1 0 0 [.ref 74, .int (nI g)] Sh V (aRet (some (.int (nI (mOf mt g 12)))) Sh V) aNo := by
  refine CT_of (by decide +kernel) (Nat.le_of_ble_eq_true rfl) ?_
  show R _ _ _ _ _ _ _ _ 0 [some (.ref 74), some (.int (nI g)), none, none] [] _ _
  refine R_iconst (v := 0) dX1_matchesOf_0 (by decide) ?_
  refine R_istore_2 rfl (by decide) dX1_matchesOf_1 ?_
  refine R_iconst (v := 0) dX1_matchesOf_2 (by decide) ?_
  refine R_istore_3 rfl (by decide) dX1_matchesOf_3 ?_
  exact mOf_loop hB hM hg ⟨rfl, rfl, rfl⟩ 12 0 rfl

/-- the group, at most so many rounds on -/
def gLp (mt : Nat → Nat) : Nat → Nat → Nat → Nat
  | 0, g, _ => g
  | m + 1, g, b => if g = b then g else gLp mt m (g ||| mOf mt g 12) g
def gOf (mt : Nat → Nat) (a : Nat) : Nat := gLp mt 12 (2 ^ a) 0
theorem gLp_t {mt : Nat → Nat} {m g b : Nat} (h : g = b) : gLp mt m g b = g := by
  cases m with
  | zero => rfl
  | succ m => exact if_pos h
theorem gLp_f {mt : Nat → Nat} {m g b : Nat} (h : ¬ g = b) : gLp mt (m + 1) g b = gLp mt m (g ||| mOf mt g 12) g := if_neg h
theorem gLp_lt {mt : Nat → Nat} (h : ∀ j, j < 12 → mt j < 2 ^ 12) : ∀ m g b, g < 2 ^ 12 → gLp mt m g b < 2 ^ 12
  | 0, _, _, hg => hg
  | m + 1, g, b, hg => by
    show (if _ then _ else _) < _
    split
    · exact hg
    · exact gLp_lt h m _ _ (Nat.or_lt_two_pow hg (mOf_lt h 12 (Nat.le_refl _)))
theorem gOf_lt {mt : Nat → Nat} (h : ∀ j, j < 12 → mt j < 2 ^ 12) {a : Nat} (ha : a < 12) : gOf mt a < 2 ^ 12 := gLp_lt h 12 _ _ (Nat.pow_lt_pow_right (by decide) ha)
set_option maxHeartbeats 4000000 in
theorem gLp_loop {mc ms kc ks : Nat} {V : aV} {mt : Nat → Nat} {x : Int32} (hB : BF V) (hM : MK V 85 mt) : ∀ (m j g b : Nat), j + m = 12 → g < 2 ^ 12 → b < 2 ^ 12 → ∀ {Q : Option Value → aS → aV → Prop} {QX : String → aS → aV → Prop}, Q (some (.int (nI (gLp mt m g b)))) Sh V → R mX1_groupOf 2 mc ms Q QX kc ks 9 [some (.ref 74), some (.int x), some (.int (nI g)), some (.int (nI b)), some (.int (nI j))] [] Sh V := by
  intro m
  induction m with
  | zero =>
    intro j g b hj hg hb Q QX hQ
    have hj' : j = 12 := by omega
    subst hj'
    refine R_iload_4 dX1_groupOf_9 ?_
    refine R_bipush (v := 12) dX1_groupOf_11 (by decide) ?_
    refine R_icmp_ge 37 dX1_groupOf_13 (by decide) (fun c13 => ?_) (fun c13 => absurd (by decide) c13)
    refine R_iload_2 dX1_groupOf_37 ?_
    refine R_iret rfl dX1_groupOf_38 hQ
  | succ m ih =>
    intro j g b hj hg hb Q QX hQ
    have h12 : ¬ (12 : Int32) ≤ nI j := nI_ge (a := j) (b := 12) (by omega) (by omega)
    refine R_iload_4 dX1_groupOf_9 ?_
    refine R_bipush (v := 12) dX1_groupOf_11 (by decide) ?_
    refine R_icmp_ge 37 dX1_groupOf_13 (by decide) (fun c13 => absurd c13 h12) (fun c13 => ?_)
    refine R_iload_2 dX1_groupOf_16 ?_
    refine R_iload_3 dX1_groupOf_17 ?_
    refine R_icmp_eq 37 dX1_groupOf_18 (by decide) (fun c18 => ?_) (fun c18 => ?_)
    · refine R_iload_2 dX1_groupOf_37 ?_
      exact R_iret rfl dX1_groupOf_38 (by rw [gLp_t (bk_inj (by omega) (by omega) c18)] at hQ; exact hQ)
    · refine R_iload_2 dX1_groupOf_21 ?_
      refine R_istore_3 rfl (by decide) dX1_groupOf_22 ?_
      refine R_iload_2 dX1_groupOf_23 ?_
      refine R_aload_0 dX1_groupOf_24 ?_
      refine R_iload_2 dX1_groupOf_25 ?_
      refine R_callV_e (T := mX1_groupOf) (T' := mX1_matchesOf) (As := [_]) (ci := 1) okX1_matchesOf mlX1_46 rfl (by decide) sh_74 (ct_matchesOf hB hM hg) rfl (by decide) (by decide) (Nat.le_of_ble_eq_true rfl) dX1_groupOf_26 ?_
      rw [gLp_f (fun z => c18 (by rw [z]))] at hQ
      refine R_ior dX1_groupOf_29 ?_
      rw [bk_or]
      refine R_istore_2 rfl (by decide) dX1_groupOf_30 ?_
      refine R_iinc_4 rfl (by decide) dX1_groupOf_31 rfl ?_
      rw [show nI j + Int32.ofInt 1 = nI (j + 1) from nI_1 j]
      refine R_goto 9 dX1_groupOf_34 (by decide) ?_
      exact ih (j + 1) _ _ (by omega) (Nat.or_lt_two_pow hg (mOf_lt (fun j hj => (hM j hj).2) 12 (Nat.le_refl _))) hg hQ
set_option maxHeartbeats 4000000 in
theorem ct_groupOf {V : aV} {mt : Nat → Nat} {a : Nat} (hB : BF V) (hM : MK V 85 mt) (ha : a < 12) : CT mX1_groupOf 2 0 0 [.ref 74, .int (nI a)] Sh V (aRet (some (.int (nI (gOf mt a)))) Sh V) aNo := by
  refine CT_of (by decide +kernel) (Nat.le_of_ble_eq_true rfl) ?_
  show R _ _ _ _ _ _ _ _ 0 [some (.ref 74), some (.int (nI a)), none, none, none] [] _ _
  refine R_iconst (v := 1) dX1_groupOf_0 (by decide) ?_
  refine R_iload_1 dX1_groupOf_1 ?_
  refine R_ishl dX1_groupOf_2 ?_
  rw [bk_shl (by omega)]
  refine R_istore_2 rfl (by decide) dX1_groupOf_3 ?_
  refine R_iconst (v := 0) dX1_groupOf_4 (by decide) ?_
  refine R_istore_3 rfl (by decide) dX1_groupOf_5 ?_
  refine R_iconst (v := 0) dX1_groupOf_6 (by decide) ?_
  refine R_istore_4 rfl (by decide) dX1_groupOf_7 ?_
  exact gLp_loop hB hM 12 0 _ 0 rfl (Nat.pow_lt_pow_right (by decide) ha) (by decide) ⟨rfl, rfl, rfl⟩

/-- whether one of the members from j on was posted a letter for it -/
abbrev wP (po : Nat → Nat) (g r : Nat) (j : Nat) : Prop := ((List.range 12).any fun a => decide (j ≤ a) && (g.testBit a && (po a).testBit r)) = true
theorem wP_ex {po : Nat → Nat} {g r j : Nat} : wP po g r j ↔ ∃ a, j ≤ a ∧ a < 12 ∧ g.testBit a = true ∧ (po a).testBit r = true := by
  unfold wP
  rw [List.any_eq_true]
  constructor
  · rintro ⟨a, h1, h2⟩
    rw [Bool.and_eq_true, Bool.and_eq_true, decide_eq_true_eq] at h2
    exact ⟨a, h2.1, List.mem_range.1 h1, h2.2⟩
  · rintro ⟨a, h1, h2, h3⟩
    exact ⟨a, List.mem_range.2 h2, by rw [Bool.and_eq_true, Bool.and_eq_true, decide_eq_true_eq]; exact ⟨h1, h3⟩⟩
theorem wP_end {po : Nat → Nat} {g r : Nat} : ¬ wP po g r 12 := fun h => by
  obtain ⟨a, h1, h2, _⟩ := wP_ex.1 h
  omega
theorem wP_n {po : Nat → Nat} {g r j : Nat} (h : ¬ (g.testBit j = true ∧ (po j).testBit r = true)) : wP po g r j ↔ wP po g r (j + 1) := by
  rw [wP_ex, wP_ex]
  constructor
  · rintro ⟨a, h1, h2, h3⟩
    refine ⟨a, ?_, h2, h3⟩
    rcases Nat.lt_or_eq_of_le h1 with q | q
    · exact q
    · subst q; exact absurd h3 h
  · rintro ⟨a, h1, h2, h3⟩
    exact ⟨a, by omega, h2, h3⟩
theorem bI_iff {P P' : Prop} [Decidable P] [Decidable P'] (h : P ↔ P') : bI P = bI P' := by
  by_cases q : P
  · rw [bI_t q, bI_t (h.1 q)]
  · rw [bI_f q, bI_f (fun z => q (h.2 z))]
set_option maxHeartbeats 4000000 in
theorem wP_loop {mc ms kc ks : Nat} {V : aV} {po : Nat → Nat} {g r : Nat} (hB : BF V) (hM : MK V 86 po) (hg : g < 2 ^ 12) (hr : r < 12) {Q : Option Value → aS → aV → Prop} {QX : String → aS → aV → Prop} : ∀ (m j : Nat), j + m = 12 → Q (some (.int (bI (wP po g r j)))) Sh V → R mX1_wasPosted 1 mc ms Q QX kc ks 2 [some (.ref 74), some (.int (nI g)), some (.int (nI r)), some (.int (nI j))] [] Sh V := by
  obtain ⟨f0, f2, f3, f4⟩ := hB
  intro m
  induction m with
  | zero =>
    intro j hj hQ
    have hj' : j = 12 := by omega
    subst hj'
    rw [bI_f wP_end] at hQ
    refine R_iload_3 dX1_wasPosted_2 ?_
    refine R_bipush (v := 12) dX1_wasPosted_3 (by decide) ?_
    refine R_icmp_ge 37 dX1_wasPosted_5 (by decide) (fun c5 => ?_) (fun c5 => absurd (by decide) c5)
    refine R_iconst (v := 0) dX1_wasPosted_37 (by decide) ?_
    refine R_zret rfl (by first | rfl | assumption) dX1_wasPosted_38 hQ
  | succ m ih =>
    intro j hj hQ
    have hv := (hM j (by omega)).1
    have hlt := (hM j (by omega)).2
    have h12 : ¬ (12 : Int32) ≤ nI j := nI_ge (a := j) (b := 12) (by omega) (by omega)
    refine R_iload_3 dX1_wasPosted_2 ?_
    refine R_bipush (v := 12) dX1_wasPosted_3 (by decide) ?_
    refine R_icmp_ge 37 dX1_wasPosted_5 (by decide) (fun c5 => absurd c5 h12) (fun c5 => ?_)
    refine R_iload_1 dX1_wasPosted_8 ?_
    refine R_iconst (v := 1) dX1_wasPosted_9 (by decide) ?_
    refine R_iload_3 dX1_wasPosted_10 ?_
    refine R_ishl dX1_wasPosted_11 ?_
    refine R_iand dX1_wasPosted_12 ?_
    refine R_if_eq 31 dX1_wasPosted_13 (by decide) (fun c13 => ?_) (fun c13 => ?_)
    · refine R_iinc_3 rfl (by decide) dX1_wasPosted_31 rfl ?_
      rw [show nI j + Int32.ofInt 1 = nI (j + 1) from nI_1 j]
      refine R_goto 2 dX1_wasPosted_34 (by decide) ?_
      have hn : ¬ (g.testBit j = true ∧ (po j).testBit r = true) := by
        rintro ⟨q1, q2⟩
        first
          | (rw [bk_f (by omega) (by omega) c26] at q2; exact absurd q2 (by decide))
          | (rw [bk_f (by omega) (by omega) c13] at q1; exact absurd q1 (by decide))
      rw [bI_iff (wP_n hn)] at hQ
      exact ih (j + 1) (by omega) hQ
    · refine R_aload_0 dX1_wasPosted_16 ?_
      refine gfX1_26 rfl dX1_wasPosted_17 sh_74 (by first | assumption | exact a_up_self _ _ _ _ | exact (a_up_ne (by omega)).trans (by assumption) | exact (a_up_ne (by omega)).trans (a_up_self _ _ _ _) | exact (a_up_ne (by omega)).trans ((a_up_ne (by omega)).trans (by assumption)) | exact (a_up_ne (by omega)).trans ((a_up_ne (by omega)).trans (a_up_self _ _ _ _)) | exact (a_up_ne (by omega)).trans ((a_up_ne (by omega)).trans ((a_up_ne (by omega)).trans (by assumption))) | exact (a_up_ne (by omega)).trans ((a_up_ne (by omega)).trans ((a_up_ne (by omega)).trans (a_up_self _ _ _ _))) | exact (a_up_ne (by omega)).trans ((a_up_ne (by omega)).trans ((a_up_ne (by omega)).trans ((a_up_ne (by omega)).trans (by assumption)))) | exact (a_up_ne (by omega)).trans ((a_up_ne (by omega)).trans ((a_up_ne (by omega)).trans ((a_up_ne (by omega)).trans (a_up_self _ _ _ _)))) | exact (a_up_ne (by omega)).trans ((a_up_ne (by omega)).trans ((a_up_ne (by omega)).trans ((a_up_ne (by omega)).trans ((a_up_ne (by omega)).trans (by assumption))))) | exact (a_up_ne (by omega)).trans ((a_up_ne (by omega)).trans ((a_up_ne (by omega)).trans ((a_up_ne (by omega)).trans ((a_up_ne (by omega)).trans (a_up_self _ _ _ _)))))) ?_
      refine R_iload_3 dX1_wasPosted_20 ?_
      refine R_iald dX1_wasPosted_21 sh_86 (vp_in_nI (by omega) (by decide)) (nI_clamp (by omega)) hv ?_
      refine R_iconst (v := 1) dX1_wasPosted_22 (by decide) ?_
      refine R_iload_2 dX1_wasPosted_23 ?_
      refine R_ishl dX1_wasPosted_24 ?_
      refine R_iand dX1_wasPosted_25 ?_
      refine R_if_eq 31 dX1_wasPosted_26 (by decide) (fun c26 => ?_) (fun c26 => ?_)
      · refine R_iinc_3 rfl (by decide) dX1_wasPosted_31 rfl ?_
        rw [show nI j + Int32.ofInt 1 = nI (j + 1) from nI_1 j]
        refine R_goto 2 dX1_wasPosted_34 (by decide) ?_
        have hn : ¬ (g.testBit j = true ∧ (po j).testBit r = true) := by
          rintro ⟨q1, q2⟩
          first
            | (rw [bk_f (by omega) (by omega) c26] at q2; exact absurd q2 (by decide))
            | (rw [bk_f (by omega) (by omega) c13] at q1; exact absurd q1 (by decide))
        rw [bI_iff (wP_n hn)] at hQ
        exact ih (j + 1) (by omega) hQ
      · refine R_iconst (v := 1) dX1_wasPosted_29 (by decide) ?_
        refine R_zret rfl (by first | rfl | assumption) dX1_wasPosted_30 (by rw [bI_t (wP_ex.2 ⟨j, Nat.le_refl _, by omega, bk_t (by omega) c13, bk_t (by omega) c26⟩)] at hQ; exact hQ)
set_option maxHeartbeats 4000000 in
theorem ct_wasPosted {V : aV} {po : Nat → Nat} {g r : Nat} (hB : BF V) (hM : MK V 86 po) (hg : g < 2 ^ 12) (hr : r < 12) : CT mX1_wasPosted 1 0 0 [.ref 74, .int (nI g), .int (nI r)] Sh V (aRet (some (.int (bI (wP po g r 0)))) Sh V) aNo := by
  refine CT_of (by decide +kernel) (Nat.le_of_ble_eq_true rfl) ?_
  show R _ _ _ _ _ _ _ _ 0 [some (.ref 74), some (.int (nI g)), some (.int (nI r)), none] [] _ _
  refine R_iconst (v := 0) dX1_wasPosted_0 (by decide) ?_
  refine R_istore_3 rfl (by decide) dX1_wasPosted_1 ?_
  exact wP_loop hB hM hg hr 12 0 rfl ⟨rfl, rfl, rfl⟩

/-- the reasons' masks, noted for the members below j -/
def nP (po : Nat → Nat) (g r j : Nat) : Nat → Nat := fun a => if a < j ∧ g.testBit a = true then po a ||| 2 ^ r else po a
theorem nP_0 {po : Nat → Nat} {g r : Nat} : nP po g r 0 = po := funext fun a => if_neg fun h => absurd h.1 (Nat.not_lt_zero a)
theorem nP_at {po : Nat → Nat} {g r j : Nat} : nP po g r j j = po j := if_neg fun h => absurd h.1 (Nat.lt_irrefl j)
theorem nP_f {po : Nat → Nat} {g r j : Nat} (h : g.testBit j = false) : nP po g r (j + 1) = nP po g r j := by
  funext a
  unfold nP
  by_cases e : a < j ∧ g.testBit a = true
  · rw [if_pos e, if_pos ⟨by omega, e.2⟩]
  · rw [if_neg e]
    by_cases e2 : a = j
    · subst e2; rw [if_neg (by rw [h]; simp)]
    · rw [if_neg (fun z => e ⟨by omega, z.2⟩)]
theorem nP_t {po : Nat → Nat} {g r j : Nat} (h : g.testBit j = true) (a : Nat) : nP po g r (j + 1) a = if a = j then po j ||| 2 ^ r else nP po g r j a := by
  by_cases e2 : a = j
  · subst e2
    rw [if_pos rfl]
    exact if_pos ⟨Nat.lt_succ_self a, h⟩
  · rw [if_neg e2]
    unfold nP
    by_cases e : a < j ∧ g.testBit a = true
    · rw [if_pos e, if_pos ⟨by omega, e.2⟩]
    · rw [if_neg e, if_neg (fun z => e ⟨by omega, z.2⟩)]
theorem MK.set {V : aV} {b : Nat} {m m' : Nat → Nat} {j x : Nat} (h : MK V b m) (hx : x < 2 ^ 12) (e : ∀ a, m' a = if a = j then x else m a) : MK (a_up V b j (.int (nI x))) b m' := by
  intro a ha
  rw [e a]
  by_cases q : a = j
  · subst q
    rw [if_pos rfl]
    exact ⟨a_up_self _ _ _ _, hx⟩
  · rw [if_neg q, a_up_ne (Or.inr q)]
    exact h a ha
/-- only the row b changes -/
def Fr0 (V V' : aV) (b : Nat) : Prop := ∀ a, a ≠ b → V' a = V a
set_option maxHeartbeats 4000000 in
theorem nP_loop {mc ms kc ks : Nat} {V0 : aV} {po : Nat → Nat} {g r : Nat} (hg : g < 2 ^ 12) (hr : r < 12) {Q : Option Value → aS → aV → Prop} {QX : String → aS → aV → Prop} (hQ : ∀ V', MK V' 86 (nP po g r 12) → Fr0 V0 V' 86 → Q none Sh V') : ∀ (m j : Nat) (V : aV), j + m = 12 → BF V → MK V 86 (nP po g r j) → Fr0 V0 V 86 → R mX1_notePosted 1 mc ms Q QX kc ks 2 [some (.ref 74), some (.int (nI g)), some (.int (nI r)), some (.int (nI j))] [] Sh V := by
  intro m
  induction m with
  | zero =>
    intro j V hj hB hM hF
    have hj' : j = 12 := by omega
    subst hj'
    refine R_iload_3 dX1_notePosted_2 ?_
    refine R_bipush (v := 12) dX1_notePosted_3 (by decide) ?_
    refine R_icmp_ge 34 dX1_notePosted_5 (by decide) (fun c5 => ?_) (fun c5 => absurd (by decide) c5)
    refine R_vret rfl dX1_notePosted_34 (hQ V hM hF)
  | succ m ih =>
    intro j V hj hB hM hF
    have hB' := hB
    obtain ⟨f0, f2, f3, f4⟩ := hB'
    have hv := (hM j (by omega)).1
    have hlt := (hM j (by omega)).2
    rw [nP_at] at hv hlt
    have h12 : ¬ (12 : Int32) ≤ nI j := nI_ge (a := j) (b := 12) (by omega) (by omega)
    refine R_iload_3 dX1_notePosted_2 ?_
    refine R_bipush (v := 12) dX1_notePosted_3 (by decide) ?_
    refine R_icmp_ge 34 dX1_notePosted_5 (by decide) (fun c5 => absurd c5 h12) (fun c5 => ?_)
    refine R_iload_1 dX1_notePosted_8 ?_
    refine R_iconst (v := 1) dX1_notePosted_9 (by decide) ?_
    refine R_iload_3 dX1_notePosted_10 ?_
    refine R_ishl dX1_notePosted_11 ?_
    refine R_iand dX1_notePosted_12 ?_
    refine R_if_eq 28 dX1_notePosted_13 (by decide) (fun c13 => ?_) (fun c13 => ?_)
    · first
        | (have hb0 := bk_f (by omega) (by omega) c13
           refine R_iinc_3 rfl (by decide) dX1_notePosted_28 rfl ?_
           rw [show nI j + Int32.ofInt 1 = nI (j + 1) from nI_1 j]
           refine R_goto 2 dX1_notePosted_31 (by decide) ?_
           exact ih (j + 1) V (by omega) hB (by rw [nP_f hb0]; exact hM) hF)
        | (refine R_iinc_3 rfl (by decide) dX1_notePosted_28 rfl ?_
           rw [show nI j + Int32.ofInt 1 = nI (j + 1) from nI_1 j]
           refine R_goto 2 dX1_notePosted_31 (by decide) ?_
           exact ih (j + 1) _ (by omega) ⟨(a_up_ne (Or.inl (by decide))).trans f0, (a_up_ne (Or.inl (by decide))).trans f2, (a_up_ne (Or.inl (by decide))).trans f3, (a_up_ne (Or.inl (by decide))).trans f4⟩ (hM.set ex (nP_t hb)) (fun a ha => (a_up_row ha).trans (hF a ha)))
    · refine R_aload_0 dX1_notePosted_16 ?_
      refine gfX1_26 rfl dX1_notePosted_17 sh_74 (by first | assumption | exact a_up_self _ _ _ _ | exact (a_up_ne (by omega)).trans (by assumption) | exact (a_up_ne (by omega)).trans (a_up_self _ _ _ _) | exact (a_up_ne (by omega)).trans ((a_up_ne (by omega)).trans (by assumption)) | exact (a_up_ne (by omega)).trans ((a_up_ne (by omega)).trans (a_up_self _ _ _ _)) | exact (a_up_ne (by omega)).trans ((a_up_ne (by omega)).trans ((a_up_ne (by omega)).trans (by assumption))) | exact (a_up_ne (by omega)).trans ((a_up_ne (by omega)).trans ((a_up_ne (by omega)).trans (a_up_self _ _ _ _))) | exact (a_up_ne (by omega)).trans ((a_up_ne (by omega)).trans ((a_up_ne (by omega)).trans ((a_up_ne (by omega)).trans (by assumption)))) | exact (a_up_ne (by omega)).trans ((a_up_ne (by omega)).trans ((a_up_ne (by omega)).trans ((a_up_ne (by omega)).trans (a_up_self _ _ _ _)))) | exact (a_up_ne (by omega)).trans ((a_up_ne (by omega)).trans ((a_up_ne (by omega)).trans ((a_up_ne (by omega)).trans ((a_up_ne (by omega)).trans (by assumption))))) | exact (a_up_ne (by omega)).trans ((a_up_ne (by omega)).trans ((a_up_ne (by omega)).trans ((a_up_ne (by omega)).trans ((a_up_ne (by omega)).trans (a_up_self _ _ _ _)))))) ?_
      refine R_iload_3 dX1_notePosted_20 ?_
      refine R_dup2_11 dX1_notePosted_21 rfl rfl ?_
      refine R_iald dX1_notePosted_22 sh_86 (vp_in_nI (by omega) (by decide)) (nI_clamp (by omega)) hv ?_
      refine R_iconst (v := 1) dX1_notePosted_23 (by decide) ?_
      refine R_iload_2 dX1_notePosted_24 ?_
      refine R_ishl dX1_notePosted_25 ?_
      rw [bk_shl (by omega)]
      refine R_ior dX1_notePosted_26 ?_
      rw [bk_or]
      have hb := bk_t (by omega) c13
      have ex : po j ||| 2 ^ r < 2 ^ 12 := Nat.or_lt_two_pow hlt (Nat.pow_lt_pow_right (by decide) hr)
      refine R_iast dX1_notePosted_27 sh_86 (vp_in_nI (by omega) (by decide)) (nI_clamp (by omega)) ?_
      first
        | (have hb0 := bk_f (by omega) (by omega) c13
           refine R_iinc_3 rfl (by decide) dX1_notePosted_28 rfl ?_
           rw [show nI j + Int32.ofInt 1 = nI (j + 1) from nI_1 j]
           refine R_goto 2 dX1_notePosted_31 (by decide) ?_
           exact ih (j + 1) V (by omega) hB (by rw [nP_f hb0]; exact hM) hF)
        | (refine R_iinc_3 rfl (by decide) dX1_notePosted_28 rfl ?_
           rw [show nI j + Int32.ofInt 1 = nI (j + 1) from nI_1 j]
           refine R_goto 2 dX1_notePosted_31 (by decide) ?_
           exact ih (j + 1) _ (by omega) ⟨(a_up_ne (Or.inl (by decide))).trans f0, (a_up_ne (Or.inl (by decide))).trans f2, (a_up_ne (Or.inl (by decide))).trans f3, (a_up_ne (Or.inl (by decide))).trans f4⟩ (hM.set ex (nP_t hb)) (fun a ha => (a_up_row ha).trans (hF a ha)))
set_option maxHeartbeats 4000000 in
theorem ct_notePosted {V : aV} {po : Nat → Nat} {g r : Nat} (hB : BF V) (hM : MK V 86 po) (hg : g < 2 ^ 12) (hr : r < 12) : CT mX1_notePosted 1 0 0 [.ref 74, .int (nI g), .int (nI r)] Sh V (fun v S' V' => none = v ∧ Sh = S' ∧ MK V' 86 (nP po g r 12) ∧ Fr0 V V' 86) aNo := by
  refine CT_of (by decide +kernel) (Nat.le_of_ble_eq_true rfl) ?_
  show R _ _ _ _ _ _ _ _ 0 [some (.ref 74), some (.int (nI g)), some (.int (nI r)), none] [] _ _
  refine R_iconst (v := 0) dX1_notePosted_0 (by decide) ?_
  refine R_istore_3 rfl (by decide) dX1_notePosted_1 ?_
  exact nP_loop hg hr (fun V9 q1 q2 => ⟨rfl, rfl, q1, q2⟩) 12 0 _ rfl hB (by rw [nP_0]; exact hM) (fun _ _ => rfl)

/-- a match turned -/
def tM (mt : Nat → Nat) (a b : Nat) : Nat → Nat := fun j => if j = b then mt b ^^^ 2 ^ a else if j = a then mt a ^^^ 2 ^ b else mt j
set_option maxHeartbeats 4000000 in
theorem ct_turnMatch {V : aV} {mt : Nat → Nat} {a b : Nat} (hB : BF V) (hM : MK V 85 mt) (ha : a < 12) (hb : b < 12) (hab : a ≠ b) : CT mX1_turnMatch 1 0 0 [.ref 74, .int (nI a), .int (nI b)] Sh V (fun v S' V' => none = v ∧ Sh = S' ∧ MK V' 85 (tM mt a b) ∧ Fr0 V V' 85) aNo := by
  refine CT_of (by decide +kernel) (Nat.le_of_ble_eq_true rfl) ?_
  show R _ _ _ _ _ _ _ _ 0 [some (.ref 74), some (.int (nI a)), some (.int (nI b))] [] _ _
  obtain ⟨f0, f2, f3, f4⟩ := hB
  have hva := (hM a ha).1
  have hlt := (hM a ha).2
  have h0 : ¬ nI a < 0 := nI_pos (by omega)
  have h12 : ¬ (12 : Int32) ≤ nI a := nI_ge (a := a) (b := 12) (by omega) (by omega)
  have hvb := (hM b hb).1
  have hlb := (hM b hb).2
  have h20 : ¬ nI b < 0 := nI_pos (by omega)
  have h212 : ¬ (12 : Int32) ≤ nI b := nI_ge (a := b) (b := 12) (by omega) (by omega)
  have ea : mt a ^^^ 2 ^ b < 2 ^ 12 := Nat.xor_lt_two_pow hlt (Nat.pow_lt_pow_right (by decide) hb)
  have eb : mt b ^^^ 2 ^ a < 2 ^ 12 := Nat.xor_lt_two_pow hlb (Nat.pow_lt_pow_right (by decide) ha)
  refine R_iload_1 dX1_turnMatch_0 ?_
  refine R_if_lt 44 dX1_turnMatch_1 (by decide) (fun c1 => absurd c1 h0) (fun c1 => ?_)
  refine R_iload_1 dX1_turnMatch_4 ?_
  refine R_bipush (v := 12) dX1_turnMatch_5 (by decide) ?_
  refine R_icmp_ge 44 dX1_turnMatch_7 (by decide) (fun c7 => absurd c7 h12) (fun c7 => ?_)
  refine R_iload_2 dX1_turnMatch_10 ?_
  refine R_if_lt 44 dX1_turnMatch_11 (by decide) (fun c11 => absurd c11 h20) (fun c11 => ?_)
  refine R_iload_2 dX1_turnMatch_14 ?_
  refine R_bipush (v := 12) dX1_turnMatch_15 (by decide) ?_
  refine R_icmp_ge 44 dX1_turnMatch_17 (by decide) (fun c17 => absurd c17 h212) (fun c17 => ?_)
  refine R_aload_0 dX1_turnMatch_20 ?_
  refine gfX1_22 rfl dX1_turnMatch_21 sh_74 f2 ?_
  refine R_iload_1 dX1_turnMatch_24 ?_
  refine R_dup2_11 dX1_turnMatch_25 rfl rfl ?_
  refine R_iald dX1_turnMatch_26 sh_85 (vp_in_nI (by omega) (by decide)) (nI_clamp (by omega)) hva ?_
  refine R_iconst (v := 1) dX1_turnMatch_27 (by decide) ?_
  refine R_iload_2 dX1_turnMatch_28 ?_
  refine R_ishl dX1_turnMatch_29 ?_
  rw [bk_shl (by omega)]
  refine R_ixor dX1_turnMatch_30 ?_
  rw [bk_xor]
  refine R_iast dX1_turnMatch_31 sh_85 (vp_in_nI (by omega) (by decide)) (nI_clamp (by omega)) ?_
  refine R_aload_0 dX1_turnMatch_32 ?_
  refine gfX1_22 rfl dX1_turnMatch_33 sh_74 ((a_up_ne (Or.inl (by decide))).trans f2) ?_
  refine R_iload_2 dX1_turnMatch_36 ?_
  refine R_dup2_11 dX1_turnMatch_37 rfl rfl ?_
  refine R_iald dX1_turnMatch_38 sh_85 (vp_in_nI (by omega) (by decide)) (nI_clamp (by omega)) ((a_up_ne (Or.inr (Ne.symm hab))).trans hvb) ?_
  refine R_iconst (v := 1) dX1_turnMatch_39 (by decide) ?_
  refine R_iload_1 dX1_turnMatch_40 ?_
  refine R_ishl dX1_turnMatch_41 ?_
  rw [bk_shl (by omega)]
  refine R_ixor dX1_turnMatch_42 ?_
  rw [bk_xor]
  refine R_iast dX1_turnMatch_43 sh_85 (vp_in_nI (by omega) (by decide)) (nI_clamp (by omega)) ?_
  have hM1 := hM.set (m' := fun j => if j = a then mt a ^^^ 2 ^ b else mt j) ea (fun _ => rfl)
  have hM2 := hM1.set (m' := tM mt a b) eb (fun _ => rfl)
  refine R_vret rfl dX1_turnMatch_44 ⟨rfl, rfl, hM2, fun j hj => (a_up_row hj).trans (a_up_row hj)⟩

