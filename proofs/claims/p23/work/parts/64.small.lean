/-! ===== the law: its small methods ===== -/
set_option maxHeartbeats 4000000 in
theorem lo_loop {mc ms kc ks : Nat} {S : aS} {V : aV} {g a : Nat} (hg : g < 2 ^ 12) (ha : a < 12) (h1 : g.testBit a = true) (h0 : ∀ i, i < a → g.testBit i = false) {Q : Option Value → aS → aV → Prop} {QX : String → aS → aV → Prop} (hQ : Q (some (.int (nI a))) S V) : ∀ (m i : Nat), i + m = a → R mL_first 0 mc ms Q QX kc ks 2 [some (.int (nI g)), some (.int (nI i))] [] S V := by
  intro m
  induction m with
  | zero =>
    intro i hi
    have hi' : i = a := by omega
    subst hi'
    refine R_iload_0 dL_first_2 ?_
    refine R_iload_1 dL_first_3 ?_
    refine R_ishr dL_first_4 ?_
    refine R_iconst (v := 1) dL_first_5 (by decide) ?_
    refine R_iand dL_first_6 ?_
    rw [mb_sh (by omega) (by omega), bI_t h1]
    refine R_if_ne 16 dL_first_7 (by decide) (fun c7 => ?_) (fun c7 => absurd c7 (by decide))
    refine R_iload_1 dL_first_16 ?_
    refine R_iret rfl dL_first_17 hQ
  | succ m ih =>
    intro i hi
    have hb := Bool.eq_false_iff.1 (h0 i (by omega))
    refine R_iload_0 dL_first_2 ?_
    refine R_iload_1 dL_first_3 ?_
    refine R_ishr dL_first_4 ?_
    refine R_iconst (v := 1) dL_first_5 (by decide) ?_
    refine R_iand dL_first_6 ?_
    rw [mb_sh (by omega) (by omega), bI_f hb]
    refine R_if_ne 16 dL_first_7 (by decide) (fun c7 => absurd rfl c7) (fun c7 => ?_)
    refine R_iinc_1 rfl (by decide) dL_first_10 rfl ?_
    rw [show nI i + Int32.ofInt 1 = nI (i + 1) from nI_1 i]
    refine R_goto 2 dL_first_13 (by decide) ?_
    exact ih (i + 1) (by omega)
set_option maxHeartbeats 4000000 in
theorem ct_first {S : aS} {V : aV} {g a : Nat} (hg : g < 2 ^ 12) (ha : a < 12) (h1 : g.testBit a = true) (h0 : ∀ i, i < a → g.testBit i = false) : CT mL_first 0 0 0 [.int (nI g)] S V (aRet (some (.int (nI a))) S V) aNo := by
  refine CT_of (by decide +kernel) (Nat.le_of_ble_eq_true rfl) ?_
  show R _ _ _ _ _ _ _ _ 0 [some (.int (nI g)), none] [] _ _
  refine R_iconst (v := 0) dL_first_0 (by decide) ?_
  refine R_istore_1 rfl (by decide) dL_first_1 ?_
  exact lo_loop hg ha h1 h0 ⟨rfl, rfl, rfl⟩ a 0 (by omega)
set_option maxHeartbeats 4000000 in
theorem mn_loop {mc ms kc ks : Nat} {S : aS} {V : aV} {g : Nat} (hg : g < 2 ^ 12) {Q : Option Value → aS → aV → Prop} {QX : String → aS → aV → Prop} (hQ : Q (some (.int (nI (bcn g 12)))) S V) : ∀ (m j : Nat), j + m = 12 → R mL_many 0 mc ms Q QX kc ks 4 [some (.int (nI g)), some (.int (nI (bcn g j))), some (.int (nI j))] [] S V := by
  intro m
  induction m with
  | zero =>
    intro j hj
    have hj' : j = 12 := by omega
    subst hj'
    refine R_iload_2 dL_many_4 ?_
    refine R_bipush (v := 12) dL_many_5 (by decide) ?_
    refine R_icmp_ge 24 dL_many_7 (by decide) (fun c7 => ?_) (fun c7 => absurd (by decide) c7)
    refine R_iload_1 dL_many_24 ?_
    refine R_iret rfl dL_many_25 hQ
  | succ m ih =>
    intro j hj
    have b9 : ¬ (12 : Int32) ≤ nI j := nI_ge (a := j) (b := 12) (by omega) (by omega)
    refine R_iload_2 dL_many_4 ?_
    refine R_bipush (v := 12) dL_many_5 (by decide) ?_
    refine R_icmp_ge 24 dL_many_7 (by decide) (fun c7 => absurd c7 b9) (fun c7 => ?_)
    refine R_iload_1 dL_many_10 ?_
    refine R_iload_0 dL_many_11 ?_
    refine R_iload_2 dL_many_12 ?_
    refine R_ishr dL_many_13 ?_
    refine R_iconst (v := 1) dL_many_14 (by decide) ?_
    refine R_iand dL_many_15 ?_
    rw [mb_sh (by omega) (by omega)]
    refine R_iadd dL_many_16 ?_
    rw [bcn_s]
    refine R_istore_1 rfl (by decide) dL_many_17 ?_
    refine R_iinc_2 rfl (by decide) dL_many_18 rfl ?_
    rw [show nI j + Int32.ofInt 1 = nI (j + 1) from nI_1 j]
    refine R_goto 4 dL_many_21 (by decide) ?_
    exact ih (j + 1) (by omega)
set_option maxHeartbeats 4000000 in
theorem ct_many {S : aS} {V : aV} {g : Nat} (hg : g < 2 ^ 12) : CT mL_many 0 0 0 [.int (nI g)] S V (aRet (some (.int (nI (bcn g 12)))) S V) aNo := by
  refine CT_of (by decide +kernel) (Nat.le_of_ble_eq_true rfl) ?_
  show R _ _ _ _ _ _ _ _ 0 [some (.int (nI g)), none, none] [] _ _
  refine R_iconst (v := 0) dL_many_0 (by decide) ?_
  refine R_istore_1 rfl (by decide) dL_many_1 ?_
  refine R_iconst (v := 0) dL_many_2 (by decide) ?_
  refine R_istore_2 rfl (by decide) dL_many_3 ?_
  exact mn_loop hg ⟨rfl, rfl, rfl⟩ 12 0 (by omega)
set_option maxHeartbeats 4000000 in
theorem ct_cell {S : aS} {V : aV} {k : Nat} (hk : k < 1000) : CT mL_cell 0 0 0 [.retAddr 2, .int (nI k)] S V (fun v S' V' => (∃ x, v = some (.int x)) ∧ S = S' ∧ V = V') aNo := by
  refine CT_of (by decide +kernel) (Nat.le_of_ble_eq_true rfl) ?_
  show R _ _ _ _ _ _ _ _ 0 [some (.retAddr 2), some (.int (nI k))] [] _ _
  refine R_iload_1 dL_cell_0 ?_
  refine R_tload_0 dL_cell_1 ?_
  intro p l e s m args below meth c H locs cells slots D cA o x0 ls C K hl hP hz hS ho h1 h2
  obtain ⟨L, xs, hL, hb, hx⟩ := K.2.2.2.2.2.2.1.2
  have hlt : x0 2 < s.heap.size := Nat.lt_of_lt_of_le hb ho
  refine va_slen C.1 C.2.1 hx hlt (Nat.not_le_of_lt hb) hS dL_cell_2 ?_
  have go : R mL_cell 0 0 0 (fun v S' V' => (∃ x, v = some (.int x)) ∧ S = S' ∧ V = V') aNo 0 0 12 [some (.retAddr 2), some (.int (nI k))] [] S V := by
    refine R_ldc dL_cell_12 cwL_7 ?_
    refine R_iload_1 dL_cell_14 ?_
    refine R_bipush (v := 61) dL_cell_15 (by decide) ?_
    refine R_iadd dL_cell_17 ?_
    refine R_imul dL_cell_18 ?_
    refine R_ldc dL_cell_19 cwL_8 ?_
    refine R_iadd dL_cell_21 ?_
    refine R_iret rfl dL_cell_22 ⟨⟨_, rfl⟩, rfl, rfl⟩
  refine lv_icmp_ge C.1 C.2.1 dL_cell_3 (by decide) (fun q => go p l e s m args below meth c H locs cells slots D cA o x0 ls C K hl hP hz hS ho h1 h2) (fun q => ?_)
  have hkL : k < L := Nat.lt_of_not_le fun z => q (nI_le z (by omega))
  refine lv_aload_n C.1 C.2.1 dL_cell_6 rfl (hl.2.2 0 _ rfl) ?_
  refine lv_iload_n C.1 C.2.1 dL_cell_7 rfl (hl.2.2 1 _ rfl) ?_
  refine va_sld C.1 C.2.1 hx hlt (Nat.not_le_of_lt hb) hS (vp_in_nI hkL (by omega)) dL_cell_8 ?_
  refine R_goto (st := [.int _]) (kc := 0) (ks := 0) 22 dL_cell_9 (by decide) ?_ p l e s m args below meth c H locs cells slots D cA o x0 ls C K hl hP hz hS ho h1 h2
  exact R_iret rfl dL_cell_22 ⟨⟨_, rfl⟩, rfl, rfl⟩
set_option maxHeartbeats 4000000 in
theorem ct_low {S : aS} {V : aV} {n : Nat} (v : Int32) (h0 : 0 < n) (hn : n < 2 ^ 31) : CT mL_low 0 0 0 [.int v, .int (nI n)] S V (fun u S' V' => ∃ j, j < n ∧ some (.int (nI j)) = u ∧ S = S' ∧ V = V') aNo := by
  refine CT_of (by decide +kernel) (Nat.le_of_ble_eq_true rfl) ?_
  show R _ _ _ _ _ _ _ _ 0 [some (.int v), some (.int (nI n))] [] _ _
  refine R_iload_0 dL_low_0 ?_
  refine R_ldc dL_low_1 cwL_9 ?_
  refine R_iand dL_low_3 ?_
  obtain ⟨j, hj, ej⟩ := pk_andE v (m := 2147483647) 31 (by decide)
  rw [ej]
  refine R_iload_1 dL_low_4 ?_
  refine R_irem dL_low_5 (nI_ne0 h0 hn) ?_
  rw [pk_rem hj h0 hn]
  exact R_iret rfl dL_low_6 ⟨_, Nat.mod_lt _ h0, rfl, rfl, rfl⟩

/-- the law's own rows of what was told of addresses -/
def AA (V : aV) (n : Nat) (ent : Nat → EntN) : Prop := ∀ k, k < n → ∃ c d : Nat, (ent k).1 = [nI c, nI d] ∧ (ent k).2.1 = [nI (97 + k)] ∧ V 505 (5 * k) = .int (nI c) ∧ V 505 (5 * k + 1) = .int (nI d) ∧ V 505 (5 * k + 2) = .int (nI (ent k).2.2.1) ∧ V 505 (5 * k + 3) = .int (nI (ent k).2.2.2.1) ∧ V 505 (5 * k + 4) = .int (nI (ent k).2.2.2.2)
theorem AA.fr {V V' : aV} {n : Nat} {ent : Nat → EntN} (h : AA V n ent) (e : V' 505 = V 505) : AA V' n ent := by
  unfold AA
  rw [e]
  exact h
theorem ia (k j : Nat) : (5 : Int32) * nI k + nI j = nI (5 * k + j) := by
  rw [show (5 : Int32) = nI 5 from rfl, pk_mul, nI_add]
theorem i5 (k : Nat) : (5 : Int32) * nI k = nI (5 * k) := by
  rw [show (5 : Int32) = nI 5 from rfl, pk_mul]
set_option maxHeartbeats 4000000 in
theorem pt_loop {mc ms kc ks : Nat} {V : aV} {ent : Nat → EntN} {n g : Nat} (hE : AA V n ent) (hg : g < 2 ^ 12) (hn : ∀ k, g.testBit k = true → k < n) {Q : Option Value → aS → aV → Prop} {QX : String → aS → aV → Prop} (hQ : Q (some (.int (nI ((gW ent g 12).2 4)))) Sh V) : ∀ (m j : Nat), j + m = 12 → R mL_points 0 mc ms Q QX kc ks 4 [some (.ref 505), some (.int (nI g)), some (.int (nI ((gW ent g j).2 4))), some (.int (nI j))] [] Sh V := by
  intro m
  induction m with
  | zero =>
    intro j hj
    have hj' : j = 12 := by omega
    subst hj'
    refine R_iload_3 dL_points_4 ?_
    refine R_bipush (v := 12) dL_points_5 (by decide) ?_
    refine R_icmp_ge 39 dL_points_7 (by decide) (fun c7 => ?_) (fun c7 => absurd (by decide) c7)
    refine R_iload_2 dL_points_39 ?_
    refine R_iret rfl dL_points_40 hQ
  | succ m ih =>
    intro j hj
    have b9 : ¬ (12 : Int32) ≤ nI j := nI_ge (a := j) (b := 12) (by omega) (by omega)
    have e9 := gW_4 ent g j
    refine R_iload_3 dL_points_4 ?_
    refine R_bipush (v := 12) dL_points_5 (by decide) ?_
    refine R_icmp_ge 39 dL_points_7 (by decide) (fun c7 => absurd c7 b9) (fun c7 => ?_)
    refine R_iload_2 dL_points_10 ?_
    refine R_iload_1 dL_points_11 ?_
    refine R_iload_3 dL_points_12 ?_
    refine R_ishr dL_points_13 ?_
    refine R_iconst (v := 1) dL_points_14 (by decide) ?_
    refine R_iand dL_points_15 ?_
    rw [mb_sh (by omega) (by omega)]
    refine R_iconst (v := 1) dL_points_16 (by decide) ?_
    refine R_icmp_ne 30 dL_points_17 (by decide) (fun c17 => ?_) (fun c17 => ?_)
    · refine R_iconst (v := 0) dL_points_30 (by decide) ?_
      refine R_iadd dL_points_31 ?_
      first
        | (rw [if_neg (fun z => c17 (bI_t z))] at e9
           rw [show nI ((gW ent g j).2 4) + 0 = nI ((gW ent g (j + 1)).2 4) by rw [e9]; exact Int32.add_zero _])
        | (rw [if_pos (bI_ne (fun z => by rw [c17] at z; exact absurd z (by decide)))] at e9
           rw [nI_add, ← e9])
      refine R_istore_2 rfl (by decide) dL_points_32 ?_
      refine R_iinc_3 rfl (by decide) dL_points_33 rfl ?_
      rw [show nI j + Int32.ofInt 1 = nI (j + 1) from nI_1 j]
      refine R_goto 4 dL_points_36 (by decide) ?_
      exact ih (j + 1) (by omega)
    · have hb : g.testBit j = true := bI_ne (fun z => by rw [c17] at z; exact absurd z (by decide))
      obtain ⟨c, d, -, -, -, -, -, -, a4⟩ := hE j (hn j hb)
      refine R_aload_0 dL_points_20 ?_
      refine R_iconst (v := 5) dL_points_21 (by decide) ?_
      refine R_iload_3 dL_points_22 ?_
      refine R_imul dL_points_23 ?_
      refine R_iconst (v := 4) dL_points_24 (by decide) ?_
      refine R_iadd dL_points_25 ?_
      rw [show (4 : Int32) = nI 4 from rfl, ia]
      refine R_iald dL_points_26 sh_505 (vp_in_nI (by omega) (by decide)) (nI_clamp (by omega)) a4 ?_
      refine R_goto 31 dL_points_27 (by decide) ?_
      refine R_iadd dL_points_31 ?_
      first
        | (rw [if_neg (fun z => c17 (bI_t z))] at e9
           rw [show nI ((gW ent g j).2 4) + 0 = nI ((gW ent g (j + 1)).2 4) by rw [e9]; exact Int32.add_zero _])
        | (rw [if_pos (bI_ne (fun z => by rw [c17] at z; exact absurd z (by decide)))] at e9
           rw [nI_add, ← e9])
      refine R_istore_2 rfl (by decide) dL_points_32 ?_
      refine R_iinc_3 rfl (by decide) dL_points_33 rfl ?_
      rw [show nI j + Int32.ofInt 1 = nI (j + 1) from nI_1 j]
      refine R_goto 4 dL_points_36 (by decide) ?_
      exact ih (j + 1) (by omega)
set_option maxHeartbeats 4000000 in
theorem ct_points {V : aV} {ent : Nat → EntN} {n g : Nat} (hE : AA V n ent) (hg : g < 2 ^ 12) (hn : ∀ k, g.testBit k = true → k < n) : CT mL_points 0 0 0 [.ref 505, .int (nI g)] Sh V (aRet (some (.int (nI ((gW ent g 12).2 4)))) Sh V) aNo := by
  refine CT_of (by decide +kernel) (Nat.le_of_ble_eq_true rfl) ?_
  show R _ _ _ _ _ _ _ _ 0 [some (.ref 505), some (.int (nI g)), none, none] [] _ _
  refine R_iconst (v := 0) dL_points_0 (by decide) ?_
  refine R_istore_2 rfl (by decide) dL_points_1 ?_
  refine R_iconst (v := 0) dL_points_2 (by decide) ?_
  refine R_istore_3 rfl (by decide) dL_points_3 ?_
  exact pt_loop hE hg hn ⟨rfl, rfl, rfl⟩ 12 0 (by omega)

