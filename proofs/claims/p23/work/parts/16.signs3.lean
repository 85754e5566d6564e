/-! ===== Signs: become, addNumber, becomeCleaned, unlikeSigns ===== -/
set_option maxHeartbeats 4000000 in
theorem ct_become {S : aS} {V : aV} {s q cap cq : Nat} {L G : List Int32} (hS2 : S.2 = none) (h : SL S V s cap L) (g : SL S V q cq G) (hne : s ≠ q) (hne2 : s ≠ q + 1) : CT mX9_become 2 0 0 [.ref s, .ref q] S V (SLto S V s cap (G.take cap) none) aNo := by
  refine CT_of (by decide +kernel) (Nat.le_of_ble_eq_true rfl) ?_
  show R _ _ _ _ _ _ _ _ 0 [some (.ref s), some (.ref q)] [] _ _
  refine R_aload_0 dX9_become_0 ?_
  refine R_iconst (v := 0) dX9_become_1 (by decide) ?_
  refine pfX9_13 rfl dX9_become_2 h.1 ?_
  refine R_aload_0 dX9_become_5 ?_
  refine R_aload_1 dX9_become_6 ?_
  refine R_callV (T := mX9_become) (T' := mX9_addAll) (As := [_]) (ci := 9) okX9_addAll mlX9_33 rfl (by decide) h.1 (ct_addAll hS2 h.clear (g.frame (a_up_row (by omega)) (a_up_row (by omega))) hne) rfl (by decide) (by decide) (Nat.le_of_ble_eq_true rfl) dX9_become_7 (fun v9 S9 V9 h9 => ?_) (fun E S9 V9 h9 => h9.elim)
  obtain ⟨rfl, rfl, h91, h92⟩ := h9
  refine R_vret rfl dX9_become_10 ⟨rfl, rfl, h91, Fr1.up.trans h92⟩

/-- the digits of a number -/
def dgl (x : Nat) : Nat → List Int32
  | 0 => []
  | i + 1 => nI (48 + x / 10 ^ i % 10) :: dgl x i
def dgn (x : Nat) : Nat := if 1000 ≤ x then 4 else if 100 ≤ x then 3 else if 10 ≤ x then 2 else 1
def digs (x : Nat) : List Int32 := dgl x (dgn x)
def un10 : Nat → Nat
  | 0 => 0
  | i + 1 => 10 ^ i
theorem dgn_le (x : Nat) : dgn x ≤ 4 := by unfold dgn; split; omega; split; omega; split <;> omega
theorem dgl_len (x i : Nat) : (dgl x i).length = i := by
  induction i with
  | zero => rfl
  | succ i ih => simp [dgl, ih]
theorem nI_i2c {n : Nat} (h : n < 65536) : ((nI n).toUInt32 % 65536).toInt32 = nI n := by
  rw [pk_char, pk_tn (by omega), Nat.mod_eq_of_lt h]
theorem dgc {x y : Nat} (h : ¬ nI x < nI y) (hx : x < 2 ^ 31 := by omega) (hy : y < 2 ^ 31 := by decide) : y ≤ x := Nat.not_lt.mp fun q => h ((nI_ltI hx hy).mpr q)
theorem dgd {x y : Nat} (h : nI x < nI y) (hx : x < 2 ^ 31 := by omega) (hy : y < 2 ^ 31 := by decide) : ¬ y ≤ x := Nat.not_le.mpr ((nI_ltI hx hy).mp h)
theorem nI_chr {n : Nat} (h : n < 65536) : 0 ≤ (nI n).toInt ∧ (nI n).toInt < 65536 := by
  rw [nI_toInt (by omega)]; omega

set_option maxHeartbeats 4000000 in
theorem dgl_loop {mc ms kc ks : Nat} {S : aS} {s cap x : Nat} (hx : x < 10000) : ∀ (i : Nat) (L : List Int32) (V : aV), i ≤ 4 → SL S V s cap L → L.length + i ≤ cap → ∀ {Q : Option Value → aS → aV → Prop} {QX : String → aS → aV → Prop}, (∀ V', SL S V' s cap (L ++ dgl x i) → Fr1 V V' s → Q none S V') → R mX9_addNumber 1 mc ms Q QX kc ks 37 [some (.ref s), some (.int (nI x)), some (.int (nI (un10 i)))] [] S V := by
  intro i
  induction i with
  | zero =>
    intro L V hi h hl Q QX hQ
    refine R_iload_2 dX9_addNumber_37 ?_
    refine R_if_le 63 dX9_addNumber_38 (by decide) (fun _ => ?_) (fun c => absurd (by decide) c)
    refine R_vret rfl dX9_addNumber_63 (hQ V (by rw [show dgl x 0 = [] from rfl, List.append_nil]; exact h) Fr1.refl)
  | succ i ih =>
    intro L V hi h hl Q QX hQ
    have hu : 0 < un10 (i + 1) := Nat.pow_pos (by decide)
    have hu3 : un10 (i + 1) ≤ 1000 := (by decide : ∀ i, i < 4 → un10 (i + 1) ≤ 1000) i (by omega)
    have hu2 : un10 (i + 1) / 10 = un10 i := (by decide : ∀ i, i < 4 → un10 (i + 1) / 10 = un10 i) i (by omega)
    have hu0 : ¬ nI (un10 (i + 1)) = 0 := nI_ne0 hu (by omega)
    have hlt : x / un10 (i + 1) ≤ x := Nat.div_le_self _ _
    have hm : x / un10 (i + 1) % 10 < 10 := Nat.mod_lt _ (by decide)
    have hd : 48 + x / un10 (i + 1) % 10 < 65536 := by omega
    refine R_iload_2 dX9_addNumber_37 ?_
    refine R_if_le 63 dX9_addNumber_38 (by decide) (fun c38 => absurd c38 (nI_nle hu (by omega))) (fun c38 => ?_)
    refine R_aload_0 dX9_addNumber_41 ?_
    refine R_bipush (v := 48) dX9_addNumber_42 (by decide) ?_
    refine R_iload_1 dX9_addNumber_44 ?_
    refine R_iload_2 dX9_addNumber_45 ?_
    refine R_idiv dX9_addNumber_46 hu0 ?_
    rw [pk_div (by omega) hu (by omega)]
    refine R_bipush (v := 10) dX9_addNumber_47 (by decide) ?_
    refine R_irem dX9_addNumber_49 (by decide) ?_
    rw [show (10 : Int32) = nI 10 from rfl, pk_rem (by omega) (by decide) (by decide)]
    refine R_iadd dX9_addNumber_50 ?_
    rw [show (48 : Int32) = nI 48 from rfl, nI_add]
    refine R_i2c dX9_addNumber_51 ?_
    rw [nI_i2c hd]
    refine R_callV (T := mX9_addNumber) (T' := mX9_add) (As := [_]) (ci := 9) okX9_add mlX9_29 rfl (by decide) h.1 (ct_addL h _ (nI_chr hd) (by omega)) rfl (by decide) (by decide) (Nat.le_of_ble_eq_true rfl) dX9_addNumber_52 (fun v9 S9 V9 h9 => ?_) (fun E S9 V9 h9 => h9.elim)
    obtain ⟨rfl, rfl, h91, h92⟩ := h9
    refine R_iload_2 dX9_addNumber_55 ?_
    refine R_bipush (v := 10) dX9_addNumber_56 (by decide) ?_
    refine R_idiv dX9_addNumber_58 (by decide) ?_
    rw [show (10 : Int32) = nI 10 from rfl, pk_div (by omega) (by decide) (by decide), hu2]
    refine R_istore_2 rfl (by decide) dX9_addNumber_59 ?_
    refine R_goto 37 dX9_addNumber_60 (by decide) ?_
    refine ih (L ++ [nI (48 + x / 10 ^ i % 10)]) V9 (by omega) h91 (by rw [List.length_append, List.length_singleton]; omega) (fun V8 k1 k2 => hQ V8 (by rw [List.append_assoc] at k1; exact k1) (h92.trans k2))
set_option maxHeartbeats 4000000 in
theorem ct_addNumber {S : aS} {V : aV} {s cap x : Nat} {L : List Int32} (hx : x < 10000) (h : SL S V s cap L) (hl : L.length + 4 ≤ cap) : CT mX9_addNumber 1 0 0 [.ref s, .int (nI x)] S V (SLto S V s cap (L ++ digs x) none) aNo := by
  refine CT_of (by decide +kernel) (Nat.le_of_ble_eq_true rfl) ?_
  show R _ _ _ _ _ _ _ _ 0 [some (.ref s), some (.int (nI x)), none] [] _ _
  have hk : ∀ {Q : Option Value → aS → aV → Prop} {QX : String → aS → aV → Prop} {kc ks mc ms : Nat}, (∀ V', SL S V' s cap (L ++ dgl x (dgn x)) → Fr1 V V' s → Q none S V') → R mX9_addNumber 1 mc ms Q QX kc ks 37 [some (.ref s), some (.int (nI x)), some (.int (nI (un10 (dgn x))))] [] S V := fun hQ => dgl_loop hx (dgn x) L V (dgn_le x) h (Nat.le_trans (Nat.add_le_add_left (dgn_le x) _) hl) hQ
  refine R_iload_1 dX9_addNumber_0 ?_
  refine R_sipush (v := 1000) dX9_addNumber_1 (by decide) ?_
  refine R_icmp_lt 13 dX9_addNumber_4 (by decide) (fun c4 => ?_) (fun c4 => ?_)
  · refine R_iload_1 dX9_addNumber_13 ?_
    refine R_bipush (v := 100) dX9_addNumber_14 (by decide) ?_
    refine R_icmp_lt 24 dX9_addNumber_16 (by decide) (fun c16 => ?_) (fun c16 => ?_)
    · refine R_iload_1 dX9_addNumber_24 ?_
      refine R_bipush (v := 10) dX9_addNumber_25 (by decide) ?_
      refine R_icmp_lt 35 dX9_addNumber_27 (by decide) (fun c27 => ?_) (fun c27 => ?_)
      · have e37 : dgn x = 1 := (if_neg (dgd (y := 1000) c4)).trans ((if_neg (dgd (y := 100) c16)).trans (if_neg (dgd (y := 10) c27)))
        refine R_iconst (v := 1) dX9_addNumber_35 (by decide) ?_
        refine R_istore_2 rfl (by decide) dX9_addNumber_36 ?_
        have k37 := @hk
        rw [e37] at k37
        exact k37 (fun V8 h8 f8 => ⟨rfl, rfl, by unfold digs; rw [e37]; exact h8, f8⟩)
      · have e37 : dgn x = 2 := (if_neg (dgd (y := 1000) c4)).trans ((if_neg (dgd (y := 100) c16)).trans (if_pos (dgc (y := 10) c27)))
        refine R_bipush (v := 10) dX9_addNumber_30 (by decide) ?_
        refine R_goto 36 dX9_addNumber_32 (by decide) ?_
        refine R_istore_2 rfl (by decide) dX9_addNumber_36 ?_
        have k37 := @hk
        rw [e37] at k37
        exact k37 (fun V8 h8 f8 => ⟨rfl, rfl, by unfold digs; rw [e37]; exact h8, f8⟩)
    · have e37 : dgn x = 3 := (if_neg (dgd (y := 1000) c4)).trans (if_pos (dgc (y := 100) c16))
      refine R_bipush (v := 100) dX9_addNumber_19 (by decide) ?_
      refine R_goto 36 dX9_addNumber_21 (by decide) ?_
      refine R_istore_2 rfl (by decide) dX9_addNumber_36 ?_
      have k37 := @hk
      rw [e37] at k37
      exact k37 (fun V8 h8 f8 => ⟨rfl, rfl, by unfold digs; rw [e37]; exact h8, f8⟩)
  · have e37 : dgn x = 4 := if_pos (dgc (y := 1000) c4)
    refine R_sipush (v := 1000) dX9_addNumber_7 (by decide) ?_
    refine R_goto 36 dX9_addNumber_10 (by decide) ?_
    refine R_istore_2 rfl (by decide) dX9_addNumber_36 ?_
    have k37 := @hk
    rw [e37] at k37
    exact k37 (fun V8 h8 f8 => ⟨rfl, rfl, by unfold digs; rw [e37]; exact h8, f8⟩)

