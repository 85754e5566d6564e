/-! ===== Franking, letters kept ===== -/
theorem lg_le {a b : Nat} (ha : a < 2 ^ 63) (hb : b < 2 ^ 63) : (lg_cmp (lN a) (lN b) ≤ 0) ↔ a ≤ b := by
  unfold lg_cmp
  have h := pk_lLT hb ha
  have e := pk_lEQ ha hb
  by_cases q : lN a > lN b
  · rw [if_pos q]
    have := h.1 q
    exact ⟨fun z => absurd z (by decide), fun z => absurd z (by omega)⟩
  · rw [if_neg q]
    have hq : ¬ b < a := fun z => q (h.2 z)
    by_cases q2 : lN a = lN b
    · rw [if_pos q2]; exact ⟨fun _ => by omega, fun _ => by decide⟩
    · rw [if_neg q2]; exact ⟨fun _ => by omega, fun _ => by decide⟩
def tens (w : Nat) : Nat := if w ≤ 20 then 0 else (w - 20 + 9) / 10
def kost (b s w z : Nat) : Int32 := if (b + s * tens w) * (z + 2) ≤ 2147483647 then nI ((b + s * tens w) * (z + 2)) else -1
def wgt (n m : Nat) : Nat := 8 + 3 * ((n + 19) / 20) + 2 * (m - 1)
set_option maxHeartbeats 4000000 in
theorem ct_weightOf {S : aS} {V : aV} {a n m : Nat} (hn : n < 1000) (hm : m < 100) (h1 : 1 ≤ m) : CT mX2_weightOf 0 0 0 [.ref a, .int (nI n), .int (nI m)] S V (aRet (some (.int (nI (wgt n m)))) S V) aNo := by
  refine CT_of (by decide +kernel) (Nat.le_of_ble_eq_true rfl) ?_
  show R _ _ _ _ _ _ _ _ 0 [some (.ref a), some (.int (nI n)), some (.int (nI m))] [] _ _
  refine R_bipush (v := 8) dX2_weightOf_0 (by decide) ?_
  refine R_iconst (v := 3) dX2_weightOf_2 (by decide) ?_
  refine R_iload_1 dX2_weightOf_3 ?_
  refine R_bipush (v := 19) dX2_weightOf_4 (by decide) ?_
  refine R_iadd dX2_weightOf_6 ?_
  refine R_bipush (v := 20) dX2_weightOf_7 (by decide) ?_
  rw [show nI n + 19 = nI (n + 19) from nI_add n 19]
  refine R_idiv dX2_weightOf_9 (by decide) ?_
  rw [show nI (n + 19) / 20 = nI ((n + 19) / 20) from pk_div (by omega) (by decide) (by decide)]
  refine R_imul dX2_weightOf_10 ?_
  rw [show (3 : Int32) * nI ((n + 19) / 20) = nI (3 * ((n + 19) / 20)) from pk_mul 3 _]
  refine R_iadd dX2_weightOf_11 ?_
  rw [show (8 : Int32) + nI (3 * ((n + 19) / 20)) = nI (8 + 3 * ((n + 19) / 20)) from nI_add 8 _]
  refine R_iconst (v := 2) dX2_weightOf_12 (by decide) ?_
  refine R_iload_2 dX2_weightOf_13 ?_
  refine R_iconst (v := 1) dX2_weightOf_14 (by decide) ?_
  refine R_isub dX2_weightOf_15 ?_
  rw [show nI m - 1 = nI (m - 1) from pk_sub h1]
  refine R_imul dX2_weightOf_16 ?_
  rw [show (2 : Int32) * nI (m - 1) = nI (2 * (m - 1)) from pk_mul 2 _]
  refine R_iadd dX2_weightOf_17 ?_
  rw [nI_add]
  refine R_iret rfl dX2_weightOf_18 ⟨rfl, rfl, rfl⟩

set_option maxHeartbeats 4000000 in
theorem cost_tail {mc ms kc ks : Nat} {S : aS} {V : aV} {a b s w z : Nat} (hS : (S.1 a).1 = 2) (h0 : V a 0 = .int (nI b)) (h1 : V a 1 = .int (nI s)) (hb : b < 2 ^ 31) (hs : s < 2 ^ 31) (hw : w < 1000) (hz : z < 6) {Q : Option Value → aS → aV → Prop} {QX : String → aS → aV → Prop} (hQ : Q (some (.int (kost b s w z))) S V) : R mX2_costOf 0 mc ms Q QX kc ks 21 [some (.ref a), some (.int (nI w)), some (.int (nI z)), none, none, none, none] [.long (lN (tens w))] S V := by
  have ht : tens w < 100 := by unfold tens; split <;> omega
  have hst : s * tens w ≤ 2 ^ 31 * 100 := Nat.mul_le_mul (by omega) (by omega)
  have hc : (b + s * tens w) * (z + 2) ≤ (2 ^ 31 + 2 ^ 31 * 100) * 8 := Nat.mul_le_mul (by omega) (by omega)
  have hc' : (b + s * tens w) * (z + 2) < 2 ^ 63 := by omega
  generalize htt : tens w = t at *
  refine R_lstore_3 rfl (by decide) dX2_costOf_21 ?_
  refine R_aload_0 dX2_costOf_22 ?_
  refine gfX2_9 rfl dX2_costOf_23 hS h0 ?_
  refine R_i2l dX2_costOf_26 ?_
  rw [nI_l hb]
  refine R_aload_0 dX2_costOf_27 ?_
  refine gfX2_15 rfl dX2_costOf_28 hS h1 ?_
  refine R_i2l dX2_costOf_31 ?_
  rw [nI_l hs]
  refine R_lload_3 dX2_costOf_32 ?_
  refine R_lmul dX2_costOf_33 ?_
  rw [lN_mul]
  refine R_ladd dX2_costOf_34 ?_
  rw [lN_add]
  refine R_iload_2 dX2_costOf_35 ?_
  refine R_iconst (v := 2) dX2_costOf_36 (by decide) ?_
  refine R_iadd dX2_costOf_37 ?_
  rw [show nI z + 2 = nI (z + 2) from nI_add z 2]
  refine R_i2l dX2_costOf_38 ?_
  rw [nI_l (by omega)]
  refine R_lmul dX2_costOf_39 ?_
  rw [lN_mul]
  generalize hcc : (b + s * t) * (z + 2) = c at *
  refine R_lstore_5 rfl (by decide) dX2_costOf_40 ?_
  refine R_lload_5 dX2_costOf_42 ?_
  refine R_ldc2 dX2_costOf_44 cwX2_18 ?_
  rw [show (2147483647 : Int64) = lN 2147483647 from rfl]
  refine R_lcmp dX2_costOf_47 ?_
  refine R_if_le 55 dX2_costOf_48 (by decide) (fun c48 => ?_) (fun c48 => ?_)
  · refine R_lload_5 dX2_costOf_55 ?_
    refine R_l2i dX2_costOf_57 ?_
    refine R_iret rfl dX2_costOf_58 (by first | (have hk : kost b s w z = nI c := (by unfold kost; rw [htt, hcc]; exact if_pos ((lg_le hc' (by decide)).1 c48)); rw [hk, ← lN_i c] at hQ; exact hQ) | (have hk : kost b s w z = -1 := (by unfold kost; rw [htt, hcc]; exact if_neg (fun q => c48 ((lg_le hc' (by decide)).2 q))); rw [hk] at hQ; exact hQ))
  · refine R_iconst (v := -1) dX2_costOf_51 (by decide) ?_
    refine R_goto 58 dX2_costOf_52 (by decide) ?_
    refine R_iret rfl dX2_costOf_58 (by first | (have hk : kost b s w z = nI c := (by unfold kost; rw [htt, hcc]; exact if_pos ((lg_le hc' (by decide)).1 c48)); rw [hk, ← lN_i c] at hQ; exact hQ) | (have hk : kost b s w z = -1 := (by unfold kost; rw [htt, hcc]; exact if_neg (fun q => c48 ((lg_le hc' (by decide)).2 q))); rw [hk] at hQ; exact hQ))
set_option maxHeartbeats 4000000 in
theorem ct_costOf {S : aS} {V : aV} {a b s w z : Nat} (hS : (S.1 a).1 = 2) (h0 : V a 0 = .int (nI b)) (h1 : V a 1 = .int (nI s)) (hb : b < 2 ^ 31) (hs : s < 2 ^ 31) (hw : w < 1000) (hz : z < 6) : CT mX2_costOf 0 0 0 [.ref a, .int (nI w), .int (nI z)] S V (aRet (some (.int (kost b s w z))) S V) aNo := by
  refine CT_of (by decide +kernel) (Nat.le_of_ble_eq_true rfl) ?_
  show R _ _ _ _ _ _ _ _ 0 [some (.ref a), some (.int (nI w)), some (.int (nI z)), none, none, none, none] [] _ _
  refine R_iload_1 dX2_costOf_0 ?_
  refine R_bipush (v := 20) dX2_costOf_1 (by decide) ?_
  refine R_icmp_le 20 dX2_costOf_3 (by decide) (fun c3 => ?_) (fun c3 => ?_)
  · refine R_lconst (v := 0) dX2_costOf_20 (by decide) ?_
    first
      | (have ht : tens w = 0 := if_pos ((nI_leI (a := w) (b := 20) (by omega) (by decide)).1 c3)
         have q := cost_tail (kc := 0) (ks := 0) (mc := 0) (ms := 0) (Q := aRet (some (.int (kost b s w z))) S V) (QX := aNo) hS h0 h1 hb hs hw hz ⟨rfl, rfl, rfl⟩
         rw [ht] at q
         exact q)
      | (have ht : tens w = (w - 20 + 9) / 10 := if_neg hw20
         have q := cost_tail (kc := 0) (ks := 0) (mc := 0) (ms := 0) (Q := aRet (some (.int (kost b s w z))) S V) (QX := aNo) hS h0 h1 hb hs hw hz ⟨rfl, rfl, rfl⟩
         rw [ht] at q
         exact q)
  · have hw20 : ¬ w ≤ 20 := fun q => c3 ((nI_leI (a := w) (b := 20) (by omega) (by decide)).2 q)
    refine R_iload_1 dX2_costOf_6 ?_
    refine R_bipush (v := 20) dX2_costOf_7 (by decide) ?_
    refine R_isub dX2_costOf_9 ?_
    rw [show nI w - 20 = nI (w - 20) from pk_sub (b := 20) (by omega)]
    refine R_bipush (v := 9) dX2_costOf_10 (by decide) ?_
    refine R_iadd dX2_costOf_12 ?_
    rw [show nI (w - 20) + 9 = nI (w - 20 + 9) from nI_add _ 9]
    refine R_bipush (v := 10) dX2_costOf_13 (by decide) ?_
    refine R_idiv dX2_costOf_15 (by decide) ?_
    rw [show nI (w - 20 + 9) / 10 = nI ((w - 20 + 9) / 10) from pk_div (by omega) (by decide) (by decide)]
    refine R_i2l dX2_costOf_16 ?_
    rw [nI_l (by omega)]
    refine R_goto 21 dX2_costOf_17 (by decide) ?_
    first
      | (have ht : tens w = 0 := if_pos ((nI_leI (a := w) (b := 20) (by omega) (by decide)).1 c3)
         have q := cost_tail (kc := 0) (ks := 0) (mc := 0) (ms := 0) (Q := aRet (some (.int (kost b s w z))) S V) (QX := aNo) hS h0 h1 hb hs hw hz ⟨rfl, rfl, rfl⟩
         rw [ht] at q
         exact q)
      | (have ht : tens w = (w - 20 + 9) / 10 := if_neg hw20
         have q := cost_tail (kc := 0) (ks := 0) (mc := 0) (ms := 0) (Q := aRet (some (.int (kost b s w z))) S V) (QX := aNo) hS h0 h1 hb hs hw hz ⟨rfl, rfl, rfl⟩
         rw [ht] at q
         exact q)

