/-! ===== MergePost: its checks ===== -/
abbrev xI : String := "java/lang/IndexOutOfBoundsException"
abbrev xA : String := "java/lang/IllegalArgumentException"
abbrev xS : String := "java/lang/IllegalStateException"
def QXc (V : aV) (P : Prop) : String → aS → aV → Prop := fun E S' V' => E = xI ∧ P ∧ Sh = S' ∧ V = V'
def Qc (V : aV) (P : Prop) : Option Value → aS → aV → Prop := fun v S' V' => none = v ∧ P ∧ Sh = S' ∧ V = V'
abbrev okN (t : Int32) (n m : Nat) : Prop := ¬ t < 0 ∧ t < nI n ∧ t < nI m
theorem okN_nI {t : Int32} {n m : Nat} (h : okN t n m) (hm : m < 2 ^ 31) : ∃ k, k < n ∧ k < m ∧ t = nI k := by
  obtain ⟨k, hk, rfl⟩ := nI_of h.1
  have h2 := (nI_ltI hk hm).1 h.2.2
  refine ⟨k, ?_, h2, rfl⟩
  refine Nat.lt_of_not_le fun q => ?_
  exact nI_nlt q hk h.2.1
set_option maxHeartbeats 4000000 in
theorem ct_checkTemplate {V : aV} (t : Int32) : CT mX11_checkTemplate 6 1 6 [.ref 0, .int t] Sh V (Qc V (¬ t < 0 ∧ t < 8)) (QXc V (¬ (¬ t < 0 ∧ t < 8))) := by
  refine CT_of (by decide +kernel) (Nat.le_of_ble_eq_true rfl) ?_
  show R _ _ _ _ _ _ _ _ 0 [some (.ref 0), some (.int t)] [] _ _
  refine R_iload_1 dX11_checkTemplate_0 ?_
  refine R_if_lt 10 dX11_checkTemplate_1 (by decide) (fun c1 => ?_) (fun c1 => ?_)
  · first
      | exact R_throwW (T := mX11_checkTemplate) rfl a_fit2 th_i4 clX11_102 th_i5 srX11_274 th_i1 th_i2 th_i3 dX11_checkTemplate_10 dX11_checkTemplate_13 dX11_checkTemplate_14 dX11_checkTemplate_17 dX11_checkTemplate_20 (by decide) (Nat.le_of_ble_eq_true rfl) rfl ⟨rfl, fun z => z.1 c1, rfl, rfl⟩
      | exact R_throwW (T := mX11_checkTemplate) rfl a_fit2 th_i4 clX11_102 th_i5 srX11_274 th_i1 th_i2 th_i3 dX11_checkTemplate_10 dX11_checkTemplate_13 dX11_checkTemplate_14 dX11_checkTemplate_17 dX11_checkTemplate_20 (by decide) (Nat.le_of_ble_eq_true rfl) rfl ⟨rfl, fun z => c7 z.2, rfl, rfl⟩
  · refine R_iload_1 dX11_checkTemplate_4 ?_
    refine R_bipush (v := 8) dX11_checkTemplate_5 (by decide) ?_
    refine R_icmp_lt 21 dX11_checkTemplate_7 (by decide) (fun c7 => ?_) (fun c7 => ?_)
    · refine R_vret rfl dX11_checkTemplate_21 ⟨rfl, ⟨c1, c7⟩, rfl, rfl⟩
    · first
        | exact R_throwW (T := mX11_checkTemplate) rfl a_fit2 th_i4 clX11_102 th_i5 srX11_274 th_i1 th_i2 th_i3 dX11_checkTemplate_10 dX11_checkTemplate_13 dX11_checkTemplate_14 dX11_checkTemplate_17 dX11_checkTemplate_20 (by decide) (Nat.le_of_ble_eq_true rfl) rfl ⟨rfl, fun z => z.1 c1, rfl, rfl⟩
        | exact R_throwW (T := mX11_checkTemplate) rfl a_fit2 th_i4 clX11_102 th_i5 srX11_274 th_i1 th_i2 th_i3 dX11_checkTemplate_10 dX11_checkTemplate_13 dX11_checkTemplate_14 dX11_checkTemplate_17 dX11_checkTemplate_20 (by decide) (Nat.le_of_ble_eq_true rfl) rfl ⟨rfl, fun z => c7 z.2, rfl, rfl⟩

set_option maxHeartbeats 4000000 in
theorem ct_checkAddress {V : aV} {cnt : Nat} (hM : MB V) (hc : V 74 5 = .int (nI cnt)) (t : Int32) : CT mX11_checkAddress 6 1 6 [.ref 0, .int t] Sh V (Qc V (okN t cnt 12)) (QXc V (¬ okN t cnt 12)) := by
  refine CT_of (by decide +kernel) (Nat.le_of_ble_eq_true rfl) ?_
  show R _ _ _ _ _ _ _ _ 0 [some (.ref 0), some (.int t)] [] _ _
  have m2 := hM.2.2.1
  refine R_iload_1 dX11_checkAddress_0 ?_
  refine R_if_lt 21 dX11_checkAddress_1 (by decide) (fun c1 => ?_) (fun c1 => ?_)
  · first
      | exact R_throw (T := mX11_checkAddress) rfl a_fit2 th_i4 clX11_102 th_i5 srX11_104 th_i1 th_i2 th_i3 dX11_checkAddress_21 dX11_checkAddress_24 dX11_checkAddress_25 dX11_checkAddress_27 dX11_checkAddress_30 (by decide) (Nat.le_of_ble_eq_true rfl) rfl ⟨rfl, fun z => z.1 c1, rfl, rfl⟩
      | exact R_throw (T := mX11_checkAddress) rfl a_fit2 th_i4 clX11_102 th_i5 srX11_104 th_i1 th_i2 th_i3 dX11_checkAddress_21 dX11_checkAddress_24 dX11_checkAddress_25 dX11_checkAddress_27 dX11_checkAddress_30 (by decide) (Nat.le_of_ble_eq_true rfl) rfl ⟨rfl, fun z => absurd z.2.1 (Int32.not_lt.2 c12), rfl, rfl⟩
      | exact R_throw (T := mX11_checkAddress) rfl a_fit2 th_i4 clX11_102 th_i5 srX11_104 th_i1 th_i2 th_i3 dX11_checkAddress_21 dX11_checkAddress_24 dX11_checkAddress_25 dX11_checkAddress_27 dX11_checkAddress_30 (by decide) (Nat.le_of_ble_eq_true rfl) rfl ⟨rfl, fun z => c18 z.2.2, rfl, rfl⟩
  · refine R_iload_1 dX11_checkAddress_4 ?_
    refine R_aload_0 dX11_checkAddress_5 ?_
    refine gfX11_26 rfl dX11_checkAddress_6 sh_0 m2 ?_
    refine gfX11_99 rfl dX11_checkAddress_9 sh_74 hc ?_
    refine R_icmp_ge 21 dX11_checkAddress_12 (by decide) (fun c12 => ?_) (fun c12 => ?_)
    · first
        | exact R_throw (T := mX11_checkAddress) rfl a_fit2 th_i4 clX11_102 th_i5 srX11_104 th_i1 th_i2 th_i3 dX11_checkAddress_21 dX11_checkAddress_24 dX11_checkAddress_25 dX11_checkAddress_27 dX11_checkAddress_30 (by decide) (Nat.le_of_ble_eq_true rfl) rfl ⟨rfl, fun z => z.1 c1, rfl, rfl⟩
        | exact R_throw (T := mX11_checkAddress) rfl a_fit2 th_i4 clX11_102 th_i5 srX11_104 th_i1 th_i2 th_i3 dX11_checkAddress_21 dX11_checkAddress_24 dX11_checkAddress_25 dX11_checkAddress_27 dX11_checkAddress_30 (by decide) (Nat.le_of_ble_eq_true rfl) rfl ⟨rfl, fun z => absurd z.2.1 (Int32.not_lt.2 c12), rfl, rfl⟩
        | exact R_throw (T := mX11_checkAddress) rfl a_fit2 th_i4 clX11_102 th_i5 srX11_104 th_i1 th_i2 th_i3 dX11_checkAddress_21 dX11_checkAddress_24 dX11_checkAddress_25 dX11_checkAddress_27 dX11_checkAddress_30 (by decide) (Nat.le_of_ble_eq_true rfl) rfl ⟨rfl, fun z => c18 z.2.2, rfl, rfl⟩
    · refine R_iload_1 dX11_checkAddress_15 ?_
      refine R_bipush (v := 12) dX11_checkAddress_16 (by decide) ?_
      refine R_icmp_lt 31 dX11_checkAddress_18 (by decide) (fun c18 => ?_) (fun c18 => ?_)
      · refine R_vret rfl dX11_checkAddress_31 ⟨rfl, ⟨c1, Int32.not_le.1 c12, c18⟩, rfl, rfl⟩
      · first
          | exact R_throw (T := mX11_checkAddress) rfl a_fit2 th_i4 clX11_102 th_i5 srX11_104 th_i1 th_i2 th_i3 dX11_checkAddress_21 dX11_checkAddress_24 dX11_checkAddress_25 dX11_checkAddress_27 dX11_checkAddress_30 (by decide) (Nat.le_of_ble_eq_true rfl) rfl ⟨rfl, fun z => z.1 c1, rfl, rfl⟩
          | exact R_throw (T := mX11_checkAddress) rfl a_fit2 th_i4 clX11_102 th_i5 srX11_104 th_i1 th_i2 th_i3 dX11_checkAddress_21 dX11_checkAddress_24 dX11_checkAddress_25 dX11_checkAddress_27 dX11_checkAddress_30 (by decide) (Nat.le_of_ble_eq_true rfl) rfl ⟨rfl, fun z => absurd z.2.1 (Int32.not_lt.2 c12), rfl, rfl⟩
          | exact R_throw (T := mX11_checkAddress) rfl a_fit2 th_i4 clX11_102 th_i5 srX11_104 th_i1 th_i2 th_i3 dX11_checkAddress_21 dX11_checkAddress_24 dX11_checkAddress_25 dX11_checkAddress_27 dX11_checkAddress_30 (by decide) (Nat.le_of_ble_eq_true rfl) rfl ⟨rfl, fun z => c18 z.2.2, rfl, rfl⟩

set_option maxHeartbeats 4000000 in
theorem ct_checkRun {V : aV} {n : Nat} (h6 : V 0 6 = .int (nI n)) (t : Int32) : CT mX11_checkRun 6 1 6 [.ref 0, .int t] Sh V (Qc V (okN t n 8)) (QXc V (¬ okN t n 8)) := by
  refine CT_of (by decide +kernel) (Nat.le_of_ble_eq_true rfl) ?_
  show R _ _ _ _ _ _ _ _ 0 [some (.ref 0), some (.int t)] [] _ _
  refine R_iload_1 dX11_checkRun_0 ?_
  refine R_if_lt 18 dX11_checkRun_1 (by decide) (fun c1 => ?_) (fun c1 => ?_)
  · first
      | exact R_throwW (T := mX11_checkRun) rfl a_fit2 th_i4 clX11_102 th_i5 srX11_276 th_i1 th_i2 th_i3 dX11_checkRun_18 dX11_checkRun_21 dX11_checkRun_22 dX11_checkRun_25 dX11_checkRun_28 (by decide) (Nat.le_of_ble_eq_true rfl) rfl ⟨rfl, fun z => z.1 c1, rfl, rfl⟩
      | exact R_throwW (T := mX11_checkRun) rfl a_fit2 th_i4 clX11_102 th_i5 srX11_276 th_i1 th_i2 th_i3 dX11_checkRun_18 dX11_checkRun_21 dX11_checkRun_22 dX11_checkRun_25 dX11_checkRun_28 (by decide) (Nat.le_of_ble_eq_true rfl) rfl ⟨rfl, fun z => absurd z.2.1 (Int32.not_lt.2 c9), rfl, rfl⟩
      | exact R_throwW (T := mX11_checkRun) rfl a_fit2 th_i4 clX11_102 th_i5 srX11_276 th_i1 th_i2 th_i3 dX11_checkRun_18 dX11_checkRun_21 dX11_checkRun_22 dX11_checkRun_25 dX11_checkRun_28 (by decide) (Nat.le_of_ble_eq_true rfl) rfl ⟨rfl, fun z => c15 z.2.2, rfl, rfl⟩
  · refine R_iload_1 dX11_checkRun_4 ?_
    refine R_aload_0 dX11_checkRun_5 ?_
    refine gfX11_185 rfl dX11_checkRun_6 sh_0 h6 ?_
    refine R_icmp_ge 18 dX11_checkRun_9 (by decide) (fun c9 => ?_) (fun c9 => ?_)
    · first
        | exact R_throwW (T := mX11_checkRun) rfl a_fit2 th_i4 clX11_102 th_i5 srX11_276 th_i1 th_i2 th_i3 dX11_checkRun_18 dX11_checkRun_21 dX11_checkRun_22 dX11_checkRun_25 dX11_checkRun_28 (by decide) (Nat.le_of_ble_eq_true rfl) rfl ⟨rfl, fun z => z.1 c1, rfl, rfl⟩
        | exact R_throwW (T := mX11_checkRun) rfl a_fit2 th_i4 clX11_102 th_i5 srX11_276 th_i1 th_i2 th_i3 dX11_checkRun_18 dX11_checkRun_21 dX11_checkRun_22 dX11_checkRun_25 dX11_checkRun_28 (by decide) (Nat.le_of_ble_eq_true rfl) rfl ⟨rfl, fun z => absurd z.2.1 (Int32.not_lt.2 c9), rfl, rfl⟩
        | exact R_throwW (T := mX11_checkRun) rfl a_fit2 th_i4 clX11_102 th_i5 srX11_276 th_i1 th_i2 th_i3 dX11_checkRun_18 dX11_checkRun_21 dX11_checkRun_22 dX11_checkRun_25 dX11_checkRun_28 (by decide) (Nat.le_of_ble_eq_true rfl) rfl ⟨rfl, fun z => c15 z.2.2, rfl, rfl⟩
    · refine R_iload_1 dX11_checkRun_12 ?_
      refine R_bipush (v := 8) dX11_checkRun_13 (by decide) ?_
      refine R_icmp_lt 29 dX11_checkRun_15 (by decide) (fun c15 => ?_) (fun c15 => ?_)
      · refine R_vret rfl dX11_checkRun_29 ⟨rfl, ⟨c1, Int32.not_le.1 c9, c15⟩, rfl, rfl⟩
      · first
          | exact R_throwW (T := mX11_checkRun) rfl a_fit2 th_i4 clX11_102 th_i5 srX11_276 th_i1 th_i2 th_i3 dX11_checkRun_18 dX11_checkRun_21 dX11_checkRun_22 dX11_checkRun_25 dX11_checkRun_28 (by decide) (Nat.le_of_ble_eq_true rfl) rfl ⟨rfl, fun z => z.1 c1, rfl, rfl⟩
          | exact R_throwW (T := mX11_checkRun) rfl a_fit2 th_i4 clX11_102 th_i5 srX11_276 th_i1 th_i2 th_i3 dX11_checkRun_18 dX11_checkRun_21 dX11_checkRun_22 dX11_checkRun_25 dX11_checkRun_28 (by decide) (Nat.le_of_ble_eq_true rfl) rfl ⟨rfl, fun z => absurd z.2.1 (Int32.not_lt.2 c9), rfl, rfl⟩
          | exact R_throwW (T := mX11_checkRun) rfl a_fit2 th_i4 clX11_102 th_i5 srX11_276 th_i1 th_i2 th_i3 dX11_checkRun_18 dX11_checkRun_21 dX11_checkRun_22 dX11_checkRun_25 dX11_checkRun_28 (by decide) (Nat.le_of_ble_eq_true rfl) rfl ⟨rfl, fun z => c15 z.2.2, rfl, rfl⟩

