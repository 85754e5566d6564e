/-! ===== MergePost: what it answers, 1 ===== -/
set_option maxHeartbeats 4000000 in
theorem ct_addresses {V : aV} {cnt : Nat} (hM : MB V) (hc : V 74 5 = .int (nI cnt)) : CT mX11_addresses 0 0 0 [.ref 0] Sh V (aRet (some (.int (nI cnt))) Sh V) aNo := by
  refine CT_of (by decide +kernel) (Nat.le_of_ble_eq_true rfl) ?_
  show R _ _ _ _ _ _ _ _ 0 [some (.ref 0)] [] _ _
  have m2 := hM.2.2.1
  refine R_aload_0 dX11_addresses_0 ?_
  refine gfX11_26 rfl dX11_addresses_1 sh_0 m2 ?_
  refine gfX11_99 rfl dX11_addresses_4 sh_74 hc ?_
  refine R_iret rfl dX11_addresses_7 ⟨rfl, rfl, rfl⟩

set_option maxHeartbeats 4000000 in
theorem ct_spent {V : aV} {p : Nat} (h7 : V 0 7 = .int (nI p)) : CT mX11_spent 0 0 0 [.ref 0] Sh V (aRet (some (.int (nI p))) Sh V) aNo := by
  refine CT_of (by decide +kernel) (Nat.le_of_ble_eq_true rfl) ?_
  show R _ _ _ _ _ _ _ _ 0 [some (.ref 0)] [] _ _
  refine R_aload_0 dX11_spent_0 ?_
  refine gfX11_268 rfl dX11_spent_1 sh_0 h7 ?_
  refine R_iret rfl dX11_spent_4 ⟨rfl, rfl, rfl⟩

set_option maxHeartbeats 4000000 in
theorem ct_group {V : aV} {cnt : Nat} {mt : Nat → Nat} (hM : MB V) (hB : BF V) (hK : MK V 85 mt) (hc : V 74 5 = .int (nI cnt)) (t : Int32) : CT mX11_group 7 1 6 [.ref 0, .int t] Sh V (fun v S' V' => ∃ k, k < cnt ∧ k < 12 ∧ t = nI k ∧ some (.int (nI (gOf mt k))) = v ∧ Sh = S' ∧ V = V') (QXc V (¬ okN t cnt 12)) := by
  refine CT_of (by decide +kernel) (Nat.le_of_ble_eq_true rfl) ?_
  show R _ _ _ _ _ _ _ _ 0 [some (.ref 0), some (.int t)] [] _ _
  have m2 := hM.2.2.1
  refine R_aload_0 dX11_group_0 ?_
  refine R_iload_1 dX11_group_1 ?_
  refine R_callV (T := mX11_group) (T' := mX11_checkAddress) (As := [_]) (ci := 11) okX11_checkAddress mlX11_116 rfl (by decide) sh_0 (ct_checkAddress hM hc t) rfl (by decide) (by decide) (Nat.le_of_ble_eq_true rfl) dX11_group_2 (fun v9 S9 V9 h9 => ?_) (fun E S9 V9 h9 => h9)
  obtain ⟨rfl, o, rfl, rfl⟩ := h9
  obtain ⟨k, x, y, e⟩ := okN_nI o (by decide)
  refine R_aload_0 dX11_group_5 ?_
  refine gfX11_26 rfl dX11_group_6 sh_0 m2 ?_
  refine R_iload_1 dX11_group_9 ?_
  rw [e]
  refine R_callVN_e (T := mX11_group) (T' := mX1_groupOf) (As := [_]) (ci := 1) okX1_groupOf mlX11_163 rfl (by decide) sh_74 (ct_groupOf hB hK y) rfl (by decide) (by decide) (Nat.le_of_ble_eq_true rfl) dX11_group_10 ?_
  refine R_iret rfl dX11_group_13 ⟨k, x, y, rfl, rfl, rfl, rfl⟩

set_option maxHeartbeats 4000000 in
theorem ct_reasons {V : aV} {cnt : Nat} {po : Nat → Nat} (hM : MB V) (hB : BF V) (hK : MK V 86 po) (hc : V 74 5 = .int (nI cnt)) (t : Int32) : CT mX11_reasons 7 1 6 [.ref 0, .int t] Sh V (fun v S' V' => ∃ k, k < cnt ∧ k < 12 ∧ t = nI k ∧ some (.int (nI (po k))) = v ∧ Sh = S' ∧ V = V') (QXc V (¬ okN t cnt 12)) := by
  refine CT_of (by decide +kernel) (Nat.le_of_ble_eq_true rfl) ?_
  show R _ _ _ _ _ _ _ _ 0 [some (.ref 0), some (.int t)] [] _ _
  have m2 := hM.2.2.1
  have f3 := hB.2.2.1
  refine R_aload_0 dX11_reasons_0 ?_
  refine R_iload_1 dX11_reasons_1 ?_
  refine R_callV (T := mX11_reasons) (T' := mX11_checkAddress) (As := [_]) (ci := 11) okX11_checkAddress mlX11_116 rfl (by decide) sh_0 (ct_checkAddress hM hc t) rfl (by decide) (by decide) (Nat.le_of_ble_eq_true rfl) dX11_reasons_2 (fun v9 S9 V9 h9 => ?_) (fun E S9 V9 h9 => h9)
  obtain ⟨rfl, o, rfl, rfl⟩ := h9
  obtain ⟨k, x, y, e⟩ := okN_nI o (by decide)
  refine R_aload_0 dX11_reasons_5 ?_
  refine gfX11_26 rfl dX11_reasons_6 sh_0 m2 ?_
  refine gfX11_271 rfl dX11_reasons_9 sh_74 f3 ?_
  refine R_iload_1 dX11_reasons_12 ?_
  rw [e]
  have pv := (hK k y).1
  refine R_iald dX11_reasons_13 sh_86 (vp_in_nI (by omega) (by decide)) (nI_clamp (by omega)) pv ?_
  refine R_iret rfl dX11_reasons_14 ⟨k, x, y, rfl, rfl, rfl, rfl⟩

