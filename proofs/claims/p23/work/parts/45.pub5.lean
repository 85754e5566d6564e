/-! ===== MergePost: franking ===== -/
abbrev okM (t : Int32) : Prop := ¬ t < 0 ∧ t ≤ 1000000000
set_option maxHeartbeats 4000000 in
theorem ct_franking {V : aV} (hM : MB V) (t u : Int32) : CT mX11_franking 6 1 6 [.ref 0, .int t, .int u] Sh V (fun v S' V' => ∃ b s, b ≤ 1000000000 ∧ s ≤ 1000000000 ∧ t = nI b ∧ u = nI s ∧ some (.int (kost b s (wgt 20 1) 5)) = v ∧ Sh = S' ∧ a_up (a_up V 198 0 (.int (nI b))) 198 1 (.int (nI s)) = V') (fun E S' V' => E = xA ∧ ¬ (okM t ∧ okM u) ∧ Sh = S' ∧ V = V') := by
  refine CT_of (by decide +kernel) (Nat.le_of_ble_eq_true rfl) ?_
  show R _ _ _ _ _ _ _ _ 0 [some (.ref 0), some (.int t), some (.int u)] [] _ _
  have m4 := hM.2.2.2.2.1
  refine R_iload_1 dX11_franking_0 ?_
  refine R_if_lt 20 dX11_franking_1 (by decide) (fun c1 => ?_) (fun c1 => ?_)
  · first
      | exact R_throw (T := mX11_franking) rfl a_fit2 th_a4 clX11_55 th_a5 srX11_168 th_a1 th_a2 th_a3 dX11_franking_20 dX11_franking_23 dX11_franking_24 dX11_franking_26 dX11_franking_29 (by decide) (Nat.le_of_ble_eq_true rfl) rfl ⟨rfl, fun z => z.1.1 c1, rfl, rfl⟩
      | exact R_throw (T := mX11_franking) rfl a_fit2 th_a4 clX11_55 th_a5 srX11_168 th_a1 th_a2 th_a3 dX11_franking_20 dX11_franking_23 dX11_franking_24 dX11_franking_26 dX11_franking_29 (by decide) (Nat.le_of_ble_eq_true rfl) rfl ⟨rfl, fun z => absurd z.1.2 (Int32.not_le.2 c7), rfl, rfl⟩
      | exact R_throw (T := mX11_franking) rfl a_fit2 th_a4 clX11_55 th_a5 srX11_168 th_a1 th_a2 th_a3 dX11_franking_20 dX11_franking_23 dX11_franking_24 dX11_franking_26 dX11_franking_29 (by decide) (Nat.le_of_ble_eq_true rfl) rfl ⟨rfl, fun z => z.2.1 c11, rfl, rfl⟩
      | exact R_throw (T := mX11_franking) rfl a_fit2 th_a4 clX11_55 th_a5 srX11_168 th_a1 th_a2 th_a3 dX11_franking_20 dX11_franking_23 dX11_franking_24 dX11_franking_26 dX11_franking_29 (by decide) (Nat.le_of_ble_eq_true rfl) rfl ⟨rfl, fun z => c17 z.2.2, rfl, rfl⟩
  · refine R_iload_1 dX11_franking_4 ?_
    refine R_ldc dX11_franking_5 cwX11_167 ?_
    refine R_icmp_gt 20 dX11_franking_7 (by decide) (fun c7 => ?_) (fun c7 => ?_)
    · first
        | exact R_throw (T := mX11_franking) rfl a_fit2 th_a4 clX11_55 th_a5 srX11_168 th_a1 th_a2 th_a3 dX11_franking_20 dX11_franking_23 dX11_franking_24 dX11_franking_26 dX11_franking_29 (by decide) (Nat.le_of_ble_eq_true rfl) rfl ⟨rfl, fun z => z.1.1 c1, rfl, rfl⟩
        | exact R_throw (T := mX11_franking) rfl a_fit2 th_a4 clX11_55 th_a5 srX11_168 th_a1 th_a2 th_a3 dX11_franking_20 dX11_franking_23 dX11_franking_24 dX11_franking_26 dX11_franking_29 (by decide) (Nat.le_of_ble_eq_true rfl) rfl ⟨rfl, fun z => absurd z.1.2 (Int32.not_le.2 c7), rfl, rfl⟩
        | exact R_throw (T := mX11_franking) rfl a_fit2 th_a4 clX11_55 th_a5 srX11_168 th_a1 th_a2 th_a3 dX11_franking_20 dX11_franking_23 dX11_franking_24 dX11_franking_26 dX11_franking_29 (by decide) (Nat.le_of_ble_eq_true rfl) rfl ⟨rfl, fun z => z.2.1 c11, rfl, rfl⟩
        | exact R_throw (T := mX11_franking) rfl a_fit2 th_a4 clX11_55 th_a5 srX11_168 th_a1 th_a2 th_a3 dX11_franking_20 dX11_franking_23 dX11_franking_24 dX11_franking_26 dX11_franking_29 (by decide) (Nat.le_of_ble_eq_true rfl) rfl ⟨rfl, fun z => c17 z.2.2, rfl, rfl⟩
    · refine R_iload_2 dX11_franking_10 ?_
      refine R_if_lt 20 dX11_franking_11 (by decide) (fun c11 => ?_) (fun c11 => ?_)
      · first
          | exact R_throw (T := mX11_franking) rfl a_fit2 th_a4 clX11_55 th_a5 srX11_168 th_a1 th_a2 th_a3 dX11_franking_20 dX11_franking_23 dX11_franking_24 dX11_franking_26 dX11_franking_29 (by decide) (Nat.le_of_ble_eq_true rfl) rfl ⟨rfl, fun z => z.1.1 c1, rfl, rfl⟩
          | exact R_throw (T := mX11_franking) rfl a_fit2 th_a4 clX11_55 th_a5 srX11_168 th_a1 th_a2 th_a3 dX11_franking_20 dX11_franking_23 dX11_franking_24 dX11_franking_26 dX11_franking_29 (by decide) (Nat.le_of_ble_eq_true rfl) rfl ⟨rfl, fun z => absurd z.1.2 (Int32.not_le.2 c7), rfl, rfl⟩
          | exact R_throw (T := mX11_franking) rfl a_fit2 th_a4 clX11_55 th_a5 srX11_168 th_a1 th_a2 th_a3 dX11_franking_20 dX11_franking_23 dX11_franking_24 dX11_franking_26 dX11_franking_29 (by decide) (Nat.le_of_ble_eq_true rfl) rfl ⟨rfl, fun z => z.2.1 c11, rfl, rfl⟩
          | exact R_throw (T := mX11_franking) rfl a_fit2 th_a4 clX11_55 th_a5 srX11_168 th_a1 th_a2 th_a3 dX11_franking_20 dX11_franking_23 dX11_franking_24 dX11_franking_26 dX11_franking_29 (by decide) (Nat.le_of_ble_eq_true rfl) rfl ⟨rfl, fun z => c17 z.2.2, rfl, rfl⟩
      · refine R_iload_2 dX11_franking_14 ?_
        refine R_ldc dX11_franking_15 cwX11_167 ?_
        refine R_icmp_le 30 dX11_franking_17 (by decide) (fun c17 => ?_) (fun c17 => ?_)
        · obtain ⟨b, hb, rfl⟩ := nI_of c1
          obtain ⟨s, hs, rfl⟩ := nI_of c11
          have hb9 := (nI_leI (a := b) (b := 1000000000) hb (by decide)).1 (Int32.not_lt.1 c7)
          have hs9 := (nI_leI (a := s) (b := 1000000000) hs (by decide)).1 c17
          refine R_aload_0 dX11_franking_30 ?_
          refine gfX11_40 rfl dX11_franking_31 sh_0 m4 ?_
          refine R_iload_1 dX11_franking_34 ?_
          refine pfX11_170 rfl dX11_franking_35 sh_198 ?_
          refine R_aload_0 dX11_franking_38 ?_
          refine gfX11_40 rfl dX11_franking_39 sh_0 ((a_up_ne (Or.inl (by decide))).trans m4) ?_
          refine R_iload_2 dX11_franking_42 ?_
          refine pfX11_173 rfl dX11_franking_43 sh_198 ?_
          refine R_aload_0 dX11_franking_46 ?_
          refine gfX11_40 rfl dX11_franking_47 sh_0 ((a_up_ne (Or.inl (by decide))).trans ((a_up_ne (Or.inl (by decide))).trans m4)) ?_
          refine R_aload_0 dX11_franking_50 ?_
          refine gfX11_40 rfl dX11_franking_51 sh_0 ((a_up_ne (Or.inl (by decide))).trans ((a_up_ne (Or.inl (by decide))).trans m4)) ?_
          refine R_bipush (v := 20) dX11_franking_54 (by decide) ?_
          refine R_iconst (v := 1) dX11_franking_56 (by decide) ?_
          refine R_callVN_e (T := mX11_franking) (T' := mX2_weightOf) (As := [_, _]) (ci := 2) okX2_weightOf mlX11_176 rfl (by decide) sh_198 (ct_weightOf (a := 198) (n := 20) (m := 1) (by decide) (by decide) (by decide)) rfl (by decide) (by decide) (Nat.le_of_ble_eq_true rfl) dX11_franking_57 ?_
          refine R_iconst (v := 5) dX11_franking_60 (by decide) ?_
          refine R_callVN_e (T := mX11_franking) (T' := mX2_costOf) (As := [_, _]) (ci := 2) okX2_costOf mlX11_180 rfl (by decide) sh_198 (ct_costOf (w := wgt 20 1) (z := 5) sh_198 ((a_up_ne (Or.inr (by decide))).trans (a_up_self _ _ _ _)) (a_up_self _ _ _ _) hb hs (by decide) (by decide)) rfl (by decide) (by decide) (Nat.le_of_ble_eq_true rfl) dX11_franking_61 ?_
          refine R_iret rfl dX11_franking_64 ⟨b, s, hb9, hs9, rfl, rfl, rfl, rfl, rfl⟩
        · first
            | exact R_throw (T := mX11_franking) rfl a_fit2 th_a4 clX11_55 th_a5 srX11_168 th_a1 th_a2 th_a3 dX11_franking_20 dX11_franking_23 dX11_franking_24 dX11_franking_26 dX11_franking_29 (by decide) (Nat.le_of_ble_eq_true rfl) rfl ⟨rfl, fun z => z.1.1 c1, rfl, rfl⟩
            | exact R_throw (T := mX11_franking) rfl a_fit2 th_a4 clX11_55 th_a5 srX11_168 th_a1 th_a2 th_a3 dX11_franking_20 dX11_franking_23 dX11_franking_24 dX11_franking_26 dX11_franking_29 (by decide) (Nat.le_of_ble_eq_true rfl) rfl ⟨rfl, fun z => absurd z.1.2 (Int32.not_le.2 c7), rfl, rfl⟩
            | exact R_throw (T := mX11_franking) rfl a_fit2 th_a4 clX11_55 th_a5 srX11_168 th_a1 th_a2 th_a3 dX11_franking_20 dX11_franking_23 dX11_franking_24 dX11_franking_26 dX11_franking_29 (by decide) (Nat.le_of_ble_eq_true rfl) rfl ⟨rfl, fun z => z.2.1 c11, rfl, rfl⟩
            | exact R_throw (T := mX11_franking) rfl a_fit2 th_a4 clX11_55 th_a5 srX11_168 th_a1 th_a2 th_a3 dX11_franking_20 dX11_franking_23 dX11_franking_24 dX11_franking_26 dX11_franking_29 (by decide) (Nat.le_of_ble_eq_true rfl) rfl ⟨rfl, fun z => c17 z.2.2, rfl, rfl⟩

