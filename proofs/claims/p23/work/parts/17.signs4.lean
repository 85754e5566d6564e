/-! ===== Signs: becomeCleaned, unlikeSigns ===== -/
/-- a sign, cleaned -/
noncomputable def clS (c : Int32) : Option Int32 := if 65 ≤ c ∧ c ≤ 90 then some (c - 65 + 97) else if (97 ≤ c ∧ c ≤ 122) ∨ (48 ≤ c ∧ c ≤ 57) then some c else none
theorem clS_i2c {c : Int32} (h1 : 65 ≤ c) (h2 : c ≤ 90) : ((c - 65 + 97).toUInt32 % 65536).toInt32 = c - 65 + 97 ∧ 0 ≤ (c - 65 + 97).toInt ∧ (c - 65 + 97).toInt < 65536 := by
  obtain ⟨j, hj, rfl⟩ : ∃ j : Nat, j < 91 ∧ c = nI j := by
    obtain ⟨j, hj, rfl⟩ := nI_of2 (x := c) (M := 90) (n := 90) (by decide) (fun q => absurd (Int32.le_trans h1 (Int32.le_of_lt q)) (by decide)) h2
    exact ⟨j, by omega, rfl⟩
  have : ∀ j, j < 91 → 65 ≤ nI j → ((nI j - 65 + 97).toUInt32 % 65536).toInt32 = nI j - 65 + 97 ∧ 0 ≤ (nI j - 65 + 97).toInt ∧ (nI j - 65 + 97).toInt < 65536 := by decide +kernel
  exact this j hj h1
theorem clS_step {G : List Int32} {j : Nat} (hj : j < G.length) : (G.take (j + 1)).filterMap clS = (G.take j).filterMap clS ++ (clS (G.getD j 0)).toList := by
  rw [List.take_succ, List.filterMap_append]
  congr 1
  rw [List.getElem?_eq_getElem hj, List.getD_eq_getElem?_getD, List.getElem?_eq_getElem hj]
  simp only [Option.toList_some, Option.getD_some, List.filterMap_cons, List.filterMap_nil]
  cases clS G[j] <;> rfl
theorem clS_len {G : List Int32} {j : Nat} : ((G.take j).filterMap clS).length ≤ j := Nat.le_trans (List.length_filterMap_le _ _) (by rw [List.length_take]; omega)
theorem isDg_inst (c hi : Int32) : isDg c hi = (48 ≤ c ∧ c ≤ hi) := rfl

set_option maxHeartbeats 4000000 in
theorem clean_loop {mc ms kc ks : Nat} {S : aS} {s q cap cq : Nat} {G : List Int32} (hne : s ≠ q) (hne2 : s ≠ q + 1) (hne3 : q ≠ s + 1) (hcap : G.length ≤ cap) : ∀ (m j : Nat) (V : aV), j + m = G.length → SL S V s cap ((G.take j).filterMap clS) → SL S V q cq G → ∀ {Q : Option Value → aS → aV → Prop} {QX : String → aS → aV → Prop}, (∀ V', SL S V' s cap (G.filterMap clS) → Fr1 V V' s → Q none S V') → R mX9_becomeCleaned 1 mc ms Q QX kc ks 7 [some (.ref s), some (.ref q), some (.int (nI j)), none] [] S V := by
  intro m
  induction m with
  | zero =>
    intro j V hj h g Q QX hQ
    have hjm : j = G.length := by omega
    subst hjm
    rw [List.take_length] at h
    refine R_iload_2 dX9_becomeCleaned_7 ?_
    refine R_aload_1 dX9_becomeCleaned_8 ?_
    refine gfX9_13 rfl dX9_becomeCleaned_9 g.1 g.len1 ?_
    refine R_icmp_ge 80 dX9_becomeCleaned_12 (by decide) (fun c12 => ?_) (fun c12 => absurd (Int32.le_refl _) c12)
    refine R_vret rfl dX9_becomeCleaned_80 (hQ V h Fr1.refl)
  | succ m ih =>
    intro j V hjm h g Q QX hQ
    have hj : j < G.length := by omega
    have hcq := g.len
    have hcq2 := g.cap
    refine R_iload_2 dX9_becomeCleaned_7 ?_
    refine R_aload_1 dX9_becomeCleaned_8 ?_
    refine gfX9_13 rfl dX9_becomeCleaned_9 g.1 g.len1 ?_
    refine R_icmp_ge 80 dX9_becomeCleaned_12 (by decide) (fun c12 => absurd c12 (nI_ge hj (by omega))) (fun c12 => ?_)
    refine R_aload_1 dX9_becomeCleaned_15 ?_
    refine R_iload_2 dX9_becomeCleaned_16 ?_
    refine R_callV_e (T := mX9_becomeCleaned) (T' := mX9_signAt) (As := [_]) (ci := 9) okX9_signAt mlX9_37 rfl (by decide) g.1 (ct_signAtL g (nI j)) rfl (by decide) (by decide) (Nat.le_of_ble_eq_true rfl) dX9_becomeCleaned_17 ?_
    rw [lAt_nI (by omega)]
    refine R_istore_3 rfl (by decide) dX9_becomeCleaned_20 ?_
    refine R_iload_3 dX9_becomeCleaned_21 ?_
    refine R_bipush (v := 65) dX9_becomeCleaned_22 (by decide) ?_
    refine R_icmp_lt 48 dX9_becomeCleaned_24 (by decide) (fun c24 => ?_) (fun c24 => ?_)
    · refine R_iload_3 dX9_becomeCleaned_48 ?_
      refine R_bipush (v := 97) dX9_becomeCleaned_49 (by decide) ?_
      refine R_icmp_lt 60 dX9_becomeCleaned_51 (by decide) (fun c51 => ?_) (fun c51 => ?_)
      · refine R_iload_3 dX9_becomeCleaned_60 ?_
        refine R_bipush (v := 57) dX9_becomeCleaned_61 (by decide) ?_
        refine R_callSN_e (T := mX9_becomeCleaned) (T' := mX11_isDigit) (As := [_, _]) okX11_isDigit mlX9_41 (ct_isDigit (G.getD j 0) 57) rfl (by decide) (by decide) (Nat.le_of_ble_eq_true rfl) dX9_becomeCleaned_63 ?_
        refine R_if_eq 74 dX9_becomeCleaned_66 (by decide) (fun c66 => ?_) (fun c66 => ?_)
        · have nAZ : ¬ (65 ≤ G.getD j 0 ∧ G.getD j 0 ≤ 90) := by first | exact fun z => absurd z.1 (Int32.not_le.mpr c24) | exact fun z => absurd z.2 (Int32.not_le.mpr c30)
          have eS : clS (G.getD j 0) = none := (if_neg nAZ).trans (if_neg (fun z => z.elim (fun z => by first | exact absurd z.1 (Int32.not_le.mpr c51) | exact c57 z.2) (fun z => bI_eq c66 z)))
          have e5 : SL S V s cap ((G.take (j + 1)).filterMap clS) := by rw [clS_step hj, eS, Option.toList_none, List.append_nil]; exact h
          refine R_iinc_2 rfl (by decide) dX9_becomeCleaned_74 rfl ?_
          rw [show nI j + Int32.ofInt 1 = nI (j + 1) from nI_1 j]
          refine R_goto 7 dX9_becomeCleaned_77 (by decide) ?_
          refine R_drop_3 ?_
          exact ih (j + 1) V (by omega) e5 g (fun V8 k1 k2 => hQ V8 k1 k2)
        · have nAZ : ¬ (65 ≤ G.getD j 0 ∧ G.getD j 0 ≤ 90) := by first | exact fun z => absurd z.1 (Int32.not_le.mpr c24) | exact fun z => absurd z.2 (Int32.not_le.mpr c30)
          have eS : clS (G.getD j 0) = some (G.getD j 0) := (if_neg nAZ).trans (if_pos (by first | exact Or.inr (bI_ne c66) | exact Or.inl ⟨Int32.not_lt.mp c51, c57⟩))
          refine R_aload_0 dX9_becomeCleaned_69 ?_
          refine R_iload_3 dX9_becomeCleaned_70 ?_
          refine R_callV (T := mX9_becomeCleaned) (T' := mX9_add) (As := [_]) (ci := 9) okX9_add mlX9_29 rfl (by decide) h.1 (ct_addL h _ (g.getD j) (by have := @clS_len G j; omega)) rfl (by decide) (by decide) (Nat.le_of_ble_eq_true rfl) dX9_becomeCleaned_71 (fun v9 S9 V9 h9 => ?_) (fun E S9 V9 h9 => h9.elim)
          obtain ⟨rfl, rfl, h91, h92⟩ := h9
          have e5 : SL S V9 s cap ((G.take (j + 1)).filterMap clS) := by rw [clS_step hj, eS]; exact h91
          refine R_iinc_2 rfl (by decide) dX9_becomeCleaned_74 rfl ?_
          rw [show nI j + Int32.ofInt 1 = nI (j + 1) from nI_1 j]
          refine R_goto 7 dX9_becomeCleaned_77 (by decide) ?_
          refine R_drop_3 ?_
          exact ih (j + 1) V9 (by omega) e5 (g.fr h92 (by omega) (by omega) (by omega)) (fun V8 k1 k2 => hQ V8 k1 (h92.trans k2))
      · refine R_iload_3 dX9_becomeCleaned_54 ?_
        refine R_bipush (v := 122) dX9_becomeCleaned_55 (by decide) ?_
        refine R_icmp_le 69 dX9_becomeCleaned_57 (by decide) (fun c57 => ?_) (fun c57 => ?_)
        · have nAZ : ¬ (65 ≤ G.getD j 0 ∧ G.getD j 0 ≤ 90) := by first | exact fun z => absurd z.1 (Int32.not_le.mpr c24) | exact fun z => absurd z.2 (Int32.not_le.mpr c30)
          have eS : clS (G.getD j 0) = some (G.getD j 0) := (if_neg nAZ).trans (if_pos (by first | exact Or.inr (bI_ne c66) | exact Or.inl ⟨Int32.not_lt.mp c51, c57⟩))
          refine R_aload_0 dX9_becomeCleaned_69 ?_
          refine R_iload_3 dX9_becomeCleaned_70 ?_
          refine R_callV (T := mX9_becomeCleaned) (T' := mX9_add) (As := [_]) (ci := 9) okX9_add mlX9_29 rfl (by decide) h.1 (ct_addL h _ (g.getD j) (by have := @clS_len G j; omega)) rfl (by decide) (by decide) (Nat.le_of_ble_eq_true rfl) dX9_becomeCleaned_71 (fun v9 S9 V9 h9 => ?_) (fun E S9 V9 h9 => h9.elim)
          obtain ⟨rfl, rfl, h91, h92⟩ := h9
          have e5 : SL S V9 s cap ((G.take (j + 1)).filterMap clS) := by rw [clS_step hj, eS]; exact h91
          refine R_iinc_2 rfl (by decide) dX9_becomeCleaned_74 rfl ?_
          rw [show nI j + Int32.ofInt 1 = nI (j + 1) from nI_1 j]
          refine R_goto 7 dX9_becomeCleaned_77 (by decide) ?_
          refine R_drop_3 ?_
          exact ih (j + 1) V9 (by omega) e5 (g.fr h92 (by omega) (by omega) (by omega)) (fun V8 k1 k2 => hQ V8 k1 (h92.trans k2))
        · refine R_iload_3 dX9_becomeCleaned_60 ?_
          refine R_bipush (v := 57) dX9_becomeCleaned_61 (by decide) ?_
          refine R_callSN_e (T := mX9_becomeCleaned) (T' := mX11_isDigit) (As := [_, _]) okX11_isDigit mlX9_41 (ct_isDigit (G.getD j 0) 57) rfl (by decide) (by decide) (Nat.le_of_ble_eq_true rfl) dX9_becomeCleaned_63 ?_
          refine R_if_eq 74 dX9_becomeCleaned_66 (by decide) (fun c66 => ?_) (fun c66 => ?_)
          · have nAZ : ¬ (65 ≤ G.getD j 0 ∧ G.getD j 0 ≤ 90) := by first | exact fun z => absurd z.1 (Int32.not_le.mpr c24) | exact fun z => absurd z.2 (Int32.not_le.mpr c30)
            have eS : clS (G.getD j 0) = none := (if_neg nAZ).trans (if_neg (fun z => z.elim (fun z => by first | exact absurd z.1 (Int32.not_le.mpr c51) | exact c57 z.2) (fun z => bI_eq c66 z)))
            have e5 : SL S V s cap ((G.take (j + 1)).filterMap clS) := by rw [clS_step hj, eS, Option.toList_none, List.append_nil]; exact h
            refine R_iinc_2 rfl (by decide) dX9_becomeCleaned_74 rfl ?_
            rw [show nI j + Int32.ofInt 1 = nI (j + 1) from nI_1 j]
            refine R_goto 7 dX9_becomeCleaned_77 (by decide) ?_
            refine R_drop_3 ?_
            exact ih (j + 1) V (by omega) e5 g (fun V8 k1 k2 => hQ V8 k1 k2)
          · have nAZ : ¬ (65 ≤ G.getD j 0 ∧ G.getD j 0 ≤ 90) := by first | exact fun z => absurd z.1 (Int32.not_le.mpr c24) | exact fun z => absurd z.2 (Int32.not_le.mpr c30)
            have eS : clS (G.getD j 0) = some (G.getD j 0) := (if_neg nAZ).trans (if_pos (by first | exact Or.inr (bI_ne c66) | exact Or.inl ⟨Int32.not_lt.mp c51, c57⟩))
            refine R_aload_0 dX9_becomeCleaned_69 ?_
            refine R_iload_3 dX9_becomeCleaned_70 ?_
            refine R_callV (T := mX9_becomeCleaned) (T' := mX9_add) (As := [_]) (ci := 9) okX9_add mlX9_29 rfl (by decide) h.1 (ct_addL h _ (g.getD j) (by have := @clS_len G j; omega)) rfl (by decide) (by decide) (Nat.le_of_ble_eq_true rfl) dX9_becomeCleaned_71 (fun v9 S9 V9 h9 => ?_) (fun E S9 V9 h9 => h9.elim)
            obtain ⟨rfl, rfl, h91, h92⟩ := h9
            have e5 : SL S V9 s cap ((G.take (j + 1)).filterMap clS) := by rw [clS_step hj, eS]; exact h91
            refine R_iinc_2 rfl (by decide) dX9_becomeCleaned_74 rfl ?_
            rw [show nI j + Int32.ofInt 1 = nI (j + 1) from nI_1 j]
            refine R_goto 7 dX9_becomeCleaned_77 (by decide) ?_
            refine R_drop_3 ?_
            exact ih (j + 1) V9 (by omega) e5 (g.fr h92 (by omega) (by omega) (by omega)) (fun V8 k1 k2 => hQ V8 k1 (h92.trans k2))
    · refine R_iload_3 dX9_becomeCleaned_27 ?_
      refine R_bipush (v := 90) dX9_becomeCleaned_28 (by decide) ?_
      refine R_icmp_gt 48 dX9_becomeCleaned_30 (by decide) (fun c30 => ?_) (fun c30 => ?_)
      · refine R_iload_3 dX9_becomeCleaned_48 ?_
        refine R_bipush (v := 97) dX9_becomeCleaned_49 (by decide) ?_
        refine R_icmp_lt 60 dX9_becomeCleaned_51 (by decide) (fun c51 => ?_) (fun c51 => ?_)
        · refine R_iload_3 dX9_becomeCleaned_60 ?_
          refine R_bipush (v := 57) dX9_becomeCleaned_61 (by decide) ?_
          refine R_callSN_e (T := mX9_becomeCleaned) (T' := mX11_isDigit) (As := [_, _]) okX11_isDigit mlX9_41 (ct_isDigit (G.getD j 0) 57) rfl (by decide) (by decide) (Nat.le_of_ble_eq_true rfl) dX9_becomeCleaned_63 ?_
          refine R_if_eq 74 dX9_becomeCleaned_66 (by decide) (fun c66 => ?_) (fun c66 => ?_)
          · have nAZ : ¬ (65 ≤ G.getD j 0 ∧ G.getD j 0 ≤ 90) := by first | exact fun z => absurd z.1 (Int32.not_le.mpr c24) | exact fun z => absurd z.2 (Int32.not_le.mpr c30)
            have eS : clS (G.getD j 0) = none := (if_neg nAZ).trans (if_neg (fun z => z.elim (fun z => by first | exact absurd z.1 (Int32.not_le.mpr c51) | exact c57 z.2) (fun z => bI_eq c66 z)))
            have e5 : SL S V s cap ((G.take (j + 1)).filterMap clS) := by rw [clS_step hj, eS, Option.toList_none, List.append_nil]; exact h
            refine R_iinc_2 rfl (by decide) dX9_becomeCleaned_74 rfl ?_
            rw [show nI j + Int32.ofInt 1 = nI (j + 1) from nI_1 j]
            refine R_goto 7 dX9_becomeCleaned_77 (by decide) ?_
            refine R_drop_3 ?_
            exact ih (j + 1) V (by omega) e5 g (fun V8 k1 k2 => hQ V8 k1 k2)
          · have nAZ : ¬ (65 ≤ G.getD j 0 ∧ G.getD j 0 ≤ 90) := by first | exact fun z => absurd z.1 (Int32.not_le.mpr c24) | exact fun z => absurd z.2 (Int32.not_le.mpr c30)
            have eS : clS (G.getD j 0) = some (G.getD j 0) := (if_neg nAZ).trans (if_pos (by first | exact Or.inr (bI_ne c66) | exact Or.inl ⟨Int32.not_lt.mp c51, c57⟩))
            refine R_aload_0 dX9_becomeCleaned_69 ?_
            refine R_iload_3 dX9_becomeCleaned_70 ?_
            refine R_callV (T := mX9_becomeCleaned) (T' := mX9_add) (As := [_]) (ci := 9) okX9_add mlX9_29 rfl (by decide) h.1 (ct_addL h _ (g.getD j) (by have := @clS_len G j; omega)) rfl (by decide) (by decide) (Nat.le_of_ble_eq_true rfl) dX9_becomeCleaned_71 (fun v9 S9 V9 h9 => ?_) (fun E S9 V9 h9 => h9.elim)
            obtain ⟨rfl, rfl, h91, h92⟩ := h9
            have e5 : SL S V9 s cap ((G.take (j + 1)).filterMap clS) := by rw [clS_step hj, eS]; exact h91
            refine R_iinc_2 rfl (by decide) dX9_becomeCleaned_74 rfl ?_
            rw [show nI j + Int32.ofInt 1 = nI (j + 1) from nI_1 j]
            refine R_goto 7 dX9_becomeCleaned_77 (by decide) ?_
            refine R_drop_3 ?_
            exact ih (j + 1) V9 (by omega) e5 (g.fr h92 (by omega) (by omega) (by omega)) (fun V8 k1 k2 => hQ V8 k1 (h92.trans k2))
        · refine R_iload_3 dX9_becomeCleaned_54 ?_
          refine R_bipush (v := 122) dX9_becomeCleaned_55 (by decide) ?_
          refine R_icmp_le 69 dX9_becomeCleaned_57 (by decide) (fun c57 => ?_) (fun c57 => ?_)
          · have nAZ : ¬ (65 ≤ G.getD j 0 ∧ G.getD j 0 ≤ 90) := by first | exact fun z => absurd z.1 (Int32.not_le.mpr c24) | exact fun z => absurd z.2 (Int32.not_le.mpr c30)
            have eS : clS (G.getD j 0) = some (G.getD j 0) := (if_neg nAZ).trans (if_pos (by first | exact Or.inr (bI_ne c66) | exact Or.inl ⟨Int32.not_lt.mp c51, c57⟩))
            refine R_aload_0 dX9_becomeCleaned_69 ?_
            refine R_iload_3 dX9_becomeCleaned_70 ?_
            refine R_callV (T := mX9_becomeCleaned) (T' := mX9_add) (As := [_]) (ci := 9) okX9_add mlX9_29 rfl (by decide) h.1 (ct_addL h _ (g.getD j) (by have := @clS_len G j; omega)) rfl (by decide) (by decide) (Nat.le_of_ble_eq_true rfl) dX9_becomeCleaned_71 (fun v9 S9 V9 h9 => ?_) (fun E S9 V9 h9 => h9.elim)
            obtain ⟨rfl, rfl, h91, h92⟩ := h9
            have e5 : SL S V9 s cap ((G.take (j + 1)).filterMap clS) := by rw [clS_step hj, eS]; exact h91
            refine R_iinc_2 rfl (by decide) dX9_becomeCleaned_74 rfl ?_
            rw [show nI j + Int32.ofInt 1 = nI (j + 1) from nI_1 j]
            refine R_goto 7 dX9_becomeCleaned_77 (by decide) ?_
            refine R_drop_3 ?_
            exact ih (j + 1) V9 (by omega) e5 (g.fr h92 (by omega) (by omega) (by omega)) (fun V8 k1 k2 => hQ V8 k1 (h92.trans k2))
          · refine R_iload_3 dX9_becomeCleaned_60 ?_
            refine R_bipush (v := 57) dX9_becomeCleaned_61 (by decide) ?_
            refine R_callSN_e (T := mX9_becomeCleaned) (T' := mX11_isDigit) (As := [_, _]) okX11_isDigit mlX9_41 (ct_isDigit (G.getD j 0) 57) rfl (by decide) (by decide) (Nat.le_of_ble_eq_true rfl) dX9_becomeCleaned_63 ?_
            refine R_if_eq 74 dX9_becomeCleaned_66 (by decide) (fun c66 => ?_) (fun c66 => ?_)
            · have nAZ : ¬ (65 ≤ G.getD j 0 ∧ G.getD j 0 ≤ 90) := by first | exact fun z => absurd z.1 (Int32.not_le.mpr c24) | exact fun z => absurd z.2 (Int32.not_le.mpr c30)
              have eS : clS (G.getD j 0) = none := (if_neg nAZ).trans (if_neg (fun z => z.elim (fun z => by first | exact absurd z.1 (Int32.not_le.mpr c51) | exact c57 z.2) (fun z => bI_eq c66 z)))
              have e5 : SL S V s cap ((G.take (j + 1)).filterMap clS) := by rw [clS_step hj, eS, Option.toList_none, List.append_nil]; exact h
              refine R_iinc_2 rfl (by decide) dX9_becomeCleaned_74 rfl ?_
              rw [show nI j + Int32.ofInt 1 = nI (j + 1) from nI_1 j]
              refine R_goto 7 dX9_becomeCleaned_77 (by decide) ?_
              refine R_drop_3 ?_
              exact ih (j + 1) V (by omega) e5 g (fun V8 k1 k2 => hQ V8 k1 k2)
            · have nAZ : ¬ (65 ≤ G.getD j 0 ∧ G.getD j 0 ≤ 90) := by first | exact fun z => absurd z.1 (Int32.not_le.mpr c24) | exact fun z => absurd z.2 (Int32.not_le.mpr c30)
              have eS : clS (G.getD j 0) = some (G.getD j 0) := (if_neg nAZ).trans (if_pos (by first | exact Or.inr (bI_ne c66) | exact Or.inl ⟨Int32.not_lt.mp c51, c57⟩))
              refine R_aload_0 dX9_becomeCleaned_69 ?_
              refine R_iload_3 dX9_becomeCleaned_70 ?_
              refine R_callV (T := mX9_becomeCleaned) (T' := mX9_add) (As := [_]) (ci := 9) okX9_add mlX9_29 rfl (by decide) h.1 (ct_addL h _ (g.getD j) (by have := @clS_len G j; omega)) rfl (by decide) (by decide) (Nat.le_of_ble_eq_true rfl) dX9_becomeCleaned_71 (fun v9 S9 V9 h9 => ?_) (fun E S9 V9 h9 => h9.elim)
              obtain ⟨rfl, rfl, h91, h92⟩ := h9
              have e5 : SL S V9 s cap ((G.take (j + 1)).filterMap clS) := by rw [clS_step hj, eS]; exact h91
              refine R_iinc_2 rfl (by decide) dX9_becomeCleaned_74 rfl ?_
              rw [show nI j + Int32.ofInt 1 = nI (j + 1) from nI_1 j]
              refine R_goto 7 dX9_becomeCleaned_77 (by decide) ?_
              refine R_drop_3 ?_
              exact ih (j + 1) V9 (by omega) e5 (g.fr h92 (by omega) (by omega) (by omega)) (fun V8 k1 k2 => hQ V8 k1 (h92.trans k2))
      · refine R_aload_0 dX9_becomeCleaned_33 ?_
        refine R_iload_3 dX9_becomeCleaned_34 ?_
        refine R_bipush (v := 65) dX9_becomeCleaned_35 (by decide) ?_
        refine R_isub dX9_becomeCleaned_37 ?_
        refine R_bipush (v := 97) dX9_becomeCleaned_38 (by decide) ?_
        refine R_iadd dX9_becomeCleaned_40 ?_
        have hAZ := clS_i2c (Int32.not_lt.mp c24) (Int32.not_lt.mp c30)
        have eS : clS (G.getD j 0) = some (G.getD j 0 - 65 + 97) := if_pos ⟨Int32.not_lt.mp c24, Int32.not_lt.mp c30⟩
        refine R_i2c dX9_becomeCleaned_41 ?_
        rw [hAZ.1]
        refine R_callV (T := mX9_becomeCleaned) (T' := mX9_add) (As := [_]) (ci := 9) okX9_add mlX9_29 rfl (by decide) h.1 (ct_addL h _ hAZ.2 (by have := @clS_len G j; omega)) rfl (by decide) (by decide) (Nat.le_of_ble_eq_true rfl) dX9_becomeCleaned_42 (fun v9 S9 V9 h9 => ?_) (fun E S9 V9 h9 => h9.elim)
        obtain ⟨rfl, rfl, h91, h92⟩ := h9
        have e5 : SL S V9 s cap ((G.take (j + 1)).filterMap clS) := by rw [clS_step hj, eS]; exact h91
        refine R_goto 74 dX9_becomeCleaned_45 (by decide) ?_
        refine R_iinc_2 rfl (by decide) dX9_becomeCleaned_74 rfl ?_
        rw [show nI j + Int32.ofInt 1 = nI (j + 1) from nI_1 j]
        refine R_goto 7 dX9_becomeCleaned_77 (by decide) ?_
        refine R_drop_3 ?_
        exact ih (j + 1) V9 (by omega) e5 (g.fr h92 (by omega) (by omega) (by omega)) (fun V8 k1 k2 => hQ V8 k1 (h92.trans k2))
set_option maxHeartbeats 4000000 in
theorem ct_clean {S : aS} {V : aV} {s q cap cq : Nat} {L G : List Int32} (h : SL S V s cap L) (g : SL S V q cq G) (hne : s ≠ q) (hne2 : s ≠ q + 1) (hne3 : q ≠ s + 1) (hcap : G.length ≤ cap) : CT mX9_becomeCleaned 1 0 0 [.ref s, .ref q] S V (SLto S V s cap (G.filterMap clS) none) aNo := by
  refine CT_of (by decide +kernel) (Nat.le_of_ble_eq_true rfl) ?_
  show R _ _ _ _ _ _ _ _ 0 [some (.ref s), some (.ref q), none, none] [] _ _
  refine R_aload_0 dX9_becomeCleaned_0 ?_
  refine R_iconst (v := 0) dX9_becomeCleaned_1 (by decide) ?_
  refine pfX9_13 rfl dX9_becomeCleaned_2 h.1 ?_
  refine R_iconst (v := 0) dX9_becomeCleaned_5 (by decide) ?_
  refine R_istore_2 rfl (by decide) dX9_becomeCleaned_6 ?_
  exact clean_loop hne hne2 hne3 hcap G.length 0 _ (Nat.zero_add _) h.clear (g.fr (q := s) Fr1.up (by omega) (by omega) (by omega)) (fun V8 h8 f8 => ⟨rfl, rfl, h8, Fr1.up.trans f8⟩)

/-- how many of the first j places are unlike -/
noncomputable def unl (L G : List Int32) : Nat → Nat
  | 0 => 0
  | j + 1 => unl L G j + if L.getD j 0 = G.getD j 0 then 0 else 1
theorem unl_t {L G : List Int32} {j : Nat} (h : L.getD j 0 = G.getD j 0) : unl L G (j + 1) = unl L G j := by
  show unl L G j + (if _ then 0 else 1) = _
  rw [if_pos h]; rfl
theorem unl_f {L G : List Int32} {j : Nat} (h : ¬ L.getD j 0 = G.getD j 0) : unl L G (j + 1) = unl L G j + 1 := by
  show unl L G j + (if _ then 0 else 1) = _
  rw [if_neg h]
set_option maxHeartbeats 4000000 in
theorem unl_loop {mc ms kc ks : Nat} {S : aS} {V : aV} {s q cap cq : Nat} {L G : List Int32} (h : SL S V s cap L) (g : SL S V q cq G) {Q : Option Value → aS → aV → Prop} {QX : String → aS → aV → Prop} (hQ : Q (some (.int (nI (unl L G (max L.length G.length))))) S V) : ∀ (m j : Nat), j + m = max L.length G.length → R mX9_unlikeSigns 1 mc ms Q QX kc ks 4 [some (.ref s), some (.ref q), some (.int (nI (unl L G j))), some (.int (nI j))] [] S V := by
  have hL := h.len
  have hL2 := h.cap
  have hG := g.len
  have hG2 := g.cap
  have hmax : (if nI L.length < nI G.length then nI G.length else nI L.length) = nI (max L.length G.length) := by
    by_cases e : L.length < G.length
    · rw [if_pos (nI_lt e (by omega)), Nat.max_eq_right (by omega)]
    · rw [if_neg (nI_nlt (by omega) (by omega)), Nat.max_eq_left (by omega)]
  intro m
  induction m with
  | zero =>
    intro j hj
    have hjm : j = max L.length G.length := by omega
    rw [hjm]
    refine R_iload_3 dX9_unlikeSigns_4 ?_
    refine R_aload_0 dX9_unlikeSigns_5 ?_
    refine gfX9_13 rfl dX9_unlikeSigns_6 h.1 h.len1 ?_
    refine R_aload_1 dX9_unlikeSigns_9 ?_
    refine gfX9_13 rfl dX9_unlikeSigns_10 g.1 g.len1 ?_
    refine R_max mmX9_47 wm_max1 wm_ini wm_max2 dX9_unlikeSigns_13 (by decide) (Nat.le_of_ble_eq_true rfl) hmax ?_
    refine R_icmp_ge 41 dX9_unlikeSigns_16 (by decide) (fun c16 => ?_) (fun c16 => absurd (Int32.le_refl _) c16)
    refine R_iload_2 dX9_unlikeSigns_41 ?_
    refine R_iret rfl dX9_unlikeSigns_42 hQ
  | succ m ih =>
    intro j hjm
    have hj : j < max L.length G.length := by omega
    have ihj := ih (j + 1) (by omega)
    refine R_iload_3 dX9_unlikeSigns_4 ?_
    refine R_aload_0 dX9_unlikeSigns_5 ?_
    refine gfX9_13 rfl dX9_unlikeSigns_6 h.1 h.len1 ?_
    refine R_aload_1 dX9_unlikeSigns_9 ?_
    refine gfX9_13 rfl dX9_unlikeSigns_10 g.1 g.len1 ?_
    refine R_max mmX9_47 wm_max1 wm_ini wm_max2 dX9_unlikeSigns_13 (by decide) (Nat.le_of_ble_eq_true rfl) hmax ?_
    refine R_icmp_ge 41 dX9_unlikeSigns_16 (by decide) (fun c16 => absurd c16 (nI_ge hj (by omega))) (fun c16 => ?_)
    refine R_aload_0 dX9_unlikeSigns_19 ?_
    refine R_iload_3 dX9_unlikeSigns_20 ?_
    refine R_callV_e (T := mX9_unlikeSigns) (T' := mX9_signAt) (As := [_]) (ci := 9) okX9_signAt mlX9_37 rfl (by decide) h.1 (ct_signAtL h (nI j)) rfl (by decide) (by decide) (Nat.le_of_ble_eq_true rfl) dX9_unlikeSigns_21 ?_
    refine R_aload_1 dX9_unlikeSigns_24 ?_
    refine R_iload_3 dX9_unlikeSigns_25 ?_
    refine R_callV_e (T := mX9_unlikeSigns) (T' := mX9_signAt) (As := [_]) (ci := 9) okX9_signAt mlX9_37 rfl (by decide) g.1 (ct_signAtL g (nI j)) rfl (by decide) (by decide) (Nat.le_of_ble_eq_true rfl) dX9_unlikeSigns_26 ?_
    rw [lAt_nI (by omega), lAt_nI (by omega)]
    refine R_icmp_eq 35 dX9_unlikeSigns_29 (by decide) (fun c29 => ?_) (fun c29 => ?_)
    · refine R_iinc_3 rfl (by decide) dX9_unlikeSigns_35 rfl ?_
      rw [show nI j + Int32.ofInt 1 = nI (j + 1) from nI_1 j]
      refine R_goto 4 dX9_unlikeSigns_38 (by decide) ?_
      first
        | (rw [show nI (unl L G j) + Int32.ofInt 1 = nI (unl L G (j + 1)) from (nI_1 _).trans (congrArg nI (unl_f c29).symm)]; exact ihj)
        | (rw [unl_t c29] at ihj; exact ihj)
    · refine R_iinc_2 rfl (by decide) dX9_unlikeSigns_32 rfl ?_
      refine R_iinc_3 rfl (by decide) dX9_unlikeSigns_35 rfl ?_
      rw [show nI j + Int32.ofInt 1 = nI (j + 1) from nI_1 j]
      refine R_goto 4 dX9_unlikeSigns_38 (by decide) ?_
      first
        | (rw [show nI (unl L G j) + Int32.ofInt 1 = nI (unl L G (j + 1)) from (nI_1 _).trans (congrArg nI (unl_f c29).symm)]; exact ihj)
        | (rw [unl_t c29] at ihj; exact ihj)
set_option maxHeartbeats 4000000 in
theorem ct_unlike {S : aS} {V : aV} {s q cap cq : Nat} {L G : List Int32} (h : SL S V s cap L) (g : SL S V q cq G) : CT mX9_unlikeSigns 1 0 0 [.ref s, .ref q] S V (aRet (some (.int (nI (unl L G (max L.length G.length))))) S V) aNo := by
  refine CT_of (by decide +kernel) (Nat.le_of_ble_eq_true rfl) ?_
  show R _ _ _ _ _ _ _ _ 0 [some (.ref s), some (.ref q), none, none] [] _ _
  refine R_iconst (v := 0) dX9_unlikeSigns_0 (by decide) ?_
  refine R_istore_2 rfl (by decide) dX9_unlikeSigns_1 ?_
  refine R_iconst (v := 0) dX9_unlikeSigns_2 (by decide) ?_
  refine R_istore_3 rfl (by decide) dX9_unlikeSigns_3 ?_
  exact unl_loop h g ⟨rfl, rfl, rfl⟩ (max L.length G.length) 0 (Nat.zero_add _)

