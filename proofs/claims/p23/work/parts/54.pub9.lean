/-! ===== MergePost: letters counted, checked ===== -/
/-- how many letters a run has -/
def lcn (mt po : Nat → Nat) (cnt : Nat) (kn : Nat → Nat) (pd : Nat → Bool) (rr : Nat → Nat) (i : Nat) : Nat := if pd i = true then kn i else (dLst mt po (rr i) cnt).length
theorem lcn_le {V : aV} {mt po : Nat → Nat} {cnt : Nat} {kn : Nat → Nat} {pd : Nat → Bool} {rt rr : Nat → Nat} (hR : RB V kn pd rt rr) (hc : cnt ≤ 12) {i : Nat} (hi : i < 8) : lcn mt po cnt kn pd rr i ≤ 12 := by
  unfold lcn
  split
  · exact (hR i hi).2.1.2.2.2.2.2
  · exact Nat.le_trans (dLst_len cnt) hc
theorem ct_count {V : aV} {mt po : Nat → Nat} {cnt : Nat} {kn : Nat → Nat} {pd : Nat → Bool} {rt rr : Nat → Nat} (hM : MB V) (hR : RB V kn pd rt rr) (hB : BF V) (hK : MK V 85 mt) (hP : MK V 86 po) (hc : V 74 5 = .int (nI cnt)) (hc12 : cnt ≤ 12) {i : Nat} (hi : i < 8) : CT mX11_countLetters 4 0 0 [.ref 0, .ref (200 + 38 * i)] Sh V (fun v S' V' => some (.int (nI (lcn mt po cnt kn pd rr i))) = v ∧ Sh = S' ∧ (pd i = false → DLI V' (dLst mt po (rr i) cnt)) ∧ Fr0 V V' 87) aNo := by
  obtain ⟨r1, r2, r3, r4, r5, r6, r7⟩ := hR i hi
  cases q : pd i with
  | true =>
    rw [q, bI_t rfl] at r3
    have e : lcn mt po cnt kn pd rr i = kn i := if_pos q
    rw [e]
    exact CT_mono (ct_countP r2 r3) (fun v S' V' h => ⟨h.1, h.2.1, fun z => by (cases z), fun b _ => by rw [h.2.2]⟩) (fun _ _ _ h => h)
  | false =>
    rw [q, bI_f (by decide)] at r3
    have e : lcn mt po cnt kn pd rr i = (dLst mt po (rr i) cnt).length := if_neg (by rw [q]; decide)
    rw [e]
    exact CT_mono (ct_countO hM r2 r3 r5 hB hK hP (by omega) hc hc12) (fun v S' V' h => ⟨h.1, h.2.1, fun _ => h.2.2.1, h.2.2.2⟩) (fun _ _ _ h => h)
/-- there is such a letter -/
def ltOK (n : Nat) (lc : Nat → Nat) (t u : Int32) : Prop := ∃ i l, i < n ∧ i < 8 ∧ t = nI i ∧ u = nI l ∧ l < lc i
set_option maxHeartbeats 4000000 in
theorem ct_checkLetter {V : aV} {mt po : Nat → Nat} {cnt n : Nat} {kn : Nat → Nat} {pd : Nat → Bool} {rt rr : Nat → Nat} (hM : MB V) (h6 : V 0 6 = .int (nI n)) (hn : n ≤ 8) (hR : RB V kn pd rt rr) (hB : BF V) (hK : MK V 85 mt) (hP : MK V 86 po) (hc : V 74 5 = .int (nI cnt)) (hc12 : cnt ≤ 12) (t u : Int32) : CT mX11_checkLetter 7 2 12 [.ref 0, .int t, .int u] Sh V (fun v S' V' => none = v ∧ Sh = S' ∧ (∃ i l, i < n ∧ i < 8 ∧ t = nI i ∧ u = nI l ∧ l < lcn mt po cnt kn pd rr i ∧ (pd i = false → DLI V' (dLst mt po (rr i) cnt))) ∧ Fr0 V V' 87) (fun E S' V' => E = xI ∧ Sh = S' ∧ Fr0 V V' 87 ∧ ¬ ltOK n (lcn mt po cnt kn pd rr) t u) := by
  refine CT_of (by decide +kernel) (Nat.le_of_ble_eq_true rfl) ?_
  show R _ _ _ _ _ _ _ _ 0 [some (.ref 0), some (.int t), some (.int u)] [] _ _
  obtain ⟨m0, m1, m2, m3, m4, m5⟩ := id hM
  refine R_aload_0 dX11_checkLetter_0 ?_
  refine R_iload_1 dX11_checkLetter_1 ?_
  refine R_callV (T := mX11_checkLetter) (T' := mX11_checkRun) (As := [_]) (ci := 11) okX11_checkRun mlX11_196 rfl (by decide) sh_0 (ct_checkRun h6 t) rfl (by decide) (by decide) (Nat.le_of_ble_eq_true rfl) dX11_checkLetter_2 (fun v9 S9 V9 h9 => ?_) (fun E S9 V9 h9 => by obtain ⟨z1, z2, z3, z4⟩ := h9; subst z4; exact ⟨z1, z3, fun _ _ => rfl, fun ⟨i, l, a1, a2, a3, a4, a5⟩ => z2 (by rw [a3]; exact ⟨nI_pos (by omega), nI_lt (by omega) (by omega), nI_lt (by omega) (by decide)⟩)⟩)
  obtain ⟨rfl, o, rfl, rfl⟩ := h9
  obtain ⟨i, x, y, e⟩ := okN_nI o (by decide)
  subst e
  obtain ⟨r1, r2, r3, r4, r5, r6, r7⟩ := hR i y
  have l12 := lcn_le (mt := mt) (po := po) hR hc12 y
  refine R_iload_2 dX11_checkLetter_5 ?_
  refine R_if_lt 23 dX11_checkLetter_6 (by decide) (fun c6 => ?_) (fun c6 => ?_)
  · first
      | exact R_throwW (T := mX11_checkLetter) rfl a_fit2 th_i4 clX11_102 th_i5 srX11_278 th_i1 th_i2 th_i3 dX11_checkLetter_23 dX11_checkLetter_26 dX11_checkLetter_27 dX11_checkLetter_30 dX11_checkLetter_33 (by decide) (Nat.le_of_ble_eq_true rfl) rfl ⟨rfl, rfl, u4, fun ⟨i2, l2, a1, a2, a3, a4, a5⟩ => c20 (by have a6 := (nI_eq (by omega) (by omega)).1 a3; subst a6; rw [a4]; exact nI_lt a5 (by omega))⟩
      | exact R_throwW (T := mX11_checkLetter) rfl a_fit2 th_i4 clX11_102 th_i5 srX11_278 th_i1 th_i2 th_i3 dX11_checkLetter_23 dX11_checkLetter_26 dX11_checkLetter_27 dX11_checkLetter_30 dX11_checkLetter_33 (by decide) (Nat.le_of_ble_eq_true rfl) rfl ⟨rfl, rfl, fun _ _ => rfl, fun ⟨i2, l2, a1, a2, a3, a4, a5⟩ => by rw [a4] at c6; have a6 := (nI_eq (by omega) (by omega)).1 a3; subst a6; exact nI_pos (by omega) c6⟩
  · refine R_iload_2 dX11_checkLetter_9 ?_
    refine R_aload_0 dX11_checkLetter_10 ?_
    refine R_aload_0 dX11_checkLetter_11 ?_
    refine gfX11_46 rfl dX11_checkLetter_12 sh_0 m5 ?_
    refine R_iload_1 dX11_checkLetter_15 ?_
    refine R_aald_18 dX11_checkLetter_16 sh_199 (vp_in_nI (by omega) (by decide)) (nI_clamp (by omega)) r1 ?_
    refine R_callV (T := mX11_checkLetter) (T' := mX11_countLetters) (As := [_]) (ci := 11) okX11_countLetters mlX11_199 rfl (by decide) sh_0 (ct_count hM hR hB hK hP hc hc12 y) rfl (by decide) (by decide) (Nat.le_of_ble_eq_true rfl) dX11_checkLetter_17 (fun v9 S9 V1 h9 => ?_) (fun E S9 V9 h9 => h9.elim)
    obtain ⟨rfl, rfl, u3, u4⟩ := h9
    refine R_icmp_lt 34 dX11_checkLetter_20 (by decide) (fun c20 => ?_) (fun c20 => ?_)
    · obtain ⟨l, hl, rfl⟩ := nI_of c6
      have hl2 : l < lcn mt po cnt kn pd rr i := (nI_ltI hl (by omega)).1 c20
      refine R_vret rfl dX11_checkLetter_34 ⟨rfl, rfl, ⟨i, l, x, y, rfl, rfl, hl2, u3⟩, u4⟩
    · first
        | exact R_throwW (T := mX11_checkLetter) rfl a_fit2 th_i4 clX11_102 th_i5 srX11_278 th_i1 th_i2 th_i3 dX11_checkLetter_23 dX11_checkLetter_26 dX11_checkLetter_27 dX11_checkLetter_30 dX11_checkLetter_33 (by decide) (Nat.le_of_ble_eq_true rfl) rfl ⟨rfl, rfl, u4, fun ⟨i2, l2, a1, a2, a3, a4, a5⟩ => c20 (by have a6 := (nI_eq (by omega) (by omega)).1 a3; subst a6; rw [a4]; exact nI_lt a5 (by omega))⟩
        | exact R_throwW (T := mX11_checkLetter) rfl a_fit2 th_i4 clX11_102 th_i5 srX11_278 th_i1 th_i2 th_i3 dX11_checkLetter_23 dX11_checkLetter_26 dX11_checkLetter_27 dX11_checkLetter_30 dX11_checkLetter_33 (by decide) (Nat.le_of_ble_eq_true rfl) rfl ⟨rfl, rfl, fun _ _ => rfl, fun ⟨i2, l2, a1, a2, a3, a4, a5⟩ => by rw [a4] at c6; have a6 := (nI_eq (by omega) (by omega)).1 a3; subst a6; exact nI_pos (by omega) c6⟩

set_option maxHeartbeats 4000000 in
theorem ct_letters {V : aV} {mt po : Nat → Nat} {cnt n : Nat} {kn : Nat → Nat} {pd : Nat → Bool} {rt rr : Nat → Nat} (hM : MB V) (h6 : V 0 6 = .int (nI n)) (hn : n ≤ 8) (hR : RB V kn pd rt rr) (hB : BF V) (hK : MK V 85 mt) (hP : MK V 86 po) (hc : V 74 5 = .int (nI cnt)) (hc12 : cnt ≤ 12) (t : Int32) : CT mX11_letters 7 1 6 [.ref 0, .int t] Sh V (fun v S' V' => ∃ i, i < n ∧ i < 8 ∧ t = nI i ∧ some (.int (nI (lcn mt po cnt kn pd rr i))) = v ∧ Sh = S' ∧ Fr0 V V' 87) (QXc V (¬ okN t n 8)) := by
  refine CT_of (by decide +kernel) (Nat.le_of_ble_eq_true rfl) ?_
  show R _ _ _ _ _ _ _ _ 0 [some (.ref 0), some (.int t)] [] _ _
  obtain ⟨m0, m1, m2, m3, m4, m5⟩ := id hM
  refine R_aload_0 dX11_letters_0 ?_
  refine R_iload_1 dX11_letters_1 ?_
  refine R_callV (T := mX11_letters) (T' := mX11_checkRun) (As := [_]) (ci := 11) okX11_checkRun mlX11_196 rfl (by decide) sh_0 (ct_checkRun h6 t) rfl (by decide) (by decide) (Nat.le_of_ble_eq_true rfl) dX11_letters_2 (fun v9 S9 V9 h9 => ?_) (fun E S9 V9 h9 => h9)
  obtain ⟨rfl, o, rfl, rfl⟩ := h9
  obtain ⟨i, x, y, e⟩ := okN_nI o (by decide)
  subst e
  obtain ⟨r1, r2, r3, r4, r5, r6, r7⟩ := hR i y
  have l12 := lcn_le (mt := mt) (po := po) hR hc12 y
  refine R_aload_0 dX11_letters_5 ?_
  refine R_aload_0 dX11_letters_6 ?_
  refine gfX11_46 rfl dX11_letters_7 sh_0 m5 ?_
  refine R_iload_1 dX11_letters_10 ?_
  refine R_aald_18 dX11_letters_11 sh_199 (vp_in_nI (by omega) (by decide)) (nI_clamp (by omega)) r1 ?_
  refine R_callV (T := mX11_letters) (T' := mX11_countLetters) (As := [_]) (ci := 11) okX11_countLetters mlX11_199 rfl (by decide) sh_0 (ct_count hM hR hB hK hP hc hc12 y) rfl (by decide) (by decide) (Nat.le_of_ble_eq_true rfl) dX11_letters_12 (fun v9 S9 V1 h9 => ?_) (fun E S9 V9 h9 => h9.elim)
  obtain ⟨rfl, rfl, u3, u4⟩ := h9
  refine R_iret rfl dX11_letters_15 ⟨i, x, y, rfl, rfl, rfl, u4⟩

