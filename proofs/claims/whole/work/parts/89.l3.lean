/-! ===== the law's wrappers ===== -/
theorem hs_ok {lv : List (Option Value)} {i : Nat} (hi : 1 ≤ i) (h1 : lv[i]? = some none ∨ lv[i]? = none) (h2 : ∀ u, lv[i - 1]? = some (some u) → u.category = 1) : ∀ (j : Nat) (u : Value), lv[j]? = some (some u) → j ≠ i ∧ lv[j]? = some (some u) ∧ ¬ (j + 1 = i ∧ u.category = 2) := by
  intro j u h
  refine ⟨fun e => ?_, h, fun ⟨e1, e2⟩ => ?_⟩
  · subst e
    rcases h1 with h1 | h1 <;> rw [h1] at h <;> cases h
  · have e3 : j = i - 1 := by omega
    subst e3
    rw [h2 u h] at e2
    cases e2
/-- what a wrapper leaves: 0 and the answer, or the number of the exception -/
def QW (f : Int32 → Int64) (Q : Option Value → aS → aV → Prop) (QX : String → aS → aV → Prop) (kI kA kS : Int32) : Option Value → aS → aV → Prop := fun v S' V' => Sh = S' ∧ ((∃ y V1, Q (some (.int y)) Sh V1 ∧ v = some (.int 0) ∧ V' = a_up V1 539 0 (.long (f y))) ∨ ∃ E, QX E Sh V' ∧ ((E = xI ∧ v = some (.int kI)) ∨ (E = xA ∧ v = some (.int kA)) ∨ (E = xS ∧ v = some (.int kS))))
set_option maxHeartbeats 4000000 in
theorem ctw_type {V : aV} {x : Int64} {Q : Option Value → aS → aV → Prop} {QX : String → aS → aV → Prop} (h : CT mX11_type 6 1 6 [.ref 0, .long x] Sh V Q QX) (hq : ∀ v S' V', Q v S' V' → Sh = S' ∧ ∃ y, v = some (.int y)) (hx : ∀ E S' V', QX E S' V' → Sh = S' ∧ (E = xA ∨ E = xS)) : CTH mL_type hL_type 7 1 6 [.ref 0, .long x, .ref 539] Sh V (QW Int32.toInt64 Q QX 0 1 2) := by
  refine CTH_of (by decide +kernel) (Nat.le_of_ble_eq_true rfl) ?_
  intro p l e s m args below meth c D cA o x0 hls C K hN ho htab
  show RG _ _ _ _ _ _ _ _ _ _ _ _ _ _ _ _ _ _ 0 [some (.ref 0), some (.long x), none, some (.ref 539), none] [] _ _
  refine G_aload_3 C K dL_type_0 ?_
  refine G_iconst C K (v := 0) dL_type_1 (by decide) ?_
  refine G_aload_0 C K dL_type_2 ?_
  refine G_lload_1 C K dL_type_3 ?_
  refine G_callV (T' := mX11_type) (As := [_]) (ci := 11) C K ho hls okX11_type mlL_7 rfl (by decide) sh_0 h rfl ⟨Nat.le_of_ble_eq_true rfl, Nat.le_of_ble_eq_true rfl⟩ (Nat.le_of_ble_eq_true rfl) dL_type_4 (fun v S' V' h9 => ?_) (fun E S' V' h9 => ?_)
  · obtain ⟨rfl, y, rfl⟩ := hq _ _ _ h9
    refine G_i2l C K dL_type_7 ?_
    refine G_last C K dL_type_8 sh_539 (show vp_in (nI 0) 1 from vp_in_nI (by decide) (by decide)) rfl ?_
    refine G_goto C K 20 dL_type_9 (by decide) ?_
    refine G_iconst C K (v := 0) dL_type_20 (by decide) ?_
    refine G_iretM C rfl dL_type_21 ⟨rfl, Or.inl ⟨_, _, h9, rfl, rfl⟩⟩
  · obtain ⟨rfl, hE⟩ := hx _ _ _ h9
    rcases hE with rfl | rfl
    · refine G_catch (E := xA) (name := xA) (i := 4) (ln := 2) (x := ⟨0, 9, 12, 13⟩) C K [] [⟨0, 9, 16, 15⟩] htab (fun z hz => absurd hz List.not_mem_nil) (by decide) (by decide) clL_13 cst_A (Or.inr ⟨rfl, dL_type_12⟩) (by decide) (lv' := [some (.ref 0), some (.long x), none, some (.ref 539), none]) (hs_ok (by decide) (Or.inl rfl) (fun u h7 => by cases h7; rfl)) ?_
      show RG _ _ _ _ _ _ _ _ _ _ _ _ _ _ _ _ _ _ 14 _ [] _ _
      refine G_iconst C K (v := 1) dL_type_14 (by decide) ?_
      refine G_iretM C rfl dL_type_15 ⟨rfl, Or.inr ⟨xA, h9, Or.inr (Or.inl ⟨rfl, rfl⟩)⟩⟩
    · refine G_catch (E := xS) (name := xS) (i := 4) (ln := 2) (x := ⟨0, 9, 16, 15⟩) C K [⟨0, 9, 12, 13⟩] [] htab (fun z hz => by
          simp only [List.mem_cons, List.not_mem_nil, or_false] at hz
          rcases hz with rfl
          · exact Or.inr ⟨by decide, xA, clL_13, hN.2.2.2⟩) (by decide) (by decide) clL_15 cst_S (Or.inr ⟨rfl, dL_type_16⟩) (by decide) (lv' := [some (.ref 0), some (.long x), none, some (.ref 539), none]) (hs_ok (by decide) (Or.inl rfl) (fun u h7 => by cases h7; rfl)) ?_
      show RG _ _ _ _ _ _ _ _ _ _ _ _ _ _ _ _ _ _ 18 _ [] _ _
      refine G_iconst C K (v := 2) dL_type_18 (by decide) ?_
      refine G_iretM C rfl dL_type_19 ⟨rfl, Or.inr ⟨xS, h9, Or.inr (Or.inr ⟨rfl, rfl⟩)⟩⟩
set_option maxHeartbeats 4000000 in
theorem ctw_template {V : aV} {t : Int32} {Q : Option Value → aS → aV → Prop} {QX : String → aS → aV → Prop} (h : CT mX11_template 9 1 6 [.ref 0, .int t] Sh V Q QX) (hq : ∀ v S' V', Q v S' V' → Sh = S' ∧ ∃ y, v = some (.int y)) (hx : ∀ E S' V', QX E S' V' → Sh = S' ∧ (E = xI)) : CTH mL_template hL_template 10 1 6 [.ref 0, .int t, .ref 539] Sh V (QW Int32.toInt64 Q QX 1 0 0) := by
  refine CTH_of (by decide +kernel) (Nat.le_of_ble_eq_true rfl) ?_
  intro p l e s m args below meth c D cA o x0 hls C K hN ho htab
  show RG _ _ _ _ _ _ _ _ _ _ _ _ _ _ _ _ _ _ 0 [some (.ref 0), some (.int t), some (.ref 539), none] [] _ _
  refine G_aload_2 C K dL_template_0 ?_
  refine G_iconst C K (v := 0) dL_template_1 (by decide) ?_
  refine G_aload_0 C K dL_template_2 ?_
  refine G_iload_1 C K dL_template_3 ?_
  refine G_callV (T' := mX11_template) (As := [_]) (ci := 11) C K ho hls okX11_template mlL_17 rfl (by decide) sh_0 h rfl ⟨Nat.le_of_ble_eq_true rfl, Nat.le_of_ble_eq_true rfl⟩ (Nat.le_of_ble_eq_true rfl) dL_template_4 (fun v S' V' h9 => ?_) (fun E S' V' h9 => ?_)
  · obtain ⟨rfl, y, rfl⟩ := hq _ _ _ h9
    refine G_i2l C K dL_template_7 ?_
    refine G_last C K dL_template_8 sh_539 (show vp_in (nI 0) 1 from vp_in_nI (by decide) (by decide)) rfl ?_
    refine G_goto C K 15 dL_template_9 (by decide) ?_
    refine G_iconst C K (v := 0) dL_template_15 (by decide) ?_
    refine G_iretM C rfl dL_template_16 ⟨rfl, Or.inl ⟨_, _, h9, rfl, rfl⟩⟩
  · obtain ⟨rfl, hE⟩ := hx _ _ _ h9
    subst hE
    refine G_catch (E := xI) (name := xI) (i := 3) (ln := 1) (x := ⟨0, 9, 12, 21⟩) C K [] [] htab (fun z hz => absurd hz List.not_mem_nil) (by decide) (by decide) clL_21 cst_I (Or.inl ⟨3, rfl, rfl, dL_template_12⟩) (by decide) (lv' := [some (.ref 0), some (.int t), some (.ref 539), none]) (hs_ok (by decide) (Or.inl rfl) (fun u h7 => by cases h7; rfl)) ?_
    show RG _ _ _ _ _ _ _ _ _ _ _ _ _ _ _ _ _ _ 13 _ [] _ _
    refine G_iconst C K (v := 1) dL_template_13 (by decide) ?_
    refine G_iretM C rfl dL_template_14 ⟨rfl, Or.inr ⟨xI, h9, Or.inl ⟨rfl, rfl⟩⟩⟩
set_option maxHeartbeats 4000000 in
theorem ctw_address {V : aV} {t : Int32} {Q : Option Value → aS → aV → Prop} {QX : String → aS → aV → Prop} (h : CT mX11_address 6 1 6 [.ref 0, .int t] Sh V Q QX) (hq : ∀ v S' V', Q v S' V' → Sh = S' ∧ ∃ y, v = some (.int y)) (hx : ∀ E S' V', QX E S' V' → Sh = S' ∧ (E = xI ∨ E = xS)) : CTH mL_address hL_address 7 1 6 [.ref 0, .int t, .ref 539] Sh V (QW Int32.toInt64 Q QX 1 0 2) := by
  refine CTH_of (by decide +kernel) (Nat.le_of_ble_eq_true rfl) ?_
  intro p l e s m args below meth c D cA o x0 hls C K hN ho htab
  show RG _ _ _ _ _ _ _ _ _ _ _ _ _ _ _ _ _ _ 0 [some (.ref 0), some (.int t), some (.ref 539), none] [] _ _
  refine G_aload_2 C K dL_address_0 ?_
  refine G_iconst C K (v := 0) dL_address_1 (by decide) ?_
  refine G_aload_0 C K dL_address_2 ?_
  refine G_iload_1 C K dL_address_3 ?_
  refine G_callV (T' := mX11_address) (As := [_]) (ci := 11) C K ho hls okX11_address mlL_23 rfl (by decide) sh_0 h rfl ⟨Nat.le_of_ble_eq_true rfl, Nat.le_of_ble_eq_true rfl⟩ (Nat.le_of_ble_eq_true rfl) dL_address_4 (fun v S' V' h9 => ?_) (fun E S' V' h9 => ?_)
  · obtain ⟨rfl, y, rfl⟩ := hq _ _ _ h9
    refine G_i2l C K dL_address_7 ?_
    refine G_last C K dL_address_8 sh_539 (show vp_in (nI 0) 1 from vp_in_nI (by decide) (by decide)) rfl ?_
    refine G_goto C K 18 dL_address_9 (by decide) ?_
    refine G_iconst C K (v := 0) dL_address_18 (by decide) ?_
    refine G_iretM C rfl dL_address_19 ⟨rfl, Or.inl ⟨_, _, h9, rfl, rfl⟩⟩
  · obtain ⟨rfl, hE⟩ := hx _ _ _ h9
    rcases hE with rfl | rfl
    · refine G_catch (E := xI) (name := xI) (i := 3) (ln := 1) (x := ⟨0, 9, 12, 21⟩) C K [] [⟨0, 9, 15, 15⟩] htab (fun z hz => absurd hz List.not_mem_nil) (by decide) (by decide) clL_21 cst_I (Or.inl ⟨3, rfl, rfl, dL_address_12⟩) (by decide) (lv' := [some (.ref 0), some (.int t), some (.ref 539), none]) (hs_ok (by decide) (Or.inl rfl) (fun u h7 => by cases h7; rfl)) ?_
      show RG _ _ _ _ _ _ _ _ _ _ _ _ _ _ _ _ _ _ 13 _ [] _ _
      refine G_iconst C K (v := 1) dL_address_13 (by decide) ?_
      refine G_iretM C rfl dL_address_14 ⟨rfl, Or.inr ⟨xI, h9, Or.inl ⟨rfl, rfl⟩⟩⟩
    · refine G_catch (E := xS) (name := xS) (i := 3) (ln := 1) (x := ⟨0, 9, 15, 15⟩) C K [⟨0, 9, 12, 21⟩] [] htab (fun z hz => by
          simp only [List.mem_cons, List.not_mem_nil, or_false] at hz
          rcases hz with rfl
          · exact Or.inr ⟨by decide, xI, clL_21, hN.2.2.1⟩) (by decide) (by decide) clL_15 cst_S (Or.inl ⟨3, rfl, rfl, dL_address_15⟩) (by decide) (lv' := [some (.ref 0), some (.int t), some (.ref 539), none]) (hs_ok (by decide) (Or.inl rfl) (fun u h7 => by cases h7; rfl)) ?_
      show RG _ _ _ _ _ _ _ _ _ _ _ _ _ _ _ _ _ _ 16 _ [] _ _
      refine G_iconst C K (v := 2) dL_address_16 (by decide) ?_
      refine G_iretM C rfl dL_address_17 ⟨rfl, Or.inr ⟨xS, h9, Or.inr (Or.inr ⟨rfl, rfl⟩)⟩⟩
set_option maxHeartbeats 4000000 in
theorem ctw_cleaned {V : aV} {t : Int32} {b : Int32} {pq : Int32} {Q : Option Value → aS → aV → Prop} {QX : String → aS → aV → Prop} (h : CT mX11_cleaned 7 2 12 [.ref 0, .int t, .int b, .int pq] Sh V Q QX) (hq : ∀ v S' V', Q v S' V' → Sh = S' ∧ ∃ y, v = some (.int y)) (hx : ∀ E S' V', QX E S' V' → Sh = S' ∧ (E = xI)) : CTH mL_cleaned hL_cleaned 8 2 12 [.ref 0, .int t, .int b, .int pq, .ref 539] Sh V (QW Int32.toInt64 Q QX 1 0 0) := by
  refine CTH_of (by decide +kernel) (Nat.le_of_ble_eq_true rfl) ?_
  intro p l e s m args below meth c D cA o x0 hls C K hN ho htab
  show RG _ _ _ _ _ _ _ _ _ _ _ _ _ _ _ _ _ _ 0 [some (.ref 0), some (.int t), some (.int b), some (.int pq), some (.ref 539), none] [] _ _
  refine G_aload_4 C K dL_cleaned_0 ?_
  refine G_iconst C K (v := 0) dL_cleaned_2 (by decide) ?_
  refine G_aload_0 C K dL_cleaned_3 ?_
  refine G_iload_1 C K dL_cleaned_4 ?_
  refine G_iload_2 C K dL_cleaned_5 ?_
  refine G_iload_3 C K dL_cleaned_6 ?_
  refine G_callV (T' := mX11_cleaned) (As := [_, _, _]) (ci := 11) C K ho hls okX11_cleaned mlL_26 rfl (by decide) sh_0 h rfl ⟨Nat.le_of_ble_eq_true rfl, Nat.le_of_ble_eq_true rfl⟩ (Nat.le_of_ble_eq_true rfl) dL_cleaned_7 (fun v S' V' h9 => ?_) (fun E S' V' h9 => ?_)
  · obtain ⟨rfl, y, rfl⟩ := hq _ _ _ h9
    refine G_i2l C K dL_cleaned_10 ?_
    refine G_last C K dL_cleaned_11 sh_539 (show vp_in (nI 0) 1 from vp_in_nI (by decide) (by decide)) rfl ?_
    refine G_goto C K 19 dL_cleaned_12 (by decide) ?_
    refine G_iconst C K (v := 0) dL_cleaned_19 (by decide) ?_
    refine G_iretM C rfl dL_cleaned_20 ⟨rfl, Or.inl ⟨_, _, h9, rfl, rfl⟩⟩
  · obtain ⟨rfl, hE⟩ := hx _ _ _ h9
    subst hE
    refine G_catch (E := xI) (name := xI) (i := 5) (ln := 2) (x := ⟨0, 12, 15, 21⟩) C K [] [] htab (fun z hz => absurd hz List.not_mem_nil) (by decide) (by decide) clL_21 cst_I (Or.inr ⟨rfl, dL_cleaned_15⟩) (by decide) (lv' := [some (.ref 0), some (.int t), some (.int b), some (.int pq), some (.ref 539), none]) (hs_ok (by decide) (Or.inl rfl) (fun u h7 => by cases h7; rfl)) ?_
    show RG _ _ _ _ _ _ _ _ _ _ _ _ _ _ _ _ _ _ 17 _ [] _ _
    refine G_iconst C K (v := 1) dL_cleaned_17 (by decide) ?_
    refine G_iretM C rfl dL_cleaned_18 ⟨rfl, Or.inr ⟨xI, h9, Or.inl ⟨rfl, rfl⟩⟩⟩
set_option maxHeartbeats 4000000 in
theorem ctw_apart {V : aV} {t : Int32} {u : Int32} {b : Int32} {Q : Option Value → aS → aV → Prop} {QX : String → aS → aV → Prop} (h : CT mX11_apart 7 2 12 [.ref 0, .int t, .int u, .int b] Sh V Q QX) (hq : ∀ v S' V', Q v S' V' → Sh = S' ∧ ∃ y, v = some (.int y)) (hx : ∀ E S' V', QX E S' V' → Sh = S' ∧ (E = xI)) : CTH mL_apart hL_apart 8 2 12 [.ref 0, .int t, .int u, .int b, .ref 539] Sh V (QW Int32.toInt64 Q QX 1 0 0) := by
  refine CTH_of (by decide +kernel) (Nat.le_of_ble_eq_true rfl) ?_
  intro p l e s m args below meth c D cA o x0 hls C K hN ho htab
  show RG _ _ _ _ _ _ _ _ _ _ _ _ _ _ _ _ _ _ 0 [some (.ref 0), some (.int t), some (.int u), some (.int b), some (.ref 539), none] [] _ _
  refine G_aload_4 C K dL_apart_0 ?_
  refine G_iconst C K (v := 0) dL_apart_2 (by decide) ?_
  refine G_aload_0 C K dL_apart_3 ?_
  refine G_iload_1 C K dL_apart_4 ?_
  refine G_iload_2 C K dL_apart_5 ?_
  refine G_iload_3 C K dL_apart_6 ?_
  refine G_callV (T' := mX11_apart) (As := [_, _, _]) (ci := 11) C K ho hls okX11_apart mlL_30 rfl (by decide) sh_0 h rfl ⟨Nat.le_of_ble_eq_true rfl, Nat.le_of_ble_eq_true rfl⟩ (Nat.le_of_ble_eq_true rfl) dL_apart_7 (fun v S' V' h9 => ?_) (fun E S' V' h9 => ?_)
  · obtain ⟨rfl, y, rfl⟩ := hq _ _ _ h9
    refine G_i2l C K dL_apart_10 ?_
    refine G_last C K dL_apart_11 sh_539 (show vp_in (nI 0) 1 from vp_in_nI (by decide) (by decide)) rfl ?_
    refine G_goto C K 19 dL_apart_12 (by decide) ?_
    refine G_iconst C K (v := 0) dL_apart_19 (by decide) ?_
    refine G_iretM C rfl dL_apart_20 ⟨rfl, Or.inl ⟨_, _, h9, rfl, rfl⟩⟩
  · obtain ⟨rfl, hE⟩ := hx _ _ _ h9
    subst hE
    refine G_catch (E := xI) (name := xI) (i := 5) (ln := 2) (x := ⟨0, 12, 15, 21⟩) C K [] [] htab (fun z hz => absurd hz List.not_mem_nil) (by decide) (by decide) clL_21 cst_I (Or.inr ⟨rfl, dL_apart_15⟩) (by decide) (lv' := [some (.ref 0), some (.int t), some (.int u), some (.int b), some (.ref 539), none]) (hs_ok (by decide) (Or.inl rfl) (fun u h7 => by cases h7; rfl)) ?_
    show RG _ _ _ _ _ _ _ _ _ _ _ _ _ _ _ _ _ _ 17 _ [] _ _
    refine G_iconst C K (v := 1) dL_apart_17 (by decide) ?_
    refine G_iretM C rfl dL_apart_18 ⟨rfl, Or.inr ⟨xI, h9, Or.inl ⟨rfl, rfl⟩⟩⟩
set_option maxHeartbeats 4000000 in
theorem ctw_likeness {V : aV} {t : Int32} {u : Int32} {Q : Option Value → aS → aV → Prop} {QX : String → aS → aV → Prop} (h : CT mX11_likeness 7 2 12 [.ref 0, .int t, .int u] Sh V Q QX) (hq : ∀ v S' V', Q v S' V' → Sh = S' ∧ ∃ y, v = some (.int y)) (hx : ∀ E S' V', QX E S' V' → Sh = S' ∧ (E = xI)) : CTH mL_likeness hL_likeness 8 2 12 [.ref 0, .int t, .int u, .ref 539] Sh V (QW Int32.toInt64 Q QX 1 0 0) := by
  refine CTH_of (by decide +kernel) (Nat.le_of_ble_eq_true rfl) ?_
  intro p l e s m args below meth c D cA o x0 hls C K hN ho htab
  show RG _ _ _ _ _ _ _ _ _ _ _ _ _ _ _ _ _ _ 0 [some (.ref 0), some (.int t), some (.int u), some (.ref 539), none] [] _ _
  refine G_aload_3 C K dL_likeness_0 ?_
  refine G_iconst C K (v := 0) dL_likeness_1 (by decide) ?_
  refine G_aload_0 C K dL_likeness_2 ?_
  refine G_iload_1 C K dL_likeness_3 ?_
  refine G_iload_2 C K dL_likeness_4 ?_
  refine G_callV (T' := mX11_likeness) (As := [_, _]) (ci := 11) C K ho hls okX11_likeness mlL_34 rfl (by decide) sh_0 h rfl ⟨Nat.le_of_ble_eq_true rfl, Nat.le_of_ble_eq_true rfl⟩ (Nat.le_of_ble_eq_true rfl) dL_likeness_5 (fun v S' V' h9 => ?_) (fun E S' V' h9 => ?_)
  · obtain ⟨rfl, y, rfl⟩ := hq _ _ _ h9
    refine G_i2l C K dL_likeness_8 ?_
    refine G_last C K dL_likeness_9 sh_539 (show vp_in (nI 0) 1 from vp_in_nI (by decide) (by decide)) rfl ?_
    refine G_goto C K 17 dL_likeness_10 (by decide) ?_
    refine G_iconst C K (v := 0) dL_likeness_17 (by decide) ?_
    refine G_iretM C rfl dL_likeness_18 ⟨rfl, Or.inl ⟨_, _, h9, rfl, rfl⟩⟩
  · obtain ⟨rfl, hE⟩ := hx _ _ _ h9
    subst hE
    refine G_catch (E := xI) (name := xI) (i := 4) (ln := 2) (x := ⟨0, 10, 13, 21⟩) C K [] [] htab (fun z hz => absurd hz List.not_mem_nil) (by decide) (by decide) clL_21 cst_I (Or.inr ⟨rfl, dL_likeness_13⟩) (by decide) (lv' := [some (.ref 0), some (.int t), some (.int u), some (.ref 539), none]) (hs_ok (by decide) (Or.inl rfl) (fun u h7 => by cases h7; rfl)) ?_
    show RG _ _ _ _ _ _ _ _ _ _ _ _ _ _ _ _ _ _ 15 _ [] _ _
    refine G_iconst C K (v := 1) dL_likeness_15 (by decide) ?_
    refine G_iretM C rfl dL_likeness_16 ⟨rfl, Or.inr ⟨xI, h9, Or.inl ⟨rfl, rfl⟩⟩⟩
set_option maxHeartbeats 4000000 in
theorem ctw_pairs {V : aV} {t : Int32} {Q : Option Value → aS → aV → Prop} {QX : String → aS → aV → Prop} (h : CT mX11_pairs 6 1 6 [.ref 0, .int t] Sh V Q QX) (hq : ∀ v S' V', Q v S' V' → Sh = S' ∧ ∃ y, v = some (.int y)) (hx : ∀ E S' V', QX E S' V' → Sh = S' ∧ (E = xA)) : CTH mL_pairs hL_pairs 7 1 6 [.ref 0, .int t, .ref 539] Sh V (QW Int32.toInt64 Q QX 0 1 0) := by
  refine CTH_of (by decide +kernel) (Nat.le_of_ble_eq_true rfl) ?_
  intro p l e s m args below meth c D cA o x0 hls C K hN ho htab
  show RG _ _ _ _ _ _ _ _ _ _ _ _ _ _ _ _ _ _ 0 [some (.ref 0), some (.int t), some (.ref 539), none] [] _ _
  refine G_aload_2 C K dL_pairs_0 ?_
  refine G_iconst C K (v := 0) dL_pairs_1 (by decide) ?_
  refine G_aload_0 C K dL_pairs_2 ?_
  refine G_iload_1 C K dL_pairs_3 ?_
  refine G_callV (T' := mX11_pairs) (As := [_]) (ci := 11) C K ho hls okX11_pairs mlL_38 rfl (by decide) sh_0 h rfl ⟨Nat.le_of_ble_eq_true rfl, Nat.le_of_ble_eq_true rfl⟩ (Nat.le_of_ble_eq_true rfl) dL_pairs_4 (fun v S' V' h9 => ?_) (fun E S' V' h9 => ?_)
  · obtain ⟨rfl, y, rfl⟩ := hq _ _ _ h9
    refine G_i2l C K dL_pairs_7 ?_
    refine G_last C K dL_pairs_8 sh_539 (show vp_in (nI 0) 1 from vp_in_nI (by decide) (by decide)) rfl ?_
    refine G_goto C K 15 dL_pairs_9 (by decide) ?_
    refine G_iconst C K (v := 0) dL_pairs_15 (by decide) ?_
    refine G_iretM C rfl dL_pairs_16 ⟨rfl, Or.inl ⟨_, _, h9, rfl, rfl⟩⟩
  · obtain ⟨rfl, hE⟩ := hx _ _ _ h9
    subst hE
    refine G_catch (E := xA) (name := xA) (i := 3) (ln := 1) (x := ⟨0, 9, 12, 13⟩) C K [] [] htab (fun z hz => absurd hz List.not_mem_nil) (by decide) (by decide) clL_13 cst_A (Or.inl ⟨3, rfl, rfl, dL_pairs_12⟩) (by decide) (lv' := [some (.ref 0), some (.int t), some (.ref 539), none]) (hs_ok (by decide) (Or.inl rfl) (fun u h7 => by cases h7; rfl)) ?_
    show RG _ _ _ _ _ _ _ _ _ _ _ _ _ _ _ _ _ _ 13 _ [] _ _
    refine G_iconst C K (v := 1) dL_pairs_13 (by decide) ?_
    refine G_iretM C rfl dL_pairs_14 ⟨rfl, Or.inr ⟨xA, h9, Or.inr (Or.inl ⟨rfl, rfl⟩)⟩⟩
set_option maxHeartbeats 4000000 in
theorem ctw_match {V : aV} {t : Int32} {u : Int32} {Q : Option Value → aS → aV → Prop} {QX : String → aS → aV → Prop} (h : CT mX11_match 7 3 18 [.ref 0, .int t, .int u] Sh V Q QX) (hq : ∀ v S' V', Q v S' V' → Sh = S' ∧ ∃ y, v = some (.int y)) (hx : ∀ E S' V', QX E S' V' → Sh = S' ∧ (E = xI ∨ E = xS)) : CTH mL_match hL_match 8 3 18 [.ref 0, .int t, .int u, .ref 539] Sh V (QW (fun y => if y = 0 then 0 else 1) Q QX 1 0 2) := by
  refine CTH_of (by decide +kernel) (Nat.le_of_ble_eq_true rfl) ?_
  intro p l e s m args below meth c D cA o x0 hls C K hN ho htab
  show RG _ _ _ _ _ _ _ _ _ _ _ _ _ _ _ _ _ _ 0 [some (.ref 0), some (.int t), some (.int u), some (.ref 539), none] [] _ _
  refine G_aload_3 C K dL_match_0 ?_
  refine G_iconst C K (v := 0) dL_match_1 (by decide) ?_
  refine G_aload_0 C K dL_match_2 ?_
  refine G_iload_1 C K dL_match_3 ?_
  refine G_iload_2 C K dL_match_4 ?_
  refine G_callV (T' := mX11_match) (As := [_, _]) (ci := 11) C K ho hls okX11_match mlL_41 rfl (by decide) sh_0 h rfl ⟨Nat.le_of_ble_eq_true rfl, Nat.le_of_ble_eq_true rfl⟩ (Nat.le_of_ble_eq_true rfl) dL_match_5 (fun v S' V' h9 => ?_) (fun E S' V' h9 => ?_)
  · obtain ⟨rfl, y, rfl⟩ := hq _ _ _ h9
    refine G_if_eq C K 15 dL_match_8 (by decide) (fun c8 => ?_) (fun c8 => ?_)
    · refine G_lconst C K (v := 0) dL_match_15 (by decide) ?_
      refine G_last C K dL_match_16 sh_539 (show vp_in (nI 0) 1 from vp_in_nI (by decide) (by decide)) rfl ?_
      refine G_goto C K 28 dL_match_17 (by decide) ?_
      refine G_iconst C K (v := 0) dL_match_28 (by decide) ?_
      refine G_iretM C rfl dL_match_29 ⟨rfl, Or.inl ⟨_, _, h9, rfl, (by first | exact (congrArg (fun z => a_up V' 539 0 (Value.long z)) (if_pos c8 : (if y = 0 then (0 : Int64) else 1) = 0)).symm | exact (congrArg (fun z => a_up V' 539 0 (Value.long z)) (if_neg c8 : (if y = 0 then (0 : Int64) else 1) = 1)).symm)⟩⟩
    · refine G_lconst C K (v := 1) dL_match_11 (by decide) ?_
      refine G_goto C K 16 dL_match_12 (by decide) ?_
      refine G_last C K dL_match_16 sh_539 (show vp_in (nI 0) 1 from vp_in_nI (by decide) (by decide)) rfl ?_
      refine G_goto C K 28 dL_match_17 (by decide) ?_
      refine G_iconst C K (v := 0) dL_match_28 (by decide) ?_
      refine G_iretM C rfl dL_match_29 ⟨rfl, Or.inl ⟨_, _, h9, rfl, (by first | exact (congrArg (fun z => a_up V' 539 0 (Value.long z)) (if_pos c8 : (if y = 0 then (0 : Int64) else 1) = 0)).symm | exact (congrArg (fun z => a_up V' 539 0 (Value.long z)) (if_neg c8 : (if y = 0 then (0 : Int64) else 1) = 1)).symm)⟩⟩
  · obtain ⟨rfl, hE⟩ := hx _ _ _ h9
    rcases hE with rfl | rfl
    · refine G_catch (E := xI) (name := xI) (i := 4) (ln := 2) (x := ⟨0, 17, 20, 21⟩) C K [] [⟨0, 17, 24, 15⟩] htab (fun z hz => absurd hz List.not_mem_nil) (by decide) (by decide) clL_21 cst_I (Or.inr ⟨rfl, dL_match_20⟩) (by decide) (lv' := [some (.ref 0), some (.int t), some (.int u), some (.ref 539), none]) (hs_ok (by decide) (Or.inl rfl) (fun u h7 => by cases h7; rfl)) ?_
      show RG _ _ _ _ _ _ _ _ _ _ _ _ _ _ _ _ _ _ 22 _ [] _ _
      refine G_iconst C K (v := 1) dL_match_22 (by decide) ?_
      refine G_iretM C rfl dL_match_23 ⟨rfl, Or.inr ⟨xI, h9, Or.inl ⟨rfl, rfl⟩⟩⟩
    · refine G_catch (E := xS) (name := xS) (i := 4) (ln := 2) (x := ⟨0, 17, 24, 15⟩) C K [⟨0, 17, 20, 21⟩] [] htab (fun z hz => by
          simp only [List.mem_cons, List.not_mem_nil, or_false] at hz
          rcases hz with rfl
          · exact Or.inr ⟨by decide, xI, clL_21, hN.2.2.1⟩) (by decide) (by decide) clL_15 cst_S (Or.inr ⟨rfl, dL_match_24⟩) (by decide) (lv' := [some (.ref 0), some (.int t), some (.int u), some (.ref 539), none]) (hs_ok (by decide) (Or.inl rfl) (fun u h7 => by cases h7; rfl)) ?_
      show RG _ _ _ _ _ _ _ _ _ _ _ _ _ _ _ _ _ _ 26 _ [] _ _
      refine G_iconst C K (v := 2) dL_match_26 (by decide) ?_
      refine G_iretM C rfl dL_match_27 ⟨rfl, Or.inr ⟨xS, h9, Or.inr (Or.inr ⟨rfl, rfl⟩)⟩⟩
set_option maxHeartbeats 4000000 in
theorem ctw_group {V : aV} {t : Int32} {Q : Option Value → aS → aV → Prop} {QX : String → aS → aV → Prop} (h : CT mX11_group 7 1 6 [.ref 0, .int t] Sh V Q QX) (hq : ∀ v S' V', Q v S' V' → Sh = S' ∧ ∃ y, v = some (.int y)) (hx : ∀ E S' V', QX E S' V' → Sh = S' ∧ (E = xI)) : CTH mL_group hL_group 8 1 6 [.ref 0, .int t, .ref 539] Sh V (QW Int32.toInt64 Q QX 1 0 0) := by
  refine CTH_of (by decide +kernel) (Nat.le_of_ble_eq_true rfl) ?_
  intro p l e s m args below meth c D cA o x0 hls C K hN ho htab
  show RG _ _ _ _ _ _ _ _ _ _ _ _ _ _ _ _ _ _ 0 [some (.ref 0), some (.int t), some (.ref 539), none] [] _ _
  refine G_aload_2 C K dL_group_0 ?_
  refine G_iconst C K (v := 0) dL_group_1 (by decide) ?_
  refine G_aload_0 C K dL_group_2 ?_
  refine G_iload_1 C K dL_group_3 ?_
  refine G_callV (T' := mX11_group) (As := [_]) (ci := 11) C K ho hls okX11_group mlL_45 rfl (by decide) sh_0 h rfl ⟨Nat.le_of_ble_eq_true rfl, Nat.le_of_ble_eq_true rfl⟩ (Nat.le_of_ble_eq_true rfl) dL_group_4 (fun v S' V' h9 => ?_) (fun E S' V' h9 => ?_)
  · obtain ⟨rfl, y, rfl⟩ := hq _ _ _ h9
    refine G_i2l C K dL_group_7 ?_
    refine G_last C K dL_group_8 sh_539 (show vp_in (nI 0) 1 from vp_in_nI (by decide) (by decide)) rfl ?_
    refine G_goto C K 15 dL_group_9 (by decide) ?_
    refine G_iconst C K (v := 0) dL_group_15 (by decide) ?_
    refine G_iretM C rfl dL_group_16 ⟨rfl, Or.inl ⟨_, _, h9, rfl, rfl⟩⟩
  · obtain ⟨rfl, hE⟩ := hx _ _ _ h9
    subst hE
    refine G_catch (E := xI) (name := xI) (i := 3) (ln := 1) (x := ⟨0, 9, 12, 21⟩) C K [] [] htab (fun z hz => absurd hz List.not_mem_nil) (by decide) (by decide) clL_21 cst_I (Or.inl ⟨3, rfl, rfl, dL_group_12⟩) (by decide) (lv' := [some (.ref 0), some (.int t), some (.ref 539), none]) (hs_ok (by decide) (Or.inl rfl) (fun u h7 => by cases h7; rfl)) ?_
    show RG _ _ _ _ _ _ _ _ _ _ _ _ _ _ _ _ _ _ 13 _ [] _ _
    refine G_iconst C K (v := 1) dL_group_13 (by decide) ?_
    refine G_iretM C rfl dL_group_14 ⟨rfl, Or.inr ⟨xI, h9, Or.inl ⟨rfl, rfl⟩⟩⟩
set_option maxHeartbeats 4000000 in
theorem ctw_franking {V : aV} {t : Int32} {u : Int32} {Q : Option Value → aS → aV → Prop} {QX : String → aS → aV → Prop} (h : CT mX11_franking 6 1 6 [.ref 0, .int t, .int u] Sh V Q QX) (hq : ∀ v S' V', Q v S' V' → Sh = S' ∧ ∃ y, v = some (.int y)) (hx : ∀ E S' V', QX E S' V' → Sh = S' ∧ (E = xA)) : CTH mL_franking hL_franking 7 1 6 [.ref 0, .int t, .int u, .ref 539] Sh V (QW Int32.toInt64 Q QX 0 1 0) := by
  refine CTH_of (by decide +kernel) (Nat.le_of_ble_eq_true rfl) ?_
  intro p l e s m args below meth c D cA o x0 hls C K hN ho htab
  show RG _ _ _ _ _ _ _ _ _ _ _ _ _ _ _ _ _ _ 0 [some (.ref 0), some (.int t), some (.int u), some (.ref 539), none] [] _ _
  refine G_aload_3 C K dL_franking_0 ?_
  refine G_iconst C K (v := 0) dL_franking_1 (by decide) ?_
  refine G_aload_0 C K dL_franking_2 ?_
  refine G_iload_1 C K dL_franking_3 ?_
  refine G_iload_2 C K dL_franking_4 ?_
  refine G_callV (T' := mX11_franking) (As := [_, _]) (ci := 11) C K ho hls okX11_franking mlL_48 rfl (by decide) sh_0 h rfl ⟨Nat.le_of_ble_eq_true rfl, Nat.le_of_ble_eq_true rfl⟩ (Nat.le_of_ble_eq_true rfl) dL_franking_5 (fun v S' V' h9 => ?_) (fun E S' V' h9 => ?_)
  · obtain ⟨rfl, y, rfl⟩ := hq _ _ _ h9
    refine G_i2l C K dL_franking_8 ?_
    refine G_last C K dL_franking_9 sh_539 (show vp_in (nI 0) 1 from vp_in_nI (by decide) (by decide)) rfl ?_
    refine G_goto C K 17 dL_franking_10 (by decide) ?_
    refine G_iconst C K (v := 0) dL_franking_17 (by decide) ?_
    refine G_iretM C rfl dL_franking_18 ⟨rfl, Or.inl ⟨_, _, h9, rfl, rfl⟩⟩
  · obtain ⟨rfl, hE⟩ := hx _ _ _ h9
    subst hE
    refine G_catch (E := xA) (name := xA) (i := 4) (ln := 2) (x := ⟨0, 10, 13, 13⟩) C K [] [] htab (fun z hz => absurd hz List.not_mem_nil) (by decide) (by decide) clL_13 cst_A (Or.inr ⟨rfl, dL_franking_13⟩) (by decide) (lv' := [some (.ref 0), some (.int t), some (.int u), some (.ref 539), none]) (hs_ok (by decide) (Or.inl rfl) (fun u h7 => by cases h7; rfl)) ?_
    show RG _ _ _ _ _ _ _ _ _ _ _ _ _ _ _ _ _ _ 15 _ [] _ _
    refine G_iconst C K (v := 1) dL_franking_15 (by decide) ?_
    refine G_iretM C rfl dL_franking_16 ⟨rfl, Or.inr ⟨xA, h9, Or.inr (Or.inl ⟨rfl, rfl⟩)⟩⟩
set_option maxHeartbeats 4000000 in
theorem ctw_run {V : aV} {t : Int32} {u : Int32} {Q : Option Value → aS → aV → Prop} {QX : String → aS → aV → Prop} (h : CT mX11_run 7 2 12 [.ref 0, .int t, .int u] Sh V Q QX) (hq : ∀ v S' V', Q v S' V' → Sh = S' ∧ ∃ y, v = some (.int y)) (hx : ∀ E S' V', QX E S' V' → Sh = S' ∧ (E = xI ∨ E = xA ∨ E = xS)) : CTH mL_run hL_run 8 2 12 [.ref 0, .int t, .int u, .ref 539] Sh V (QW Int32.toInt64 Q QX 1 2 3) := by
  refine CTH_of (by decide +kernel) (Nat.le_of_ble_eq_true rfl) ?_
  intro p l e s m args below meth c D cA o x0 hls C K hN ho htab
  show RG _ _ _ _ _ _ _ _ _ _ _ _ _ _ _ _ _ _ 0 [some (.ref 0), some (.int t), some (.int u), some (.ref 539), none] [] _ _
  refine G_aload_3 C K dL_run_0 ?_
  refine G_iconst C K (v := 0) dL_run_1 (by decide) ?_
  refine G_aload_0 C K dL_run_2 ?_
  refine G_iload_1 C K dL_run_3 ?_
  refine G_iload_2 C K dL_run_4 ?_
  refine G_callV (T' := mX11_run) (As := [_, _]) (ci := 11) C K ho hls okX11_run mlL_51 rfl (by decide) sh_0 h rfl ⟨Nat.le_of_ble_eq_true rfl, Nat.le_of_ble_eq_true rfl⟩ (Nat.le_of_ble_eq_true rfl) dL_run_5 (fun v S' V' h9 => ?_) (fun E S' V' h9 => ?_)
  · obtain ⟨rfl, y, rfl⟩ := hq _ _ _ h9
    refine G_i2l C K dL_run_8 ?_
    refine G_last C K dL_run_9 sh_539 (show vp_in (nI 0) 1 from vp_in_nI (by decide) (by decide)) rfl ?_
    refine G_goto C K 25 dL_run_10 (by decide) ?_
    refine G_iconst C K (v := 0) dL_run_25 (by decide) ?_
    refine G_iretM C rfl dL_run_26 ⟨rfl, Or.inl ⟨_, _, h9, rfl, rfl⟩⟩
  · obtain ⟨rfl, hE⟩ := hx _ _ _ h9
    rcases hE with rfl | rfl | rfl
    · refine G_catch (E := xI) (name := xI) (i := 4) (ln := 2) (x := ⟨0, 10, 13, 21⟩) C K [] [⟨0, 10, 17, 13⟩, ⟨0, 10, 21, 15⟩] htab (fun z hz => absurd hz List.not_mem_nil) (by decide) (by decide) clL_21 cst_I (Or.inr ⟨rfl, dL_run_13⟩) (by decide) (lv' := [some (.ref 0), some (.int t), some (.int u), some (.ref 539), none]) (hs_ok (by decide) (Or.inl rfl) (fun u h7 => by cases h7; rfl)) ?_
      show RG _ _ _ _ _ _ _ _ _ _ _ _ _ _ _ _ _ _ 15 _ [] _ _
      refine G_iconst C K (v := 1) dL_run_15 (by decide) ?_
      refine G_iretM C rfl dL_run_16 ⟨rfl, Or.inr ⟨xI, h9, Or.inl ⟨rfl, rfl⟩⟩⟩
    · refine G_catch (E := xA) (name := xA) (i := 4) (ln := 2) (x := ⟨0, 10, 17, 13⟩) C K [⟨0, 10, 13, 21⟩] [⟨0, 10, 21, 15⟩] htab (fun z hz => by
          simp only [List.mem_cons, List.not_mem_nil, or_false] at hz
          rcases hz with rfl
          · exact Or.inr ⟨by decide, xI, clL_21, hN.2.1.1⟩) (by decide) (by decide) clL_13 cst_A (Or.inr ⟨rfl, dL_run_17⟩) (by decide) (lv' := [some (.ref 0), some (.int t), some (.int u), some (.ref 539), none]) (hs_ok (by decide) (Or.inl rfl) (fun u h7 => by cases h7; rfl)) ?_
      show RG _ _ _ _ _ _ _ _ _ _ _ _ _ _ _ _ _ _ 19 _ [] _ _
      refine G_iconst C K (v := 2) dL_run_19 (by decide) ?_
      refine G_iretM C rfl dL_run_20 ⟨rfl, Or.inr ⟨xA, h9, Or.inr (Or.inl ⟨rfl, rfl⟩)⟩⟩
    · refine G_catch (E := xS) (name := xS) (i := 4) (ln := 2) (x := ⟨0, 10, 21, 15⟩) C K [⟨0, 10, 13, 21⟩, ⟨0, 10, 17, 13⟩] [] htab (fun z hz => by
          simp only [List.mem_cons, List.not_mem_nil, or_false] at hz
          rcases hz with rfl | rfl
          · exact Or.inr ⟨by decide, xI, clL_21, hN.2.2.1⟩
          · exact Or.inr ⟨by decide, xA, clL_13, hN.2.2.2⟩) (by decide) (by decide) clL_15 cst_S (Or.inr ⟨rfl, dL_run_21⟩) (by decide) (lv' := [some (.ref 0), some (.int t), some (.int u), some (.ref 539), none]) (hs_ok (by decide) (Or.inl rfl) (fun u h7 => by cases h7; rfl)) ?_
      show RG _ _ _ _ _ _ _ _ _ _ _ _ _ _ _ _ _ _ 23 _ [] _ _
      refine G_iconst C K (v := 3) dL_run_23 (by decide) ?_
      refine G_iretM C rfl dL_run_24 ⟨rfl, Or.inr ⟨xS, h9, Or.inr (Or.inr ⟨rfl, rfl⟩)⟩⟩
set_option maxHeartbeats 4000000 in
theorem ctw_letters {V : aV} {t : Int32} {Q : Option Value → aS → aV → Prop} {QX : String → aS → aV → Prop} (h : CT mX11_letters 7 1 6 [.ref 0, .int t] Sh V Q QX) (hq : ∀ v S' V', Q v S' V' → Sh = S' ∧ ∃ y, v = some (.int y)) (hx : ∀ E S' V', QX E S' V' → Sh = S' ∧ (E = xI)) : CTH mL_letters hL_letters 8 1 6 [.ref 0, .int t, .ref 539] Sh V (QW Int32.toInt64 Q QX 1 0 0) := by
  refine CTH_of (by decide +kernel) (Nat.le_of_ble_eq_true rfl) ?_
  intro p l e s m args below meth c D cA o x0 hls C K hN ho htab
  show RG _ _ _ _ _ _ _ _ _ _ _ _ _ _ _ _ _ _ 0 [some (.ref 0), some (.int t), some (.ref 539), none] [] _ _
  refine G_aload_2 C K dL_letters_0 ?_
  refine G_iconst C K (v := 0) dL_letters_1 (by decide) ?_
  refine G_aload_0 C K dL_letters_2 ?_
  refine G_iload_1 C K dL_letters_3 ?_
  refine G_callV (T' := mX11_letters) (As := [_]) (ci := 11) C K ho hls okX11_letters mlL_54 rfl (by decide) sh_0 h rfl ⟨Nat.le_of_ble_eq_true rfl, Nat.le_of_ble_eq_true rfl⟩ (Nat.le_of_ble_eq_true rfl) dL_letters_4 (fun v S' V' h9 => ?_) (fun E S' V' h9 => ?_)
  · obtain ⟨rfl, y, rfl⟩ := hq _ _ _ h9
    refine G_i2l C K dL_letters_7 ?_
    refine G_last C K dL_letters_8 sh_539 (show vp_in (nI 0) 1 from vp_in_nI (by decide) (by decide)) rfl ?_
    refine G_goto C K 15 dL_letters_9 (by decide) ?_
    refine G_iconst C K (v := 0) dL_letters_15 (by decide) ?_
    refine G_iretM C rfl dL_letters_16 ⟨rfl, Or.inl ⟨_, _, h9, rfl, rfl⟩⟩
  · obtain ⟨rfl, hE⟩ := hx _ _ _ h9
    subst hE
    refine G_catch (E := xI) (name := xI) (i := 3) (ln := 1) (x := ⟨0, 9, 12, 21⟩) C K [] [] htab (fun z hz => absurd hz List.not_mem_nil) (by decide) (by decide) clL_21 cst_I (Or.inl ⟨3, rfl, rfl, dL_letters_12⟩) (by decide) (lv' := [some (.ref 0), some (.int t), some (.ref 539), none]) (hs_ok (by decide) (Or.inl rfl) (fun u h7 => by cases h7; rfl)) ?_
    show RG _ _ _ _ _ _ _ _ _ _ _ _ _ _ _ _ _ _ 13 _ [] _ _
    refine G_iconst C K (v := 1) dL_letters_13 (by decide) ?_
    refine G_iretM C rfl dL_letters_14 ⟨rfl, Or.inr ⟨xI, h9, Or.inl ⟨rfl, rfl⟩⟩⟩
set_option maxHeartbeats 4000000 in
theorem ctw_letter {V : aV} {t : Int32} {u : Int32} {wh : Int32} {Q : Option Value → aS → aV → Prop} {QX : String → aS → aV → Prop} (h : CT mX11_letter 9 3 18 [.ref 0, .int t, .int u, .int wh] Sh V Q QX) (hq : ∀ v S' V', Q v S' V' → Sh = S' ∧ ∃ y, v = some (.int y)) (hx : ∀ E S' V', QX E S' V' → Sh = S' ∧ (E = xI ∨ E = xA)) : CTH mL_letter hL_letter 10 3 18 [.ref 0, .int t, .int u, .int wh, .ref 539] Sh V (QW Int32.toInt64 Q QX 1 2 0) := by
  refine CTH_of (by decide +kernel) (Nat.le_of_ble_eq_true rfl) ?_
  intro p l e s m args below meth c D cA o x0 hls C K hN ho htab
  show RG _ _ _ _ _ _ _ _ _ _ _ _ _ _ _ _ _ _ 0 [some (.ref 0), some (.int t), some (.int u), some (.int wh), some (.ref 539), none] [] _ _
  refine G_aload_4 C K dL_letter_0 ?_
  refine G_iconst C K (v := 0) dL_letter_2 (by decide) ?_
  refine G_aload_0 C K dL_letter_3 ?_
  refine G_iload_1 C K dL_letter_4 ?_
  refine G_iload_2 C K dL_letter_5 ?_
  refine G_iload_3 C K dL_letter_6 ?_
  refine G_callV (T' := mX11_letter) (As := [_, _, _]) (ci := 11) C K ho hls okX11_letter mlL_57 rfl (by decide) sh_0 h rfl ⟨Nat.le_of_ble_eq_true rfl, Nat.le_of_ble_eq_true rfl⟩ (Nat.le_of_ble_eq_true rfl) dL_letter_7 (fun v S' V' h9 => ?_) (fun E S' V' h9 => ?_)
  · obtain ⟨rfl, y, rfl⟩ := hq _ _ _ h9
    refine G_i2l C K dL_letter_10 ?_
    refine G_last C K dL_letter_11 sh_539 (show vp_in (nI 0) 1 from vp_in_nI (by decide) (by decide)) rfl ?_
    refine G_goto C K 23 dL_letter_12 (by decide) ?_
    refine G_iconst C K (v := 0) dL_letter_23 (by decide) ?_
    refine G_iretM C rfl dL_letter_24 ⟨rfl, Or.inl ⟨_, _, h9, rfl, rfl⟩⟩
  · obtain ⟨rfl, hE⟩ := hx _ _ _ h9
    rcases hE with rfl | rfl
    · refine G_catch (E := xI) (name := xI) (i := 5) (ln := 2) (x := ⟨0, 12, 15, 21⟩) C K [] [⟨0, 12, 19, 13⟩] htab (fun z hz => absurd hz List.not_mem_nil) (by decide) (by decide) clL_21 cst_I (Or.inr ⟨rfl, dL_letter_15⟩) (by decide) (lv' := [some (.ref 0), some (.int t), some (.int u), some (.int wh), some (.ref 539), none]) (hs_ok (by decide) (Or.inl rfl) (fun u h7 => by cases h7; rfl)) ?_
      show RG _ _ _ _ _ _ _ _ _ _ _ _ _ _ _ _ _ _ 17 _ [] _ _
      refine G_iconst C K (v := 1) dL_letter_17 (by decide) ?_
      refine G_iretM C rfl dL_letter_18 ⟨rfl, Or.inr ⟨xI, h9, Or.inl ⟨rfl, rfl⟩⟩⟩
    · refine G_catch (E := xA) (name := xA) (i := 5) (ln := 2) (x := ⟨0, 12, 19, 13⟩) C K [⟨0, 12, 15, 21⟩] [] htab (fun z hz => by
          simp only [List.mem_cons, List.not_mem_nil, or_false] at hz
          rcases hz with rfl
          · exact Or.inr ⟨by decide, xI, clL_21, hN.2.1.1⟩) (by decide) (by decide) clL_13 cst_A (Or.inr ⟨rfl, dL_letter_19⟩) (by decide) (lv' := [some (.ref 0), some (.int t), some (.int u), some (.int wh), some (.ref 539), none]) (hs_ok (by decide) (Or.inl rfl) (fun u h7 => by cases h7; rfl)) ?_
      show RG _ _ _ _ _ _ _ _ _ _ _ _ _ _ _ _ _ _ 21 _ [] _ _
      refine G_iconst C K (v := 2) dL_letter_21 (by decide) ?_
      refine G_iretM C rfl dL_letter_22 ⟨rfl, Or.inr ⟨xA, h9, Or.inr (Or.inl ⟨rfl, rfl⟩)⟩⟩
set_option maxHeartbeats 4000000 in
theorem ctw_sign {V : aV} {t : Int32} {u : Int32} {pq : Int32} {Q : Option Value → aS → aV → Prop} {QX : String → aS → aV → Prop} (h : CT mX11_sign 9 3 18 [.ref 0, .int t, .int u, .int pq] Sh V Q QX) (hq : ∀ v S' V', Q v S' V' → Sh = S' ∧ ∃ y, v = some (.int y)) (hx : ∀ E S' V', QX E S' V' → Sh = S' ∧ (E = xI)) : CTH mL_sign hL_sign 10 3 18 [.ref 0, .int t, .int u, .int pq, .ref 539] Sh V (QW Int32.toInt64 Q QX 1 0 0) := by
  refine CTH_of (by decide +kernel) (Nat.le_of_ble_eq_true rfl) ?_
  intro p l e s m args below meth c D cA o x0 hls C K hN ho htab
  show RG _ _ _ _ _ _ _ _ _ _ _ _ _ _ _ _ _ _ 0 [some (.ref 0), some (.int t), some (.int u), some (.int pq), some (.ref 539), none] [] _ _
  refine G_aload_4 C K dL_sign_0 ?_
  refine G_iconst C K (v := 0) dL_sign_2 (by decide) ?_
  refine G_aload_0 C K dL_sign_3 ?_
  refine G_iload_1 C K dL_sign_4 ?_
  refine G_iload_2 C K dL_sign_5 ?_
  refine G_iload_3 C K dL_sign_6 ?_
  refine G_callV (T' := mX11_sign) (As := [_, _, _]) (ci := 11) C K ho hls okX11_sign mlL_61 rfl (by decide) sh_0 h rfl ⟨Nat.le_of_ble_eq_true rfl, Nat.le_of_ble_eq_true rfl⟩ (Nat.le_of_ble_eq_true rfl) dL_sign_7 (fun v S' V' h9 => ?_) (fun E S' V' h9 => ?_)
  · obtain ⟨rfl, y, rfl⟩ := hq _ _ _ h9
    refine G_i2l C K dL_sign_10 ?_
    refine G_last C K dL_sign_11 sh_539 (show vp_in (nI 0) 1 from vp_in_nI (by decide) (by decide)) rfl ?_
    refine G_goto C K 19 dL_sign_12 (by decide) ?_
    refine G_iconst C K (v := 0) dL_sign_19 (by decide) ?_
    refine G_iretM C rfl dL_sign_20 ⟨rfl, Or.inl ⟨_, _, h9, rfl, rfl⟩⟩
  · obtain ⟨rfl, hE⟩ := hx _ _ _ h9
    subst hE
    refine G_catch (E := xI) (name := xI) (i := 5) (ln := 2) (x := ⟨0, 12, 15, 21⟩) C K [] [] htab (fun z hz => absurd hz List.not_mem_nil) (by decide) (by decide) clL_21 cst_I (Or.inr ⟨rfl, dL_sign_15⟩) (by decide) (lv' := [some (.ref 0), some (.int t), some (.int u), some (.int pq), some (.ref 539), none]) (hs_ok (by decide) (Or.inl rfl) (fun u h7 => by cases h7; rfl)) ?_
    show RG _ _ _ _ _ _ _ _ _ _ _ _ _ _ _ _ _ _ 17 _ [] _ _
    refine G_iconst C K (v := 1) dL_sign_17 (by decide) ?_
    refine G_iretM C rfl dL_sign_18 ⟨rfl, Or.inr ⟨xI, h9, Or.inl ⟨rfl, rfl⟩⟩⟩
set_option maxHeartbeats 4000000 in
theorem ctw_anew {V : aV} {t : Int32} {u : Int32} {Q : Option Value → aS → aV → Prop} {QX : String → aS → aV → Prop} (h : CT mX11_anew 9 2 12 [.ref 0, .int t, .int u] Sh V Q QX) (hq : ∀ v S' V', Q v S' V' → Sh = S' ∧ ∃ y, v = some (.int y)) (hx : ∀ E S' V', QX E S' V' → Sh = S' ∧ (E = xI)) : CTH mL_anew hL_anew 10 2 12 [.ref 0, .int t, .int u, .ref 539] Sh V (QW Int32.toInt64 Q QX 1 0 0) := by
  refine CTH_of (by decide +kernel) (Nat.le_of_ble_eq_true rfl) ?_
  intro p l e s m args below meth c D cA o x0 hls C K hN ho htab
  show RG _ _ _ _ _ _ _ _ _ _ _ _ _ _ _ _ _ _ 0 [some (.ref 0), some (.int t), some (.int u), some (.ref 539), none] [] _ _
  refine G_aload_3 C K dL_anew_0 ?_
  refine G_iconst C K (v := 0) dL_anew_1 (by decide) ?_
  refine G_aload_0 C K dL_anew_2 ?_
  refine G_iload_1 C K dL_anew_3 ?_
  refine G_iload_2 C K dL_anew_4 ?_
  refine G_callV (T' := mX11_anew) (As := [_, _]) (ci := 11) C K ho hls okX11_anew mlL_65 rfl (by decide) sh_0 h rfl ⟨Nat.le_of_ble_eq_true rfl, Nat.le_of_ble_eq_true rfl⟩ (Nat.le_of_ble_eq_true rfl) dL_anew_5 (fun v S' V' h9 => ?_) (fun E S' V' h9 => ?_)
  · obtain ⟨rfl, y, rfl⟩ := hq _ _ _ h9
    refine G_i2l C K dL_anew_8 ?_
    refine G_last C K dL_anew_9 sh_539 (show vp_in (nI 0) 1 from vp_in_nI (by decide) (by decide)) rfl ?_
    refine G_goto C K 17 dL_anew_10 (by decide) ?_
    refine G_iconst C K (v := 0) dL_anew_17 (by decide) ?_
    refine G_iretM C rfl dL_anew_18 ⟨rfl, Or.inl ⟨_, _, h9, rfl, rfl⟩⟩
  · obtain ⟨rfl, hE⟩ := hx _ _ _ h9
    subst hE
    refine G_catch (E := xI) (name := xI) (i := 4) (ln := 2) (x := ⟨0, 10, 13, 21⟩) C K [] [] htab (fun z hz => absurd hz List.not_mem_nil) (by decide) (by decide) clL_21 cst_I (Or.inr ⟨rfl, dL_anew_13⟩) (by decide) (lv' := [some (.ref 0), some (.int t), some (.int u), some (.ref 539), none]) (hs_ok (by decide) (Or.inl rfl) (fun u h7 => by cases h7; rfl)) ?_
    show RG _ _ _ _ _ _ _ _ _ _ _ _ _ _ _ _ _ _ 15 _ [] _ _
    refine G_iconst C K (v := 1) dL_anew_15 (by decide) ?_
    refine G_iretM C rfl dL_anew_16 ⟨rfl, Or.inr ⟨xI, h9, Or.inl ⟨rfl, rfl⟩⟩⟩
set_option maxHeartbeats 4000000 in
theorem ctw_trouble {V : aV} {t : Int32} {u : Int32} {lev : Int32} {pl : Int32} {Q : Option Value → aS → aV → Prop} {QX : String → aS → aV → Prop} (h : CT mX11_trouble 9 3 18 [.ref 0, .int t, .int u, .int lev, .int pl] Sh V Q QX) (hq : ∀ v S' V', Q v S' V' → Sh = S' ∧ ∃ y, v = some (.int y)) (hx : ∀ E S' V', QX E S' V' → Sh = S' ∧ (E = xI)) : CTH mL_trouble hL_trouble 10 3 18 [.ref 0, .int t, .int u, .int lev, .int pl, .ref 539] Sh V (QW Int32.toInt64 Q QX 1 0 0) := by
  refine CTH_of (by decide +kernel) (Nat.le_of_ble_eq_true rfl) ?_
  intro p l e s m args below meth c D cA o x0 hls C K hN ho htab
  show RG _ _ _ _ _ _ _ _ _ _ _ _ _ _ _ _ _ _ 0 [some (.ref 0), some (.int t), some (.int u), some (.int lev), some (.int pl), some (.ref 539), none] [] _ _
  refine G_aload_5 C K dL_trouble_0 ?_
  refine G_iconst C K (v := 0) dL_trouble_2 (by decide) ?_
  refine G_aload_0 C K dL_trouble_3 ?_
  refine G_iload_1 C K dL_trouble_4 ?_
  refine G_iload_2 C K dL_trouble_5 ?_
  refine G_iload_3 C K dL_trouble_6 ?_
  refine G_iload_4 C K dL_trouble_7 ?_
  refine G_callV (T' := mX11_trouble) (As := [_, _, _, _]) (ci := 11) C K ho hls okX11_trouble mlL_68 rfl (by decide) sh_0 h rfl ⟨Nat.le_of_ble_eq_true rfl, Nat.le_of_ble_eq_true rfl⟩ (Nat.le_of_ble_eq_true rfl) dL_trouble_9 (fun v S' V' h9 => ?_) (fun E S' V' h9 => ?_)
  · obtain ⟨rfl, y, rfl⟩ := hq _ _ _ h9
    refine G_i2l C K dL_trouble_12 ?_
    refine G_last C K dL_trouble_13 sh_539 (show vp_in (nI 0) 1 from vp_in_nI (by decide) (by decide)) rfl ?_
    refine G_goto C K 21 dL_trouble_14 (by decide) ?_
    refine G_iconst C K (v := 0) dL_trouble_21 (by decide) ?_
    refine G_iretM C rfl dL_trouble_22 ⟨rfl, Or.inl ⟨_, _, h9, rfl, rfl⟩⟩
  · obtain ⟨rfl, hE⟩ := hx _ _ _ h9
    subst hE
    refine G_catch (E := xI) (name := xI) (i := 6) (ln := 2) (x := ⟨0, 14, 17, 21⟩) C K [] [] htab (fun z hz => absurd hz List.not_mem_nil) (by decide) (by decide) clL_21 cst_I (Or.inr ⟨rfl, dL_trouble_17⟩) (by decide) (lv' := [some (.ref 0), some (.int t), some (.int u), some (.int lev), some (.int pl), some (.ref 539), none]) (hs_ok (by decide) (Or.inl rfl) (fun u h7 => by cases h7; rfl)) ?_
    show RG _ _ _ _ _ _ _ _ _ _ _ _ _ _ _ _ _ _ 19 _ [] _ _
    refine G_iconst C K (v := 1) dL_trouble_19 (by decide) ?_
    refine G_iretM C rfl dL_trouble_20 ⟨rfl, Or.inr ⟨xI, h9, Or.inl ⟨rfl, rfl⟩⟩⟩
set_option maxHeartbeats 4000000 in
theorem ctw_post {V : aV} {t : Int32} {Q : Option Value → aS → aV → Prop} {QX : String → aS → aV → Prop} (h : CT mX11_post 8 2 12 [.ref 0, .int t] Sh V Q QX) (hq : ∀ v S' V', Q v S' V' → Sh = S' ∧ ∃ y, v = some (.int y)) (hx : ∀ E S' V', QX E S' V' → Sh = S' ∧ (E = xI ∨ E = xS)) : CTH mL_post hL_post 9 2 12 [.ref 0, .int t, .ref 539] Sh V (QW Int32.toInt64 Q QX 1 0 2) := by
  refine CTH_of (by decide +kernel) (Nat.le_of_ble_eq_true rfl) ?_
  intro p l e s m args below meth c D cA o x0 hls C K hN ho htab
  show RG _ _ _ _ _ _ _ _ _ _ _ _ _ _ _ _ _ _ 0 [some (.ref 0), some (.int t), some (.ref 539), none] [] _ _
  refine G_aload_2 C K dL_post_0 ?_
  refine G_iconst C K (v := 0) dL_post_1 (by decide) ?_
  refine G_aload_0 C K dL_post_2 ?_
  refine G_iload_1 C K dL_post_3 ?_
  refine G_callV (T' := mX11_post) (As := [_]) (ci := 11) C K ho hls okX11_post mlL_72 rfl (by decide) sh_0 h rfl ⟨Nat.le_of_ble_eq_true rfl, Nat.le_of_ble_eq_true rfl⟩ (Nat.le_of_ble_eq_true rfl) dL_post_4 (fun v S' V' h9 => ?_) (fun E S' V' h9 => ?_)
  · obtain ⟨rfl, y, rfl⟩ := hq _ _ _ h9
    refine G_i2l C K dL_post_7 ?_
    refine G_last C K dL_post_8 sh_539 (show vp_in (nI 0) 1 from vp_in_nI (by decide) (by decide)) rfl ?_
    refine G_goto C K 18 dL_post_9 (by decide) ?_
    refine G_iconst C K (v := 0) dL_post_18 (by decide) ?_
    refine G_iretM C rfl dL_post_19 ⟨rfl, Or.inl ⟨_, _, h9, rfl, rfl⟩⟩
  · obtain ⟨rfl, hE⟩ := hx _ _ _ h9
    rcases hE with rfl | rfl
    · refine G_catch (E := xI) (name := xI) (i := 3) (ln := 1) (x := ⟨0, 9, 12, 21⟩) C K [] [⟨0, 9, 15, 15⟩] htab (fun z hz => absurd hz List.not_mem_nil) (by decide) (by decide) clL_21 cst_I (Or.inl ⟨3, rfl, rfl, dL_post_12⟩) (by decide) (lv' := [some (.ref 0), some (.int t), some (.ref 539), none]) (hs_ok (by decide) (Or.inl rfl) (fun u h7 => by cases h7; rfl)) ?_
      show RG _ _ _ _ _ _ _ _ _ _ _ _ _ _ _ _ _ _ 13 _ [] _ _
      refine G_iconst C K (v := 1) dL_post_13 (by decide) ?_
      refine G_iretM C rfl dL_post_14 ⟨rfl, Or.inr ⟨xI, h9, Or.inl ⟨rfl, rfl⟩⟩⟩
    · refine G_catch (E := xS) (name := xS) (i := 3) (ln := 1) (x := ⟨0, 9, 15, 15⟩) C K [⟨0, 9, 12, 21⟩] [] htab (fun z hz => by
          simp only [List.mem_cons, List.not_mem_nil, or_false] at hz
          rcases hz with rfl
          · exact Or.inr ⟨by decide, xI, clL_21, hN.2.2.1⟩) (by decide) (by decide) clL_15 cst_S (Or.inl ⟨3, rfl, rfl, dL_post_15⟩) (by decide) (lv' := [some (.ref 0), some (.int t), some (.ref 539), none]) (hs_ok (by decide) (Or.inl rfl) (fun u h7 => by cases h7; rfl)) ?_
      show RG _ _ _ _ _ _ _ _ _ _ _ _ _ _ _ _ _ _ 16 _ [] _ _
      refine G_iconst C K (v := 2) dL_post_16 (by decide) ?_
      refine G_iretM C rfl dL_post_17 ⟨rfl, Or.inr ⟨xS, h9, Or.inr (Or.inr ⟨rfl, rfl⟩)⟩⟩
set_option maxHeartbeats 4000000 in
theorem ctw_reasons {V : aV} {t : Int32} {Q : Option Value → aS → aV → Prop} {QX : String → aS → aV → Prop} (h : CT mX11_reasons 7 1 6 [.ref 0, .int t] Sh V Q QX) (hq : ∀ v S' V', Q v S' V' → Sh = S' ∧ ∃ y, v = some (.int y)) (hx : ∀ E S' V', QX E S' V' → Sh = S' ∧ (E = xI)) : CTH mL_reasons hL_reasons 8 1 6 [.ref 0, .int t, .ref 539] Sh V (QW Int32.toInt64 Q QX 1 0 0) := by
  refine CTH_of (by decide +kernel) (Nat.le_of_ble_eq_true rfl) ?_
  intro p l e s m args below meth c D cA o x0 hls C K hN ho htab
  show RG _ _ _ _ _ _ _ _ _ _ _ _ _ _ _ _ _ _ 0 [some (.ref 0), some (.int t), some (.ref 539), none] [] _ _
  refine G_aload_2 C K dL_reasons_0 ?_
  refine G_iconst C K (v := 0) dL_reasons_1 (by decide) ?_
  refine G_aload_0 C K dL_reasons_2 ?_
  refine G_iload_1 C K dL_reasons_3 ?_
  refine G_callV (T' := mX11_reasons) (As := [_]) (ci := 11) C K ho hls okX11_reasons mlL_75 rfl (by decide) sh_0 h rfl ⟨Nat.le_of_ble_eq_true rfl, Nat.le_of_ble_eq_true rfl⟩ (Nat.le_of_ble_eq_true rfl) dL_reasons_4 (fun v S' V' h9 => ?_) (fun E S' V' h9 => ?_)
  · obtain ⟨rfl, y, rfl⟩ := hq _ _ _ h9
    refine G_i2l C K dL_reasons_7 ?_
    refine G_last C K dL_reasons_8 sh_539 (show vp_in (nI 0) 1 from vp_in_nI (by decide) (by decide)) rfl ?_
    refine G_goto C K 15 dL_reasons_9 (by decide) ?_
    refine G_iconst C K (v := 0) dL_reasons_15 (by decide) ?_
    refine G_iretM C rfl dL_reasons_16 ⟨rfl, Or.inl ⟨_, _, h9, rfl, rfl⟩⟩
  · obtain ⟨rfl, hE⟩ := hx _ _ _ h9
    subst hE
    refine G_catch (E := xI) (name := xI) (i := 3) (ln := 1) (x := ⟨0, 9, 12, 21⟩) C K [] [] htab (fun z hz => absurd hz List.not_mem_nil) (by decide) (by decide) clL_21 cst_I (Or.inl ⟨3, rfl, rfl, dL_reasons_12⟩) (by decide) (lv' := [some (.ref 0), some (.int t), some (.ref 539), none]) (hs_ok (by decide) (Or.inl rfl) (fun u h7 => by cases h7; rfl)) ?_
    show RG _ _ _ _ _ _ _ _ _ _ _ _ _ _ _ _ _ _ 13 _ [] _ _
    refine G_iconst C K (v := 1) dL_reasons_13 (by decide) ?_
    refine G_iretM C rfl dL_reasons_14 ⟨rfl, Or.inr ⟨xI, h9, Or.inl ⟨rfl, rfl⟩⟩⟩
