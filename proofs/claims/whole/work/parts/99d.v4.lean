/-! ===== the law's loop ===== -/
theorem gt5 {L j : Nat} (hL : L ≤ 2560) (hj : 5 * j ≤ L) : nI L - 5 < nI (5 * j) ↔ L < 5 * j + 5 := by
  have e : (nI L - nI 5).toInt = (L : Int) - (5 : Nat) := pk_sub_toInt (by omega) (by decide)
  have e2 : (nI (5 * j)).toInt = ((5 * j : Nat) : Int) := nI_toInt (by omega)
  constructor
  · intro h
    have h1 : (nI L - nI 5).toInt < (nI (5 * j)).toInt := Int32.lt_iff_toInt_lt.mp h
    rw [e, e2] at h1
    omega
  · intro h
    have h1 : (nI L - nI 5).toInt < (nI (5 * j)).toInt := by rw [e, e2]; omega
    exact Int32.lt_iff_toInt_lt.mpr h1
section LLOOP
variable {p : Program} {l : Launch} {e : Env} {s : State} {m : MethodId} {args : Array Value} {below : List Frame} {meth : Method} {c : Code} {D : va_G} {cA : Nat → ClassId} {o : Nat} {x0 : Nat → Nat} {Z : State → Prop} {kc ks L : Nat} {xs : Nat → Int32}
set_option maxHeartbeats 4000000 in
theorem law_loop (C : a_CG p s m args meth c mLaw) (K : a_K o x0 cA D s) (hN : aNcs s) (ho : o ≤ s.heap.size) (hls : l.stackTraces = false) (hX : va_X (x0 2) L xs s s.heap) (hb : x0 2 < o) (hL : L ≤ 2560) (hend : ∀ (j : Nat) (V : aV), RG p l e room_1 s m args below meth c D cA o x0 mLaw Z kc ks 1451 [some (.retAddr 2), some (.ref 0), some (.ref 504), some (.ref 539), some (.int (nI (5 * j))), none, none] [] Sh V) : ∀ (n j : Nat) (V : aV), LInv V → 5 * j ≤ L → L ≤ 5 * (j + n) + 4 → RG p l e room_1 s m args below meth c D cA o x0 mLaw Z (kc + 3 * n) (ks + 18 * n) 23 [some (.retAddr 2), some (.ref 0), some (.ref 504), some (.ref 539), some (.int (nI (5 * j))), none, none] [] Sh V := by
  intro n
  induction n with
  | zero =>
    intro j V hI hj hn
    refine G_iload_4 C K dL_law_23 ?_
    refine G_tload_0 C dL_law_25 ?_
    refine G_slen C hX hb ho dL_law_26 ?_
    refine G_iconst C K (v := 5) dL_law_27 (by decide) ?_
    refine G_isub C K dL_law_28 ?_
    refine G_icmp_gt C K 1451 dL_law_29 (by decide) (fun c29 => ?_) (fun c29 => absurd ((gt5 hL hj).mpr (by omega)) c29)
    exact G_less (by omega) (by omega) (hend j V)
  | succ n ih =>
    intro j V hI hj hn
    refine G_iload_4 C K dL_law_23 ?_
    refine G_tload_0 C dL_law_25 ?_
    refine G_slen C hX hb ho dL_law_26 ?_
    refine G_iconst C K (v := 5) dL_law_27 (by decide) ?_
    refine G_isub C K dL_law_28 ?_
    refine G_icmp_gt C K 1451 dL_law_29 (by decide) (fun c29 => ?_) (fun c29 => ?_)
    · exact G_less (by omega) (by omega) (hend j V)
    · have hj5 : 5 * j + 5 ≤ L := by
        rcases Nat.lt_or_ge L (5 * j + 5) with q | q
        · exact absurd ((gt5 hL hj).mpr q) c29
        · exact q
      have kk : ∀ V', LInv V' → RG p l e room_1 s m args below meth c D cA o x0 mLaw Z (kc + 3 * n) (ks + 18 * n) 1445 [some (.retAddr 2), some (.ref 0), some (.ref 504), some (.ref 539), some (.int (nI (5 * j))), none, none] [] Sh V' := by
        intro V' hI'
        refine G_iinc_4 C K rfl (by decide) dL_law_1445 rfl ?_
        rw [show nI (5 * j) + Int32.ofInt 5 = nI (5 * (j + 1)) from nI_add (5 * j) 5]
        refine G_goto C K 23 dL_law_1448 (by decide) ?_
        exact ih (j + 1) V' hI' (by omega) (by omega)
      refine G_tload_0 C dL_law_32 ?_
      refine G_iload_4 C K dL_law_33 ?_
      refine G_sld C hX hb ho (n := 5 * j) rfl (by omega) hL dL_law_35 ?_
      refine G_bipush C K (v := 31) dL_law_36 (by decide) ?_
      refine G_iand C K dL_law_38 ?_
      obtain ⟨i, hi, ei⟩ := and31 (xs (5 * j))
      rw [ei]
      refine G_less (kc' := kc + 3 * n + 3) (ks' := ks + 18 * n + 18) (by omega) (by omega) ?_
      rcases (show i = 0 ∨ i = 1 ∨ i = 2 ∨ i = 3 ∨ i = 4 ∨ i = 5 ∨ i = 6 ∨ i = 7 ∨ i = 8 ∨ i = 9 ∨ i = 10 ∨ i = 11 ∨ i = 12 ∨ i = 13 ∨ i = 14 ∨ i = 15 ∨ i = 16 ∨ i = 17 ∨ i = 18 ∨ i = 19 ∨ 20 ≤ i from by omega) with rfl | rfl | rfl | rfl | rfl | rfl | rfl | rfl | rfl | rfl | rfl | rfl | rfl | rfl | rfl | rfl | rfl | rfl | rfl | rfl | q
      · exact G_tsIn C 132 dL_law_39 (by decide) (by decide) rfl (by decide) (lc_type C K hN ho hls hX hb hL hI hj5 kk)
      · exact G_tsIn C 220 dL_law_39 (by decide) (by decide) rfl (by decide) (lc_template C K hN ho hls hX hb hL hI hj5 kk)
      · exact G_tsIn C 276 dL_law_39 (by decide) (by decide) rfl (by decide) (lc_address C K hN ho hls hX hb hL hI hj5 kk)
      · exact G_tsIn C 332 dL_law_39 (by decide) (by decide) rfl (by decide) (lc_addresses C K hN ho hls hX hb hL hI hj5 kk)
      · exact G_tsIn C 345 dL_law_39 (by decide) (by decide) rfl (by decide) (lc_cleaned C K hN ho hls hX hb hL hI hj5 kk)
      · exact G_tsIn C 441 dL_law_39 (by decide) (by decide) rfl (by decide) (lc_apart C K hN ho hls hX hb hL hI hj5 kk)
      · exact G_tsIn C 537 dL_law_39 (by decide) (by decide) rfl (by decide) (lc_likeness C K hN ho hls hX hb hL hI hj5 kk)
      · exact G_tsIn C 605 dL_law_39 (by decide) (by decide) rfl (by decide) (lc_pairs C K hN ho hls hX hb hL hI hj5 kk)
      · exact G_tsIn C 661 dL_law_39 (by decide) (by decide) rfl (by decide) (lc_match C K hN ho hls hX hb hL hI hj5 kk)
      · exact G_tsIn C 736 dL_law_39 (by decide) (by decide) rfl (by decide) (lc_group C K hN ho hls hX hb hL hI hj5 kk)
      · exact G_tsIn C 792 dL_law_39 (by decide) (by decide) rfl (by decide) (lc_franking C K hN ho hls hX hb hL hI hj5 kk)
      · exact G_tsIn C 860 dL_law_39 (by decide) (by decide) rfl (by decide) (lc_run C K hN ho hls hX hb hL hI hj5 kk)
      · exact G_tsIn C 928 dL_law_39 (by decide) (by decide) rfl (by decide) (lc_letters C K hN ho hls hX hb hL hI hj5 kk)
      · exact G_tsIn C 984 dL_law_39 (by decide) (by decide) rfl (by decide) (lc_letter C K hN ho hls hX hb hL hI hj5 kk)
      · exact G_tsIn C 1064 dL_law_39 (by decide) (by decide) rfl (by decide) (lc_sign C K hN ho hls hX hb hL hI hj5 kk)
      · exact G_tsIn C 1144 dL_law_39 (by decide) (by decide) rfl (by decide) (lc_anew C K hN ho hls hX hb hL hI hj5 kk)
      · exact G_tsIn C 1212 dL_law_39 (by decide) (by decide) rfl (by decide) (lc_trouble C K hN ho hls hX hb hL hI hj5 kk)
      · exact G_tsIn C 1320 dL_law_39 (by decide) (by decide) rfl (by decide) (lc_post C K hN ho hls hX hb hL hI hj5 kk)
      · exact G_tsIn C 1376 dL_law_39 (by decide) (by decide) rfl (by decide) (lc_spent C K hN ho hls hX hb hL hI hj5 kk)
      · exact G_tsIn C 1389 dL_law_39 (by decide) (by decide) rfl (by decide) (lc_reasons C K hN ho hls hX hb hL hI hj5 kk)
      · refine G_tsOut C 1445 dL_law_39 (Or.inr ?_) (by decide) (G_less (by omega) (by omega) (kk V hI))
        rw [nI_toInt (by omega)]
        omega
end LLOOP
theorem se_0 : shF 0 = (11, 0) := by decide +kernel
theorem shP_0 (a : Nat) : (shP 0).1 a = (99, 0) := by
  show (if a < 0 then shF a else (99, 0)) = (99, 0)
  exact if_neg (Nat.not_lt_zero _)
set_option maxHeartbeats 4000000 in
theorem whole_start {p : Program} {e : Env} {s : State} {m : MethodId} {below : List Frame} {meth : Method} {c : Code} (l : Launch) (hflags : l.flags = flags0) {b L : Nat} {xs : Nat → Int32} (hL : L ≤ 2560) (C0 : lw_At p s m meth c b L xs) : W p l e room_1 s m #[Value.ref b] below meth c s.heap [] 0 0 (lw_Z below #[Value.ref b] s) (entryFrame m ([Value.ref b] : List Value).toArray 7) := by
  obtain ⟨hx, hb, hr, hml, hown, hts, hX, hbl, hlk, hgv⟩ := C0
  obtain ⟨x0, cA, D, rfl, K, hN⟩ := st_K hts hgv b
  have hls : l.stackTraces = false := by
    unfold Launch.stackTraces
    rw [hflags]
    decide +kernel
  have C : a_CG p s m #[Value.ref (x0 2)] meth c mLaw := ⟨hx, hb, hml, hown, fun w hw => hts w (List.mem_filter.mp hw).1, hr, hlk⟩
  have ho : s.heap.size ≤ s.heap.size := Nat.le_refl _
  rw [lg_entry_eq]
  have hend : ∀ (j : Nat) (V : aV), RG p l e room_1 s m #[Value.ref (x0 2)] below meth c D cA s.heap.size x0 mLaw (lw_Z below #[Value.ref (x0 2)] s) 0 0 1451 [some (.retAddr 2), some (.ref 0), some (.ref 504), some (.ref 539), some (.int (nI (5 * j))), none, none] [] Sh V := by
    intro j V
    refine G_iconst C K (v := 1) dL_law_1451 (by decide) ?_
    intro H locs cells slots ls hl hP hz hS h1 h2
    refine W.widen (k := 601024) (n := 7293034) h1 h2 ?_
    refine va_forget hS.2.2 ?_
    refine W.base ?_
    exact lw_ret (Drawn.sameBut.refl s.drawn lw_cs) C.1 C.2.1 hr hlk dL_law_1452
  have main : RG p l e room_1 s m #[Value.ref (x0 2)] below meth c D cA s.heap.size x0 mLaw (lw_Z below #[Value.ref (x0 2)] s) 601024 7293034 0 [some (.retAddr 2), none, none, none, none, none, none] [] (shP 0) (fun _ _ => .null) := by
    refine G_less (kc' := 0 + 3 * 512 + 1 + 34 + 1 + 503 + 1) (ks' := 0 + 18 * 512 + 1 + 17931 + 46 + 20294 + 8) (by decide) (by decide) ?_
    refine G_new (ci := 11) (C0 := RX11) (T0 := TX11) (N := 8) C K tyX11 rfl (by decide) inX11 tyX11_ok clL_8 ins_11 wi_X11 dL_law_0 rfl ?_
    rw [shP_push se_0]
    refine G_dup C K dL_law_3 rfl ?_
    refine G_callI (T' := mX11_init) (As := []) C K ho hls okX11_init mlL_78 (ct_i11 (V := aVn (fun _ _ => .null) 0 dX11) rfl rfl) rfl ⟨Nat.le_of_ble_eq_true rfl, Nat.le_of_ble_eq_true rfl⟩ (Nat.le_of_ble_eq_true rfl) dL_law_4 (fun v S' V1 h9 => ?_) (fun E S' V' h => (show False from h).elim)
    obtain ⟨rfl, rfl, hI⟩ := h9
    refine G_astore_1 C K (by decide) (by decide) dL_law_7 ?_
    refine G_new (ci := 12) (C0 := RX12) (T0 := TX12) (N := 46) C K tyX12 rfl (by decide) inX12 tyX12_ok clL_79 ins_12 wi_X12 dL_law_8 rfl ?_
    rw [shP_push sh_504e]
    refine G_dup C K dL_law_11 rfl ?_
    refine G_callI (T' := mX12_init) (As := []) C K ho hls okX12_init mlL_81 (ct_i12 (V := aVn V1 504 dX12)) rfl ⟨Nat.le_of_ble_eq_true rfl, Nat.le_of_ble_eq_true rfl⟩ (Nat.le_of_ble_eq_true rfl) dL_law_12 (fun v S' V2 h9 => ?_) (fun E S' V' h => (show False from h).elim)
    obtain ⟨rfl, rfl, rfl⟩ := h9
    refine G_astore_2 C K (by decide) (by decide) dL_law_15 ?_
    refine G_iconst C K (v := 1) dL_law_16 (by decide) ?_
    refine G_newaL (N := 1) C K dL_law_17 rfl (by decide) (by decide) (by decide) ?_
    rw [shP_push se_539]
    refine G_astore_3 C K (by decide) (by decide) dL_law_19 ?_
    refine G_iconst C K (v := 0) dL_law_20 (by decide) ?_
    refine G_istore_4 C K (by decide) (by decide) dL_law_21 ?_
    refine G_shape (S' := Sh) shP_540 rfl ?_
    exact law_loop (kc := 0) (ks := 0) C K hN ho hls hX hbl hL hend 512 0 _ (lin_made hI) (by omega) (by omega)
  refine main s.heap [] 0 0 _ (a_lv.entry (As := [.retAddr 2]) (by decide)) (fun a e he => ?_) (fun n hn => ?_) va_S.rf (by decide) (by decide)
  · rw [shP_0 a] at he
    cases he
  · cases hn
    exact ⟨rfl, fun a _ => shP_0 a⟩
