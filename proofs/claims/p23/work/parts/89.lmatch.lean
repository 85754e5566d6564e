/-! ===== static calls over any room; the law's match ===== -/
section GSTAT
variable {p : Program} {l : Launch} {e : Env} {Rm : Room} {s : State} {m : MethodId} {args : Array Value} {below : List Frame} {meth : Method} {c : Code} {D : va_G} {cA : Nat → ClassId} {o : Nat} {x0 : Nat → Nat} {T : aMt} {Z : State → Prop} {kc ks pc : Nat} {lv : List (Option Value)} {st : List Value} {S : aS} {V : aV}
theorem G_callS {T' : aMt} {r' mc' ms' idx n : Nat} {As stk : List Value} {Q' : Option Value → aS → aV → Prop} (C : a_CG p s m args meth c T) (K : a_K o x0 cA D s) (ho : o ≤ s.heap.size) (hls : l.stackTraces = false) (hok : aOKs T' n) (hw : Cond.methodLink T.1.cls idx T'.1 ∈ aT) (ct : CT T' r' mc' ms' As S V Q' aNo) (hn : As.length = n) (hR : r' + 1 ≤ Rm.frames ∧ 8 + (T'.2.2.1 + 11) + 40 * r' ≤ Rm.locals) (hst : (st.map fun v => v.category).sum ≤ 8) (d : decode T.2.1 pc = .ok (.invokestatic idx, 3)) (k : ∀ v S' V', Q' v S' V' → RG p l e Rm s m args below meth c D cA o x0 T Z kc ks (pc + 3) lv (v.toList ++ st) S' V') (hk : stk = As.reverse ++ st := by rfl) : RG p l e Rm s m args below meth c D cA o x0 T Z (kc + mc') (ks + ms') pc lv stk S V := by
  intro H locs cells slots ls hl hP hz hS h1 h2
  refine G_ran (as' := ((As.map (a_v o x0))).toArray) hl hS h1 h2 ?_ k (fun E S' V' h => (show False from h).elim)
  have hG : GoodIn aT (va_wsS T.1.cls idx T'.1 (.code T'.1 T'.2.1 T'.2.2.1 T'.2.2.2 :: aT)) := by
    intro w' hw'
    rcases List.mem_append.mp hw' with h | h
    · simp only [List.mem_cons, List.not_mem_nil, or_false] at h
      rcases h with rfl | rfl | rfl
      · exact aT_good _ hw
      · exact aT_good _ hok.2
      · exact aT_good _ hok.1.2.2.2.1
    · exact aG hok.1.2.2.2.2 w' h
  exact vx_runS (As := As.map (a_v o x0)) (n := n) C.fix (ct l hls o x0 cA D) (va_cwS n C.2.2.2.2.1 hG rfl rfl rfl ⟨hok.1.1, hok.1.2.1, hok.1.2.2.1⟩ hR) ⟨a_blind, fun U hU hW => ⟨rfl, by rw [hU]; exact Nat.le_trans ho hS.1, by rw [hU]; exact hP, by rw [hU]; exact hz, a_K.warm hW (fun q hq hq2 => by rw [hU]; exact hS.2.1 q hq hq2) K⟩⟩ rfl (by rw [List.length_map]; exact hn) hl.1 (by rw [hk]; simp) (lv_room (by rw [a_cats]; exact hst)) d ⟨by omega, by omega⟩
theorem G_less {kc' ks' : Nat} (h1 : kc' ≤ kc) (h2 : ks' ≤ ks) (k : RG p l e Rm s m args below meth c D cA o x0 T Z kc' ks' pc lv st S V) : RG p l e Rm s m args below meth c D cA o x0 T Z kc ks pc lv st S V :=
  fun H locs cells slots ls hl hP hz hS g1 g2 => k H locs cells slots ls hl hP hz hS (by omega) (by omega)
theorem G_shape {S' : aS} (h1 : S'.1 = S.1) (h2 : S'.2 = none) (k : RG p l e Rm s m args below meth c D cA o x0 T Z kc ks pc lv st S' V) : RG p l e Rm s m args below meth c D cA o x0 T Z kc ks pc lv st S V :=
  fun H locs cells slots ls hl hP hz hS g1 g2 => k H locs cells slots ls hl (fun a e he => hP a e (by rw [← h1]; exact he)) (fun n hn => by rw [h2] at hn; cases hn) hS g1 g2
theorem G_tload_0 (C : a_CG p s m args meth c T) {t : List (Option Value)} {x : Nat} (d : decode T.2.1 pc = .ok (.aload_n 0, 1)) (k : RG p l e Rm s m args below meth c D cA o x0 T Z kc ks (pc + 1) (some (.retAddr x) :: t) (.retAddr x :: st) S V) : RG p l e Rm s m args below meth c D cA o x0 T Z kc ks pc (some (.retAddr x) :: t) st S V :=
  fun H locs cells slots ls hl hP hz hS h1 h2 => lv_aload_n C.1 C.2.1 d rfl (hl.2.2 0 _ rfl) (k H locs cells slots ls hl hP hz hS h1 h2)
theorem G_zretM {r mc ms : Nat} {v : Int32} {Q : Option Value → aS → aV → Prop} {QX : String → aS → aV → Prop} (C : a_CG p s m args meth c T) (hr : T.2.2.2 = some .boolean) (hn : narrow .boolean (.int v) = .int v) (d : decode T.2.1 pc = .ok (.ireturn, 1)) (hq : Q (some (.int v)) S V) :
    RG p l e (aRm r mc ms) s m args below meth c D cA o x0 T (vx_MQ below (a_post o x0 cA D Q) (a_xc o x0 cA D QX) args s mc ms (fun q => o ≤ q)) kc ks pc lv [.int v] S V := by
  intro H locs cells slots ls hl hP hz hS h1 h2
  have h1' : cells + kc ≤ mc := h1
  have h2' : slots + ks ≤ ms := h2
  refine W.widen (k := mc) (n := ms) (by omega) (by omega) (vx_ret ?_)
  exact W.zret C.1 C.2.1 (C.2.2.2.2.2.1.trans hr) hn (fun t ht hW => R_fin (v := some (.int v)) hP hz hS ht hq) hS.2.2 d C.2.2.2.2.2.2
end GSTAT
theorem hs_ok {lv : List (Option Value)} {i : Nat} (hi : 1 ≤ i) (h1 : lv[i]? = some none ∨ lv[i]? = none) (h2 : ∀ u, lv[i - 1]? = some (some u) → u.category = 1) : ∀ (j : Nat) (u : Value), lv[j]? = some (some u) → j ≠ i ∧ lv[j]? = some (some u) ∧ ¬ (j + 1 = i ∧ u.category = 2) := by
  intro j u h
  refine ⟨fun e => ?_, h, fun ⟨e1, e2⟩ => ?_⟩
  · subst e
    rcases h1 with h1 | h1 <;> rw [h1] at h <;> cases h
  · have e3 : j = i - 1 := by omega
    subst e3
    rw [h2 u h] at e2
    cases e2
/-- what match answers, and what it leaves -/
def MtP (V : aV) (ent : Nat → EntN) (n : Nat) (mt po : Nat → Nat) (b st pa nr : Nat) (rt rr : Nat → Nat) (pd : Nat → Bool) (kn : Nat → Nat) (kl : Nat → Nat → KL) (a d : Nat) : Option Value → aS → aV → Prop := fun v S' V' => Sh = S' ∧ FrX V V' ∧ ((a ≠ d ∧ some (.int (bI (¬ (mt a).testBit d = true))) = v ∧ CSt V' [] lT lTo ent n (tM mt a d) po b st pa nr rt rr pd kn kl) ∨ (some (.int 0) = v ∧ ¬ (a ≠ d ∧ (mt a).testBit d = true) ∧ CSt V' [] lT lTo ent n mt po b st pa nr rt rr pd kn kl))
section MTC
variable {V : aV} {ent : Nat → EntN} {n : Nat} {mt po : Nat → Nat} {b st pa nr : Nat} {rt rr : Nat → Nat} {pd : Nat → Bool} {kn : Nat → Nat} {kl : Nat → Nat → KL} {a d : Nat}
theorem lc_match (h : CSt V [] lT lTo ent n mt po b st pa nr rt rr pd kn kl) (ha : a < n) (hd : d < n) : CT mX11_match 7 3 18 [.ref 0, .int (nI a), .int (nI d)] Sh V (fun v S' V' => Sh = S' ∧ FrX V V' ∧ a ≠ d ∧ some (.int (bI (¬ (mt a).testBit d = true))) = v ∧ CSt V' [] lT lTo ent n (tM mt a d) po b st pa nr rt rr pd kn kl) (fun E S' V' => E = xS ∧ Sh = S' ∧ FrX V V' ∧ ¬ (a ≠ d ∧ (mt a).testBit d = true) ∧ CSt V' [] lT lTo ent n mt po b st pa nr rt rr pd kn kl) := by
  obtain ⟨hI, hS⟩ := h
  obtain ⟨⟨a1, a2, a3, a4, a5, a6, a7⟩, ⟨b1, ⟨en, sp, b2⟩, b3, b4⟩, ⟨⟨tl, sp2, c1⟩, c2, c3, c4, c5⟩, d1, d2⟩ := id hI
  obtain ⟨hL, hT, ⟨hc, hEO, hm, hpo⟩, hR⟩ := id hS
  refine CT_mono (ct_match a1 b1 b2 b3 a3 (nI a) (nI d)) (fun v S' V' q => ?_) (fun E S' V' q => ?_)
  · obtain ⟨k, j, k1, k2, e1, j1, j2, e2, hok, k4, k5, k6, k7⟩ := q
    have x1 : a = k := (nI_eq (by omega) (by omega)).1 e1
    have x2 : d = j := (nI_eq (by omega) (by omega)).1 e2
    subst x1; subst x2
    exact ⟨k5, fun q hq => k7 q (by omega) (by omega), hok.1, k4, hI.mtc k6 k7, hL, hT, ⟨hc, hEO, hm.turn hc k1 j1 hok.1 (fun q hq => (k6 q hq).2), hpo⟩, hR⟩
  · obtain ⟨g1, g2, ⟨-, g3⟩ | ⟨rfl, k, j, k1, k2, e1, j1, j2, e2, hok⟩⟩ := q
    · exact absurd ⟨⟨nI_pos (by omega), nI_lt ha (by omega), nI_lt (a := a) (b := 12) (by omega) (by decide)⟩, nI_pos (by omega), nI_lt hd (by omega), nI_lt (a := d) (b := 12) (by omega) (by decide)⟩ g3
    · have x1 : a = k := (nI_eq (by omega) (by omega)).1 e1
      have x2 : d = j := (nI_eq (by omega) (by omega)).1 e2
      subst x1; subst x2
      exact ⟨rfl, g1, fun q hq => g2 q (by omega), fun z => hok ⟨z.1, Or.inl z.2⟩, hI.f197 g2, hS⟩
set_option maxHeartbeats 4000000 in
theorem ctw_match (h : CSt V [] lT lTo ent n mt po b st pa nr rt rr pd kn kl) (ha : a < n) (hd : d < n) : CTH mL_match hL_match 8 3 18 [.ref 0, .int (nI a), .int (nI d)] Sh V (MtP V ent n mt po b st pa nr rt rr pd kn kl a d) := by
  refine CTH_of (by decide +kernel) (Nat.le_of_ble_eq_true rfl) ?_
  intro p l e s m args below meth c D cA o x0 hls C K hN ho htab
  show RG _ _ _ _ _ _ _ _ _ _ _ _ _ _ _ _ _ _ 0 [some (.ref 0), some (.int (nI a)), some (.int (nI d)), none] [] _ _
  refine G_aload_0 C K dL_match_0 ?_
  refine G_iload_1 C K dL_match_1 ?_
  refine G_iload_2 C K dL_match_2 ?_
  refine G_callV (T' := mX11_match) (As := [_, _]) (ci := 11) C K ho hls okX11_match mlL_10 rfl (by decide) sh_0 (lc_match h ha hd) rfl ⟨Nat.le_of_ble_eq_true rfl, Nat.le_of_ble_eq_true rfl⟩ (Nat.le_of_ble_eq_true rfl) dL_match_3 (fun v S' V' h9 => ?_) (fun E S' V' h9 => ?_)
  · obtain ⟨rfl, f9, h1, rfl, h2⟩ := h9
    exact G_zretM C rfl bI_nar dL_match_6 ⟨rfl, f9, Or.inl ⟨h1, rfl, h2⟩⟩
  · obtain ⟨rfl, rfl, f9, h1, h2⟩ := h9
    refine G_catch (E := xS) (name := xS) (i := 3) (ln := 1) (x := ⟨0, 6, 10, 18⟩) C K [⟨0, 6, 7, 16⟩] [] htab (fun z hz => by
        simp only [List.mem_cons, List.not_mem_nil, or_false] at hz
        rcases hz with rfl
        exact Or.inr ⟨by decide, xI, clL_16, hN.2⟩) (by decide) (by decide) clL_18 cst_S (Or.inl ⟨3, rfl, rfl, dL_match_10⟩) (by decide) (lv' := [some (.ref 0), some (.int (nI a)), some (.int (nI d)), none]) (hs_ok (by decide) (Or.inl rfl) (fun u h7 => by cases h7; rfl)) ?_
    show RG _ _ _ _ _ _ _ _ _ _ _ _ _ _ _ _ _ _ 11 _ [] _ _
    refine G_iconst C K (v := 0) dL_match_11 (by decide) ?_
    exact G_zretM C rfl rfl dL_match_12 ⟨rfl, f9, Or.inr ⟨rfl, h1, h2⟩⟩
end MTC
/-! the law's own row of matches -/
def clr (x d : Nat) : Nat := if x.testBit d = true then x ^^^ 2 ^ d else x
theorem clr_b {x d : Nat} (h : ¬ x.testBit d = true) : clr x d = x := if_neg h
theorem m1_nI : (-1 : Int32) = nI (2 ^ 32 - 1) := by decide +kernel
theorem clr_eq {x d : Nat} (hx : x < 2 ^ 12) (hd : d < 12) : nI x &&& ((1 : Int32) <<< (nI d &&& 31) ^^^ (-1)) = nI (clr x d) := by
  rw [bk_shl (by omega), m1_nI, bk_xor, bk_and]
  congr 1
  apply Nat.eq_of_testBit_eq
  intro i
  rw [Nat.testBit_and, Nat.testBit_xor, pm1_b, Nat.testBit_two_pow]
  unfold clr
  by_cases i32 : i < 32
  · rw [decide_eq_true i32]
    by_cases e : d = i
    · subst e
      by_cases q : x.testBit d = true
      · rw [if_pos q, Nat.testBit_xor, q, Nat.testBit_two_pow_self]
        simp
      · rw [if_neg q, Bool.eq_false_iff.2 q]
        simp
    · rw [decide_eq_false e]
      by_cases q : x.testBit d = true
      · rw [if_pos q, Nat.testBit_xor, Nat.testBit_two_pow, decide_eq_false e]
        simp
      · rw [if_neg q]
        simp
  · have x0 : x.testBit i = false := Nat.testBit_lt_two_pow (Nat.lt_of_lt_of_le hx (Nat.pow_le_pow_right (by decide) (by omega)))
    rw [x0, Bool.false_and]
    have ne : ¬ d = i := by omega
    split
    · rw [Nat.testBit_xor, x0, Nat.testBit_two_pow, decide_eq_false ne]
      rfl
    · exact x0.symm
theorem or_new {x d : Nat} (h : ¬ x.testBit d = true) : x ||| 2 ^ d = x ^^^ 2 ^ d := by
  apply Nat.eq_of_testBit_eq
  intro i
  rw [Nat.testBit_or, Nat.testBit_xor, Nat.testBit_two_pow]
  by_cases e : d = i
  · subst e
    rw [Bool.eq_false_iff.2 h]
    simp
  · rw [decide_eq_false e]
    simp
