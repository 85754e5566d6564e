/-! ===== the class as the law calls it: what throws nothing ===== -/
def CSt (V : aV) (L : List Int32) (T : Nat → List Int32) (to : Nat → Bool) (ent : Nat → EntN) (cnt : Nat) (mt po : Nat → Nat) (b st pa n : Nat) (rt rr : Nat → Nat) (pd : Nat → Bool) (kn : Nat → Nat) (kl : Nat → Nat → KL) : Prop := CI V L T to ent cnt mt po b st pa n rt rr pd kn kl ∧ SOK L T to ent cnt mt po b st pa n rt rr pd kn kl
section LCS
variable {V : aV} {L : List Int32} {T : Nat → List Int32} {to : Nat → Bool} {ent : Nat → EntN} {cnt : Nat} {mt po : Nat → Nat} {b st pa n : Nat} {rt rr : Nat → Nat} {pd : Nat → Bool} {kn : Nat → Nat} {kl : Nat → Nat → KL}
theorem CSt.low {V' : aV} (h : CSt V L T to ent cnt mt po b st pa n rt rr pd kn kl) (e : ∀ b, b < 504 → V' b = V b) : CSt V' L T to ent cnt mt po b st pa n rt rr pd kn kl := ⟨h.1.low e, h.2⟩
theorem lc_type (h : CSt V L T to ent cnt mt po b st pa n rt rr pd kn kl) {x : Int64} {c : Nat} (hc : cSg x 8 0 0 = nI c) (h8 : c ≤ 8) (h96 : L.length + c ≤ 96) (hok : ∀ s ∈ tySg x c, okC s) : CT mX11_type 6 1 6 [.ref 0, .long x] Sh V (fun v S' V' => some (.int (nI (L.length + c))) = v ∧ Sh = S' ∧ CSt V' (L ++ tySg x c) T to ent cnt mt po b st pa n rt rr pd kn kl ∧ FrX V V') aNo := by
  obtain ⟨hI, hS⟩ := h
  refine CT_mono (ct_type hI.1.1 hI.1.2.1 x) (fun v S' V' q => ?_) (fun E S' V' q => ?_)
  · obtain ⟨c', q1, q2, q3, q4, q5, q6, q7⟩ := q
    have e : c' = c := (nI_eq (by omega) (by omega)).1 (by rw [← q2, hc])
    subst e
    refine ⟨q4, q5, ⟨hI.ln ⟨(congrFun (q7 1 (by decide) (by decide)) 0).trans hI.1.2.1.1, q6⟩ (fun b _ y1 y2 => q7 b (by omega) (by omega)), hS.ln ⟨by rw [List.length_append, tySg_len]; exact q3, fun s hs => ?_⟩⟩, fun b hb => q7 b (by omega) (by omega)⟩
    rcases List.mem_append.1 hs with hs | hs
    · exact hS.1.2 s hs
    · exact hok s hs
  · obtain ⟨-, -, ⟨-, q⟩ | ⟨-, c', q1, q2, q3⟩⟩ := q
    · exact absurd (hc.symm.trans q) (m1_ne (by omega))
    · have e : c' = c := (nI_eq (by omega) (by omega)).1 (by rw [← q2, hc])
      omega
theorem lc_template (h : CSt V L T to ent cnt mt po b st pa n rt rr pd kn kl) {a : Nat} (ha : a < 8) {p : Nat} (hr : rAll L 96 0 [] (fun _ => none) = .inr (p, [], jmOf L)) : CT mX11_template 9 1 6 [.ref 0, .int (nI a)] Sh V (fun v S' V' => some (.int (nI L.length)) = v ∧ Sh = S' ∧ CSt V' [] (upN T a L) (upN to a true) ent cnt mt po b st pa n rt rr pd kn kl ∧ FrX V V') aNo := by
  obtain ⟨hI, hS⟩ := h
  obtain ⟨⟨a1, a2, a3, a4, a5, a6, a7⟩, ⟨b1, ⟨en, sp, b2⟩, b3, b4⟩, ⟨⟨tl, sp2, c1⟩, c2, c3, c4, c5⟩, d1, d2⟩ := id hI
  obtain ⟨⟨l96, lok⟩, ⟨hK8, hT8⟩, hS2⟩ := id hS
  refine CT_mono (ct_template a1 a2 c1 (nI a)) (fun v S' V' q => ?_) (fun E S' V' q => absurd ⟨nI_pos (by omega), nI_lt (a := a) (b := 8) ha (by decide)⟩ q.2.1)
  obtain ⟨a', k1, k2, k3, k4, k5, k6⟩ := q
  have e : a = a' := (nI_eq (by omega) (by omega)).1 k2
  subst e
  rw [hr] at k6
  obtain ⟨t1, t2, t3⟩ := rAll_tok l96 hr
  rcases k6 with ⟨q1, q2, q3⟩ | ⟨q1, q2, q3⟩
  · refine ⟨q2, k3, ⟨hI.te k4 k5 (by rw [← jpO_up t2]; exact q3), ⟨Nat.zero_le _, fun c hc9 => absurd hc9 List.not_mem_nil⟩, ⟨fun n' hn' ht' => ?_, fun k => ?_⟩, hS2⟩, fun b hb => k5.1 b (by omega) (by omega) (by omega) (by omega) (by omega) (by omega)⟩
    · by_cases z : n' = a
      · subst z; rw [upN_s]; exact t1
      · rw [upN_n z]; exact hK8 n' hn' (by rwa [upN_n z] at ht')
    · by_cases z : k = a
      · subst z; rw [upN_s]; exact ⟨l96, lok⟩
      · rw [upN_n z]; exact hT8 k
  · exact absurd rfl q1
theorem lc_address (h : CSt V L T to ent cnt mt po b st pa n rt rr pd kn kl) (hc : cnt < 12) (hz : mt cnt = 0) {y : EntN} (hr : (aRd L).2 = some (encE y)) (hy : EO y) : CT mX11_address 6 1 6 [.ref 0, .int (nI cnt)] Sh V (fun v S' V' => some (.int (nI cnt)) = v ∧ Sh = S' ∧ CSt V' [] T to (upN ent cnt y) (cnt + 1) mt po b st pa n rt rr pd kn kl ∧ FrX V V') aNo := by
  obtain ⟨hI, hS⟩ := h
  obtain ⟨⟨a1, a2, a3, a4, a5, a6, a7⟩, ⟨b1, ⟨en, sp, b2⟩, b3, b4⟩, ⟨⟨tl, sp2, c1⟩, c2, c3, c4, c5⟩, d1, d2⟩ := id hI
  obtain ⟨hL, hT, ⟨hcn, hEO, hm, hpo⟩, hR⟩ := id hS
  refine CT_mono (ct_address a1 a2 b1 b2 b3 (nI cnt)) (fun v S' V' q => ?_) (fun E S' V' q => ?_)
  · obtain ⟨a', k1, k2, k3, k4, k5, k6, k7, k8⟩ := q
    have e : cnt = a' := (nI_eq (by omega) (by omega)).1 k3
    subst e
    rw [hr] at k8
    obtain ⟨k8, k9⟩ := k8
    have k10 : BE V' (upN en cnt sp) (en cnt) (fun k => encE (upN ent cnt y k)) (cnt + 1) := by
      rw [← enc_up, show cnt + 1 = max cnt (cnt + 1) by omega]
      exact k9
    refine ⟨k8, k5, ⟨hI.ad k6 k7 k10, ⟨Nat.zero_le _, fun c hc9 => absurd hc9 List.not_mem_nil⟩, hT, ⟨by omega, fun k hk => ?_, hm.up (by omega), hpo⟩, hR⟩, fun b hb => k7.1 b (by omega) (by omega) (by omega)⟩
    by_cases z : k = cnt
    · subst z; rw [upN_s]; exact hy
    · rw [upN_n z]; exact hEO k hk
  · obtain ⟨-, -, ⟨-, q⟩ | ⟨-, -, q | ⟨k, q1, q2, q3⟩⟩⟩ := q
    · exact absurd ⟨nI_pos (by omega), nI_le (Nat.le_refl _) (by omega)⟩ q
    · exact absurd q (nI_ge (a := cnt) (b := 12) hc (by decide))
    · have e : cnt = k := (nI_eq (by omega) (by omega)).1 q2
      subst e
      exact absurd hz q3
theorem lc_addresses (h : CSt V L T to ent cnt mt po b st pa n rt rr pd kn kl) : CT mX11_addresses 0 0 0 [.ref 0] Sh V (aRet (some (.int (nI cnt))) Sh V) aNo := by
  obtain ⟨en, sp, b2⟩ := h.1.2.1.2.1
  exact ct_addresses h.1.1.1 b2.2.2.2.1
theorem lc_reasons (h : CSt V L T to ent cnt mt po b st pa n rt rr pd kn kl) {k : Nat} (hk : k < cnt) : CT mX11_reasons 7 1 6 [.ref 0, .int (nI k)] Sh V (aRet (some (.int (nI (po k)))) Sh V) aNo := by
  have hc := h.2.2.2.1.1
  obtain ⟨b1, ⟨en, sp, b2⟩, b3, b4⟩ := h.1.2.1
  refine CT_mono (ct_reasons h.1.1.1 b1 b4 b2.2.2.2.1 (nI k)) (fun v S' V' q => ?_) (fun E S' V' q => absurd ⟨nI_pos (by omega), nI_lt hk (by omega), nI_lt (a := k) (b := 12) (by omega) (by decide)⟩ q.2.1)
  obtain ⟨k', q1, q2, q3, q4, q5, q6⟩ := q
  have e : k = k' := (nI_eq (by omega) (by omega)).1 q3
  subst e
  exact ⟨q4, q5, q6⟩
theorem lc_group (h : CSt V L T to ent cnt mt po b st pa n rt rr pd kn kl) {k : Nat} (hk : k < cnt) : CT mX11_group 7 1 6 [.ref 0, .int (nI k)] Sh V (aRet (some (.int (nI (gOf mt k)))) Sh V) aNo := by
  have hc := h.2.2.2.1.1
  obtain ⟨b1, ⟨en, sp, b2⟩, b3, b4⟩ := h.1.2.1
  refine CT_mono (ct_group h.1.1.1 b1 b3 b2.2.2.2.1 (nI k)) (fun v S' V' q => ?_) (fun E S' V' q => absurd ⟨nI_pos (by omega), nI_lt hk (by omega), nI_lt (a := k) (b := 12) (by omega) (by decide)⟩ q.2.1)
  obtain ⟨k', q1, q2, q3, q4, q5, q6⟩ := q
  have e : k = k' := (nI_eq (by omega) (by omega)).1 q3
  subst e
  exact ⟨q4, q5, q6⟩
theorem lc_spent (h : CSt V L T to ent cnt mt po b st pa n rt rr pd kn kl) : CT mX11_spent 0 0 0 [.ref 0] Sh V (aRet (some (.int (nI pa))) Sh V) aNo := ct_spent h.1.1.2.2.2.2.2.2
theorem lc_franking (h : CSt V L T to ent cnt mt po b st pa n rt rr pd kn kl) {b' st' : Nat} (hb : b' ≤ 1000000000) (hs : st' ≤ 1000000000) : CT mX11_franking 6 1 6 [.ref 0, .int (nI b'), .int (nI st')] Sh V (fun v S' V' => some (.int (kost b' st' (wgt 20 1) 5)) = v ∧ Sh = S' ∧ CSt V' L T to ent cnt mt po b' st' pa n rt rr pd kn kl ∧ FrX V V') aNo := by
  obtain ⟨hI, hS⟩ := h
  have hM : ∀ x : Nat, x ≤ 1000000000 → okM (nI x) := fun x hx => ⟨nI_pos (by omega), (nI_leI (b := 1000000000) (by omega) (by decide)).2 hx⟩
  refine CT_mono (ct_franking hI.1.1 (nI b') (nI st')) (fun v S' V' q => ?_) (fun E S' V' q => absurd ⟨hM b' hb, hM st' hs⟩ q.2.1)
  obtain ⟨x, y, q1, q2, q3, q4, q5, q6, q7⟩ := q
  have e1 : b' = x := (nI_eq (by omega) (by omega)).1 q3
  have e2 : st' = y := (nI_eq (by omega) (by omega)).1 q4
  subst e1; subst e2; subst q7
  refine ⟨q5, q6, ⟨hI.fk ((a_up_ne (Or.inr (by decide))).trans (a_up_self _ _ _ _)) (a_up_self _ _ _ _) (fun b hb => (a_up_row hb).trans (a_up_row hb)), hS.1, hS.2.1, hS.2.2.1, ⟨hb, hs, hS.2.2.2.1.2.2⟩, hS.2.2.2.2⟩, fun b hb => (a_up_row (by omega)).trans (a_up_row (by omega))⟩
theorem lc_run (h : CSt V L T to ent cnt mt po b st pa n rt rr pd kn kl) (hn : n < 8) {a c : Nat} (ha : a < 8) (hc : c < 8) : CT mX11_run 7 2 12 [.ref 0, .int (nI a), .int (nI c)] Sh V (fun v S' V' => some (.int (nI n)) = v ∧ Sh = S' ∧ CSt V' L T to ent cnt mt po b st pa (n + 1) (upN rt n a) (upN rr n c) pd kn kl ∧ FrX V V') aNo := by
  obtain ⟨hI, hS⟩ := h
  refine CT_mono (ct_run hI.1.1 hI.1.2.2.2.2.2.1 (by omega) hI.2.2.2.1 (nI a) (nI c)) (fun v S' V' q => ?_) (fun E S' V' q => ?_)
  · obtain ⟨x, y, q1, q2, q3, q4, q5, q6, q7, q8⟩ := q
    have e1 : a = x := (nI_eq (by omega) (by omega)).1 q4
    have e2 : c = y := (nI_eq (by omega) (by omega)).1 q5
    subst e1; subst e2; subst q8
    refine ⟨q6, q7, ⟨hI.rn hn ha hc, hS.1, hS.2.1, hS.2.2.1, hS.2.2.2.1, by omega, fun i hi => ?_⟩, fun b hb => (a_up_row (by omega)).trans ((a_up_row (by omega)).trans (a_up_row (by omega)))⟩
    obtain ⟨r1, r2, r3, r4, r5, r6⟩ := hS.2.2.2.2.2 i hi
    refine ⟨?_, ?_, r3, r4, fun z => r5 (by omega), r6⟩
    · unfold upN; split
      · exact ha
      · exact r1
    · unfold upN; split
      · exact hc
      · exact r2
  · obtain ⟨-, -, ⟨-, q⟩ | ⟨-, ⟨-, q⟩ | ⟨-, -, q⟩⟩⟩ := q
    · exact absurd ⟨nI_pos (by omega), nI_lt (a := a) (b := 8) ha (by decide)⟩ q
    · exact absurd ⟨nI_pos (by omega), nI_lt (a := c) (b := 8) hc (by decide)⟩ q
    · omega
theorem lc_letters (h : CSt V L T to ent cnt mt po b st pa n rt rr pd kn kl) {i : Nat} (hi : i < n) : CT mX11_letters 7 1 6 [.ref 0, .int (nI i)] Sh V (fun v S' V' => some (.int (nI (lcn mt po cnt kn pd rr i))) = v ∧ Sh = S' ∧ CSt V' L T to ent cnt mt po b st pa n rt rr pd kn kl ∧ FrX V V') aNo := by
  obtain ⟨hI, hS⟩ := h
  have hn := hS.2.2.2.2.1
  obtain ⟨b1, ⟨en, sp, b2⟩, b3, b4⟩ := hI.2.1
  refine CT_mono (ct_letters hI.1.1 hI.1.2.2.2.2.2.1 hn hI.2.2.2.1 b1 b3 b4 b2.2.2.2.1 hS.2.2.1.1 (nI i)) (fun v S' V' q => ?_) (fun E S' V' q => absurd ⟨nI_pos (by omega), nI_lt hi (by omega), nI_lt (a := i) (b := 8) (by omega) (by decide)⟩ q.2.1)
  obtain ⟨k, q1, q2, q3, q4, q5, q6⟩ := q
  have e : i = k := (nI_eq (by omega) (by omega)).1 q3
  subst e
  exact ⟨q4, q5, ⟨hI.f87 q6, hS⟩, fun b hb => q6 b (by omega)⟩
/-- an open run's letter -/
def OL (T : Nat → List Int32) (to : Nat → Bool) (ent : Nat → EntN) (cnt : Nat) (mt po : Nat → Nat) (b st n : Nat) (rt rr : Nat → Nat) (pd : Nat → Bool) (i l g : Nat) (x : List Int32 × Nat × Int32) : Prop := i < n ∧ i < 8 ∧ pd i = false ∧ l < (dLst mt po (rr i) cnt).length ∧ l < 12 ∧ (dLst mt po (rr i) cnt).getD l 0 = g ∧ ltr T to ent b st (rt i) g = .inl x
section OLS
variable {i l g : Nat} {x : List Int32 × Nat × Int32}
theorem OL.lcn (o : OL T to ent cnt mt po b st n rt rr pd i l g x) : l < lcn mt po cnt kn pd rr i := by
  unfold _root_.Jvm.Pilot.CMergePostLaw_law_r4113_dee370.lcn
  rw [if_neg (by rw [o.2.2.1]; decide)]
  exact o.2.2.2.1
theorem OL.lrs (o : OL T to ent cnt mt po b st n rt rr pd i l g x) : lrs T to ent cnt mt po b st rt rr pd kl i l = .inl x := by
  unfold _root_.Jvm.Pilot.CMergePostLaw_law_r4113_dee370.lrs
  rw [if_neg (by rw [o.2.2.1]; decide), o.2.2.2.2.2.1]
  exact o.2.2.2.2.2.2
theorem OL.mmb (o : OL T to ent cnt mt po b st n rt rr pd i l g x) : mmb cnt mt po rr pd kl i l = g := by
  unfold _root_.Jvm.Pilot.CMergePostLaw_law_r4113_dee370.mmb
  rw [if_neg (by rw [o.2.2.1]; decide)]
  exact o.2.2.2.2.2.1
theorem OL.ok (o : OL T to ent cnt mt po b st n rt rr pd i l g x) : ltOK n (_root_.Jvm.Pilot.CMergePostLaw_law_r4113_dee370.lcn mt po cnt kn pd rr) (nI i) (nI l) := ⟨i, l, o.1, o.2.1, rfl, rfl, o.lcn⟩
theorem lc_sign (h : CSt V L T to ent cnt mt po b st pa n rt rr pd kn kl) (o : OL T to ent cnt mt po b st n rt rr pd i l g x) {p : Nat} (hp : p < 2 ^ 31) : CT mX11_sign 9 3 18 [.ref 0, .int (nI i), .int (nI l), .int (nI p)] Sh V (fun v S' V' => some (.int (lAt x.1 (nI p))) = v ∧ Sh = S' ∧ CSt V' L T to ent cnt mt po b st pa n rt rr pd kn kl ∧ FrX V V') aNo := by
  refine CT_mono (ct_sign h.1 h.2 (nI i) (nI l) (nI p)) (fun v S' V' q => ?_) (fun E S' V' q => absurd ⟨o.ok, nI_pos hp⟩ q.2.2.2.2)
  obtain ⟨i', l', q1, q2, q3, q4, q5, q6, q7, q8, q9, q10⟩ := q
  have l12 := lcn_le (mt := mt) (po := po) h.1.2.2.2.1 h.2.2.2.1.1 q2
  have i8 := o.2.1
  have ll := o.2.2.2.2.1
  have e1 : i = i' := (nI_eq (by omega) (by omega)).1 q3
  subst e1
  have e2 : l = l' := (nI_eq (by omega) (by omega)).1 q4
  subst e2
  rw [o.lrs] at q7
  exact ⟨q7, q8, ⟨q9, h.2⟩, q10⟩
theorem lc_letter (h : CSt V L T to ent cnt mt po b st pa n rt rr pd kn kl) (o : OL T to ent cnt mt po b st n rt rr pd i l g x) {k : Nat} (hk : k ≤ 4) : CT mX11_letter 9 3 18 [.ref 0, .int (nI i), .int (nI l), .int (nI k)] Sh V (fun v S' V' => some (.int (lval g (.inl x) k)) = v ∧ Sh = S' ∧ CSt V' L T to ent cnt mt po b st pa n rt rr pd kn kl ∧ FrX V V') aNo := by
  refine CT_mono (ct_letter h.1 h.2 (nI i) (nI l) (nI k)) (fun v S' V' q => ?_) (fun E S' V' q => ?_)
  · obtain ⟨i', l', k', q1, q2, q3, q4, q5, q6, q6', q7, q8, q9, q10⟩ := q
    have l12 := lcn_le (mt := mt) (po := po) h.1.2.2.2.1 h.2.2.2.1.1 q2
    have i8 := o.2.1
    have ll := o.2.2.2.2.1
    have e1 : i = i' := (nI_eq (by omega) (by omega)).1 q3
    subst e1
    have e2 : l = l' := (nI_eq (by omega) (by omega)).1 q4
    subst e2
    have e3 : k = k' := (nI_eq (by omega) (by omega)).1 q6'
    subst e3
    rw [o.lrs, o.mmb] at q7
    exact ⟨q7, q8, ⟨q9, h.2⟩, q10⟩
  · obtain ⟨-, -, -, ⟨-, q⟩ | ⟨-, -, q⟩⟩ := q
    · exact absurd o.ok q
    · exact absurd ⟨nI_pos (by omega), (nI_leI (a := k) (b := 4) (by omega) (by decide)).2 hk⟩ q
theorem lc_trouble (h : CSt V L T to ent cnt mt po b st pa n rt rr pd kn kl) (o : OL T to ent cnt mt po b st n rt rr pd i l g x) : CT mX11_trouble 9 3 18 [.ref 0, .int (nI i), .int (nI l), .int 0, .int 0] Sh V (fun v S' V' => some (.int (-1)) = v ∧ Sh = S' ∧ CSt V' L T to ent cnt mt po b st pa n rt rr pd kn kl ∧ FrX V V') aNo := by
  refine CT_mono (ct_trouble h.1 h.2 (nI i) (nI l) 0 0) (fun v S' V' q => ?_) (fun E S' V' q => absurd ⟨o.ok, by decide⟩ q.2.2.2.2)
  obtain ⟨i', l', q1, q2, q3, q4, q5, q6, q7, q8, q9, q10⟩ := q
  have l12 := lcn_le (mt := mt) (po := po) h.1.2.2.2.1 h.2.2.2.1.1 q2
  have i8 := o.2.1
  have ll := o.2.2.2.2.1
  have e1 : i = i' := (nI_eq (by omega) (by omega)).1 q3
  subst e1
  have e2 : l = l' := (nI_eq (by omega) (by omega)).1 q4
  subst e2
  rw [o.lrs] at q7
  exact ⟨q7, q8, ⟨q9, h.2⟩, q10⟩
theorem unl_same (x : List Int32) : ∀ k, unl x x k = 0 := by
  intro k
  induction k with
  | zero => rfl
  | succ k ih => simp [unl, ih]
theorem lc_anew (h : CSt V L T to ent cnt mt po b st pa n rt rr pd kn kl) (o : OL T to ent cnt mt po b st n rt rr pd i l g x) : CT mX11_anew 9 2 12 [.ref 0, .int (nI i), .int (nI l)] Sh V (fun v S' V' => some (.int 0) = v ∧ Sh = S' ∧ CSt V' L T to ent cnt mt po b st pa n rt rr pd kn kl ∧ FrX V V') aNo := by
  refine CT_mono (ct_anew h.1 h.2 (nI i) (nI l)) (fun v S' V' q => ?_) (fun E S' V' q => absurd o.ok q.2.2.2.2)
  obtain ⟨i', l', q1, q2, q3, q4, q5, q7, q8, q9, q10⟩ := q
  have l12 := lcn_le (mt := mt) (po := po) h.1.2.2.2.1 h.2.2.2.1.1 q2
  have i8 := o.2.1
  have ll := o.2.2.2.2.1
  have e1 : i = i' := (nI_eq (by omega) (by omega)).1 q3
  subst e1
  have e2 : l = l' := (nI_eq (by omega) (by omega)).1 q4
  subst e2
  rw [o.lrs, o.mmb, o.2.2.2.2.2.2] at q7
  refine ⟨q7.symm ▸ ?_, q8, ⟨q9, h.2⟩, q10⟩
  show some (Value.int 0) = some (Value.int (nI (unl x.1 x.1 _)))
  rw [unl_same]
  rfl
end OLS
theorem lc_post (h : CSt V L T to ent cnt mt po b st pa n rt rr pd kn kl) {i : Nat} (hi : i < n) (hp : pd i = false) {K : List KL} (hK : kpt (fun g => ltr T to ent b st (rt i) g) (dLst mt po (rr i) cnt) = K) : CT mX11_post 8 2 12 [.ref 0, .int (nI i)] Sh V (fun v S' V' => some (.int (nI K.length)) = v ∧ Sh = S' ∧ CSt V' L T to ent cnt mt (poF (rr i) K po) b st (paF K pa) n rt rr (upN pd i true) (upN kn i K.length) (klF kl i K) ∧ FrX V V') aNo := by
  obtain ⟨hI, hS⟩ := h
  obtain ⟨⟨l96, lok⟩, ⟨hK8, hT8⟩, ⟨hc, hEO, hm, hpo⟩, ⟨hb, hst, hpa⟩, hn, hk8⟩ := id hS
  refine CT_mono (ct_post hI hS (nI i)) (fun v S' V' q => ?_) (fun E S' V' q => ?_)
  · obtain ⟨i', q1, q2, q3, q4, q5, q6, q7, q8⟩ := q
    have e1 : i = i' := (nI_eq (by omega) (by omega)).1 q3
    subst e1
    rw [hK] at q5 q7
    have dl12 := dLst_len (mt := mt) (po := po) (r := rr i) cnt
    have kl12 : K.length ≤ 12 := by rw [← hK]; exact Nat.le_trans kpt_len (by omega)
    refine ⟨q5, q6, ⟨q7, hS.1, hS.2.1, ⟨hc, hEO, hm, poF_lt8 (hk8 i q2).2.1 _ po hpo⟩, ⟨hb, hst, paF_lt _ pa hpa⟩, hn, fun a ha => ?_⟩, q8⟩
    obtain ⟨r1, r2, r3, r4, r5, r6⟩ := hk8 a ha
    refine ⟨r1, r2, ?_, fun z => ?_, fun z => ?_, fun j hj => ?_⟩
    · unfold upN
      split
      · exact kl12
      · exact r3
    · by_cases w : a = i
      · subst w; rw [upN_s] at z; cases z
      · rw [upN_n w] at z ⊢; exact r4 z
    · rw [upN_n (by omega)]; exact r5 z
    · have hj2 : j < (if a = i then K.length else kn a) := hj
      show KO (if a = i then K.getD j ([], 0, 0, 0) else kl a j)
      by_cases w : a = i
      · rw [if_pos w] at hj2 ⊢
        have hm8 := gd_mem (d := (([], 0, 0, 0) : KL)) hj2
        rw [← hK] at hm8 ⊢
        have hm9 := kpt_mem hm8
        obtain ⟨ai, hai, eg⟩ := dLst_mem cnt hm9.1
        exact ltr_ok (fun k => (hT8 k).2) hEO (by rw [eg]; exact gOf_mbr hm.1 (by omega)) hm9.2
      · rw [if_neg w] at hj2 ⊢
        exact r6 j hj2
  · obtain ⟨-, -, ⟨-, q⟩ | ⟨-, i', q1, q2, q3, q4⟩⟩ := q
    · exact absurd ⟨nI_pos (by omega), nI_lt hi (by omega), nI_lt (a := i) (b := 8) (by omega) (by decide)⟩ q
    · have e1 : i = i' := (nI_eq (by omega) (by omega)).1 q3
      subst e1
      rw [hp] at q4; cases q4
end LCS
