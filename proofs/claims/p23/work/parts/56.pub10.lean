/-! ===== MergePost: a letter of a run ===== -/
theorem gLp_keep {mt : Nat → Nat} {i : Nat} : ∀ m g b, g.testBit i = true → (gLp mt m g b).testBit i = true
  | 0, g, b, h => h
  | m + 1, g, b, h => by
    show (if _ then _ else _ : Nat).testBit i = true
    split
    · exact h
    · exact gLp_keep m _ _ (by rw [Nat.testBit_or, h]; rfl)
theorem gOf_self (mt : Nat → Nat) (a : Nat) : (gOf mt a).testBit a = true := gLp_keep _ _ _ (Nat.testBit_two_pow_self)
theorem gOf_mbr {mt : Nat → Nat} (h : ∀ j, j < 12 → mt j < 2 ^ 12) {a : Nat} (ha : a < 12) : MBR (gOf mt a) := ⟨gOf_lt h ha, a, ha, gOf_self mt a⟩
theorem dLst_mem {mt po : Nat → Nat} {r g : Nat} : ∀ c, g ∈ dLst mt po r c → ∃ a, a < c ∧ g = gOf mt a
  | 0, h => absurd h (List.not_mem_nil)
  | c + 1, h => by
    have h2 : g ∈ (if gOf mt c &&& (2 ^ c - 1) = 0 ∧ ¬ wP po (gOf mt c) r 0 then dLst mt po r c ++ [gOf mt c] else dLst mt po r c) := h
    split at h2
    · rcases List.mem_append.1 h2 with q | q
      · obtain ⟨a, q1, q2⟩ := dLst_mem c q; exact ⟨a, by omega, q2⟩
      · exact ⟨c, by omega, List.mem_singleton.1 q⟩
    · obtain ⟨a, q1, q2⟩ := dLst_mem c h2; exact ⟨a, by omega, q2⟩
theorem gd_mem {α : Type} {l : List α} {k : Nat} {d : α} (h : k < l.length) : l.getD k d ∈ l := by
  rw [List.getD_eq_getElem?_getD, List.getElem?_eq_getElem h]
  exact List.getElem_mem h
theorem dLst_mbr {mt po : Nat → Nat} {r c l : Nat} (h : ∀ j, j < 12 → mt j < 2 ^ 12) (hc : c ≤ 12) (hl : l < (dLst mt po r c).length) : MBR ((dLst mt po r c).getD l 0) := by
  obtain ⟨a, q1, q2⟩ := dLst_mem c (gd_mem (d := 0) hl)
  rw [q2]
  exact gOf_mbr h (by omega)
/-- the members of a letter; the letter -/
def mmb (cnt : Nat) (mt po : Nat → Nat) (rr : Nat → Nat) (pd : Nat → Bool) (kl : Nat → Nat → KL) (i l : Nat) : Nat := if pd i = true then (kl i l).2.1 else (dLst mt po (rr i) cnt).getD l 0
noncomputable def lrs (T : Nat → List Int32) (to : Nat → Bool) (ent : Nat → EntN) (cnt : Nat) (mt po : Nat → Nat) (b st : Nat) (rt rr : Nat → Nat) (pd : Nat → Bool) (kl : Nat → Nat → KL) (i l : Nat) : LRs := if pd i = true then .inl ((kl i l).1, (kl i l).2.2.1, (kl i l).2.2.2) else ltr T to ent b st (rt i) ((dLst mt po (rr i) cnt).getD l 0)
def lcd (r : LRs) : Int32 := match r with
  | .inl _ => 0
  | .inr q => q.1
/-- the letter lies at a -/
def DA (V : aV) (a g : Nat) (r : LRs) : Prop := match r with
  | .inl x => LT V a x.1 (nI g) 0 (nI x.2.1) x.2.2
  | .inr q => a = 28 ∧ DR V g (.inr q)
theorem DA.f {V : aV} {a g : Nat} {r : LRs} (h : DA V a g r) : (Sh.1 a).1 = 4 ∧ V a 1 = .int (nI g) ∧ V a 2 = .int (lcd r) := by
  cases r with
  | inl x => exact ⟨h.1, h.2.2.2.1, h.2.2.2.2.1⟩
  | inr q => obtain ⟨rfl, h1, h2, h3⟩ := h; exact ⟨sh_28, h1, h2⟩
theorem DA.il {V : aV} {a g : Nat} {r : LRs} (h : DA V a g r) (e : lcd r = 0) : ∃ x, r = .inl x ∧ LT V a x.1 (nI g) 0 (nI x.2.1) x.2.2 := by
  cases r with
  | inl x => exact ⟨x, rfl, h⟩
  | inr q => exact absurd e h.2.2.2.1
theorem DA.ir {V : aV} {a g : Nat} {r : LRs} (h : DA V a g r) (e : ¬ lcd r = 0) : ∃ q, r = .inr q ∧ DR V g (.inr q) := by
  cases r with
  | inl x => exact absurd rfl e
  | inr q => exact ⟨q, rfl, h.2⟩
theorem BE.br {V : aV} {en : Nat → Nat} {sp : Nat} {ent : Nat → EntN} {cnt : Nat} (h : BE V en sp (fun k => encE (ent k)) cnt) (hB : BF V) (hE : ∀ k, k < 12 → EB (ent k)) : BR V en ent := ⟨hB.1, fun k hk => by
  obtain ⟨q1, q2, q3, q4⟩ := h.1 k hk
  exact ⟨q1, by have := q2.out; omega, q3, hE k hk⟩⟩
set_option maxHeartbeats 4000000 in
theorem ct_findO2 {V : aV} {q cnt l : Nat} {tl : Nat → Nat} {T : Nat → List Int32} {to : Nat → Bool} {w : Nat → List Int32} {vl : Nat → Nat} {s : PS} {en : Nat → Nat} {ent : Nat → EntN} {b st g a : Nat} (hN : RN V q cnt) (h4 : V q 4 = .int 0) (h2 : V q 2 = .int (nI a)) (hl : l < 12) (hF : BF V) (hd : V 87 l = .int (nI g)) (hM : MB V) (hB : HB V) (hD : HD V w vl) (hR : BR V en ent) (hC : PC V) (hT : PT V tl T to (jpO T to)) (hP : PW V s) (hb0 : V 198 0 = .int (nI b)) (hb1 : V 198 1 = .int (nI st)) (hb : b < 2 ^ 31) (hst : st < 2 ^ 31) (hg : MBR g) (hK : TKS T to) (ha : a < 8) : CT mX11_findLetter 8 0 0 [.ref 0, .ref q, .int (nI l)] Sh V (fun v S' V' => some (.ref 28) = v ∧ Sh = S' ∧ DR V' g (ltr T to ent b st a g) ∧ (∃ s', PW V' s') ∧ (∃ w' vl', HD V' w' vl') ∧ FrC V V') aNo := by
  refine CT_of (by decide +kernel) (Nat.le_of_ble_eq_true rfl) ?_
  show R _ _ _ _ _ _ _ _ 0 [some (.ref 0), some (.ref q), some (.int (nI l))] [] _ _
  have r1 := hN.1
  have m2 := hM.2.2.1
  refine R_aload_1 dX11_findLetter_0 ?_
  refine gfX11_245 rfl dX11_findLetter_1 r1 h4 ?_
  refine R_if_eq 24 dX11_findLetter_4 (by decide) (fun c4 => ?_) (fun c4 => absurd rfl c4)
  refine R_aload_0 dX11_findLetter_24 ?_
  refine R_aload_1 dX11_findLetter_25 ?_
  refine gfX11_190 rfl dX11_findLetter_26 r1 h2 ?_
  refine R_aload_0 dX11_findLetter_29 ?_
  refine gfX11_26 rfl dX11_findLetter_30 sh_0 m2 ?_
  refine R_iload_2 dX11_findLetter_33 ?_
  refine R_callVN_e (T := mX11_findLetter) (T' := mX1_dueAt) (As := [_]) (ci := 1) okX1_dueAt mlX11_254 rfl (by decide) sh_74 (ct_dueAt hF hl hd) rfl (by decide) (by decide) (Nat.le_of_ble_eq_true rfl) dX11_findLetter_34 ?_
  refine R_callV (T := mX11_findLetter) (T' := mX11_compose) (As := [_, _]) (ci := 11) okX11_compose mlX11_229 rfl (by decide) sh_0 (ct_comp hM hB hD hR hC hT hP hb0 hb1 hb hst hg hK ha) rfl (by decide) (by decide) (Nat.le_of_ble_eq_true rfl) dX11_findLetter_37 (fun v9 S9 V9 h9 => ?_) (fun E S9 V9 h9 => h9.elim)
  obtain ⟨rfl, rfl, h9⟩ := h9
  refine R_aret rfl dX11_findLetter_40 ⟨rfl, rfl, h9⟩

/-! what is always so of the state -/
abbrev okC (c : Int32) : Prop := 32 ≤ c.toInt ∧ c.toInt ≤ 126
def EO (x : EntN) : Prop := EB x ∧ x.2.1.length ≤ 12 ∧ (∀ c ∈ x.1, okC c) ∧ ∀ c ∈ x.2.1, okC c
def MTO (mt : Nat → Nat) (cnt : Nat) : Prop := (∀ j, j < 12 → mt j < 2 ^ 12) ∧ ∀ i j, i < 12 → j < 12 → (mt i).testBit j = true → i < cnt ∧ j < cnt ∧ i ≠ j ∧ (mt j).testBit i = true
def KO (x : KL) : Prop := x.1.length ≤ 160 ∧ (∀ c ∈ x.1, okC c) ∧ MBR x.2.1 ∧ x.2.2.1 = wgt x.1.length (bcn x.2.1 12) ∧ ∃ c, c < 2 ^ 31 ∧ x.2.2.2 = nI c
def SOK (L : List Int32) (T : Nat → List Int32) (to : Nat → Bool) (ent : Nat → EntN) (cnt : Nat) (mt po : Nat → Nat) (b st pa n : Nat) (rt rr : Nat → Nat) (pd : Nat → Bool) (kn : Nat → Nat) (kl : Nat → Nat → KL) : Prop :=
  (L.length ≤ 96 ∧ ∀ c ∈ L, okC c) ∧ (TKS T to ∧ ∀ k, (T k).length ≤ 96 ∧ ∀ c ∈ T k, okC c) ∧ (cnt ≤ 12 ∧ (∀ k, k < 12 → EO (ent k)) ∧ MTO mt cnt ∧ ∀ k, k < 12 → po k < 2 ^ 8) ∧ (b ≤ 1000000000 ∧ st ≤ 1000000000 ∧ pa < 2 ^ 31) ∧ n ≤ 8 ∧ ∀ i, i < 8 → rt i < 8 ∧ rr i < 8 ∧ kn i ≤ 12 ∧ (pd i = false → kn i = 0) ∧ (n ≤ i → pd i = false) ∧ ∀ j, j < kn i → KO (kl i j)
section FND
variable {V : aV} {L : List Int32} {T : Nat → List Int32} {to : Nat → Bool} {ent : Nat → EntN} {cnt : Nat} {mt po : Nat → Nat} {b st pa n : Nat} {rt rr : Nat → Nat} {pd : Nat → Bool} {kn : Nat → Nat} {kl : Nat → Nat → KL}
theorem mmb_mbr (hS : SOK L T to ent cnt mt po b st pa n rt rr pd kn kl) {i l : Nat} (hi : i < 8) (hl : l < lcn mt po cnt kn pd rr i) : MBR (mmb cnt mt po rr pd kl i l) := by
  unfold mmb
  unfold lcn at hl
  by_cases q : pd i = true
  · rw [if_pos q] at hl ⊢
    exact ((hS.2.2.2.2.2 i hi).2.2.2.2.2 l hl).2.2.1
  · rw [if_neg q] at hl ⊢
    exact dLst_mbr hS.2.2.1.2.2.1.1 hS.2.2.1.1 hl
set_option maxHeartbeats 4000000 in
theorem ct_find (hI : CI V L T to ent cnt mt po b st pa n rt rr pd kn kl) (hS : SOK L T to ent cnt mt po b st pa n rt rr pd kn kl) {i l : Nat} (hi : i < 8) (hl : l < lcn mt po cnt kn pd rr i) (hd : pd i = false → DLI V (dLst mt po (rr i) cnt)) :
    CT mX11_findLetter 8 0 0 [.ref 0, .ref (200 + 38 * i), .int (nI l)] Sh V (fun v S' V' => ∃ a : Nat, some (.ref a) = v ∧ Sh = S' ∧ DA V' a (mmb cnt mt po rr pd kl i l) (lrs T to ent cnt mt po b st rt rr pd kl i l) ∧ (a = 28 ∨ 199 < a) ∧ (a = 28 → pd i = false) ∧ CI V' L T to ent cnt mt po b st pa n rt rr pd kn kl ∧ FrX V V') aNo := by
  obtain ⟨⟨a1, a2, a3, a4, a5, a6, a7⟩, ⟨b1, ⟨en, sp, b2⟩, b3, b4⟩, ⟨⟨tl, sp2, c1⟩, c2, c3, ⟨w, vl, c4⟩, s, c5⟩, d1, d2⟩ := id hI
  obtain ⟨r1, r2, r3, r4, r5, r6, r7⟩ := d1 i hi
  have hl12 := lcn_le (mt := mt) (po := po) d1 hS.2.2.1.1 hi
  cases q : pd i with
  | true =>
    rw [q, bI_t rfl] at r3
    have hk : l < kn i := by unfold lcn at hl; rw [if_pos q] at hl; exact hl
    refine CT_mono (ct_findP (l := l) r2 r3 (by omega)) (fun v S' V' h => ?_) (fun _ _ _ h => h)
    obtain ⟨h1, h2, h3⟩ := h
    subst h3
    have ha : 199 < 200 + 38 * i + 2 + 3 * l := by omega
    have hb : ¬ 200 + 38 * i + 2 + 3 * l = 28 := by omega
    refine ⟨200 + 38 * i + 2 + 3 * l, h1, h2, ?_, Or.inr ha, fun z => absurd z hb, hI, FrX.refl⟩
    unfold lrs mmb
    rw [if_pos q, if_pos q]
    exact (d2 i hi l (by omega)).2 hk
  | false =>
    rw [q, bI_f (by decide)] at r3
    have hk : l < (dLst mt po (rr i) cnt).length := by unfold lcn at hl; rw [if_neg (by rw [q]; decide)] at hl; exact hl
    refine CT_mono (ct_findO2 (l := l) r2 r3 r4 (by omega) b1 (hd q l hk) a1 c3 c4 (b2.br b1 (fun k hk => (hS.2.2.1.2.1 k hk).1)) c2 c1.1 c5 a4 a5 (by have := hS.2.2.2.1.1; omega) (by have := hS.2.2.2.1.2.1; omega) (dLst_mbr hS.2.2.1.2.2.1.1 hS.2.2.1.1 hk) hS.2.1.1 r6) (fun v S' V' h => ?_) (fun _ _ _ h => h)
    obtain ⟨h1, h2, h3, h4, h5, h6⟩ := h
    refine ⟨28, h1, h2, ?_, Or.inl rfl, fun _ => rfl, hI.frc h6 h5 h4, fun b hb => h6.1 b (by omega) (by omega) (by omega)⟩
    unfold lrs mmb
    rw [if_neg (by rw [q]; decide), if_neg (by rw [q]; decide)]
    cases e : ltr T to ent b st (rt i) ((dLst mt po (rr i) cnt).getD l 0) with
    | inl x => rw [e] at h3; exact h3
    | inr x => rw [e] at h3; exact ⟨rfl, h3⟩
end FND
