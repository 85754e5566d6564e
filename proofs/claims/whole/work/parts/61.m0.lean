/-! ===== MergePostModel: rows, where its arrays lie ===== -/
section MROWS
variable {T : aMt} {r mc ms : Nat} {Q : Option Value → aS → aV → Prop} {QX : String → aS → aV → Prop} {kc ks pc : Nat} {lv : List (Option Value)} {st : List Value} {S : aS} {V : aV}
theorem R_ialdE {a N n : Nat} {i x : Int32} (d : decode T.2.1 pc = .ok (.iaload, 1)) (hs : S.1 a = (14, N)) (e : i = nI n) (hn : n < N) (hN : N < 100000) (hv : V a n = .int x) (kk : R T r mc ms Q QX kc ks (pc + 1) lv (.int x :: st) S V) : R T r mc ms Q QX kc ks pc lv (.int i :: .ref a :: st) S V := by
  subst e
  exact R_iald d hs (vp_in_nI hn (by omega)) (nI_clamp (by omega)) hv kk
theorem R_zaldE {a N n : Nat} {i x : Int32} (d : decode T.2.1 pc = .ok (.baload, 1)) (hs : S.1 a = (15, N)) (e : i = nI n) (hn : n < N) (hN : N < 100000) (hv : V a n = .int x) (kk : R T r mc ms Q QX kc ks (pc + 1) lv (.int x :: st) S V) : R T r mc ms Q QX kc ks pc lv (.int i :: .ref a :: st) S V := by
  subst e
  exact R_zald d hs (vp_in_nI hn (by omega)) (nI_clamp (by omega)) hv kk
theorem R_iastE {a N n : Nat} {i x : Int32} (d : decode T.2.1 pc = .ok (.iastore, 1)) (hs : S.1 a = (14, N)) (e : i = nI n) (hn : n < N) (hN : N < 100000) (kk : R T r mc ms Q QX kc ks (pc + 1) lv st S (a_up V a n (.int x))) : R T r mc ms Q QX kc ks pc lv (.int x :: .int i :: .ref a :: st) S V := by
  subst e
  exact R_iast d hs (vp_in_nI hn (by omega)) (nI_clamp (by omega)) kk
theorem R_zastE {a N n : Nat} {i x : Int32} (d : decode T.2.1 pc = .ok (.bastore, 1)) (hs : S.1 a = (15, N)) (e : i = nI n) (hn : n < N) (hN : N < 100000) (hx : vp_nar .boolean x = x) (kk : R T r mc ms Q QX kc ks (pc + 1) lv st S (a_up V a n (.int x))) : R T r mc ms Q QX kc ks pc lv (.int x :: .int i :: .ref a :: st) S V := by
  subst e
  exact R_zast d hs (vp_in_nI hn (by omega)) (nI_clamp (by omega)) hx kk
end MROWS
theorem ix1 (c n p : Nat) : nI c * nI n + nI p = nI (c * n + p) := by rw [pk_mul, nI_add]
theorem ix2 (c d n p q : Nat) : nI c * (nI d * nI n + nI p) + nI q = nI (c * (d * n + p) + q) := by rw [ix1, pk_mul, nI_add]
/-- where its arrays lie -/
def mrL : List (Nat × Nat) := [(1, 505), (3, 506), (4, 507), (6, 508), (7, 509), (8, 510), (9, 511), (10, 512), (11, 513), (12, 514), (13, 515), (14, 516), (15, 517), (16, 518), (17, 519), (18, 520), (23, 521), (24, 522), (25, 523), (26, 524), (27, 525), (28, 526), (29, 527), (30, 528), (31, 529), (36, 530), (37, 531), (38, 532), (39, 533), (40, 534), (41, 535), (42, 536), (44, 537), (45, 538)]
def MR (V : aV) : Prop := ∀ q ∈ mrL, V 504 q.1 = .ref q.2
theorem MR.g {V : aV} {k a : Nat} (h : MR V) (m : (k, a) ∈ mrL) : V 504 k = .ref a := h (k, a) m
/-- its fields that are no arrays -/
def mrF : List Nat := [0, 2, 5, 19, 20, 21, 22, 32, 33, 34, 35, 43]
theorem mr_ne : ∀ k ∈ mrF, ∀ q ∈ mrL, q.1 ≠ k := by decide
theorem MR.u {V : aV} {k : Nat} {v : Value} (h : MR V) (hk : k ∈ mrF) : MR (a_up V 504 k v) := fun q hq => (a_up_ne (Or.inr (mr_ne k hk q hq))).trans (h q hq)
theorem MR.o {V : aV} {b k : Nat} {v : Value} (h : MR V) (hb : b ≠ 504) : MR (a_up V b k v) := fun q hq => (a_up_ne (Or.inl (Ne.symm hb))).trans (h q hq)
theorem MR.fr {V V' : aV} (h : MR V) (e : ∀ k, k ∉ mrF → V' 504 k = V 504 k) : MR V' := fun q hq => (e q.1 (fun z => mr_ne q.1 z q hq rfl)).trans (h q hq)
/-- a row of signs from o on -/
def RWS (V : aV) (a o : Nat) (L : List Int32) : Prop := ∀ j, j < L.length → V a (o + j) = .int (L.getD j 0)
theorem RWS.fr {V V' : aV} {a o : Nat} {L : List Int32} (h : RWS V a o L) (e : V' a = V a) : RWS V' a o L := fun j hj => by rw [e]; exact h j hj
/-- the line -/
def ML (V : aV) (L : List Int32) : Prop := V 504 2 = .int (nI L.length) ∧ (∀ j, j < L.length → V 505 j = .int (L.getD j 0)) ∧ L.length ≤ 96 ∧ ∀ c ∈ L, okC c
/-- the sign at a place; -1 behind the end -/
def lm (L : List Int32) (p : Nat) : Int32 := if p < L.length then L.getD p 0 else -1
theorem gd_0 {L : List Int32} {p : Nat} (h : ¬ p < L.length) : L.getD p 0 = 0 := by simp [List.getD_eq_getElem?_getD, Nat.le_of_not_lt h]
theorem lm_t {L : List Int32} {p : Nat} (h : p < L.length) : lm L p = L.getD p 0 := if_pos h
theorem lm_f {L : List Int32} {p : Nat} (h : ¬ p < L.length) : lm L p = -1 := if_neg h
/-- what holds neither of 0 nor of -1 holds of the one where it holds of the other -/
theorem lm_iff {L : List Int32} {p : Nat} (P : Int32 → Prop) (h0 : ¬ P 0) (h1 : ¬ P (-1)) : P (lm L p) ↔ P (L.getD p 0) := by
  by_cases h : p < L.length
  · rw [lm_t h]
  · rw [lm_f h, gd_0 h]; exact ⟨fun z => absurd z h1, fun z => absurd z h0⟩
theorem lm_eq {L : List Int32} {p : Nat} {c : Int32} (h0 : ¬ (0 : Int32) = c) (h1 : ¬ (-1 : Int32) = c) : lm L p = c ↔ L.getD p 0 = c := lm_iff (fun x => x = c) h0 h1
theorem lm_fd {L : List Int32} {p : Nat} : isFd (lm L p) ↔ isFd (L.getD p 0) := lm_iff isFd (by decide) (by decide)
theorem lm_dg {L : List Int32} {p : Nat} {hi : Int32} : isDg (lm L p) hi ↔ isDg (L.getD p 0) hi := lm_iff (fun x => isDg x hi) (fun z => absurd z.1 (by decide)) (fun z => absurd z.1 (by decide))
