/-! ===== the law's three templates, and the texts that they give ===== -/
def tp0 : List Int32 := [60, 110, 62, 58, 60, 115, 62, 58, 60, 104, 62, 58, 60, 122, 62, 58, 60, 112, 62, 58, 60, 109, 62]
def tp1 : List Int32 := [91, 109, 61, 49, 63, 64, 48, 124, 91, 112, 62, 57, 48, 63, 80, 60, 112, 62, 124, 72, 60, 104, 62, 93, 93, 46]
def tp2 : List Int32 := [64, 49, 64, 49]
noncomputable def okT (L : List Int32) (p : Nat) (f : (Nat → Option Nat) → Bool) : Bool := match rAll L 96 0 [] (fun _ => none) with
  | .inl _ => false
  | .inr r => r.1 == p && r.2.1.isEmpty && f r.2.2
theorem okT_of {L : List Int32} {p : Nat} {f : (Nat → Option Nat) → Bool} (h : okT L p f = true) : rAll L 96 0 [] (fun _ => none) = .inr (p, [], jmOf L) ∧ f (jmOf L) = true := by
  unfold okT at h
  unfold jmOf
  cases e : rAll L 96 0 [] (fun _ => none) with
  | inl q => rw [e] at h; exact absurd h Bool.false_ne_true
  | inr r =>
    obtain ⟨a, b, c⟩ := r
    rw [e] at h
    dsimp only at h ⊢
    rw [Bool.and_eq_true, Bool.and_eq_true, beq_iff_eq, List.isEmpty_iff] at h
    obtain ⟨⟨rfl, rfl⟩, h⟩ := h
    exact ⟨rfl, h⟩
theorem tp0_ok : okT tp0 23 (fun _ => true) = true := by decide +kernel
theorem tp1_ok : okT tp1 26 (fun j => j 0 == some 8 && j 7 == some 25 && j 8 == some 19 && j 18 == some 24) = true := by decide +kernel
theorem tp2_ok : okT tp2 4 (fun _ => true) = true := by decide +kernel
def lT (n : Nat) : List Int32 := if n = 0 then tp0 else if n = 1 then tp1 else if n = 2 then tp2 else []
def lTo (n : Nat) : Bool := decide (n < 3)
theorem tp1_hE : hE tp1 0 = 4 := by decide +kernel
theorem tp1_hN : hN tp1 0 = 1 := by decide +kernel
theorem tp1_hE8 : hE tp1 8 = 13 := by decide +kernel
theorem tp1_hN8 : hN tp1 8 = 90 := by decide +kernel
theorem tp1_j : jmOf tp1 0 = some 8 ∧ jmOf tp1 7 = some 25 ∧ jmOf tp1 8 = some 19 ∧ jmOf tp1 18 = some 24 := by
  have h := (okT_of tp1_ok).2
  simp only [Bool.and_eq_true, beq_iff_eq] at h
  exact ⟨h.1.1.1, h.1.1.2, h.1.2, h.2⟩
def allW (w : Nat → List Int32) : List Int32 := w 0 ++ [58] ++ w 1 ++ [58] ++ w 2 ++ [58] ++ w 3 ++ [58] ++ w 4 ++ [58] ++ w 5
def someW (w : Nat → List Int32) (vl : Nat → Nat) : List Int32 := (if vl 5 = 1 then allW w else if 90 < vl 4 then [80] ++ w 4 else [72] ++ w 2) ++ [46]
def txW (t : Nat) (w : Nat → List Int32) (vl : Nat → Nat) : List Int32 := if t = 0 then allW w else if t = 1 then someW w vl else someW w vl ++ someW w vl
section GOT
variable {jp : Nat → Nat → Option Nat} {w : Nat → List Int32} {vl : Nat → Nat} {d n p : Nat} {x : List Int32}
theorem sF {f : Nat} (h : ¬ (lT n).length ≤ p) (c : (lT n).getD p 0 = 60) (e : fdx (lT n) p = f) (l : x.length + (w f).length ≤ 160) : go lT lTo jp w vl d n p x = go lT lTo jp w vl d n (p + 3) (x ++ w f) := by
  rw [go_f1 h c (by rw [e]; omega), e]
theorem sS {ch : Int32} (h : ¬ (lT n).length ≤ p) (e : (lT n).getD p 0 = ch) (c : ¬ ch = 64 ∧ ¬ ch = 60 ∧ ¬ ch = 91 ∧ ¬ ch = 124 ∧ ¬ ch = 93) (l : x.length + 1 ≤ 160) : go lT lTo jp w vl d n p x = go lT lTo jp w vl d n (p + 1) (x ++ [ch]) := by
  rw [go_s1 h (by rw [e]; exact c.1) (by rw [e]; exact c.2.1) (mv_s (by rw [e]; exact c.2.2.1) (by rw [e]; exact c.2.2.2.1) (by rw [e]; exact c.2.2.2.2)) (by omega), e]
theorem go_all0 (hx : x.length + (allW w).length ≤ 160) : go lT lTo jp w vl d 0 0 x = .inl (x ++ allW w) := by
  unfold allW at hx ⊢
  simp only [List.length_append, List.length_cons, List.length_nil] at hx
  rw [sF (f := 0) (by decide) (by decide) (by decide +kernel) (by omega)]
  rw [sS (ch := 58) (by decide) (by decide) (by decide) (by simp only [List.length_append, List.length_cons, List.length_nil]; omega)]
  rw [sF (f := 1) (by decide) (by decide) (by decide +kernel) (by simp only [List.length_append, List.length_cons, List.length_nil]; omega)]
  rw [sS (ch := 58) (by decide) (by decide) (by decide) (by simp only [List.length_append, List.length_cons, List.length_nil]; omega)]
  rw [sF (f := 2) (by decide) (by decide) (by decide +kernel) (by simp only [List.length_append, List.length_cons, List.length_nil]; omega)]
  rw [sS (ch := 58) (by decide) (by decide) (by decide) (by simp only [List.length_append, List.length_cons, List.length_nil]; omega)]
  rw [sF (f := 3) (by decide) (by decide) (by decide +kernel) (by simp only [List.length_append, List.length_cons, List.length_nil]; omega)]
  rw [sS (ch := 58) (by decide) (by decide) (by decide) (by simp only [List.length_append, List.length_cons, List.length_nil]; omega)]
  rw [sF (f := 4) (by decide) (by decide) (by decide +kernel) (by simp only [List.length_append, List.length_cons, List.length_nil]; omega)]
  rw [sS (ch := 58) (by decide) (by decide) (by decide) (by simp only [List.length_append, List.length_cons, List.length_nil]; omega)]
  rw [sF (f := 5) (by decide) (by decide) (by decide +kernel) (by simp only [List.length_append, List.length_cons, List.length_nil]; omega)]
  rw [go_end (by decide)]
  simp only [List.append_assoc]
theorem jp1 : jpO lT lTo 1 = jmOf tp1 := rfl
theorem go_dot (l : x.length + 1 ≤ 160) : go lT lTo jp w vl d 1 25 x = .inl (x ++ [46]) := by
  rw [sS (ch := 46) (by decide) (by decide) (by decide) l, go_end (by decide)]
theorem go_some1 (hx : x.length + (someW w vl).length ≤ 160) (h5 : vl 5 < 2 ^ 31) (h4 : vl 4 < 2 ^ 31) : go lT lTo (jpO lT lTo) w vl (d + 1) 1 0 x = .inl (x ++ someW w vl) := by
  obtain ⟨j0, j7, j8, j18⟩ := tp1_j
  have e5 : hVal vl ((lT 1).getD (0 + 1) 0) = nI (vl 5) := by
    show hVal vl 109 = _
    unfold hVal
    rw [if_neg (by decide), show (fIx 109).toNatClampNeg = 5 by decide +kernel]
  have e4 : hVal vl ((lT 1).getD (8 + 1) 0) = nI (vl 4) := by
    show hVal vl 112 = _
    unfold hVal
    rw [if_neg (by decide), show (fIx 112).toNatClampNeg = 4 by decide +kernel]
  have m0 := mv_a (T := lT) (jp := jpO lT lTo) (vl := vl) (n := 1) (p := 0) (by decide)
  have m8 := mv_a (T := lT) (jp := jpO lT lTo) (vl := vl) (n := 1) (p := 8) (by decide)
  have b7 := mv_b (T := lT) (jp := jpO lT lTo) (vl := vl) (n := 1) (p := 7) (by decide)
  have b18 := mv_b (T := lT) (jp := jpO lT lTo) (vl := vl) (n := 1) (p := 18) (by decide)
  have r23 := mv_e (T := lT) (jp := jpO lT lTo) (vl := vl) (n := 1) (p := 23) (by decide)
  have r24 := mv_e (T := lT) (jp := jpO lT lTo) (vl := vl) (n := 1) (p := 24) (by decide)
  rw [e5, jp1, j0, show hE (lT 1) 0 = 4 from tp1_hE, show hN (lT 1) 0 = 1 from tp1_hN] at m0
  rw [e4, jp1, j8, show hE (lT 1) 8 = 13 from tp1_hE8, show hN (lT 1) 8 = 90 from tp1_hN8] at m8
  rw [jp1, j7] at b7
  rw [jp1, j18] at b18
  have c0 : hld (nI (vl 5)) ((lT 1).getD (0 + 2) 0) 1 ↔ vl 5 = 1 := by
    show hld (nI (vl 5)) 61 1 ↔ _
    unfold hld
    rw [if_pos rfl, show (1 : Int32) = nI 1 from rfl, nI_eq h5 (by decide)]
  have c8 : hld (nI (vl 4)) ((lT 1).getD (8 + 2) 0) 90 ↔ 90 < vl 4 := by
    show hld (nI (vl 4)) 62 90 ↔ _
    unfold hld
    rw [if_neg (by decide), if_neg (by decide), show (90 : Int32) = nI 90 from rfl, nI_leI h4 (by decide)]
    omega
  unfold someW at hx ⊢
  by_cases q : vl 5 = 1
  · rw [if_pos q] at hx ⊢
    rw [if_pos (c0.2 q)] at m0
    simp only [List.length_append, List.length_cons, List.length_nil] at hx
    rw [go_mv (by decide) (by decide) (by decide) m0 (by decide)]
    rw [go_at3 (by decide) (by decide) (by decide +kernel) (show go lT lTo (jpO lT lTo) w vl d (dgt (lT 1) (4 + 1)) 0 x = .inl (x ++ allW w) from by
      rw [show dgt (lT 1) (4 + 1) = 0 by decide +kernel]
      exact go_all0 (by omega))]
    rw [go_mv (by decide) (by decide) (by decide) b7 (by decide)]
    rw [show (some 25).getD 0 = 25 from rfl, go_dot (by simp only [List.length_append]; omega), List.append_assoc]
  · rw [if_neg q] at hx ⊢
    rw [if_neg (fun z => q (c0.1 z))] at m0
    rw [go_mv (by decide) (by decide) (by decide) m0 (by decide), show (some 8).getD 0 = 8 from rfl]
    by_cases q2 : 90 < vl 4
    · rw [if_pos q2] at hx ⊢
      rw [if_pos (c8.2 q2)] at m8
      simp only [List.length_append, List.length_cons, List.length_nil] at hx
      rw [go_mv (by decide) (by decide) (by decide) m8 (by decide)]
      rw [sS (ch := 80) (by decide) (by decide) (by decide) (by omega)]
      rw [sF (f := 4) (by decide) (by decide) (by decide +kernel) (by simp only [List.length_append, List.length_cons, List.length_nil]; omega)]
      rw [go_mv (by decide) (by decide) (by decide) b18 (by decide), show (some 24).getD 0 = 24 from rfl]
      rw [go_mv (by decide) (by decide) (by decide) r24 (by decide)]
      rw [go_dot (by simp only [List.length_append, List.length_cons, List.length_nil]; omega)]
      simp only [List.append_assoc]
    · rw [if_neg q2] at hx ⊢
      rw [if_neg (fun z => q2 (c8.1 z))] at m8
      simp only [List.length_append, List.length_cons, List.length_nil] at hx
      rw [go_mv (by decide) (by decide) (by decide) m8 (by decide), show (some 19).getD 0 = 19 from rfl]
      rw [sS (ch := 72) (by decide) (by decide) (by decide) (by omega)]
      rw [sF (f := 2) (by decide) (by decide) (by decide +kernel) (by simp only [List.length_append, List.length_cons, List.length_nil]; omega)]
      rw [go_mv (by decide) (by decide) (by decide) r23 (by decide)]
      rw [go_mv (by decide) (by decide) (by decide) r24 (by decide)]
      rw [go_dot (by simp only [List.length_append, List.length_cons, List.length_nil]; omega)]
      simp only [List.append_assoc]
theorem go_tx {t : Nat} (ht : t < 3) (hx : (txW t w vl).length ≤ 160) (h5 : vl 5 < 2 ^ 31) (h4 : vl 4 < 2 ^ 31) : go lT lTo (jpO lT lTo) w vl 4 t 0 [] = .inl (txW t w vl) := by
  unfold txW at hx ⊢
  rcases (show t = 0 ∨ t = 1 ∨ t = 2 from by omega) with rfl | rfl | rfl
  · rw [if_pos rfl] at hx ⊢
    rw [go_all0 (by simp only [List.length_nil]; omega), List.nil_append]
  · rw [if_neg (by decide), if_pos rfl] at hx ⊢
    rw [go_some1 (d := 3) (by simp only [List.length_nil]; omega) h5 h4, List.nil_append]
  · rw [if_neg (by decide), if_neg (by decide)] at hx ⊢
    rw [List.length_append] at hx
    have d1 : dgt (lT 2) 0 = 1 := by decide +kernel
    have d2 : dgt (lT 2) (0 + 2) = 1 := by decide +kernel
    rw [go_at3 (d := 3) (by decide) (by decide) (by decide +kernel) (show go lT lTo (jpO lT lTo) w vl 3 (dgt (lT 2) 0) 0 [] = .inl ([] ++ someW w vl) from by
      rw [d1]; exact go_some1 (d := 2) (by simp only [List.length_nil]; omega) h5 h4)]
    rw [go_at3 (d := 3) (by decide) (by decide) (by decide +kernel) (show go lT lTo (jpO lT lTo) w vl 3 (dgt (lT 2) (0 + 2)) 0 ([] ++ someW w vl) = .inl ([] ++ someW w vl ++ someW w vl) from by
      rw [d2]; exact go_some1 (d := 2) (by simp only [List.length_append, List.length_nil]; omega) h5 h4)]
    rw [go_end (by decide), List.nil_append]
end GOT
