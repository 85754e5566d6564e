/-! ===== the law: its addresses, read ===== -/
theorem tW_y {L : List Int32} {m p : Nat} {acc : List Int32} {c : Int32} (h : L.getD p 0 = c) (hp : p < L.length) (hc : ¬ c = 44) : tWord L (m + 1) p acc = tWord L m (p + 1) (acc ++ [c]) := by
  show (if _ then _ else _) = _
  rw [if_pos ⟨hp, by rw [h]; exact hc⟩, h]
theorem tW_n {L : List Int32} {m p : Nat} {acc : List Int32} (h : L.getD p 0 = 44) : tWord L (m + 1) p acc = (p, acc) := if_neg (fun z => z.2 h)
theorem dgI {d : Nat} : nI (48 + d) - 48 = nI d := by
  rw [show (48 : Int32) = nI 48 from rfl, pk_sub (by omega), show 48 + d - 48 = d by omega]
theorem tN_0 {L : List Int32} {hi : Int32} {h m p d : Nat} (e : L.getD p 0 = nI (48 + d)) (hh : hi = nI h) (h1 : 48 + d ≤ h) (h2 : h < 128) : tNum L hi (m + 1) p (-1) = tNum L hi m (p + 1) (nI d) := by
  subst hh
  show (if _ then _ else _) = _
  rw [e, if_pos ⟨nI_le (a := 48) (by omega) (by omega), nI_le h1 (by omega)⟩, if_pos rfl, dgI]
  congr 1
  exact Int32.zero_add _
theorem tN_a {L : List Int32} {hi : Int32} {h m p d a : Nat} (e : L.getD p 0 = nI (48 + d)) (hh : hi = nI h) (h1 : 48 + d ≤ h) (h2 : h < 128) (ha : a < 2 ^ 20) : tNum L hi (m + 1) p (nI a) = tNum L hi m (p + 1) (nI (a * 10 + d)) := by
  subst hh
  show (if _ then _ else _) = _
  rw [e, if_pos ⟨nI_le (a := 48) (by omega) (by omega), nI_le h1 (by omega)⟩, if_neg (m1_ne (by omega)), dgI, show (10 : Int32) = nI 10 from rfl, pk_mul, nI_add]
theorem tN_e {L : List Int32} {hi : Int32} {m p : Nat} {acc : Int32} (e : ¬ 48 ≤ L.getD p 0) : tNum L hi (m + 1) p acc = (p, acc) := if_neg (fun z => e z.1)
/-- the points: one digit or two -/
def ptL (q : Nat) : List Int32 := (if 9 < q then [nI (48 + q / 10)] else []) ++ [nI (48 + q % 10)]
def lnL (o t k h z q : Nat) : List Int32 := [nI o, nI t, 44, nI (97 + k), 44] ++ ([nI (48 + h / 100), nI (48 + h / 10 % 10), nI (48 + h % 10), 44, nI (48 + z), 44] ++ ptL q)
theorem ptL_num {L : List Int32} {q : Nat} (hq : q < 100) (hL : ∀ j, j < (ptL q).length → L.getD (11 + j) 0 = (ptL q).getD j 0) (hn : L.length = 11 + (ptL q).length) : tNum L 57 2 11 (-1) = (L.length, nI q) := by
  unfold ptL at hL hn
  by_cases c : 9 < q
  · rw [if_pos c] at hL hn
    have e0 : L.getD 11 0 = nI (48 + q / 10) := hL 0 (by simp)
    have e1 : L.getD 12 0 = nI (48 + q % 10) := hL 1 (by simp)
    rw [tN_0 e0 (hi := 57) (h := 57) rfl (by omega) (by omega), tN_a e1 (hi := 57) (h := 57) rfl (by omega) (by omega) (by omega)]
    show (13, nI (q / 10 * 10 + q % 10)) = _
    rw [hn, show q / 10 * 10 + q % 10 = q by omega]
    rfl
  · rw [if_neg c] at hL hn
    have e0 : L.getD 11 0 = nI (48 + q % 10) := hL 0 (by simp)
    rw [tN_0 e0 (hi := 57) (h := 57) rfl (by omega) (by omega)]
    have ez : L.getD 12 0 = 0 := by
      simp only [List.nil_append, List.length_cons, List.length_nil] at hn
      simp [List.getD_eq_getElem?_getD, hn]
    rw [tN_e (by rw [ez]; decide)]
    rw [hn, show q % 10 = q by omega]
    rfl
theorem aRd_lnL {o t k h z q : Nat} (ho : oneOK o) (ht : twoOK t) (hk : k < 9) (hh : h < 1000) (hz : z < 6) (hq : q < 100) : (aRd (lnL o t k h z q)).2 = some (encE ([nI o, nI t], [nI (97 + k)], h, z, q)) := by
  have o1 : 97 ≤ o ∧ o ≤ 99 := by
    unfold oneOK at ho
    simp only [List.mem_cons, List.not_mem_nil, or_false] at ho
    omega
  have t1 : 65 ≤ t ∧ t ≤ 99 := by
    unfold twoOK at ht
    simp only [List.mem_cons, List.not_mem_nil, or_false] at ht
    omega
  have n44 : ∀ c : Nat, 45 ≤ c → c < 200 → ¬ nI c = 44 := fun c h1 h2 e => by
    have := (nI_eq (a := c) (b := 44) (by omega) (by decide)).1 e
    omega
  have hlen : (lnL o t k h z q).length = 11 + (ptL q).length := by
    unfold lnL
    simp only [List.length_append, List.length_cons, List.length_nil]
    omega
  have hpt : 1 ≤ (ptL q).length := by unfold ptL; rw [List.length_append]; simp
  have hP := ptL_num (L := lnL o t k h z q) hq (fun j _ => by
    rw [Nat.add_comm]
    rfl) hlen
  have g : ∀ p c, p < 11 → (lnL o t k h z q).getD p 0 = c → (lnL o t k h z q).getD p 0 = c := fun _ _ _ e => e
  generalize hL : lnL o t k h z q = L at *
  have g0 : L.getD 0 0 = nI o := by rw [← hL]; rfl
  have g1 : L.getD 1 0 = nI t := by rw [← hL]; rfl
  have g2 : L.getD 2 0 = 44 := by rw [← hL]; rfl
  have g3 : L.getD 3 0 = nI (97 + k) := by rw [← hL]; rfl
  have g4 : L.getD 4 0 = 44 := by rw [← hL]; rfl
  have g5 : L.getD 5 0 = nI (48 + h / 100) := by rw [← hL]; rfl
  have g6 : L.getD 6 0 = nI (48 + h / 10 % 10) := by rw [← hL]; rfl
  have g7 : L.getD 7 0 = nI (48 + h % 10) := by rw [← hL]; rfl
  have g8 : L.getD 8 0 = 44 := by rw [← hL]; rfl
  have g9 : L.getD 9 0 = nI (48 + z) := by rw [← hL]; rfl
  have g10 : L.getD 10 0 = 44 := by rw [← hL]; rfl
  have w1 : tWord L 12 0 [] = (2, [nI o, nI t]) := by
    rw [tW_y g0 (by omega) (n44 o (by omega) (by omega)), tW_y g1 (by omega) (n44 t (by omega) (by omega)), tW_n g2]
    rfl
  have w2 : tWord L 12 3 [] = (4, [nI (97 + k)]) := by
    rw [tW_y g3 (by omega) (n44 _ (by omega) (by omega)), tW_n g4]
    rfl
  have u1 : tNum L 57 3 5 (-1) = (8, nI h) := by
    rw [tN_0 g5 (hi := 57) (h := 57) rfl (by omega) (by omega), tN_a g6 (hi := 57) (h := 57) rfl (by omega) (by omega) (by omega), tN_a g7 (hi := 57) (h := 57) rfl (by omega) (by omega) (by omega)]
    show (8, nI ((h / 100 * 10 + h / 10 % 10) * 10 + h % 10)) = _
    rw [show (h / 100 * 10 + h / 10 % 10) * 10 + h % 10 = h by omega]
  have u2 : tNum L 53 1 9 (-1) = (10, nI z) := by
    rw [tN_0 g9 (hi := 53) (h := 53) rfl (by omega) (by omega)]
    rfl
  have m1 : ∀ x : Nat, x < 2 ^ 31 → ¬ nI x = -1 := fun x hx => m1_ne hx
  have A3 : aNum3 L (nI h) (nI z) 11 = (L.length, some (nI h, nI z, nI q)) := by
    unfold aNum3
    rw [hP, if_neg (m1 q (by omega))]
  have A2 : aNum2 L (nI h) 9 = (L.length, some (nI h, nI z, nI q)) := by
    unfold aNum2
    rw [u2, if_neg (m1 z (by omega)), if_neg (not_not_intro ⟨by show 10 < L.length; omega, g10⟩)]
    exact A3
  have A1 : aNums L 5 = (L.length, some (nI h, nI z, nI q)) := by
    unfold aNums
    rw [u1, if_neg (m1 h (by omega)), if_neg (not_not_intro ⟨by show 8 < L.length; omega, g8⟩)]
    exact A2
  have R4 : aRd4 L [nI o, nI t] [nI (97 + k)] 5 = (L.length, some ([nI o, nI t], [nI (97 + k)], nI h, nI z, nI q)) := by
    unfold aRd4
    rw [A1]
    dsimp only
    rw [if_pos (Nat.le_refl _)]
  have R3 : aRd3 L [nI o, nI t] 3 = (L.length, some ([nI o, nI t], [nI (97 + k)], nI h, nI z, nI q)) := by
    unfold aRd3
    rw [w2, if_neg (not_not_intro (by show 0 < 1; decide)), if_neg (not_not_intro ⟨by show 4 < L.length; omega, g4⟩)]
    exact R4
  unfold aRd
  rw [w1, if_neg (not_not_intro (by show 0 < 2; decide)), if_neg (not_not_intro ⟨by show 2 < L.length; omega, g2⟩)]
  show (aRd3 L [nI o, nI t] 3).2 = _
  rw [R3]
  rfl
theorem EO_lnL {o t k h z q : Nat} (ho : oneOK o) (ht : twoOK t) (hk : k < 9) (hh : h < 1000) (hz : z < 6) (hq : q < 100) : EO ([nI o, nI t], [nI (97 + k)], h, z, q) := by
  have o1 : 97 ≤ o ∧ o ≤ 99 := by
    unfold oneOK at ho
    simp only [List.mem_cons, List.not_mem_nil, or_false] at ho
    omega
  have t1 : 65 ≤ t ∧ t ≤ 99 := by
    unfold twoOK at ht
    simp only [List.mem_cons, List.not_mem_nil, or_false] at ht
    omega
  refine ⟨⟨by show 2 ≤ 12; decide, hh, hz, hq⟩, by show 1 ≤ 12; decide, fun c hc => ?_, fun c hc => ?_⟩
  · simp only [List.mem_cons, List.not_mem_nil, or_false] at hc
    rcases hc with rfl | rfl
    · exact okC_n (by omega) (by omega)
    · exact okC_n (by omega) (by omega)
  · simp only [List.mem_cons, List.not_mem_nil, or_false] at hc
    subst hc
    exact okC_n (by omega) (by omega)
