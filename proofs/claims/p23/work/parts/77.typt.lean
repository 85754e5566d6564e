/-! ===== the law: what it types of an address ===== -/
def x1 (o t k : Nat) : Int64 := lN o ||| lN t <<< ((8 : Int32).toInt64 &&& 63) ||| 2883584 ||| (97 + lN k) <<< ((24 : Int32).toInt64 &&& 63) ||| 188978561024
def x2 (a b c z : Nat) : Int64 := 48 + lN a ||| (48 + lN b) <<< ((8 : Int32).toInt64 &&& 63) ||| (48 + lN c) <<< ((16 : Int32).toInt64 &&& 63) ||| 738197504 ||| (48 + lN z) <<< ((32 : Int32).toInt64 &&& 63) ||| 48378511622144
def x3 (d : Nat) : Int64 := 48 + lN d
def oneOK (o : Nat) : Prop := o ∈ [97, 98, 99]
def twoOK (t : Nat) : Prop := t ∈ [65, 66, 67, 97, 98, 99]
/-- the same, of a number that is worked out once -/
def fx (x : Int64) (k : Int64 → Bool) : Bool := match x.toBitVec.toNat with
  | 0 => k 0
  | n + 1 => k ⟨⟨BitVec.ofNat 64 (n + 1)⟩⟩
theorem fx_eq (x : Int64) (k : Int64 → Bool) : fx x k = k x := by
  unfold fx
  split
  · rename_i h
    congr 1
    apply Int64.toBitVec_inj.1
    apply BitVec.eq_of_toNat_eq
    rw [h]
    rfl
  · rename_i n h
    congr 1
    apply Int64.toBitVec_inj.1
    apply BitVec.eq_of_toNat_eq
    rw [h]
    show (n + 1) % 2 ^ 64 = n + 1
    have := x.toBitVec.isLt
    omega
def fi (x : Int32) (k : Int32 → Bool) : Bool := match x.toBitVec.toNat with
  | 0 => k 0
  | n + 1 => k ⟨⟨BitVec.ofNat 32 (n + 1)⟩⟩
theorem fi_eq (x : Int32) (k : Int32 → Bool) : fi x k = k x := by
  unfold fi
  split
  · rename_i h
    congr 1
    apply Int32.toBitVec_inj.1
    apply BitVec.eq_of_toNat_eq
    rw [h]
    rfl
  · rename_i n h
    congr 1
    apply Int32.toBitVec_inj.1
    apply BitVec.eq_of_toNat_eq
    rw [h]
    show (n + 1) % 2 ^ 32 = n + 1
    have := x.toBitVec.isLt
    omega
/-- the signs are these, and behind them none -/
def tyL (x : Int64) : Nat → List Int32 → Bool
  | j, [] => (List.range (8 - j)).all fun q => sgc x (nI (j + q)) == 0
  | j, c :: l => fi (sgc x (nI j)) (fun s => s == c && decide (32 ≤ s) && decide (s ≤ 126)) && tyL x (j + 1) l
def tyC (x : Int64) (l : List Int32) : Bool := decide (l.length ≤ 8) && fx x fun y => tyL y 0 l
theorem tyL_sg {x : Int64} : ∀ (l : List Int32) (j : Nat), tyL x j l = true → (∀ q, q < l.length → sgc x (nI (j + q)) = l.getD q 0 ∧ 32 ≤ l.getD q 0 ∧ l.getD q 0 ≤ 126) ∧ ∀ q, j + l.length ≤ q → q < 8 → sgc x (nI q) = 0
  | [], j, h => ⟨fun q hq => absurd hq (Nat.not_lt_zero q), fun q h1 h2 => by
    have h3 := List.all_eq_true.1 h (q - j) (List.mem_range.2 (by simp at h1; omega))
    rw [beq_iff_eq, show j + (q - j) = q by simp at h1; omega] at h3
    exact h3⟩
  | c :: l, j, h => by
    have h : (fi (sgc x (nI j)) (fun s => s == c && decide (32 ≤ s) && decide (s ≤ 126)) && tyL x (j + 1) l) = true := h
    rw [Bool.and_eq_true, fi_eq, Bool.and_eq_true, Bool.and_eq_true, beq_iff_eq, decide_eq_true_eq, decide_eq_true_eq] at h
    obtain ⟨⟨⟨h1, h2⟩, h3⟩, h4⟩ := h
    obtain ⟨i1, i2⟩ := tyL_sg l (j + 1) h4
    refine ⟨fun q hq => ?_, fun q q1 q2 => i2 q (by rw [List.length_cons] at q1; omega) q2⟩
    cases q with
    | zero => exact ⟨h1, by rw [← h1]; exact ⟨h2, h3⟩⟩
    | succ q =>
      have := i1 q (by rw [List.length_cons] at hq; omega)
      rw [show j + 1 + q = j + (q + 1) by omega] at this
      exact this
theorem cSg_of {x : Int64} {l : List Int32} (h1 : ∀ q, q < l.length → sgc x (nI q) = l.getD q 0 ∧ 32 ≤ l.getD q 0 ∧ l.getD q 0 ≤ 126) (h2 : ∀ q, l.length ≤ q → q < 8 → sgc x (nI q) = 0) (h8 : l.length ≤ 8) : ∀ m j, j + m = 8 → (j ≤ l.length → cSg x m j j = nI l.length) ∧ (l.length ≤ j → cSg x m j l.length = nI l.length) := by
  intro m
  induction m with
  | zero =>
    intro j hj
    refine ⟨fun h => ?_, fun h => rfl⟩
    have : j = l.length := by omega
    rw [this]
    rfl
  | succ m ih =>
    intro j hj
    obtain ⟨i1, i2⟩ := ih (j + 1) (by omega)
    have key : l.length ≤ j → ∀ c, cSg x (m + 1) j c = cSg x m (j + 1) c := fun q c => if_pos (h2 j q (by omega))
    refine ⟨fun h => ?_, fun h => by rw [key h]; exact i2 (by omega)⟩
    by_cases e : j = l.length
    · rw [key (by omega), e] 
      have := i2 (by omega)
      rw [e] at this
      exact this
    · obtain ⟨a1, a2, a3⟩ := h1 j (by omega)
      have n0 : ¬ sgc x (nI j) = 0 := by
        rw [a1]
        intro z
        rw [z] at a2
        exact absurd a2 (by decide)
      have n1 : ¬ (sgc x (nI j) < 32 ∨ 126 < sgc x (nI j) ∨ j < j) := by
        rw [a1]
        rintro (z | z | z)
        · exact Int32.not_lt.2 a2 z
        · exact Int32.not_lt.2 a3 z
        · exact Nat.lt_irrefl j z
      show (if sgc x (nI j) = 0 then _ else _) = _
      rw [if_neg n0, if_neg n1]
      exact i1 (by omega)
theorem tyC_of {x : Int64} {l : List Int32} (h : tyC x l = true) : cSg x 8 0 0 = nI l.length ∧ tySg x l.length = l ∧ l.length ≤ 8 ∧ ∀ c ∈ l, 32 ≤ c ∧ c ≤ 126 := by
  unfold tyC at h
  rw [fx_eq, Bool.and_eq_true, decide_eq_true_eq] at h
  obtain ⟨h8, h⟩ := h
  obtain ⟨h1, h2⟩ := tyL_sg l 0 h
  simp only [Nat.zero_add] at h1 h2
  refine ⟨(cSg_of h1 h2 h8 8 0 rfl).1 (Nat.zero_le _), ?_, h8, fun c hc => ?_⟩
  · apply List.ext_getElem
    · exact tySg_len x _
    · intro q q1 q2
      have := (h1 q q2).1
      rw [List.getD_eq_getElem?_getD, List.getElem?_eq_getElem q2] at this
      simp only [tySg, List.getElem_map, List.getElem_range]
      exact this
  · obtain ⟨q, q1, q2⟩ := List.getElem_of_mem hc
    have := (h1 q q1).2
    rw [List.getD_eq_getElem?_getD, List.getElem?_eq_getElem q1] at this
    rw [← q2]
    exact this
theorem x1_tab : ([97, 98, 99].all fun o => [65, 66, 67, 97, 98, 99].all fun t => (List.range 9).all fun k => tyC (x1 o t k) [nI o, nI t, 44, nI (97 + k), 44]) = true := by decide +kernel
theorem x1_ok {o t k : Nat} (ho : oneOK o) (ht : twoOK t) (hk : k < 9) : tyC (x1 o t k) [nI o, nI t, 44, nI (97 + k), 44] = true :=
  List.all_eq_true.1 (List.all_eq_true.1 (List.all_eq_true.1 x1_tab o ho) t ht) k (List.mem_range.2 hk)
theorem x2_tab : ((List.range 10).all fun a => (List.range 10).all fun b => (List.range 10).all fun c => (List.range 6).all fun z => tyC (x2 a b c z) [nI (48 + a), nI (48 + b), nI (48 + c), 44, nI (48 + z), 44]) = true := by decide +kernel
theorem x2_ok {a b c z : Nat} (ha : a < 10) (hb : b < 10) (hc : c < 10) (hz : z < 6) : tyC (x2 a b c z) [nI (48 + a), nI (48 + b), nI (48 + c), 44, nI (48 + z), 44] = true :=
  List.all_eq_true.1 (List.all_eq_true.1 (List.all_eq_true.1 (List.all_eq_true.1 x2_tab a (List.mem_range.2 ha)) b (List.mem_range.2 hb)) c (List.mem_range.2 hc)) z (List.mem_range.2 hz)
theorem x3_tab : ((List.range 10).all fun d => tyC (x3 d) [nI (48 + d)]) = true := by decide +kernel
theorem x3_ok {d : Nat} (hd : d < 10) : tyC (x3 d) [nI (48 + d)] = true := List.all_eq_true.1 x3_tab d (List.mem_range.2 hd)
theorem okC_n {n : Nat} (h1 : 32 ≤ n) (h2 : n ≤ 126) : okC (nI n) := by
  show 32 ≤ (nI n).toInt ∧ (nI n).toInt ≤ 126
  rw [nI_toInt (by omega)]
  omega
/-! the templates -/
theorem tyT0 : tyC 4196918605268282940 [60, 110, 62, 58, 60, 115, 62, 58] = true ∧ tyC 4196926301849675836 [60, 104, 62, 58, 60, 122, 62, 58] = true ∧ tyC 17571553998696508 [60, 112, 62, 58, 60, 109, 62] = true := by decide +kernel
theorem tyT1 : tyC 8948723099738402139 [91, 109, 61, 49, 63, 64, 48, 124] = true ∧ tyC 4346043116763902043 [91, 112, 62, 57, 48, 63, 80, 60] = true ∧ tyC 6718922302206787184 [112, 62, 124, 72, 60, 104, 62, 93] = true ∧ tyC 11869 [93, 46] = true := by decide +kernel
theorem tyT2 : tyC 826290496 [64, 49, 64, 49] = true := by decide +kernel
theorem okC_dec {l : List Int32} (h : (l.all fun c => decide (okC c)) = true) : ∀ c ∈ l, okC c := fun c hc => of_decide_eq_true (List.all_eq_true.1 h c hc)
