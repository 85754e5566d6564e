/-! ===== the memory of the two systems, at relative addresses: of each address its class and length (the shape), of each place its value ===== -/
abbrev aS : Type := (Nat → Nat × Nat) × Option Nat
abbrev aV : Type := Nat → Nat → Value
abbrev aMt : Type := MethodName × ByteArray × Nat × Option FieldType
def a_v (o : Nat) (x0 : Nat → Nat) : Value → Value
  | .ref a => .ref (o + a)
  | .retAddr x => .ref (x0 x)
  | v => v
def a_i : Value → Int32
  | .int x => x
  | _ => 0
def a_l : Value → Int64
  | .long x => x
  | _ => 0
def a_r (o : Nat) : Value → Option Nat
  | .ref a => some (o + a)
  | _ => none
def a_nf (c : Nat) : Nat := match vwCl[c]? with
  | some q => q.2.2
  | none => 0
theorem a_v_cat (o : Nat) (x0 : Nat → Nat) (v : Value) : (a_v o x0 v).category = v.category := by cases v <;> rfl
theorem a_nf_of {ci : Nat} {q : vw_C} (h : vwCl[ci]? = some q) : a_nf ci = q.2.2 := by unfold a_nf; rw [h]
def a_e (o : Nat) (x0 : Nat → Nat) (cA : Nat → ClassId) (q : Nat × Nat) (g : Nat → Value) : Option va_E :=
  if q.1 < 13 then some (.inr (q.1, (List.range (a_nf q.1)).map fun k => a_v o x0 (g k)))
  else if q.1 < 16 then some (.inl (cA q.1, q.2, .inl fun j => a_i (g j)))
  else if q.1 < 21 then some (.inl (cA q.1, q.2, .inr (.inr (.inr (.inr fun j => a_r o (g j))))))
  else if q.1 < 22 then some (.inl (cA q.1, q.2, .inr (.inl fun j => a_l (g j))))
  else none
theorem a_e_obj {o : Nat} {x0 : Nat → Nat} {cA : Nat → ClassId} {q : Nat × Nat} {g : Nat → Value} {ci : Nat} (h : q.1 = ci) (hc : ci < 13) : a_e o x0 cA q g = some (.inr (ci, (List.range (a_nf ci)).map fun k => a_v o x0 (g k))) := by
  subst h; unfold a_e; rw [if_pos hc]
theorem a_e_int {o : Nat} {x0 : Nat → Nat} {cA : Nat → ClassId} {q : Nat × Nat} {g : Nat → Value} {ci n : Nat} (h : q = (ci, n)) (h1 : ¬ ci < 13) (h2 : ci < 16) : a_e o x0 cA q g = some (.inl (cA ci, n, .inl fun j => a_i (g j))) := by
  subst h; unfold a_e; rw [if_neg h1, if_pos h2]
theorem a_e_ref {o : Nat} {x0 : Nat → Nat} {cA : Nat → ClassId} {q : Nat × Nat} {g : Nat → Value} {ci n : Nat} (h : q = (ci, n)) (h1 : ¬ ci < 16) (h2 : ci < 21) : a_e o x0 cA q g = some (.inl (cA ci, n, .inr (.inr (.inr (.inr fun j => a_r o (g j)))))) := by
  subst h; unfold a_e; rw [if_neg (fun h => h1 (Nat.lt_trans h (by decide))), if_neg h1, if_pos h2]
theorem a_e_lng {o : Nat} {x0 : Nat → Nat} {cA : Nat → ClassId} {q : Nat × Nat} {g : Nat → Value} {n : Nat} (h : q = (21, n)) : a_e o x0 cA q g = some (.inl (cA 21, n, .inr (.inl fun j => a_l (g j)))) := by
  subst h; rfl
/-- the machine's heap holds the memory, from address o on -/
def a_P (o : Nat) (x0 : Nat → Nat) (cA : Nat → ClassId) (D : va_G) (S : aS) (V : aV) (H : Heap) : Prop := ∀ (a : Nat) (e : va_E), a_e o x0 cA (S.1 a) (V a) = some e → va_at D vwCl (o + a, e) H
theorem va_P_one {D : va_G} {cl : List vw_C} {q : Nat × va_E} {H : Heap} (h : va_at D cl q H) : va_P D cl [q] H := fun k q' hk => by
  cases k with
  | zero => cases hk; exact h
  | succ k => simp at hk
theorem a_P.lt {o : Nat} {x0 : Nat → Nat} {cA : Nat → ClassId} {D : va_G} {S : aS} {V : aV} {H : Heap} (hP : a_P o x0 cA D S V H) {a : Nat} {e : va_E} (h : a_e o x0 cA (S.1 a) (V a) = some e) : a < H.size := by
  have := (hP a e h).lt
  show a < H.size
  have h2 : o + a < H.size := this
  omega
theorem a_P.upd {o : Nat} {x0 : Nat → Nat} {cA : Nat → ClassId} {D : va_G} {S : aS} {V V' : aV} {H H1 : Heap} {a : Nat} (hP : a_P o x0 cA D S V H) (hV : ∀ b, b ≠ a → V' b = V b) (hq : ∀ q : Nat, q ≠ o + a → H1[q]? = H[q]?) (he : ∀ e, a_e o x0 cA (S.1 a) (V' a) = some e → va_at D vwCl (o + a, e) H1) : a_P o x0 cA D S V' H1 := by
  intro b e hb
  by_cases hba : b = a
  · subst hba; exact he e hb
  · rw [hV b hba] at hb
    exact (hP b e hb).kept (hq _ (by show o + b ≠ o + a; omega))
theorem a_P.kept {o : Nat} {x0 : Nat → Nat} {cA : Nat → ClassId} {D : va_G} {S : aS} {V : aV} {H H1 : Heap} (hP : a_P o x0 cA D S V H) (h : ∀ q : Nat, q < H.size → H1[q]? = H[q]?) : a_P o x0 cA D S V H1 := fun a e he => (hP a e he).kept (h _ (hP a e he).lt)
def a_up (V : aV) (a k : Nat) (v : Value) : aV := fun b j => if b = a ∧ j = k then v else V b j
theorem a_up_self (V : aV) (a k : Nat) (v : Value) : a_up V a k v a k = v := by simp [a_up]
theorem a_up_ne {V : aV} {a k b j : Nat} {v : Value} (h : b ≠ a ∨ j ≠ k) : a_up V a k v b j = V b j := by
  unfold a_up
  rw [if_neg]
  rintro ⟨h1, h2⟩
  rcases h with h | h
  · exact h h1
  · exact h h2
theorem a_up_row {V : aV} {a k b : Nat} {v : Value} (h : b ≠ a) : a_up V a k v b = V b := by
  funext j
  exact a_up_ne (Or.inl h)
theorem a_up_fields {V : aV} {a k n : Nat} {v : Value} (o : Nat) (x0 : Nat → Nat) (h : k < n) : (List.range n).map (fun j => a_v o x0 (a_up V a k v a j)) = ((List.range n).map fun j => a_v o x0 (V a j)).set k (a_v o x0 v) := by
  apply List.ext_getElem?
  intro i
  by_cases hi : i = k
  · subst hi
    rw [List.getElem?_set_self (by simpa using h)]
    rw [List.getElem?_map, List.getElem?_range h]
    simp [a_up_self]
  · rw [List.getElem?_set_ne (Ne.symm hi)]
    simp only [List.getElem?_map]
    cases hr : (List.range n)[i]? with
    | none => rfl
    | some j =>
      have hj : j = i := by
        have h1 := List.getElem?_eq_some_iff.mp hr
        obtain ⟨h2, h3⟩ := h1
        simpa using h3.symm
      subst hj
      simp [a_up_ne (V := V) (a := a) (v := v) (Or.inr hi : a ≠ a ∨ j ≠ k)]
theorem a_up_ints {V : aV} {a k : Nat} {x : Int32} : (fun j => a_i (a_up V a k (.int x) a j)) = upd (fun j => a_i (V a j)) k x := by
  funext j
  by_cases h : j = k
  · subst h; simp [a_up_self, upd, a_i]
  · simp [a_up_ne (V := V) (a := a) (v := .int x) (Or.inr h : a ≠ a ∨ j ≠ k), upd, h]
theorem a_up_lngs {V : aV} {a k : Nat} {x : Int64} : (fun j => a_l (a_up V a k (.long x) a j)) = fun j => if j = k then x else a_l (V a j) := by
  funext j
  by_cases h : j = k
  · subst h; simp [a_up_self, a_l]
  · simp [a_up_ne (V := V) (a := a) (v := .long x) (Or.inr h : a ≠ a ∨ j ≠ k), h]
theorem a_up_refs {V : aV} {a k o : Nat} {b : Nat} : (fun j => a_r o (a_up V a k (.ref b) a j)) = va_up (fun j => a_r o (V a j)) k (some (o + b)) := by
  funext j
  by_cases h : j = k
  · subst h; simp [a_up_self, va_up, a_r]
  · simp [a_up_ne (V := V) (a := a) (v := .ref b) (Or.inr h : a ≠ a ∨ j ≠ k), va_up, h]
theorem a_narrow {ty : FieldType} {o : Nat} {x0 : Nat → Nat} {v : Value} (h : narrow ty v = v) : narrow ty (a_v o x0 v) = a_v o x0 v := by
  cases v with
  | ref a => cases ty <;> rfl
  | retAddr x => cases ty <;> rfl
  | int x => exact h
  | long x => exact h
  | float x => exact h
  | double x => exact h
  | null => exact h
theorem a_fits {ty : FieldType} {o : Nat} {x0 : Nat → Nat} {v : Value} (h : fits ty v = true) : fits ty (a_v o x0 v) = true := by
  cases v with
  | ref a => cases ty <;> first | rfl | exact h
  | retAddr x => cases ty <;> cases h
  | _ => exact h
/-! the words -/
def aT : List Cond := lw_tbl.filter goodWord
theorem aT_of {w : Cond} (h : w ∈ lw_tbl) (g : goodWord w = true) : w ∈ aT := List.mem_filter.mpr ⟨h, g⟩
theorem aT_good : GoodIn aT aT := fun w h => ⟨h, good_of_word (List.mem_filter.mp h).2⟩
def aNest : Cond → Bool
  | .fieldLinkNest .. => true
  | .methodLinkNest .. => true
  | .declares _ => true
  | .castable .. => true
  | .arrayOver (.object _) => true
  | _ => false
def aN : List Cond := tables_1.filter aNest
def aStrings : Cond → Bool
  | .stringRef .. => true
  | _ => false
def aR : List Cond := tables_1.filter aStrings
theorem aN_of {w : Cond} (h : w ∈ tables_1) (g : aNest w = true) : w ∈ aN := List.mem_filter.mpr ⟨h, g⟩
theorem aR_of {w : Cond} (h : w ∈ tables_1) (g : aStrings w = true) : w ∈ aR := List.mem_filter.mpr ⟨h, g⟩
theorem aN_warm {w : Cond} (h : w ∈ aN) {s U : State} (hW : s.WarmedH U.vm) (hz : va_Nw w s) : va_Nw w U := by
  have h2 := (List.mem_filter.mp h).2
  cases w with
  | fieldLinkNest a i b n d h => exact va_Nw.warmF hW hz
  | methodLinkNest a i x h => exact va_Nw.warmM hW hz
  | declares x => exact va_Nw.warmD hW hz
  | castable a b => exact va_Nw.warmC hW hz
  | arrayOver t =>
    cases t with
    | object C => exact va_AO.moved hW.alike hz
    | _ => cases h2
  | _ => cases h2
def a_tys (cA : Nat → ClassId) : List (ClassId × FieldType) := [(cA 13, .char), (cA 14, .int), (cA 15, .int), (cA 16, .object "MergePost$Address"), (cA 17, .object "MergePost$Letter"), (cA 18, .object "MergePost$Run"), (cA 19, .object "MergePost$Signs"), (cA 20, .object "MergePost$Template")]
/-- the script of the law: some ints below o -/
def a_X (o : Nat) (x0 : Nat → Nat) (U : State) : Prop := ∃ (L : Nat) (xs : Nat → Int32), L ≤ 2560 ∧ x0 2 < o ∧ va_X (x0 2) L xs U U.heap
/-- the text that names the fields, and its bytes -/
def a_F (o : Nat) (x0 : Nat → Nat) (U : State) : Prop := vk_S 1 [6] [[110, 115, 104, 122, 112, 109]] (fun _ => x0 0) (fun _ => x0 1) (fun q => o ≤ q) U U.heap ∧ (va_Z "java/lang/String" "COMPACT_STRINGS" "Z" (.int 1) (fun q => o ≤ q) U U.heap ∧ a_X o x0 U) ∧ ∀ (own : String) (k : Nat), Cond.stringRef own k "nshzpm" ∈ aR → vk_R own k "nshzpm" (x0 0) U
/-- what is known of the tables, and of what lies below o -/
def a_K (o : Nat) (x0 : Nat → Nat) (cA : Nat → ClassId) (D : va_G) (U : State) : Prop :=
  va_K D vwCl (a_tys cA) U ∧ (∀ w ∈ aN, va_Nw w U) ∧ (∀ (own : String) (k : Nat) (tx : String), Cond.stringRef own k tx ∈ aR → ∃ sa, vk_R own k tx sa U) ∧
  vx_Zq Bundle.tN "UNASSIGNED_STACK" Bundle.steD (fun q => o ≤ q) U U.heap ∧ vx_Zq Bundle.tN "SUPPRESSED_SENTINEL" Bundle.listD (fun q => o ≤ q) U U.heap ∧ a_F o x0 U
theorem a_X.warm {o : Nat} {x0 : Nat → Nat} {s U : State} (hW : s.WarmedH U.vm) (hq : ∀ a : Nat, a < s.heap.size → ¬ o ≤ a → U.heap[a]? = s.heap[a]?) (h : a_X o x0 s) : a_X o x0 U := by
  obtain ⟨L, xs, hL, hb, hx⟩ := h
  have hlt : x0 2 < s.heap.size := by
    obtain ⟨scr, g, -⟩ := hx
    exact (Array.getElem?_eq_some_iff.mp g).1
  exact ⟨L, xs, hL, hb, (va_X.moved hW.alike hx).kept (hq _ hlt (Nat.not_le_of_lt hb))⟩
theorem a_K.warm {o : Nat} {x0 : Nat → Nat} {cA : Nat → ClassId} {D : va_G} {s U : State} (hW : s.WarmedH U.vm) (hq : ∀ a : Nat, a < s.heap.size → ¬ o ≤ a → U.heap[a]? = s.heap[a]?) (h : a_K o x0 cA D s) : a_K o x0 cA D U := by
  obtain ⟨h1, h2, h3, h4, h5, h6, h7, h8⟩ := h
  refine ⟨va_K.moved hW.alike h1, fun w hw => aN_warm hw hW (h2 w hw), fun own k tx hm => ?_, (vx_Zq.moved hW.alike h4).kept hq, (vx_Zq.moved hW.alike h5).kept hq, (vk_S.moved hW.alike h6).kept hq, ⟨(va_Z.moved hW.alike h7.1).kept hq, a_X.warm hW hq h7.2⟩, fun own k hm => vk_R.warm hW (h8 own k hm)⟩
  obtain ⟨sa, h⟩ := h3 own k tx hm
  exact ⟨sa, vk_R.warm hW h⟩
theorem a_K.same {o : Nat} {x0 : Nat → Nat} {cA : Nat → ClassId} {D : va_G} {s U : State} (hv : s.vm = U.vm) (hh : U.heap = s.heap) (h : a_K o x0 cA D s) : a_K o x0 cA D U := by
  refine a_K.warm (s := s) ?_ (fun a _ _ => by rw [hh]) h
  rw [← hv]
  exact State.WarmedH.refl s
/-- how far the heap is told: exactly n cells from o on, or nothing -/
def a_Z (o : Nat) (S : aS) (H : Heap) : Prop := ∀ n, S.2 = some n → H.size = o + n ∧ ∀ a, n ≤ a → S.1 a = (99, 0)
/-- what a method finds; what it leaves -/
def a_B (o : Nat) (x0 : Nat → Nat) (cA : Nat → ClassId) (D : va_G) (S : aS) (V : aV) (t : State) : Prop := o ≤ t.heap.size ∧ a_P o x0 cA D S V t.heap ∧ a_Z o S t.heap ∧ a_K o x0 cA D t
def a_B1 (o : Nat) (x0 : Nat → Nat) (cA : Nat → ClassId) (D : va_G) (S : aS) (V : aV) (t : State) : Prop := a_P o x0 cA D S V t.heap ∧ a_Z o S t.heap
