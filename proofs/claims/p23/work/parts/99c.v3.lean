/-! ===== what holds at the start ===== -/
theorem arrP {s : State} {A : Array Value} {ty : FieldType} (h : (Cond.arrayClass ty).before A s = true) : ∃ c, ArrOfT s c ty ∧ s.vm.findClass ("[" ++ ty.toString) = some c := by
  obtain ⟨c, k, comp, h1, h2, h3⟩ := Cond.arrayClass_spec h
  exact ⟨c, fun n z => ⟨fun k h => (by cases h), k, h2, comp, h3⟩, h1⟩
theorem arrO {s : State} {A : Array Value} {C : String} (h : (Cond.arrayOver (.object C)).before A s = true) : ∃ c, ArrOfT s c (.object C) ∧ va_RA s c (.object C) := by
  obtain ⟨comp, c, k, h1, h2, h3, h4, h5⟩ := Cond.arrayOver_spec h
  exact ⟨c, fun n z => ⟨fun k h => (by cases h), k, h3, comp, h4⟩, k, comp, h3, h4, h1, h5⟩
theorem lwt {w : Cond} (i : Nat) (h : lw_tbl[i]? = some w) : w ∈ lw_tbl := List.mem_of_getElem? h
theorem tb_in {w : Cond} (h : w ∈ tables_1) : w ∈ lw_tbl := List.mem_append_right _ h
theorem st_arr {s : State} {A : Array Value} (hts : ∀ w ∈ lw_tbl, w.before A s = true) : ∃ cA : Nat → ClassId, ∀ (k : Nat) (q : ClassId × FieldType), (a_tys cA)[k]? = some q → ArrOfT s q.1 q.2 ∧ va_RA s q.1 q.2 := by
  obtain ⟨c13, a13, b13⟩ := arrP (hts _ (lwt 128 (w := .arrayClass .char) (by decide +kernel)))
  obtain ⟨c14, a14, b14⟩ := arrP (hts _ (lwt 174 (w := .arrayClass .int) (by decide +kernel)))
  obtain ⟨c16, a16, b16⟩ := arrO (hts _ (tb_in (List.mem_of_getElem? (i := 199) (a := Cond.arrayOver (.object "MergePost$Address")) (by decide +kernel))))
  obtain ⟨c17, a17, b17⟩ := arrO (hts _ (tb_in (List.mem_of_getElem? (i := 294) (a := Cond.arrayOver (.object "MergePost$Letter")) (by decide +kernel))))
  obtain ⟨c18, a18, b18⟩ := arrO (hts _ (tb_in (List.mem_of_getElem? (i := 287) (a := Cond.arrayOver (.object "MergePost$Run")) (by decide +kernel))))
  obtain ⟨c19, a19, b19⟩ := arrO (hts _ (tb_in (List.mem_of_getElem? (i := 112) (a := Cond.arrayOver (.object "MergePost$Signs")) (by decide +kernel))))
  obtain ⟨c20, a20, b20⟩ := arrO (hts _ (tb_in (List.mem_of_getElem? (i := 78) (a := Cond.arrayOver (.object "MergePost$Template")) (by decide +kernel))))
  refine ⟨fun k => [c13, c14, c14, c16, c17, c18, c19, c20].getD (k - 13) 0, fun k q hk => ?_⟩
  have hk9 : k < 8 := (List.getElem?_eq_some_iff.mp hk).1
  rcases (show k = 0 ∨ k = 1 ∨ k = 2 ∨ k = 3 ∨ k = 4 ∨ k = 5 ∨ k = 6 ∨ k = 7 from by omega) with rfl | rfl | rfl | rfl | rfl | rfl | rfl | rfl
  · cases hk
    exact ⟨a13, b13⟩
  · cases hk
    exact ⟨a14, b14⟩
  · cases hk
    exact ⟨a14, b14⟩
  · cases hk
    exact ⟨a16, b16⟩
  · cases hk
    exact ⟨a17, b17⟩
  · cases hk
    exact ⟨a18, b18⟩
  · cases hk
    exact ⟨a19, b19⟩
  · cases hk
    exact ⟨a20, b20⟩
theorem st_cls {s : State} {A : Array Value} (ha : ∀ w ∈ aT, w.before A s = true) : ∃ D : va_G, ∀ (c : Nat) (q : vw_C), vwCl[c]? = some q → u_Kn s q.1 q.2.1 q.2.2 (D.1 c) (D.2 c) := by
  have H : ∀ c : Nat, ∃ d : ClassId × (Nat → Nat), ∀ q : vw_C, vwCl[c]? = some q → u_Kn s q.1 q.2.1 q.2.2 d.1 d.2 := by
    intro c
    by_cases hc : c < 12
    · rcases (show c = 0 ∨ c = 1 ∨ c = 2 ∨ c = 3 ∨ c = 4 ∨ c = 5 ∨ c = 6 ∨ c = 7 ∨ c = 8 ∨ c = 9 ∨ c = 10 ∨ c = 11 from by omega) with rfl | rfl | rfl | rfl | rfl | rfl | rfl | rfl | rfl | rfl | rfl | rfl
      · obtain ⟨cC, iS, h⟩ := u_known ha inX0 (ha _ (aT_of (List.mem_of_getElem? (i := 270) (by decide +kernel)) (by decide +kernel) : Cond.instantiable RX0 7 ∈ aT))
        exact ⟨(cC, iS), fun q hq => by cases hq; exact h⟩
      · obtain ⟨cC, iS, h⟩ := u_known ha inX1 (ha _ (aT_of (List.mem_of_getElem? (i := 263) (by decide +kernel)) (by decide +kernel) : Cond.instantiable RX1 6 ∈ aT))
        exact ⟨(cC, iS), fun q hq => by cases hq; exact h⟩
      · obtain ⟨cC, iS, h⟩ := u_known ha inX2 (ha _ (aT_of (List.mem_of_getElem? (i := 342) (by decide +kernel)) (by decide +kernel) : Cond.instantiable RX2 2 ∈ aT))
        exact ⟨(cC, iS), fun q hq => by cases hq; exact h⟩
      · obtain ⟨cC, iS, h⟩ := u_known ha inX3 (ha _ (aT_of (List.mem_of_getElem? (i := 176) (by decide +kernel)) (by decide +kernel) : Cond.instantiable RX3 3 ∈ aT))
        exact ⟨(cC, iS), fun q hq => by cases hq; exact h⟩
      · obtain ⟨cC, iS, h⟩ := u_known ha inX4 (ha _ (aT_of (List.mem_of_getElem? (i := 202) (by decide +kernel)) (by decide +kernel) : Cond.instantiable RX4 5 ∈ aT))
        exact ⟨(cC, iS), fun q hq => by cases hq; exact h⟩
      · obtain ⟨cC, iS, h⟩ := u_known ha inX5 (ha _ (aT_of (List.mem_of_getElem? (i := 332) (by decide +kernel)) (by decide +kernel) : Cond.instantiable RX5 1 ∈ aT))
        exact ⟨(cC, iS), fun q hq => by cases hq; exact h⟩
      · obtain ⟨cC, iS, h⟩ := u_known ha inX6 (ha _ (aT_of (List.mem_of_getElem? (i := 105) (by decide +kernel)) (by decide +kernel) : Cond.instantiable RX6 2 ∈ aT))
        exact ⟨(cC, iS), fun q hq => by cases hq; exact h⟩
      · obtain ⟨cC, iS, h⟩ := u_known ha inX7 (ha _ (aT_of (List.mem_of_getElem? (i := 142) (by decide +kernel)) (by decide +kernel) : Cond.instantiable RX7 9 ∈ aT))
        exact ⟨(cC, iS), fun q hq => by cases hq; exact h⟩
      · obtain ⟨cC, iS, h⟩ := u_known ha inX8 (ha _ (aT_of (List.mem_of_getElem? (i := 358) (by decide +kernel)) (by decide +kernel) : Cond.instantiable RX8 5 ∈ aT))
        exact ⟨(cC, iS), fun q hq => by cases hq; exact h⟩
      · obtain ⟨cC, iS, h⟩ := u_known ha inX9 (ha _ (aT_of (List.mem_of_getElem? (i := 111) (by decide +kernel)) (by decide +kernel) : Cond.instantiable RX9 2 ∈ aT))
        exact ⟨(cC, iS), fun q hq => by cases hq; exact h⟩
      · obtain ⟨cC, iS, h⟩ := u_known ha inX10 (ha _ (aT_of (List.mem_of_getElem? (i := 149) (by decide +kernel)) (by decide +kernel) : Cond.instantiable RX10 5 ∈ aT))
        exact ⟨(cC, iS), fun q hq => by cases hq; exact h⟩
      · obtain ⟨cC, iS, h⟩ := u_known ha inX11 (ha _ (aT_of (List.mem_of_getElem? (i := 97) (by decide +kernel)) (by decide +kernel) : Cond.instantiable RX11 8 ∈ aT))
        exact ⟨(cC, iS), fun q hq => by cases hq; exact h⟩
    · exact ⟨(0, fun _ => 0), fun q hq => absurd (List.getElem?_eq_some_iff.mp hq).1 (fun h9 => hc h9)⟩
  obtain ⟨f, hf⟩ := Classical.axiomOfChoice H
  exact ⟨(fun c => (f c).1, fun c => (f c).2), fun c q hq => hf c q hq⟩
theorem st_own : ∀ w ∈ aR, (match w with
    | .stringRef own k tx => (own == "MergePost" || own == "MergePost$Line" || own == "MergePost$Press") && (tx != "nshzpm" || (own == "MergePost$Line" && k == 47) || (own == "MergePost$Press" && k == 122))
    | _ => true) = true := List.all_eq_true.mp (by decide +kernel)
theorem aR_tb {w : Cond} (h : w ∈ aR) : w ∈ tables_1 := (List.mem_filter.mp h).1
theorem st_ref {s : State} {A : Array Value} (hts : ∀ w ∈ lw_tbl, w.before A s = true) (hcl : ∀ own : String, own = "MergePost" ∨ own = "MergePost$Line" ∨ own = "MergePost$Press" → ∃ c, s.vm.findClass own = some c) {own : String} {k : Nat} {tx : String} (h : Cond.stringRef own k tx ∈ aR) : ∃ sa, vk_R own k tx sa s := by
  have h1 := st_own _ h
  simp only [Bool.and_eq_true, Bool.or_eq_true, beq_iff_eq] at h1
  obtain ⟨c, hc⟩ := hcl own (by
    rcases h1.1 with (q | q) | q
    · exact Or.inl q
    · exact Or.inr (Or.inl q)
    · exact Or.inr (Or.inr q))
  have h2 : (Cond.stringRef own k tx).before A s = true := hts _ (tb_in (aR_tb h))
  have h3 : (Cond.stringRef own k tx).before #[] s = true := h2
  obtain ⟨k9, cf, i, a, -, -, -, -, -, e⟩ := Cond.stringRef_spec (args := #[]) (first := s) (o := none) (s := s) (idx := []) hc h3
  exact ⟨a, h3, e⟩
abbrev nrw : List Cond := flatC (Jvm.Cond.and given_1 narrow_1)
theorem nr_ex : Cond.exactly (.string "MergePost$Line" 47) "java/lang/String" ∈ nrw := by decide +kernel
theorem nr_co : Cond.eq (.field (.string "MergePost$Line" 47) "java/lang/String" "coder" "B") (.int 0) ∈ nrw := by decide +kernel
theorem nr_ar : Cond.arrayOf (.field (.string "MergePost$Line" 47) "java/lang/String" "value" "[B") .byte ∈ nrw := by decide +kernel
theorem nr_le : Cond.eq (.length (.field (.string "MergePost$Line" 47) "java/lang/String" "value" "[B")) (.int 6) ∈ nrw := by decide +kernel
theorem nr_el : ∀ j, j < 6 → Cond.eq (.elem (.field (.string "MergePost$Line" 47) "java/lang/String" "value" "[B") (.int (Int32.ofNat j))) (.int (([110, 115, 104, 122, 112, 109] : List Int32).getD j 0)) ∈ nrw := by decide +kernel
theorem nr_eq : Cond.eq (.string "MergePost$Press" 122) (.string "MergePost$Line" 47) ∈ nrw := by decide +kernel
theorem nr_us : Cond.isRef (.static Bundle.tN "UNASSIGNED_STACK" Bundle.steD) ∈ nrw := by decide +kernel
theorem nr_ss : Cond.isRef (.static Bundle.tN "SUPPRESSED_SENTINEL" Bundle.listD) ∈ nrw := by decide +kernel
theorem nr_cs : Cond.eq (.static "java/lang/String" "COMPACT_STRINGS" "Z") (.int 1) ∈ nrw := by decide +kernel
theorem nr_xIxS : Cond.not (.castable xI xS) ∈ nrw := by decide +kernel
theorem nr_xSxI : Cond.not (.castable xS xI) ∈ nrw := by decide +kernel
theorem st_K {s : State} {A : Array Value} (hts : ∀ w ∈ lw_tbl, w.before A s = true) (hg : (Jvm.Cond.and given_1 narrow_1).before A s = true) {b L : Nat} {xs : Nat → Int32} (hL : L ≤ 2560) (hbl : b < s.heap.size) (hX : va_X b L xs s s.heap) : ∃ (x0 : Nat → Nat) (cA : Nat → ClassId) (D : va_G), x0 2 = b ∧ a_K s.heap.size x0 cA D s ∧ aNcs s := by
  have ha : ∀ w ∈ aT, w.before A s = true := fun w hw => hts w (List.mem_filter.mp hw).1
  have hn : ∀ w ∈ nrw, w.before A s = true := flat_of_before _ hg
  have hA : ∀ a : Nat, a < s.heap.size → ¬ s.heap.size ≤ a := fun a h q => by omega
  obtain ⟨cA, hcA⟩ := st_arr hts
  obtain ⟨D, hD⟩ := st_cls ha
  have hcl : ∀ own : String, own = "MergePost" ∨ own = "MergePost$Line" ∨ own = "MergePost$Press" → ∃ c, s.vm.findClass own = some c := by
    rintro own (rfl | rfl | rfl)
    · exact ⟨_, (hD 11 _ rfl).2.1⟩
    · exact ⟨_, (hD 6 _ rfl).2.1⟩
    · exact ⟨_, (hD 7 _ rfl).2.1⟩
  obtain ⟨adK, adV, hS, hS0⟩ := vk_Sof (args := A) (s := s) (N := 1) (tm := fun _ => (.string "MergePost$Line" 47)) (len := [6]) (byt := [[110, 115, 104, 122, 112, 109]]) (A := fun q => s.heap.size ≤ q)
    (fun i hi => by have e : i = 0 := by omega
                    subst e; decide)
    (fun i _ => hn _ nr_ex) (fun i _ => hn _ nr_co) (fun i _ => hn _ nr_ar)
    (fun i hi => by have e : i = 0 := by omega
                    subst e; exact hn _ nr_le)
    (fun i hi j hj => by have e : i = 0 := by omega
                         subst e; exact hn _ (nr_el j hj))
    (fun i j hi hj hne => absurd (show i = j by omega) hne) hA
  have e47 : (Term.string "MergePost$Line" 47).eval A s none [] s = some (.ref (adK 0)) := hS0 0 (by decide)
  have e122 : (Term.string "MergePost$Press" 122).eval A s none [] s = some (.ref (adK 0)) := by
    obtain ⟨y, y1, y2⟩ := Cond.eq_one (args := A) (first := s) (o := none) (s := s) (idx := []) (hn _ nr_eq)
    rw [y1, ← y2, e47]
  refine ⟨fun k => [adK 0, adV 0, b].getD k 0, cA, D, rfl, ⟨⟨hD, hcA⟩, fun w hw => ?_, fun own k tx h => st_ref hts hcl h, vx_Zqof (hts _ (lwt 444 (w := .laysStatic Bundle.tN "UNASSIGNED_STACK" Bundle.steD) (by decide +kernel))) (hts _ (lwt 83 (w := .initialized Bundle.tN) (by decide +kernel))) (hn _ nr_us) hA, vx_Zqof (hts _ (lwt 446 (w := .laysStatic Bundle.tN "SUPPRESSED_SENTINEL" Bundle.listD) (by decide +kernel))) (hts _ (lwt 83 (w := .initialized Bundle.tN) (by decide +kernel))) (hn _ nr_ss) hA, ?_, ⟨va_Zof (hts _ (lwt 832 (w := .laysStatic "java/lang/String" "COMPACT_STRINGS" "Z") (by decide +kernel))) (hts _ (lwt 89 (w := .initialized "java/lang/String") (by decide +kernel))) (va_eqt (hn _ nr_cs)) hA, L, xs, hL, hbl, hX⟩, fun own k h => ?_⟩, va_Nc.of (hn _ nr_xIxS), va_Nc.of (hn _ nr_xSxI)⟩
  · have h1 : w.before A s = true := hts _ (tb_in (List.mem_filter.mp hw).1)
    have h2 := (List.mem_filter.mp hw).2
    cases w with
    | arrayOver t =>
      cases t with
      | object C => exact va_AO.of h1
      | _ => cases h2
    | fieldLinkNest a i b n d h => exact va_Nw.of rfl h1
    | methodLinkNest a i x h => exact va_Nw.of rfl h1
    | declares x => exact va_Nw.of rfl h1
    | castable a b => exact va_Nw.of rfl h1
    | _ => cases h2
  · exact ⟨fun i hi => by have e : i = 0 := by omega
                          subst e; exact hS.1 0 hi, fun i j hi hj _ => by omega⟩
  · have h1 := st_own _ h
    simp only [Bool.and_eq_true, Bool.or_eq_true, beq_iff_eq, bne_self_eq_false, Bool.false_eq_true, false_or] at h1
    have h2 : (Cond.stringRef own k "nshzpm").before #[] s = true := hts _ (tb_in (aR_tb h))
    rcases h1.2 with ⟨rfl, rfl⟩ | ⟨rfl, rfl⟩
    · exact ⟨h2, e47⟩
    · exact ⟨h2, e122⟩
