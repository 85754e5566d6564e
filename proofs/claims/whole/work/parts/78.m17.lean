/-! ===== MergePostModel: writing, its steps (2) ===== -/
/-- what a sign of the template gives -/
def gvs (ent : Nat → EntN) (g : Nat) (L : List Int32) (p : Nat) : List Int32 := if L.getD p 0 = 60 then fW ent g (fdx L p) else [L.getD p 0]
theorem MT.t {V : aV} {T : Nat → List Int32} {to : Nat → Bool} {n p : Nat} (h : MT V T to) (hn : n < 8) (ht : to n = true) (hp : p < (T n).length) : V 506 (96 * n + p) = .int ((T n).getD p 0) := (h n hn).2 ht p hp
theorem GV.one {V : aV} {c : Int32} : GV (a_up (a_up V 536 0 (.int c)) 504 43 (.int 1)) [c] := ⟨a_up_self _ _ _ _, fun j hj => by
  have hj' : j = 0 := by have : [c].length = 1 := rfl; omega
  subst hj'
  exact (a_up_ne (Or.inl (by decide))).trans (a_up_self _ _ _ _)⟩
theorem ix3 (n p : Nat) : nI 96 * nI n + nI p + 1 = nI (96 * n + (p + 1)) := by rw [ix1]; exact nI_1 _
set_option maxHeartbeats 4000000 in
theorem ct_giveSign {V : aV} {T : Nat → List Int32} {to : Nat → Bool} {ent : Nat → EntN} {cnt g n p : Nat} (hR : MR V) (hT : MT V T to) (hEn : ME V ent cnt) (hEO : ∀ k, k < 12 → EO (ent k)) (hg : MBR g) (hn : n < 8) (ht : to n = true) (h96 : (T n).length ≤ 96) (hp : p < (T n).length) (hf : (T n).getD p 0 = 60 → isFd ((T n).getD (p + 1) 0)) : CT mX12_giveSign 2 0 0 [.ref 504, .int (nI n), .int (nI p), .int ((T n).getD p 0), .int (nI g)] Sh V (fun v S' V' => none = v ∧ Sh = S' ∧ GV V' (gvs ent g (T n) p) ∧ FrG V V') aNo := by
  refine CT_of (by decide +kernel) (Nat.le_of_ble_eq_true rfl) ?_
  show R _ _ _ _ _ _ _ _ 0 [some (.ref 504), some (.int (nI n)), some (.int (nI p)), some (.int ((T n).getD p 0)), some (.int (nI g))] [] _ _
  refine R_iload_3 dX12_giveSign_0 ?_
  refine R_bipush (v := 60) dX12_giveSign_1 (by decide) ?_
  refine R_icmp_ne 29 dX12_giveSign_3 (by decide) (fun c3 => ?_) (fun c3 => ?_)
  · refine R_aload_0 dX12_giveSign_29 ?_
    refine gfX12_111 rfl dX12_giveSign_30 sh_504 (by first | exact hR.g (k := 42) (a := 536) (by decide) | exact (a_up_ne (by omega)).trans (hR.g (k := 42) (a := 536) (by decide)) | exact (a_up_ne (by omega)).trans ((a_up_ne (by omega)).trans (hR.g (k := 42) (a := 536) (by decide))) | exact (a_up_ne (by omega)).trans ((a_up_ne (by omega)).trans ((a_up_ne (by omega)).trans (hR.g (k := 42) (a := 536) (by decide)))) | exact (a_up_ne (by omega)).trans ((a_up_ne (by omega)).trans ((a_up_ne (by omega)).trans ((a_up_ne (by omega)).trans (hR.g (k := 42) (a := 536) (by decide))))) | exact (a_up_ne (by omega)).trans ((a_up_ne (by omega)).trans ((a_up_ne (by omega)).trans ((a_up_ne (by omega)).trans ((a_up_ne (by omega)).trans (hR.g (k := 42) (a := 536) (by decide)))))) | exact (a_up_ne (by omega)).trans ((a_up_ne (by omega)).trans ((a_up_ne (by omega)).trans ((a_up_ne (by omega)).trans ((a_up_ne (by omega)).trans ((a_up_ne (by omega)).trans (hR.g (k := 42) (a := 536) (by decide)))))))) ?_
    refine R_iconst (v := 0) dX12_giveSign_33 (by decide) ?_
    refine R_iload_3 dX12_giveSign_34 ?_
    refine R_iastE dX12_giveSign_35 sh_536 (show (0 : Int32) = nI 0 from rfl) (by omega) (by decide) ?_
    refine R_aload_0 dX12_giveSign_36 ?_
    refine R_iconst (v := 1) dX12_giveSign_37 (by decide) ?_
    refine pfX12_213 rfl dX12_giveSign_38 sh_504 ?_
    refine R_vret rfl dX12_giveSign_41 (by first | exact ⟨rfl, rfl, by unfold gvs; rw [if_pos c3]; exact g4, u4⟩ | exact ⟨rfl, rfl, by unfold gvs; rw [if_neg c3]; exact GV.one, FrG.w.trans FrG.u⟩)
  · have hfd := hf c3
    have hp1 : p + 1 < (T n).length := Nat.lt_of_not_le fun z => by
      have : (T n).getD (p + 1) 0 = 0 := by simp [List.getD_eq_getElem?_getD, z]
      rw [this] at hfd
      exact absurd hfd (by decide)
    refine R_aload_0 dX12_giveSign_6 ?_
    refine R_aload_0 dX12_giveSign_7 ?_
    refine gfX12_13 rfl dX12_giveSign_8 sh_504 (by first | exact hR.g (k := 3) (a := 506) (by decide) | exact (a_up_ne (by omega)).trans (hR.g (k := 3) (a := 506) (by decide)) | exact (a_up_ne (by omega)).trans ((a_up_ne (by omega)).trans (hR.g (k := 3) (a := 506) (by decide))) | exact (a_up_ne (by omega)).trans ((a_up_ne (by omega)).trans ((a_up_ne (by omega)).trans (hR.g (k := 3) (a := 506) (by decide)))) | exact (a_up_ne (by omega)).trans ((a_up_ne (by omega)).trans ((a_up_ne (by omega)).trans ((a_up_ne (by omega)).trans (hR.g (k := 3) (a := 506) (by decide))))) | exact (a_up_ne (by omega)).trans ((a_up_ne (by omega)).trans ((a_up_ne (by omega)).trans ((a_up_ne (by omega)).trans ((a_up_ne (by omega)).trans (hR.g (k := 3) (a := 506) (by decide)))))) | exact (a_up_ne (by omega)).trans ((a_up_ne (by omega)).trans ((a_up_ne (by omega)).trans ((a_up_ne (by omega)).trans ((a_up_ne (by omega)).trans ((a_up_ne (by omega)).trans (hR.g (k := 3) (a := 506) (by decide)))))))) ?_
    refine R_bipush (v := 96) dX12_giveSign_11 (by decide) ?_
    refine R_iload_1 dX12_giveSign_13 ?_
    refine R_imul dX12_giveSign_14 ?_
    refine R_iload_2 dX12_giveSign_15 ?_
    refine R_iadd dX12_giveSign_16 ?_
    refine R_iconst (v := 1) dX12_giveSign_17 (by decide) ?_
    refine R_iadd dX12_giveSign_18 ?_
    refine R_ialdE dX12_giveSign_19 sh_506 (ix3 n p) (by omega) (by decide) (hT.t hn ht hp1) ?_
    refine R_iload_4 dX12_giveSign_20 ?_
    refine R_callV (T := mX12_giveSign) (T' := mX12_give) (As := [_, _]) (ci := 12) okX12_give mlX12_268 rfl (by decide) sh_504 (ct_give hR hEn hEO hg hfd) rfl (by decide) (by decide) (Nat.le_of_ble_eq_true rfl) dX12_giveSign_22 (fun v9 S9 V2 h9 => ?_) (fun E S9 V9 h9 => h9.elim)
    obtain ⟨rfl, rfl, g4, u4⟩ := h9
    refine R_pop dX12_giveSign_25 rfl ?_
    refine R_goto 41 dX12_giveSign_26 (by decide) ?_
    refine R_vret rfl dX12_giveSign_41 (by first | exact ⟨rfl, rfl, by unfold gvs; rw [if_pos c3]; exact g4, u4⟩ | exact ⟨rfl, rfl, by unfold gvs; rw [if_neg c3]; exact GV.one, FrG.w.trans FrG.u⟩)

set_option maxHeartbeats 4000000 in
theorem ct_goDown {V : aV} {T : Nat → List Int32} {to : Nat → Bool} {n m p l : Nat} (hR : MR V) (hT : MT V T to) (hm : m < 8) (hl : l < 5) (h96 : to m = true → (T m).length ≤ 96) : CT mX12_goDown 1 0 0 [.ref 504, .int (nI n), .int (nI m), .int (nI p), .int (nI l)] Sh V (fun v S' V' => Sh = S' ∧ ((¬ to m = true ∧ v = some (.int (nI l)) ∧ TRo V' l n p 1 ∧ FrN l V V') ∨ (to m = true ∧ l = 4 ∧ v = some (.int (nI l)) ∧ TRo V' l n p 2 ∧ FrN l V V') ∨ (to m = true ∧ l < 4 ∧ v = some (.int (nI (l + 1))) ∧ LW V' (l + 1) m 0 0 0 0 ∧ V' 531 l = .int (nI p) ∧ FrN l V V' ∧ (∀ b, b < 530 ∨ 535 < b → V' b = V b) ∧ ∀ b, 530 ≤ b → b ≤ 535 → b ≠ 531 → ∀ j, j ≤ l → V' b j = V b j))) aNo := by
  refine CT_of (by decide +kernel) (Nat.le_of_ble_eq_true rfl) ?_
  show R _ _ _ _ _ _ _ _ 0 [some (.ref 504), some (.int (nI n)), some (.int (nI m)), some (.int (nI p)), some (.int (nI l))] [] _ _
  refine R_aload_0 dX12_goDown_0 ?_
  refine gfX12_16 rfl dX12_goDown_1 sh_504 (by first | exact hR.g (k := 4) (a := 507) (by decide) | exact (a_up_ne (by omega)).trans (hR.g (k := 4) (a := 507) (by decide)) | exact (a_up_ne (by omega)).trans ((a_up_ne (by omega)).trans (hR.g (k := 4) (a := 507) (by decide))) | exact (a_up_ne (by omega)).trans ((a_up_ne (by omega)).trans ((a_up_ne (by omega)).trans (hR.g (k := 4) (a := 507) (by decide)))) | exact (a_up_ne (by omega)).trans ((a_up_ne (by omega)).trans ((a_up_ne (by omega)).trans ((a_up_ne (by omega)).trans (hR.g (k := 4) (a := 507) (by decide))))) | exact (a_up_ne (by omega)).trans ((a_up_ne (by omega)).trans ((a_up_ne (by omega)).trans ((a_up_ne (by omega)).trans ((a_up_ne (by omega)).trans (hR.g (k := 4) (a := 507) (by decide)))))) | exact (a_up_ne (by omega)).trans ((a_up_ne (by omega)).trans ((a_up_ne (by omega)).trans ((a_up_ne (by omega)).trans ((a_up_ne (by omega)).trans ((a_up_ne (by omega)).trans (hR.g (k := 4) (a := 507) (by decide)))))))) ?_
  refine R_iload_2 dX12_goDown_4 ?_
  refine R_ialdE dX12_goDown_5 sh_507 rfl (by omega) (by decide) (hT m hm).1 ?_
  refine R_iconst (v := -1) dX12_goDown_6 (by decide) ?_
  by_cases htm : to m = true
  · rw [if_pos htm]
    refine R_icmp_ne 22 dX12_goDown_7 (by decide) (fun c7 => ?_) (fun c7 => absurd c7 (fun z => nI_pos (n := (T m).length) (by have := h96 htm; omega) (by rw [z]; decide)))
    refine R_iload_4 dX12_goDown_22 ?_
    refine R_iconst (v := 1) dX12_goDown_24 (by decide) ?_
    refine R_iadd dX12_goDown_25 ?_
    rw [nI_1]
    refine R_iconst (v := 5) dX12_goDown_26 (by decide) ?_
    refine R_icmp_ne 42 dX12_goDown_27 (by decide) (fun c27 => ?_) (fun c27 => ?_)
    · have l4 : l < 4 := by
        have : l + 1 ≠ 5 := fun z => c27 (by rw [z]; rfl)
        omega
      refine R_aload_0 dX12_goDown_42 ?_
      refine gfX12_96 rfl dX12_goDown_43 sh_504 (by first | exact hR.g (k := 37) (a := 531) (by decide) | exact (a_up_ne (by omega)).trans (hR.g (k := 37) (a := 531) (by decide)) | exact (a_up_ne (by omega)).trans ((a_up_ne (by omega)).trans (hR.g (k := 37) (a := 531) (by decide))) | exact (a_up_ne (by omega)).trans ((a_up_ne (by omega)).trans ((a_up_ne (by omega)).trans (hR.g (k := 37) (a := 531) (by decide)))) | exact (a_up_ne (by omega)).trans ((a_up_ne (by omega)).trans ((a_up_ne (by omega)).trans ((a_up_ne (by omega)).trans (hR.g (k := 37) (a := 531) (by decide))))) | exact (a_up_ne (by omega)).trans ((a_up_ne (by omega)).trans ((a_up_ne (by omega)).trans ((a_up_ne (by omega)).trans ((a_up_ne (by omega)).trans (hR.g (k := 37) (a := 531) (by decide)))))) | exact (a_up_ne (by omega)).trans ((a_up_ne (by omega)).trans ((a_up_ne (by omega)).trans ((a_up_ne (by omega)).trans ((a_up_ne (by omega)).trans ((a_up_ne (by omega)).trans (hR.g (k := 37) (a := 531) (by decide)))))))) ?_
      refine R_iload_4 dX12_goDown_46 ?_
      refine R_iload_3 dX12_goDown_48 ?_
      refine R_iastE dX12_goDown_49 sh_531 rfl (by omega) (by decide) ?_
      refine R_aload_0 dX12_goDown_50 ?_
      refine R_iload_2 dX12_goDown_51 ?_
      refine R_iload_4 dX12_goDown_52 ?_
      refine R_iconst (v := 1) dX12_goDown_54 (by decide) ?_
      refine R_iadd dX12_goDown_55 ?_
      rw [nI_1]
      refine R_callV (T := mX12_goDown) (T' := mX12_begin) (As := [_, _]) (ci := 12) okX12_begin mlX12_246 rfl (by decide) sh_504 (ct_begin (n := m) (l := l + 1) (hR.o (b := 531) (by decide)) (by omega)) rfl (by decide) (by decide) (Nat.le_of_ble_eq_true rfl) dX12_goDown_56 (fun v9 S9 V2 h9 => ?_) (fun E S9 V9 h9 => h9.elim)
      obtain ⟨rfl, rfl, g4, u4, g5⟩ := h9
      refine R_iload_4 dX12_goDown_59 ?_
      refine R_iconst (v := 1) dX12_goDown_61 (by decide) ?_
      refine R_iadd dX12_goDown_62 ?_
      rw [nI_1]
      refine R_iret rfl dX12_goDown_63 ⟨rfl, Or.inr (Or.inr ⟨htm, l4, rfl, g4, (u4.2.2 531 (by decide) (by decide) l (by omega)).trans (a_up_self _ _ _ _), (FrN.w (by decide) (by decide) (Nat.le_refl _)).trans (u4.le (by omega)), fun b q => (g5 b (by omega) (by omega)).trans (a_up_row (by omega)), fun b q1 q2 q3 j hj => (u4.2.2 b q1 q2 j (by omega)).trans (a_up_ne (Or.inl q3))⟩)⟩
    · have l4 : l = 4 := by
        have := (nI_eq (a := l + 1) (b := 5) (by omega) (by decide)).1 c27
        omega
      refine R_aload_0 dX12_goDown_30 ?_
      refine R_iconst (v := 2) dX12_goDown_31 (by decide) ?_
      refine R_iload_1 dX12_goDown_32 ?_
      refine R_iload_3 dX12_goDown_33 ?_
      refine R_iload_4 dX12_goDown_34 ?_
      refine R_callV (T := mX12_goDown) (T' := mX12_inTrouble) (As := [_, _, _, _]) (ci := 12) okX12_inTrouble mlX12_242 rfl (by decide) sh_504 (ct_inTrouble (c := 2) (n := n) (p := p) hR hl) rfl (by decide) (by decide) (Nat.le_of_ble_eq_true rfl) dX12_goDown_36 (fun v9 S9 V2 h9 => ?_) (fun E S9 V9 h9 => h9.elim)
      obtain ⟨rfl, rfl, g4, u4, -⟩ := h9
      refine R_iload_4 dX12_goDown_39 ?_
      refine R_iret rfl dX12_goDown_41 ⟨rfl, Or.inr (Or.inl ⟨htm, l4, rfl, g4, u4⟩)⟩
  · rw [if_neg htm]
    refine R_icmp_ne 22 dX12_goDown_7 (by decide) (fun c7 => absurd rfl c7) (fun c7 => ?_)
    refine R_aload_0 dX12_goDown_10 ?_
    refine R_iconst (v := 1) dX12_goDown_11 (by decide) ?_
    refine R_iload_1 dX12_goDown_12 ?_
    refine R_iload_3 dX12_goDown_13 ?_
    refine R_iload_4 dX12_goDown_14 ?_
    refine R_callV (T := mX12_goDown) (T' := mX12_inTrouble) (As := [_, _, _, _]) (ci := 12) okX12_inTrouble mlX12_242 rfl (by decide) sh_504 (ct_inTrouble (c := 1) (n := n) (p := p) hR hl) rfl (by decide) (by decide) (Nat.le_of_ble_eq_true rfl) dX12_goDown_16 (fun v9 S9 V2 h9 => ?_) (fun E S9 V9 h9 => h9.elim)
    obtain ⟨rfl, rfl, g4, u4, -⟩ := h9
    refine R_iload_4 dX12_goDown_19 ?_
    refine R_iret rfl dX12_goDown_21 ⟨rfl, Or.inl ⟨htm, rfl, g4, u4⟩⟩

/-! open -/
/-- the bits of the choices: that of k is b now, the others below 6 are what they were -/
def FB (fi fi' k : Nat) (b : Bool) : Prop := fi' < 64 ∧ fi'.testBit k = b ∧ ∀ i, i < 6 → i ≠ k → fi'.testBit i = fi.testBit i
theorem fb_t {fi k : Nat} (hf : fi < 64) (hk : k < 6) : FB fi (fi ||| 2 ^ k) k true := by
  refine ⟨Nat.or_lt_two_pow (n := 6) hf (Nat.pow_lt_pow_right (by decide) hk), by rw [Nat.testBit_or, Nat.testBit_two_pow_self, Bool.or_true], fun i _ hi => ?_⟩
  rw [Nat.testBit_or, Nat.testBit_two_pow, decide_eq_false (fun z => hi z.symm), Bool.or_false]
theorem fb_tab : ∀ (fi : Fin 64) (k : Fin 6), nI fi.val &&& (nI (2 ^ k.val) ^^^ -1) = nI (fi.val &&& (63 ^^^ 2 ^ k.val)) := by decide +kernel
theorem fb_tab2 : ∀ (k : Fin 6) (i : Fin 6), (63 ^^^ 2 ^ k.val).testBit i.val = decide (i.val ≠ k.val) := by decide +kernel
theorem fb_f {fi k : Nat} (hf : fi < 64) (hk : k < 6) : FB fi (fi &&& (63 ^^^ 2 ^ k)) k false := by
  have t := fun i (hi : i < 6) => fb_tab2 ⟨k, hk⟩ ⟨i, hi⟩
  refine ⟨Nat.lt_of_le_of_lt Nat.and_le_left hf, ?_, fun i hi hik => ?_⟩
  · have e := t k hk
    rw [Nat.testBit_and, show (63 ^^^ 2 ^ k : Nat).testBit k = decide (k ≠ k) from e, decide_eq_false (fun z => z rfl), Bool.and_false]
  · have e := t i hi
    rw [Nat.testBit_and, show (63 ^^^ 2 ^ k : Nat).testBit i = decide (i ≠ k) from e, decide_eq_true hik, Bool.and_true]
/-- as before but for one level's deeps and the like -/
def FrLv (l : Nat) (V V' : aV) : Prop := (∀ b, b ≠ 504 → (b < 532 ∨ 536 < b) → V' b = V b) ∧ (∀ k, k ≠ 43 → V' 504 k = V 504 k) ∧ ∀ b, 532 ≤ b → b ≤ 535 → ∀ j, j ≠ l → V' b j = V b j
theorem FrLv.refl {l : Nat} {V : aV} : FrLv l V V := ⟨fun _ _ _ => rfl, fun _ _ => rfl, fun _ _ _ _ _ => rfl⟩
theorem FrLv.trans {l : Nat} {V V1 V2 : aV} (h : FrLv l V V1) (g : FrLv l V1 V2) : FrLv l V V2 := ⟨fun b q1 q2 => (g.1 b q1 q2).trans (h.1 b q1 q2), fun k q => (g.2.1 k q).trans (h.2.1 k q), fun b q1 q2 j hj => (g.2.2 b q1 q2 j hj).trans (h.2.2 b q1 q2 j hj)⟩
theorem FrLv.u {l a : Nat} {v : Value} {V : aV} (h1 : 532 ≤ a) (h2 : a ≤ 535) : FrLv l V (a_up V a l v) := ⟨fun b _ q2 => a_up_row (by omega), fun k _ => a_up_ne (Or.inl (by omega)), fun b q1 q2 j hj => a_up_ne (Or.inr hj)⟩
theorem FrG.l {l : Nat} {V V' : aV} (h : FrG V V') : FrLv l V V' := ⟨fun b q1 q2 => h.1 b q1 (by omega), fun k q => h.2 k q, fun b q1 q2 j _ => congrFun (h.1 b (by omega) (by omega)) j⟩
theorem FrLv.n {l : Nat} {V V' : aV} (h : FrLv l V V') : FrN l V V' := ⟨fun b q1 q2 => h.1 b q1 (by omega), fun k _ _ _ q4 => h.2.1 k q4, fun b q1 q2 j hj => (Nat.lt_or_ge b 532).elim (fun z => congrFun (h.1 b (by omega) (Or.inl z)) j) (fun z => h.2.2 b z q2 j (by omega))⟩
theorem FrLv.tx {l : Nat} {V V' : aV} {x : List Int32} (h : FrLv l V V') (g : TX V x) : TX V' x := g.fr (h.1 529 (by decide) (by decide)) (h.2.1 32 (by decide))
/-- what the sign of a choice or of its bar or end leaves -/
def OPo (V : aV) (l n p dp : Nat) (dd : Nat) (F : Nat → Prop) : Option Value → aS → aV → Prop := fun v S' V' => none = v ∧ Sh = S' ∧ (∃ fi', F fi' ∧ LW V' l n p dp fi' dd) ∧ FrLv l V V'
theorem hld_c {v r n : Int32} (hr : isRl r) (h61 : ¬ r = 61) (h60 : ¬ r = 60) : r = 62 := hr.elim (fun z => absurd z h61) (fun z => z.elim (fun z => absurd z h60) id)
set_option maxHeartbeats 4000000 in
theorem op_num {mc ms kc ks : Nat} {V : aV} {T : Nat → List Int32} {to : Nat → Bool} {g n p l E : Nat} {N : Int32} (hR : MR V) (hT : MT V T to) (hn : n < 8) (ht : to n = true) (h96 : (T n).length ≤ 96) (hE : E < (T n).length) (h63 : (T n).getD E 0 = 63) {Q : Option Value → aS → aV → Prop} {QX : String → aS → aV → Prop} (hK : R mX12_open 2 mc ms Q QX kc ks 59 [some (.ref 504), some (.int (nI n)), some (.int (nI l)), some (.int (nI g)), some (.int (nI (96 * n + p))), some (.int (nI (96 * n + E))), some (.int N), none, none, none, none] [] Sh V) : ∀ (m q : Nat) (x : Int32), q + m < 900 → cNum (T n) m (nI q) x = (nI E, N) → R mX12_open 2 mc ms Q QX kc ks 22 [some (.ref 504), some (.int (nI n)), some (.int (nI l)), some (.int (nI g)), some (.int (nI (96 * n + p))), some (.int (nI (96 * n + q))), some (.int x), none, none, none, none] [] Sh V := by
  have nd : ¬ isDg ((T n).getD E 0) 57 := by rw [h63]; decide
  have fin : ∀ (q : Nat) (x : Int32), q < 900 → (nI q, x) = (nI E, N) → R mX12_open 2 mc ms Q QX kc ks 22 [some (.ref 504), some (.int (nI n)), some (.int (nI l)), some (.int (nI g)), some (.int (nI (96 * n + p))), some (.int (nI (96 * n + q))), some (.int x), none, none, none, none] [] Sh V := by
    intro q x hq e
    have e1 : q = E := (nI_eq (by omega) (by omega)).1 (Prod.mk.inj e).1
    have e2 := (Prod.mk.inj e).2
    subst e1
    subst e2
    refine R_aload_0 dX12_open_22 ?_
    refine gfX12_13 rfl dX12_open_23 sh_504 (by first | exact hR.g (k := 3) (a := 506) (by decide) | exact (a_up_ne (by omega)).trans (hR.g (k := 3) (a := 506) (by decide)) | exact (a_up_ne (by omega)).trans ((a_up_ne (by omega)).trans (hR.g (k := 3) (a := 506) (by decide))) | exact (a_up_ne (by omega)).trans ((a_up_ne (by omega)).trans ((a_up_ne (by omega)).trans (hR.g (k := 3) (a := 506) (by decide)))) | exact (a_up_ne (by omega)).trans ((a_up_ne (by omega)).trans ((a_up_ne (by omega)).trans ((a_up_ne (by omega)).trans (hR.g (k := 3) (a := 506) (by decide))))) | exact (a_up_ne (by omega)).trans ((a_up_ne (by omega)).trans ((a_up_ne (by omega)).trans ((a_up_ne (by omega)).trans ((a_up_ne (by omega)).trans (hR.g (k := 3) (a := 506) (by decide)))))) | exact (a_up_ne (by omega)).trans ((a_up_ne (by omega)).trans ((a_up_ne (by omega)).trans ((a_up_ne (by omega)).trans ((a_up_ne (by omega)).trans ((a_up_ne (by omega)).trans (hR.g (k := 3) (a := 506) (by decide)))))))) ?_
    refine R_iload_5 dX12_open_26 ?_
    refine R_ialdE dX12_open_28 sh_506 rfl (by omega) (by decide) (hT.t hn ht hE) ?_
    refine R_callS_e (T := mX12_open) (T' := mX12_isDigit) (As := [_]) okX12_isDigit mlX12_142 rfl (ct_misDigit _) rfl (by decide) (by decide) (Nat.le_of_ble_eq_true rfl) dX12_open_29 ?_
    refine R_if_eq 59 dX12_open_32 (by decide) (fun c32 => ?_) (fun c32 => absurd (bI_f nd) c32)
    exact hK
  intro m
  induction m with
  | zero => intro q x hq e; exact fin q x (by omega) e
  | succ m ih =>
    intro q x hq e
    have el : lAt (T n) (nI q) = (T n).getD q 0 := lAt_nI (by omega)
    by_cases d : isDg ((T n).getD q 0) 57
    · have e1 : cNum (T n) (m + 1) (nI q) x = cNum (T n) m (nI q + 1) (x * 10 + (lAt (T n) (nI q) - 48)) := if_pos (by rw [el]; exact d)
      rw [e1, nI_1, el] at e
      have hq9 := dg_lt2 d
      have ev : (10 : Int32) * x + (T n).getD q 0 - 48 = x * 10 + ((T n).getD q 0 - 48) := by rw [Int32.mul_comm, Int32.sub_eq_add_neg, Int32.sub_eq_add_neg, Int32.add_assoc]
      refine R_aload_0 dX12_open_22 ?_
      refine gfX12_13 rfl dX12_open_23 sh_504 (by first | exact hR.g (k := 3) (a := 506) (by decide) | exact (a_up_ne (by omega)).trans (hR.g (k := 3) (a := 506) (by decide)) | exact (a_up_ne (by omega)).trans ((a_up_ne (by omega)).trans (hR.g (k := 3) (a := 506) (by decide))) | exact (a_up_ne (by omega)).trans ((a_up_ne (by omega)).trans ((a_up_ne (by omega)).trans (hR.g (k := 3) (a := 506) (by decide)))) | exact (a_up_ne (by omega)).trans ((a_up_ne (by omega)).trans ((a_up_ne (by omega)).trans ((a_up_ne (by omega)).trans (hR.g (k := 3) (a := 506) (by decide))))) | exact (a_up_ne (by omega)).trans ((a_up_ne (by omega)).trans ((a_up_ne (by omega)).trans ((a_up_ne (by omega)).trans ((a_up_ne (by omega)).trans (hR.g (k := 3) (a := 506) (by decide)))))) | exact (a_up_ne (by omega)).trans ((a_up_ne (by omega)).trans ((a_up_ne (by omega)).trans ((a_up_ne (by omega)).trans ((a_up_ne (by omega)).trans ((a_up_ne (by omega)).trans (hR.g (k := 3) (a := 506) (by decide)))))))) ?_
      refine R_iload_5 dX12_open_26 ?_
      refine R_ialdE dX12_open_28 sh_506 rfl (by omega) (by decide) (hT.t hn ht hq9) ?_
      refine R_callS_e (T := mX12_open) (T' := mX12_isDigit) (As := [_]) okX12_isDigit mlX12_142 rfl (ct_misDigit _) rfl (by decide) (by decide) (Nat.le_of_ble_eq_true rfl) dX12_open_29 ?_
      refine R_if_eq 59 dX12_open_32 (by decide) (fun c32 => absurd c32 (fun z => bI_eq z d)) (fun c32 => ?_)
      refine R_bipush (v := 10) dX12_open_35 (by decide) ?_
      refine R_iload_6 dX12_open_37 ?_
      refine R_imul dX12_open_39 ?_
      refine R_aload_0 dX12_open_40 ?_
      refine gfX12_13 rfl dX12_open_41 sh_504 (by first | exact hR.g (k := 3) (a := 506) (by decide) | exact (a_up_ne (by omega)).trans (hR.g (k := 3) (a := 506) (by decide)) | exact (a_up_ne (by omega)).trans ((a_up_ne (by omega)).trans (hR.g (k := 3) (a := 506) (by decide))) | exact (a_up_ne (by omega)).trans ((a_up_ne (by omega)).trans ((a_up_ne (by omega)).trans (hR.g (k := 3) (a := 506) (by decide)))) | exact (a_up_ne (by omega)).trans ((a_up_ne (by omega)).trans ((a_up_ne (by omega)).trans ((a_up_ne (by omega)).trans (hR.g (k := 3) (a := 506) (by decide))))) | exact (a_up_ne (by omega)).trans ((a_up_ne (by omega)).trans ((a_up_ne (by omega)).trans ((a_up_ne (by omega)).trans ((a_up_ne (by omega)).trans (hR.g (k := 3) (a := 506) (by decide)))))) | exact (a_up_ne (by omega)).trans ((a_up_ne (by omega)).trans ((a_up_ne (by omega)).trans ((a_up_ne (by omega)).trans ((a_up_ne (by omega)).trans ((a_up_ne (by omega)).trans (hR.g (k := 3) (a := 506) (by decide)))))))) ?_
      refine R_iload_5 dX12_open_44 ?_
      refine R_ialdE dX12_open_46 sh_506 rfl (by omega) (by decide) (hT.t hn ht hq9) ?_
      refine R_iadd dX12_open_47 ?_
      refine R_bipush (v := 48) dX12_open_48 (by decide) ?_
      refine R_isub dX12_open_50 ?_
      rw [ev]
      refine R_istore_6 rfl (by decide) dX12_open_51 ?_
      refine R_iinc_5 rfl (by decide) dX12_open_53 rfl ?_
      rw [show nI (96 * n + q) + Int32.ofInt 1 = nI (96 * n + (q + 1)) from nI_1 _]
      refine R_goto 22 dX12_open_56 (by decide) ?_
      exact ih (q + 1) _ (by omega) e
    · have e1 : cNum (T n) (m + 1) (nI q) x = (nI q, x) := if_neg (by rw [el]; exact d)
      rw [e1] at e
      exact fin q x (by omega) e
set_option maxHeartbeats 4000000 in
theorem op_tail {mc ms kc ks : Nat} {V0 V : aV} {g n p l E dp fi dd : Nat} {N VV RR : Int32} {hb : Bool} (hR : MR V) (hW : LW V l n p dp fi dd) (hF : FrLv l V0 V) (hl : l < 5) (hdp : dp < 5) (hfi : fi < 64) (hdd : dd < 100) (hn : n < 8) {Q : Option Value → aS → aV → Prop} {QX : String → aS → aV → Prop} (hQ : ∀ V', (∃ fi', FB fi fi' (dp + 1) hb ∧ LW V' l n (E + 1) (dp + 1) fi' (if dd = 0 ∧ hb = false then dp + 1 else dd)) → FrLv l V0 V' → Q none Sh V') : R mX12_open 2 mc ms Q QX kc ks 144 [some (.ref 504), some (.int (nI n)), some (.int (nI l)), some (.int (nI g)), some (.int (nI (96 * n + p))), some (.int (nI (96 * n + E))), some (.int N), some (.int VV), some (.int RR), some (.int (bI (hb = true))), none] [] Sh V := by
  obtain ⟨w0, w1, w2, w3, w4⟩ := hW
  refine R_aload_0 dX12_open_144 ?_
  refine gfX12_102 rfl dX12_open_145 sh_504 (by first | exact hR.g (k := 39) (a := 533) (by decide) | exact (a_up_ne (by omega)).trans (hR.g (k := 39) (a := 533) (by decide)) | exact (a_up_ne (by omega)).trans ((a_up_ne (by omega)).trans (hR.g (k := 39) (a := 533) (by decide))) | exact (a_up_ne (by omega)).trans ((a_up_ne (by omega)).trans ((a_up_ne (by omega)).trans (hR.g (k := 39) (a := 533) (by decide)))) | exact (a_up_ne (by omega)).trans ((a_up_ne (by omega)).trans ((a_up_ne (by omega)).trans ((a_up_ne (by omega)).trans (hR.g (k := 39) (a := 533) (by decide))))) | exact (a_up_ne (by omega)).trans ((a_up_ne (by omega)).trans ((a_up_ne (by omega)).trans ((a_up_ne (by omega)).trans ((a_up_ne (by omega)).trans (hR.g (k := 39) (a := 533) (by decide)))))) | exact (a_up_ne (by omega)).trans ((a_up_ne (by omega)).trans ((a_up_ne (by omega)).trans ((a_up_ne (by omega)).trans ((a_up_ne (by omega)).trans ((a_up_ne (by omega)).trans (hR.g (k := 39) (a := 533) (by decide)))))))) ?_
  refine R_iload_2 dX12_open_148 ?_
  refine R_dup2_11 dX12_open_149 rfl rfl ?_
  refine R_ialdE dX12_open_150 sh_533 rfl (by omega) (by decide) w2 ?_
  refine R_iconst (v := 1) dX12_open_151 (by decide) ?_
  refine R_iadd dX12_open_152 ?_
  rw [nI_1]
  refine R_iastE dX12_open_153 sh_533 rfl (by omega) (by decide) ?_
  refine R_iconst (v := 1) dX12_open_154 (by decide) ?_
  refine R_aload_0 dX12_open_155 ?_
  refine gfX12_102 rfl dX12_open_156 sh_504 (by first | exact hR.g (k := 39) (a := 533) (by decide) | exact (a_up_ne (by omega)).trans (hR.g (k := 39) (a := 533) (by decide)) | exact (a_up_ne (by omega)).trans ((a_up_ne (by omega)).trans (hR.g (k := 39) (a := 533) (by decide))) | exact (a_up_ne (by omega)).trans ((a_up_ne (by omega)).trans ((a_up_ne (by omega)).trans (hR.g (k := 39) (a := 533) (by decide)))) | exact (a_up_ne (by omega)).trans ((a_up_ne (by omega)).trans ((a_up_ne (by omega)).trans ((a_up_ne (by omega)).trans (hR.g (k := 39) (a := 533) (by decide))))) | exact (a_up_ne (by omega)).trans ((a_up_ne (by omega)).trans ((a_up_ne (by omega)).trans ((a_up_ne (by omega)).trans ((a_up_ne (by omega)).trans (hR.g (k := 39) (a := 533) (by decide)))))) | exact (a_up_ne (by omega)).trans ((a_up_ne (by omega)).trans ((a_up_ne (by omega)).trans ((a_up_ne (by omega)).trans ((a_up_ne (by omega)).trans ((a_up_ne (by omega)).trans (hR.g (k := 39) (a := 533) (by decide)))))))) ?_
  refine R_iload_2 dX12_open_159 ?_
  refine R_ialdE dX12_open_160 sh_533 rfl (by omega) (by decide) (a_up_self _ _ _ _) ?_
  refine R_ishl dX12_open_161 ?_
  rw [bk_shl (k := dp + 1) (by omega)]
  refine R_istore_10 rfl (by decide) dX12_open_162 ?_
  refine R_aload_0 dX12_open_164 ?_
  refine gfX12_105 rfl dX12_open_165 sh_504 (by first | exact hR.g (k := 40) (a := 534) (by decide) | exact (a_up_ne (by omega)).trans (hR.g (k := 40) (a := 534) (by decide)) | exact (a_up_ne (by omega)).trans ((a_up_ne (by omega)).trans (hR.g (k := 40) (a := 534) (by decide))) | exact (a_up_ne (by omega)).trans ((a_up_ne (by omega)).trans ((a_up_ne (by omega)).trans (hR.g (k := 40) (a := 534) (by decide)))) | exact (a_up_ne (by omega)).trans ((a_up_ne (by omega)).trans ((a_up_ne (by omega)).trans ((a_up_ne (by omega)).trans (hR.g (k := 40) (a := 534) (by decide))))) | exact (a_up_ne (by omega)).trans ((a_up_ne (by omega)).trans ((a_up_ne (by omega)).trans ((a_up_ne (by omega)).trans ((a_up_ne (by omega)).trans (hR.g (k := 40) (a := 534) (by decide)))))) | exact (a_up_ne (by omega)).trans ((a_up_ne (by omega)).trans ((a_up_ne (by omega)).trans ((a_up_ne (by omega)).trans ((a_up_ne (by omega)).trans ((a_up_ne (by omega)).trans (hR.g (k := 40) (a := 534) (by decide)))))))) ?_
  refine R_iload_2 dX12_open_168 ?_
  refine R_iload_9 dX12_open_169 ?_
  refine R_if_eq 186 dX12_open_171 (by decide) (fun c171 => ?_) (fun c171 => ?_)
  · refine R_aload_0 dX12_open_186 ?_
    refine gfX12_105 rfl dX12_open_187 sh_504 (by first | exact hR.g (k := 40) (a := 534) (by decide) | exact (a_up_ne (by omega)).trans (hR.g (k := 40) (a := 534) (by decide)) | exact (a_up_ne (by omega)).trans ((a_up_ne (by omega)).trans (hR.g (k := 40) (a := 534) (by decide))) | exact (a_up_ne (by omega)).trans ((a_up_ne (by omega)).trans ((a_up_ne (by omega)).trans (hR.g (k := 40) (a := 534) (by decide)))) | exact (a_up_ne (by omega)).trans ((a_up_ne (by omega)).trans ((a_up_ne (by omega)).trans ((a_up_ne (by omega)).trans (hR.g (k := 40) (a := 534) (by decide))))) | exact (a_up_ne (by omega)).trans ((a_up_ne (by omega)).trans ((a_up_ne (by omega)).trans ((a_up_ne (by omega)).trans ((a_up_ne (by omega)).trans (hR.g (k := 40) (a := 534) (by decide)))))) | exact (a_up_ne (by omega)).trans ((a_up_ne (by omega)).trans ((a_up_ne (by omega)).trans ((a_up_ne (by omega)).trans ((a_up_ne (by omega)).trans ((a_up_ne (by omega)).trans (hR.g (k := 40) (a := 534) (by decide)))))))) ?_
    refine R_iload_2 dX12_open_190 ?_
    refine R_ialdE dX12_open_191 sh_534 rfl (by omega) (by decide) ((a_up_ne (Or.inl (by decide))).trans w3) ?_
    refine R_iload_10 dX12_open_192 ?_
    refine R_iconst (v := -1) dX12_open_194 (by decide) ?_
    refine R_ixor dX12_open_195 ?_
    refine R_iand dX12_open_196 ?_
    first
      | rw [fb_tab ⟨fi, hfi⟩ ⟨dp + 1, by omega⟩]
      | skip
    refine R_iastE dX12_open_197 sh_534 rfl (by omega) (by decide) ?_
    refine R_aload_0 dX12_open_198 ?_
    refine gfX12_108 rfl dX12_open_199 sh_504 (by first | exact hR.g (k := 41) (a := 535) (by decide) | exact (a_up_ne (by omega)).trans (hR.g (k := 41) (a := 535) (by decide)) | exact (a_up_ne (by omega)).trans ((a_up_ne (by omega)).trans (hR.g (k := 41) (a := 535) (by decide))) | exact (a_up_ne (by omega)).trans ((a_up_ne (by omega)).trans ((a_up_ne (by omega)).trans (hR.g (k := 41) (a := 535) (by decide)))) | exact (a_up_ne (by omega)).trans ((a_up_ne (by omega)).trans ((a_up_ne (by omega)).trans ((a_up_ne (by omega)).trans (hR.g (k := 41) (a := 535) (by decide))))) | exact (a_up_ne (by omega)).trans ((a_up_ne (by omega)).trans ((a_up_ne (by omega)).trans ((a_up_ne (by omega)).trans ((a_up_ne (by omega)).trans (hR.g (k := 41) (a := 535) (by decide)))))) | exact (a_up_ne (by omega)).trans ((a_up_ne (by omega)).trans ((a_up_ne (by omega)).trans ((a_up_ne (by omega)).trans ((a_up_ne (by omega)).trans ((a_up_ne (by omega)).trans (hR.g (k := 41) (a := 535) (by decide)))))))) ?_
    refine R_iload_2 dX12_open_202 ?_
    refine R_aload_0 dX12_open_203 ?_
    refine gfX12_108 rfl dX12_open_204 sh_504 (by first | exact hR.g (k := 41) (a := 535) (by decide) | exact (a_up_ne (by omega)).trans (hR.g (k := 41) (a := 535) (by decide)) | exact (a_up_ne (by omega)).trans ((a_up_ne (by omega)).trans (hR.g (k := 41) (a := 535) (by decide))) | exact (a_up_ne (by omega)).trans ((a_up_ne (by omega)).trans ((a_up_ne (by omega)).trans (hR.g (k := 41) (a := 535) (by decide)))) | exact (a_up_ne (by omega)).trans ((a_up_ne (by omega)).trans ((a_up_ne (by omega)).trans ((a_up_ne (by omega)).trans (hR.g (k := 41) (a := 535) (by decide))))) | exact (a_up_ne (by omega)).trans ((a_up_ne (by omega)).trans ((a_up_ne (by omega)).trans ((a_up_ne (by omega)).trans ((a_up_ne (by omega)).trans (hR.g (k := 41) (a := 535) (by decide)))))) | exact (a_up_ne (by omega)).trans ((a_up_ne (by omega)).trans ((a_up_ne (by omega)).trans ((a_up_ne (by omega)).trans ((a_up_ne (by omega)).trans ((a_up_ne (by omega)).trans (hR.g (k := 41) (a := 535) (by decide)))))))) ?_
    refine R_iload_2 dX12_open_207 ?_
    refine R_ialdE dX12_open_208 sh_535 rfl (by omega) (by decide) ((a_up_ne (Or.inl (by decide))).trans ((a_up_ne (Or.inl (by decide))).trans w4)) ?_
    refine R_if_ne 226 dX12_open_209 (by decide) (fun c209 => ?_) (fun c209 => ?_)
    · refine R_aload_0 dX12_open_226 ?_
      refine gfX12_108 rfl dX12_open_227 sh_504 (by first | exact hR.g (k := 41) (a := 535) (by decide) | exact (a_up_ne (by omega)).trans (hR.g (k := 41) (a := 535) (by decide)) | exact (a_up_ne (by omega)).trans ((a_up_ne (by omega)).trans (hR.g (k := 41) (a := 535) (by decide))) | exact (a_up_ne (by omega)).trans ((a_up_ne (by omega)).trans ((a_up_ne (by omega)).trans (hR.g (k := 41) (a := 535) (by decide)))) | exact (a_up_ne (by omega)).trans ((a_up_ne (by omega)).trans ((a_up_ne (by omega)).trans ((a_up_ne (by omega)).trans (hR.g (k := 41) (a := 535) (by decide))))) | exact (a_up_ne (by omega)).trans ((a_up_ne (by omega)).trans ((a_up_ne (by omega)).trans ((a_up_ne (by omega)).trans ((a_up_ne (by omega)).trans (hR.g (k := 41) (a := 535) (by decide)))))) | exact (a_up_ne (by omega)).trans ((a_up_ne (by omega)).trans ((a_up_ne (by omega)).trans ((a_up_ne (by omega)).trans ((a_up_ne (by omega)).trans ((a_up_ne (by omega)).trans (hR.g (k := 41) (a := 535) (by decide)))))))) ?_
      refine R_iload_2 dX12_open_230 ?_
      refine R_ialdE dX12_open_231 sh_535 rfl (by omega) (by decide) ((a_up_ne (Or.inl (by decide))).trans ((a_up_ne (Or.inl (by decide))).trans w4)) ?_
      refine R_iastE dX12_open_232 sh_535 rfl (by omega) (by decide) ?_
      refine R_aload_0 dX12_open_233 ?_
      refine gfX12_99 rfl dX12_open_234 sh_504 (by first | exact hR.g (k := 38) (a := 532) (by decide) | exact (a_up_ne (by omega)).trans (hR.g (k := 38) (a := 532) (by decide)) | exact (a_up_ne (by omega)).trans ((a_up_ne (by omega)).trans (hR.g (k := 38) (a := 532) (by decide))) | exact (a_up_ne (by omega)).trans ((a_up_ne (by omega)).trans ((a_up_ne (by omega)).trans (hR.g (k := 38) (a := 532) (by decide)))) | exact (a_up_ne (by omega)).trans ((a_up_ne (by omega)).trans ((a_up_ne (by omega)).trans ((a_up_ne (by omega)).trans (hR.g (k := 38) (a := 532) (by decide))))) | exact (a_up_ne (by omega)).trans ((a_up_ne (by omega)).trans ((a_up_ne (by omega)).trans ((a_up_ne (by omega)).trans ((a_up_ne (by omega)).trans (hR.g (k := 38) (a := 532) (by decide)))))) | exact (a_up_ne (by omega)).trans ((a_up_ne (by omega)).trans ((a_up_ne (by omega)).trans ((a_up_ne (by omega)).trans ((a_up_ne (by omega)).trans ((a_up_ne (by omega)).trans (hR.g (k := 38) (a := 532) (by decide)))))))) ?_
      refine R_iload_2 dX12_open_237 ?_
      refine R_iload_5 dX12_open_238 ?_
      refine R_iconst (v := 1) dX12_open_240 (by decide) ?_
      refine R_iadd dX12_open_241 ?_
      refine R_bipush (v := 96) dX12_open_242 (by decide) ?_
      refine R_iload_1 dX12_open_244 ?_
      refine R_imul dX12_open_245 ?_
      refine R_isub dX12_open_246 ?_
      rw [nI_1, show (96 : Int32) = nI 96 from rfl, pk_mul, pk_sub (by omega), show 96 * n + E + 1 - 96 * n = E + 1 by omega]
      refine R_iastE dX12_open_247 sh_532 rfl (by omega) (by decide) ?_
      refine R_vret rfl dX12_open_248 (by first | exact absurd c171 c214 | exact absurd c214 c171 | exact hQ _ ⟨_, (by rw [bI_ne c171]; exact fb_t hfi (by omega)), ⟨((a_up_ne (Or.inl (by decide))).trans ((a_up_ne (Or.inl (by decide))).trans ((a_up_ne (Or.inl (by decide))).trans ((a_up_ne (Or.inl (by decide))).trans w0)))), a_up_self _ _ _ _, ((a_up_ne (Or.inl (by decide))).trans ((a_up_ne (Or.inl (by decide))).trans ((a_up_ne (Or.inl (by decide))).trans (a_up_self _ _ _ _)))), ((a_up_ne (Or.inl (by decide))).trans ((a_up_ne (Or.inl (by decide))).trans (a_up_self _ _ _ _))), (by rw [if_neg (fun z => absurd (z.2.symm.trans (bI_ne c171)) (by decide))]; exact ((a_up_ne (Or.inl (by decide))).trans (a_up_self _ _ _ _)))⟩⟩ (hF.trans ((FrLv.u (by decide) (by decide)).trans ((FrLv.u (by decide) (by decide)).trans ((FrLv.u (by decide) (by decide)).trans (FrLv.u (by decide) (by decide)))))) | exact hQ _ ⟨_, (by rw [bI_ne c171]; exact fb_t hfi (by omega)), ⟨((a_up_ne (Or.inl (by decide))).trans ((a_up_ne (Or.inl (by decide))).trans ((a_up_ne (Or.inl (by decide))).trans ((a_up_ne (Or.inl (by decide))).trans w0)))), a_up_self _ _ _ _, ((a_up_ne (Or.inl (by decide))).trans ((a_up_ne (Or.inl (by decide))).trans ((a_up_ne (Or.inl (by decide))).trans (a_up_self _ _ _ _)))), ((a_up_ne (Or.inl (by decide))).trans ((a_up_ne (Or.inl (by decide))).trans (a_up_self _ _ _ _))), (by rw [if_neg (fun z => c209 (by rw [z.1]; rfl))]; exact ((a_up_ne (Or.inl (by decide))).trans (a_up_self _ _ _ _)))⟩⟩ (hF.trans ((FrLv.u (by decide) (by decide)).trans ((FrLv.u (by decide) (by decide)).trans ((FrLv.u (by decide) (by decide)).trans (FrLv.u (by decide) (by decide)))))) | exact hQ _ ⟨_, (by rw [Bool.eq_false_iff.2 (bI_eq c171)]; exact fb_f hfi (by omega)), ⟨((a_up_ne (Or.inl (by decide))).trans ((a_up_ne (Or.inl (by decide))).trans ((a_up_ne (Or.inl (by decide))).trans ((a_up_ne (Or.inl (by decide))).trans w0)))), a_up_self _ _ _ _, ((a_up_ne (Or.inl (by decide))).trans ((a_up_ne (Or.inl (by decide))).trans ((a_up_ne (Or.inl (by decide))).trans (a_up_self _ _ _ _)))), ((a_up_ne (Or.inl (by decide))).trans ((a_up_ne (Or.inl (by decide))).trans (a_up_self _ _ _ _))), (by rw [if_pos ⟨nI_0of (by omega) c209, Bool.eq_false_iff.2 (bI_eq c171)⟩]; exact ((a_up_ne (Or.inl (by decide))).trans (a_up_self _ _ _ _)))⟩⟩ (hF.trans ((FrLv.u (by decide) (by decide)).trans ((FrLv.u (by decide) (by decide)).trans ((FrLv.u (by decide) (by decide)).trans (FrLv.u (by decide) (by decide)))))) | exact hQ _ ⟨_, (by rw [Bool.eq_false_iff.2 (bI_eq c171)]; exact fb_f hfi (by omega)), ⟨((a_up_ne (Or.inl (by decide))).trans ((a_up_ne (Or.inl (by decide))).trans ((a_up_ne (Or.inl (by decide))).trans ((a_up_ne (Or.inl (by decide))).trans w0)))), a_up_self _ _ _ _, ((a_up_ne (Or.inl (by decide))).trans ((a_up_ne (Or.inl (by decide))).trans ((a_up_ne (Or.inl (by decide))).trans (a_up_self _ _ _ _)))), ((a_up_ne (Or.inl (by decide))).trans ((a_up_ne (Or.inl (by decide))).trans (a_up_self _ _ _ _))), (by rw [if_neg (fun z => c209 (by rw [z.1]; rfl))]; exact ((a_up_ne (Or.inl (by decide))).trans (a_up_self _ _ _ _)))⟩⟩ (hF.trans ((FrLv.u (by decide) (by decide)).trans ((FrLv.u (by decide) (by decide)).trans ((FrLv.u (by decide) (by decide)).trans (FrLv.u (by decide) (by decide)))))))
    · refine R_iload_9 dX12_open_212 ?_
      refine R_if_ne 226 dX12_open_214 (by decide) (fun c214 => ?_) (fun c214 => ?_)
      · refine R_aload_0 dX12_open_226 ?_
        refine gfX12_108 rfl dX12_open_227 sh_504 (by first | exact hR.g (k := 41) (a := 535) (by decide) | exact (a_up_ne (by omega)).trans (hR.g (k := 41) (a := 535) (by decide)) | exact (a_up_ne (by omega)).trans ((a_up_ne (by omega)).trans (hR.g (k := 41) (a := 535) (by decide))) | exact (a_up_ne (by omega)).trans ((a_up_ne (by omega)).trans ((a_up_ne (by omega)).trans (hR.g (k := 41) (a := 535) (by decide)))) | exact (a_up_ne (by omega)).trans ((a_up_ne (by omega)).trans ((a_up_ne (by omega)).trans ((a_up_ne (by omega)).trans (hR.g (k := 41) (a := 535) (by decide))))) | exact (a_up_ne (by omega)).trans ((a_up_ne (by omega)).trans ((a_up_ne (by omega)).trans ((a_up_ne (by omega)).trans ((a_up_ne (by omega)).trans (hR.g (k := 41) (a := 535) (by decide)))))) | exact (a_up_ne (by omega)).trans ((a_up_ne (by omega)).trans ((a_up_ne (by omega)).trans ((a_up_ne (by omega)).trans ((a_up_ne (by omega)).trans ((a_up_ne (by omega)).trans (hR.g (k := 41) (a := 535) (by decide)))))))) ?_
        refine R_iload_2 dX12_open_230 ?_
        refine R_ialdE dX12_open_231 sh_535 rfl (by omega) (by decide) ((a_up_ne (Or.inl (by decide))).trans ((a_up_ne (Or.inl (by decide))).trans w4)) ?_
        refine R_iastE dX12_open_232 sh_535 rfl (by omega) (by decide) ?_
        refine R_aload_0 dX12_open_233 ?_
        refine gfX12_99 rfl dX12_open_234 sh_504 (by first | exact hR.g (k := 38) (a := 532) (by decide) | exact (a_up_ne (by omega)).trans (hR.g (k := 38) (a := 532) (by decide)) | exact (a_up_ne (by omega)).trans ((a_up_ne (by omega)).trans (hR.g (k := 38) (a := 532) (by decide))) | exact (a_up_ne (by omega)).trans ((a_up_ne (by omega)).trans ((a_up_ne (by omega)).trans (hR.g (k := 38) (a := 532) (by decide)))) | exact (a_up_ne (by omega)).trans ((a_up_ne (by omega)).trans ((a_up_ne (by omega)).trans ((a_up_ne (by omega)).trans (hR.g (k := 38) (a := 532) (by decide))))) | exact (a_up_ne (by omega)).trans ((a_up_ne (by omega)).trans ((a_up_ne (by omega)).trans ((a_up_ne (by omega)).trans ((a_up_ne (by omega)).trans (hR.g (k := 38) (a := 532) (by decide)))))) | exact (a_up_ne (by omega)).trans ((a_up_ne (by omega)).trans ((a_up_ne (by omega)).trans ((a_up_ne (by omega)).trans ((a_up_ne (by omega)).trans ((a_up_ne (by omega)).trans (hR.g (k := 38) (a := 532) (by decide)))))))) ?_
        refine R_iload_2 dX12_open_237 ?_
        refine R_iload_5 dX12_open_238 ?_
        refine R_iconst (v := 1) dX12_open_240 (by decide) ?_
        refine R_iadd dX12_open_241 ?_
        refine R_bipush (v := 96) dX12_open_242 (by decide) ?_
        refine R_iload_1 dX12_open_244 ?_
        refine R_imul dX12_open_245 ?_
        refine R_isub dX12_open_246 ?_
        rw [nI_1, show (96 : Int32) = nI 96 from rfl, pk_mul, pk_sub (by omega), show 96 * n + E + 1 - 96 * n = E + 1 by omega]
        refine R_iastE dX12_open_247 sh_532 rfl (by omega) (by decide) ?_
        refine R_vret rfl dX12_open_248 (by first | exact absurd c171 c214 | exact absurd c214 c171 | exact hQ _ ⟨_, (by rw [bI_ne c171]; exact fb_t hfi (by omega)), ⟨((a_up_ne (Or.inl (by decide))).trans ((a_up_ne (Or.inl (by decide))).trans ((a_up_ne (Or.inl (by decide))).trans ((a_up_ne (Or.inl (by decide))).trans w0)))), a_up_self _ _ _ _, ((a_up_ne (Or.inl (by decide))).trans ((a_up_ne (Or.inl (by decide))).trans ((a_up_ne (Or.inl (by decide))).trans (a_up_self _ _ _ _)))), ((a_up_ne (Or.inl (by decide))).trans ((a_up_ne (Or.inl (by decide))).trans (a_up_self _ _ _ _))), (by rw [if_neg (fun z => absurd (z.2.symm.trans (bI_ne c171)) (by decide))]; exact ((a_up_ne (Or.inl (by decide))).trans (a_up_self _ _ _ _)))⟩⟩ (hF.trans ((FrLv.u (by decide) (by decide)).trans ((FrLv.u (by decide) (by decide)).trans ((FrLv.u (by decide) (by decide)).trans (FrLv.u (by decide) (by decide)))))) | exact hQ _ ⟨_, (by rw [bI_ne c171]; exact fb_t hfi (by omega)), ⟨((a_up_ne (Or.inl (by decide))).trans ((a_up_ne (Or.inl (by decide))).trans ((a_up_ne (Or.inl (by decide))).trans ((a_up_ne (Or.inl (by decide))).trans w0)))), a_up_self _ _ _ _, ((a_up_ne (Or.inl (by decide))).trans ((a_up_ne (Or.inl (by decide))).trans ((a_up_ne (Or.inl (by decide))).trans (a_up_self _ _ _ _)))), ((a_up_ne (Or.inl (by decide))).trans ((a_up_ne (Or.inl (by decide))).trans (a_up_self _ _ _ _))), (by rw [if_neg (fun z => c209 (by rw [z.1]; rfl))]; exact ((a_up_ne (Or.inl (by decide))).trans (a_up_self _ _ _ _)))⟩⟩ (hF.trans ((FrLv.u (by decide) (by decide)).trans ((FrLv.u (by decide) (by decide)).trans ((FrLv.u (by decide) (by decide)).trans (FrLv.u (by decide) (by decide)))))) | exact hQ _ ⟨_, (by rw [Bool.eq_false_iff.2 (bI_eq c171)]; exact fb_f hfi (by omega)), ⟨((a_up_ne (Or.inl (by decide))).trans ((a_up_ne (Or.inl (by decide))).trans ((a_up_ne (Or.inl (by decide))).trans ((a_up_ne (Or.inl (by decide))).trans w0)))), a_up_self _ _ _ _, ((a_up_ne (Or.inl (by decide))).trans ((a_up_ne (Or.inl (by decide))).trans ((a_up_ne (Or.inl (by decide))).trans (a_up_self _ _ _ _)))), ((a_up_ne (Or.inl (by decide))).trans ((a_up_ne (Or.inl (by decide))).trans (a_up_self _ _ _ _))), (by rw [if_pos ⟨nI_0of (by omega) c209, Bool.eq_false_iff.2 (bI_eq c171)⟩]; exact ((a_up_ne (Or.inl (by decide))).trans (a_up_self _ _ _ _)))⟩⟩ (hF.trans ((FrLv.u (by decide) (by decide)).trans ((FrLv.u (by decide) (by decide)).trans ((FrLv.u (by decide) (by decide)).trans (FrLv.u (by decide) (by decide)))))) | exact hQ _ ⟨_, (by rw [Bool.eq_false_iff.2 (bI_eq c171)]; exact fb_f hfi (by omega)), ⟨((a_up_ne (Or.inl (by decide))).trans ((a_up_ne (Or.inl (by decide))).trans ((a_up_ne (Or.inl (by decide))).trans ((a_up_ne (Or.inl (by decide))).trans w0)))), a_up_self _ _ _ _, ((a_up_ne (Or.inl (by decide))).trans ((a_up_ne (Or.inl (by decide))).trans ((a_up_ne (Or.inl (by decide))).trans (a_up_self _ _ _ _)))), ((a_up_ne (Or.inl (by decide))).trans ((a_up_ne (Or.inl (by decide))).trans (a_up_self _ _ _ _))), (by rw [if_neg (fun z => c209 (by rw [z.1]; rfl))]; exact ((a_up_ne (Or.inl (by decide))).trans (a_up_self _ _ _ _)))⟩⟩ (hF.trans ((FrLv.u (by decide) (by decide)).trans ((FrLv.u (by decide) (by decide)).trans ((FrLv.u (by decide) (by decide)).trans (FrLv.u (by decide) (by decide)))))))
      · refine R_aload_0 dX12_open_217 ?_
        refine gfX12_102 rfl dX12_open_218 sh_504 (by first | exact hR.g (k := 39) (a := 533) (by decide) | exact (a_up_ne (by omega)).trans (hR.g (k := 39) (a := 533) (by decide)) | exact (a_up_ne (by omega)).trans ((a_up_ne (by omega)).trans (hR.g (k := 39) (a := 533) (by decide))) | exact (a_up_ne (by omega)).trans ((a_up_ne (by omega)).trans ((a_up_ne (by omega)).trans (hR.g (k := 39) (a := 533) (by decide)))) | exact (a_up_ne (by omega)).trans ((a_up_ne (by omega)).trans ((a_up_ne (by omega)).trans ((a_up_ne (by omega)).trans (hR.g (k := 39) (a := 533) (by decide))))) | exact (a_up_ne (by omega)).trans ((a_up_ne (by omega)).trans ((a_up_ne (by omega)).trans ((a_up_ne (by omega)).trans ((a_up_ne (by omega)).trans (hR.g (k := 39) (a := 533) (by decide)))))) | exact (a_up_ne (by omega)).trans ((a_up_ne (by omega)).trans ((a_up_ne (by omega)).trans ((a_up_ne (by omega)).trans ((a_up_ne (by omega)).trans ((a_up_ne (by omega)).trans (hR.g (k := 39) (a := 533) (by decide)))))))) ?_
        refine R_iload_2 dX12_open_221 ?_
        refine R_ialdE dX12_open_222 sh_533 rfl (by omega) (by decide) ((a_up_ne (Or.inl (by decide))).trans (a_up_self _ _ _ _)) ?_
        refine R_goto 232 dX12_open_223 (by decide) ?_
        refine R_iastE dX12_open_232 sh_535 rfl (by omega) (by decide) ?_
        refine R_aload_0 dX12_open_233 ?_
        refine gfX12_99 rfl dX12_open_234 sh_504 (by first | exact hR.g (k := 38) (a := 532) (by decide) | exact (a_up_ne (by omega)).trans (hR.g (k := 38) (a := 532) (by decide)) | exact (a_up_ne (by omega)).trans ((a_up_ne (by omega)).trans (hR.g (k := 38) (a := 532) (by decide))) | exact (a_up_ne (by omega)).trans ((a_up_ne (by omega)).trans ((a_up_ne (by omega)).trans (hR.g (k := 38) (a := 532) (by decide)))) | exact (a_up_ne (by omega)).trans ((a_up_ne (by omega)).trans ((a_up_ne (by omega)).trans ((a_up_ne (by omega)).trans (hR.g (k := 38) (a := 532) (by decide))))) | exact (a_up_ne (by omega)).trans ((a_up_ne (by omega)).trans ((a_up_ne (by omega)).trans ((a_up_ne (by omega)).trans ((a_up_ne (by omega)).trans (hR.g (k := 38) (a := 532) (by decide)))))) | exact (a_up_ne (by omega)).trans ((a_up_ne (by omega)).trans ((a_up_ne (by omega)).trans ((a_up_ne (by omega)).trans ((a_up_ne (by omega)).trans ((a_up_ne (by omega)).trans (hR.g (k := 38) (a := 532) (by decide)))))))) ?_
        refine R_iload_2 dX12_open_237 ?_
        refine R_iload_5 dX12_open_238 ?_
        refine R_iconst (v := 1) dX12_open_240 (by decide) ?_
        refine R_iadd dX12_open_241 ?_
        refine R_bipush (v := 96) dX12_open_242 (by decide) ?_
        refine R_iload_1 dX12_open_244 ?_
        refine R_imul dX12_open_245 ?_
        refine R_isub dX12_open_246 ?_
        rw [nI_1, show (96 : Int32) = nI 96 from rfl, pk_mul, pk_sub (by omega), show 96 * n + E + 1 - 96 * n = E + 1 by omega]
        refine R_iastE dX12_open_247 sh_532 rfl (by omega) (by decide) ?_
        refine R_vret rfl dX12_open_248 (by first | exact absurd c171 c214 | exact absurd c214 c171 | exact hQ _ ⟨_, (by rw [bI_ne c171]; exact fb_t hfi (by omega)), ⟨((a_up_ne (Or.inl (by decide))).trans ((a_up_ne (Or.inl (by decide))).trans ((a_up_ne (Or.inl (by decide))).trans ((a_up_ne (Or.inl (by decide))).trans w0)))), a_up_self _ _ _ _, ((a_up_ne (Or.inl (by decide))).trans ((a_up_ne (Or.inl (by decide))).trans ((a_up_ne (Or.inl (by decide))).trans (a_up_self _ _ _ _)))), ((a_up_ne (Or.inl (by decide))).trans ((a_up_ne (Or.inl (by decide))).trans (a_up_self _ _ _ _))), (by rw [if_neg (fun z => absurd (z.2.symm.trans (bI_ne c171)) (by decide))]; exact ((a_up_ne (Or.inl (by decide))).trans (a_up_self _ _ _ _)))⟩⟩ (hF.trans ((FrLv.u (by decide) (by decide)).trans ((FrLv.u (by decide) (by decide)).trans ((FrLv.u (by decide) (by decide)).trans (FrLv.u (by decide) (by decide)))))) | exact hQ _ ⟨_, (by rw [bI_ne c171]; exact fb_t hfi (by omega)), ⟨((a_up_ne (Or.inl (by decide))).trans ((a_up_ne (Or.inl (by decide))).trans ((a_up_ne (Or.inl (by decide))).trans ((a_up_ne (Or.inl (by decide))).trans w0)))), a_up_self _ _ _ _, ((a_up_ne (Or.inl (by decide))).trans ((a_up_ne (Or.inl (by decide))).trans ((a_up_ne (Or.inl (by decide))).trans (a_up_self _ _ _ _)))), ((a_up_ne (Or.inl (by decide))).trans ((a_up_ne (Or.inl (by decide))).trans (a_up_self _ _ _ _))), (by rw [if_neg (fun z => c209 (by rw [z.1]; rfl))]; exact ((a_up_ne (Or.inl (by decide))).trans (a_up_self _ _ _ _)))⟩⟩ (hF.trans ((FrLv.u (by decide) (by decide)).trans ((FrLv.u (by decide) (by decide)).trans ((FrLv.u (by decide) (by decide)).trans (FrLv.u (by decide) (by decide)))))) | exact hQ _ ⟨_, (by rw [Bool.eq_false_iff.2 (bI_eq c171)]; exact fb_f hfi (by omega)), ⟨((a_up_ne (Or.inl (by decide))).trans ((a_up_ne (Or.inl (by decide))).trans ((a_up_ne (Or.inl (by decide))).trans ((a_up_ne (Or.inl (by decide))).trans w0)))), a_up_self _ _ _ _, ((a_up_ne (Or.inl (by decide))).trans ((a_up_ne (Or.inl (by decide))).trans ((a_up_ne (Or.inl (by decide))).trans (a_up_self _ _ _ _)))), ((a_up_ne (Or.inl (by decide))).trans ((a_up_ne (Or.inl (by decide))).trans (a_up_self _ _ _ _))), (by rw [if_pos ⟨nI_0of (by omega) c209, Bool.eq_false_iff.2 (bI_eq c171)⟩]; exact ((a_up_ne (Or.inl (by decide))).trans (a_up_self _ _ _ _)))⟩⟩ (hF.trans ((FrLv.u (by decide) (by decide)).trans ((FrLv.u (by decide) (by decide)).trans ((FrLv.u (by decide) (by decide)).trans (FrLv.u (by decide) (by decide)))))) | exact hQ _ ⟨_, (by rw [Bool.eq_false_iff.2 (bI_eq c171)]; exact fb_f hfi (by omega)), ⟨((a_up_ne (Or.inl (by decide))).trans ((a_up_ne (Or.inl (by decide))).trans ((a_up_ne (Or.inl (by decide))).trans ((a_up_ne (Or.inl (by decide))).trans w0)))), a_up_self _ _ _ _, ((a_up_ne (Or.inl (by decide))).trans ((a_up_ne (Or.inl (by decide))).trans ((a_up_ne (Or.inl (by decide))).trans (a_up_self _ _ _ _)))), ((a_up_ne (Or.inl (by decide))).trans ((a_up_ne (Or.inl (by decide))).trans (a_up_self _ _ _ _))), (by rw [if_neg (fun z => c209 (by rw [z.1]; rfl))]; exact ((a_up_ne (Or.inl (by decide))).trans (a_up_self _ _ _ _)))⟩⟩ (hF.trans ((FrLv.u (by decide) (by decide)).trans ((FrLv.u (by decide) (by decide)).trans ((FrLv.u (by decide) (by decide)).trans (FrLv.u (by decide) (by decide)))))))
  · refine R_aload_0 dX12_open_174 ?_
    refine gfX12_105 rfl dX12_open_175 sh_504 (by first | exact hR.g (k := 40) (a := 534) (by decide) | exact (a_up_ne (by omega)).trans (hR.g (k := 40) (a := 534) (by decide)) | exact (a_up_ne (by omega)).trans ((a_up_ne (by omega)).trans (hR.g (k := 40) (a := 534) (by decide))) | exact (a_up_ne (by omega)).trans ((a_up_ne (by omega)).trans ((a_up_ne (by omega)).trans (hR.g (k := 40) (a := 534) (by decide)))) | exact (a_up_ne (by omega)).trans ((a_up_ne (by omega)).trans ((a_up_ne (by omega)).trans ((a_up_ne (by omega)).trans (hR.g (k := 40) (a := 534) (by decide))))) | exact (a_up_ne (by omega)).trans ((a_up_ne (by omega)).trans ((a_up_ne (by omega)).trans ((a_up_ne (by omega)).trans ((a_up_ne (by omega)).trans (hR.g (k := 40) (a := 534) (by decide)))))) | exact (a_up_ne (by omega)).trans ((a_up_ne (by omega)).trans ((a_up_ne (by omega)).trans ((a_up_ne (by omega)).trans ((a_up_ne (by omega)).trans ((a_up_ne (by omega)).trans (hR.g (k := 40) (a := 534) (by decide)))))))) ?_
    refine R_iload_2 dX12_open_178 ?_
    refine R_ialdE dX12_open_179 sh_534 rfl (by omega) (by decide) ((a_up_ne (Or.inl (by decide))).trans w3) ?_
    refine R_iload_10 dX12_open_180 ?_
    refine R_ior dX12_open_182 ?_
    rw [bk_or]
    refine R_goto 197 dX12_open_183 (by decide) ?_
    first
      | rw [fb_tab ⟨fi, hfi⟩ ⟨dp + 1, by omega⟩]
      | skip
    refine R_iastE dX12_open_197 sh_534 rfl (by omega) (by decide) ?_
    refine R_aload_0 dX12_open_198 ?_
    refine gfX12_108 rfl dX12_open_199 sh_504 (by first | exact hR.g (k := 41) (a := 535) (by decide) | exact (a_up_ne (by omega)).trans (hR.g (k := 41) (a := 535) (by decide)) | exact (a_up_ne (by omega)).trans ((a_up_ne (by omega)).trans (hR.g (k := 41) (a := 535) (by decide))) | exact (a_up_ne (by omega)).trans ((a_up_ne (by omega)).trans ((a_up_ne (by omega)).trans (hR.g (k := 41) (a := 535) (by decide)))) | exact (a_up_ne (by omega)).trans ((a_up_ne (by omega)).trans ((a_up_ne (by omega)).trans ((a_up_ne (by omega)).trans (hR.g (k := 41) (a := 535) (by decide))))) | exact (a_up_ne (by omega)).trans ((a_up_ne (by omega)).trans ((a_up_ne (by omega)).trans ((a_up_ne (by omega)).trans ((a_up_ne (by omega)).trans (hR.g (k := 41) (a := 535) (by decide)))))) | exact (a_up_ne (by omega)).trans ((a_up_ne (by omega)).trans ((a_up_ne (by omega)).trans ((a_up_ne (by omega)).trans ((a_up_ne (by omega)).trans ((a_up_ne (by omega)).trans (hR.g (k := 41) (a := 535) (by decide)))))))) ?_
    refine R_iload_2 dX12_open_202 ?_
    refine R_aload_0 dX12_open_203 ?_
    refine gfX12_108 rfl dX12_open_204 sh_504 (by first | exact hR.g (k := 41) (a := 535) (by decide) | exact (a_up_ne (by omega)).trans (hR.g (k := 41) (a := 535) (by decide)) | exact (a_up_ne (by omega)).trans ((a_up_ne (by omega)).trans (hR.g (k := 41) (a := 535) (by decide))) | exact (a_up_ne (by omega)).trans ((a_up_ne (by omega)).trans ((a_up_ne (by omega)).trans (hR.g (k := 41) (a := 535) (by decide)))) | exact (a_up_ne (by omega)).trans ((a_up_ne (by omega)).trans ((a_up_ne (by omega)).trans ((a_up_ne (by omega)).trans (hR.g (k := 41) (a := 535) (by decide))))) | exact (a_up_ne (by omega)).trans ((a_up_ne (by omega)).trans ((a_up_ne (by omega)).trans ((a_up_ne (by omega)).trans ((a_up_ne (by omega)).trans (hR.g (k := 41) (a := 535) (by decide)))))) | exact (a_up_ne (by omega)).trans ((a_up_ne (by omega)).trans ((a_up_ne (by omega)).trans ((a_up_ne (by omega)).trans ((a_up_ne (by omega)).trans ((a_up_ne (by omega)).trans (hR.g (k := 41) (a := 535) (by decide)))))))) ?_
    refine R_iload_2 dX12_open_207 ?_
    refine R_ialdE dX12_open_208 sh_535 rfl (by omega) (by decide) ((a_up_ne (Or.inl (by decide))).trans ((a_up_ne (Or.inl (by decide))).trans w4)) ?_
    refine R_if_ne 226 dX12_open_209 (by decide) (fun c209 => ?_) (fun c209 => ?_)
    · refine R_aload_0 dX12_open_226 ?_
      refine gfX12_108 rfl dX12_open_227 sh_504 (by first | exact hR.g (k := 41) (a := 535) (by decide) | exact (a_up_ne (by omega)).trans (hR.g (k := 41) (a := 535) (by decide)) | exact (a_up_ne (by omega)).trans ((a_up_ne (by omega)).trans (hR.g (k := 41) (a := 535) (by decide))) | exact (a_up_ne (by omega)).trans ((a_up_ne (by omega)).trans ((a_up_ne (by omega)).trans (hR.g (k := 41) (a := 535) (by decide)))) | exact (a_up_ne (by omega)).trans ((a_up_ne (by omega)).trans ((a_up_ne (by omega)).trans ((a_up_ne (by omega)).trans (hR.g (k := 41) (a := 535) (by decide))))) | exact (a_up_ne (by omega)).trans ((a_up_ne (by omega)).trans ((a_up_ne (by omega)).trans ((a_up_ne (by omega)).trans ((a_up_ne (by omega)).trans (hR.g (k := 41) (a := 535) (by decide)))))) | exact (a_up_ne (by omega)).trans ((a_up_ne (by omega)).trans ((a_up_ne (by omega)).trans ((a_up_ne (by omega)).trans ((a_up_ne (by omega)).trans ((a_up_ne (by omega)).trans (hR.g (k := 41) (a := 535) (by decide)))))))) ?_
      refine R_iload_2 dX12_open_230 ?_
      refine R_ialdE dX12_open_231 sh_535 rfl (by omega) (by decide) ((a_up_ne (Or.inl (by decide))).trans ((a_up_ne (Or.inl (by decide))).trans w4)) ?_
      refine R_iastE dX12_open_232 sh_535 rfl (by omega) (by decide) ?_
      refine R_aload_0 dX12_open_233 ?_
      refine gfX12_99 rfl dX12_open_234 sh_504 (by first | exact hR.g (k := 38) (a := 532) (by decide) | exact (a_up_ne (by omega)).trans (hR.g (k := 38) (a := 532) (by decide)) | exact (a_up_ne (by omega)).trans ((a_up_ne (by omega)).trans (hR.g (k := 38) (a := 532) (by decide))) | exact (a_up_ne (by omega)).trans ((a_up_ne (by omega)).trans ((a_up_ne (by omega)).trans (hR.g (k := 38) (a := 532) (by decide)))) | exact (a_up_ne (by omega)).trans ((a_up_ne (by omega)).trans ((a_up_ne (by omega)).trans ((a_up_ne (by omega)).trans (hR.g (k := 38) (a := 532) (by decide))))) | exact (a_up_ne (by omega)).trans ((a_up_ne (by omega)).trans ((a_up_ne (by omega)).trans ((a_up_ne (by omega)).trans ((a_up_ne (by omega)).trans (hR.g (k := 38) (a := 532) (by decide)))))) | exact (a_up_ne (by omega)).trans ((a_up_ne (by omega)).trans ((a_up_ne (by omega)).trans ((a_up_ne (by omega)).trans ((a_up_ne (by omega)).trans ((a_up_ne (by omega)).trans (hR.g (k := 38) (a := 532) (by decide)))))))) ?_
      refine R_iload_2 dX12_open_237 ?_
      refine R_iload_5 dX12_open_238 ?_
      refine R_iconst (v := 1) dX12_open_240 (by decide) ?_
      refine R_iadd dX12_open_241 ?_
      refine R_bipush (v := 96) dX12_open_242 (by decide) ?_
      refine R_iload_1 dX12_open_244 ?_
      refine R_imul dX12_open_245 ?_
      refine R_isub dX12_open_246 ?_
      rw [nI_1, show (96 : Int32) = nI 96 from rfl, pk_mul, pk_sub (by omega), show 96 * n + E + 1 - 96 * n = E + 1 by omega]
      refine R_iastE dX12_open_247 sh_532 rfl (by omega) (by decide) ?_
      refine R_vret rfl dX12_open_248 (by first | exact absurd c171 c214 | exact absurd c214 c171 | exact hQ _ ⟨_, (by rw [bI_ne c171]; exact fb_t hfi (by omega)), ⟨((a_up_ne (Or.inl (by decide))).trans ((a_up_ne (Or.inl (by decide))).trans ((a_up_ne (Or.inl (by decide))).trans ((a_up_ne (Or.inl (by decide))).trans w0)))), a_up_self _ _ _ _, ((a_up_ne (Or.inl (by decide))).trans ((a_up_ne (Or.inl (by decide))).trans ((a_up_ne (Or.inl (by decide))).trans (a_up_self _ _ _ _)))), ((a_up_ne (Or.inl (by decide))).trans ((a_up_ne (Or.inl (by decide))).trans (a_up_self _ _ _ _))), (by rw [if_neg (fun z => absurd (z.2.symm.trans (bI_ne c171)) (by decide))]; exact ((a_up_ne (Or.inl (by decide))).trans (a_up_self _ _ _ _)))⟩⟩ (hF.trans ((FrLv.u (by decide) (by decide)).trans ((FrLv.u (by decide) (by decide)).trans ((FrLv.u (by decide) (by decide)).trans (FrLv.u (by decide) (by decide)))))) | exact hQ _ ⟨_, (by rw [bI_ne c171]; exact fb_t hfi (by omega)), ⟨((a_up_ne (Or.inl (by decide))).trans ((a_up_ne (Or.inl (by decide))).trans ((a_up_ne (Or.inl (by decide))).trans ((a_up_ne (Or.inl (by decide))).trans w0)))), a_up_self _ _ _ _, ((a_up_ne (Or.inl (by decide))).trans ((a_up_ne (Or.inl (by decide))).trans ((a_up_ne (Or.inl (by decide))).trans (a_up_self _ _ _ _)))), ((a_up_ne (Or.inl (by decide))).trans ((a_up_ne (Or.inl (by decide))).trans (a_up_self _ _ _ _))), (by rw [if_neg (fun z => c209 (by rw [z.1]; rfl))]; exact ((a_up_ne (Or.inl (by decide))).trans (a_up_self _ _ _ _)))⟩⟩ (hF.trans ((FrLv.u (by decide) (by decide)).trans ((FrLv.u (by decide) (by decide)).trans ((FrLv.u (by decide) (by decide)).trans (FrLv.u (by decide) (by decide)))))) | exact hQ _ ⟨_, (by rw [Bool.eq_false_iff.2 (bI_eq c171)]; exact fb_f hfi (by omega)), ⟨((a_up_ne (Or.inl (by decide))).trans ((a_up_ne (Or.inl (by decide))).trans ((a_up_ne (Or.inl (by decide))).trans ((a_up_ne (Or.inl (by decide))).trans w0)))), a_up_self _ _ _ _, ((a_up_ne (Or.inl (by decide))).trans ((a_up_ne (Or.inl (by decide))).trans ((a_up_ne (Or.inl (by decide))).trans (a_up_self _ _ _ _)))), ((a_up_ne (Or.inl (by decide))).trans ((a_up_ne (Or.inl (by decide))).trans (a_up_self _ _ _ _))), (by rw [if_pos ⟨nI_0of (by omega) c209, Bool.eq_false_iff.2 (bI_eq c171)⟩]; exact ((a_up_ne (Or.inl (by decide))).trans (a_up_self _ _ _ _)))⟩⟩ (hF.trans ((FrLv.u (by decide) (by decide)).trans ((FrLv.u (by decide) (by decide)).trans ((FrLv.u (by decide) (by decide)).trans (FrLv.u (by decide) (by decide)))))) | exact hQ _ ⟨_, (by rw [Bool.eq_false_iff.2 (bI_eq c171)]; exact fb_f hfi (by omega)), ⟨((a_up_ne (Or.inl (by decide))).trans ((a_up_ne (Or.inl (by decide))).trans ((a_up_ne (Or.inl (by decide))).trans ((a_up_ne (Or.inl (by decide))).trans w0)))), a_up_self _ _ _ _, ((a_up_ne (Or.inl (by decide))).trans ((a_up_ne (Or.inl (by decide))).trans ((a_up_ne (Or.inl (by decide))).trans (a_up_self _ _ _ _)))), ((a_up_ne (Or.inl (by decide))).trans ((a_up_ne (Or.inl (by decide))).trans (a_up_self _ _ _ _))), (by rw [if_neg (fun z => c209 (by rw [z.1]; rfl))]; exact ((a_up_ne (Or.inl (by decide))).trans (a_up_self _ _ _ _)))⟩⟩ (hF.trans ((FrLv.u (by decide) (by decide)).trans ((FrLv.u (by decide) (by decide)).trans ((FrLv.u (by decide) (by decide)).trans (FrLv.u (by decide) (by decide)))))))
    · refine R_iload_9 dX12_open_212 ?_
      refine R_if_ne 226 dX12_open_214 (by decide) (fun c214 => ?_) (fun c214 => ?_)
      · refine R_aload_0 dX12_open_226 ?_
        refine gfX12_108 rfl dX12_open_227 sh_504 (by first | exact hR.g (k := 41) (a := 535) (by decide) | exact (a_up_ne (by omega)).trans (hR.g (k := 41) (a := 535) (by decide)) | exact (a_up_ne (by omega)).trans ((a_up_ne (by omega)).trans (hR.g (k := 41) (a := 535) (by decide))) | exact (a_up_ne (by omega)).trans ((a_up_ne (by omega)).trans ((a_up_ne (by omega)).trans (hR.g (k := 41) (a := 535) (by decide)))) | exact (a_up_ne (by omega)).trans ((a_up_ne (by omega)).trans ((a_up_ne (by omega)).trans ((a_up_ne (by omega)).trans (hR.g (k := 41) (a := 535) (by decide))))) | exact (a_up_ne (by omega)).trans ((a_up_ne (by omega)).trans ((a_up_ne (by omega)).trans ((a_up_ne (by omega)).trans ((a_up_ne (by omega)).trans (hR.g (k := 41) (a := 535) (by decide)))))) | exact (a_up_ne (by omega)).trans ((a_up_ne (by omega)).trans ((a_up_ne (by omega)).trans ((a_up_ne (by omega)).trans ((a_up_ne (by omega)).trans ((a_up_ne (by omega)).trans (hR.g (k := 41) (a := 535) (by decide)))))))) ?_
        refine R_iload_2 dX12_open_230 ?_
        refine R_ialdE dX12_open_231 sh_535 rfl (by omega) (by decide) ((a_up_ne (Or.inl (by decide))).trans ((a_up_ne (Or.inl (by decide))).trans w4)) ?_
        refine R_iastE dX12_open_232 sh_535 rfl (by omega) (by decide) ?_
        refine R_aload_0 dX12_open_233 ?_
        refine gfX12_99 rfl dX12_open_234 sh_504 (by first | exact hR.g (k := 38) (a := 532) (by decide) | exact (a_up_ne (by omega)).trans (hR.g (k := 38) (a := 532) (by decide)) | exact (a_up_ne (by omega)).trans ((a_up_ne (by omega)).trans (hR.g (k := 38) (a := 532) (by decide))) | exact (a_up_ne (by omega)).trans ((a_up_ne (by omega)).trans ((a_up_ne (by omega)).trans (hR.g (k := 38) (a := 532) (by decide)))) | exact (a_up_ne (by omega)).trans ((a_up_ne (by omega)).trans ((a_up_ne (by omega)).trans ((a_up_ne (by omega)).trans (hR.g (k := 38) (a := 532) (by decide))))) | exact (a_up_ne (by omega)).trans ((a_up_ne (by omega)).trans ((a_up_ne (by omega)).trans ((a_up_ne (by omega)).trans ((a_up_ne (by omega)).trans (hR.g (k := 38) (a := 532) (by decide)))))) | exact (a_up_ne (by omega)).trans ((a_up_ne (by omega)).trans ((a_up_ne (by omega)).trans ((a_up_ne (by omega)).trans ((a_up_ne (by omega)).trans ((a_up_ne (by omega)).trans (hR.g (k := 38) (a := 532) (by decide)))))))) ?_
        refine R_iload_2 dX12_open_237 ?_
        refine R_iload_5 dX12_open_238 ?_
        refine R_iconst (v := 1) dX12_open_240 (by decide) ?_
        refine R_iadd dX12_open_241 ?_
        refine R_bipush (v := 96) dX12_open_242 (by decide) ?_
        refine R_iload_1 dX12_open_244 ?_
        refine R_imul dX12_open_245 ?_
        refine R_isub dX12_open_246 ?_
        rw [nI_1, show (96 : Int32) = nI 96 from rfl, pk_mul, pk_sub (by omega), show 96 * n + E + 1 - 96 * n = E + 1 by omega]
        refine R_iastE dX12_open_247 sh_532 rfl (by omega) (by decide) ?_
        refine R_vret rfl dX12_open_248 (by first | exact absurd c171 c214 | exact absurd c214 c171 | exact hQ _ ⟨_, (by rw [bI_ne c171]; exact fb_t hfi (by omega)), ⟨((a_up_ne (Or.inl (by decide))).trans ((a_up_ne (Or.inl (by decide))).trans ((a_up_ne (Or.inl (by decide))).trans ((a_up_ne (Or.inl (by decide))).trans w0)))), a_up_self _ _ _ _, ((a_up_ne (Or.inl (by decide))).trans ((a_up_ne (Or.inl (by decide))).trans ((a_up_ne (Or.inl (by decide))).trans (a_up_self _ _ _ _)))), ((a_up_ne (Or.inl (by decide))).trans ((a_up_ne (Or.inl (by decide))).trans (a_up_self _ _ _ _))), (by rw [if_neg (fun z => absurd (z.2.symm.trans (bI_ne c171)) (by decide))]; exact ((a_up_ne (Or.inl (by decide))).trans (a_up_self _ _ _ _)))⟩⟩ (hF.trans ((FrLv.u (by decide) (by decide)).trans ((FrLv.u (by decide) (by decide)).trans ((FrLv.u (by decide) (by decide)).trans (FrLv.u (by decide) (by decide)))))) | exact hQ _ ⟨_, (by rw [bI_ne c171]; exact fb_t hfi (by omega)), ⟨((a_up_ne (Or.inl (by decide))).trans ((a_up_ne (Or.inl (by decide))).trans ((a_up_ne (Or.inl (by decide))).trans ((a_up_ne (Or.inl (by decide))).trans w0)))), a_up_self _ _ _ _, ((a_up_ne (Or.inl (by decide))).trans ((a_up_ne (Or.inl (by decide))).trans ((a_up_ne (Or.inl (by decide))).trans (a_up_self _ _ _ _)))), ((a_up_ne (Or.inl (by decide))).trans ((a_up_ne (Or.inl (by decide))).trans (a_up_self _ _ _ _))), (by rw [if_neg (fun z => c209 (by rw [z.1]; rfl))]; exact ((a_up_ne (Or.inl (by decide))).trans (a_up_self _ _ _ _)))⟩⟩ (hF.trans ((FrLv.u (by decide) (by decide)).trans ((FrLv.u (by decide) (by decide)).trans ((FrLv.u (by decide) (by decide)).trans (FrLv.u (by decide) (by decide)))))) | exact hQ _ ⟨_, (by rw [Bool.eq_false_iff.2 (bI_eq c171)]; exact fb_f hfi (by omega)), ⟨((a_up_ne (Or.inl (by decide))).trans ((a_up_ne (Or.inl (by decide))).trans ((a_up_ne (Or.inl (by decide))).trans ((a_up_ne (Or.inl (by decide))).trans w0)))), a_up_self _ _ _ _, ((a_up_ne (Or.inl (by decide))).trans ((a_up_ne (Or.inl (by decide))).trans ((a_up_ne (Or.inl (by decide))).trans (a_up_self _ _ _ _)))), ((a_up_ne (Or.inl (by decide))).trans ((a_up_ne (Or.inl (by decide))).trans (a_up_self _ _ _ _))), (by rw [if_pos ⟨nI_0of (by omega) c209, Bool.eq_false_iff.2 (bI_eq c171)⟩]; exact ((a_up_ne (Or.inl (by decide))).trans (a_up_self _ _ _ _)))⟩⟩ (hF.trans ((FrLv.u (by decide) (by decide)).trans ((FrLv.u (by decide) (by decide)).trans ((FrLv.u (by decide) (by decide)).trans (FrLv.u (by decide) (by decide)))))) | exact hQ _ ⟨_, (by rw [Bool.eq_false_iff.2 (bI_eq c171)]; exact fb_f hfi (by omega)), ⟨((a_up_ne (Or.inl (by decide))).trans ((a_up_ne (Or.inl (by decide))).trans ((a_up_ne (Or.inl (by decide))).trans ((a_up_ne (Or.inl (by decide))).trans w0)))), a_up_self _ _ _ _, ((a_up_ne (Or.inl (by decide))).trans ((a_up_ne (Or.inl (by decide))).trans ((a_up_ne (Or.inl (by decide))).trans (a_up_self _ _ _ _)))), ((a_up_ne (Or.inl (by decide))).trans ((a_up_ne (Or.inl (by decide))).trans (a_up_self _ _ _ _))), (by rw [if_neg (fun z => c209 (by rw [z.1]; rfl))]; exact ((a_up_ne (Or.inl (by decide))).trans (a_up_self _ _ _ _)))⟩⟩ (hF.trans ((FrLv.u (by decide) (by decide)).trans ((FrLv.u (by decide) (by decide)).trans ((FrLv.u (by decide) (by decide)).trans (FrLv.u (by decide) (by decide)))))))
      · refine R_aload_0 dX12_open_217 ?_
        refine gfX12_102 rfl dX12_open_218 sh_504 (by first | exact hR.g (k := 39) (a := 533) (by decide) | exact (a_up_ne (by omega)).trans (hR.g (k := 39) (a := 533) (by decide)) | exact (a_up_ne (by omega)).trans ((a_up_ne (by omega)).trans (hR.g (k := 39) (a := 533) (by decide))) | exact (a_up_ne (by omega)).trans ((a_up_ne (by omega)).trans ((a_up_ne (by omega)).trans (hR.g (k := 39) (a := 533) (by decide)))) | exact (a_up_ne (by omega)).trans ((a_up_ne (by omega)).trans ((a_up_ne (by omega)).trans ((a_up_ne (by omega)).trans (hR.g (k := 39) (a := 533) (by decide))))) | exact (a_up_ne (by omega)).trans ((a_up_ne (by omega)).trans ((a_up_ne (by omega)).trans ((a_up_ne (by omega)).trans ((a_up_ne (by omega)).trans (hR.g (k := 39) (a := 533) (by decide)))))) | exact (a_up_ne (by omega)).trans ((a_up_ne (by omega)).trans ((a_up_ne (by omega)).trans ((a_up_ne (by omega)).trans ((a_up_ne (by omega)).trans ((a_up_ne (by omega)).trans (hR.g (k := 39) (a := 533) (by decide)))))))) ?_
        refine R_iload_2 dX12_open_221 ?_
        refine R_ialdE dX12_open_222 sh_533 rfl (by omega) (by decide) ((a_up_ne (Or.inl (by decide))).trans (a_up_self _ _ _ _)) ?_
        refine R_goto 232 dX12_open_223 (by decide) ?_
        refine R_iastE dX12_open_232 sh_535 rfl (by omega) (by decide) ?_
        refine R_aload_0 dX12_open_233 ?_
        refine gfX12_99 rfl dX12_open_234 sh_504 (by first | exact hR.g (k := 38) (a := 532) (by decide) | exact (a_up_ne (by omega)).trans (hR.g (k := 38) (a := 532) (by decide)) | exact (a_up_ne (by omega)).trans ((a_up_ne (by omega)).trans (hR.g (k := 38) (a := 532) (by decide))) | exact (a_up_ne (by omega)).trans ((a_up_ne (by omega)).trans ((a_up_ne (by omega)).trans (hR.g (k := 38) (a := 532) (by decide)))) | exact (a_up_ne (by omega)).trans ((a_up_ne (by omega)).trans ((a_up_ne (by omega)).trans ((a_up_ne (by omega)).trans (hR.g (k := 38) (a := 532) (by decide))))) | exact (a_up_ne (by omega)).trans ((a_up_ne (by omega)).trans ((a_up_ne (by omega)).trans ((a_up_ne (by omega)).trans ((a_up_ne (by omega)).trans (hR.g (k := 38) (a := 532) (by decide)))))) | exact (a_up_ne (by omega)).trans ((a_up_ne (by omega)).trans ((a_up_ne (by omega)).trans ((a_up_ne (by omega)).trans ((a_up_ne (by omega)).trans ((a_up_ne (by omega)).trans (hR.g (k := 38) (a := 532) (by decide)))))))) ?_
        refine R_iload_2 dX12_open_237 ?_
        refine R_iload_5 dX12_open_238 ?_
        refine R_iconst (v := 1) dX12_open_240 (by decide) ?_
        refine R_iadd dX12_open_241 ?_
        refine R_bipush (v := 96) dX12_open_242 (by decide) ?_
        refine R_iload_1 dX12_open_244 ?_
        refine R_imul dX12_open_245 ?_
        refine R_isub dX12_open_246 ?_
        rw [nI_1, show (96 : Int32) = nI 96 from rfl, pk_mul, pk_sub (by omega), show 96 * n + E + 1 - 96 * n = E + 1 by omega]
        refine R_iastE dX12_open_247 sh_532 rfl (by omega) (by decide) ?_
        refine R_vret rfl dX12_open_248 (by first | exact absurd c171 c214 | exact absurd c214 c171 | exact hQ _ ⟨_, (by rw [bI_ne c171]; exact fb_t hfi (by omega)), ⟨((a_up_ne (Or.inl (by decide))).trans ((a_up_ne (Or.inl (by decide))).trans ((a_up_ne (Or.inl (by decide))).trans ((a_up_ne (Or.inl (by decide))).trans w0)))), a_up_self _ _ _ _, ((a_up_ne (Or.inl (by decide))).trans ((a_up_ne (Or.inl (by decide))).trans ((a_up_ne (Or.inl (by decide))).trans (a_up_self _ _ _ _)))), ((a_up_ne (Or.inl (by decide))).trans ((a_up_ne (Or.inl (by decide))).trans (a_up_self _ _ _ _))), (by rw [if_neg (fun z => absurd (z.2.symm.trans (bI_ne c171)) (by decide))]; exact ((a_up_ne (Or.inl (by decide))).trans (a_up_self _ _ _ _)))⟩⟩ (hF.trans ((FrLv.u (by decide) (by decide)).trans ((FrLv.u (by decide) (by decide)).trans ((FrLv.u (by decide) (by decide)).trans (FrLv.u (by decide) (by decide)))))) | exact hQ _ ⟨_, (by rw [bI_ne c171]; exact fb_t hfi (by omega)), ⟨((a_up_ne (Or.inl (by decide))).trans ((a_up_ne (Or.inl (by decide))).trans ((a_up_ne (Or.inl (by decide))).trans ((a_up_ne (Or.inl (by decide))).trans w0)))), a_up_self _ _ _ _, ((a_up_ne (Or.inl (by decide))).trans ((a_up_ne (Or.inl (by decide))).trans ((a_up_ne (Or.inl (by decide))).trans (a_up_self _ _ _ _)))), ((a_up_ne (Or.inl (by decide))).trans ((a_up_ne (Or.inl (by decide))).trans (a_up_self _ _ _ _))), (by rw [if_neg (fun z => c209 (by rw [z.1]; rfl))]; exact ((a_up_ne (Or.inl (by decide))).trans (a_up_self _ _ _ _)))⟩⟩ (hF.trans ((FrLv.u (by decide) (by decide)).trans ((FrLv.u (by decide) (by decide)).trans ((FrLv.u (by decide) (by decide)).trans (FrLv.u (by decide) (by decide)))))) | exact hQ _ ⟨_, (by rw [Bool.eq_false_iff.2 (bI_eq c171)]; exact fb_f hfi (by omega)), ⟨((a_up_ne (Or.inl (by decide))).trans ((a_up_ne (Or.inl (by decide))).trans ((a_up_ne (Or.inl (by decide))).trans ((a_up_ne (Or.inl (by decide))).trans w0)))), a_up_self _ _ _ _, ((a_up_ne (Or.inl (by decide))).trans ((a_up_ne (Or.inl (by decide))).trans ((a_up_ne (Or.inl (by decide))).trans (a_up_self _ _ _ _)))), ((a_up_ne (Or.inl (by decide))).trans ((a_up_ne (Or.inl (by decide))).trans (a_up_self _ _ _ _))), (by rw [if_pos ⟨nI_0of (by omega) c209, Bool.eq_false_iff.2 (bI_eq c171)⟩]; exact ((a_up_ne (Or.inl (by decide))).trans (a_up_self _ _ _ _)))⟩⟩ (hF.trans ((FrLv.u (by decide) (by decide)).trans ((FrLv.u (by decide) (by decide)).trans ((FrLv.u (by decide) (by decide)).trans (FrLv.u (by decide) (by decide)))))) | exact hQ _ ⟨_, (by rw [Bool.eq_false_iff.2 (bI_eq c171)]; exact fb_f hfi (by omega)), ⟨((a_up_ne (Or.inl (by decide))).trans ((a_up_ne (Or.inl (by decide))).trans ((a_up_ne (Or.inl (by decide))).trans ((a_up_ne (Or.inl (by decide))).trans w0)))), a_up_self _ _ _ _, ((a_up_ne (Or.inl (by decide))).trans ((a_up_ne (Or.inl (by decide))).trans ((a_up_ne (Or.inl (by decide))).trans (a_up_self _ _ _ _)))), ((a_up_ne (Or.inl (by decide))).trans ((a_up_ne (Or.inl (by decide))).trans (a_up_self _ _ _ _))), (by rw [if_neg (fun z => c209 (by rw [z.1]; rfl))]; exact ((a_up_ne (Or.inl (by decide))).trans (a_up_self _ _ _ _)))⟩⟩ (hF.trans ((FrLv.u (by decide) (by decide)).trans ((FrLv.u (by decide) (by decide)).trans ((FrLv.u (by decide) (by decide)).trans (FrLv.u (by decide) (by decide)))))))
set_option maxHeartbeats 4000000 in
theorem ct_mopen {V : aV} {T : Nat → List Int32} {to : Nat → Bool} {ent : Nat → EntN} {cnt g n p : Nat} (hR : MR V) (hT : MT V T to) (hEn : ME V ent cnt) (hEO : ∀ k, k < 12 → EO (ent k)) (hg : MBR g) (hn : n < 8) (ht : to n = true) (h96 : (T n).length ≤ 96) {l dp fi dd : Nat} (hW : LW V l n p dp fi dd) (hC : CHd (T n) p) (hl : l < 5) (hdp : dp < 5) (hfi : fi < 64) (hdd : dd < 100) : CT mX12_open 2 0 0 [.ref 504, .int (nI n), .int (nI l), .int (nI g)] Sh V (OPo V l n (hE (T n) p + 1) (dp + 1) (if dd = 0 ∧ (decide (hld (hVal (fV ent g) ((T n).getD (p + 1) 0)) ((T n).getD (p + 2) 0) (hN (T n) p))) = false then dp + 1 else dd) (fun fi' => FB fi fi' (dp + 1) (decide (hld (hVal (fV ent g) ((T n).getD (p + 1) 0)) ((T n).getD (p + 2) 0) (hN (T n) p))))) aNo := by
  refine CT_of (by decide +kernel) (Nat.le_of_ble_eq_true rfl) ?_
  show R _ _ _ _ _ _ _ _ 0 [some (.ref 504), some (.int (nI n)), some (.int (nI l)), some (.int (nI g)), none, none, none, none, none, none, none] [] _ _
  obtain ⟨ch1, ch2, ch3, ch4, ch5, ch6, ch7⟩ := hC
  have hW' := hW
  obtain ⟨w0, w1, w2, w3, w4⟩ := hW
  have eN := cN3 (A := T n) (p := p + 3) (by omega) ch4
  refine R_bipush (v := 96) dX12_open_0 (by decide) ?_
  refine R_iload_1 dX12_open_2 ?_
  refine R_imul dX12_open_3 ?_
  refine R_aload_0 dX12_open_4 ?_
  refine gfX12_99 rfl dX12_open_5 sh_504 (by first | exact hR.g (k := 38) (a := 532) (by decide) | exact (a_up_ne (by omega)).trans (hR.g (k := 38) (a := 532) (by decide)) | exact (a_up_ne (by omega)).trans ((a_up_ne (by omega)).trans (hR.g (k := 38) (a := 532) (by decide))) | exact (a_up_ne (by omega)).trans ((a_up_ne (by omega)).trans ((a_up_ne (by omega)).trans (hR.g (k := 38) (a := 532) (by decide)))) | exact (a_up_ne (by omega)).trans ((a_up_ne (by omega)).trans ((a_up_ne (by omega)).trans ((a_up_ne (by omega)).trans (hR.g (k := 38) (a := 532) (by decide))))) | exact (a_up_ne (by omega)).trans ((a_up_ne (by omega)).trans ((a_up_ne (by omega)).trans ((a_up_ne (by omega)).trans ((a_up_ne (by omega)).trans (hR.g (k := 38) (a := 532) (by decide)))))) | exact (a_up_ne (by omega)).trans ((a_up_ne (by omega)).trans ((a_up_ne (by omega)).trans ((a_up_ne (by omega)).trans ((a_up_ne (by omega)).trans ((a_up_ne (by omega)).trans (hR.g (k := 38) (a := 532) (by decide)))))))) ?_
  refine R_iload_2 dX12_open_8 ?_
  refine R_ialdE dX12_open_9 sh_532 rfl (by omega) (by decide) w1 ?_
  refine R_iadd dX12_open_10 ?_
  rw [show (96 : Int32) = nI 96 from rfl, ix1]
  refine R_istore_4 rfl (by decide) dX12_open_11 ?_
  refine R_iload_4 dX12_open_13 ?_
  refine R_iconst (v := 3) dX12_open_15 (by decide) ?_
  refine R_iadd dX12_open_16 ?_
  rw [show nI (96 * n + p) + 3 = nI (96 * n + (p + 3)) from nI_add _ 3]
  refine R_istore_5 rfl (by decide) dX12_open_17 ?_
  refine R_iconst (v := 0) dX12_open_19 (by decide) ?_
  refine R_istore_6 rfl (by decide) dX12_open_20 ?_
  refine op_num (E := hE (T n) p) (N := hN (T n) p) hR hT hn ht h96 ch7 ch5 ?_ 3 (p + 3) 0 (by omega) eN
  refine R_aload_0 dX12_open_59 ?_
  refine R_aload_0 dX12_open_60 ?_
  refine gfX12_13 rfl dX12_open_61 sh_504 (by first | exact hR.g (k := 3) (a := 506) (by decide) | exact (a_up_ne (by omega)).trans (hR.g (k := 3) (a := 506) (by decide)) | exact (a_up_ne (by omega)).trans ((a_up_ne (by omega)).trans (hR.g (k := 3) (a := 506) (by decide))) | exact (a_up_ne (by omega)).trans ((a_up_ne (by omega)).trans ((a_up_ne (by omega)).trans (hR.g (k := 3) (a := 506) (by decide)))) | exact (a_up_ne (by omega)).trans ((a_up_ne (by omega)).trans ((a_up_ne (by omega)).trans ((a_up_ne (by omega)).trans (hR.g (k := 3) (a := 506) (by decide))))) | exact (a_up_ne (by omega)).trans ((a_up_ne (by omega)).trans ((a_up_ne (by omega)).trans ((a_up_ne (by omega)).trans ((a_up_ne (by omega)).trans (hR.g (k := 3) (a := 506) (by decide)))))) | exact (a_up_ne (by omega)).trans ((a_up_ne (by omega)).trans ((a_up_ne (by omega)).trans ((a_up_ne (by omega)).trans ((a_up_ne (by omega)).trans ((a_up_ne (by omega)).trans (hR.g (k := 3) (a := 506) (by decide)))))))) ?_
  refine R_iload_4 dX12_open_64 ?_
  refine R_iconst (v := 1) dX12_open_66 (by decide) ?_
  refine R_iadd dX12_open_67 ?_
  refine R_ialdE dX12_open_68 sh_506 (nI_1 _) (by omega) (by decide) (hT.t (p := p + 1) hn ht (by omega)) ?_
  refine R_iload_3 dX12_open_69 ?_
  refine R_callV (T := mX12_open) (T' := mX12_give) (As := [_, _]) (ci := 12) okX12_give mlX12_268 rfl (by decide) sh_504 (ct_give hR hEn hEO hg ch2) rfl (by decide) (by decide) (Nat.le_of_ble_eq_true rfl) dX12_open_70 (fun v9 S9 V2 h9 => ?_) (fun E S9 V9 h9 => h9.elim)
  obtain ⟨rfl, rfl, g4, u4⟩ := h9
  have hT2 := (u4.n (l := 0)).mt hT
  have hR := u4.mr hR
  refine R_istore_7 rfl (by decide) dX12_open_73 ?_
  refine R_aload_0 dX12_open_75 ?_
  refine gfX12_13 rfl dX12_open_76 sh_504 (by first | exact hR.g (k := 3) (a := 506) (by decide) | exact (a_up_ne (by omega)).trans (hR.g (k := 3) (a := 506) (by decide)) | exact (a_up_ne (by omega)).trans ((a_up_ne (by omega)).trans (hR.g (k := 3) (a := 506) (by decide))) | exact (a_up_ne (by omega)).trans ((a_up_ne (by omega)).trans ((a_up_ne (by omega)).trans (hR.g (k := 3) (a := 506) (by decide)))) | exact (a_up_ne (by omega)).trans ((a_up_ne (by omega)).trans ((a_up_ne (by omega)).trans ((a_up_ne (by omega)).trans (hR.g (k := 3) (a := 506) (by decide))))) | exact (a_up_ne (by omega)).trans ((a_up_ne (by omega)).trans ((a_up_ne (by omega)).trans ((a_up_ne (by omega)).trans ((a_up_ne (by omega)).trans (hR.g (k := 3) (a := 506) (by decide)))))) | exact (a_up_ne (by omega)).trans ((a_up_ne (by omega)).trans ((a_up_ne (by omega)).trans ((a_up_ne (by omega)).trans ((a_up_ne (by omega)).trans ((a_up_ne (by omega)).trans (hR.g (k := 3) (a := 506) (by decide)))))))) ?_
  refine R_iload_4 dX12_open_79 ?_
  refine R_iconst (v := 2) dX12_open_81 (by decide) ?_
  refine R_iadd dX12_open_82 ?_
  refine R_ialdE dX12_open_83 sh_506 (nI_add _ 2) (by omega) (by decide) (hT2.t (p := p + 2) hn ht (by omega)) ?_
  refine R_istore_8 rfl (by decide) dX12_open_84 ?_
  refine R_iload_8 dX12_open_86 ?_
  refine R_bipush (v := 61) dX12_open_88 (by decide) ?_
  refine R_icmp_ne 108 dX12_open_90 (by decide) (fun c90 => ?_) (fun c90 => ?_)
  · refine R_iload_8 dX12_open_108 ?_
    refine R_bipush (v := 60) dX12_open_110 (by decide) ?_
    refine R_icmp_ne 130 dX12_open_112 (by decide) (fun c112 => ?_) (fun c112 => ?_)
    · refine R_iload_7 dX12_open_130 ?_
      refine R_iload_6 dX12_open_132 ?_
      refine R_icmp_le 141 dX12_open_134 (by decide) (fun c134 => ?_) (fun c134 => ?_)
      · refine R_iconst (v := 0) dX12_open_141 (by decide) ?_
        refine R_istore_9 rfl (by decide) dX12_open_142 ?_
        first
          | (have e9 : some (Value.int 1) = some (Value.int (bI ((decide (hld (hVal (fV ent g) ((T n).getD (p + 1) 0)) ((T n).getD (p + 2) 0) (hN (T n) p))) = true))) := congrArg (fun z => some (Value.int z)) (bI_t (decide_eq_true (by show hld _ _ _; unfold hld; rw [if_pos c90]; exact c97))).symm
             rw [e9]
             exact op_tail (E := hE (T n) p) hR (u4.lw hW') u4.l hl hdp hfi hdd hn (fun V' a b => ⟨rfl, rfl, a, b⟩))
          | (have e9 : some (Value.int 0) = some (Value.int (bI ((decide (hld (hVal (fV ent g) ((T n).getD (p + 1) 0)) ((T n).getD (p + 2) 0) (hN (T n) p))) = true))) := congrArg (fun z => some (Value.int z)) (bI_f (by rw [decide_eq_false (by show ¬ hld _ _ _; unfold hld; rw [if_pos c90]; exact c97)]; decide)).symm
             rw [e9]
             exact op_tail (E := hE (T n) p) hR (u4.lw hW') u4.l hl hdp hfi hdd hn (fun V' a b => ⟨rfl, rfl, a, b⟩))
          | (have e9 : some (Value.int 1) = some (Value.int (bI ((decide (hld (hVal (fV ent g) ((T n).getD (p + 1) 0)) ((T n).getD (p + 2) 0) (hN (T n) p))) = true))) := congrArg (fun z => some (Value.int z)) (bI_t (decide_eq_true (by show hld _ _ _; unfold hld; rw [if_neg c90, if_pos c112]; exact Int32.not_le.1 c119))).symm
             rw [e9]
             exact op_tail (E := hE (T n) p) hR (u4.lw hW') u4.l hl hdp hfi hdd hn (fun V' a b => ⟨rfl, rfl, a, b⟩))
          | (have e9 : some (Value.int 0) = some (Value.int (bI ((decide (hld (hVal (fV ent g) ((T n).getD (p + 1) 0)) ((T n).getD (p + 2) 0) (hN (T n) p))) = true))) := congrArg (fun z => some (Value.int z)) (bI_f (by rw [decide_eq_false (by show ¬ hld _ _ _; unfold hld; rw [if_neg c90, if_pos c112]; exact Int32.not_lt.2 c119)]; decide)).symm
             rw [e9]
             exact op_tail (E := hE (T n) p) hR (u4.lw hW') u4.l hl hdp hfi hdd hn (fun V' a b => ⟨rfl, rfl, a, b⟩))
          | (have e9 : some (Value.int 1) = some (Value.int (bI ((decide (hld (hVal (fV ent g) ((T n).getD (p + 1) 0)) ((T n).getD (p + 2) 0) (hN (T n) p))) = true))) := congrArg (fun z => some (Value.int z)) (bI_t (decide_eq_true (by show hld _ _ _; unfold hld; rw [if_neg c90, if_neg c112]; exact c134))).symm
             rw [e9]
             exact op_tail (E := hE (T n) p) hR (u4.lw hW') u4.l hl hdp hfi hdd hn (fun V' a b => ⟨rfl, rfl, a, b⟩))
          | (have e9 : some (Value.int 0) = some (Value.int (bI ((decide (hld (hVal (fV ent g) ((T n).getD (p + 1) 0)) ((T n).getD (p + 2) 0) (hN (T n) p))) = true))) := congrArg (fun z => some (Value.int z)) (bI_f (by rw [decide_eq_false (by show ¬ hld _ _ _; unfold hld; rw [if_neg c90, if_neg c112]; exact (by first | exact not_not_intro c134 | exact c134))]; decide)).symm
             rw [e9]
             exact op_tail (E := hE (T n) p) hR (u4.lw hW') u4.l hl hdp hfi hdd hn (fun V' a b => ⟨rfl, rfl, a, b⟩))
      · refine R_iconst (v := 1) dX12_open_137 (by decide) ?_
        refine R_goto 142 dX12_open_138 (by decide) ?_
        refine R_istore_9 rfl (by decide) dX12_open_142 ?_
        first
          | (have e9 : some (Value.int 1) = some (Value.int (bI ((decide (hld (hVal (fV ent g) ((T n).getD (p + 1) 0)) ((T n).getD (p + 2) 0) (hN (T n) p))) = true))) := congrArg (fun z => some (Value.int z)) (bI_t (decide_eq_true (by show hld _ _ _; unfold hld; rw [if_pos c90]; exact c97))).symm
             rw [e9]
             exact op_tail (E := hE (T n) p) hR (u4.lw hW') u4.l hl hdp hfi hdd hn (fun V' a b => ⟨rfl, rfl, a, b⟩))
          | (have e9 : some (Value.int 0) = some (Value.int (bI ((decide (hld (hVal (fV ent g) ((T n).getD (p + 1) 0)) ((T n).getD (p + 2) 0) (hN (T n) p))) = true))) := congrArg (fun z => some (Value.int z)) (bI_f (by rw [decide_eq_false (by show ¬ hld _ _ _; unfold hld; rw [if_pos c90]; exact c97)]; decide)).symm
             rw [e9]
             exact op_tail (E := hE (T n) p) hR (u4.lw hW') u4.l hl hdp hfi hdd hn (fun V' a b => ⟨rfl, rfl, a, b⟩))
          | (have e9 : some (Value.int 1) = some (Value.int (bI ((decide (hld (hVal (fV ent g) ((T n).getD (p + 1) 0)) ((T n).getD (p + 2) 0) (hN (T n) p))) = true))) := congrArg (fun z => some (Value.int z)) (bI_t (decide_eq_true (by show hld _ _ _; unfold hld; rw [if_neg c90, if_pos c112]; exact Int32.not_le.1 c119))).symm
             rw [e9]
             exact op_tail (E := hE (T n) p) hR (u4.lw hW') u4.l hl hdp hfi hdd hn (fun V' a b => ⟨rfl, rfl, a, b⟩))
          | (have e9 : some (Value.int 0) = some (Value.int (bI ((decide (hld (hVal (fV ent g) ((T n).getD (p + 1) 0)) ((T n).getD (p + 2) 0) (hN (T n) p))) = true))) := congrArg (fun z => some (Value.int z)) (bI_f (by rw [decide_eq_false (by show ¬ hld _ _ _; unfold hld; rw [if_neg c90, if_pos c112]; exact Int32.not_lt.2 c119)]; decide)).symm
             rw [e9]
             exact op_tail (E := hE (T n) p) hR (u4.lw hW') u4.l hl hdp hfi hdd hn (fun V' a b => ⟨rfl, rfl, a, b⟩))
          | (have e9 : some (Value.int 1) = some (Value.int (bI ((decide (hld (hVal (fV ent g) ((T n).getD (p + 1) 0)) ((T n).getD (p + 2) 0) (hN (T n) p))) = true))) := congrArg (fun z => some (Value.int z)) (bI_t (decide_eq_true (by show hld _ _ _; unfold hld; rw [if_neg c90, if_neg c112]; exact c134))).symm
             rw [e9]
             exact op_tail (E := hE (T n) p) hR (u4.lw hW') u4.l hl hdp hfi hdd hn (fun V' a b => ⟨rfl, rfl, a, b⟩))
          | (have e9 : some (Value.int 0) = some (Value.int (bI ((decide (hld (hVal (fV ent g) ((T n).getD (p + 1) 0)) ((T n).getD (p + 2) 0) (hN (T n) p))) = true))) := congrArg (fun z => some (Value.int z)) (bI_f (by rw [decide_eq_false (by show ¬ hld _ _ _; unfold hld; rw [if_neg c90, if_neg c112]; exact (by first | exact not_not_intro c134 | exact c134))]; decide)).symm
             rw [e9]
             exact op_tail (E := hE (T n) p) hR (u4.lw hW') u4.l hl hdp hfi hdd hn (fun V' a b => ⟨rfl, rfl, a, b⟩))
    · refine R_iload_7 dX12_open_115 ?_
      refine R_iload_6 dX12_open_117 ?_
      refine R_icmp_ge 126 dX12_open_119 (by decide) (fun c119 => ?_) (fun c119 => ?_)
      · refine R_iconst (v := 0) dX12_open_126 (by decide) ?_
        refine R_goto 142 dX12_open_127 (by decide) ?_
        refine R_istore_9 rfl (by decide) dX12_open_142 ?_
        first
          | (have e9 : some (Value.int 1) = some (Value.int (bI ((decide (hld (hVal (fV ent g) ((T n).getD (p + 1) 0)) ((T n).getD (p + 2) 0) (hN (T n) p))) = true))) := congrArg (fun z => some (Value.int z)) (bI_t (decide_eq_true (by show hld _ _ _; unfold hld; rw [if_pos c90]; exact c97))).symm
             rw [e9]
             exact op_tail (E := hE (T n) p) hR (u4.lw hW') u4.l hl hdp hfi hdd hn (fun V' a b => ⟨rfl, rfl, a, b⟩))
          | (have e9 : some (Value.int 0) = some (Value.int (bI ((decide (hld (hVal (fV ent g) ((T n).getD (p + 1) 0)) ((T n).getD (p + 2) 0) (hN (T n) p))) = true))) := congrArg (fun z => some (Value.int z)) (bI_f (by rw [decide_eq_false (by show ¬ hld _ _ _; unfold hld; rw [if_pos c90]; exact c97)]; decide)).symm
             rw [e9]
             exact op_tail (E := hE (T n) p) hR (u4.lw hW') u4.l hl hdp hfi hdd hn (fun V' a b => ⟨rfl, rfl, a, b⟩))
          | (have e9 : some (Value.int 1) = some (Value.int (bI ((decide (hld (hVal (fV ent g) ((T n).getD (p + 1) 0)) ((T n).getD (p + 2) 0) (hN (T n) p))) = true))) := congrArg (fun z => some (Value.int z)) (bI_t (decide_eq_true (by show hld _ _ _; unfold hld; rw [if_neg c90, if_pos c112]; exact Int32.not_le.1 c119))).symm
             rw [e9]
             exact op_tail (E := hE (T n) p) hR (u4.lw hW') u4.l hl hdp hfi hdd hn (fun V' a b => ⟨rfl, rfl, a, b⟩))
          | (have e9 : some (Value.int 0) = some (Value.int (bI ((decide (hld (hVal (fV ent g) ((T n).getD (p + 1) 0)) ((T n).getD (p + 2) 0) (hN (T n) p))) = true))) := congrArg (fun z => some (Value.int z)) (bI_f (by rw [decide_eq_false (by show ¬ hld _ _ _; unfold hld; rw [if_neg c90, if_pos c112]; exact Int32.not_lt.2 c119)]; decide)).symm
             rw [e9]
             exact op_tail (E := hE (T n) p) hR (u4.lw hW') u4.l hl hdp hfi hdd hn (fun V' a b => ⟨rfl, rfl, a, b⟩))
          | (have e9 : some (Value.int 1) = some (Value.int (bI ((decide (hld (hVal (fV ent g) ((T n).getD (p + 1) 0)) ((T n).getD (p + 2) 0) (hN (T n) p))) = true))) := congrArg (fun z => some (Value.int z)) (bI_t (decide_eq_true (by show hld _ _ _; unfold hld; rw [if_neg c90, if_neg c112]; exact c134))).symm
             rw [e9]
             exact op_tail (E := hE (T n) p) hR (u4.lw hW') u4.l hl hdp hfi hdd hn (fun V' a b => ⟨rfl, rfl, a, b⟩))
          | (have e9 : some (Value.int 0) = some (Value.int (bI ((decide (hld (hVal (fV ent g) ((T n).getD (p + 1) 0)) ((T n).getD (p + 2) 0) (hN (T n) p))) = true))) := congrArg (fun z => some (Value.int z)) (bI_f (by rw [decide_eq_false (by show ¬ hld _ _ _; unfold hld; rw [if_neg c90, if_neg c112]; exact (by first | exact not_not_intro c134 | exact c134))]; decide)).symm
             rw [e9]
             exact op_tail (E := hE (T n) p) hR (u4.lw hW') u4.l hl hdp hfi hdd hn (fun V' a b => ⟨rfl, rfl, a, b⟩))
      · refine R_iconst (v := 1) dX12_open_122 (by decide) ?_
        refine R_goto 142 dX12_open_123 (by decide) ?_
        refine R_istore_9 rfl (by decide) dX12_open_142 ?_
        first
          | (have e9 : some (Value.int 1) = some (Value.int (bI ((decide (hld (hVal (fV ent g) ((T n).getD (p + 1) 0)) ((T n).getD (p + 2) 0) (hN (T n) p))) = true))) := congrArg (fun z => some (Value.int z)) (bI_t (decide_eq_true (by show hld _ _ _; unfold hld; rw [if_pos c90]; exact c97))).symm
             rw [e9]
             exact op_tail (E := hE (T n) p) hR (u4.lw hW') u4.l hl hdp hfi hdd hn (fun V' a b => ⟨rfl, rfl, a, b⟩))
          | (have e9 : some (Value.int 0) = some (Value.int (bI ((decide (hld (hVal (fV ent g) ((T n).getD (p + 1) 0)) ((T n).getD (p + 2) 0) (hN (T n) p))) = true))) := congrArg (fun z => some (Value.int z)) (bI_f (by rw [decide_eq_false (by show ¬ hld _ _ _; unfold hld; rw [if_pos c90]; exact c97)]; decide)).symm
             rw [e9]
             exact op_tail (E := hE (T n) p) hR (u4.lw hW') u4.l hl hdp hfi hdd hn (fun V' a b => ⟨rfl, rfl, a, b⟩))
          | (have e9 : some (Value.int 1) = some (Value.int (bI ((decide (hld (hVal (fV ent g) ((T n).getD (p + 1) 0)) ((T n).getD (p + 2) 0) (hN (T n) p))) = true))) := congrArg (fun z => some (Value.int z)) (bI_t (decide_eq_true (by show hld _ _ _; unfold hld; rw [if_neg c90, if_pos c112]; exact Int32.not_le.1 c119))).symm
             rw [e9]
             exact op_tail (E := hE (T n) p) hR (u4.lw hW') u4.l hl hdp hfi hdd hn (fun V' a b => ⟨rfl, rfl, a, b⟩))
          | (have e9 : some (Value.int 0) = some (Value.int (bI ((decide (hld (hVal (fV ent g) ((T n).getD (p + 1) 0)) ((T n).getD (p + 2) 0) (hN (T n) p))) = true))) := congrArg (fun z => some (Value.int z)) (bI_f (by rw [decide_eq_false (by show ¬ hld _ _ _; unfold hld; rw [if_neg c90, if_pos c112]; exact Int32.not_lt.2 c119)]; decide)).symm
             rw [e9]
             exact op_tail (E := hE (T n) p) hR (u4.lw hW') u4.l hl hdp hfi hdd hn (fun V' a b => ⟨rfl, rfl, a, b⟩))
          | (have e9 : some (Value.int 1) = some (Value.int (bI ((decide (hld (hVal (fV ent g) ((T n).getD (p + 1) 0)) ((T n).getD (p + 2) 0) (hN (T n) p))) = true))) := congrArg (fun z => some (Value.int z)) (bI_t (decide_eq_true (by show hld _ _ _; unfold hld; rw [if_neg c90, if_neg c112]; exact c134))).symm
             rw [e9]
             exact op_tail (E := hE (T n) p) hR (u4.lw hW') u4.l hl hdp hfi hdd hn (fun V' a b => ⟨rfl, rfl, a, b⟩))
          | (have e9 : some (Value.int 0) = some (Value.int (bI ((decide (hld (hVal (fV ent g) ((T n).getD (p + 1) 0)) ((T n).getD (p + 2) 0) (hN (T n) p))) = true))) := congrArg (fun z => some (Value.int z)) (bI_f (by rw [decide_eq_false (by show ¬ hld _ _ _; unfold hld; rw [if_neg c90, if_neg c112]; exact (by first | exact not_not_intro c134 | exact c134))]; decide)).symm
             rw [e9]
             exact op_tail (E := hE (T n) p) hR (u4.lw hW') u4.l hl hdp hfi hdd hn (fun V' a b => ⟨rfl, rfl, a, b⟩))
  · refine R_iload_7 dX12_open_93 ?_
    refine R_iload_6 dX12_open_95 ?_
    refine R_icmp_ne 104 dX12_open_97 (by decide) (fun c97 => ?_) (fun c97 => ?_)
    · refine R_iconst (v := 0) dX12_open_104 (by decide) ?_
      refine R_goto 142 dX12_open_105 (by decide) ?_
      refine R_istore_9 rfl (by decide) dX12_open_142 ?_
      first
        | (have e9 : some (Value.int 1) = some (Value.int (bI ((decide (hld (hVal (fV ent g) ((T n).getD (p + 1) 0)) ((T n).getD (p + 2) 0) (hN (T n) p))) = true))) := congrArg (fun z => some (Value.int z)) (bI_t (decide_eq_true (by show hld _ _ _; unfold hld; rw [if_pos c90]; exact c97))).symm
           rw [e9]
           exact op_tail (E := hE (T n) p) hR (u4.lw hW') u4.l hl hdp hfi hdd hn (fun V' a b => ⟨rfl, rfl, a, b⟩))
        | (have e9 : some (Value.int 0) = some (Value.int (bI ((decide (hld (hVal (fV ent g) ((T n).getD (p + 1) 0)) ((T n).getD (p + 2) 0) (hN (T n) p))) = true))) := congrArg (fun z => some (Value.int z)) (bI_f (by rw [decide_eq_false (by show ¬ hld _ _ _; unfold hld; rw [if_pos c90]; exact c97)]; decide)).symm
           rw [e9]
           exact op_tail (E := hE (T n) p) hR (u4.lw hW') u4.l hl hdp hfi hdd hn (fun V' a b => ⟨rfl, rfl, a, b⟩))
        | (have e9 : some (Value.int 1) = some (Value.int (bI ((decide (hld (hVal (fV ent g) ((T n).getD (p + 1) 0)) ((T n).getD (p + 2) 0) (hN (T n) p))) = true))) := congrArg (fun z => some (Value.int z)) (bI_t (decide_eq_true (by show hld _ _ _; unfold hld; rw [if_neg c90, if_pos c112]; exact Int32.not_le.1 c119))).symm
           rw [e9]
           exact op_tail (E := hE (T n) p) hR (u4.lw hW') u4.l hl hdp hfi hdd hn (fun V' a b => ⟨rfl, rfl, a, b⟩))
        | (have e9 : some (Value.int 0) = some (Value.int (bI ((decide (hld (hVal (fV ent g) ((T n).getD (p + 1) 0)) ((T n).getD (p + 2) 0) (hN (T n) p))) = true))) := congrArg (fun z => some (Value.int z)) (bI_f (by rw [decide_eq_false (by show ¬ hld _ _ _; unfold hld; rw [if_neg c90, if_pos c112]; exact Int32.not_lt.2 c119)]; decide)).symm
           rw [e9]
           exact op_tail (E := hE (T n) p) hR (u4.lw hW') u4.l hl hdp hfi hdd hn (fun V' a b => ⟨rfl, rfl, a, b⟩))
        | (have e9 : some (Value.int 1) = some (Value.int (bI ((decide (hld (hVal (fV ent g) ((T n).getD (p + 1) 0)) ((T n).getD (p + 2) 0) (hN (T n) p))) = true))) := congrArg (fun z => some (Value.int z)) (bI_t (decide_eq_true (by show hld _ _ _; unfold hld; rw [if_neg c90, if_neg c112]; exact c134))).symm
           rw [e9]
           exact op_tail (E := hE (T n) p) hR (u4.lw hW') u4.l hl hdp hfi hdd hn (fun V' a b => ⟨rfl, rfl, a, b⟩))
        | (have e9 : some (Value.int 0) = some (Value.int (bI ((decide (hld (hVal (fV ent g) ((T n).getD (p + 1) 0)) ((T n).getD (p + 2) 0) (hN (T n) p))) = true))) := congrArg (fun z => some (Value.int z)) (bI_f (by rw [decide_eq_false (by show ¬ hld _ _ _; unfold hld; rw [if_neg c90, if_neg c112]; exact (by first | exact not_not_intro c134 | exact c134))]; decide)).symm
           rw [e9]
           exact op_tail (E := hE (T n) p) hR (u4.lw hW') u4.l hl hdp hfi hdd hn (fun V' a b => ⟨rfl, rfl, a, b⟩))
    · refine R_iconst (v := 1) dX12_open_100 (by decide) ?_
      refine R_goto 142 dX12_open_101 (by decide) ?_
      refine R_istore_9 rfl (by decide) dX12_open_142 ?_
      first
        | (have e9 : some (Value.int 1) = some (Value.int (bI ((decide (hld (hVal (fV ent g) ((T n).getD (p + 1) 0)) ((T n).getD (p + 2) 0) (hN (T n) p))) = true))) := congrArg (fun z => some (Value.int z)) (bI_t (decide_eq_true (by show hld _ _ _; unfold hld; rw [if_pos c90]; exact c97))).symm
           rw [e9]
           exact op_tail (E := hE (T n) p) hR (u4.lw hW') u4.l hl hdp hfi hdd hn (fun V' a b => ⟨rfl, rfl, a, b⟩))
        | (have e9 : some (Value.int 0) = some (Value.int (bI ((decide (hld (hVal (fV ent g) ((T n).getD (p + 1) 0)) ((T n).getD (p + 2) 0) (hN (T n) p))) = true))) := congrArg (fun z => some (Value.int z)) (bI_f (by rw [decide_eq_false (by show ¬ hld _ _ _; unfold hld; rw [if_pos c90]; exact c97)]; decide)).symm
           rw [e9]
           exact op_tail (E := hE (T n) p) hR (u4.lw hW') u4.l hl hdp hfi hdd hn (fun V' a b => ⟨rfl, rfl, a, b⟩))
        | (have e9 : some (Value.int 1) = some (Value.int (bI ((decide (hld (hVal (fV ent g) ((T n).getD (p + 1) 0)) ((T n).getD (p + 2) 0) (hN (T n) p))) = true))) := congrArg (fun z => some (Value.int z)) (bI_t (decide_eq_true (by show hld _ _ _; unfold hld; rw [if_neg c90, if_pos c112]; exact Int32.not_le.1 c119))).symm
           rw [e9]
           exact op_tail (E := hE (T n) p) hR (u4.lw hW') u4.l hl hdp hfi hdd hn (fun V' a b => ⟨rfl, rfl, a, b⟩))
        | (have e9 : some (Value.int 0) = some (Value.int (bI ((decide (hld (hVal (fV ent g) ((T n).getD (p + 1) 0)) ((T n).getD (p + 2) 0) (hN (T n) p))) = true))) := congrArg (fun z => some (Value.int z)) (bI_f (by rw [decide_eq_false (by show ¬ hld _ _ _; unfold hld; rw [if_neg c90, if_pos c112]; exact Int32.not_lt.2 c119)]; decide)).symm
           rw [e9]
           exact op_tail (E := hE (T n) p) hR (u4.lw hW') u4.l hl hdp hfi hdd hn (fun V' a b => ⟨rfl, rfl, a, b⟩))
        | (have e9 : some (Value.int 1) = some (Value.int (bI ((decide (hld (hVal (fV ent g) ((T n).getD (p + 1) 0)) ((T n).getD (p + 2) 0) (hN (T n) p))) = true))) := congrArg (fun z => some (Value.int z)) (bI_t (decide_eq_true (by show hld _ _ _; unfold hld; rw [if_neg c90, if_neg c112]; exact c134))).symm
           rw [e9]
           exact op_tail (E := hE (T n) p) hR (u4.lw hW') u4.l hl hdp hfi hdd hn (fun V' a b => ⟨rfl, rfl, a, b⟩))
        | (have e9 : some (Value.int 0) = some (Value.int (bI ((decide (hld (hVal (fV ent g) ((T n).getD (p + 1) 0)) ((T n).getD (p + 2) 0) (hN (T n) p))) = true))) := congrArg (fun z => some (Value.int z)) (bI_f (by rw [decide_eq_false (by show ¬ hld _ _ _; unfold hld; rw [if_neg c90, if_neg c112]; exact (by first | exact not_not_intro c134 | exact c134))]; decide)).symm
           rw [e9]
           exact op_tail (E := hE (T n) p) hR (u4.lw hW') u4.l hl hdp hfi hdd hn (fun V' a b => ⟨rfl, rfl, a, b⟩))

