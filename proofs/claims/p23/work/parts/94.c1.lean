/-! ===== making objects, one behind the other, in the final layout ===== -/
def shP (n : Nat) : aS := (fun a => if a < n then shF a else (99, 0), some n)
theorem shP_lt {n a : Nat} (h : a < n) : (shP n).1 a = shF a := if_pos h
theorem shP_o {n a c : Nat} (h : (shF a).1 = c) (hn : a < n) : ((shP n).1 a).1 = c := by rw [shP_lt hn]; exact h
theorem shP_r {n a : Nat} {q : Nat × Nat} (h : shF a = q) (hn : a < n) : (shP n).1 a = q := by rw [shP_lt hn]; exact h
theorem shP_push {n : Nat} {q : Nat × Nat} (h : shF n = q) : aSn (shP n) n q = shP (n + 1) := by
  unfold aSn shP
  refine Prod.ext ?_ rfl
  funext a
  show (if a = n then q else if a < n then shF a else (99, 0)) = if a < n + 1 then shF a else (99, 0)
  by_cases e : a = n
  · subst e
    rw [if_pos rfl, if_pos (Nat.lt_succ_self _), h]
  · rw [if_neg e]
    by_cases e2 : a < n
    · rw [if_pos e2, if_pos (by omega)]
    · rw [if_neg e2, if_neg (by omega)]
theorem oi_ins : Cond.instanceMethod Lib.objectInit ∈ aT := aT_of (List.mem_of_getElem? (i := 102) (by decide +kernel)) (by decide +kernel)
theorem oi_code : Cond.code Lib.objectInit ⟨#[0xb1]⟩ 1 none ∈ aT := aT_of (List.mem_of_getElem? (i := 103) (by decide +kernel)) (by decide +kernel)
section AMAKE
variable {T : aMt} {r mc ms : Nat} {Q : Option Value → aS → aV → Prop} {QX : String → aS → aV → Prop} {kc ks pc : Nat} {lv : List (Option Value)} {st : List Value} {S : aS} {V : aV}
theorem R_oinit {idx a : Nat} (hr : 1 ≤ r) (hw : Cond.methodLink T.1.cls idx Lib.objectInit ∈ aT) (hst : (st.map fun v => v.category).sum ≤ 8) (d : decode T.2.1 pc = .ok (.invokespecial idx, 3)) (kk : R T r mc ms Q QX kc ks (pc + 3) lv st S V) : R T r mc ms Q QX kc ks pc lv (.ref a :: st) S V := by
  intro p l e s m args below meth c H locs cells slots D cA o x0 ls C K hl hP hz hS ho h1 h2
  refine W.objInit C.1 C.2.1 C.2.2.2.1 (C.2.2.2.2.1 _ hw) (C.2.2.2.2.1 _ oi_ins) (C.2.2.2.2.1 _ oi_code) rfl (by rw [C.2.2.1]; exact hl.1) rfl d hr ?_ (kk p l e s m args below meth c H locs cells slots D cA o x0 ls C K hl hP hz hS ho h1 h2)
  show 2 * 0 + ((st.map (a_v o x0)).map fun v => v.category).sum + 12 ≤ 40 * r
  rw [a_cats]
  omega
theorem P_newaC {n N : Nat} {x : Int32} (d : decode T.2.1 pc = .ok (.newarray .char, 2)) (hsh : shF n = (13, N)) (hx : ¬ x < 0) (hN : x.toNatClampNeg = N) (hb : N ≤ 100000) (kk : R T r mc ms Q QX kc ks (pc + 2) lv (.ref n :: st) (shP (n + 1)) (aVn V n fun _ => .int 0)) : R T r mc ms Q QX (kc + 1) (ks + N) pc lv (.int x :: st) (shP n) V :=
  R_newaC (aT_of (List.mem_of_getElem? (i := 128) (by decide +kernel)) (by decide +kernel)) d rfl hx hN hb (by rw [shP_push hsh]; exact kk)
theorem P_newaI {n N : Nat} {x : Int32} (d : decode T.2.1 pc = .ok (.newarray .int, 2)) (hsh : shF n = (14, N)) (hx : ¬ x < 0) (hN : x.toNatClampNeg = N) (hb : N ≤ 100000) (kk : R T r mc ms Q QX kc ks (pc + 2) lv (.ref n :: st) (shP (n + 1)) (aVn V n fun _ => .int 0)) : R T r mc ms Q QX (kc + 1) (ks + N) pc lv (.int x :: st) (shP n) V :=
  R_newaI (aT_of (List.mem_of_getElem? (i := 174) (by decide +kernel)) (by decide +kernel)) d rfl hx hN hb (by rw [shP_push hsh]; exact kk)
theorem P_anew_16 {n N idx : Nat} {x : Int32} (hw : Cond.classLink T.1.cls idx "MergePost$Address" ∈ aT) (d : decode T.2.1 pc = .ok (.anewarray idx, 3)) (hsh : shF n = (16, N)) (hx : ¬ x < 0) (hN : x.toNatClampNeg = N) (hb : N ≤ 100000) (kk : R T r mc ms Q QX kc ks (pc + 3) lv (.ref n :: st) (shP (n + 1)) (aVn V n fun _ => .null)) : R T r mc ms Q QX (kc + 1) (ks + N) pc lv (.int x :: st) (shP n) V :=
  R_anew_16 hw (aN_of (List.mem_of_getElem? (i := 199) (by decide +kernel)) (by decide +kernel)) d rfl hx hN hb (by rw [shP_push hsh]; exact kk)
theorem P_anew_17 {n N idx : Nat} {x : Int32} (hw : Cond.classLink T.1.cls idx "MergePost$Letter" ∈ aT) (d : decode T.2.1 pc = .ok (.anewarray idx, 3)) (hsh : shF n = (17, N)) (hx : ¬ x < 0) (hN : x.toNatClampNeg = N) (hb : N ≤ 100000) (kk : R T r mc ms Q QX kc ks (pc + 3) lv (.ref n :: st) (shP (n + 1)) (aVn V n fun _ => .null)) : R T r mc ms Q QX (kc + 1) (ks + N) pc lv (.int x :: st) (shP n) V :=
  R_anew_17 hw (aN_of (List.mem_of_getElem? (i := 294) (by decide +kernel)) (by decide +kernel)) d rfl hx hN hb (by rw [shP_push hsh]; exact kk)
theorem P_anew_18 {n N idx : Nat} {x : Int32} (hw : Cond.classLink T.1.cls idx "MergePost$Run" ∈ aT) (d : decode T.2.1 pc = .ok (.anewarray idx, 3)) (hsh : shF n = (18, N)) (hx : ¬ x < 0) (hN : x.toNatClampNeg = N) (hb : N ≤ 100000) (kk : R T r mc ms Q QX kc ks (pc + 3) lv (.ref n :: st) (shP (n + 1)) (aVn V n fun _ => .null)) : R T r mc ms Q QX (kc + 1) (ks + N) pc lv (.int x :: st) (shP n) V :=
  R_anew_18 hw (aN_of (List.mem_of_getElem? (i := 287) (by decide +kernel)) (by decide +kernel)) d rfl hx hN hb (by rw [shP_push hsh]; exact kk)
theorem P_anew_19 {n N idx : Nat} {x : Int32} (hw : Cond.classLink T.1.cls idx "MergePost$Signs" ∈ aT) (d : decode T.2.1 pc = .ok (.anewarray idx, 3)) (hsh : shF n = (19, N)) (hx : ¬ x < 0) (hN : x.toNatClampNeg = N) (hb : N ≤ 100000) (kk : R T r mc ms Q QX kc ks (pc + 3) lv (.ref n :: st) (shP (n + 1)) (aVn V n fun _ => .null)) : R T r mc ms Q QX (kc + 1) (ks + N) pc lv (.int x :: st) (shP n) V :=
  R_anew_19 hw (aN_of (List.mem_of_getElem? (i := 112) (by decide +kernel)) (by decide +kernel)) d rfl hx hN hb (by rw [shP_push hsh]; exact kk)
theorem P_anew_20 {n N idx : Nat} {x : Int32} (hw : Cond.classLink T.1.cls idx "MergePost$Template" ∈ aT) (d : decode T.2.1 pc = .ok (.anewarray idx, 3)) (hsh : shF n = (20, N)) (hx : ¬ x < 0) (hN : x.toNatClampNeg = N) (hb : N ≤ 100000) (kk : R T r mc ms Q QX kc ks (pc + 3) lv (.ref n :: st) (shP (n + 1)) (aVn V n fun _ => .null)) : R T r mc ms Q QX (kc + 1) (ks + N) pc lv (.int x :: st) (shP n) V :=
  R_anew_20 hw (aN_of (List.mem_of_getElem? (i := 78) (by decide +kernel)) (by decide +kernel)) d rfl hx hN hb (by rw [shP_push hsh]; exact kk)
def dX0 : Nat → Value := fun j => defaultValue (tyX0 j)
theorem P_new0 {n idx : Nat} (hw : Cond.classLink T.1.cls idx RX0 ∈ aT) (d : decode T.2.1 pc = .ok (.new idx, 3)) (hsh : shF n = (0, 0)) (kk : R T r mc ms Q QX kc ks (pc + 3) lv (.ref n :: st) (shP (n + 1)) (aVn V n dX0)) : R T r mc ms Q QX (kc + 1) (ks + 7) pc lv st (shP n) V :=
  R_new (ci := 0) (C0 := RX0) (T0 := TX0) (N := 7) tyX0 rfl (by decide) inX0 tyX0_ok hw (aT_of (List.mem_of_getElem? (i := 270) (by decide +kernel)) (by decide +kernel)) wi_X0 d rfl (by rw [shP_push hsh]; exact kk)
def dX1 : Nat → Value := fun j => defaultValue (tyX1 j)
theorem P_new1 {n idx : Nat} (hw : Cond.classLink T.1.cls idx RX1 ∈ aT) (d : decode T.2.1 pc = .ok (.new idx, 3)) (hsh : shF n = (1, 0)) (kk : R T r mc ms Q QX kc ks (pc + 3) lv (.ref n :: st) (shP (n + 1)) (aVn V n dX1)) : R T r mc ms Q QX (kc + 1) (ks + 6) pc lv st (shP n) V :=
  R_new (ci := 1) (C0 := RX1) (T0 := TX1) (N := 6) tyX1 rfl (by decide) inX1 tyX1_ok hw (aT_of (List.mem_of_getElem? (i := 263) (by decide +kernel)) (by decide +kernel)) wi_X1 d rfl (by rw [shP_push hsh]; exact kk)
def dX10 : Nat → Value := fun j => defaultValue (tyX10 j)
theorem P_new10 {n idx : Nat} (hw : Cond.classLink T.1.cls idx RX10 ∈ aT) (d : decode T.2.1 pc = .ok (.new idx, 3)) (hsh : shF n = (10, 0)) (kk : R T r mc ms Q QX kc ks (pc + 3) lv (.ref n :: st) (shP (n + 1)) (aVn V n dX10)) : R T r mc ms Q QX (kc + 1) (ks + 5) pc lv st (shP n) V :=
  R_new (ci := 10) (C0 := RX10) (T0 := TX10) (N := 5) tyX10 rfl (by decide) inX10 tyX10_ok hw (aT_of (List.mem_of_getElem? (i := 149) (by decide +kernel)) (by decide +kernel)) wi_X10 d rfl (by rw [shP_push hsh]; exact kk)
def dX11 : Nat → Value := fun j => defaultValue (tyX11 j)
theorem P_new11 {n idx : Nat} (hw : Cond.classLink T.1.cls idx RX11 ∈ aT) (d : decode T.2.1 pc = .ok (.new idx, 3)) (hsh : shF n = (11, 0)) (kk : R T r mc ms Q QX kc ks (pc + 3) lv (.ref n :: st) (shP (n + 1)) (aVn V n dX11)) : R T r mc ms Q QX (kc + 1) (ks + 8) pc lv st (shP n) V :=
  R_new (ci := 11) (C0 := RX11) (T0 := TX11) (N := 8) tyX11 rfl (by decide) inX11 tyX11_ok hw (aT_of (List.mem_of_getElem? (i := 97) (by decide +kernel)) (by decide +kernel)) wi_X11 d rfl (by rw [shP_push hsh]; exact kk)
def dX2 : Nat → Value := fun j => defaultValue (tyX2 j)
theorem P_new2 {n idx : Nat} (hw : Cond.classLink T.1.cls idx RX2 ∈ aT) (d : decode T.2.1 pc = .ok (.new idx, 3)) (hsh : shF n = (2, 0)) (kk : R T r mc ms Q QX kc ks (pc + 3) lv (.ref n :: st) (shP (n + 1)) (aVn V n dX2)) : R T r mc ms Q QX (kc + 1) (ks + 2) pc lv st (shP n) V :=
  R_new (ci := 2) (C0 := RX2) (T0 := TX2) (N := 2) tyX2 rfl (by decide) inX2 tyX2_ok hw (aT_of (List.mem_of_getElem? (i := 342) (by decide +kernel)) (by decide +kernel)) wi_X2 d rfl (by rw [shP_push hsh]; exact kk)
def dX3 : Nat → Value := fun j => defaultValue (tyX3 j)
theorem P_new3 {n idx : Nat} (hw : Cond.classLink T.1.cls idx RX3 ∈ aT) (d : decode T.2.1 pc = .ok (.new idx, 3)) (hsh : shF n = (3, 0)) (kk : R T r mc ms Q QX kc ks (pc + 3) lv (.ref n :: st) (shP (n + 1)) (aVn V n dX3)) : R T r mc ms Q QX (kc + 1) (ks + 3) pc lv st (shP n) V :=
  R_new (ci := 3) (C0 := RX3) (T0 := TX3) (N := 3) tyX3 rfl (by decide) inX3 tyX3_ok hw (aT_of (List.mem_of_getElem? (i := 176) (by decide +kernel)) (by decide +kernel)) wi_X3 d rfl (by rw [shP_push hsh]; exact kk)
def dX4 : Nat → Value := fun j => defaultValue (tyX4 j)
theorem P_new4 {n idx : Nat} (hw : Cond.classLink T.1.cls idx RX4 ∈ aT) (d : decode T.2.1 pc = .ok (.new idx, 3)) (hsh : shF n = (4, 0)) (kk : R T r mc ms Q QX kc ks (pc + 3) lv (.ref n :: st) (shP (n + 1)) (aVn V n dX4)) : R T r mc ms Q QX (kc + 1) (ks + 5) pc lv st (shP n) V :=
  R_new (ci := 4) (C0 := RX4) (T0 := TX4) (N := 5) tyX4 rfl (by decide) inX4 tyX4_ok hw (aT_of (List.mem_of_getElem? (i := 202) (by decide +kernel)) (by decide +kernel)) wi_X4 d rfl (by rw [shP_push hsh]; exact kk)
def dX5 : Nat → Value := fun j => defaultValue (tyX5 j)
theorem P_new5 {n idx : Nat} (hw : Cond.classLink T.1.cls idx RX5 ∈ aT) (d : decode T.2.1 pc = .ok (.new idx, 3)) (hsh : shF n = (5, 0)) (kk : R T r mc ms Q QX kc ks (pc + 3) lv (.ref n :: st) (shP (n + 1)) (aVn V n dX5)) : R T r mc ms Q QX (kc + 1) (ks + 1) pc lv st (shP n) V :=
  R_new (ci := 5) (C0 := RX5) (T0 := TX5) (N := 1) tyX5 rfl (by decide) inX5 tyX5_ok hw (aT_of (List.mem_of_getElem? (i := 332) (by decide +kernel)) (by decide +kernel)) wi_X5 d rfl (by rw [shP_push hsh]; exact kk)
def dX6 : Nat → Value := fun j => defaultValue (tyX6 j)
theorem P_new6 {n idx : Nat} (hw : Cond.classLink T.1.cls idx RX6 ∈ aT) (d : decode T.2.1 pc = .ok (.new idx, 3)) (hsh : shF n = (6, 0)) (kk : R T r mc ms Q QX kc ks (pc + 3) lv (.ref n :: st) (shP (n + 1)) (aVn V n dX6)) : R T r mc ms Q QX (kc + 1) (ks + 2) pc lv st (shP n) V :=
  R_new (ci := 6) (C0 := RX6) (T0 := TX6) (N := 2) tyX6 rfl (by decide) inX6 tyX6_ok hw (aT_of (List.mem_of_getElem? (i := 105) (by decide +kernel)) (by decide +kernel)) wi_X6 d rfl (by rw [shP_push hsh]; exact kk)
def dX7 : Nat → Value := fun j => defaultValue (tyX7 j)
theorem P_new7 {n idx : Nat} (hw : Cond.classLink T.1.cls idx RX7 ∈ aT) (d : decode T.2.1 pc = .ok (.new idx, 3)) (hsh : shF n = (7, 0)) (kk : R T r mc ms Q QX kc ks (pc + 3) lv (.ref n :: st) (shP (n + 1)) (aVn V n dX7)) : R T r mc ms Q QX (kc + 1) (ks + 9) pc lv st (shP n) V :=
  R_new (ci := 7) (C0 := RX7) (T0 := TX7) (N := 9) tyX7 rfl (by decide) inX7 tyX7_ok hw (aT_of (List.mem_of_getElem? (i := 142) (by decide +kernel)) (by decide +kernel)) wi_X7 d rfl (by rw [shP_push hsh]; exact kk)
def dX8 : Nat → Value := fun j => defaultValue (tyX8 j)
theorem P_new8 {n idx : Nat} (hw : Cond.classLink T.1.cls idx RX8 ∈ aT) (d : decode T.2.1 pc = .ok (.new idx, 3)) (hsh : shF n = (8, 0)) (kk : R T r mc ms Q QX kc ks (pc + 3) lv (.ref n :: st) (shP (n + 1)) (aVn V n dX8)) : R T r mc ms Q QX (kc + 1) (ks + 5) pc lv st (shP n) V :=
  R_new (ci := 8) (C0 := RX8) (T0 := TX8) (N := 5) tyX8 rfl (by decide) inX8 tyX8_ok hw (aT_of (List.mem_of_getElem? (i := 358) (by decide +kernel)) (by decide +kernel)) wi_X8 d rfl (by rw [shP_push hsh]; exact kk)
def dX9 : Nat → Value := fun j => defaultValue (tyX9 j)
theorem P_new9 {n idx : Nat} (hw : Cond.classLink T.1.cls idx RX9 ∈ aT) (d : decode T.2.1 pc = .ok (.new idx, 3)) (hsh : shF n = (9, 0)) (kk : R T r mc ms Q QX kc ks (pc + 3) lv (.ref n :: st) (shP (n + 1)) (aVn V n dX9)) : R T r mc ms Q QX (kc + 1) (ks + 2) pc lv st (shP n) V :=
  R_new (ci := 9) (C0 := RX9) (T0 := TX9) (N := 2) tyX9 rfl (by decide) inX9 tyX9_ok hw (aT_of (List.mem_of_getElem? (i := 111) (by decide +kernel)) (by decide +kernel)) wi_X9 d rfl (by rw [shP_push hsh]; exact kk)
end AMAKE
/-- where a row of signs, a letter, an address, a template, a run are to lie -/
abbrev s9 (a cap : Nat) : Prop := shF a = (9, 0) ∧ shF (a + 1) = (13, cap)
abbrev s4 (a : Nat) : Prop := shF a = (4, 0) ∧ s9 (a + 1) 160
abbrev s0 (a : Nat) : Prop := shF a = (0, 0) ∧ s9 (a + 1) 12 ∧ s9 (a + 3) 12 ∧ s9 (a + 5) 12 ∧ s9 (a + 7) 12
abbrev s10 (a : Nat) : Prop := shF a = (10, 0) ∧ s9 (a + 1) 96 ∧ shF (a + 3) = (14, 96) ∧ shF (a + 4) = (14, 5)
abbrev s8 (a : Nat) : Prop := shF a = (8, 0) ∧ shF (a + 1) = (17, 12) ∧ ∀ j, j < 12 → s4 (a + 2 + 3 * j)
theorem aVn_self {V : aV} {n : Nat} {g : Nat → Value} : aVn V n g n = g := if_pos rfl
theorem aVn_ne {V : aV} {n b : Nat} {g : Nat → Value} (h : b ≠ n) : aVn V n g b = V b := if_neg h
set_option maxHeartbeats 4000000 in
theorem ct_i9 {V : aV} {a n cap : Nat} {x : Int32} (ha : (shF a).1 = 9) (an : a < n) (hn : shF n = (13, cap)) (hx : ¬ x ≤ 0) (hN : x.toNatClampNeg = cap) (hb : cap ≤ 100000) : CT mX9_init 1 1 cap [.ref a, .int x] (shP n) V (aRet none (shP (n + 1)) (a_up (aVn V n fun _ => .int 0) a 0 (.ref n))) aNo := by
  refine CT_of (by decide +kernel) (Nat.le_of_ble_eq_true rfl) ?_
  show R _ _ _ _ _ _ _ _ 0 [some (.ref a), some (.int x)] [] _ _
  refine R_aload_0 dX9_init_0 ?_
  refine R_oinit (by decide) mlX9_1 (Nat.le_of_ble_eq_true rfl) dX9_init_1 ?_
  refine R_aload_0 dX9_init_4 ?_
  refine R_iload_1 dX9_init_5 ?_
  refine R_if_le 13 dX9_init_6 (by decide) (fun c6 => absurd c6 hx) (fun c6 => ?_)
  refine R_iload_1 dX9_init_9 ?_
  refine R_goto 14 dX9_init_10 (by decide) ?_
  refine R_less (kc' := 0 + 1) (ks' := 0 + cap) (by omega) (by omega) ?_
  refine P_newaC (N := cap) dX9_init_14 hn (fun q => hx (Int32.le_of_lt q)) hN hb ?_
  refine pfX9_7 rfl rfl dX9_init_16 (shP_o ha (by omega)) ?_
  refine R_vret rfl dX9_init_19 ⟨rfl, rfl, rfl⟩

/-- a new row of signs -/
def sg (V : aV) (a : Nat) : aV := a_up (aVn (aVn V a dX9) (a + 1) fun _ => .int 0) a 0 (.ref (a + 1))
theorem sg_fr {V : aV} {a b : Nat} (h1 : b ≠ a) (h2 : b ≠ a + 1) : sg V a b = V b := by
  unfold sg
  rw [a_up_row h1, aVn_ne h2, aVn_ne h1]
theorem sg_sl {V : aV} {a cap : Nat} (h : s9 a cap) (hc : cap < 1000) : SL Sh (sg V a) a cap [] := by
  refine ⟨?_, h.2, a_up_self _ _ _ _, ?_, Nat.zero_le _, hc, fun j hj => absurd hj (Nat.not_lt_zero _), fun j hj => absurd hj (Nat.not_lt_zero _)⟩
  · show (shF a).1 = 9
    rw [h.1]
  · unfold sg
    rw [a_up_ne (Or.inr (by decide)), aVn_ne (by omega), aVn_self]
    rfl
theorem s9.o {a cap : Nat} (h : s9 a cap) : (shF a).1 = 9 := by rw [h.1]
theorem s4.o {a : Nat} (h : s4 a) : (shF a).1 = 4 := by rw [h.1]
theorem s0.o {a : Nat} (h : s0 a) : (shF a).1 = 0 := by rw [h.1]
theorem s10.o {a : Nat} (h : s10 a) : (shF a).1 = 10 := by rw [h.1]
theorem s8.o {a : Nat} (h : s8 a) : (shF a).1 = 8 := by rw [h.1]
set_option maxHeartbeats 4000000 in
theorem ct_i4 {V : aV} {a : Nat} (h : s4 a) : CT mX4_init 2 2 162 [.ref a] (shP (a + 1)) V (aRet none (shP (a + 3)) (a_up (sg V (a + 1)) a 0 (.ref (a + 1)))) aNo := by
  refine CT_of (by decide +kernel) (Nat.le_of_ble_eq_true rfl) ?_
  show R _ _ _ _ _ _ _ _ 0 [some (.ref a)] [] _ _
  refine R_aload_0 dX4_init_0 ?_
  refine R_oinit (by decide) mlX4_3 (Nat.le_of_ble_eq_true rfl) dX4_init_1 ?_
  refine R_aload_0 dX4_init_4 ?_
  refine P_new9 clX4_9 dX4_init_5 h.2.1 ?_
  refine R_dup dX4_init_8 rfl ?_
  refine R_sipush (v := 160) dX4_init_9 (by decide) ?_
  refine R_callIN_e (T := mX4_init) (T' := mX9_init) (As := [_]) okX9_init mlX4_11 (ct_i9 (a := a + 1) (n := a + 2) (cap := 160) (x := 160) h.2.o (by omega) h.2.2 (by decide) (by decide) (by decide)) rfl (by decide) (by decide) (Nat.le_of_ble_eq_true rfl) dX4_init_12 ?_
  refine pfX4_14 rfl rfl dX4_init_15 (shP_o h.o (by omega)) ?_
  refine R_vret rfl dX4_init_18 ⟨rfl, rfl, rfl⟩

/-- a new letter -/
def lt (V : aV) (a : Nat) : aV := a_up (sg (aVn V a dX4) (a + 1)) a 0 (.ref (a + 1))
theorem lt_fr {V : aV} {a b : Nat} (h : b < a ∨ a + 2 < b) : lt V a b = V b := by
  unfold lt
  rw [a_up_row (by omega), sg_fr (by omega) (by omega), aVn_ne (by omega)]
theorem lt_LT {V : aV} {a : Nat} (h : s4 a) : LT (lt V a) a [] 0 0 0 0 := by
  have e : ∀ k, k ≠ 0 → lt V a a k = dX4 k := fun k hk => by
    unfold lt
    rw [a_up_ne (Or.inr hk), sg_fr (by omega) (by omega), aVn_self]
  refine ⟨h.o, a_up_self _ _ _ _, ?_, e 1 (by decide), e 2 (by decide), e 3 (by decide), e 4 (by decide)⟩
  exact (sg_sl h.2 (by decide)).frame (a_up_row (by omega)) (a_up_row (by omega))
set_option maxHeartbeats 4000000 in
theorem ct_i10 {V : aV} {a : Nat} (h : s10 a) : CT mX10_init 2 4 199 [.ref a] (shP (a + 1)) V (aRet none (shP (a + 5)) (a_up (aVn (a_up (aVn (a_up (sg V (a + 1)) a 0 (.ref (a + 1))) (a + 3) fun _ => .int 0) a 1 (.ref (a + 3))) (a + 4) fun _ => .int 0) a 2 (.ref (a + 4)))) aNo := by
  refine CT_of (by decide +kernel) (Nat.le_of_ble_eq_true rfl) ?_
  show R _ _ _ _ _ _ _ _ 0 [some (.ref a)] [] _ _
  refine R_aload_0 dX10_init_0 ?_
  refine R_oinit (by decide) mlX10_3 (Nat.le_of_ble_eq_true rfl) dX10_init_1 ?_
  refine R_aload_0 dX10_init_4 ?_
  refine P_new9 clX10_9 dX10_init_5 h.2.1.1 ?_
  refine R_dup dX10_init_8 rfl ?_
  refine R_bipush (v := 96) dX10_init_9 (by decide) ?_
  refine R_callIN_e (T := mX10_init) (T' := mX9_init) (As := [_]) okX9_init mlX10_11 (ct_i9 (a := a + 1) (n := a + 2) (cap := 96) (x := 96) h.2.1.o (by omega) h.2.1.2 (by decide) (by decide) (by decide)) rfl (by decide) (by decide) (Nat.le_of_ble_eq_true rfl) dX10_init_11 ?_
  refine pfX10_14 rfl rfl dX10_init_14 (shP_o h.o (by omega)) ?_
  refine R_aload_0 dX10_init_17 ?_
  refine R_bipush (v := 96) dX10_init_18 (by decide) ?_
  refine P_newaI (N := 96) dX10_init_20 h.2.2.1 (by decide) (by decide) (by decide) ?_
  refine pfX10_20 rfl rfl dX10_init_22 (shP_o h.o (by omega)) ?_
  refine R_aload_0 dX10_init_25 ?_
  refine R_iconst (v := 5) dX10_init_26 (by decide) ?_
  refine P_newaI (N := 5) dX10_init_27 h.2.2.2 (by decide) (by decide) (by decide) ?_
  refine pfX10_24 rfl rfl dX10_init_29 (shP_o h.o (by omega)) ?_
  refine R_vret rfl dX10_init_32 ⟨rfl, rfl, rfl⟩

/-- a new template -/
def tp (V : aV) (a : Nat) : aV := a_up (aVn (a_up (aVn (a_up (sg (aVn V a dX10) (a + 1)) a 0 (.ref (a + 1))) (a + 3) fun _ => .int 0) a 1 (.ref (a + 3))) (a + 4) fun _ => .int 0) a 2 (.ref (a + 4))
theorem tp_fr {V : aV} {a b : Nat} (h : b < a ∨ a + 4 < b) : tp V a b = V b := by
  unfold tp
  rw [a_up_row (by omega), aVn_ne (by omega), a_up_row (by omega), aVn_ne (by omega), a_up_row (by omega), sg_fr (by omega) (by omega), aVn_ne (by omega)]
theorem tp_TS {V : aV} {a : Nat} (h : s10 a) (ha : 3 < a) : TS (tp V a) a [] ∧ tp V a a 4 = .int 0 := by
  have e1 : ∀ b, b = a + 1 ∨ b = a + 2 → tp V a b = sg (aVn V a dX10) (a + 1) b := fun b hb => by
    unfold tp
    rw [a_up_row (by omega), aVn_ne (by omega), a_up_row (by omega), aVn_ne (by omega), a_up_row (by omega)]
  refine ⟨⟨⟨h.o, h.2.2.1, h.2.2.2, ha⟩, ⟨?_, ?_, a_up_self _ _ _ _⟩, (sg_sl h.2.1 (by decide)).frame (e1 _ (Or.inl rfl)) (e1 _ (Or.inr rfl))⟩, ?_⟩
  · unfold tp
    rw [a_up_ne (Or.inr (by decide)), aVn_ne (by omega), a_up_ne (Or.inr (by decide)), aVn_ne (by omega), a_up_self]
  · unfold tp
    rw [a_up_ne (Or.inr (by decide)), aVn_ne (by omega), a_up_self]
  · unfold tp
    rw [a_up_ne (Or.inr (by decide)), aVn_ne (by omega), a_up_ne (Or.inr (by decide)), aVn_ne (by omega), a_up_ne (Or.inr (by decide)), sg_fr (by omega) (by omega), aVn_self]
    rfl
set_option maxHeartbeats 4000000 in
theorem ct_i0 {V : aV} {a : Nat} (h : s0 a) : CT mX0_init 2 8 56 [.ref a] (shP (a + 1)) V (aRet none (shP (a + 9)) (a_up (sg (a_up (sg (a_up (sg (a_up (sg V (a + 1)) a 0 (.ref (a + 1))) (a + 3)) a 1 (.ref (a + 3))) (a + 5)) a 2 (.ref (a + 5))) (a + 7)) a 3 (.ref (a + 7)))) aNo := by
  refine CT_of (by decide +kernel) (Nat.le_of_ble_eq_true rfl) ?_
  show R _ _ _ _ _ _ _ _ 0 [some (.ref a)] [] _ _
  refine R_aload_0 dX0_init_0 ?_
  refine R_oinit (by decide) mlX0_3 (Nat.le_of_ble_eq_true rfl) dX0_init_1 ?_
  refine R_aload_0 dX0_init_4 ?_
  refine P_new9 clX0_9 dX0_init_5 h.2.1.1 ?_
  refine R_dup dX0_init_8 rfl ?_
  refine R_bipush (v := 12) dX0_init_9 (by decide) ?_
  refine R_callIN_e (T := mX0_init) (T' := mX9_init) (As := [_]) okX9_init mlX0_11 (ct_i9 (a := a + 1) (n := a + 2) (cap := 12) (x := 12) h.2.1.o (by omega) h.2.1.2 (by decide) (by decide) (by decide)) rfl (by decide) (by decide) (Nat.le_of_ble_eq_true rfl) dX0_init_11 ?_
  refine pfX0_14 rfl rfl dX0_init_14 (shP_o h.o (by omega)) ?_
  refine R_aload_0 dX0_init_17 ?_
  refine P_new9 clX0_9 dX0_init_18 h.2.2.1.1 ?_
  refine R_dup dX0_init_21 rfl ?_
  refine R_bipush (v := 12) dX0_init_22 (by decide) ?_
  refine R_callIN_e (T := mX0_init) (T' := mX9_init) (As := [_]) okX9_init mlX0_11 (ct_i9 (a := a + 3) (n := a + 4) (cap := 12) (x := 12) h.2.2.1.o (by omega) h.2.2.1.2 (by decide) (by decide) (by decide)) rfl (by decide) (by decide) (Nat.le_of_ble_eq_true rfl) dX0_init_24 ?_
  refine pfX0_20 rfl rfl dX0_init_27 (shP_o h.o (by omega)) ?_
  refine R_aload_0 dX0_init_30 ?_
  refine P_new9 clX0_9 dX0_init_31 h.2.2.2.1.1 ?_
  refine R_dup dX0_init_34 rfl ?_
  refine R_bipush (v := 12) dX0_init_35 (by decide) ?_
  refine R_callIN_e (T := mX0_init) (T' := mX9_init) (As := [_]) okX9_init mlX0_11 (ct_i9 (a := a + 5) (n := a + 6) (cap := 12) (x := 12) h.2.2.2.1.o (by omega) h.2.2.2.1.2 (by decide) (by decide) (by decide)) rfl (by decide) (by decide) (Nat.le_of_ble_eq_true rfl) dX0_init_37 ?_
  refine pfX0_23 rfl rfl dX0_init_40 (shP_o h.o (by omega)) ?_
  refine R_aload_0 dX0_init_43 ?_
  refine P_new9 clX0_9 dX0_init_44 h.2.2.2.2.1 ?_
  refine R_dup dX0_init_47 rfl ?_
  refine R_bipush (v := 12) dX0_init_48 (by decide) ?_
  refine R_callIN_e (T := mX0_init) (T' := mX9_init) (As := [_]) okX9_init mlX0_11 (ct_i9 (a := a + 7) (n := a + 8) (cap := 12) (x := 12) h.2.2.2.2.o (by omega) h.2.2.2.2.2 (by decide) (by decide) (by decide)) rfl (by decide) (by decide) (Nat.le_of_ble_eq_true rfl) dX0_init_50 ?_
  refine pfX0_26 rfl rfl dX0_init_53 (shP_o h.o (by omega)) ?_
  refine R_vret rfl dX0_init_56 ⟨rfl, rfl, rfl⟩

/-- a new address -/
def ad (V : aV) (a : Nat) : aV := (a_up (sg (a_up (sg (a_up (sg (a_up (sg (aVn V a dX0) (a + 1)) a 0 (.ref (a + 1))) (a + 3)) a 1 (.ref (a + 3))) (a + 5)) a 2 (.ref (a + 5))) (a + 7)) a 3 (.ref (a + 7)))
theorem ad_fr {V : aV} {a b : Nat} (h : b < a ∨ a + 8 < b) : ad V a b = V b := by
  unfold ad
  rw [a_up_row (by omega), sg_fr (by omega) (by omega), a_up_row (by omega), sg_fr (by omega) (by omega), a_up_row (by omega), sg_fr (by omega) (by omega), a_up_row (by omega), sg_fr (by omega) (by omega), aVn_ne (by omega)]
theorem ad_AD {V : aV} {a : Nat} (h : s0 a) (ha : 3 < a) : AD (ad V a) a [] [] [] [] ∧ ad V a a 4 = .int 0 ∧ ad V a a 5 = .int 0 ∧ ad V a a 6 = .int 0 := by
  have e : ∀ k, 4 ≤ k → ad V a a k = dX0 k := fun k hk => by
    unfold ad
    rw [a_up_ne (Or.inr (by omega)), sg_fr (by omega) (by omega), a_up_ne (Or.inr (by omega)), sg_fr (by omega) (by omega), a_up_ne (Or.inr (by omega)), sg_fr (by omega) (by omega), a_up_ne (Or.inr (by omega)), sg_fr (by omega) (by omega), aVn_self]
  refine ⟨⟨⟨h.o, ha⟩, ⟨?_, ?_, ?_, a_up_self _ _ _ _⟩, ?_, ?_, ?_, ?_⟩, e 4 (by decide), e 5 (by decide), e 6 (by decide)⟩
  · unfold ad
    rw [a_up_ne (Or.inr (by omega)), sg_fr (by omega) (by omega), a_up_ne (Or.inr (by omega)), sg_fr (by omega) (by omega), a_up_ne (Or.inr (by omega)), sg_fr (by omega) (by omega), a_up_self]
  · unfold ad
    rw [a_up_ne (Or.inr (by omega)), sg_fr (by omega) (by omega), a_up_ne (Or.inr (by omega)), sg_fr (by omega) (by omega), a_up_self]
  · unfold ad
    rw [a_up_ne (Or.inr (by omega)), sg_fr (by omega) (by omega), a_up_self]
  · refine (sg_sl h.2.1 (by decide)).frame (V := sg (aVn V a dX0) (a + 1)) ?_ ?_
    all_goals
      unfold ad
      rw [a_up_row (by omega), sg_fr (by omega) (by omega), a_up_row (by omega), sg_fr (by omega) (by omega), a_up_row (by omega), sg_fr (by omega) (by omega), a_up_row (by omega)]
  · refine (sg_sl h.2.2.1 (by decide)).frame (V := sg (a_up (sg (aVn V a dX0) (a + 1)) a 0 (.ref (a + 1))) (a + 3)) ?_ ?_
    all_goals
      unfold ad
      rw [a_up_row (by omega), sg_fr (by omega) (by omega), a_up_row (by omega), sg_fr (by omega) (by omega), a_up_row (by omega)]
  · refine (sg_sl h.2.2.2.1 (by decide)).frame (V := sg (a_up (sg (a_up (sg (aVn V a dX0) (a + 1)) a 0 (.ref (a + 1))) (a + 3)) a 1 (.ref (a + 3))) (a + 5)) ?_ ?_
    all_goals
      unfold ad
      rw [a_up_row (by omega), sg_fr (by omega) (by omega), a_up_row (by omega)]
  · refine (sg_sl h.2.2.2.2 (by decide)).frame (V := sg (a_up (sg (a_up (sg (a_up (sg (aVn V a dX0) (a + 1)) a 0 (.ref (a + 1))) (a + 3)) a 1 (.ref (a + 3))) (a + 5)) a 2 (.ref (a + 5))) (a + 7)) ?_ ?_
    all_goals
      unfold ad
      rw [a_up_row (by omega)]
set_option maxHeartbeats 4000000 in
theorem ct_i5 {V : aV} {a n : Nat} (ha : (shF a).1 = 5) (an : a < n) (hn : shF n = (14, 13)) : CT mX5_init 1 1 13 [.ref a] (shP n) V (aRet none (shP (n + 1)) (a_up (aVn V n fun _ => .int 0) a 0 (.ref n))) aNo := by
  refine CT_of (by decide +kernel) (Nat.le_of_ble_eq_true rfl) ?_
  show R _ _ _ _ _ _ _ _ 0 [some (.ref a)] [] _ _
  refine R_aload_0 dX5_init_0 ?_
  refine R_oinit (by decide) mlX5_3 (Nat.le_of_ble_eq_true rfl) dX5_init_1 ?_
  refine R_aload_0 dX5_init_4 ?_
  refine R_bipush (v := 13) dX5_init_5 (by decide) ?_
  refine P_newaI (N := 13) dX5_init_7 hn (by decide) (by decide) (by decide) ?_
  refine pfX5_9 rfl rfl dX5_init_9 (shP_o ha (by omega)) ?_
  refine R_vret rfl dX5_init_12 ⟨rfl, rfl, rfl⟩

set_option maxHeartbeats 4000000 in
theorem ct_i2 {V : aV} {a n : Nat} (ha : (shF a).1 = 2) (an : a < n) : CT mX2_init 1 0 0 [.ref a] (shP n) V (aRet none (shP n) (a_up (a_up V a 0 (.int 10)) a 1 (.int 5))) aNo := by
  refine CT_of (by decide +kernel) (Nat.le_of_ble_eq_true rfl) ?_
  show R _ _ _ _ _ _ _ _ 0 [some (.ref a)] [] _ _
  refine R_aload_0 dX2_init_0 ?_
  refine R_oinit (by decide) mlX2_3 (Nat.le_of_ble_eq_true rfl) dX2_init_1 ?_
  refine R_aload_0 dX2_init_4 ?_
  refine R_bipush (v := 10) dX2_init_5 (by decide) ?_
  refine pfX2_9 rfl dX2_init_7 (shP_o ha an) ?_
  refine R_aload_0 dX2_init_10 ?_
  refine R_iconst (v := 5) dX2_init_11 (by decide) ?_
  refine pfX2_15 rfl dX2_init_12 (shP_o ha an) ?_
  refine R_vret rfl dX2_init_15 ⟨rfl, rfl, rfl⟩

set_option maxHeartbeats 4000000 in
theorem ct_i6 {V : aV} {a : Nat} (ha : (shF a).1 = 6) (h : s9 (a + 1) 96) : CT mX6_init 2 2 98 [.ref a] (shP (a + 1)) V (aRet none (shP (a + 3)) (a_up (sg V (a + 1)) a 0 (.ref (a + 1)))) aNo := by
  refine CT_of (by decide +kernel) (Nat.le_of_ble_eq_true rfl) ?_
  show R _ _ _ _ _ _ _ _ 0 [some (.ref a)] [] _ _
  refine R_aload_0 dX6_init_0 ?_
  refine R_oinit (by decide) mlX6_3 (Nat.le_of_ble_eq_true rfl) dX6_init_1 ?_
  refine R_aload_0 dX6_init_4 ?_
  refine P_new9 clX6_9 dX6_init_5 h.1 ?_
  refine R_dup dX6_init_8 rfl ?_
  refine R_bipush (v := 96) dX6_init_9 (by decide) ?_
  refine R_callIN_e (T := mX6_init) (T' := mX9_init) (As := [_]) okX9_init mlX6_11 (ct_i9 (a := a + 1) (n := a + 2) (cap := 96) (x := 96) h.o (by omega) h.2 (by decide) (by decide) (by decide)) rfl (by decide) (by decide) (Nat.le_of_ble_eq_true rfl) dX6_init_11 ?_
  refine pfX6_14 rfl rfl dX6_init_14 (shP_o ha (by omega)) ?_
  refine R_vret rfl dX6_init_17 ⟨rfl, rfl, rfl⟩

