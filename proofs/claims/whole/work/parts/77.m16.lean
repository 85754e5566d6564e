/-! ===== MergePostModel: writing, its steps ===== -/
/-- the text so far -/
def TX (V : aV) (x : List Int32) : Prop := V 504 32 = .int (nI x.length) ∧ (∀ j, j < x.length → V 529 j = .int (x.getD j 0)) ∧ x.length ≤ 160
/-- a level: its template, its place, how deep, which choices hold, from which on it is dead -/
def LW (V : aV) (l n p dp fi dd : Nat) : Prop := V 530 l = .int (nI n) ∧ V 532 l = .int (nI p) ∧ V 533 l = .int (nI dp) ∧ V 534 l = .int (nI fi) ∧ V 535 l = .int (nI dd)
/-- as before but for what writing changes from level l on -/
def FrN (l : Nat) (V V' : aV) : Prop := (∀ b, b ≠ 504 → (b < 529 ∨ 536 < b) → V' b = V b) ∧ (∀ k, k ≠ 32 → k ≠ 33 → k ≠ 35 → k ≠ 43 → V' 504 k = V 504 k) ∧ ∀ b, 530 ≤ b → b ≤ 535 → ∀ j, j < l → V' b j = V b j
theorem FrN.refl {l : Nat} {V : aV} : FrN l V V := ⟨fun _ _ _ => rfl, fun _ _ _ _ _ => rfl, fun _ _ _ _ _ => rfl⟩
theorem FrN.trans {l : Nat} {V V1 V2 : aV} (h : FrN l V V1) (g : FrN l V1 V2) : FrN l V V2 := ⟨fun b q1 q2 => (g.1 b q1 q2).trans (h.1 b q1 q2), fun k q1 q2 q3 q4 => (g.2.1 k q1 q2 q3 q4).trans (h.2.1 k q1 q2 q3 q4), fun b q1 q2 j hj => (g.2.2 b q1 q2 j hj).trans (h.2.2 b q1 q2 j hj)⟩
theorem FrN.le {l l' : Nat} {V V' : aV} (h : FrN l' V V') (q : l ≤ l') : FrN l V V' := ⟨h.1, h.2.1, fun b q1 q2 j hj => h.2.2 b q1 q2 j (by omega)⟩
theorem FrN.f {l k : Nat} {v : Value} {V : aV} (hk : k = 32 ∨ k = 33 ∨ k = 35 ∨ k = 43) : FrN l V (a_up V 504 k v) := ⟨fun b q1 _ => a_up_row q1, fun j q1 q2 q3 q4 => a_up_ne (Or.inr (by omega)), fun b q1 q2 j hj => a_up_ne (Or.inl (by omega))⟩
theorem FrN.w {l a k : Nat} {v : Value} {V : aV} (h1 : 530 ≤ a) (h2 : a ≤ 535) (hk : l ≤ k) : FrN l V (a_up V a k v) := ⟨fun b _ q2 => a_up_row (by omega), fun j _ _ _ _ => a_up_ne (Or.inl (by omega)), fun b q1 q2 j hj => a_up_ne (Or.inr (by omega))⟩
theorem FrN.t {l a k : Nat} {v : Value} {V : aV} (h : a = 529 ∨ a = 536) : FrN l V (a_up V a k v) := ⟨fun b _ q2 => a_up_row (by omega), fun j _ _ _ _ => a_up_ne (Or.inl (by omega)), fun b q1 q2 j hj => a_up_ne (Or.inl (by omega))⟩
theorem FrG.n {l : Nat} {V V' : aV} (h : FrG V V') : FrN l V V' := ⟨fun b q1 q2 => h.1 b q1 (by omega), fun k _ _ _ q4 => h.2 k q4, fun b q1 q2 j _ => congrFun (h.1 b (by omega) (by omega)) j⟩
theorem FrN.mr {l : Nat} {V V' : aV} (h : FrN l V V') (hR : MR V) : MR V' := hR.fr (fun k hk => h.2.1 k (fun z => hk (by rw [z]; decide)) (fun z => hk (by rw [z]; decide)) (fun z => hk (by rw [z]; decide)) (fun z => hk (by rw [z]; decide)))
theorem FrN.mt {l : Nat} {V V' : aV} {T : Nat → List Int32} {to : Nat → Bool} (h : FrN l V V') (hT : MT V T to) : MT V' T to := hT.fr (h.1 506 (by decide) (by decide)) (h.1 507 (by decide) (by decide))
theorem FrN.me {l : Nat} {V V' : aV} {ent : Nat → EntN} {cnt : Nat} (h : FrN l V V') (hE : ME V ent cnt) : ME V' ent cnt := hE.fr (h.2.1 5 (by decide) (by decide) (by decide) (by decide)) (fun b q1 q2 => h.1 b (by omega) (by omega))
theorem FrN.lw {l k n p dp fi dd : Nat} {V V' : aV} (h : FrN l V V') (hk : k < l) (g : LW V k n p dp fi dd) : LW V' k n p dp fi dd := ⟨(h.2.2 530 (by decide) (by decide) k hk).trans g.1, (h.2.2 532 (by decide) (by decide) k hk).trans g.2.1, (h.2.2 533 (by decide) (by decide) k hk).trans g.2.2.1, (h.2.2 534 (by decide) (by decide) k hk).trans g.2.2.2.1, (h.2.2 535 (by decide) (by decide) k hk).trans g.2.2.2.2⟩
theorem TX.fr {V V' : aV} {x : List Int32} (h : TX V x) (e : V' 529 = V 529) (e2 : V' 504 32 = V 504 32) : TX V' x := ⟨e2.trans h.1, fun j hj => by rw [e]; exact h.2.1 j hj, h.2.2⟩
theorem FrG.tx {V V' : aV} {x : List Int32} (h : FrG V V') (g : TX V x) : TX V' x := g.fr (h.1 529 (by decide) (by decide)) (h.2 32 (by decide))
theorem FrG.lw {k n p dp fi dd : Nat} {V V' : aV} (h : FrG V V') (g : LW V k n p dp fi dd) : LW V' k n p dp fi dd := (h.n (l := k + 1)).lw (by omega) g
/-- the trouble that comes at level l -/
def TRo (V : aV) (l n p c : Nat) : Prop := V 504 33 = .int (nI c) ∧ V 504 35 = .int (nI (l + 1)) ∧ V 530 l = .int (nI n) ∧ V 531 l = .int (nI p)
theorem TX.add {V : aV} {x : List Int32} {c : Int32} (h : TX V x) (hx : x.length < 160) : TX (a_up (a_up V 529 x.length (.int c)) 504 32 (.int (nI (x.length + 1)))) (x ++ [c]) := by
  refine ⟨by rw [a_up_self, List.length_append]; rfl, fun j hj => ?_, by rw [List.length_append]; show x.length + 1 ≤ 160; omega⟩
  rw [a_up_ne (Or.inl (by decide))]
  by_cases q : j = x.length
  · rw [q, a_up_self, gd_last]
  · have hj' : j < x.length := by rw [List.length_append] at hj; have : [c].length = 1 := rfl; omega
    rw [a_up_ne (Or.inr q), gd_app1 hj']; exact h.2.1 j hj'
set_option maxHeartbeats 4000000 in
theorem ct_inTrouble {V : aV} {c n p l : Nat} (hR : MR V) (hl : l < 5) : CT mX12_inTrouble 0 0 0 [.ref 504, .int (nI c), .int (nI n), .int (nI p), .int (nI l)] Sh V (fun v S' V' => none = v ∧ Sh = S' ∧ TRo V' l n p c ∧ FrN l V V' ∧ (∀ b, b ≠ 504 → b ≠ 530 → b ≠ 531 → V' b = V b) ∧ ∀ k, k ≠ 33 → k ≠ 35 → V' 504 k = V 504 k) aNo := by
  refine CT_of (by decide +kernel) (Nat.le_of_ble_eq_true rfl) ?_
  show R _ _ _ _ _ _ _ _ 0 [some (.ref 504), some (.int (nI c)), some (.int (nI n)), some (.int (nI p)), some (.int (nI l))] [] _ _
  refine R_aload_0 dX12_inTrouble_0 ?_
  refine R_iload_1 dX12_inTrouble_1 ?_
  refine pfX12_233 rfl dX12_inTrouble_2 sh_504 ?_
  refine R_aload_0 dX12_inTrouble_5 ?_
  refine gfX12_93 rfl dX12_inTrouble_6 sh_504 (by first | exact hR.g (k := 36) (a := 530) (by decide) | exact (a_up_ne (by omega)).trans (hR.g (k := 36) (a := 530) (by decide)) | exact (a_up_ne (by omega)).trans ((a_up_ne (by omega)).trans (hR.g (k := 36) (a := 530) (by decide))) | exact (a_up_ne (by omega)).trans ((a_up_ne (by omega)).trans ((a_up_ne (by omega)).trans (hR.g (k := 36) (a := 530) (by decide)))) | exact (a_up_ne (by omega)).trans ((a_up_ne (by omega)).trans ((a_up_ne (by omega)).trans ((a_up_ne (by omega)).trans (hR.g (k := 36) (a := 530) (by decide))))) | exact (a_up_ne (by omega)).trans ((a_up_ne (by omega)).trans ((a_up_ne (by omega)).trans ((a_up_ne (by omega)).trans ((a_up_ne (by omega)).trans (hR.g (k := 36) (a := 530) (by decide)))))) | exact (a_up_ne (by omega)).trans ((a_up_ne (by omega)).trans ((a_up_ne (by omega)).trans ((a_up_ne (by omega)).trans ((a_up_ne (by omega)).trans ((a_up_ne (by omega)).trans (hR.g (k := 36) (a := 530) (by decide)))))))) ?_
  refine R_iload_4 dX12_inTrouble_9 ?_
  refine R_iload_2 dX12_inTrouble_11 ?_
  refine R_iastE dX12_inTrouble_12 sh_530 rfl (by omega) (by decide) ?_
  refine R_aload_0 dX12_inTrouble_13 ?_
  refine gfX12_96 rfl dX12_inTrouble_14 sh_504 (by first | exact hR.g (k := 37) (a := 531) (by decide) | exact (a_up_ne (by omega)).trans (hR.g (k := 37) (a := 531) (by decide)) | exact (a_up_ne (by omega)).trans ((a_up_ne (by omega)).trans (hR.g (k := 37) (a := 531) (by decide))) | exact (a_up_ne (by omega)).trans ((a_up_ne (by omega)).trans ((a_up_ne (by omega)).trans (hR.g (k := 37) (a := 531) (by decide)))) | exact (a_up_ne (by omega)).trans ((a_up_ne (by omega)).trans ((a_up_ne (by omega)).trans ((a_up_ne (by omega)).trans (hR.g (k := 37) (a := 531) (by decide))))) | exact (a_up_ne (by omega)).trans ((a_up_ne (by omega)).trans ((a_up_ne (by omega)).trans ((a_up_ne (by omega)).trans ((a_up_ne (by omega)).trans (hR.g (k := 37) (a := 531) (by decide)))))) | exact (a_up_ne (by omega)).trans ((a_up_ne (by omega)).trans ((a_up_ne (by omega)).trans ((a_up_ne (by omega)).trans ((a_up_ne (by omega)).trans ((a_up_ne (by omega)).trans (hR.g (k := 37) (a := 531) (by decide)))))))) ?_
  refine R_iload_4 dX12_inTrouble_17 ?_
  refine R_iload_3 dX12_inTrouble_19 ?_
  refine R_iastE dX12_inTrouble_20 sh_531 rfl (by omega) (by decide) ?_
  refine R_aload_0 dX12_inTrouble_21 ?_
  refine R_iload_4 dX12_inTrouble_22 ?_
  refine R_iconst (v := 1) dX12_inTrouble_24 (by decide) ?_
  refine R_iadd dX12_inTrouble_25 ?_
  rw [nI_1]
  refine pfX12_236 rfl dX12_inTrouble_26 sh_504 ?_
  refine R_vret rfl dX12_inTrouble_29 ⟨rfl, rfl, ⟨(a_up_ne (Or.inr (by decide))).trans ((a_up_ne (Or.inl (by decide))).trans ((a_up_ne (Or.inl (by decide))).trans (a_up_self _ _ _ _))), a_up_self _ _ _ _, (a_up_ne (Or.inl (by decide))).trans ((a_up_ne (Or.inl (by decide))).trans (a_up_self _ _ _ _)), (a_up_ne (Or.inl (by decide))).trans (a_up_self _ _ _ _)⟩, (FrN.f (Or.inr (Or.inl rfl))).trans ((FrN.w (by decide) (by decide) (Nat.le_refl _)).trans ((FrN.w (by decide) (by decide) (Nat.le_refl _)).trans (FrN.f (Or.inr (Or.inr (Or.inl rfl)))))), fun b q1 q2 q3 => (a_up_row q1).trans ((a_up_row q3).trans ((a_up_row q2).trans (a_up_row q1))), fun k q1 q2 => (a_up_ne (Or.inr q2)).trans ((a_up_ne (Or.inl (by decide))).trans ((a_up_ne (Or.inl (by decide))).trans (a_up_ne (Or.inr q1))))⟩

set_option maxHeartbeats 4000000 in
theorem ct_begin {V : aV} {n l : Nat} (hR : MR V) (hl : l < 5) : CT mX12_begin 0 0 0 [.ref 504, .int (nI n), .int (nI l)] Sh V (fun v S' V' => none = v ∧ Sh = S' ∧ LW V' l n 0 0 0 0 ∧ FrN l V V' ∧ (∀ b, b ≠ 530 → b < 532 ∨ 535 < b → V' b = V b)) aNo := by
  refine CT_of (by decide +kernel) (Nat.le_of_ble_eq_true rfl) ?_
  show R _ _ _ _ _ _ _ _ 0 [some (.ref 504), some (.int (nI n)), some (.int (nI l))] [] _ _
  refine R_aload_0 dX12_begin_0 ?_
  refine gfX12_93 rfl dX12_begin_1 sh_504 (by first | exact hR.g (k := 36) (a := 530) (by decide) | exact (a_up_ne (by omega)).trans (hR.g (k := 36) (a := 530) (by decide)) | exact (a_up_ne (by omega)).trans ((a_up_ne (by omega)).trans (hR.g (k := 36) (a := 530) (by decide))) | exact (a_up_ne (by omega)).trans ((a_up_ne (by omega)).trans ((a_up_ne (by omega)).trans (hR.g (k := 36) (a := 530) (by decide)))) | exact (a_up_ne (by omega)).trans ((a_up_ne (by omega)).trans ((a_up_ne (by omega)).trans ((a_up_ne (by omega)).trans (hR.g (k := 36) (a := 530) (by decide))))) | exact (a_up_ne (by omega)).trans ((a_up_ne (by omega)).trans ((a_up_ne (by omega)).trans ((a_up_ne (by omega)).trans ((a_up_ne (by omega)).trans (hR.g (k := 36) (a := 530) (by decide)))))) | exact (a_up_ne (by omega)).trans ((a_up_ne (by omega)).trans ((a_up_ne (by omega)).trans ((a_up_ne (by omega)).trans ((a_up_ne (by omega)).trans ((a_up_ne (by omega)).trans (hR.g (k := 36) (a := 530) (by decide)))))))) ?_
  refine R_iload_2 dX12_begin_4 ?_
  refine R_iload_1 dX12_begin_5 ?_
  refine R_iastE dX12_begin_6 sh_530 rfl (by omega) (by decide) ?_
  refine R_aload_0 dX12_begin_7 ?_
  refine gfX12_99 rfl dX12_begin_8 sh_504 (by first | exact hR.g (k := 38) (a := 532) (by decide) | exact (a_up_ne (by omega)).trans (hR.g (k := 38) (a := 532) (by decide)) | exact (a_up_ne (by omega)).trans ((a_up_ne (by omega)).trans (hR.g (k := 38) (a := 532) (by decide))) | exact (a_up_ne (by omega)).trans ((a_up_ne (by omega)).trans ((a_up_ne (by omega)).trans (hR.g (k := 38) (a := 532) (by decide)))) | exact (a_up_ne (by omega)).trans ((a_up_ne (by omega)).trans ((a_up_ne (by omega)).trans ((a_up_ne (by omega)).trans (hR.g (k := 38) (a := 532) (by decide))))) | exact (a_up_ne (by omega)).trans ((a_up_ne (by omega)).trans ((a_up_ne (by omega)).trans ((a_up_ne (by omega)).trans ((a_up_ne (by omega)).trans (hR.g (k := 38) (a := 532) (by decide)))))) | exact (a_up_ne (by omega)).trans ((a_up_ne (by omega)).trans ((a_up_ne (by omega)).trans ((a_up_ne (by omega)).trans ((a_up_ne (by omega)).trans ((a_up_ne (by omega)).trans (hR.g (k := 38) (a := 532) (by decide)))))))) ?_
  refine R_iload_2 dX12_begin_11 ?_
  refine R_iconst (v := 0) dX12_begin_12 (by decide) ?_
  refine R_iastE dX12_begin_13 sh_532 rfl (by omega) (by decide) ?_
  refine R_aload_0 dX12_begin_14 ?_
  refine gfX12_102 rfl dX12_begin_15 sh_504 (by first | exact hR.g (k := 39) (a := 533) (by decide) | exact (a_up_ne (by omega)).trans (hR.g (k := 39) (a := 533) (by decide)) | exact (a_up_ne (by omega)).trans ((a_up_ne (by omega)).trans (hR.g (k := 39) (a := 533) (by decide))) | exact (a_up_ne (by omega)).trans ((a_up_ne (by omega)).trans ((a_up_ne (by omega)).trans (hR.g (k := 39) (a := 533) (by decide)))) | exact (a_up_ne (by omega)).trans ((a_up_ne (by omega)).trans ((a_up_ne (by omega)).trans ((a_up_ne (by omega)).trans (hR.g (k := 39) (a := 533) (by decide))))) | exact (a_up_ne (by omega)).trans ((a_up_ne (by omega)).trans ((a_up_ne (by omega)).trans ((a_up_ne (by omega)).trans ((a_up_ne (by omega)).trans (hR.g (k := 39) (a := 533) (by decide)))))) | exact (a_up_ne (by omega)).trans ((a_up_ne (by omega)).trans ((a_up_ne (by omega)).trans ((a_up_ne (by omega)).trans ((a_up_ne (by omega)).trans ((a_up_ne (by omega)).trans (hR.g (k := 39) (a := 533) (by decide)))))))) ?_
  refine R_iload_2 dX12_begin_18 ?_
  refine R_iconst (v := 0) dX12_begin_19 (by decide) ?_
  refine R_iastE dX12_begin_20 sh_533 rfl (by omega) (by decide) ?_
  refine R_aload_0 dX12_begin_21 ?_
  refine gfX12_105 rfl dX12_begin_22 sh_504 (by first | exact hR.g (k := 40) (a := 534) (by decide) | exact (a_up_ne (by omega)).trans (hR.g (k := 40) (a := 534) (by decide)) | exact (a_up_ne (by omega)).trans ((a_up_ne (by omega)).trans (hR.g (k := 40) (a := 534) (by decide))) | exact (a_up_ne (by omega)).trans ((a_up_ne (by omega)).trans ((a_up_ne (by omega)).trans (hR.g (k := 40) (a := 534) (by decide)))) | exact (a_up_ne (by omega)).trans ((a_up_ne (by omega)).trans ((a_up_ne (by omega)).trans ((a_up_ne (by omega)).trans (hR.g (k := 40) (a := 534) (by decide))))) | exact (a_up_ne (by omega)).trans ((a_up_ne (by omega)).trans ((a_up_ne (by omega)).trans ((a_up_ne (by omega)).trans ((a_up_ne (by omega)).trans (hR.g (k := 40) (a := 534) (by decide)))))) | exact (a_up_ne (by omega)).trans ((a_up_ne (by omega)).trans ((a_up_ne (by omega)).trans ((a_up_ne (by omega)).trans ((a_up_ne (by omega)).trans ((a_up_ne (by omega)).trans (hR.g (k := 40) (a := 534) (by decide)))))))) ?_
  refine R_iload_2 dX12_begin_25 ?_
  refine R_iconst (v := 0) dX12_begin_26 (by decide) ?_
  refine R_iastE dX12_begin_27 sh_534 rfl (by omega) (by decide) ?_
  refine R_aload_0 dX12_begin_28 ?_
  refine gfX12_108 rfl dX12_begin_29 sh_504 (by first | exact hR.g (k := 41) (a := 535) (by decide) | exact (a_up_ne (by omega)).trans (hR.g (k := 41) (a := 535) (by decide)) | exact (a_up_ne (by omega)).trans ((a_up_ne (by omega)).trans (hR.g (k := 41) (a := 535) (by decide))) | exact (a_up_ne (by omega)).trans ((a_up_ne (by omega)).trans ((a_up_ne (by omega)).trans (hR.g (k := 41) (a := 535) (by decide)))) | exact (a_up_ne (by omega)).trans ((a_up_ne (by omega)).trans ((a_up_ne (by omega)).trans ((a_up_ne (by omega)).trans (hR.g (k := 41) (a := 535) (by decide))))) | exact (a_up_ne (by omega)).trans ((a_up_ne (by omega)).trans ((a_up_ne (by omega)).trans ((a_up_ne (by omega)).trans ((a_up_ne (by omega)).trans (hR.g (k := 41) (a := 535) (by decide)))))) | exact (a_up_ne (by omega)).trans ((a_up_ne (by omega)).trans ((a_up_ne (by omega)).trans ((a_up_ne (by omega)).trans ((a_up_ne (by omega)).trans ((a_up_ne (by omega)).trans (hR.g (k := 41) (a := 535) (by decide)))))))) ?_
  refine R_iload_2 dX12_begin_32 ?_
  refine R_iconst (v := 0) dX12_begin_33 (by decide) ?_
  refine R_iastE dX12_begin_34 sh_535 rfl (by omega) (by decide) ?_
  refine R_vret rfl dX12_begin_35 ⟨rfl, rfl, ⟨((a_up_ne (Or.inl (by decide))).trans ((a_up_ne (Or.inl (by decide))).trans ((a_up_ne (Or.inl (by decide))).trans ((a_up_ne (Or.inl (by decide))).trans (a_up_self _ _ _ _))))), ((a_up_ne (Or.inl (by decide))).trans ((a_up_ne (Or.inl (by decide))).trans ((a_up_ne (Or.inl (by decide))).trans (a_up_self _ _ _ _)))), ((a_up_ne (Or.inl (by decide))).trans ((a_up_ne (Or.inl (by decide))).trans (a_up_self _ _ _ _))), ((a_up_ne (Or.inl (by decide))).trans (a_up_self _ _ _ _)), (a_up_self _ _ _ _)⟩, (FrN.w (by decide) (by decide) (Nat.le_refl _)).trans ((FrN.w (by decide) (by decide) (Nat.le_refl _)).trans ((FrN.w (by decide) (by decide) (Nat.le_refl _)).trans ((FrN.w (by decide) (by decide) (Nat.le_refl _)).trans (FrN.w (by decide) (by decide) (Nat.le_refl _))))), fun b q1 q2 => (a_up_row (by omega)).trans ((a_up_row (by omega)).trans ((a_up_row (by omega)).trans ((a_up_row (by omega)).trans (a_up_row q1))))⟩

set_option maxHeartbeats 4000000 in
theorem ad_loop {mc ms kc ks : Nat} {V0 : aV} {x G : List Int32} {n p l : Nat} (hR0 : MR V0) (hG0 : GV V0 G) (hg : G.length ≤ 200) (hl : l < 5) {Q : Option Value → aS → aV → Prop} {QX : String → aS → aV → Prop} (hQ : ∀ V', ((¬ 160 - x.length < G.length ∧ TX V' (x ++ G) ∧ V' 504 33 = .int 0 ∧ ∀ b, b ≠ 504 → b ≠ 529 → V' b = V0 b) ∨ (160 - x.length < G.length ∧ TRo V' l n p 3)) → FrN l V0 V' → Q none Sh V') : ∀ (m j : Nat) (V : aV), j + m = G.length → TX V (x ++ G.take j) → V 504 33 = .int 0 → (∀ b, b ≠ 504 → b ≠ 529 → V b = V0 b) → FrN l V0 V → V 504 43 = V0 504 43 → R mX12_add 1 mc ms Q QX kc ks 3 [some (.ref 504), some (.int (nI n)), some (.int (nI p)), some (.int (nI l)), some (.int (nI (j)))] [] Sh V := by
  intro m
  induction m with
  | zero =>
    intro j V hj hX hz hB hF h43
    have hj' : j = G.length := by omega
    subst hj'
    rw [List.take_length] at hX
    have hc := h43.trans hG0.1
    have hl9 := hX.2.2
    rw [List.length_append] at hl9
    refine R_iload_4 dX12_add_3 ?_
    refine R_aload_0 dX12_add_5 ?_
    refine gfX12_213 rfl dX12_add_6 sh_504 hc ?_
    refine R_icmp_ge 72 dX12_add_9 (by decide) (fun c9 => ?_) (fun c9 => absurd (Int32.le_refl _) c9)
    refine R_vret rfl dX12_add_72 (hQ V (Or.inl ⟨by omega, hX, hz, hB⟩) hF)
  | succ m ih =>
    intro j V hj hX hz hB hF h43
    have hR := hF.mr hR0
    have hc := h43.trans hG0.1
    have gl : (x ++ G.take j).length = x.length + j := by rw [List.length_append, List.length_take, Nat.min_eq_left (by omega)]
    have hl9 := hX.2.2
    have hs := hX.1
    have hv := (congrFun (hB 536 (by decide) (by decide)) j).trans (hG0.2 j (by omega))
    have b9 : ¬ nI G.length ≤ nI j := nI_ge (a := j) (b := G.length) (by omega) (by omega)
    refine R_iload_4 dX12_add_3 ?_
    refine R_aload_0 dX12_add_5 ?_
    refine gfX12_213 rfl dX12_add_6 sh_504 hc ?_
    refine R_icmp_ge 72 dX12_add_9 (by decide) (fun c9 => absurd c9 b9) (fun c9 => ?_)
    refine R_aload_0 dX12_add_12 ?_
    refine gfX12_233 rfl dX12_add_13 sh_504 hz ?_
    refine R_if_ne 72 dX12_add_16 (by decide) (fun c16 => absurd rfl c16) (fun c16 => ?_)
    refine R_aload_0 dX12_add_19 ?_
    refine gfX12_239 rfl dX12_add_20 sh_504 hs ?_
    refine R_sipush (v := 160) dX12_add_23 (by decide) ?_
    refine R_icmp_ne 40 dX12_add_26 (by decide) (fun c26 => ?_) (fun c26 => ?_)
    · have c9 : x.length + j < 160 := by
        rw [gl] at c26 hl9
        exact Nat.lt_of_le_of_ne hl9 (fun z => c26 (by rw [z]; rfl))
      refine R_aload_0 dX12_add_40 ?_
      refine gfX12_90 rfl dX12_add_41 sh_504 (by first | exact hR.g (k := 31) (a := 529) (by decide) | exact (a_up_ne (by omega)).trans (hR.g (k := 31) (a := 529) (by decide)) | exact (a_up_ne (by omega)).trans ((a_up_ne (by omega)).trans (hR.g (k := 31) (a := 529) (by decide))) | exact (a_up_ne (by omega)).trans ((a_up_ne (by omega)).trans ((a_up_ne (by omega)).trans (hR.g (k := 31) (a := 529) (by decide)))) | exact (a_up_ne (by omega)).trans ((a_up_ne (by omega)).trans ((a_up_ne (by omega)).trans ((a_up_ne (by omega)).trans (hR.g (k := 31) (a := 529) (by decide))))) | exact (a_up_ne (by omega)).trans ((a_up_ne (by omega)).trans ((a_up_ne (by omega)).trans ((a_up_ne (by omega)).trans ((a_up_ne (by omega)).trans (hR.g (k := 31) (a := 529) (by decide)))))) | exact (a_up_ne (by omega)).trans ((a_up_ne (by omega)).trans ((a_up_ne (by omega)).trans ((a_up_ne (by omega)).trans ((a_up_ne (by omega)).trans ((a_up_ne (by omega)).trans (hR.g (k := 31) (a := 529) (by decide)))))))) ?_
      refine R_aload_0 dX12_add_44 ?_
      refine gfX12_239 rfl dX12_add_45 sh_504 hs ?_
      refine R_aload_0 dX12_add_48 ?_
      refine gfX12_111 rfl dX12_add_49 sh_504 (by first | exact hR.g (k := 42) (a := 536) (by decide) | exact (a_up_ne (by omega)).trans (hR.g (k := 42) (a := 536) (by decide)) | exact (a_up_ne (by omega)).trans ((a_up_ne (by omega)).trans (hR.g (k := 42) (a := 536) (by decide))) | exact (a_up_ne (by omega)).trans ((a_up_ne (by omega)).trans ((a_up_ne (by omega)).trans (hR.g (k := 42) (a := 536) (by decide)))) | exact (a_up_ne (by omega)).trans ((a_up_ne (by omega)).trans ((a_up_ne (by omega)).trans ((a_up_ne (by omega)).trans (hR.g (k := 42) (a := 536) (by decide))))) | exact (a_up_ne (by omega)).trans ((a_up_ne (by omega)).trans ((a_up_ne (by omega)).trans ((a_up_ne (by omega)).trans ((a_up_ne (by omega)).trans (hR.g (k := 42) (a := 536) (by decide)))))) | exact (a_up_ne (by omega)).trans ((a_up_ne (by omega)).trans ((a_up_ne (by omega)).trans ((a_up_ne (by omega)).trans ((a_up_ne (by omega)).trans ((a_up_ne (by omega)).trans (hR.g (k := 42) (a := 536) (by decide)))))))) ?_
      refine R_iload_4 dX12_add_52 ?_
      refine R_ialdE dX12_add_54 sh_536 rfl (by omega) (by decide) hv ?_
      refine R_iastE dX12_add_55 sh_529 rfl (by rw [gl]; omega) (by decide) ?_
      refine R_aload_0 dX12_add_56 ?_
      refine R_dup dX12_add_57 rfl ?_
      refine gfX12_239 rfl dX12_add_58 sh_504 ((a_up_ne (Or.inl (by decide))).trans hs) ?_
      refine R_iconst (v := 1) dX12_add_61 (by decide) ?_
      refine R_iadd dX12_add_62 ?_
      refine pfX12_239 rfl dX12_add_63 sh_504 ?_
      refine R_iinc_4 rfl (by decide) dX12_add_66 rfl ?_
      rw [show nI j + Int32.ofInt 1 = nI (j + 1) from nI_1 j]
      refine R_goto 3 dX12_add_69 (by decide) ?_
      have hX1 := hX.add (c := G.getD j 0) (by rw [gl]; omega)
      rw [List.append_assoc, ← take_sa (by omega)] at hX1
      rw [show nI (x ++ G.take j).length + 1 = nI ((x ++ G.take j).length + 1) from nI_1 _]
      exact ih (j + 1) _ (by omega) hX1 ((a_up_ne (Or.inr (by decide))).trans ((a_up_ne (Or.inl (by decide))).trans hz)) (fun b q1 q2 => (a_up_row q1).trans ((a_up_row q2).trans (hB b q1 q2))) (hF.trans ((FrN.t (Or.inl rfl)).trans (FrN.f (Or.inl rfl)))) ((a_up_ne (Or.inr (by decide))).trans ((a_up_ne (Or.inl (by decide))).trans h43))
    · have c9 : x.length + j = 160 := by
        have c27 := (nI_eq (a := (x ++ G.take j).length) (b := 160) (by omega) (by decide)).1 c26
        rw [gl] at c27; exact c27
      refine R_aload_0 dX12_add_29 ?_
      refine R_iconst (v := 3) dX12_add_30 (by decide) ?_
      refine R_iload_1 dX12_add_31 ?_
      refine R_iload_2 dX12_add_32 ?_
      refine R_iload_3 dX12_add_33 ?_
      refine R_callV (T := mX12_add) (T' := mX12_inTrouble) (As := [_, _, _, _]) (ci := 12) okX12_inTrouble mlX12_242 rfl (by decide) sh_504 (ct_inTrouble (c := 3) (n := n) (p := p) hR hl) rfl (by decide) (by decide) (Nat.le_of_ble_eq_true rfl) dX12_add_34 (fun v9 S9 V2 h9 => ?_) (fun E S9 V9 h9 => h9.elim)
      obtain ⟨rfl, rfl, g4, u4, g5, g6⟩ := h9
      refine R_goto 66 dX12_add_37 (by decide) ?_
      refine R_iinc_4 rfl (by decide) dX12_add_66 rfl ?_
      rw [show nI j + Int32.ofInt 1 = nI (j + 1) from nI_1 j]
      refine R_goto 3 dX12_add_69 (by decide) ?_
      have hR := u4.mr hR
      have hc2 := (g6 43 (by decide) (by decide)).trans hc
      refine R_iload_4 dX12_add_3 ?_
      refine R_aload_0 dX12_add_5 ?_
      refine gfX12_213 rfl dX12_add_6 sh_504 hc2 ?_
      refine R_icmp_ge 72 dX12_add_9 (by decide) (fun c9 => ?_) (fun c9 => ?_)
      · refine R_vret rfl dX12_add_72 (hQ V2 (Or.inr ⟨by omega, g4⟩) (hF.trans u4))
      · refine R_aload_0 dX12_add_12 ?_
        refine gfX12_233 rfl dX12_add_13 sh_504 g4.1 ?_
        refine R_if_ne 72 dX12_add_16 (by decide) (fun c16 => ?_) (fun c16 => absurd c16 (by decide))
        refine R_vret rfl dX12_add_72 (hQ V2 (Or.inr ⟨by omega, g4⟩) (hF.trans u4))
set_option maxHeartbeats 4000000 in
theorem ct_madd {V : aV} {x G : List Int32} {n p l : Nat} (hR : MR V) (hG : GV V G) (hg : G.length ≤ 200) (hl : l < 5) (hX : TX V x) (hz : V 504 33 = .int 0) : CT mX12_add 1 0 0 [.ref 504, .int (nI n), .int (nI p), .int (nI l)] Sh V (fun v S' V' => none = v ∧ Sh = S' ∧ ((¬ 160 - x.length < G.length ∧ TX V' (x ++ G) ∧ V' 504 33 = .int 0 ∧ ∀ b, b ≠ 504 → b ≠ 529 → V' b = V b) ∨ (160 - x.length < G.length ∧ TRo V' l n p 3)) ∧ FrN l V V') aNo := by
  refine CT_of (by decide +kernel) (Nat.le_of_ble_eq_true rfl) ?_
  show R _ _ _ _ _ _ _ _ 0 [some (.ref 504), some (.int (nI n)), some (.int (nI p)), some (.int (nI l)), none] [] _ _
  refine R_iconst (v := 0) dX12_add_0 (by decide) ?_
  refine R_istore_4 rfl (by decide) dX12_add_1 ?_
  exact ad_loop hR hG hg hl (fun V' a b => ⟨rfl, rfl, a, b⟩) G.length 0 V (by omega) (by rw [List.take_zero, List.append_nil]; exact hX) hz (fun _ _ _ => rfl) FrN.refl rfl

