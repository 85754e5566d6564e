/-! ===== MergePostModel: what a field gives ===== -/
def GV (V : aV) (G : List Int32) : Prop := V 504 43 = .int (nI G.length) ∧ ∀ j, j < G.length → V 536 j = .int (G.getD j 0)
def FrG (V V' : aV) : Prop := (∀ b, b ≠ 504 → b ≠ 536 → V' b = V b) ∧ ∀ k, k ≠ 43 → V' 504 k = V 504 k
theorem FrG.refl {V : aV} : FrG V V := ⟨fun _ _ _ => rfl, fun _ _ => rfl⟩
theorem FrG.trans {V V1 V2 : aV} (h : FrG V V1) (g : FrG V1 V2) : FrG V V2 := ⟨fun b q1 q2 => (g.1 b q1 q2).trans (h.1 b q1 q2), fun k q => (g.2 k q).trans (h.2 k q)⟩
theorem FrG.u {V : aV} {v : Value} : FrG V (a_up V 504 43 v) := ⟨fun b q1 _ => a_up_row q1, fun k q => a_up_ne (Or.inr q)⟩
theorem FrG.w {V : aV} {k : Nat} {v : Value} : FrG V (a_up V 536 k v) := ⟨fun b _ q2 => a_up_row q2, fun k _ => a_up_ne (Or.inl (by decide))⟩
theorem FrG.mr {V V' : aV} (h : FrG V V') (hR : MR V) : MR V' := hR.fr (fun k hk => h.2 k (fun z => hk (by rw [z]; decide)))
theorem FrG.me {V V' : aV} {ent : Nat → EntN} {cnt : Nat} (h : FrG V V') (hE : ME V ent cnt) : ME V' ent cnt := hE.fr (h.2 5 (by decide)) (fun b q1 q2 => h.1 b (by omega) (by omega))
theorem take_sa {α : Type} {d : α} {l : List α} {j : Nat} (h : j < l.length) : l.take (j + 1) = l.take j ++ [l.getD j d] := by
  rw [List.take_succ, List.getElem?_eq_getElem h, List.getD_eq_getElem?_getD, List.getElem?_eq_getElem h]
  rfl
theorem gd_app1 {G L : List Int32} {j : Nat} (h : j < G.length) : (G ++ L).getD j 0 = G.getD j 0 := by
  rw [List.getD_eq_getElem?_getD, List.getD_eq_getElem?_getD, List.getElem?_append_left h]
theorem gd_last {G : List Int32} {c : Int32} : (G ++ [c]).getD G.length 0 = c := by
  rw [List.getD_eq_getElem?_getD, List.getElem?_append_right (Nat.le_refl _), Nat.sub_self]; rfl
theorem GV.app {V : aV} {G : List Int32} {c : Int32} (h : GV V G) : GV (a_up (a_up V 536 G.length (.int c)) 504 43 (.int (nI (G.length + 1)))) (G ++ [c]) := by
  refine ⟨by rw [a_up_self, List.length_append]; rfl, fun j hj => ?_⟩
  rw [a_up_ne (Or.inl (by decide))]
  by_cases q : j = G.length
  · rw [q, a_up_self, gd_last]
  · have hj' : j < G.length := by rw [List.length_append] at hj; have : [c].length = 1 := rfl; omega
    rw [a_up_ne (Or.inr q), gd_app1 hj']; exact h.2 j hj'
set_option maxHeartbeats 4000000 in
theorem gw_loop {mc ms kc ks : Nat} {V0 : aV} {a t : Nat} {L : List Int32} (hR0 : MR V0) (ha : Sh.1 a = (14, 144)) (ha9 : a ≠ 536 ∧ a ≠ 504) (ht : t < 12) (hL : RWS V0 a (12 * t) L) (hl : L.length ≤ 12) {G : List Int32} (hb : G.length + 12 ≤ 200) {Q : Option Value → aS → aV → Prop} {QX : String → aS → aV → Prop} (hQ : ∀ V', GV V' (G ++ L) → FrG V0 V' → Q none Sh V') : ∀ (m j : Nat) (V : aV), j + m = L.length → GV V (G ++ L.take j) → FrG V0 V → R mX12_giveRow 0 mc ms Q QX kc ks 3 [some (.ref 504), some (.ref a), some (.int (nI t)), some (.int (nI L.length)), some (.int (nI (j)))] [] Sh V := by
  intro m
  induction m with
  | zero =>
    intro j V hj hG hF
    have hj' : j = L.length := by omega
    subst hj'
    rw [List.take_length] at hG
    refine R_iload_4 dX12_giveRow_3 ?_
    refine R_iload_3 dX12_giveRow_5 ?_
    refine R_icmp_ge 43 dX12_giveRow_6 (by decide) (fun c6 => ?_) (fun c6 => absurd (Int32.le_refl _) c6)
    refine R_vret rfl dX12_giveRow_43 (hQ V hG hF)
  | succ m ih =>
    intro j V hj hG hF
    have hR := hF.mr hR0
    have h43 := hG.1
    have gl : (G ++ L.take j).length = G.length + j := by rw [List.length_append, List.length_take, Nat.min_eq_left (by omega)]
    have b9 : ¬ nI L.length ≤ nI j := nI_ge (a := j) (b := L.length) (by omega) (by omega)
    have hv := (congrFun (hF.1 a ha9.2 ha9.1) (12 * t + j)).trans (hL j (by omega))
    refine R_iload_4 dX12_giveRow_3 ?_
    refine R_iload_3 dX12_giveRow_5 ?_
    refine R_icmp_ge 43 dX12_giveRow_6 (by decide) (fun c6 => absurd c6 b9) (fun c6 => ?_)
    refine R_aload_0 dX12_giveRow_9 ?_
    refine gfX12_111 rfl dX12_giveRow_10 sh_504 (by first | exact hR.g (k := 42) (a := 536) (by decide) | exact (a_up_ne (by omega)).trans (hR.g (k := 42) (a := 536) (by decide)) | exact (a_up_ne (by omega)).trans ((a_up_ne (by omega)).trans (hR.g (k := 42) (a := 536) (by decide))) | exact (a_up_ne (by omega)).trans ((a_up_ne (by omega)).trans ((a_up_ne (by omega)).trans (hR.g (k := 42) (a := 536) (by decide)))) | exact (a_up_ne (by omega)).trans ((a_up_ne (by omega)).trans ((a_up_ne (by omega)).trans ((a_up_ne (by omega)).trans (hR.g (k := 42) (a := 536) (by decide))))) | exact (a_up_ne (by omega)).trans ((a_up_ne (by omega)).trans ((a_up_ne (by omega)).trans ((a_up_ne (by omega)).trans ((a_up_ne (by omega)).trans (hR.g (k := 42) (a := 536) (by decide)))))) | exact (a_up_ne (by omega)).trans ((a_up_ne (by omega)).trans ((a_up_ne (by omega)).trans ((a_up_ne (by omega)).trans ((a_up_ne (by omega)).trans ((a_up_ne (by omega)).trans (hR.g (k := 42) (a := 536) (by decide)))))))) ?_
    refine R_aload_0 dX12_giveRow_13 ?_
    refine gfX12_213 rfl dX12_giveRow_14 sh_504 h43 ?_
    refine R_aload_1 dX12_giveRow_17 ?_
    refine R_bipush (v := 12) dX12_giveRow_18 (by decide) ?_
    refine R_iload_2 dX12_giveRow_20 ?_
    refine R_imul dX12_giveRow_21 ?_
    refine R_iload_4 dX12_giveRow_22 ?_
    refine R_iadd dX12_giveRow_24 ?_
    refine R_ialdE dX12_giveRow_25 ha (ix1 12 t j) (by omega) (by decide) hv ?_
    refine R_iastE dX12_giveRow_26 sh_536 rfl (by rw [gl]; omega) (by decide) ?_
    refine R_aload_0 dX12_giveRow_27 ?_
    refine R_dup dX12_giveRow_28 rfl ?_
    refine gfX12_213 rfl dX12_giveRow_29 sh_504 ((a_up_ne (Or.inl (by decide))).trans h43) ?_
    refine R_iconst (v := 1) dX12_giveRow_32 (by decide) ?_
    refine R_iadd dX12_giveRow_33 ?_
    refine pfX12_213 rfl dX12_giveRow_34 sh_504 ?_
    refine R_iinc_4 rfl (by decide) dX12_giveRow_37 rfl ?_
    rw [show nI j + Int32.ofInt 1 = nI (j + 1) from nI_1 j]
    refine R_goto 3 dX12_giveRow_40 (by decide) ?_
    have hG1 := hG.app (c := L.getD j 0)
    rw [List.append_assoc, ← take_sa (by omega)] at hG1
    rw [show nI (G ++ L.take j).length + 1 = nI ((G ++ L.take j).length + 1) from nI_1 _]
    exact ih (j + 1) _ (by omega) hG1 (hF.trans (FrG.w.trans FrG.u))
set_option maxHeartbeats 4000000 in
theorem ct_giveRow {V : aV} {a t : Nat} {L : List Int32} (hR : MR V) (ha : Sh.1 a = (14, 144)) (ha9 : a ≠ 536 ∧ a ≠ 504) (ht : t < 12) (hL : RWS V a (12 * t) L) (hl : L.length ≤ 12) {G : List Int32} (hG : GV V G) (hb : G.length + 12 ≤ 200) : CT mX12_giveRow 0 0 0 [.ref 504, .ref a, .int (nI t), .int (nI L.length)] Sh V (fun v S' V' => none = v ∧ Sh = S' ∧ GV V' (G ++ L) ∧ FrG V V') aNo := by
  refine CT_of (by decide +kernel) (Nat.le_of_ble_eq_true rfl) ?_
  show R _ _ _ _ _ _ _ _ 0 [some (.ref 504), some (.ref a), some (.int (nI t)), some (.int (nI L.length)), none] [] _ _
  refine R_iconst (v := 0) dX12_giveRow_0 (by decide) ?_
  refine R_istore_4 rfl (by decide) dX12_giveRow_1 ?_
  exact gw_loop hR ha ha9 ht hL hl hb (fun V' g f => ⟨rfl, rfl, g, f⟩) L.length 0 V (by omega) (by rw [List.take_zero, List.append_nil]; exact hG) FrG.refl

theorem dgn_c (x : Nat) : (dgn x = 1 ∧ x < 10) ∨ (dgn x = 2 ∧ 10 ≤ x ∧ x < 100) ∨ (dgn x = 3 ∧ 100 ≤ x ∧ x < 1000) ∨ (dgn x = 4 ∧ 1000 ≤ x) := by
  unfold dgn
  split
  · exact Or.inr (Or.inr (Or.inr ⟨rfl, by omega⟩))
  · split
    · exact Or.inr (Or.inr (Or.inl ⟨rfl, by omega⟩))
    · split
      · exact Or.inr (Or.inl ⟨rfl, by omega⟩)
      · exact Or.inl ⟨rfl, by omega⟩
theorem dgn_u {x i : Nat} (hx : x < 10000) (h1 : 1 ≤ i) (h : i ≤ dgn x) : (x / un10 i < 10 ↔ i = dgn x) ∧ 0 < un10 i ∧ un10 i ≤ 1000 := by
  have hd := dgn_le x
  have hi : i = 1 ∨ i = 2 ∨ i = 3 ∨ i = 4 := by omega
  have e1 : un10 1 = 1 := rfl
  have e2 : un10 2 = 10 := rfl
  have e3 : un10 3 = 100 := rfl
  have e4 : un10 4 = 1000 := rfl
  rcases dgn_c x with ⟨e, z⟩ | ⟨e, z, z2⟩ | ⟨e, z, z2⟩ | ⟨e, z⟩ <;> rw [e] at h ⊢ <;> rcases hi with rfl | rfl | rfl | rfl <;> (first | rw [e1] | rw [e2] | rw [e3] | rw [e4]) <;> refine ⟨⟨fun _ => ?_, fun _ => ?_⟩, ?_, ?_⟩ <;> omega
set_option maxHeartbeats 4000000 in
theorem gn_dig {mc ms kc ks : Nat} {V0 : aV} {x : Nat} (hR0 : MR V0) (hx : x < 10000) {Q : Option Value → aS → aV → Prop} {QX : String → aS → aV → Prop} : ∀ (i : Nat) (G : List Int32) (V : aV), i ≤ 4 → GV V G → G.length + i ≤ 200 → FrG V0 V → (∀ V', GV V' (G ++ dgl x i) → FrG V0 V' → Q none Sh V') → R mX12_giveNumber 0 mc ms Q QX kc ks 18 [some (.ref 504), some (.int (nI x)), some (.int (nI (un10 i)))] [] Sh V := by
  intro i
  induction i with
  | zero =>
    intro G V hi hG hl hF hQ
    refine R_iload_2 dX12_giveNumber_18 ?_
    refine R_if_le 58 dX12_giveNumber_19 (by decide) (fun c19 => ?_) (fun c19 => absurd (by decide) c19)
    refine R_vret rfl dX12_giveNumber_58 (hQ V (by rw [show dgl x 0 = [] from rfl, List.append_nil]; exact hG) hF)
  | succ i ih =>
    intro G V hi hG hl hF hQ
    have hR := hF.mr hR0
    have h43 := hG.1
    have hu : 0 < un10 (i + 1) := Nat.pow_pos (by decide)
    have hu3 : un10 (i + 1) ≤ 1000 := (by decide : ∀ i, i < 4 → un10 (i + 1) ≤ 1000) i (by omega)
    have hu2 : un10 (i + 1) / 10 = un10 i := (by decide : ∀ i, i < 4 → un10 (i + 1) / 10 = un10 i) i (by omega)
    have hu0 : ¬ nI (un10 (i + 1)) = 0 := nI_ne0 hu (by omega)
    have hlt : x / un10 (i + 1) ≤ x := Nat.div_le_self _ _
    have hm : x / un10 (i + 1) % 10 < 10 := Nat.mod_lt _ (by decide)
    refine R_iload_2 dX12_giveNumber_18 ?_
    refine R_if_le 58 dX12_giveNumber_19 (by decide) (fun c19 => absurd c19 (nI_nle hu (by omega))) (fun c19 => ?_)
    refine R_aload_0 dX12_giveNumber_22 ?_
    refine gfX12_111 rfl dX12_giveNumber_23 sh_504 (by first | exact hR.g (k := 42) (a := 536) (by decide) | exact (a_up_ne (by omega)).trans (hR.g (k := 42) (a := 536) (by decide)) | exact (a_up_ne (by omega)).trans ((a_up_ne (by omega)).trans (hR.g (k := 42) (a := 536) (by decide))) | exact (a_up_ne (by omega)).trans ((a_up_ne (by omega)).trans ((a_up_ne (by omega)).trans (hR.g (k := 42) (a := 536) (by decide)))) | exact (a_up_ne (by omega)).trans ((a_up_ne (by omega)).trans ((a_up_ne (by omega)).trans ((a_up_ne (by omega)).trans (hR.g (k := 42) (a := 536) (by decide))))) | exact (a_up_ne (by omega)).trans ((a_up_ne (by omega)).trans ((a_up_ne (by omega)).trans ((a_up_ne (by omega)).trans ((a_up_ne (by omega)).trans (hR.g (k := 42) (a := 536) (by decide)))))) | exact (a_up_ne (by omega)).trans ((a_up_ne (by omega)).trans ((a_up_ne (by omega)).trans ((a_up_ne (by omega)).trans ((a_up_ne (by omega)).trans ((a_up_ne (by omega)).trans (hR.g (k := 42) (a := 536) (by decide)))))))) ?_
    refine R_aload_0 dX12_giveNumber_26 ?_
    refine gfX12_213 rfl dX12_giveNumber_27 sh_504 h43 ?_
    refine R_bipush (v := 48) dX12_giveNumber_30 (by decide) ?_
    refine R_iload_1 dX12_giveNumber_32 ?_
    refine R_iload_2 dX12_giveNumber_33 ?_
    refine R_idiv dX12_giveNumber_34 hu0 ?_
    rw [pk_div (by omega) hu (by omega)]
    refine R_bipush (v := 10) dX12_giveNumber_35 (by decide) ?_
    refine R_irem dX12_giveNumber_37 (by decide) ?_
    rw [show (10 : Int32) = nI 10 from rfl, pk_rem (by omega) (by decide) (by decide)]
    refine R_iadd dX12_giveNumber_38 ?_
    rw [show (48 : Int32) = nI 48 from rfl, nI_add]
    refine R_iastE dX12_giveNumber_39 sh_536 rfl (by omega) (by decide) ?_
    refine R_aload_0 dX12_giveNumber_40 ?_
    refine R_dup dX12_giveNumber_41 rfl ?_
    refine gfX12_213 rfl dX12_giveNumber_42 sh_504 (by first | assumption | exact a_up_self _ _ _ _ | exact (a_up_ne (by omega)).trans (by assumption) | exact (a_up_ne (by omega)).trans (a_up_self _ _ _ _) | exact (a_up_ne (by omega)).trans ((a_up_ne (by omega)).trans (by assumption)) | exact (a_up_ne (by omega)).trans ((a_up_ne (by omega)).trans (a_up_self _ _ _ _)) | exact (a_up_ne (by omega)).trans ((a_up_ne (by omega)).trans ((a_up_ne (by omega)).trans (by assumption))) | exact (a_up_ne (by omega)).trans ((a_up_ne (by omega)).trans ((a_up_ne (by omega)).trans (a_up_self _ _ _ _))) | exact (a_up_ne (by omega)).trans ((a_up_ne (by omega)).trans ((a_up_ne (by omega)).trans ((a_up_ne (by omega)).trans (by assumption)))) | exact (a_up_ne (by omega)).trans ((a_up_ne (by omega)).trans ((a_up_ne (by omega)).trans ((a_up_ne (by omega)).trans (a_up_self _ _ _ _)))) | exact (a_up_ne (by omega)).trans ((a_up_ne (by omega)).trans ((a_up_ne (by omega)).trans ((a_up_ne (by omega)).trans ((a_up_ne (by omega)).trans (by assumption))))) | exact (a_up_ne (by omega)).trans ((a_up_ne (by omega)).trans ((a_up_ne (by omega)).trans ((a_up_ne (by omega)).trans ((a_up_ne (by omega)).trans (a_up_self _ _ _ _)))))) ?_
    refine R_iconst (v := 1) dX12_giveNumber_45 (by decide) ?_
    refine R_iadd dX12_giveNumber_46 ?_
    refine pfX12_213 rfl dX12_giveNumber_47 sh_504 ?_
    refine R_iload_2 dX12_giveNumber_50 ?_
    refine R_bipush (v := 10) dX12_giveNumber_51 (by decide) ?_
    refine R_idiv dX12_giveNumber_53 (by decide) ?_
    rw [show (10 : Int32) = nI 10 from rfl, pk_div (by omega) (by decide) (by decide), hu2]
    refine R_istore_2 rfl (by decide) dX12_giveNumber_54 ?_
    refine R_goto 18 dX12_giveNumber_55 (by decide) ?_
    rw [show nI G.length + 1 = nI (G.length + 1) from nI_1 _]
    refine ih (G ++ [nI (48 + x / un10 (i + 1) % 10)]) _ (by omega) hG.app (by rw [List.length_append]; show G.length + 1 + i ≤ 200; omega) (hF.trans (FrG.w.trans FrG.u)) (fun V' g f => hQ V' (by rw [List.append_assoc] at g; exact g) f)
set_option maxHeartbeats 4000000 in
theorem gn_un {mc ms kc ks : Nat} {V : aV} {x : Nat} {G : List Int32} (hR : MR V) (hx : x < 10000) (hG : GV V G) (hl : G.length + 4 ≤ 200) {Q : Option Value → aS → aV → Prop} {QX : String → aS → aV → Prop} (hQ : ∀ V', GV V' (G ++ digs x) → FrG V V' → Q none Sh V') : ∀ (m i : Nat), i + m = dgn x → 1 ≤ i → R mX12_giveNumber 0 mc ms Q QX kc ks 2 [some (.ref 504), some (.int (nI x)), some (.int (nI (un10 i)))] [] Sh V := by
  have hd := dgn_le x
  intro m
  induction m with
  | zero =>
    intro i hi h1
    have hi' : i = dgn x := by omega
    obtain ⟨u1, u2, u3⟩ := dgn_u hx h1 (by omega)
    have hlt : x / un10 i ≤ x := Nat.div_le_self _ _
    have u4 := u1.2 hi'
    refine R_iload_1 dX12_giveNumber_2 ?_
    refine R_iload_2 dX12_giveNumber_3 ?_
    refine R_idiv dX12_giveNumber_4 (nI_ne0 u2 (by omega)) ?_
    rw [pk_div (by omega) u2 (by omega)]
    refine R_bipush (v := 10) dX12_giveNumber_5 (by decide) ?_
    rw [show (10 : Int32) = nI 10 from rfl]
    refine R_icmp_lt 18 dX12_giveNumber_7 (by decide) (fun c7 => ?_) (fun c7 => absurd ((nI_ltI (by omega) (by decide)).2 u4) c7)
    rw [hi']
    exact gn_dig hR hx (dgn x) G V hd hG (by omega) FrG.refl hQ
  | succ m ih =>
    intro i hi h1
    obtain ⟨u1, u2, u3⟩ := dgn_u hx h1 (by omega)
    have hlt : x / un10 i ≤ x := Nat.div_le_self _ _
    have u4 : ¬ x / un10 i < 10 := fun z => by have := u1.1 z; omega
    have u5 : un10 i * 10 = un10 (i + 1) := (by decide : ∀ i, i < 4 → 1 ≤ i → un10 i * 10 = un10 (i + 1)) i (by omega) h1
    refine R_iload_1 dX12_giveNumber_2 ?_
    refine R_iload_2 dX12_giveNumber_3 ?_
    refine R_idiv dX12_giveNumber_4 (nI_ne0 u2 (by omega)) ?_
    rw [pk_div (by omega) u2 (by omega)]
    refine R_bipush (v := 10) dX12_giveNumber_5 (by decide) ?_
    rw [show (10 : Int32) = nI 10 from rfl]
    refine R_icmp_lt 18 dX12_giveNumber_7 (by decide) (fun c7 => absurd c7 (fun z => u4 ((nI_ltI (by omega) (by decide)).1 z))) (fun c7 => ?_)
    refine R_iload_2 dX12_giveNumber_10 ?_
    refine R_bipush (v := 10) dX12_giveNumber_11 (by decide) ?_
    refine R_imul dX12_giveNumber_13 ?_
    rw [show (10 : Int32) = nI 10 from rfl, pk_mul, u5]
    refine R_istore_2 rfl (by decide) dX12_giveNumber_14 ?_
    refine R_goto 2 dX12_giveNumber_15 (by decide) ?_
    exact ih (i + 1) (by omega) (by omega)
set_option maxHeartbeats 4000000 in
theorem ct_giveNumber {V : aV} {x : Nat} {G : List Int32} (hR : MR V) (hx : x < 10000) (hG : GV V G) (hl : G.length + 4 ≤ 200) : CT mX12_giveNumber 0 0 0 [.ref 504, .int (nI x)] Sh V (fun v S' V' => none = v ∧ Sh = S' ∧ GV V' (G ++ digs x) ∧ FrG V V') aNo := by
  refine CT_of (by decide +kernel) (Nat.le_of_ble_eq_true rfl) ?_
  show R _ _ _ _ _ _ _ _ 0 [some (.ref 504), some (.int (nI x)), none] [] _ _
  refine R_iconst (v := 1) dX12_giveNumber_0 (by decide) ?_
  refine R_istore_2 rfl (by decide) dX12_giveNumber_1 ?_
  have hd : 1 ≤ dgn x := by rcases dgn_c x with ⟨e, _⟩ | ⟨e, _⟩ | ⟨e, _⟩ | ⟨e, _⟩ <;> omega
  exact gn_un hR hx hG hl (fun V' g f => ⟨rfl, rfl, g, f⟩) (dgn x - 1) 1 (by omega) (Nat.le_refl _)

/-! give -/
theorem gW_z {ent : Nat → EntN} {g a : Nat} (h0 : ∀ i, i < a → g.testBit i = false) : ∀ j, j ≤ a → gW ent g j = (fun _ => [], fun _ => 0)
  | 0, _ => rfl
  | j + 1, h => by rw [gW_f (h0 j (by omega))]; exact gW_z h0 j (by omega)
theorem gW_y {ent : Nat → EntN} {g a : Nat} (h1 : g.testBit a = true) (h0 : ∀ i, i < a → g.testBit i = false) : ∀ m, (gW ent g (a + 1 + m)).1 1 = (ent a).2.1 ∧ (gW ent g (a + 1 + m)).2 2 = (ent a).2.2.1 ∧ (gW ent g (a + 1 + m)).2 3 = (ent a).2.2.2.1 ∧ (gW ent g (a + 1 + m)).2 5 ≠ 0
  | 0 => by
    rw [show a + 1 + 0 = a + 1 from rfl, gW_t h1, gW_z h0 a (Nat.le_refl _)]
    exact ⟨rfl, rfl, rfl, Nat.one_ne_zero⟩
  | m + 1 => by
    obtain ⟨i1, i2, i3, i4⟩ := gW_y (ent := ent) h1 h0 m
    rw [show a + 1 + (m + 1) = a + 1 + m + 1 from rfl]
    rcases q : g.testBit (a + 1 + m) with _ | _
    · rw [gW_f q]; exact ⟨i1, i2, i3, i4⟩
    · rw [gW_t q]
      refine ⟨?_, ?_, ?_, ?_⟩
      · show amW _ _ _ 1 = _
        unfold amW; rw [if_neg i4]; exact i1
      · show amV _ _ 2 = _
        unfold amV; rw [if_neg i4]; exact i2
      · show amV _ _ 3 = _
        unfold amV; rw [if_neg i4]; exact i3
      · show amV _ _ 5 ≠ 0
        unfold amV; rw [if_neg i4]; exact Nat.succ_ne_zero _
theorem gW_n {ent : Nat → EntN} {g j : Nat} (h : g.testBit j = true) : (gW ent g (j + 1)).1 0 = (gW ent g j).1 0 ++ (if (gW ent g j).2 5 = 0 then [] else [32, 38, 32]) ++ (ent j).1 := by
  rw [gW_t h]
  show amW _ _ _ 0 = _
  unfold amW
  by_cases q : (gW ent g j).2 5 = 0
  · rw [if_pos q, if_pos q, List.append_nil]; rfl
  · rw [if_neg q, if_neg q]; rfl
theorem FrG.a3 {V : aV} {n : Nat} : FrG V (a_up (a_up (a_up (a_up V 536 n (.int 32)) 536 (n + 1) (.int 38)) 536 (n + 2) (.int 32)) 504 43 (.int (nI (n + 3)))) := FrG.w.trans (FrG.w.trans (FrG.w.trans FrG.u))
theorem GV.app3 {V : aV} {G : List Int32} (h : GV V G) : GV (a_up (a_up (a_up (a_up V 536 G.length (.int 32)) 536 (G.length + 1) (.int 38)) 536 (G.length + 2) (.int 32)) 504 43 (.int (nI (G.length + 3)))) (G ++ [32, 38, 32]) := by
  refine ⟨by rw [a_up_self, List.length_append]; rfl, fun j hj => ?_⟩
  rw [a_up_ne (Or.inl (by decide))]
  have hj' : j < G.length + 3 := by rw [List.length_append] at hj; exact hj
  have ge : ∀ q, (G ++ [32, 38, 32]).getD (G.length + q) 0 = ([32, 38, 32] : List Int32).getD q 0 := fun q => by
    rw [List.getD_eq_getElem?_getD, List.getElem?_append_right (by omega), Nat.add_sub_cancel_left, List.getD_eq_getElem?_getD]
  by_cases q0 : j = G.length + 2
  · rw [q0, a_up_self, ge]; rfl
  · rw [a_up_ne (Or.inr q0)]
    by_cases q1 : j = G.length + 1
    · rw [q1, a_up_self, ge]; rfl
    · rw [a_up_ne (Or.inr q1)]
      by_cases q2 : j = G.length
      · rw [q2, a_up_self]; have := ge 0; rw [Nat.add_zero] at this; rw [this]; rfl
      · rw [a_up_ne (Or.inr q2), gd_app1 (by omega)]; exact h.2 j (by omega)
set_option maxHeartbeats 4000000 in
theorem gv_loop {mc ms kc ks : Nat} {V0 : aV} {ent : Nat → EntN} {cnt g a : Nat} (hR0 : MR V0) (hE0 : ME V0 ent cnt) (hEO : ∀ k, k < 12 → EO (ent k)) (hg : g < 2 ^ 12) (ha : a < 12) (h1 : g.testBit a = true) (h0 : ∀ i, i < a → g.testBit i = false) {Q : Option Value → aS → aV → Prop} {QX : String → aS → aV → Prop} (hQ : ∀ V', GV V' ((gW ent g 12).1 0) → FrG V0 V' → Q (some (.int (nI ((gW ent g 12).1 0).length))) Sh V') : ∀ (m j : Nat) (V : aV), j + m = 12 → GV V ((gW ent g j).1 0) → FrG V0 V → R mX12_give 1 mc ms Q QX kc ks 19 [some (.ref 504), some (.int 110), some (.int (nI g)), some (.int (nI a)), some (.int (nI j))] [] Sh V := by
  have hEB := fun k hk => (hEO k hk).1
  intro m
  induction m with
  | zero =>
    intro j V hj hG hF
    have hj' : j = 12 := by omega
    subst hj'
    have hR := hF.mr hR0
    have h43 := hG.1
    refine R_iload_4 dX12_give_19 ?_
    refine R_bipush (v := 12) dX12_give_21 (by decide) ?_
    refine R_icmp_ge 112 dX12_give_23 (by decide) (fun c23 => ?_) (fun c23 => absurd (by decide) c23)
    refine R_aload_0 dX12_give_112 ?_
    refine gfX12_213 rfl dX12_give_113 sh_504 h43 ?_
    refine R_iret rfl dX12_give_116 (hQ V hG hF)
  | succ m ih =>
    intro j V hj hG hF
    have hR := hF.mr hR0
    have hE := hF.me hE0
    have h43 := hG.1
    have gl := (gW_ok (g := g) hEB j (by omega)).1
    have mk := hE.2 j (by omega)
    have el := (hEB j (by omega)).1
    have b9 : ¬ (12 : Int32) ≤ nI j := nI_ge (a := j) (b := 12) (by omega) (by omega)
    refine R_iload_4 dX12_give_19 ?_
    refine R_bipush (v := 12) dX12_give_21 (by decide) ?_
    refine R_icmp_ge 112 dX12_give_23 (by decide) (fun c23 => absurd c23 b9) (fun c23 => ?_)
    refine R_iload_2 dX12_give_26 ?_
    refine R_iload_4 dX12_give_27 ?_
    refine R_ishr dX12_give_29 ?_
    refine R_iconst (v := 1) dX12_give_30 (by decide) ?_
    refine R_iand dX12_give_31 ?_
    rw [mb_sh (by omega) (by omega)]
    refine R_iconst (v := 1) dX12_give_32 (by decide) ?_
    refine R_icmp_ne 106 dX12_give_33 (by decide) (fun c33 => ?_) (fun c33 => ?_)
    · have hb : ¬ g.testBit j = true := fun z => c33 (bI_t z)
      refine R_iinc_4 rfl (by decide) dX12_give_106 rfl ?_
      rw [show nI j + Int32.ofInt 1 = nI (j + 1) from nI_1 j]
      refine R_goto 19 dX12_give_109 (by decide) ?_
      rw [← gW_f (ent := ent) (Bool.eq_false_iff.2 hb)] at hG
      exact ih (j + 1) V (by omega) hG hF
    · have hb : g.testBit j = true := bI_ne (fun z => by rw [c33] at z; exact absurd z (by decide))
      have hn := gW_n (ent := ent) hb
      refine R_iload_4 dX12_give_36 ?_
      refine R_iload_3 dX12_give_38 ?_
      refine R_icmp_le 89 dX12_give_39 (by decide) (fun c39 => ?_) (fun c39 => ?_)
      · have hj5 : (gW ent g j).2 5 = 0 := by
          have q : j ≤ a := Nat.le_of_not_lt fun z => absurd c39 (nI_ge (a := a) (b := j) (by omega) (by omega))
          rw [gW_z h0 j q]
        rw [if_pos hj5, List.append_nil] at hn
        have hR1 := hR
        have hG1 := hG
        have hF1 := hF
        have mk1 := mk
        have gb : ((gW ent g j).1 0).length + 12 ≤ 200 := by omega
        refine R_aload_0 dX12_give_89 ?_
        refine R_aload_0 dX12_give_90 ?_
        refine gfX12_19 rfl dX12_give_91 sh_504 (by first | exact hR.g (k := 6) (a := 508) (by decide) | exact (a_up_ne (by omega)).trans (hR.g (k := 6) (a := 508) (by decide)) | exact (a_up_ne (by omega)).trans ((a_up_ne (by omega)).trans (hR.g (k := 6) (a := 508) (by decide))) | exact (a_up_ne (by omega)).trans ((a_up_ne (by omega)).trans ((a_up_ne (by omega)).trans (hR.g (k := 6) (a := 508) (by decide)))) | exact (a_up_ne (by omega)).trans ((a_up_ne (by omega)).trans ((a_up_ne (by omega)).trans ((a_up_ne (by omega)).trans (hR.g (k := 6) (a := 508) (by decide))))) | exact (a_up_ne (by omega)).trans ((a_up_ne (by omega)).trans ((a_up_ne (by omega)).trans ((a_up_ne (by omega)).trans ((a_up_ne (by omega)).trans (hR.g (k := 6) (a := 508) (by decide)))))) | exact (a_up_ne (by omega)).trans ((a_up_ne (by omega)).trans ((a_up_ne (by omega)).trans ((a_up_ne (by omega)).trans ((a_up_ne (by omega)).trans ((a_up_ne (by omega)).trans (hR.g (k := 6) (a := 508) (by decide)))))))) ?_
        refine R_iload_4 dX12_give_94 ?_
        refine R_aload_0 dX12_give_96 ?_
        refine gfX12_22 rfl dX12_give_97 sh_504 (by first | exact hR.g (k := 7) (a := 509) (by decide) | exact (a_up_ne (by omega)).trans (hR.g (k := 7) (a := 509) (by decide)) | exact (a_up_ne (by omega)).trans ((a_up_ne (by omega)).trans (hR.g (k := 7) (a := 509) (by decide))) | exact (a_up_ne (by omega)).trans ((a_up_ne (by omega)).trans ((a_up_ne (by omega)).trans (hR.g (k := 7) (a := 509) (by decide)))) | exact (a_up_ne (by omega)).trans ((a_up_ne (by omega)).trans ((a_up_ne (by omega)).trans ((a_up_ne (by omega)).trans (hR.g (k := 7) (a := 509) (by decide))))) | exact (a_up_ne (by omega)).trans ((a_up_ne (by omega)).trans ((a_up_ne (by omega)).trans ((a_up_ne (by omega)).trans ((a_up_ne (by omega)).trans (hR.g (k := 7) (a := 509) (by decide)))))) | exact (a_up_ne (by omega)).trans ((a_up_ne (by omega)).trans ((a_up_ne (by omega)).trans ((a_up_ne (by omega)).trans ((a_up_ne (by omega)).trans ((a_up_ne (by omega)).trans (hR.g (k := 7) (a := 509) (by decide)))))))) ?_
        refine R_iload_4 dX12_give_100 ?_
        refine R_ialdE dX12_give_102 sh_509 rfl (by omega) (by decide) mk1.1.1 ?_
        refine R_callV (T := mX12_give) (T' := mX12_giveRow) (As := [_, _, _]) (ci := 12) okX12_giveRow mlX12_219 rfl (by decide) sh_504 (ct_giveRow hR1 sh_508 (by decide) (by omega) mk1.1.2 el hG1 gb) rfl (by decide) (by decide) (Nat.le_of_ble_eq_true rfl) dX12_give_103 (fun v9 S9 V2 h9 => ?_) (fun E S9 V9 h9 => h9.elim)
        obtain ⟨rfl, rfl, g4, u4⟩ := h9
        refine R_iinc_4 rfl (by decide) dX12_give_106 rfl ?_
        rw [show nI j + Int32.ofInt 1 = nI (j + 1) from nI_1 j]
        refine R_goto 19 dX12_give_109 (by decide) ?_
        rw [← hn] at g4
        exact ih (j + 1) V2 (by omega) g4 (hF1.trans u4)
      · have hj5 : (gW ent g j).2 5 ≠ 0 := by
          have q : a < j := Nat.lt_of_not_le fun z => c39 (nI_le z (by omega))
          have := (gW_y (ent := ent) h1 h0 (j - (a + 1))).2.2.2
          rwa [show a + 1 + (j - (a + 1)) = j by omega] at this
        rw [if_neg hj5] at hn
        refine R_aload_0 dX12_give_42 ?_
        refine gfX12_111 rfl dX12_give_43 sh_504 (by first | exact hR.g (k := 42) (a := 536) (by decide) | exact (a_up_ne (by omega)).trans (hR.g (k := 42) (a := 536) (by decide)) | exact (a_up_ne (by omega)).trans ((a_up_ne (by omega)).trans (hR.g (k := 42) (a := 536) (by decide))) | exact (a_up_ne (by omega)).trans ((a_up_ne (by omega)).trans ((a_up_ne (by omega)).trans (hR.g (k := 42) (a := 536) (by decide)))) | exact (a_up_ne (by omega)).trans ((a_up_ne (by omega)).trans ((a_up_ne (by omega)).trans ((a_up_ne (by omega)).trans (hR.g (k := 42) (a := 536) (by decide))))) | exact (a_up_ne (by omega)).trans ((a_up_ne (by omega)).trans ((a_up_ne (by omega)).trans ((a_up_ne (by omega)).trans ((a_up_ne (by omega)).trans (hR.g (k := 42) (a := 536) (by decide)))))) | exact (a_up_ne (by omega)).trans ((a_up_ne (by omega)).trans ((a_up_ne (by omega)).trans ((a_up_ne (by omega)).trans ((a_up_ne (by omega)).trans ((a_up_ne (by omega)).trans (hR.g (k := 42) (a := 536) (by decide)))))))) ?_
        refine R_aload_0 dX12_give_46 ?_
        refine gfX12_213 rfl dX12_give_47 sh_504 h43 ?_
        refine R_bipush (v := 32) dX12_give_50 (by decide) ?_
        refine R_iastE dX12_give_52 sh_536 rfl (by omega) (by decide) ?_
        refine R_aload_0 dX12_give_53 ?_
        refine gfX12_111 rfl dX12_give_54 sh_504 (by first | exact hR.g (k := 42) (a := 536) (by decide) | exact (a_up_ne (by omega)).trans (hR.g (k := 42) (a := 536) (by decide)) | exact (a_up_ne (by omega)).trans ((a_up_ne (by omega)).trans (hR.g (k := 42) (a := 536) (by decide))) | exact (a_up_ne (by omega)).trans ((a_up_ne (by omega)).trans ((a_up_ne (by omega)).trans (hR.g (k := 42) (a := 536) (by decide)))) | exact (a_up_ne (by omega)).trans ((a_up_ne (by omega)).trans ((a_up_ne (by omega)).trans ((a_up_ne (by omega)).trans (hR.g (k := 42) (a := 536) (by decide))))) | exact (a_up_ne (by omega)).trans ((a_up_ne (by omega)).trans ((a_up_ne (by omega)).trans ((a_up_ne (by omega)).trans ((a_up_ne (by omega)).trans (hR.g (k := 42) (a := 536) (by decide)))))) | exact (a_up_ne (by omega)).trans ((a_up_ne (by omega)).trans ((a_up_ne (by omega)).trans ((a_up_ne (by omega)).trans ((a_up_ne (by omega)).trans ((a_up_ne (by omega)).trans (hR.g (k := 42) (a := 536) (by decide)))))))) ?_
        refine R_aload_0 dX12_give_57 ?_
        refine gfX12_213 rfl dX12_give_58 sh_504 (by first | assumption | exact a_up_self _ _ _ _ | exact (a_up_ne (by omega)).trans (by assumption) | exact (a_up_ne (by omega)).trans (a_up_self _ _ _ _) | exact (a_up_ne (by omega)).trans ((a_up_ne (by omega)).trans (by assumption)) | exact (a_up_ne (by omega)).trans ((a_up_ne (by omega)).trans (a_up_self _ _ _ _)) | exact (a_up_ne (by omega)).trans ((a_up_ne (by omega)).trans ((a_up_ne (by omega)).trans (by assumption))) | exact (a_up_ne (by omega)).trans ((a_up_ne (by omega)).trans ((a_up_ne (by omega)).trans (a_up_self _ _ _ _))) | exact (a_up_ne (by omega)).trans ((a_up_ne (by omega)).trans ((a_up_ne (by omega)).trans ((a_up_ne (by omega)).trans (by assumption)))) | exact (a_up_ne (by omega)).trans ((a_up_ne (by omega)).trans ((a_up_ne (by omega)).trans ((a_up_ne (by omega)).trans (a_up_self _ _ _ _)))) | exact (a_up_ne (by omega)).trans ((a_up_ne (by omega)).trans ((a_up_ne (by omega)).trans ((a_up_ne (by omega)).trans ((a_up_ne (by omega)).trans (by assumption))))) | exact (a_up_ne (by omega)).trans ((a_up_ne (by omega)).trans ((a_up_ne (by omega)).trans ((a_up_ne (by omega)).trans ((a_up_ne (by omega)).trans (a_up_self _ _ _ _)))))) ?_
        refine R_iconst (v := 1) dX12_give_61 (by decide) ?_
        refine R_iadd dX12_give_62 ?_
        refine R_bipush (v := 38) dX12_give_63 (by decide) ?_
        refine R_iastE dX12_give_65 sh_536 (nI_1 _) (by omega) (by decide) ?_
        refine R_aload_0 dX12_give_66 ?_
        refine gfX12_111 rfl dX12_give_67 sh_504 (by first | exact hR.g (k := 42) (a := 536) (by decide) | exact (a_up_ne (by omega)).trans (hR.g (k := 42) (a := 536) (by decide)) | exact (a_up_ne (by omega)).trans ((a_up_ne (by omega)).trans (hR.g (k := 42) (a := 536) (by decide))) | exact (a_up_ne (by omega)).trans ((a_up_ne (by omega)).trans ((a_up_ne (by omega)).trans (hR.g (k := 42) (a := 536) (by decide)))) | exact (a_up_ne (by omega)).trans ((a_up_ne (by omega)).trans ((a_up_ne (by omega)).trans ((a_up_ne (by omega)).trans (hR.g (k := 42) (a := 536) (by decide))))) | exact (a_up_ne (by omega)).trans ((a_up_ne (by omega)).trans ((a_up_ne (by omega)).trans ((a_up_ne (by omega)).trans ((a_up_ne (by omega)).trans (hR.g (k := 42) (a := 536) (by decide)))))) | exact (a_up_ne (by omega)).trans ((a_up_ne (by omega)).trans ((a_up_ne (by omega)).trans ((a_up_ne (by omega)).trans ((a_up_ne (by omega)).trans ((a_up_ne (by omega)).trans (hR.g (k := 42) (a := 536) (by decide)))))))) ?_
        refine R_aload_0 dX12_give_70 ?_
        refine gfX12_213 rfl dX12_give_71 sh_504 (by first | assumption | exact a_up_self _ _ _ _ | exact (a_up_ne (by omega)).trans (by assumption) | exact (a_up_ne (by omega)).trans (a_up_self _ _ _ _) | exact (a_up_ne (by omega)).trans ((a_up_ne (by omega)).trans (by assumption)) | exact (a_up_ne (by omega)).trans ((a_up_ne (by omega)).trans (a_up_self _ _ _ _)) | exact (a_up_ne (by omega)).trans ((a_up_ne (by omega)).trans ((a_up_ne (by omega)).trans (by assumption))) | exact (a_up_ne (by omega)).trans ((a_up_ne (by omega)).trans ((a_up_ne (by omega)).trans (a_up_self _ _ _ _))) | exact (a_up_ne (by omega)).trans ((a_up_ne (by omega)).trans ((a_up_ne (by omega)).trans ((a_up_ne (by omega)).trans (by assumption)))) | exact (a_up_ne (by omega)).trans ((a_up_ne (by omega)).trans ((a_up_ne (by omega)).trans ((a_up_ne (by omega)).trans (a_up_self _ _ _ _)))) | exact (a_up_ne (by omega)).trans ((a_up_ne (by omega)).trans ((a_up_ne (by omega)).trans ((a_up_ne (by omega)).trans ((a_up_ne (by omega)).trans (by assumption))))) | exact (a_up_ne (by omega)).trans ((a_up_ne (by omega)).trans ((a_up_ne (by omega)).trans ((a_up_ne (by omega)).trans ((a_up_ne (by omega)).trans (a_up_self _ _ _ _)))))) ?_
        refine R_iconst (v := 2) dX12_give_74 (by decide) ?_
        refine R_iadd dX12_give_75 ?_
        refine R_bipush (v := 32) dX12_give_76 (by decide) ?_
        refine R_iastE dX12_give_78 sh_536 (nI_add _ 2) (by omega) (by decide) ?_
        refine R_aload_0 dX12_give_79 ?_
        refine R_dup dX12_give_80 rfl ?_
        refine gfX12_213 rfl dX12_give_81 sh_504 ((a_up_ne (Or.inl (by decide))).trans ((a_up_ne (Or.inl (by decide))).trans ((a_up_ne (Or.inl (by decide))).trans h43))) ?_
        refine R_iconst (v := 3) dX12_give_84 (by decide) ?_
        refine R_iadd dX12_give_85 ?_
        refine pfX12_213 rfl dX12_give_86 sh_504 ?_
        rw [show nI ((gW ent g j).1 0).length + 3 = nI (((gW ent g j).1 0).length + 3) from nI_add _ 3]
        have hG1 := hG.app3
        have f4 := FrG.a3 (V := V) (n := ((gW ent g j).1 0).length)
        have hF1 := hF.trans f4
        have hR1 := f4.mr hR
        have mk1 := (f4.me hE).2 j (by omega)
        have gb : ((gW ent g j).1 0 ++ [32, 38, 32]).length + 12 ≤ 200 := by rw [List.length_append]; show _ + 3 + 12 ≤ 200; omega
        refine R_aload_0 dX12_give_89 ?_
        refine R_aload_0 dX12_give_90 ?_
        refine gfX12_19 rfl dX12_give_91 sh_504 (by first | exact hR.g (k := 6) (a := 508) (by decide) | exact (a_up_ne (by omega)).trans (hR.g (k := 6) (a := 508) (by decide)) | exact (a_up_ne (by omega)).trans ((a_up_ne (by omega)).trans (hR.g (k := 6) (a := 508) (by decide))) | exact (a_up_ne (by omega)).trans ((a_up_ne (by omega)).trans ((a_up_ne (by omega)).trans (hR.g (k := 6) (a := 508) (by decide)))) | exact (a_up_ne (by omega)).trans ((a_up_ne (by omega)).trans ((a_up_ne (by omega)).trans ((a_up_ne (by omega)).trans (hR.g (k := 6) (a := 508) (by decide))))) | exact (a_up_ne (by omega)).trans ((a_up_ne (by omega)).trans ((a_up_ne (by omega)).trans ((a_up_ne (by omega)).trans ((a_up_ne (by omega)).trans (hR.g (k := 6) (a := 508) (by decide)))))) | exact (a_up_ne (by omega)).trans ((a_up_ne (by omega)).trans ((a_up_ne (by omega)).trans ((a_up_ne (by omega)).trans ((a_up_ne (by omega)).trans ((a_up_ne (by omega)).trans (hR.g (k := 6) (a := 508) (by decide)))))))) ?_
        refine R_iload_4 dX12_give_94 ?_
        refine R_aload_0 dX12_give_96 ?_
        refine gfX12_22 rfl dX12_give_97 sh_504 (by first | exact hR.g (k := 7) (a := 509) (by decide) | exact (a_up_ne (by omega)).trans (hR.g (k := 7) (a := 509) (by decide)) | exact (a_up_ne (by omega)).trans ((a_up_ne (by omega)).trans (hR.g (k := 7) (a := 509) (by decide))) | exact (a_up_ne (by omega)).trans ((a_up_ne (by omega)).trans ((a_up_ne (by omega)).trans (hR.g (k := 7) (a := 509) (by decide)))) | exact (a_up_ne (by omega)).trans ((a_up_ne (by omega)).trans ((a_up_ne (by omega)).trans ((a_up_ne (by omega)).trans (hR.g (k := 7) (a := 509) (by decide))))) | exact (a_up_ne (by omega)).trans ((a_up_ne (by omega)).trans ((a_up_ne (by omega)).trans ((a_up_ne (by omega)).trans ((a_up_ne (by omega)).trans (hR.g (k := 7) (a := 509) (by decide)))))) | exact (a_up_ne (by omega)).trans ((a_up_ne (by omega)).trans ((a_up_ne (by omega)).trans ((a_up_ne (by omega)).trans ((a_up_ne (by omega)).trans ((a_up_ne (by omega)).trans (hR.g (k := 7) (a := 509) (by decide)))))))) ?_
        refine R_iload_4 dX12_give_100 ?_
        refine R_ialdE dX12_give_102 sh_509 rfl (by omega) (by decide) mk1.1.1 ?_
        refine R_callV (T := mX12_give) (T' := mX12_giveRow) (As := [_, _, _]) (ci := 12) okX12_giveRow mlX12_219 rfl (by decide) sh_504 (ct_giveRow hR1 sh_508 (by decide) (by omega) mk1.1.2 el hG1 gb) rfl (by decide) (by decide) (Nat.le_of_ble_eq_true rfl) dX12_give_103 (fun v9 S9 V2 h9 => ?_) (fun E S9 V9 h9 => h9.elim)
        obtain ⟨rfl, rfl, g4, u4⟩ := h9
        refine R_iinc_4 rfl (by decide) dX12_give_106 rfl ?_
        rw [show nI j + Int32.ofInt 1 = nI (j + 1) from nI_1 j]
        refine R_goto 19 dX12_give_109 (by decide) ?_
        rw [← hn] at g4
        exact ih (j + 1) V2 (by omega) g4 (hF1.trans u4)
set_option maxHeartbeats 4000000 in
theorem ct_give {V : aV} {ent : Nat → EntN} {cnt g : Nat} {c : Int32} (hR : MR V) (hE : ME V ent cnt) (hEO : ∀ k, k < 12 → EO (ent k)) (hg : MBR g) (hc : isFd c) : CT mX12_give 1 0 0 [.ref 504, .int c, .int (nI g)] Sh V (fun v S' V' => some (.int (hVal (fV ent g) c)) = v ∧ Sh = S' ∧ GV V' (fW ent g (fIx c).toNatClampNeg) ∧ FrG V V') aNo := by
  refine CT_of (by decide +kernel) (Nat.le_of_ble_eq_true rfl) ?_
  show R _ _ _ _ _ _ _ _ 0 [some (.ref 504), some (.int c), some (.int (nI g)), none, none] [] _ _
  obtain ⟨a, ha, h1, h0⟩ := low_ex hg
  refine R_iload_2 dX12_give_0 ?_
  refine R_callS_e (T := mX12_give) (T' := mX12_lowest) (As := [_]) okX12_lowest mlX12_216 rfl (ct_lowest hg.1 ha h1 h0) rfl (by decide) (by decide) (Nat.le_of_ble_eq_true rfl) dX12_give_1 ?_
  refine R_istore_3 rfl (by decide) dX12_give_4 ?_
  refine R_aload_0 dX12_give_5 ?_
  refine R_iconst (v := 0) dX12_give_6 (by decide) ?_
  refine pfX12_213 rfl dX12_give_7 sh_504 ?_
  have f1 := FrG.u (V := V) (v := .int 0)
  have hR1 := f1.mr hR
  have hE1 := f1.me hE
  have mk := hE1.2 a ha
  have ls := (hEO a ha).2.1
  have hG0 : GV (a_up V 504 43 (.int 0)) [] := ⟨a_up_self _ _ _ _, fun j hj => absurd hj (Nat.not_lt_zero j)⟩
  have hEB := fun k hk => (hEO k hk).1
  have gok := gW_ok (g := g) hEB 12 (Nat.le_refl _)
  obtain ⟨y1, y2, y3, -⟩ := gW_y (ent := ent) h1 h0 (12 - (a + 1))
  rw [show a + 1 + (12 - (a + 1)) = 12 by omega] at y1 y2 y3
  have y5 := gW_bcn ent g 12
  rcases fd_of.1 hc with rfl | rfl | rfl | rfl | rfl | rfl
  · refine R_iload_1 dX12_give_10 ?_
    refine R_bipush (v := 110) dX12_give_11 (by decide) ?_
    refine R_icmp_ne 117 dX12_give_13 (by decide) (fun c13 => absurd rfl c13) (fun c13 => ?_)
    refine R_iconst (v := 0) dX12_give_16 (by decide) ?_
    refine R_istore_4 rfl (by decide) dX12_give_17 ?_
    exact gv_loop hR1 hE1 hEO hg.1 ha h1 h0 (fun V' gg ff => ⟨rfl, rfl, gg, f1.trans ff⟩) 12 0 _ (by omega) hG0 FrG.refl
  · refine R_iload_1 dX12_give_10 ?_
    refine R_bipush (v := 110) dX12_give_11 (by decide) ?_
    refine R_icmp_ne 117 dX12_give_13 (by decide) (fun c13 => ?_) (fun c13 => absurd c13 (by decide))
    refine R_iload_1 dX12_give_117 ?_
    refine R_bipush (v := 115) dX12_give_118 (by decide) ?_
    refine R_icmp_ne 143 dX12_give_120 (by decide) (fun c120 => absurd rfl c120) (fun c120 => ?_)
    refine R_aload_0 dX12_give_123 ?_
    refine R_aload_0 dX12_give_124 ?_
    refine gfX12_25 rfl dX12_give_125 sh_504 (by first | exact hR.g (k := 8) (a := 510) (by decide) | exact (a_up_ne (by omega)).trans (hR.g (k := 8) (a := 510) (by decide)) | exact (a_up_ne (by omega)).trans ((a_up_ne (by omega)).trans (hR.g (k := 8) (a := 510) (by decide))) | exact (a_up_ne (by omega)).trans ((a_up_ne (by omega)).trans ((a_up_ne (by omega)).trans (hR.g (k := 8) (a := 510) (by decide)))) | exact (a_up_ne (by omega)).trans ((a_up_ne (by omega)).trans ((a_up_ne (by omega)).trans ((a_up_ne (by omega)).trans (hR.g (k := 8) (a := 510) (by decide))))) | exact (a_up_ne (by omega)).trans ((a_up_ne (by omega)).trans ((a_up_ne (by omega)).trans ((a_up_ne (by omega)).trans ((a_up_ne (by omega)).trans (hR.g (k := 8) (a := 510) (by decide)))))) | exact (a_up_ne (by omega)).trans ((a_up_ne (by omega)).trans ((a_up_ne (by omega)).trans ((a_up_ne (by omega)).trans ((a_up_ne (by omega)).trans ((a_up_ne (by omega)).trans (hR.g (k := 8) (a := 510) (by decide)))))))) ?_
    refine R_iload_3 dX12_give_128 ?_
    refine R_aload_0 dX12_give_129 ?_
    refine gfX12_28 rfl dX12_give_130 sh_504 (by first | exact hR.g (k := 9) (a := 511) (by decide) | exact (a_up_ne (by omega)).trans (hR.g (k := 9) (a := 511) (by decide)) | exact (a_up_ne (by omega)).trans ((a_up_ne (by omega)).trans (hR.g (k := 9) (a := 511) (by decide))) | exact (a_up_ne (by omega)).trans ((a_up_ne (by omega)).trans ((a_up_ne (by omega)).trans (hR.g (k := 9) (a := 511) (by decide)))) | exact (a_up_ne (by omega)).trans ((a_up_ne (by omega)).trans ((a_up_ne (by omega)).trans ((a_up_ne (by omega)).trans (hR.g (k := 9) (a := 511) (by decide))))) | exact (a_up_ne (by omega)).trans ((a_up_ne (by omega)).trans ((a_up_ne (by omega)).trans ((a_up_ne (by omega)).trans ((a_up_ne (by omega)).trans (hR.g (k := 9) (a := 511) (by decide)))))) | exact (a_up_ne (by omega)).trans ((a_up_ne (by omega)).trans ((a_up_ne (by omega)).trans ((a_up_ne (by omega)).trans ((a_up_ne (by omega)).trans ((a_up_ne (by omega)).trans (hR.g (k := 9) (a := 511) (by decide)))))))) ?_
    refine R_iload_3 dX12_give_133 ?_
    refine R_ialdE dX12_give_134 sh_511 rfl (by omega) (by decide) mk.2.1.1 ?_
    refine R_callV (T := mX12_give) (T' := mX12_giveRow) (As := [_, _, _]) (ci := 12) okX12_giveRow mlX12_219 rfl (by decide) sh_504 (ct_giveRow hR1 sh_510 (by decide) ha mk.2.1.2 ls hG0 (by decide)) rfl (by decide) (by decide) (Nat.le_of_ble_eq_true rfl) dX12_give_135 (fun v9 S9 V2 h9 => ?_) (fun E S9 V9 h9 => h9.elim)
    obtain ⟨rfl, rfl, g4, u4⟩ := h9
    have hR := u4.mr hR1
    have h43 := g4.1
    refine R_aload_0 dX12_give_138 ?_
    refine gfX12_213 rfl dX12_give_139 sh_504 h43 ?_
    refine R_iret rfl dX12_give_142 ⟨by rw [show hVal (fV ent g) 115 = nI ((gW ent g 12).1 1).length from rfl, y1]; rfl, rfl, by rw [show fW ent g (fIx 115).toNatClampNeg = (gW ent g 12).1 1 from rfl, y1]; exact g4, (f1.trans u4)⟩
  · refine R_iload_1 dX12_give_10 ?_
    refine R_bipush (v := 110) dX12_give_11 (by decide) ?_
    refine R_icmp_ne 117 dX12_give_13 (by decide) (fun c13 => ?_) (fun c13 => absurd c13 (by decide))
    refine R_iload_1 dX12_give_117 ?_
    refine R_bipush (v := 115) dX12_give_118 (by decide) ?_
    refine R_icmp_ne 143 dX12_give_120 (by decide) (fun c120 => ?_) (fun c120 => absurd c120 (by decide))
    refine R_iload_1 dX12_give_143 ?_
    refine R_bipush (v := 104) dX12_give_144 (by decide) ?_
    refine R_icmp_ne 158 dX12_give_146 (by decide) (fun c146 => absurd rfl c146) (fun c146 => ?_)
    refine R_aload_0 dX12_give_149 ?_
    refine gfX12_43 rfl dX12_give_150 sh_504 (by first | exact hR.g (k := 14) (a := 516) (by decide) | exact (a_up_ne (by omega)).trans (hR.g (k := 14) (a := 516) (by decide)) | exact (a_up_ne (by omega)).trans ((a_up_ne (by omega)).trans (hR.g (k := 14) (a := 516) (by decide))) | exact (a_up_ne (by omega)).trans ((a_up_ne (by omega)).trans ((a_up_ne (by omega)).trans (hR.g (k := 14) (a := 516) (by decide)))) | exact (a_up_ne (by omega)).trans ((a_up_ne (by omega)).trans ((a_up_ne (by omega)).trans ((a_up_ne (by omega)).trans (hR.g (k := 14) (a := 516) (by decide))))) | exact (a_up_ne (by omega)).trans ((a_up_ne (by omega)).trans ((a_up_ne (by omega)).trans ((a_up_ne (by omega)).trans ((a_up_ne (by omega)).trans (hR.g (k := 14) (a := 516) (by decide)))))) | exact (a_up_ne (by omega)).trans ((a_up_ne (by omega)).trans ((a_up_ne (by omega)).trans ((a_up_ne (by omega)).trans ((a_up_ne (by omega)).trans ((a_up_ne (by omega)).trans (hR.g (k := 14) (a := 516) (by decide)))))))) ?_
    refine R_iload_3 dX12_give_153 ?_
    refine R_ialdE dX12_give_154 sh_516 rfl (by omega) (by decide) mk.2.2.2.2.1 ?_
    refine R_goto 191 dX12_give_155 (by decide) ?_
    refine R_istore_4 rfl (by decide) dX12_give_191 ?_
    refine R_aload_0 dX12_give_193 ?_
    refine R_iload_4 dX12_give_194 ?_
    refine R_callV (T := mX12_give) (T' := mX12_giveNumber) (As := [_]) (ci := 12) okX12_giveNumber mlX12_229 rfl (by decide) sh_504 (ct_giveNumber hR1 (x := (ent a).2.2.1) (by have := (hEB a ha).2.1; omega) hG0 (by decide)) rfl (by decide) (by decide) (Nat.le_of_ble_eq_true rfl) dX12_give_196 (fun v9 S9 V2 h9 => ?_) (fun E S9 V9 h9 => h9.elim)
    obtain ⟨rfl, rfl, g4, u4⟩ := h9
    refine R_iload_4 dX12_give_199 ?_
    refine R_iret rfl dX12_give_201 ⟨by rw [show hVal (fV ent g) 104 = nI ((gW ent g 12).2 2) from rfl, y2], rfl, by rw [show fW ent g (fIx 104).toNatClampNeg = digs ((gW ent g 12).2 2) from rfl, y2]; exact g4, (f1.trans u4)⟩
  · refine R_iload_1 dX12_give_10 ?_
    refine R_bipush (v := 110) dX12_give_11 (by decide) ?_
    refine R_icmp_ne 117 dX12_give_13 (by decide) (fun c13 => ?_) (fun c13 => absurd c13 (by decide))
    refine R_iload_1 dX12_give_117 ?_
    refine R_bipush (v := 115) dX12_give_118 (by decide) ?_
    refine R_icmp_ne 143 dX12_give_120 (by decide) (fun c120 => ?_) (fun c120 => absurd c120 (by decide))
    refine R_iload_1 dX12_give_143 ?_
    refine R_bipush (v := 104) dX12_give_144 (by decide) ?_
    refine R_icmp_ne 158 dX12_give_146 (by decide) (fun c146 => ?_) (fun c146 => absurd c146 (by decide))
    refine R_iload_1 dX12_give_158 ?_
    refine R_bipush (v := 122) dX12_give_159 (by decide) ?_
    refine R_icmp_ne 173 dX12_give_161 (by decide) (fun c161 => absurd rfl c161) (fun c161 => ?_)
    refine R_aload_0 dX12_give_164 ?_
    refine gfX12_46 rfl dX12_give_165 sh_504 (by first | exact hR.g (k := 15) (a := 517) (by decide) | exact (a_up_ne (by omega)).trans (hR.g (k := 15) (a := 517) (by decide)) | exact (a_up_ne (by omega)).trans ((a_up_ne (by omega)).trans (hR.g (k := 15) (a := 517) (by decide))) | exact (a_up_ne (by omega)).trans ((a_up_ne (by omega)).trans ((a_up_ne (by omega)).trans (hR.g (k := 15) (a := 517) (by decide)))) | exact (a_up_ne (by omega)).trans ((a_up_ne (by omega)).trans ((a_up_ne (by omega)).trans ((a_up_ne (by omega)).trans (hR.g (k := 15) (a := 517) (by decide))))) | exact (a_up_ne (by omega)).trans ((a_up_ne (by omega)).trans ((a_up_ne (by omega)).trans ((a_up_ne (by omega)).trans ((a_up_ne (by omega)).trans (hR.g (k := 15) (a := 517) (by decide)))))) | exact (a_up_ne (by omega)).trans ((a_up_ne (by omega)).trans ((a_up_ne (by omega)).trans ((a_up_ne (by omega)).trans ((a_up_ne (by omega)).trans ((a_up_ne (by omega)).trans (hR.g (k := 15) (a := 517) (by decide)))))))) ?_
    refine R_iload_3 dX12_give_168 ?_
    refine R_ialdE dX12_give_169 sh_517 rfl (by omega) (by decide) mk.2.2.2.2.2.1 ?_
    refine R_goto 191 dX12_give_170 (by decide) ?_
    refine R_istore_4 rfl (by decide) dX12_give_191 ?_
    refine R_aload_0 dX12_give_193 ?_
    refine R_iload_4 dX12_give_194 ?_
    refine R_callV (T := mX12_give) (T' := mX12_giveNumber) (As := [_]) (ci := 12) okX12_giveNumber mlX12_229 rfl (by decide) sh_504 (ct_giveNumber hR1 (x := (ent a).2.2.2.1) (by have := (hEB a ha).2.2.1; omega) hG0 (by decide)) rfl (by decide) (by decide) (Nat.le_of_ble_eq_true rfl) dX12_give_196 (fun v9 S9 V2 h9 => ?_) (fun E S9 V9 h9 => h9.elim)
    obtain ⟨rfl, rfl, g4, u4⟩ := h9
    refine R_iload_4 dX12_give_199 ?_
    refine R_iret rfl dX12_give_201 ⟨by rw [show hVal (fV ent g) 122 = nI ((gW ent g 12).2 3) from rfl, y3], rfl, by rw [show fW ent g (fIx 122).toNatClampNeg = digs ((gW ent g 12).2 3) from rfl, y3]; exact g4, (f1.trans u4)⟩
  · refine R_iload_1 dX12_give_10 ?_
    refine R_bipush (v := 110) dX12_give_11 (by decide) ?_
    refine R_icmp_ne 117 dX12_give_13 (by decide) (fun c13 => ?_) (fun c13 => absurd c13 (by decide))
    refine R_iload_1 dX12_give_117 ?_
    refine R_bipush (v := 115) dX12_give_118 (by decide) ?_
    refine R_icmp_ne 143 dX12_give_120 (by decide) (fun c120 => ?_) (fun c120 => absurd c120 (by decide))
    refine R_iload_1 dX12_give_143 ?_
    refine R_bipush (v := 104) dX12_give_144 (by decide) ?_
    refine R_icmp_ne 158 dX12_give_146 (by decide) (fun c146 => ?_) (fun c146 => absurd c146 (by decide))
    refine R_iload_1 dX12_give_158 ?_
    refine R_bipush (v := 122) dX12_give_159 (by decide) ?_
    refine R_icmp_ne 173 dX12_give_161 (by decide) (fun c161 => ?_) (fun c161 => absurd c161 (by decide))
    refine R_iload_1 dX12_give_173 ?_
    refine R_bipush (v := 112) dX12_give_174 (by decide) ?_
    refine R_icmp_ne 187 dX12_give_176 (by decide) (fun c176 => absurd rfl c176) (fun c176 => ?_)
    refine R_aload_0 dX12_give_179 ?_
    refine R_iload_2 dX12_give_180 ?_
    refine R_callV_e (T := mX12_give) (T' := mX12_pointsOf) (As := [_]) (ci := 12) okX12_pointsOf mlX12_223 rfl (by decide) sh_504 (ct_pointsOf hR1 hE1 hg.1) rfl (by decide) (by decide) (Nat.le_of_ble_eq_true rfl) dX12_give_181 ?_
    refine R_goto 191 dX12_give_184 (by decide) ?_
    refine R_istore_4 rfl (by decide) dX12_give_191 ?_
    refine R_aload_0 dX12_give_193 ?_
    refine R_iload_4 dX12_give_194 ?_
    refine R_callV (T := mX12_give) (T' := mX12_giveNumber) (As := [_]) (ci := 12) okX12_giveNumber mlX12_229 rfl (by decide) sh_504 (ct_giveNumber hR1 (x := (gW ent g 12).2 4) (by omega) hG0 (by decide)) rfl (by decide) (by decide) (Nat.le_of_ble_eq_true rfl) dX12_give_196 (fun v9 S9 V2 h9 => ?_) (fun E S9 V9 h9 => h9.elim)
    obtain ⟨rfl, rfl, g4, u4⟩ := h9
    refine R_iload_4 dX12_give_199 ?_
    refine R_iret rfl dX12_give_201 ⟨rfl, rfl, g4, (f1.trans u4)⟩
  · refine R_iload_1 dX12_give_10 ?_
    refine R_bipush (v := 110) dX12_give_11 (by decide) ?_
    refine R_icmp_ne 117 dX12_give_13 (by decide) (fun c13 => ?_) (fun c13 => absurd c13 (by decide))
    refine R_iload_1 dX12_give_117 ?_
    refine R_bipush (v := 115) dX12_give_118 (by decide) ?_
    refine R_icmp_ne 143 dX12_give_120 (by decide) (fun c120 => ?_) (fun c120 => absurd c120 (by decide))
    refine R_iload_1 dX12_give_143 ?_
    refine R_bipush (v := 104) dX12_give_144 (by decide) ?_
    refine R_icmp_ne 158 dX12_give_146 (by decide) (fun c146 => ?_) (fun c146 => absurd c146 (by decide))
    refine R_iload_1 dX12_give_158 ?_
    refine R_bipush (v := 122) dX12_give_159 (by decide) ?_
    refine R_icmp_ne 173 dX12_give_161 (by decide) (fun c161 => ?_) (fun c161 => absurd c161 (by decide))
    refine R_iload_1 dX12_give_173 ?_
    refine R_bipush (v := 112) dX12_give_174 (by decide) ?_
    refine R_icmp_ne 187 dX12_give_176 (by decide) (fun c176 => ?_) (fun c176 => absurd c176 (by decide))
    refine R_iload_2 dX12_give_187 ?_
    refine R_callS_e (T := mX12_give) (T' := mX12_many) (As := [_]) okX12_many mlX12_226 rfl (ct_many hg.1) rfl (by decide) (by decide) (Nat.le_of_ble_eq_true rfl) dX12_give_188 ?_
    refine R_istore_4 rfl (by decide) dX12_give_191 ?_
    refine R_aload_0 dX12_give_193 ?_
    refine R_iload_4 dX12_give_194 ?_
    refine R_callV (T := mX12_give) (T' := mX12_giveNumber) (As := [_]) (ci := 12) okX12_giveNumber mlX12_229 rfl (by decide) sh_504 (ct_giveNumber hR1 (x := bcn g 12) (by have := bcn_le g 12; omega) hG0 (by decide)) rfl (by decide) (by decide) (Nat.le_of_ble_eq_true rfl) dX12_give_196 (fun v9 S9 V2 h9 => ?_) (fun E S9 V9 h9 => h9.elim)
    obtain ⟨rfl, rfl, g4, u4⟩ := h9
    refine R_iload_4 dX12_give_199 ?_
    refine R_iret rfl dX12_give_201 ⟨by rw [show hVal (fV ent g) 109 = nI ((gW ent g 12).2 5) from rfl, y5], rfl, by rw [show fW ent g (fIx 109).toNatClampNeg = digs ((gW ent g 12).2 5) from rfl, y5]; exact g4, (f1.trans u4)⟩

