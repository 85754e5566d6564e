/-! ===== MergePostModel: likeness ===== -/
/-- only scratch has changed -/
def FrS (V V' : aV) : Prop := (∀ b, b ≠ 504 → (b < 529 ∨ 538 < b) → V' b = V b) ∧ ∀ k, k ≠ 0 → (k < 32 ∨ 35 < k) → k ≠ 43 → V' 504 k = V 504 k
theorem FrS.refl {V : aV} : FrS V V := ⟨fun _ _ _ => rfl, fun _ _ _ _ => rfl⟩
theorem FrS.trans {V V1 V2 : aV} (h : FrS V V1) (g : FrS V1 V2) : FrS V V2 := ⟨fun b q1 q2 => (g.1 b q1 q2).trans (h.1 b q1 q2), fun k q1 q2 q3 => (g.2 k q1 q2 q3).trans (h.2 k q1 q2 q3)⟩
theorem FrS.f {V : aV} {k : Nat} {v : Value} (hk : k = 0 ∨ (32 ≤ k ∧ k ≤ 35) ∨ k = 43) : FrS V (a_up V 504 k v) := ⟨fun b q1 _ => a_up_row q1, fun j q1 q2 q3 => a_up_ne (Or.inr (by omega))⟩
theorem FrS.r {V V' : aV} {a : Nat} (h : Fr0 V V' a) (h1 : 529 ≤ a) (h2 : a ≤ 538) : FrS V V' := ⟨fun b q1 q2 => h b (by omega), fun k _ _ _ => congrFun (h 504 (by omega)) k⟩
theorem FrS.mr {V V' : aV} (h : FrS V V') (hR : MR V) : MR V' := hR.fr (fun k hk => h.2 k (fun z => hk (by rw [z]; decide)) (by
  refine Classical.byContradiction fun z => ?_
  have : k = 32 ∨ k = 33 ∨ k = 34 ∨ k = 35 := by omega
  rcases this with rfl | rfl | rfl | rfl <;> exact hk (by decide)) (fun z => hk (by rw [z]; decide)))
theorem FrS.ml {V V' : aV} {L : List Int32} (h : FrS V V') (hl : ML V L) : ML V' L := hl.fr (h.2 2 (by decide) (by decide) (by decide)) (h.1 505 (by decide) (by decide))
theorem FrS.mt {V V' : aV} {T : Nat → List Int32} {to : Nat → Bool} (h : FrS V V') (hT : MT V T to) : MT V' T to := hT.fr (h.1 506 (by decide) (by decide)) (h.1 507 (by decide) (by decide))
theorem FrS.me {V V' : aV} {ent : Nat → EntN} {cnt : Nat} (h : FrS V V') (hE : ME V ent cnt) : ME V' ent cnt := hE.fr (h.2 5 (by decide) (by decide) (by decide)) (fun b q1 q2 => h.1 b (by omega) (by omega))
theorem FrS.mm {V V' : aV} {mt : Nat → Nat} (h : FrS V V') (hM : MM V mt) : MM V' mt := hM.fr (h.1 519 (by decide) (by decide))
/-- a question is answered -/
def MQy (V : aV) (xc : Nat) (ans : Int32) : Option Value → aS → aV → Prop := fun v S' V' => Sh = S' ∧ V' 504 0 = .int (nI xc) ∧ (∃ y, v = some (.int y) ∧ (xc = 0 → y = ans)) ∧ FrS V V'
theorem EO.cw {x : EntN} (h : EO x) (b : Int32) : (cwd (encE x) b).length ≤ 12 := by
  unfold cwd
  have h1 : (cl x.1).length ≤ x.1.length := List.length_filterMap_le _ _
  have h2 : (cl x.2.1).length ≤ x.2.1.length := List.length_filterMap_le _ _
  have h3 := h.1.1
  have h4 := h.2.1
  split
  · show (cl x.1).length ≤ 12; omega
  · show (cl x.2.1).length ≤ 12; omega
theorem MEk.cw {V : aV} {k : Nat} {x : EntN} (h : MEk V k x) {b : Int32} (hb : b = 0) : V 513 k = .int (nI (cwd (encE x) b).length) ∧ RWS V 512 (12 * k) (cwd (encE x) b) := by
  have e : cwd (encE x) b = cl x.1 := if_pos hb
  rw [e]; exact h.2.2.1
theorem MEk.cs {V : aV} {k : Nat} {x : EntN} (h : MEk V k x) {b : Int32} (hb : ¬ b = 0) : V 515 k = .int (nI (cwd (encE x) b).length) ∧ RWS V 514 (12 * k) (cwd (encE x) b) := by
  have e : cwd (encE x) b = cl x.2.1 := if_neg hb
  rw [e]; exact h.2.2.2.1
set_option maxHeartbeats 4000000 in
theorem ct_apartOf {V : aV} {ent : Nat → EntN} {cnt : Nat} (hR : MR V) (hE : ME V ent cnt) (hEO : ∀ k, k < 12 → EO (ent k)) {i j : Nat} (hi : i < 12) (hj : j < 12) (b : Int32) : CT mX12_apartOf 1 0 0 [.ref 504, .int (nI i), .int (nI j), .int b] Sh V (fun v S' V' => some (.int (nI (lev (cwd (encE (ent i)) b) (cwd (encE (ent j)) b)))) = v ∧ Sh = S' ∧ Fr0 V V' 537) aNo := by
  refine CT_of (by decide +kernel) (Nat.le_of_ble_eq_true rfl) ?_
  show R _ _ _ _ _ _ _ _ 0 [some (.ref 504), some (.int (nI i)), some (.int (nI j)), some (.int b)] [] _ _
  have l1 := (hEO i hi).cw b
  have l2 := (hEO j hj).cw b
  refine R_iload_3 dX12_apartOf_0 ?_
  refine R_if_eq 27 dX12_apartOf_1 (by decide) (fun c1 => ?_) (fun c1 => ?_)
  · obtain ⟨p1, p2⟩ := (hE.2 i hi).cw c1
    obtain ⟨q1, q2⟩ := (hE.2 j hj).cw c1
    refine R_aload_0 dX12_apartOf_27 ?_
    refine R_aload_0 dX12_apartOf_28 ?_
    refine gfX12_31 rfl dX12_apartOf_29 sh_504 (by first | exact hR.g (k := 10) (a := 512) (by decide) | exact (a_up_ne (by omega)).trans (hR.g (k := 10) (a := 512) (by decide)) | exact (a_up_ne (by omega)).trans ((a_up_ne (by omega)).trans (hR.g (k := 10) (a := 512) (by decide))) | exact (a_up_ne (by omega)).trans ((a_up_ne (by omega)).trans ((a_up_ne (by omega)).trans (hR.g (k := 10) (a := 512) (by decide)))) | exact (a_up_ne (by omega)).trans ((a_up_ne (by omega)).trans ((a_up_ne (by omega)).trans ((a_up_ne (by omega)).trans (hR.g (k := 10) (a := 512) (by decide))))) | exact (a_up_ne (by omega)).trans ((a_up_ne (by omega)).trans ((a_up_ne (by omega)).trans ((a_up_ne (by omega)).trans ((a_up_ne (by omega)).trans (hR.g (k := 10) (a := 512) (by decide)))))) | exact (a_up_ne (by omega)).trans ((a_up_ne (by omega)).trans ((a_up_ne (by omega)).trans ((a_up_ne (by omega)).trans ((a_up_ne (by omega)).trans ((a_up_ne (by omega)).trans (hR.g (k := 10) (a := 512) (by decide)))))))) ?_
    refine R_iload_1 dX12_apartOf_32 ?_
    refine R_aload_0 dX12_apartOf_33 ?_
    refine gfX12_34 rfl dX12_apartOf_34 sh_504 (by first | exact hR.g (k := 11) (a := 513) (by decide) | exact (a_up_ne (by omega)).trans (hR.g (k := 11) (a := 513) (by decide)) | exact (a_up_ne (by omega)).trans ((a_up_ne (by omega)).trans (hR.g (k := 11) (a := 513) (by decide))) | exact (a_up_ne (by omega)).trans ((a_up_ne (by omega)).trans ((a_up_ne (by omega)).trans (hR.g (k := 11) (a := 513) (by decide)))) | exact (a_up_ne (by omega)).trans ((a_up_ne (by omega)).trans ((a_up_ne (by omega)).trans ((a_up_ne (by omega)).trans (hR.g (k := 11) (a := 513) (by decide))))) | exact (a_up_ne (by omega)).trans ((a_up_ne (by omega)).trans ((a_up_ne (by omega)).trans ((a_up_ne (by omega)).trans ((a_up_ne (by omega)).trans (hR.g (k := 11) (a := 513) (by decide)))))) | exact (a_up_ne (by omega)).trans ((a_up_ne (by omega)).trans ((a_up_ne (by omega)).trans ((a_up_ne (by omega)).trans ((a_up_ne (by omega)).trans ((a_up_ne (by omega)).trans (hR.g (k := 11) (a := 513) (by decide)))))))) ?_
    refine R_iload_1 dX12_apartOf_37 ?_
    refine R_ialdE dX12_apartOf_38 sh_513 rfl (by omega) (by decide) p1 ?_
    refine R_iload_2 dX12_apartOf_39 ?_
    refine R_aload_0 dX12_apartOf_40 ?_
    refine gfX12_34 rfl dX12_apartOf_41 sh_504 (by first | exact hR.g (k := 11) (a := 513) (by decide) | exact (a_up_ne (by omega)).trans (hR.g (k := 11) (a := 513) (by decide)) | exact (a_up_ne (by omega)).trans ((a_up_ne (by omega)).trans (hR.g (k := 11) (a := 513) (by decide))) | exact (a_up_ne (by omega)).trans ((a_up_ne (by omega)).trans ((a_up_ne (by omega)).trans (hR.g (k := 11) (a := 513) (by decide)))) | exact (a_up_ne (by omega)).trans ((a_up_ne (by omega)).trans ((a_up_ne (by omega)).trans ((a_up_ne (by omega)).trans (hR.g (k := 11) (a := 513) (by decide))))) | exact (a_up_ne (by omega)).trans ((a_up_ne (by omega)).trans ((a_up_ne (by omega)).trans ((a_up_ne (by omega)).trans ((a_up_ne (by omega)).trans (hR.g (k := 11) (a := 513) (by decide)))))) | exact (a_up_ne (by omega)).trans ((a_up_ne (by omega)).trans ((a_up_ne (by omega)).trans ((a_up_ne (by omega)).trans ((a_up_ne (by omega)).trans ((a_up_ne (by omega)).trans (hR.g (k := 11) (a := 513) (by decide)))))))) ?_
    refine R_iload_2 dX12_apartOf_44 ?_
    refine R_ialdE dX12_apartOf_45 sh_513 rfl (by omega) (by decide) q1 ?_
    refine R_callV (T := mX12_apartOf) (T' := mX12_changes) (As := [_, _, _, _, _]) (ci := 12) okX12_changes mlX12_178 rfl (by decide) sh_504 (ct_changes hR sh_512 (by decide) hi hj p2 q2 l1 l2) rfl (by decide) (by decide) (Nat.le_of_ble_eq_true rfl) dX12_apartOf_46 (fun v9 S9 V1 h9 => ?_) (fun E S9 V9 h9 => h9.elim)
    obtain ⟨rfl, rfl, u3⟩ := h9
    refine R_iret rfl dX12_apartOf_49 ⟨rfl, rfl, u3⟩
  · obtain ⟨p1, p2⟩ := (hE.2 i hi).cs c1
    obtain ⟨q1, q2⟩ := (hE.2 j hj).cs c1
    refine R_aload_0 dX12_apartOf_4 ?_
    refine R_aload_0 dX12_apartOf_5 ?_
    refine gfX12_37 rfl dX12_apartOf_6 sh_504 (by first | exact hR.g (k := 12) (a := 514) (by decide) | exact (a_up_ne (by omega)).trans (hR.g (k := 12) (a := 514) (by decide)) | exact (a_up_ne (by omega)).trans ((a_up_ne (by omega)).trans (hR.g (k := 12) (a := 514) (by decide))) | exact (a_up_ne (by omega)).trans ((a_up_ne (by omega)).trans ((a_up_ne (by omega)).trans (hR.g (k := 12) (a := 514) (by decide)))) | exact (a_up_ne (by omega)).trans ((a_up_ne (by omega)).trans ((a_up_ne (by omega)).trans ((a_up_ne (by omega)).trans (hR.g (k := 12) (a := 514) (by decide))))) | exact (a_up_ne (by omega)).trans ((a_up_ne (by omega)).trans ((a_up_ne (by omega)).trans ((a_up_ne (by omega)).trans ((a_up_ne (by omega)).trans (hR.g (k := 12) (a := 514) (by decide)))))) | exact (a_up_ne (by omega)).trans ((a_up_ne (by omega)).trans ((a_up_ne (by omega)).trans ((a_up_ne (by omega)).trans ((a_up_ne (by omega)).trans ((a_up_ne (by omega)).trans (hR.g (k := 12) (a := 514) (by decide)))))))) ?_
    refine R_iload_1 dX12_apartOf_9 ?_
    refine R_aload_0 dX12_apartOf_10 ?_
    refine gfX12_40 rfl dX12_apartOf_11 sh_504 (by first | exact hR.g (k := 13) (a := 515) (by decide) | exact (a_up_ne (by omega)).trans (hR.g (k := 13) (a := 515) (by decide)) | exact (a_up_ne (by omega)).trans ((a_up_ne (by omega)).trans (hR.g (k := 13) (a := 515) (by decide))) | exact (a_up_ne (by omega)).trans ((a_up_ne (by omega)).trans ((a_up_ne (by omega)).trans (hR.g (k := 13) (a := 515) (by decide)))) | exact (a_up_ne (by omega)).trans ((a_up_ne (by omega)).trans ((a_up_ne (by omega)).trans ((a_up_ne (by omega)).trans (hR.g (k := 13) (a := 515) (by decide))))) | exact (a_up_ne (by omega)).trans ((a_up_ne (by omega)).trans ((a_up_ne (by omega)).trans ((a_up_ne (by omega)).trans ((a_up_ne (by omega)).trans (hR.g (k := 13) (a := 515) (by decide)))))) | exact (a_up_ne (by omega)).trans ((a_up_ne (by omega)).trans ((a_up_ne (by omega)).trans ((a_up_ne (by omega)).trans ((a_up_ne (by omega)).trans ((a_up_ne (by omega)).trans (hR.g (k := 13) (a := 515) (by decide)))))))) ?_
    refine R_iload_1 dX12_apartOf_14 ?_
    refine R_ialdE dX12_apartOf_15 sh_515 rfl (by omega) (by decide) p1 ?_
    refine R_iload_2 dX12_apartOf_16 ?_
    refine R_aload_0 dX12_apartOf_17 ?_
    refine gfX12_40 rfl dX12_apartOf_18 sh_504 (by first | exact hR.g (k := 13) (a := 515) (by decide) | exact (a_up_ne (by omega)).trans (hR.g (k := 13) (a := 515) (by decide)) | exact (a_up_ne (by omega)).trans ((a_up_ne (by omega)).trans (hR.g (k := 13) (a := 515) (by decide))) | exact (a_up_ne (by omega)).trans ((a_up_ne (by omega)).trans ((a_up_ne (by omega)).trans (hR.g (k := 13) (a := 515) (by decide)))) | exact (a_up_ne (by omega)).trans ((a_up_ne (by omega)).trans ((a_up_ne (by omega)).trans ((a_up_ne (by omega)).trans (hR.g (k := 13) (a := 515) (by decide))))) | exact (a_up_ne (by omega)).trans ((a_up_ne (by omega)).trans ((a_up_ne (by omega)).trans ((a_up_ne (by omega)).trans ((a_up_ne (by omega)).trans (hR.g (k := 13) (a := 515) (by decide)))))) | exact (a_up_ne (by omega)).trans ((a_up_ne (by omega)).trans ((a_up_ne (by omega)).trans ((a_up_ne (by omega)).trans ((a_up_ne (by omega)).trans ((a_up_ne (by omega)).trans (hR.g (k := 13) (a := 515) (by decide)))))))) ?_
    refine R_iload_2 dX12_apartOf_21 ?_
    refine R_ialdE dX12_apartOf_22 sh_515 rfl (by omega) (by decide) q1 ?_
    refine R_callV (T := mX12_apartOf) (T' := mX12_changes) (As := [_, _, _, _, _]) (ci := 12) okX12_changes mlX12_178 rfl (by decide) sh_504 (ct_changes hR sh_514 (by decide) hi hj p2 q2 l1 l2) rfl (by decide) (by decide) (Nat.le_of_ble_eq_true rfl) dX12_apartOf_23 (fun v9 S9 V1 h9 => ?_) (fun E S9 V9 h9 => h9.elim)
    obtain ⟨rfl, rfl, u3⟩ := h9
    refine R_iret rfl dX12_apartOf_26 ⟨rfl, rfl, u3⟩

theorem nI_0of {n : Nat} (h : n < 2 ^ 31) (e : nI n = 0) : n = 0 := bk_z0 h e
set_option maxHeartbeats 4000000 in
theorem ct_alike {V : aV} {ent : Nat → EntN} {cnt : Nat} (hR : MR V) (hE : ME V ent cnt) (hEO : ∀ k, k < 12 → EO (ent k)) {i j : Nat} (hi : i < 12) (hj : j < 12) (b : Int32) : CT mX12_alike 2 0 0 [.ref 504, .int (nI i), .int (nI j), .int b] Sh V (fun v S' V' => some (.float (WL (lev (cwd (encE (ent i)) b) (cwd (encE (ent j)) b)) (max (cwd (encE (ent i)) b).length (cwd (encE (ent j)) b).length))) = v ∧ Sh = S' ∧ Fr0 V V' 537) aNo := by
  refine CT_of (by decide +kernel) (Nat.le_of_ble_eq_true rfl) ?_
  show R _ _ _ _ _ _ _ _ 0 [some (.ref 504), some (.int (nI i)), some (.int (nI j)), some (.int b), none, none, none, none] [] _ _
  have l1 := (hEO i hi).cw b
  have l2 := (hEO j hj).cw b
  have hle := lev_le (L := cwd (encE (ent i)) b) (G := cwd (encE (ent j)) b)
  refine R_iload_3 dX12_alike_0 ?_
  refine R_if_eq 13 dX12_alike_1 (by decide) (fun c1 => ?_) (fun c1 => ?_)
  · refine R_aload_0 dX12_alike_13 ?_
    refine gfX12_34 rfl dX12_alike_14 sh_504 (by first | exact hR.g (k := 11) (a := 513) (by decide) | exact (a_up_ne (by omega)).trans (hR.g (k := 11) (a := 513) (by decide)) | exact (a_up_ne (by omega)).trans ((a_up_ne (by omega)).trans (hR.g (k := 11) (a := 513) (by decide))) | exact (a_up_ne (by omega)).trans ((a_up_ne (by omega)).trans ((a_up_ne (by omega)).trans (hR.g (k := 11) (a := 513) (by decide)))) | exact (a_up_ne (by omega)).trans ((a_up_ne (by omega)).trans ((a_up_ne (by omega)).trans ((a_up_ne (by omega)).trans (hR.g (k := 11) (a := 513) (by decide))))) | exact (a_up_ne (by omega)).trans ((a_up_ne (by omega)).trans ((a_up_ne (by omega)).trans ((a_up_ne (by omega)).trans ((a_up_ne (by omega)).trans (hR.g (k := 11) (a := 513) (by decide)))))) | exact (a_up_ne (by omega)).trans ((a_up_ne (by omega)).trans ((a_up_ne (by omega)).trans ((a_up_ne (by omega)).trans ((a_up_ne (by omega)).trans ((a_up_ne (by omega)).trans (hR.g (k := 11) (a := 513) (by decide)))))))) ?_
    refine R_iload_1 dX12_alike_17 ?_
    refine R_ialdE dX12_alike_18 sh_513 rfl (by omega) (by decide) ((hE.2 i hi).cw c1).1 ?_
    refine R_istore_4 rfl (by decide) dX12_alike_19 ?_
    refine R_iload_3 dX12_alike_21 ?_
    refine R_if_eq 34 dX12_alike_22 (by decide) (fun c22 => ?_) (fun c22 => ?_)
    · refine R_aload_0 dX12_alike_34 ?_
      refine gfX12_34 rfl dX12_alike_35 sh_504 (by first | exact hR.g (k := 11) (a := 513) (by decide) | exact (a_up_ne (by omega)).trans (hR.g (k := 11) (a := 513) (by decide)) | exact (a_up_ne (by omega)).trans ((a_up_ne (by omega)).trans (hR.g (k := 11) (a := 513) (by decide))) | exact (a_up_ne (by omega)).trans ((a_up_ne (by omega)).trans ((a_up_ne (by omega)).trans (hR.g (k := 11) (a := 513) (by decide)))) | exact (a_up_ne (by omega)).trans ((a_up_ne (by omega)).trans ((a_up_ne (by omega)).trans ((a_up_ne (by omega)).trans (hR.g (k := 11) (a := 513) (by decide))))) | exact (a_up_ne (by omega)).trans ((a_up_ne (by omega)).trans ((a_up_ne (by omega)).trans ((a_up_ne (by omega)).trans ((a_up_ne (by omega)).trans (hR.g (k := 11) (a := 513) (by decide)))))) | exact (a_up_ne (by omega)).trans ((a_up_ne (by omega)).trans ((a_up_ne (by omega)).trans ((a_up_ne (by omega)).trans ((a_up_ne (by omega)).trans ((a_up_ne (by omega)).trans (hR.g (k := 11) (a := 513) (by decide)))))))) ?_
      refine R_iload_2 dX12_alike_38 ?_
      refine R_ialdE dX12_alike_39 sh_513 rfl (by omega) (by decide) ((hE.2 j hj).cw c22).1 ?_
      refine R_istore_5 rfl (by decide) dX12_alike_40 ?_
      refine R_iload_4 dX12_alike_42 ?_
      refine R_iload_5 dX12_alike_44 ?_
      refine R_icmp_le 54 dX12_alike_46 (by decide) (fun c46 => ?_) (fun c46 => ?_)
      · refine R_iload_5 dX12_alike_54 ?_
        first
          | (have hmx : (cwd (encE (ent i)) b).length = (max (cwd (encE (ent i)) b).length (cwd (encE (ent j)) b).length) := by
               have := (nI_ltI (by omega) (by omega)).1 (Int32.not_le.1 c46)
               omega
             rw [show nI (cwd (encE (ent i)) b).length = nI (max (cwd (encE (ent i)) b).length (cwd (encE (ent j)) b).length) from congrArg nI hmx]
             refine R_istore_6 rfl (by decide) dX12_alike_56 ?_
             refine R_iload_6 dX12_alike_58 ?_
             refine R_if_ne 65 dX12_alike_60 (by decide) (fun c60 => ?_) (fun c60 => ?_)
             · have hg : 0 < (max (cwd (encE (ent i)) b).length (cwd (encE (ent j)) b).length) := Nat.pos_of_ne_zero (fun q => c60 (by rw [q]; decide))
               have e : WL (lev (cwd (encE (ent i)) b) (cwd (encE (ent j)) b)) (max (cwd (encE (ent i)) b).length (cwd (encE (ent j)) b).length) = FP.fsub 1065353216 (FP.fdiv (FP.i2f (nI (lev (cwd (encE (ent i)) b) (cwd (encE (ent j)) b)))) (FP.i2f (nI (max (cwd (encE (ent i)) b).length (cwd (encE (ent j)) b).length)))) := if_neg (by omega)
               rw [e]
               have ok := wl_ok (by omega) hle hg
               refine R_aload_0 dX12_alike_65 ?_
               refine R_iload_1 dX12_alike_66 ?_
               refine R_iload_2 dX12_alike_67 ?_
               refine R_iload_3 dX12_alike_68 ?_
               refine R_callV (T := mX12_alike) (T' := mX12_apartOf) (As := [_, _, _]) (ci := 12) okX12_apartOf mlX12_182 rfl (by decide) sh_504 (ct_apartOf hR hE hEO hi hj b) rfl (by decide) (by decide) (Nat.le_of_ble_eq_true rfl) dX12_alike_69 (fun v9 S9 V1 h9 => ?_) (fun E S9 V9 h9 => h9.elim)
               obtain ⟨rfl, rfl, u4⟩ := h9
               refine R_i2f dX12_alike_72 ?_
               refine R_iload_6 dX12_alike_73 ?_
               refine R_i2f dX12_alike_75 ?_
               refine R_fdiv dX12_alike_76 ok.1 ?_
               refine R_fstore_7 rfl (by decide) dX12_alike_77 ?_
               refine R_fconst1 dX12_alike_79 ?_
               refine R_fload_7 dX12_alike_80 ?_
               refine R_fsub dX12_alike_82 ok.2 ?_
               refine R_fret rfl dX12_alike_83 ⟨rfl, rfl, u4⟩
             · have hg : (max (cwd (encE (ent i)) b).length (cwd (encE (ent j)) b).length) = 0 := nI_0of (by omega) c60
               have e : WL (lev (cwd (encE (ent i)) b) (cwd (encE (ent j)) b)) (max (cwd (encE (ent i)) b).length (cwd (encE (ent j)) b).length) = 1065353216 := if_pos hg
               rw [e]
               refine R_fconst1 dX12_alike_63 ?_
               refine R_fret rfl dX12_alike_64 ⟨rfl, rfl, fun _ _ => rfl⟩)
          | (have hmx : (cwd (encE (ent j)) b).length = (max (cwd (encE (ent i)) b).length (cwd (encE (ent j)) b).length) := by
               have := (nI_leI (by omega) (by omega)).1 c46
               omega
             rw [show nI (cwd (encE (ent j)) b).length = nI (max (cwd (encE (ent i)) b).length (cwd (encE (ent j)) b).length) from congrArg nI hmx]
             refine R_istore_6 rfl (by decide) dX12_alike_56 ?_
             refine R_iload_6 dX12_alike_58 ?_
             refine R_if_ne 65 dX12_alike_60 (by decide) (fun c60 => ?_) (fun c60 => ?_)
             · have hg : 0 < (max (cwd (encE (ent i)) b).length (cwd (encE (ent j)) b).length) := Nat.pos_of_ne_zero (fun q => c60 (by rw [q]; decide))
               have e : WL (lev (cwd (encE (ent i)) b) (cwd (encE (ent j)) b)) (max (cwd (encE (ent i)) b).length (cwd (encE (ent j)) b).length) = FP.fsub 1065353216 (FP.fdiv (FP.i2f (nI (lev (cwd (encE (ent i)) b) (cwd (encE (ent j)) b)))) (FP.i2f (nI (max (cwd (encE (ent i)) b).length (cwd (encE (ent j)) b).length)))) := if_neg (by omega)
               rw [e]
               have ok := wl_ok (by omega) hle hg
               refine R_aload_0 dX12_alike_65 ?_
               refine R_iload_1 dX12_alike_66 ?_
               refine R_iload_2 dX12_alike_67 ?_
               refine R_iload_3 dX12_alike_68 ?_
               refine R_callV (T := mX12_alike) (T' := mX12_apartOf) (As := [_, _, _]) (ci := 12) okX12_apartOf mlX12_182 rfl (by decide) sh_504 (ct_apartOf hR hE hEO hi hj b) rfl (by decide) (by decide) (Nat.le_of_ble_eq_true rfl) dX12_alike_69 (fun v9 S9 V1 h9 => ?_) (fun E S9 V9 h9 => h9.elim)
               obtain ⟨rfl, rfl, u4⟩ := h9
               refine R_i2f dX12_alike_72 ?_
               refine R_iload_6 dX12_alike_73 ?_
               refine R_i2f dX12_alike_75 ?_
               refine R_fdiv dX12_alike_76 ok.1 ?_
               refine R_fstore_7 rfl (by decide) dX12_alike_77 ?_
               refine R_fconst1 dX12_alike_79 ?_
               refine R_fload_7 dX12_alike_80 ?_
               refine R_fsub dX12_alike_82 ok.2 ?_
               refine R_fret rfl dX12_alike_83 ⟨rfl, rfl, u4⟩
             · have hg : (max (cwd (encE (ent i)) b).length (cwd (encE (ent j)) b).length) = 0 := nI_0of (by omega) c60
               have e : WL (lev (cwd (encE (ent i)) b) (cwd (encE (ent j)) b)) (max (cwd (encE (ent i)) b).length (cwd (encE (ent j)) b).length) = 1065353216 := if_pos hg
               rw [e]
               refine R_fconst1 dX12_alike_63 ?_
               refine R_fret rfl dX12_alike_64 ⟨rfl, rfl, fun _ _ => rfl⟩)
      · refine R_iload_4 dX12_alike_49 ?_
        refine R_goto 56 dX12_alike_51 (by decide) ?_
        first
          | (have hmx : (cwd (encE (ent i)) b).length = (max (cwd (encE (ent i)) b).length (cwd (encE (ent j)) b).length) := by
               have := (nI_ltI (by omega) (by omega)).1 (Int32.not_le.1 c46)
               omega
             rw [show nI (cwd (encE (ent i)) b).length = nI (max (cwd (encE (ent i)) b).length (cwd (encE (ent j)) b).length) from congrArg nI hmx]
             refine R_istore_6 rfl (by decide) dX12_alike_56 ?_
             refine R_iload_6 dX12_alike_58 ?_
             refine R_if_ne 65 dX12_alike_60 (by decide) (fun c60 => ?_) (fun c60 => ?_)
             · have hg : 0 < (max (cwd (encE (ent i)) b).length (cwd (encE (ent j)) b).length) := Nat.pos_of_ne_zero (fun q => c60 (by rw [q]; decide))
               have e : WL (lev (cwd (encE (ent i)) b) (cwd (encE (ent j)) b)) (max (cwd (encE (ent i)) b).length (cwd (encE (ent j)) b).length) = FP.fsub 1065353216 (FP.fdiv (FP.i2f (nI (lev (cwd (encE (ent i)) b) (cwd (encE (ent j)) b)))) (FP.i2f (nI (max (cwd (encE (ent i)) b).length (cwd (encE (ent j)) b).length)))) := if_neg (by omega)
               rw [e]
               have ok := wl_ok (by omega) hle hg
               refine R_aload_0 dX12_alike_65 ?_
               refine R_iload_1 dX12_alike_66 ?_
               refine R_iload_2 dX12_alike_67 ?_
               refine R_iload_3 dX12_alike_68 ?_
               refine R_callV (T := mX12_alike) (T' := mX12_apartOf) (As := [_, _, _]) (ci := 12) okX12_apartOf mlX12_182 rfl (by decide) sh_504 (ct_apartOf hR hE hEO hi hj b) rfl (by decide) (by decide) (Nat.le_of_ble_eq_true rfl) dX12_alike_69 (fun v9 S9 V1 h9 => ?_) (fun E S9 V9 h9 => h9.elim)
               obtain ⟨rfl, rfl, u4⟩ := h9
               refine R_i2f dX12_alike_72 ?_
               refine R_iload_6 dX12_alike_73 ?_
               refine R_i2f dX12_alike_75 ?_
               refine R_fdiv dX12_alike_76 ok.1 ?_
               refine R_fstore_7 rfl (by decide) dX12_alike_77 ?_
               refine R_fconst1 dX12_alike_79 ?_
               refine R_fload_7 dX12_alike_80 ?_
               refine R_fsub dX12_alike_82 ok.2 ?_
               refine R_fret rfl dX12_alike_83 ⟨rfl, rfl, u4⟩
             · have hg : (max (cwd (encE (ent i)) b).length (cwd (encE (ent j)) b).length) = 0 := nI_0of (by omega) c60
               have e : WL (lev (cwd (encE (ent i)) b) (cwd (encE (ent j)) b)) (max (cwd (encE (ent i)) b).length (cwd (encE (ent j)) b).length) = 1065353216 := if_pos hg
               rw [e]
               refine R_fconst1 dX12_alike_63 ?_
               refine R_fret rfl dX12_alike_64 ⟨rfl, rfl, fun _ _ => rfl⟩)
          | (have hmx : (cwd (encE (ent j)) b).length = (max (cwd (encE (ent i)) b).length (cwd (encE (ent j)) b).length) := by
               have := (nI_leI (by omega) (by omega)).1 c46
               omega
             rw [show nI (cwd (encE (ent j)) b).length = nI (max (cwd (encE (ent i)) b).length (cwd (encE (ent j)) b).length) from congrArg nI hmx]
             refine R_istore_6 rfl (by decide) dX12_alike_56 ?_
             refine R_iload_6 dX12_alike_58 ?_
             refine R_if_ne 65 dX12_alike_60 (by decide) (fun c60 => ?_) (fun c60 => ?_)
             · have hg : 0 < (max (cwd (encE (ent i)) b).length (cwd (encE (ent j)) b).length) := Nat.pos_of_ne_zero (fun q => c60 (by rw [q]; decide))
               have e : WL (lev (cwd (encE (ent i)) b) (cwd (encE (ent j)) b)) (max (cwd (encE (ent i)) b).length (cwd (encE (ent j)) b).length) = FP.fsub 1065353216 (FP.fdiv (FP.i2f (nI (lev (cwd (encE (ent i)) b) (cwd (encE (ent j)) b)))) (FP.i2f (nI (max (cwd (encE (ent i)) b).length (cwd (encE (ent j)) b).length)))) := if_neg (by omega)
               rw [e]
               have ok := wl_ok (by omega) hle hg
               refine R_aload_0 dX12_alike_65 ?_
               refine R_iload_1 dX12_alike_66 ?_
               refine R_iload_2 dX12_alike_67 ?_
               refine R_iload_3 dX12_alike_68 ?_
               refine R_callV (T := mX12_alike) (T' := mX12_apartOf) (As := [_, _, _]) (ci := 12) okX12_apartOf mlX12_182 rfl (by decide) sh_504 (ct_apartOf hR hE hEO hi hj b) rfl (by decide) (by decide) (Nat.le_of_ble_eq_true rfl) dX12_alike_69 (fun v9 S9 V1 h9 => ?_) (fun E S9 V9 h9 => h9.elim)
               obtain ⟨rfl, rfl, u4⟩ := h9
               refine R_i2f dX12_alike_72 ?_
               refine R_iload_6 dX12_alike_73 ?_
               refine R_i2f dX12_alike_75 ?_
               refine R_fdiv dX12_alike_76 ok.1 ?_
               refine R_fstore_7 rfl (by decide) dX12_alike_77 ?_
               refine R_fconst1 dX12_alike_79 ?_
               refine R_fload_7 dX12_alike_80 ?_
               refine R_fsub dX12_alike_82 ok.2 ?_
               refine R_fret rfl dX12_alike_83 ⟨rfl, rfl, u4⟩
             · have hg : (max (cwd (encE (ent i)) b).length (cwd (encE (ent j)) b).length) = 0 := nI_0of (by omega) c60
               have e : WL (lev (cwd (encE (ent i)) b) (cwd (encE (ent j)) b)) (max (cwd (encE (ent i)) b).length (cwd (encE (ent j)) b).length) = 1065353216 := if_pos hg
               rw [e]
               refine R_fconst1 dX12_alike_63 ?_
               refine R_fret rfl dX12_alike_64 ⟨rfl, rfl, fun _ _ => rfl⟩)
    · refine R_aload_0 dX12_alike_25 ?_
      refine gfX12_40 rfl dX12_alike_26 sh_504 (by first | exact hR.g (k := 13) (a := 515) (by decide) | exact (a_up_ne (by omega)).trans (hR.g (k := 13) (a := 515) (by decide)) | exact (a_up_ne (by omega)).trans ((a_up_ne (by omega)).trans (hR.g (k := 13) (a := 515) (by decide))) | exact (a_up_ne (by omega)).trans ((a_up_ne (by omega)).trans ((a_up_ne (by omega)).trans (hR.g (k := 13) (a := 515) (by decide)))) | exact (a_up_ne (by omega)).trans ((a_up_ne (by omega)).trans ((a_up_ne (by omega)).trans ((a_up_ne (by omega)).trans (hR.g (k := 13) (a := 515) (by decide))))) | exact (a_up_ne (by omega)).trans ((a_up_ne (by omega)).trans ((a_up_ne (by omega)).trans ((a_up_ne (by omega)).trans ((a_up_ne (by omega)).trans (hR.g (k := 13) (a := 515) (by decide)))))) | exact (a_up_ne (by omega)).trans ((a_up_ne (by omega)).trans ((a_up_ne (by omega)).trans ((a_up_ne (by omega)).trans ((a_up_ne (by omega)).trans ((a_up_ne (by omega)).trans (hR.g (k := 13) (a := 515) (by decide)))))))) ?_
      refine R_iload_2 dX12_alike_29 ?_
      refine R_ialdE dX12_alike_30 sh_515 rfl (by omega) (by decide) ((hE.2 j hj).cs c22).1 ?_
      refine R_goto 40 dX12_alike_31 (by decide) ?_
      refine R_istore_5 rfl (by decide) dX12_alike_40 ?_
      refine R_iload_4 dX12_alike_42 ?_
      refine R_iload_5 dX12_alike_44 ?_
      refine R_icmp_le 54 dX12_alike_46 (by decide) (fun c46 => ?_) (fun c46 => ?_)
      · refine R_iload_5 dX12_alike_54 ?_
        first
          | (have hmx : (cwd (encE (ent i)) b).length = (max (cwd (encE (ent i)) b).length (cwd (encE (ent j)) b).length) := by
               have := (nI_ltI (by omega) (by omega)).1 (Int32.not_le.1 c46)
               omega
             rw [show nI (cwd (encE (ent i)) b).length = nI (max (cwd (encE (ent i)) b).length (cwd (encE (ent j)) b).length) from congrArg nI hmx]
             refine R_istore_6 rfl (by decide) dX12_alike_56 ?_
             refine R_iload_6 dX12_alike_58 ?_
             refine R_if_ne 65 dX12_alike_60 (by decide) (fun c60 => ?_) (fun c60 => ?_)
             · have hg : 0 < (max (cwd (encE (ent i)) b).length (cwd (encE (ent j)) b).length) := Nat.pos_of_ne_zero (fun q => c60 (by rw [q]; decide))
               have e : WL (lev (cwd (encE (ent i)) b) (cwd (encE (ent j)) b)) (max (cwd (encE (ent i)) b).length (cwd (encE (ent j)) b).length) = FP.fsub 1065353216 (FP.fdiv (FP.i2f (nI (lev (cwd (encE (ent i)) b) (cwd (encE (ent j)) b)))) (FP.i2f (nI (max (cwd (encE (ent i)) b).length (cwd (encE (ent j)) b).length)))) := if_neg (by omega)
               rw [e]
               have ok := wl_ok (by omega) hle hg
               refine R_aload_0 dX12_alike_65 ?_
               refine R_iload_1 dX12_alike_66 ?_
               refine R_iload_2 dX12_alike_67 ?_
               refine R_iload_3 dX12_alike_68 ?_
               refine R_callV (T := mX12_alike) (T' := mX12_apartOf) (As := [_, _, _]) (ci := 12) okX12_apartOf mlX12_182 rfl (by decide) sh_504 (ct_apartOf hR hE hEO hi hj b) rfl (by decide) (by decide) (Nat.le_of_ble_eq_true rfl) dX12_alike_69 (fun v9 S9 V1 h9 => ?_) (fun E S9 V9 h9 => h9.elim)
               obtain ⟨rfl, rfl, u4⟩ := h9
               refine R_i2f dX12_alike_72 ?_
               refine R_iload_6 dX12_alike_73 ?_
               refine R_i2f dX12_alike_75 ?_
               refine R_fdiv dX12_alike_76 ok.1 ?_
               refine R_fstore_7 rfl (by decide) dX12_alike_77 ?_
               refine R_fconst1 dX12_alike_79 ?_
               refine R_fload_7 dX12_alike_80 ?_
               refine R_fsub dX12_alike_82 ok.2 ?_
               refine R_fret rfl dX12_alike_83 ⟨rfl, rfl, u4⟩
             · have hg : (max (cwd (encE (ent i)) b).length (cwd (encE (ent j)) b).length) = 0 := nI_0of (by omega) c60
               have e : WL (lev (cwd (encE (ent i)) b) (cwd (encE (ent j)) b)) (max (cwd (encE (ent i)) b).length (cwd (encE (ent j)) b).length) = 1065353216 := if_pos hg
               rw [e]
               refine R_fconst1 dX12_alike_63 ?_
               refine R_fret rfl dX12_alike_64 ⟨rfl, rfl, fun _ _ => rfl⟩)
          | (have hmx : (cwd (encE (ent j)) b).length = (max (cwd (encE (ent i)) b).length (cwd (encE (ent j)) b).length) := by
               have := (nI_leI (by omega) (by omega)).1 c46
               omega
             rw [show nI (cwd (encE (ent j)) b).length = nI (max (cwd (encE (ent i)) b).length (cwd (encE (ent j)) b).length) from congrArg nI hmx]
             refine R_istore_6 rfl (by decide) dX12_alike_56 ?_
             refine R_iload_6 dX12_alike_58 ?_
             refine R_if_ne 65 dX12_alike_60 (by decide) (fun c60 => ?_) (fun c60 => ?_)
             · have hg : 0 < (max (cwd (encE (ent i)) b).length (cwd (encE (ent j)) b).length) := Nat.pos_of_ne_zero (fun q => c60 (by rw [q]; decide))
               have e : WL (lev (cwd (encE (ent i)) b) (cwd (encE (ent j)) b)) (max (cwd (encE (ent i)) b).length (cwd (encE (ent j)) b).length) = FP.fsub 1065353216 (FP.fdiv (FP.i2f (nI (lev (cwd (encE (ent i)) b) (cwd (encE (ent j)) b)))) (FP.i2f (nI (max (cwd (encE (ent i)) b).length (cwd (encE (ent j)) b).length)))) := if_neg (by omega)
               rw [e]
               have ok := wl_ok (by omega) hle hg
               refine R_aload_0 dX12_alike_65 ?_
               refine R_iload_1 dX12_alike_66 ?_
               refine R_iload_2 dX12_alike_67 ?_
               refine R_iload_3 dX12_alike_68 ?_
               refine R_callV (T := mX12_alike) (T' := mX12_apartOf) (As := [_, _, _]) (ci := 12) okX12_apartOf mlX12_182 rfl (by decide) sh_504 (ct_apartOf hR hE hEO hi hj b) rfl (by decide) (by decide) (Nat.le_of_ble_eq_true rfl) dX12_alike_69 (fun v9 S9 V1 h9 => ?_) (fun E S9 V9 h9 => h9.elim)
               obtain ⟨rfl, rfl, u4⟩ := h9
               refine R_i2f dX12_alike_72 ?_
               refine R_iload_6 dX12_alike_73 ?_
               refine R_i2f dX12_alike_75 ?_
               refine R_fdiv dX12_alike_76 ok.1 ?_
               refine R_fstore_7 rfl (by decide) dX12_alike_77 ?_
               refine R_fconst1 dX12_alike_79 ?_
               refine R_fload_7 dX12_alike_80 ?_
               refine R_fsub dX12_alike_82 ok.2 ?_
               refine R_fret rfl dX12_alike_83 ⟨rfl, rfl, u4⟩
             · have hg : (max (cwd (encE (ent i)) b).length (cwd (encE (ent j)) b).length) = 0 := nI_0of (by omega) c60
               have e : WL (lev (cwd (encE (ent i)) b) (cwd (encE (ent j)) b)) (max (cwd (encE (ent i)) b).length (cwd (encE (ent j)) b).length) = 1065353216 := if_pos hg
               rw [e]
               refine R_fconst1 dX12_alike_63 ?_
               refine R_fret rfl dX12_alike_64 ⟨rfl, rfl, fun _ _ => rfl⟩)
      · refine R_iload_4 dX12_alike_49 ?_
        refine R_goto 56 dX12_alike_51 (by decide) ?_
        first
          | (have hmx : (cwd (encE (ent i)) b).length = (max (cwd (encE (ent i)) b).length (cwd (encE (ent j)) b).length) := by
               have := (nI_ltI (by omega) (by omega)).1 (Int32.not_le.1 c46)
               omega
             rw [show nI (cwd (encE (ent i)) b).length = nI (max (cwd (encE (ent i)) b).length (cwd (encE (ent j)) b).length) from congrArg nI hmx]
             refine R_istore_6 rfl (by decide) dX12_alike_56 ?_
             refine R_iload_6 dX12_alike_58 ?_
             refine R_if_ne 65 dX12_alike_60 (by decide) (fun c60 => ?_) (fun c60 => ?_)
             · have hg : 0 < (max (cwd (encE (ent i)) b).length (cwd (encE (ent j)) b).length) := Nat.pos_of_ne_zero (fun q => c60 (by rw [q]; decide))
               have e : WL (lev (cwd (encE (ent i)) b) (cwd (encE (ent j)) b)) (max (cwd (encE (ent i)) b).length (cwd (encE (ent j)) b).length) = FP.fsub 1065353216 (FP.fdiv (FP.i2f (nI (lev (cwd (encE (ent i)) b) (cwd (encE (ent j)) b)))) (FP.i2f (nI (max (cwd (encE (ent i)) b).length (cwd (encE (ent j)) b).length)))) := if_neg (by omega)
               rw [e]
               have ok := wl_ok (by omega) hle hg
               refine R_aload_0 dX12_alike_65 ?_
               refine R_iload_1 dX12_alike_66 ?_
               refine R_iload_2 dX12_alike_67 ?_
               refine R_iload_3 dX12_alike_68 ?_
               refine R_callV (T := mX12_alike) (T' := mX12_apartOf) (As := [_, _, _]) (ci := 12) okX12_apartOf mlX12_182 rfl (by decide) sh_504 (ct_apartOf hR hE hEO hi hj b) rfl (by decide) (by decide) (Nat.le_of_ble_eq_true rfl) dX12_alike_69 (fun v9 S9 V1 h9 => ?_) (fun E S9 V9 h9 => h9.elim)
               obtain ⟨rfl, rfl, u4⟩ := h9
               refine R_i2f dX12_alike_72 ?_
               refine R_iload_6 dX12_alike_73 ?_
               refine R_i2f dX12_alike_75 ?_
               refine R_fdiv dX12_alike_76 ok.1 ?_
               refine R_fstore_7 rfl (by decide) dX12_alike_77 ?_
               refine R_fconst1 dX12_alike_79 ?_
               refine R_fload_7 dX12_alike_80 ?_
               refine R_fsub dX12_alike_82 ok.2 ?_
               refine R_fret rfl dX12_alike_83 ⟨rfl, rfl, u4⟩
             · have hg : (max (cwd (encE (ent i)) b).length (cwd (encE (ent j)) b).length) = 0 := nI_0of (by omega) c60
               have e : WL (lev (cwd (encE (ent i)) b) (cwd (encE (ent j)) b)) (max (cwd (encE (ent i)) b).length (cwd (encE (ent j)) b).length) = 1065353216 := if_pos hg
               rw [e]
               refine R_fconst1 dX12_alike_63 ?_
               refine R_fret rfl dX12_alike_64 ⟨rfl, rfl, fun _ _ => rfl⟩)
          | (have hmx : (cwd (encE (ent j)) b).length = (max (cwd (encE (ent i)) b).length (cwd (encE (ent j)) b).length) := by
               have := (nI_leI (by omega) (by omega)).1 c46
               omega
             rw [show nI (cwd (encE (ent j)) b).length = nI (max (cwd (encE (ent i)) b).length (cwd (encE (ent j)) b).length) from congrArg nI hmx]
             refine R_istore_6 rfl (by decide) dX12_alike_56 ?_
             refine R_iload_6 dX12_alike_58 ?_
             refine R_if_ne 65 dX12_alike_60 (by decide) (fun c60 => ?_) (fun c60 => ?_)
             · have hg : 0 < (max (cwd (encE (ent i)) b).length (cwd (encE (ent j)) b).length) := Nat.pos_of_ne_zero (fun q => c60 (by rw [q]; decide))
               have e : WL (lev (cwd (encE (ent i)) b) (cwd (encE (ent j)) b)) (max (cwd (encE (ent i)) b).length (cwd (encE (ent j)) b).length) = FP.fsub 1065353216 (FP.fdiv (FP.i2f (nI (lev (cwd (encE (ent i)) b) (cwd (encE (ent j)) b)))) (FP.i2f (nI (max (cwd (encE (ent i)) b).length (cwd (encE (ent j)) b).length)))) := if_neg (by omega)
               rw [e]
               have ok := wl_ok (by omega) hle hg
               refine R_aload_0 dX12_alike_65 ?_
               refine R_iload_1 dX12_alike_66 ?_
               refine R_iload_2 dX12_alike_67 ?_
               refine R_iload_3 dX12_alike_68 ?_
               refine R_callV (T := mX12_alike) (T' := mX12_apartOf) (As := [_, _, _]) (ci := 12) okX12_apartOf mlX12_182 rfl (by decide) sh_504 (ct_apartOf hR hE hEO hi hj b) rfl (by decide) (by decide) (Nat.le_of_ble_eq_true rfl) dX12_alike_69 (fun v9 S9 V1 h9 => ?_) (fun E S9 V9 h9 => h9.elim)
               obtain ⟨rfl, rfl, u4⟩ := h9
               refine R_i2f dX12_alike_72 ?_
               refine R_iload_6 dX12_alike_73 ?_
               refine R_i2f dX12_alike_75 ?_
               refine R_fdiv dX12_alike_76 ok.1 ?_
               refine R_fstore_7 rfl (by decide) dX12_alike_77 ?_
               refine R_fconst1 dX12_alike_79 ?_
               refine R_fload_7 dX12_alike_80 ?_
               refine R_fsub dX12_alike_82 ok.2 ?_
               refine R_fret rfl dX12_alike_83 ⟨rfl, rfl, u4⟩
             · have hg : (max (cwd (encE (ent i)) b).length (cwd (encE (ent j)) b).length) = 0 := nI_0of (by omega) c60
               have e : WL (lev (cwd (encE (ent i)) b) (cwd (encE (ent j)) b)) (max (cwd (encE (ent i)) b).length (cwd (encE (ent j)) b).length) = 1065353216 := if_pos hg
               rw [e]
               refine R_fconst1 dX12_alike_63 ?_
               refine R_fret rfl dX12_alike_64 ⟨rfl, rfl, fun _ _ => rfl⟩)
  · refine R_aload_0 dX12_alike_4 ?_
    refine gfX12_40 rfl dX12_alike_5 sh_504 (by first | exact hR.g (k := 13) (a := 515) (by decide) | exact (a_up_ne (by omega)).trans (hR.g (k := 13) (a := 515) (by decide)) | exact (a_up_ne (by omega)).trans ((a_up_ne (by omega)).trans (hR.g (k := 13) (a := 515) (by decide))) | exact (a_up_ne (by omega)).trans ((a_up_ne (by omega)).trans ((a_up_ne (by omega)).trans (hR.g (k := 13) (a := 515) (by decide)))) | exact (a_up_ne (by omega)).trans ((a_up_ne (by omega)).trans ((a_up_ne (by omega)).trans ((a_up_ne (by omega)).trans (hR.g (k := 13) (a := 515) (by decide))))) | exact (a_up_ne (by omega)).trans ((a_up_ne (by omega)).trans ((a_up_ne (by omega)).trans ((a_up_ne (by omega)).trans ((a_up_ne (by omega)).trans (hR.g (k := 13) (a := 515) (by decide)))))) | exact (a_up_ne (by omega)).trans ((a_up_ne (by omega)).trans ((a_up_ne (by omega)).trans ((a_up_ne (by omega)).trans ((a_up_ne (by omega)).trans ((a_up_ne (by omega)).trans (hR.g (k := 13) (a := 515) (by decide)))))))) ?_
    refine R_iload_1 dX12_alike_8 ?_
    refine R_ialdE dX12_alike_9 sh_515 rfl (by omega) (by decide) ((hE.2 i hi).cs c1).1 ?_
    refine R_goto 19 dX12_alike_10 (by decide) ?_
    refine R_istore_4 rfl (by decide) dX12_alike_19 ?_
    refine R_iload_3 dX12_alike_21 ?_
    refine R_if_eq 34 dX12_alike_22 (by decide) (fun c22 => ?_) (fun c22 => ?_)
    · refine R_aload_0 dX12_alike_34 ?_
      refine gfX12_34 rfl dX12_alike_35 sh_504 (by first | exact hR.g (k := 11) (a := 513) (by decide) | exact (a_up_ne (by omega)).trans (hR.g (k := 11) (a := 513) (by decide)) | exact (a_up_ne (by omega)).trans ((a_up_ne (by omega)).trans (hR.g (k := 11) (a := 513) (by decide))) | exact (a_up_ne (by omega)).trans ((a_up_ne (by omega)).trans ((a_up_ne (by omega)).trans (hR.g (k := 11) (a := 513) (by decide)))) | exact (a_up_ne (by omega)).trans ((a_up_ne (by omega)).trans ((a_up_ne (by omega)).trans ((a_up_ne (by omega)).trans (hR.g (k := 11) (a := 513) (by decide))))) | exact (a_up_ne (by omega)).trans ((a_up_ne (by omega)).trans ((a_up_ne (by omega)).trans ((a_up_ne (by omega)).trans ((a_up_ne (by omega)).trans (hR.g (k := 11) (a := 513) (by decide)))))) | exact (a_up_ne (by omega)).trans ((a_up_ne (by omega)).trans ((a_up_ne (by omega)).trans ((a_up_ne (by omega)).trans ((a_up_ne (by omega)).trans ((a_up_ne (by omega)).trans (hR.g (k := 11) (a := 513) (by decide)))))))) ?_
      refine R_iload_2 dX12_alike_38 ?_
      refine R_ialdE dX12_alike_39 sh_513 rfl (by omega) (by decide) ((hE.2 j hj).cw c22).1 ?_
      refine R_istore_5 rfl (by decide) dX12_alike_40 ?_
      refine R_iload_4 dX12_alike_42 ?_
      refine R_iload_5 dX12_alike_44 ?_
      refine R_icmp_le 54 dX12_alike_46 (by decide) (fun c46 => ?_) (fun c46 => ?_)
      · refine R_iload_5 dX12_alike_54 ?_
        first
          | (have hmx : (cwd (encE (ent i)) b).length = (max (cwd (encE (ent i)) b).length (cwd (encE (ent j)) b).length) := by
               have := (nI_ltI (by omega) (by omega)).1 (Int32.not_le.1 c46)
               omega
             rw [show nI (cwd (encE (ent i)) b).length = nI (max (cwd (encE (ent i)) b).length (cwd (encE (ent j)) b).length) from congrArg nI hmx]
             refine R_istore_6 rfl (by decide) dX12_alike_56 ?_
             refine R_iload_6 dX12_alike_58 ?_
             refine R_if_ne 65 dX12_alike_60 (by decide) (fun c60 => ?_) (fun c60 => ?_)
             · have hg : 0 < (max (cwd (encE (ent i)) b).length (cwd (encE (ent j)) b).length) := Nat.pos_of_ne_zero (fun q => c60 (by rw [q]; decide))
               have e : WL (lev (cwd (encE (ent i)) b) (cwd (encE (ent j)) b)) (max (cwd (encE (ent i)) b).length (cwd (encE (ent j)) b).length) = FP.fsub 1065353216 (FP.fdiv (FP.i2f (nI (lev (cwd (encE (ent i)) b) (cwd (encE (ent j)) b)))) (FP.i2f (nI (max (cwd (encE (ent i)) b).length (cwd (encE (ent j)) b).length)))) := if_neg (by omega)
               rw [e]
               have ok := wl_ok (by omega) hle hg
               refine R_aload_0 dX12_alike_65 ?_
               refine R_iload_1 dX12_alike_66 ?_
               refine R_iload_2 dX12_alike_67 ?_
               refine R_iload_3 dX12_alike_68 ?_
               refine R_callV (T := mX12_alike) (T' := mX12_apartOf) (As := [_, _, _]) (ci := 12) okX12_apartOf mlX12_182 rfl (by decide) sh_504 (ct_apartOf hR hE hEO hi hj b) rfl (by decide) (by decide) (Nat.le_of_ble_eq_true rfl) dX12_alike_69 (fun v9 S9 V1 h9 => ?_) (fun E S9 V9 h9 => h9.elim)
               obtain ⟨rfl, rfl, u4⟩ := h9
               refine R_i2f dX12_alike_72 ?_
               refine R_iload_6 dX12_alike_73 ?_
               refine R_i2f dX12_alike_75 ?_
               refine R_fdiv dX12_alike_76 ok.1 ?_
               refine R_fstore_7 rfl (by decide) dX12_alike_77 ?_
               refine R_fconst1 dX12_alike_79 ?_
               refine R_fload_7 dX12_alike_80 ?_
               refine R_fsub dX12_alike_82 ok.2 ?_
               refine R_fret rfl dX12_alike_83 ⟨rfl, rfl, u4⟩
             · have hg : (max (cwd (encE (ent i)) b).length (cwd (encE (ent j)) b).length) = 0 := nI_0of (by omega) c60
               have e : WL (lev (cwd (encE (ent i)) b) (cwd (encE (ent j)) b)) (max (cwd (encE (ent i)) b).length (cwd (encE (ent j)) b).length) = 1065353216 := if_pos hg
               rw [e]
               refine R_fconst1 dX12_alike_63 ?_
               refine R_fret rfl dX12_alike_64 ⟨rfl, rfl, fun _ _ => rfl⟩)
          | (have hmx : (cwd (encE (ent j)) b).length = (max (cwd (encE (ent i)) b).length (cwd (encE (ent j)) b).length) := by
               have := (nI_leI (by omega) (by omega)).1 c46
               omega
             rw [show nI (cwd (encE (ent j)) b).length = nI (max (cwd (encE (ent i)) b).length (cwd (encE (ent j)) b).length) from congrArg nI hmx]
             refine R_istore_6 rfl (by decide) dX12_alike_56 ?_
             refine R_iload_6 dX12_alike_58 ?_
             refine R_if_ne 65 dX12_alike_60 (by decide) (fun c60 => ?_) (fun c60 => ?_)
             · have hg : 0 < (max (cwd (encE (ent i)) b).length (cwd (encE (ent j)) b).length) := Nat.pos_of_ne_zero (fun q => c60 (by rw [q]; decide))
               have e : WL (lev (cwd (encE (ent i)) b) (cwd (encE (ent j)) b)) (max (cwd (encE (ent i)) b).length (cwd (encE (ent j)) b).length) = FP.fsub 1065353216 (FP.fdiv (FP.i2f (nI (lev (cwd (encE (ent i)) b) (cwd (encE (ent j)) b)))) (FP.i2f (nI (max (cwd (encE (ent i)) b).length (cwd (encE (ent j)) b).length)))) := if_neg (by omega)
               rw [e]
               have ok := wl_ok (by omega) hle hg
               refine R_aload_0 dX12_alike_65 ?_
               refine R_iload_1 dX12_alike_66 ?_
               refine R_iload_2 dX12_alike_67 ?_
               refine R_iload_3 dX12_alike_68 ?_
               refine R_callV (T := mX12_alike) (T' := mX12_apartOf) (As := [_, _, _]) (ci := 12) okX12_apartOf mlX12_182 rfl (by decide) sh_504 (ct_apartOf hR hE hEO hi hj b) rfl (by decide) (by decide) (Nat.le_of_ble_eq_true rfl) dX12_alike_69 (fun v9 S9 V1 h9 => ?_) (fun E S9 V9 h9 => h9.elim)
               obtain ⟨rfl, rfl, u4⟩ := h9
               refine R_i2f dX12_alike_72 ?_
               refine R_iload_6 dX12_alike_73 ?_
               refine R_i2f dX12_alike_75 ?_
               refine R_fdiv dX12_alike_76 ok.1 ?_
               refine R_fstore_7 rfl (by decide) dX12_alike_77 ?_
               refine R_fconst1 dX12_alike_79 ?_
               refine R_fload_7 dX12_alike_80 ?_
               refine R_fsub dX12_alike_82 ok.2 ?_
               refine R_fret rfl dX12_alike_83 ⟨rfl, rfl, u4⟩
             · have hg : (max (cwd (encE (ent i)) b).length (cwd (encE (ent j)) b).length) = 0 := nI_0of (by omega) c60
               have e : WL (lev (cwd (encE (ent i)) b) (cwd (encE (ent j)) b)) (max (cwd (encE (ent i)) b).length (cwd (encE (ent j)) b).length) = 1065353216 := if_pos hg
               rw [e]
               refine R_fconst1 dX12_alike_63 ?_
               refine R_fret rfl dX12_alike_64 ⟨rfl, rfl, fun _ _ => rfl⟩)
      · refine R_iload_4 dX12_alike_49 ?_
        refine R_goto 56 dX12_alike_51 (by decide) ?_
        first
          | (have hmx : (cwd (encE (ent i)) b).length = (max (cwd (encE (ent i)) b).length (cwd (encE (ent j)) b).length) := by
               have := (nI_ltI (by omega) (by omega)).1 (Int32.not_le.1 c46)
               omega
             rw [show nI (cwd (encE (ent i)) b).length = nI (max (cwd (encE (ent i)) b).length (cwd (encE (ent j)) b).length) from congrArg nI hmx]
             refine R_istore_6 rfl (by decide) dX12_alike_56 ?_
             refine R_iload_6 dX12_alike_58 ?_
             refine R_if_ne 65 dX12_alike_60 (by decide) (fun c60 => ?_) (fun c60 => ?_)
             · have hg : 0 < (max (cwd (encE (ent i)) b).length (cwd (encE (ent j)) b).length) := Nat.pos_of_ne_zero (fun q => c60 (by rw [q]; decide))
               have e : WL (lev (cwd (encE (ent i)) b) (cwd (encE (ent j)) b)) (max (cwd (encE (ent i)) b).length (cwd (encE (ent j)) b).length) = FP.fsub 1065353216 (FP.fdiv (FP.i2f (nI (lev (cwd (encE (ent i)) b) (cwd (encE (ent j)) b)))) (FP.i2f (nI (max (cwd (encE (ent i)) b).length (cwd (encE (ent j)) b).length)))) := if_neg (by omega)
               rw [e]
               have ok := wl_ok (by omega) hle hg
               refine R_aload_0 dX12_alike_65 ?_
               refine R_iload_1 dX12_alike_66 ?_
               refine R_iload_2 dX12_alike_67 ?_
               refine R_iload_3 dX12_alike_68 ?_
               refine R_callV (T := mX12_alike) (T' := mX12_apartOf) (As := [_, _, _]) (ci := 12) okX12_apartOf mlX12_182 rfl (by decide) sh_504 (ct_apartOf hR hE hEO hi hj b) rfl (by decide) (by decide) (Nat.le_of_ble_eq_true rfl) dX12_alike_69 (fun v9 S9 V1 h9 => ?_) (fun E S9 V9 h9 => h9.elim)
               obtain ⟨rfl, rfl, u4⟩ := h9
               refine R_i2f dX12_alike_72 ?_
               refine R_iload_6 dX12_alike_73 ?_
               refine R_i2f dX12_alike_75 ?_
               refine R_fdiv dX12_alike_76 ok.1 ?_
               refine R_fstore_7 rfl (by decide) dX12_alike_77 ?_
               refine R_fconst1 dX12_alike_79 ?_
               refine R_fload_7 dX12_alike_80 ?_
               refine R_fsub dX12_alike_82 ok.2 ?_
               refine R_fret rfl dX12_alike_83 ⟨rfl, rfl, u4⟩
             · have hg : (max (cwd (encE (ent i)) b).length (cwd (encE (ent j)) b).length) = 0 := nI_0of (by omega) c60
               have e : WL (lev (cwd (encE (ent i)) b) (cwd (encE (ent j)) b)) (max (cwd (encE (ent i)) b).length (cwd (encE (ent j)) b).length) = 1065353216 := if_pos hg
               rw [e]
               refine R_fconst1 dX12_alike_63 ?_
               refine R_fret rfl dX12_alike_64 ⟨rfl, rfl, fun _ _ => rfl⟩)
          | (have hmx : (cwd (encE (ent j)) b).length = (max (cwd (encE (ent i)) b).length (cwd (encE (ent j)) b).length) := by
               have := (nI_leI (by omega) (by omega)).1 c46
               omega
             rw [show nI (cwd (encE (ent j)) b).length = nI (max (cwd (encE (ent i)) b).length (cwd (encE (ent j)) b).length) from congrArg nI hmx]
             refine R_istore_6 rfl (by decide) dX12_alike_56 ?_
             refine R_iload_6 dX12_alike_58 ?_
             refine R_if_ne 65 dX12_alike_60 (by decide) (fun c60 => ?_) (fun c60 => ?_)
             · have hg : 0 < (max (cwd (encE (ent i)) b).length (cwd (encE (ent j)) b).length) := Nat.pos_of_ne_zero (fun q => c60 (by rw [q]; decide))
               have e : WL (lev (cwd (encE (ent i)) b) (cwd (encE (ent j)) b)) (max (cwd (encE (ent i)) b).length (cwd (encE (ent j)) b).length) = FP.fsub 1065353216 (FP.fdiv (FP.i2f (nI (lev (cwd (encE (ent i)) b) (cwd (encE (ent j)) b)))) (FP.i2f (nI (max (cwd (encE (ent i)) b).length (cwd (encE (ent j)) b).length)))) := if_neg (by omega)
               rw [e]
               have ok := wl_ok (by omega) hle hg
               refine R_aload_0 dX12_alike_65 ?_
               refine R_iload_1 dX12_alike_66 ?_
               refine R_iload_2 dX12_alike_67 ?_
               refine R_iload_3 dX12_alike_68 ?_
               refine R_callV (T := mX12_alike) (T' := mX12_apartOf) (As := [_, _, _]) (ci := 12) okX12_apartOf mlX12_182 rfl (by decide) sh_504 (ct_apartOf hR hE hEO hi hj b) rfl (by decide) (by decide) (Nat.le_of_ble_eq_true rfl) dX12_alike_69 (fun v9 S9 V1 h9 => ?_) (fun E S9 V9 h9 => h9.elim)
               obtain ⟨rfl, rfl, u4⟩ := h9
               refine R_i2f dX12_alike_72 ?_
               refine R_iload_6 dX12_alike_73 ?_
               refine R_i2f dX12_alike_75 ?_
               refine R_fdiv dX12_alike_76 ok.1 ?_
               refine R_fstore_7 rfl (by decide) dX12_alike_77 ?_
               refine R_fconst1 dX12_alike_79 ?_
               refine R_fload_7 dX12_alike_80 ?_
               refine R_fsub dX12_alike_82 ok.2 ?_
               refine R_fret rfl dX12_alike_83 ⟨rfl, rfl, u4⟩
             · have hg : (max (cwd (encE (ent i)) b).length (cwd (encE (ent j)) b).length) = 0 := nI_0of (by omega) c60
               have e : WL (lev (cwd (encE (ent i)) b) (cwd (encE (ent j)) b)) (max (cwd (encE (ent i)) b).length (cwd (encE (ent j)) b).length) = 1065353216 := if_pos hg
               rw [e]
               refine R_fconst1 dX12_alike_63 ?_
               refine R_fret rfl dX12_alike_64 ⟨rfl, rfl, fun _ _ => rfl⟩)
    · refine R_aload_0 dX12_alike_25 ?_
      refine gfX12_40 rfl dX12_alike_26 sh_504 (by first | exact hR.g (k := 13) (a := 515) (by decide) | exact (a_up_ne (by omega)).trans (hR.g (k := 13) (a := 515) (by decide)) | exact (a_up_ne (by omega)).trans ((a_up_ne (by omega)).trans (hR.g (k := 13) (a := 515) (by decide))) | exact (a_up_ne (by omega)).trans ((a_up_ne (by omega)).trans ((a_up_ne (by omega)).trans (hR.g (k := 13) (a := 515) (by decide)))) | exact (a_up_ne (by omega)).trans ((a_up_ne (by omega)).trans ((a_up_ne (by omega)).trans ((a_up_ne (by omega)).trans (hR.g (k := 13) (a := 515) (by decide))))) | exact (a_up_ne (by omega)).trans ((a_up_ne (by omega)).trans ((a_up_ne (by omega)).trans ((a_up_ne (by omega)).trans ((a_up_ne (by omega)).trans (hR.g (k := 13) (a := 515) (by decide)))))) | exact (a_up_ne (by omega)).trans ((a_up_ne (by omega)).trans ((a_up_ne (by omega)).trans ((a_up_ne (by omega)).trans ((a_up_ne (by omega)).trans ((a_up_ne (by omega)).trans (hR.g (k := 13) (a := 515) (by decide)))))))) ?_
      refine R_iload_2 dX12_alike_29 ?_
      refine R_ialdE dX12_alike_30 sh_515 rfl (by omega) (by decide) ((hE.2 j hj).cs c22).1 ?_
      refine R_goto 40 dX12_alike_31 (by decide) ?_
      refine R_istore_5 rfl (by decide) dX12_alike_40 ?_
      refine R_iload_4 dX12_alike_42 ?_
      refine R_iload_5 dX12_alike_44 ?_
      refine R_icmp_le 54 dX12_alike_46 (by decide) (fun c46 => ?_) (fun c46 => ?_)
      · refine R_iload_5 dX12_alike_54 ?_
        first
          | (have hmx : (cwd (encE (ent i)) b).length = (max (cwd (encE (ent i)) b).length (cwd (encE (ent j)) b).length) := by
               have := (nI_ltI (by omega) (by omega)).1 (Int32.not_le.1 c46)
               omega
             rw [show nI (cwd (encE (ent i)) b).length = nI (max (cwd (encE (ent i)) b).length (cwd (encE (ent j)) b).length) from congrArg nI hmx]
             refine R_istore_6 rfl (by decide) dX12_alike_56 ?_
             refine R_iload_6 dX12_alike_58 ?_
             refine R_if_ne 65 dX12_alike_60 (by decide) (fun c60 => ?_) (fun c60 => ?_)
             · have hg : 0 < (max (cwd (encE (ent i)) b).length (cwd (encE (ent j)) b).length) := Nat.pos_of_ne_zero (fun q => c60 (by rw [q]; decide))
               have e : WL (lev (cwd (encE (ent i)) b) (cwd (encE (ent j)) b)) (max (cwd (encE (ent i)) b).length (cwd (encE (ent j)) b).length) = FP.fsub 1065353216 (FP.fdiv (FP.i2f (nI (lev (cwd (encE (ent i)) b) (cwd (encE (ent j)) b)))) (FP.i2f (nI (max (cwd (encE (ent i)) b).length (cwd (encE (ent j)) b).length)))) := if_neg (by omega)
               rw [e]
               have ok := wl_ok (by omega) hle hg
               refine R_aload_0 dX12_alike_65 ?_
               refine R_iload_1 dX12_alike_66 ?_
               refine R_iload_2 dX12_alike_67 ?_
               refine R_iload_3 dX12_alike_68 ?_
               refine R_callV (T := mX12_alike) (T' := mX12_apartOf) (As := [_, _, _]) (ci := 12) okX12_apartOf mlX12_182 rfl (by decide) sh_504 (ct_apartOf hR hE hEO hi hj b) rfl (by decide) (by decide) (Nat.le_of_ble_eq_true rfl) dX12_alike_69 (fun v9 S9 V1 h9 => ?_) (fun E S9 V9 h9 => h9.elim)
               obtain ⟨rfl, rfl, u4⟩ := h9
               refine R_i2f dX12_alike_72 ?_
               refine R_iload_6 dX12_alike_73 ?_
               refine R_i2f dX12_alike_75 ?_
               refine R_fdiv dX12_alike_76 ok.1 ?_
               refine R_fstore_7 rfl (by decide) dX12_alike_77 ?_
               refine R_fconst1 dX12_alike_79 ?_
               refine R_fload_7 dX12_alike_80 ?_
               refine R_fsub dX12_alike_82 ok.2 ?_
               refine R_fret rfl dX12_alike_83 ⟨rfl, rfl, u4⟩
             · have hg : (max (cwd (encE (ent i)) b).length (cwd (encE (ent j)) b).length) = 0 := nI_0of (by omega) c60
               have e : WL (lev (cwd (encE (ent i)) b) (cwd (encE (ent j)) b)) (max (cwd (encE (ent i)) b).length (cwd (encE (ent j)) b).length) = 1065353216 := if_pos hg
               rw [e]
               refine R_fconst1 dX12_alike_63 ?_
               refine R_fret rfl dX12_alike_64 ⟨rfl, rfl, fun _ _ => rfl⟩)
          | (have hmx : (cwd (encE (ent j)) b).length = (max (cwd (encE (ent i)) b).length (cwd (encE (ent j)) b).length) := by
               have := (nI_leI (by omega) (by omega)).1 c46
               omega
             rw [show nI (cwd (encE (ent j)) b).length = nI (max (cwd (encE (ent i)) b).length (cwd (encE (ent j)) b).length) from congrArg nI hmx]
             refine R_istore_6 rfl (by decide) dX12_alike_56 ?_
             refine R_iload_6 dX12_alike_58 ?_
             refine R_if_ne 65 dX12_alike_60 (by decide) (fun c60 => ?_) (fun c60 => ?_)
             · have hg : 0 < (max (cwd (encE (ent i)) b).length (cwd (encE (ent j)) b).length) := Nat.pos_of_ne_zero (fun q => c60 (by rw [q]; decide))
               have e : WL (lev (cwd (encE (ent i)) b) (cwd (encE (ent j)) b)) (max (cwd (encE (ent i)) b).length (cwd (encE (ent j)) b).length) = FP.fsub 1065353216 (FP.fdiv (FP.i2f (nI (lev (cwd (encE (ent i)) b) (cwd (encE (ent j)) b)))) (FP.i2f (nI (max (cwd (encE (ent i)) b).length (cwd (encE (ent j)) b).length)))) := if_neg (by omega)
               rw [e]
               have ok := wl_ok (by omega) hle hg
               refine R_aload_0 dX12_alike_65 ?_
               refine R_iload_1 dX12_alike_66 ?_
               refine R_iload_2 dX12_alike_67 ?_
               refine R_iload_3 dX12_alike_68 ?_
               refine R_callV (T := mX12_alike) (T' := mX12_apartOf) (As := [_, _, _]) (ci := 12) okX12_apartOf mlX12_182 rfl (by decide) sh_504 (ct_apartOf hR hE hEO hi hj b) rfl (by decide) (by decide) (Nat.le_of_ble_eq_true rfl) dX12_alike_69 (fun v9 S9 V1 h9 => ?_) (fun E S9 V9 h9 => h9.elim)
               obtain ⟨rfl, rfl, u4⟩ := h9
               refine R_i2f dX12_alike_72 ?_
               refine R_iload_6 dX12_alike_73 ?_
               refine R_i2f dX12_alike_75 ?_
               refine R_fdiv dX12_alike_76 ok.1 ?_
               refine R_fstore_7 rfl (by decide) dX12_alike_77 ?_
               refine R_fconst1 dX12_alike_79 ?_
               refine R_fload_7 dX12_alike_80 ?_
               refine R_fsub dX12_alike_82 ok.2 ?_
               refine R_fret rfl dX12_alike_83 ⟨rfl, rfl, u4⟩
             · have hg : (max (cwd (encE (ent i)) b).length (cwd (encE (ent j)) b).length) = 0 := nI_0of (by omega) c60
               have e : WL (lev (cwd (encE (ent i)) b) (cwd (encE (ent j)) b)) (max (cwd (encE (ent i)) b).length (cwd (encE (ent j)) b).length) = 1065353216 := if_pos hg
               rw [e]
               refine R_fconst1 dX12_alike_63 ?_
               refine R_fret rfl dX12_alike_64 ⟨rfl, rfl, fun _ _ => rfl⟩)
      · refine R_iload_4 dX12_alike_49 ?_
        refine R_goto 56 dX12_alike_51 (by decide) ?_
        first
          | (have hmx : (cwd (encE (ent i)) b).length = (max (cwd (encE (ent i)) b).length (cwd (encE (ent j)) b).length) := by
               have := (nI_ltI (by omega) (by omega)).1 (Int32.not_le.1 c46)
               omega
             rw [show nI (cwd (encE (ent i)) b).length = nI (max (cwd (encE (ent i)) b).length (cwd (encE (ent j)) b).length) from congrArg nI hmx]
             refine R_istore_6 rfl (by decide) dX12_alike_56 ?_
             refine R_iload_6 dX12_alike_58 ?_
             refine R_if_ne 65 dX12_alike_60 (by decide) (fun c60 => ?_) (fun c60 => ?_)
             · have hg : 0 < (max (cwd (encE (ent i)) b).length (cwd (encE (ent j)) b).length) := Nat.pos_of_ne_zero (fun q => c60 (by rw [q]; decide))
               have e : WL (lev (cwd (encE (ent i)) b) (cwd (encE (ent j)) b)) (max (cwd (encE (ent i)) b).length (cwd (encE (ent j)) b).length) = FP.fsub 1065353216 (FP.fdiv (FP.i2f (nI (lev (cwd (encE (ent i)) b) (cwd (encE (ent j)) b)))) (FP.i2f (nI (max (cwd (encE (ent i)) b).length (cwd (encE (ent j)) b).length)))) := if_neg (by omega)
               rw [e]
               have ok := wl_ok (by omega) hle hg
               refine R_aload_0 dX12_alike_65 ?_
               refine R_iload_1 dX12_alike_66 ?_
               refine R_iload_2 dX12_alike_67 ?_
               refine R_iload_3 dX12_alike_68 ?_
               refine R_callV (T := mX12_alike) (T' := mX12_apartOf) (As := [_, _, _]) (ci := 12) okX12_apartOf mlX12_182 rfl (by decide) sh_504 (ct_apartOf hR hE hEO hi hj b) rfl (by decide) (by decide) (Nat.le_of_ble_eq_true rfl) dX12_alike_69 (fun v9 S9 V1 h9 => ?_) (fun E S9 V9 h9 => h9.elim)
               obtain ⟨rfl, rfl, u4⟩ := h9
               refine R_i2f dX12_alike_72 ?_
               refine R_iload_6 dX12_alike_73 ?_
               refine R_i2f dX12_alike_75 ?_
               refine R_fdiv dX12_alike_76 ok.1 ?_
               refine R_fstore_7 rfl (by decide) dX12_alike_77 ?_
               refine R_fconst1 dX12_alike_79 ?_
               refine R_fload_7 dX12_alike_80 ?_
               refine R_fsub dX12_alike_82 ok.2 ?_
               refine R_fret rfl dX12_alike_83 ⟨rfl, rfl, u4⟩
             · have hg : (max (cwd (encE (ent i)) b).length (cwd (encE (ent j)) b).length) = 0 := nI_0of (by omega) c60
               have e : WL (lev (cwd (encE (ent i)) b) (cwd (encE (ent j)) b)) (max (cwd (encE (ent i)) b).length (cwd (encE (ent j)) b).length) = 1065353216 := if_pos hg
               rw [e]
               refine R_fconst1 dX12_alike_63 ?_
               refine R_fret rfl dX12_alike_64 ⟨rfl, rfl, fun _ _ => rfl⟩)
          | (have hmx : (cwd (encE (ent j)) b).length = (max (cwd (encE (ent i)) b).length (cwd (encE (ent j)) b).length) := by
               have := (nI_leI (by omega) (by omega)).1 c46
               omega
             rw [show nI (cwd (encE (ent j)) b).length = nI (max (cwd (encE (ent i)) b).length (cwd (encE (ent j)) b).length) from congrArg nI hmx]
             refine R_istore_6 rfl (by decide) dX12_alike_56 ?_
             refine R_iload_6 dX12_alike_58 ?_
             refine R_if_ne 65 dX12_alike_60 (by decide) (fun c60 => ?_) (fun c60 => ?_)
             · have hg : 0 < (max (cwd (encE (ent i)) b).length (cwd (encE (ent j)) b).length) := Nat.pos_of_ne_zero (fun q => c60 (by rw [q]; decide))
               have e : WL (lev (cwd (encE (ent i)) b) (cwd (encE (ent j)) b)) (max (cwd (encE (ent i)) b).length (cwd (encE (ent j)) b).length) = FP.fsub 1065353216 (FP.fdiv (FP.i2f (nI (lev (cwd (encE (ent i)) b) (cwd (encE (ent j)) b)))) (FP.i2f (nI (max (cwd (encE (ent i)) b).length (cwd (encE (ent j)) b).length)))) := if_neg (by omega)
               rw [e]
               have ok := wl_ok (by omega) hle hg
               refine R_aload_0 dX12_alike_65 ?_
               refine R_iload_1 dX12_alike_66 ?_
               refine R_iload_2 dX12_alike_67 ?_
               refine R_iload_3 dX12_alike_68 ?_
               refine R_callV (T := mX12_alike) (T' := mX12_apartOf) (As := [_, _, _]) (ci := 12) okX12_apartOf mlX12_182 rfl (by decide) sh_504 (ct_apartOf hR hE hEO hi hj b) rfl (by decide) (by decide) (Nat.le_of_ble_eq_true rfl) dX12_alike_69 (fun v9 S9 V1 h9 => ?_) (fun E S9 V9 h9 => h9.elim)
               obtain ⟨rfl, rfl, u4⟩ := h9
               refine R_i2f dX12_alike_72 ?_
               refine R_iload_6 dX12_alike_73 ?_
               refine R_i2f dX12_alike_75 ?_
               refine R_fdiv dX12_alike_76 ok.1 ?_
               refine R_fstore_7 rfl (by decide) dX12_alike_77 ?_
               refine R_fconst1 dX12_alike_79 ?_
               refine R_fload_7 dX12_alike_80 ?_
               refine R_fsub dX12_alike_82 ok.2 ?_
               refine R_fret rfl dX12_alike_83 ⟨rfl, rfl, u4⟩
             · have hg : (max (cwd (encE (ent i)) b).length (cwd (encE (ent j)) b).length) = 0 := nI_0of (by omega) c60
               have e : WL (lev (cwd (encE (ent i)) b) (cwd (encE (ent j)) b)) (max (cwd (encE (ent i)) b).length (cwd (encE (ent j)) b).length) = 1065353216 := if_pos hg
               rw [e]
               refine R_fconst1 dX12_alike_63 ?_
               refine R_fret rfl dX12_alike_64 ⟨rfl, rfl, fun _ _ => rfl⟩)

