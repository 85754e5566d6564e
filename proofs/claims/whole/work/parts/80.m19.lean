/-! ===== MergePostModel: make ===== -/
/-- the levels of a trouble -/
def TRl (V : aV) (l c : Nat) (lv : List (Nat × Nat)) : Prop := V 504 33 = .int (nI c) ∧ V 504 35 = .int (nI (l + lv.length)) ∧ l + lv.length ≤ 5 ∧ ∀ j, j < lv.length → V 530 (l + j) = .int (nI (lv.getD j (0, 0)).1) ∧ V 531 (l + j) = .int (nI (lv.getD j (0, 0)).2)
theorem TRo.l {V : aV} {l n p c : Nat} (h : TRo V l n p c) (hl : l < 5) : TRl V l c [(n, p)] := ⟨h.1, h.2.1, hl, fun j hj => by
  have hj' : j = 0 := by have : [(n, p)].length = 1 := rfl; omega
  subst hj'
  exact ⟨h.2.2.1, h.2.2.2⟩⟩
theorem TRl.up {V : aV} {l n p c : Nat} {lv : List (Nat × Nat)} (h : TRl V (l + 1) c lv) (h0 : V 530 l = .int (nI n)) (h1 : V 531 l = .int (nI p)) : TRl V l c ((n, p) :: lv) := ⟨h.1, h.2.1.trans (by rw [List.length_cons]; congr 2; omega), by rw [List.length_cons]; have := h.2.2.1; omega, fun j hj => by
  cases j with
  | zero => exact ⟨h0, h1⟩
  | succ j =>
    have e := h.2.2.2 j (by rw [List.length_cons] at hj; omega)
    rw [show l + (j + 1) = l + 1 + j by omega]
    exact e⟩
theorem fW_len {ent : Nat → EntN} {g : Nat} (hEO : ∀ k, k < 12 → EO (ent k)) (hg : MBR g) (c : Int32) (hc : isFd c) : (fW ent g (fIx c).toNatClampNeg).length ≤ 200 := by
  have hEB := fun k hk => (hEO k hk).1
  have gok := gW_ok (g := g) hEB 12 (Nat.le_refl _)
  obtain ⟨a, ha, h1, h0⟩ := low_ex hg
  obtain ⟨y1, -, -, -⟩ := gW_y (ent := ent) h1 h0 (12 - (a + 1))
  rw [show a + 1 + (12 - (a + 1)) = 12 by omega] at y1
  have d4 : ∀ x, (digs x).length ≤ 200 := fun x => by unfold digs; rw [dgl_len]; have := dgn_le x; omega
  rcases fd_of.1 hc with rfl | rfl | rfl | rfl | rfl | rfl
  · show ((gW ent g 12).1 0).length ≤ 200
    omega
  · show ((gW ent g 12).1 1).length ≤ 200
    rw [y1]
    have := (hEO a ha).2.1
    omega
  · exact d4 _
  · exact d4 _
  · exact d4 _
  · exact d4 _
theorem gvs_len {ent : Nat → EntN} {g p : Nat} {L : List Int32} (hEO : ∀ k, k < 12 → EO (ent k)) (hg : MBR g) (hf : L.getD p 0 = 60 → isFd (L.getD (p + 1) 0)) : (gvs ent g L p).length ≤ 200 := by
  unfold gvs
  split
  · rename_i c; exact fW_len hEO hg _ (hf c)
  · exact Nat.le_of_ble_eq_true rfl
section MK
variable {T : Nat → List Int32} {to : Nat → Bool} {ent : Nat → EntN} {cnt g : Nat} {t0 : Int32} {mc ms kc ks : Nat} {Q : Option Value → aS → aV → Prop} {QX : String → aS → aV → Prop}
/-- the loop goes on well -/
abbrev RM (g : Nat) (t0 : Int32) (mc ms kc ks : Nat) (Q : Option Value → aS → aV → Prop) (QX : String → aS → aV → Prop) (l : Int32) (V : aV) : Prop := R mX12_make 4 mc ms Q QX kc ks 8 [some (.ref 504), some (.int t0), some (.int (nI g)), some (.int l), none] [] Sh V
set_option maxHeartbeats 4000000 in
theorem mk_trouble {V : aV} {l c : Nat} (hl : l < 5) (hc : 1 ≤ c ∧ c ≤ 3) (h : V 504 33 = .int (nI c)) (hQ : Q none Sh V) : RM g t0 mc ms kc ks Q QX (nI l) V := by
  refine R_iload_3 dX12_make_8 ?_
  refine R_if_lt 61 dX12_make_9 (by decide) (fun c9 => absurd c9 (nI_pos (by omega))) (fun c9 => ?_)
  refine R_aload_0 dX12_make_12 ?_
  refine gfX12_233 rfl dX12_make_13 sh_504 h ?_
  refine R_if_ne 61 dX12_make_16 (by decide) (fun c16 => ?_) (fun c16 => absurd c16 (nI_ne0 (by omega) (by omega)))
  refine R_vret rfl dX12_make_61 hQ
set_option maxHeartbeats 4000000 in
theorem mk_end {V : aV} {l n dp fi dd : Nat} (hR : MR V) (hT : MT V T to) (hl : l < 5) (hn : n < 8) (ht : to n = true) (hz : V 504 33 = .int 0) (hW : LW V l n (T n).length dp fi dd) (h96 : (T n).length ≤ 96) (hQ : l = 0 → Q none Sh V) (hK : 0 < l → RM g t0 mc ms kc ks Q QX (nI (l - 1)) V) : RM g t0 mc ms kc ks Q QX (nI l) V := by
  obtain ⟨w0, w1, w2, w3, w4⟩ := hW
  have hlen := (hT n hn).1
  rw [if_pos ht] at hlen
  refine R_iload_3 dX12_make_8 ?_
  refine R_if_lt 61 dX12_make_9 (by decide) (fun c9 => absurd c9 (nI_pos (by omega))) (fun c9 => ?_)
  refine R_aload_0 dX12_make_12 ?_
  refine gfX12_233 rfl dX12_make_13 sh_504 hz ?_
  refine R_if_ne 61 dX12_make_16 (by decide) (fun c16 => absurd rfl c16) (fun c16 => ?_)
  refine R_aload_0 dX12_make_19 ?_
  refine gfX12_93 rfl dX12_make_20 sh_504 (by first | exact hR.g (k := 36) (a := 530) (by decide) | exact (a_up_ne (by omega)).trans (hR.g (k := 36) (a := 530) (by decide)) | exact (a_up_ne (by omega)).trans ((a_up_ne (by omega)).trans (hR.g (k := 36) (a := 530) (by decide))) | exact (a_up_ne (by omega)).trans ((a_up_ne (by omega)).trans ((a_up_ne (by omega)).trans (hR.g (k := 36) (a := 530) (by decide)))) | exact (a_up_ne (by omega)).trans ((a_up_ne (by omega)).trans ((a_up_ne (by omega)).trans ((a_up_ne (by omega)).trans (hR.g (k := 36) (a := 530) (by decide))))) | exact (a_up_ne (by omega)).trans ((a_up_ne (by omega)).trans ((a_up_ne (by omega)).trans ((a_up_ne (by omega)).trans ((a_up_ne (by omega)).trans (hR.g (k := 36) (a := 530) (by decide)))))) | exact (a_up_ne (by omega)).trans ((a_up_ne (by omega)).trans ((a_up_ne (by omega)).trans ((a_up_ne (by omega)).trans ((a_up_ne (by omega)).trans ((a_up_ne (by omega)).trans (hR.g (k := 36) (a := 530) (by decide)))))))) ?_
  refine R_iload_3 dX12_make_23 ?_
  refine R_ialdE dX12_make_24 sh_530 rfl (by omega) (by decide) w0 ?_
  refine R_istore_4 rfl (by decide) dX12_make_25 ?_
  refine R_aload_0 dX12_make_27 ?_
  refine gfX12_99 rfl dX12_make_28 sh_504 (by first | exact hR.g (k := 38) (a := 532) (by decide) | exact (a_up_ne (by omega)).trans (hR.g (k := 38) (a := 532) (by decide)) | exact (a_up_ne (by omega)).trans ((a_up_ne (by omega)).trans (hR.g (k := 38) (a := 532) (by decide))) | exact (a_up_ne (by omega)).trans ((a_up_ne (by omega)).trans ((a_up_ne (by omega)).trans (hR.g (k := 38) (a := 532) (by decide)))) | exact (a_up_ne (by omega)).trans ((a_up_ne (by omega)).trans ((a_up_ne (by omega)).trans ((a_up_ne (by omega)).trans (hR.g (k := 38) (a := 532) (by decide))))) | exact (a_up_ne (by omega)).trans ((a_up_ne (by omega)).trans ((a_up_ne (by omega)).trans ((a_up_ne (by omega)).trans ((a_up_ne (by omega)).trans (hR.g (k := 38) (a := 532) (by decide)))))) | exact (a_up_ne (by omega)).trans ((a_up_ne (by omega)).trans ((a_up_ne (by omega)).trans ((a_up_ne (by omega)).trans ((a_up_ne (by omega)).trans ((a_up_ne (by omega)).trans (hR.g (k := 38) (a := 532) (by decide)))))))) ?_
  refine R_iload_3 dX12_make_31 ?_
  refine R_ialdE dX12_make_32 sh_532 rfl (by omega) (by decide) w1 ?_
  refine R_aload_0 dX12_make_33 ?_
  refine gfX12_16 rfl dX12_make_34 sh_504 (by first | exact hR.g (k := 4) (a := 507) (by decide) | exact (a_up_ne (by omega)).trans (hR.g (k := 4) (a := 507) (by decide)) | exact (a_up_ne (by omega)).trans ((a_up_ne (by omega)).trans (hR.g (k := 4) (a := 507) (by decide))) | exact (a_up_ne (by omega)).trans ((a_up_ne (by omega)).trans ((a_up_ne (by omega)).trans (hR.g (k := 4) (a := 507) (by decide)))) | exact (a_up_ne (by omega)).trans ((a_up_ne (by omega)).trans ((a_up_ne (by omega)).trans ((a_up_ne (by omega)).trans (hR.g (k := 4) (a := 507) (by decide))))) | exact (a_up_ne (by omega)).trans ((a_up_ne (by omega)).trans ((a_up_ne (by omega)).trans ((a_up_ne (by omega)).trans ((a_up_ne (by omega)).trans (hR.g (k := 4) (a := 507) (by decide)))))) | exact (a_up_ne (by omega)).trans ((a_up_ne (by omega)).trans ((a_up_ne (by omega)).trans ((a_up_ne (by omega)).trans ((a_up_ne (by omega)).trans ((a_up_ne (by omega)).trans (hR.g (k := 4) (a := 507) (by decide)))))))) ?_
  refine R_iload_4 dX12_make_37 ?_
  refine R_ialdE dX12_make_39 sh_507 rfl (by omega) (by decide) hlen ?_
  refine R_icmp_ne 49 dX12_make_40 (by decide) (fun c40 => absurd rfl c40) (fun c40 => ?_)
  refine R_iinc_3 rfl (by decide) dX12_make_43 rfl ?_
  refine R_goto 58 dX12_make_46 (by decide) ?_
  refine R_goto 8 dX12_make_58 (by decide) ?_
  refine R_drop_4 ?_
  by_cases q : l = 0
  · subst q
    refine R_iload_3 dX12_make_8 ?_
    refine R_if_lt 61 dX12_make_9 (by decide) (fun c9 => ?_) (fun c9 => absurd (by decide) c9)
    refine R_vret rfl dX12_make_61 (hQ rfl)
  · rw [show nI l + Int32.ofInt (-1) = nI (l - 1) by rw [show Int32.ofInt (-1) = -1 from rfl]; have e : l = l - 1 + 1 := by omega
                                                     rw [e]; exact pk_m1 _]
    exact hK (by omega)
set_option maxHeartbeats 4000000 in
theorem mk_step {V : aV} {l n p dp fi dd : Nat} (hR : MR V) (hT : MT V T to) (hl : l < 5) (hn : n < 8) (ht : to n = true) (hz : V 504 33 = .int 0) (hW : LW V l n p dp fi dd) (h96 : (T n).length ≤ 96) (hp : p < (T n).length) {P : Option Value → aS → aV → Prop} (hC : CT mX12_goOn 3 0 0 [.ref 504, .int (nI n), .int (nI l), .int (nI g)] Sh V P aNo) (hK : ∀ v S' V', P v S' V' → ∃ l' : Int32, v = some (.int l') ∧ Sh = S' ∧ RM g t0 mc ms kc ks Q QX l' V') : RM g t0 mc ms kc ks Q QX (nI l) V := by
  obtain ⟨w0, w1, w2, w3, w4⟩ := hW
  have hlen := (hT n hn).1
  rw [if_pos ht] at hlen
  refine R_iload_3 dX12_make_8 ?_
  refine R_if_lt 61 dX12_make_9 (by decide) (fun c9 => absurd c9 (nI_pos (by omega))) (fun c9 => ?_)
  refine R_aload_0 dX12_make_12 ?_
  refine gfX12_233 rfl dX12_make_13 sh_504 hz ?_
  refine R_if_ne 61 dX12_make_16 (by decide) (fun c16 => absurd rfl c16) (fun c16 => ?_)
  refine R_aload_0 dX12_make_19 ?_
  refine gfX12_93 rfl dX12_make_20 sh_504 (by first | exact hR.g (k := 36) (a := 530) (by decide) | exact (a_up_ne (by omega)).trans (hR.g (k := 36) (a := 530) (by decide)) | exact (a_up_ne (by omega)).trans ((a_up_ne (by omega)).trans (hR.g (k := 36) (a := 530) (by decide))) | exact (a_up_ne (by omega)).trans ((a_up_ne (by omega)).trans ((a_up_ne (by omega)).trans (hR.g (k := 36) (a := 530) (by decide)))) | exact (a_up_ne (by omega)).trans ((a_up_ne (by omega)).trans ((a_up_ne (by omega)).trans ((a_up_ne (by omega)).trans (hR.g (k := 36) (a := 530) (by decide))))) | exact (a_up_ne (by omega)).trans ((a_up_ne (by omega)).trans ((a_up_ne (by omega)).trans ((a_up_ne (by omega)).trans ((a_up_ne (by omega)).trans (hR.g (k := 36) (a := 530) (by decide)))))) | exact (a_up_ne (by omega)).trans ((a_up_ne (by omega)).trans ((a_up_ne (by omega)).trans ((a_up_ne (by omega)).trans ((a_up_ne (by omega)).trans ((a_up_ne (by omega)).trans (hR.g (k := 36) (a := 530) (by decide)))))))) ?_
  refine R_iload_3 dX12_make_23 ?_
  refine R_ialdE dX12_make_24 sh_530 rfl (by omega) (by decide) w0 ?_
  refine R_istore_4 rfl (by decide) dX12_make_25 ?_
  refine R_aload_0 dX12_make_27 ?_
  refine gfX12_99 rfl dX12_make_28 sh_504 (by first | exact hR.g (k := 38) (a := 532) (by decide) | exact (a_up_ne (by omega)).trans (hR.g (k := 38) (a := 532) (by decide)) | exact (a_up_ne (by omega)).trans ((a_up_ne (by omega)).trans (hR.g (k := 38) (a := 532) (by decide))) | exact (a_up_ne (by omega)).trans ((a_up_ne (by omega)).trans ((a_up_ne (by omega)).trans (hR.g (k := 38) (a := 532) (by decide)))) | exact (a_up_ne (by omega)).trans ((a_up_ne (by omega)).trans ((a_up_ne (by omega)).trans ((a_up_ne (by omega)).trans (hR.g (k := 38) (a := 532) (by decide))))) | exact (a_up_ne (by omega)).trans ((a_up_ne (by omega)).trans ((a_up_ne (by omega)).trans ((a_up_ne (by omega)).trans ((a_up_ne (by omega)).trans (hR.g (k := 38) (a := 532) (by decide)))))) | exact (a_up_ne (by omega)).trans ((a_up_ne (by omega)).trans ((a_up_ne (by omega)).trans ((a_up_ne (by omega)).trans ((a_up_ne (by omega)).trans ((a_up_ne (by omega)).trans (hR.g (k := 38) (a := 532) (by decide)))))))) ?_
  refine R_iload_3 dX12_make_31 ?_
  refine R_ialdE dX12_make_32 sh_532 rfl (by omega) (by decide) w1 ?_
  refine R_aload_0 dX12_make_33 ?_
  refine gfX12_16 rfl dX12_make_34 sh_504 (by first | exact hR.g (k := 4) (a := 507) (by decide) | exact (a_up_ne (by omega)).trans (hR.g (k := 4) (a := 507) (by decide)) | exact (a_up_ne (by omega)).trans ((a_up_ne (by omega)).trans (hR.g (k := 4) (a := 507) (by decide))) | exact (a_up_ne (by omega)).trans ((a_up_ne (by omega)).trans ((a_up_ne (by omega)).trans (hR.g (k := 4) (a := 507) (by decide)))) | exact (a_up_ne (by omega)).trans ((a_up_ne (by omega)).trans ((a_up_ne (by omega)).trans ((a_up_ne (by omega)).trans (hR.g (k := 4) (a := 507) (by decide))))) | exact (a_up_ne (by omega)).trans ((a_up_ne (by omega)).trans ((a_up_ne (by omega)).trans ((a_up_ne (by omega)).trans ((a_up_ne (by omega)).trans (hR.g (k := 4) (a := 507) (by decide)))))) | exact (a_up_ne (by omega)).trans ((a_up_ne (by omega)).trans ((a_up_ne (by omega)).trans ((a_up_ne (by omega)).trans ((a_up_ne (by omega)).trans ((a_up_ne (by omega)).trans (hR.g (k := 4) (a := 507) (by decide)))))))) ?_
  refine R_iload_4 dX12_make_37 ?_
  refine R_ialdE dX12_make_39 sh_507 rfl (by omega) (by decide) hlen ?_
  refine R_icmp_ne 49 dX12_make_40 (by decide) (fun c40 => ?_) (fun c40 => absurd c40 (fun z => by have := (nI_eq (by omega) (by omega)).1 z; omega))
  refine R_aload_0 dX12_make_49 ?_
  refine R_iload_4 dX12_make_50 ?_
  refine R_iload_3 dX12_make_52 ?_
  refine R_iload_2 dX12_make_53 ?_
  refine R_callV (T := mX12_make) (T' := mX12_goOn) (As := [_, _, _]) (ci := 12) okX12_goOn mlX12_250 rfl (by decide) sh_504 (hC) rfl (by decide) (by decide) (Nat.le_of_ble_eq_true rfl) dX12_make_54 (fun v9 S9 V2 h9 => ?_) (fun E S9 V9 h9 => h9.elim)
  obtain ⟨l9, rfl, rfl, h10⟩ := hK _ _ _ h9
  refine R_istore_3 rfl (by decide) dX12_make_57 ?_
  refine R_goto 8 dX12_make_58 (by decide) ?_
  refine R_drop_4 ?_
  exact h10
/-- the choices' bits up to dep are the same -/
def agr (fi fi' dep : Nat) : Prop := fi' < 64 ∧ ∀ i, i ≤ dep → i < 6 → fi'.testBit i = fi.testBit i
theorem agr.t {a b c d : Nat} (h : agr a b d) (g : agr b c d) : agr a c d := ⟨g.1, fun i q1 q2 => (g.2 i q1 q2).trans (h.2 i q1 q2)⟩
theorem agr.le {a b d e : Nat} (h : agr a b d) (q : e ≤ d) : agr a b e := ⟨h.1, fun i q1 q2 => h.2 i (by omega) q2⟩
theorem FB.agr {fi fi' k : Nat} {b : Bool} (h : FB fi fi' (k + 1) b) : agr fi fi' k := ⟨h.1, fun i q1 q2 => h.2.2 i q2 (by omega)⟩
theorem mk_dead (hEO : ∀ k, k < 12 → EO (ent k)) (hg : MBR g) (h96 : ∀ n, n < 8 → to n = true → (T n).length ≤ 96) {l n dd : Nat} (hl : l < 5) (hn : n < 8) (ht : to n = true) (hdd : 1 ≤ dd) {x : List Int32} : ∀ (k dep p q fi : Nat) (V : aV), wtx (T n) (jmOf (T n)) k dep p q → dd ≤ dep → dep ≤ 5 → fi < 64 → MR V → MT V T to → ME V ent cnt → TX V x → V 504 33 = .int 0 → LW V l n p dep fi dd →
    (∀ V' fi', FrLv l V V' → agr fi fi' dep → LW V' l n q dep fi' dd → RM g t0 mc ms kc ks Q QX (nI l) V') → RM g t0 mc ms kc ks Q QX (nI l) V := by
  have h6 := h96 n hn ht
  intro k
  induction k with
  | zero =>
    intro dep p q fi V hw hd h5 hf hR hT hE hX hz hW hK
    have e : p = q := hw
    subst e
    exact hK V fi FrLv.refl ⟨hf, fun _ _ _ => rfl⟩ hW
  | succ k ih =>
    intro dep p q fi V hw hd h5 hf hR hT hE hX hz hW hK
    have nz : ¬ dd = 0 := by omega
    have more : ∀ V1 p1 fi1, FrLv l V V1 → agr fi fi1 dep → LW V1 l n p1 dep fi1 dd → wtx (T n) (jmOf (T n)) k dep p1 q → RM g t0 mc ms kc ks Q QX (nI l) V1 := fun V1 p1 fi1 f1 a1 w1 hw1 =>
      ih dep p1 q fi1 V1 hw1 hd h5 a1.1 (f1.mr hR) (f1.n.mt hT) (f1.n.me hE) (f1.tx hX) ((f1.2.1 33 (by decide)).trans hz) w1 (fun V' fi' f2 a2 w2 => hK V' fi' (f1.trans f2) (a1.t a2) w2)
    rcases hw with h | ⟨a, b, c, h⟩ | ⟨a, b, h⟩ | ⟨hd9, dd9, m, e, a, b, c, f, h1, h2, h3⟩ | ⟨a, b, h⟩
    · subst h
      exact hK V fi FrLv.refl ⟨hf, fun _ _ _ => rfl⟩ hW
    · have hp := gd_lt a (by decide)
      refine mk_step hR hT hl hn ht hz hW h6 hp (ct_go_e (x := x) hR hT hE hEO hg hn ht h6 hW hl hp hX hz (by rw [a]; decide) (by rw [a]; decide) (by rw [a]; decide) (by rw [a]; decide) (fun _ => b) (gvs_len hEO hg (fun _ => b)) (by omega)) ?_
      rintro v S' V' ⟨rfl, rfl, ⟨-, w1, f1⟩ | ⟨z, -⟩⟩
      · rw [if_pos a] at w1
        exact ⟨_, rfl, rfl, more V' _ fi f1 ⟨hf, fun _ _ _ => rfl⟩ w1 h⟩
      · exact absurd z nz
    · have hp := gd_lt a (by decide)
      refine mk_step hR hT hl hn ht hz hW h6 hp (ct_go_d hR hT hE hEO hg hn ht h6 hW hl hp a b h96 (by omega)) ?_
      rintro v S' V' ⟨rfl, ⟨-, rfl, w1, f1⟩ | ⟨z, -⟩⟩
      · exact ⟨_, rfl, rfl, more V' _ fi f1 ⟨hf, fun _ _ _ => rfl⟩ w1 h⟩
      · exact absurd z nz
    · have hp := gd_lt hd9.1 (by decide)
      have hm := gd_lt a (by decide)
      have he := gd_lt b (by decide)
      refine mk_step hR hT hl hn ht hz hW h6 hp (ct_go_a hR hT hE hEO hg hn ht h6 hW hl hp hd9 dd9 hf (by omega)) ?_
      rintro v S' V1 ⟨rfl, rfl, ⟨fi1, b1, w1⟩, f1⟩
      refine ⟨_, rfl, rfl, ?_⟩
      rw [if_neg (fun z => nz z.1)] at w1
      refine ih (dep + 1) _ m fi1 V1 h1 (by omega) (by omega) b1.1 (f1.mr hR) (f1.n.mt hT) (f1.n.me hE) (f1.tx hX) ((f1.2.1 33 (by decide)).trans hz) w1 ?_
      intro V2 fi2 f2 a2 w2
      have f12 := f1.trans f2
      refine mk_step (f12.mr hR) (f12.n.mt hT) hl hn ht ((f12.2.1 33 (by decide)).trans hz) w2 h6 hm (ct_go_b (f12.mr hR) (f12.n.mt hT) (f12.n.me hE) hEO hg hn ht h6 w2 hl hm a (by omega) (by omega) a2.1 (by omega)) ?_
      rintro v S' V3 ⟨rfl, rfl, w3, f3⟩
      refine ⟨_, rfl, rfl, ?_⟩
      rw [if_neg (fun z => nz z.1), if_neg (fun z => by have := z.1; omega)] at w3
      have f13 := f12.trans f3
      refine ih (dep + 1) _ e fi2 V3 h2 (by omega) (by omega) a2.1 (f13.mr hR) (f13.n.mt hT) (f13.n.me hE) (f13.tx hX) ((f13.2.1 33 (by decide)).trans hz) w3 ?_
      intro V4 fi4 f4 a4 w4
      have f14 := f13.trans f4
      refine mk_step (f14.mr hR) (f14.n.mt hT) hl hn ht ((f14.2.1 33 (by decide)).trans hz) w4 h6 he (ct_go_c (f14.mr hR) (f14.n.mt hT) (f14.n.me hE) hEO hg hn ht h6 w4 hl he b (by omega) (by omega) (by omega)) ?_
      rintro v S' V5 ⟨rfl, rfl, w5, f5⟩
      refine ⟨_, rfl, rfl, ?_⟩
      rw [if_neg (fun z => by omega), Nat.add_sub_cancel] at w5
      exact more V5 _ fi4 (f14.trans f5) (b1.agr.t ((a2.le (Nat.le_succ _)).t (a4.le (Nat.le_succ _)))) w5 h3
    · have n60 : ¬ (T n).getD p 0 = 60 := b.1
      refine mk_step hR hT hl hn ht hz hW h6 a (ct_go_e (x := x) hR hT hE hEO hg hn ht h6 hW hl a hX hz b.2.2.1 b.2.2.2.1 b.2.2.2.2 b.2.1 (fun z => absurd z n60) (gvs_len hEO hg (fun z => absurd z n60)) (by omega)) ?_
      rintro v S' V' ⟨rfl, rfl, ⟨-, w1, f1⟩ | ⟨z, -⟩⟩
      · rw [if_neg n60] at w1
        exact ⟨_, rfl, rfl, more V' _ fi f1 ⟨hf, fun _ _ _ => rfl⟩ w1 h⟩
      · exact absurd z nz
theorem mk_live (hEO : ∀ k, k < 12 → EO (ent k)) (hg : MBR g) (hK8 : TKS T to) : ∀ (d l : Nat), l + d = 4 → ∀ (n : Nat), n < 8 → to n = true → ∀ (k dep p q fi : Nat) (V : aV) (x : List Int32), wtx (T n) (jmOf (T n)) k dep p q → dep ≤ 5 → fi < 64 → MR V → MT V T to → ME V ent cnt → TX V x → V 504 33 = .int 0 → LW V l n p dep fi 0 →
    (∀ V' fi' x', FrN l V V' → agr fi fi' dep → LW V' l n q dep fi' 0 → TX V' x' → V' 504 33 = .int 0 → go T to (jpO T to) (fW ent g) (fV ent g) d n p x = go T to (jpO T to) (fW ent g) (fV ent g) d n q x' → RM g t0 mc ms kc ks Q QX (nI l) V') →
    (∀ V' c lv, FrN l V V' → 1 ≤ c ∧ c ≤ 3 → go T to (jpO T to) (fW ent g) (fV ent g) d n p x = .inr (nI c, lv) → TRl V' l c lv → Q none Sh V') → RM g t0 mc ms kc ks Q QX (nI l) V := by
  have h96 : ∀ n, n < 8 → to n = true → (T n).length ≤ 96 := fun n hn ht => (hK8 n hn ht).1
  intro d
  induction d with
  | zero =>
    intro l hl4 n hn ht k
    have h6 := h96 n hn ht
    have ejp : jpO T to n = jmOf (T n) := if_pos ht
    have hl : l < 5 := by omega
    induction k with
    | zero =>
      intro dep p q fi V x hw h5 hf hR hT hE hX hz hW hK hQ
      have e : p = q := hw
      subst e
      exact hK V fi x FrN.refl ⟨hf, fun _ _ _ => rfl⟩ hW hX hz rfl
    | succ k ih =>
      intro dep p q fi V x hw h5 hf hR hT hE hX hz hW hK hQ
      have more : ∀ V1 p1 fi1 x1, FrN l V V1 → agr fi fi1 dep → LW V1 l n p1 dep fi1 0 → TX V1 x1 → V1 504 33 = .int 0 → go T to (jpO T to) (fW ent g) (fV ent g) 0 n p x = go T to (jpO T to) (fW ent g) (fV ent g) 0 n p1 x1 → wtx (T n) (jmOf (T n)) k dep p1 q → RM g t0 mc ms kc ks Q QX (nI l) V1 := fun V1 p1 fi1 x1 f1 a1 w1 t1 z1 e1 hw1 =>
        ih dep p1 q fi1 V1 x1 hw1 h5 a1.1 (f1.mr hR) (f1.mt hT) (f1.me hE) t1 z1 w1 (fun V' fi' x' f2 a2 w2 t2 z2 e2 => hK V' fi' x' (f1.trans f2) (a1.t a2) w2 t2 z2 (e1.trans e2)) (fun V' c lv f2 hc e2 t2 => hQ V' c lv (f1.trans f2) hc (e1.trans e2) t2)
      rcases hw with h | ⟨a, b, c, h⟩ | ⟨a, b, h⟩ | ⟨hd9, dd9, m, e, a, b, c, f, h1, h2, h3⟩ | ⟨a, b, h⟩
      · subst h
        exact hK V fi x FrN.refl ⟨hf, fun _ _ _ => rfl⟩ hW hX hz rfl
      · have hp := gd_lt a (by decide)
        have np : ¬ (T n).length ≤ p := by omega
        have ev : gvs ent g (T n) p = fW ent g (fdx (T n) p) := if_pos a
        refine mk_step hR hT hl hn ht hz hW h6 hp (ct_go_e (x := x) hR hT hE hEO hg hn ht h6 hW hl hp hX hz (by rw [a]; decide) (by rw [a]; decide) (by rw [a]; decide) (by rw [a]; decide) (fun _ => b) (gvs_len hEO hg (fun _ => b)) (by omega)) ?_
        rintro v S' V' ⟨rfl, rfl, ⟨z, -⟩ | ⟨-, f1, ⟨l9, t1, z1, w1⟩ | ⟨l9, t1⟩⟩⟩
        · exact absurd rfl z
        · rw [if_pos a] at w1
          rw [ev] at l9 t1
          exact ⟨_, rfl, rfl, more V' _ fi _ f1 ⟨hf, fun _ _ _ => rfl⟩ w1 t1 z1 (go_f1 np a l9) h⟩
        · rw [ev] at l9
          exact ⟨_, rfl, rfl, mk_trouble hl (c := 3) (by decide) t1.1 (hQ V' 3 [(n, p)] f1 (by decide) (go_f0 np a l9) (t1.l hl))⟩
      · have hp := gd_lt a (by decide)
        have np : ¬ (T n).length ≤ p := by omega
        refine mk_step hR hT hl hn ht hz hW h6 hp (ct_go_d hR hT hE hEO hg hn ht h6 hW hl hp a b h96 (by omega)) ?_
        rintro v S' V' ⟨rfl, ⟨z, -⟩ | ⟨-, f1, ⟨u1, rfl, t1⟩ | ⟨u1, u2, rfl, t1⟩ | ⟨u1, u2, u3, rfl, w1, w2, p1, t1, g1⟩⟩⟩
        · exact absurd rfl z
        · exact ⟨_, rfl, rfl, mk_trouble hl (c := 1) (by decide) t1.1 (hQ V' 1 [(n, p)] f1 (by decide) (go_at0 np a u1) (t1.l hl))⟩
        · exact ⟨_, rfl, rfl, mk_trouble hl (c := 2) (by decide) t1.1 (hQ V' 2 [(n, p)] f1 (by decide) (go_at1 np a u1) (t1.l hl))⟩
        · omega
      · have hp := gd_lt hd9.1 (by decide)
        have hm := gd_lt a (by decide)
        have he := gd_lt b (by decide)
        have np : ¬ (T n).length ≤ p := by omega
        have nm : ¬ (T n).length ≤ m := by omega
        have ne' : ¬ (T n).length ≤ e := by omega
        have l1 := wtx_le h1
        have l2 := wtx_le h2
        have lp := hd9.2.2.2.2.2.1
        have p64 : ¬ (T n).getD p 0 = 64 := by rw [hd9.1]; decide
        have p60 : ¬ (T n).getD p 0 = 60 := by rw [hd9.1]; decide
        have m64 : ¬ (T n).getD m 0 = 64 := by rw [a]; decide
        have m60 : ¬ (T n).getD m 0 = 60 := by rw [a]; decide
        have e64 : ¬ (T n).getD e 0 = 64 := by rw [b]; decide
        have e60 : ¬ (T n).getD e 0 = 60 := by rw [b]; decide
        have jp1 : (jpO T to n p).getD 0 = m + 1 := by rw [ejp, c]; rfl
        have jp2 : (jpO T to n m).getD 0 = e + 1 := by rw [ejp, f]; rfl
        refine mk_step hR hT hl hn ht hz hW h6 hp (ct_go_a hR hT hE hEO hg hn ht h6 hW hl hp hd9 dd9 hf (by omega)) ?_
        rintro v S' V1 ⟨rfl, rfl, ⟨fi1, b1, w1⟩, f1⟩
        refine ⟨_, rfl, rfl, ?_⟩
        have hz1 := (f1.2.1 33 (by decide)).trans hz
        have mva := mv_a (jp := jpO T to) (vl := fV ent g) hd9.1
        by_cases hh : hld (hVal (fV ent g) ((T n).getD (p + 1) 0)) ((T n).getD (p + 2) 0) (hN (T n) p)
        · rw [decide_eq_true hh] at b1 w1
          rw [if_neg (fun z => absurd z.2 (by decide))] at w1
          rw [if_pos hh] at mva
          have e1 := go_mv (to := to) (w := fW ent g) (d := 0) (x := x) np p64 p60 mva (by omega)
          refine ih (dep + 1) _ m fi1 V1 x h1 (by omega) b1.1 (f1.mr hR) (f1.n.mt hT) (f1.n.me hE) (f1.tx hX) hz1 w1 ?_ ?_
          · intro V2 fi2 x2 f2 a2 w2 t2 z2 e2
            have f12 := f1.n.trans f2
            refine mk_step (f12.mr hR) (f12.mt hT) hl hn ht z2 w2 h6 hm (ct_go_b (f12.mr hR) (f12.mt hT) (f12.me hE) hEO hg hn ht h6 w2 hl hm a (by omega) (by omega) a2.1 (by omega)) ?_
            rintro v S' V3 ⟨rfl, rfl, w3, f3⟩
            refine ⟨_, rfl, rfl, ?_⟩
            rw [if_pos ⟨rfl, (a2.2 (dep + 1) (Nat.le_refl _) (by omega)).trans b1.2.1⟩] at w3
            have f13 := f12.trans f3.n
            have mvb := mv_b (jp := jpO T to) (vl := fV ent g) a
            rw [jp2] at mvb
            have e3 := go_mv (to := to) (w := fW ent g) (d := 0) (x := x2) nm m64 m60 mvb (by omega)
            refine mk_dead (x := x2) hEO hg h96 hl hn ht (by omega) k (dep + 1) _ e fi2 V3 h2 (Nat.le_refl _) (by omega) a2.1 (f13.mr hR) (f13.mt hT) (f13.me hE) (f3.tx t2) ((f3.2.1 33 (by decide)).trans z2) w3 ?_
            intro V4 fi4 f4 a4 w4
            have f14 := f13.trans f4.n
            refine mk_step (f14.mr hR) (f14.mt hT) hl hn ht ((f4.2.1 33 (by decide)).trans ((f3.2.1 33 (by decide)).trans z2)) w4 h6 he (ct_go_c (f14.mr hR) (f14.mt hT) (f14.me hE) hEO hg hn ht h6 w4 hl he b (by omega) (by omega) (by omega)) ?_
            rintro v S' V5 ⟨rfl, rfl, w5, f5⟩
            refine ⟨_, rfl, rfl, ?_⟩
            rw [if_pos rfl, Nat.add_sub_cancel] at w5
            exact more V5 _ fi4 x2 (f14.trans f5.n) (b1.agr.t ((a2.le (Nat.le_succ _)).t (a4.le (Nat.le_succ _)))) w5 (f5.tx (f4.tx (f3.tx t2))) ((f5.2.1 33 (by decide)).trans ((f4.2.1 33 (by decide)).trans ((f3.2.1 33 (by decide)).trans z2))) (e1.trans (e2.trans e3)) h3
          · intro V2 c9 lv f2 hc e2 t2
            exact hQ V2 c9 lv (f1.n.trans f2) hc (e1.trans e2) t2
        · rw [decide_eq_false hh] at b1 w1
          rw [if_pos ⟨rfl, rfl⟩] at w1
          rw [if_neg hh, jp1] at mva
          have e1 := go_mv (to := to) (w := fW ent g) (d := 0) (x := x) np p64 p60 mva (by omega)
          refine mk_dead (x := x) hEO hg h96 hl hn ht (by omega) k (dep + 1) _ m fi1 V1 h1 (Nat.le_refl _) (by omega) b1.1 (f1.mr hR) (f1.n.mt hT) (f1.n.me hE) (f1.tx hX) hz1 w1 ?_
          intro V2 fi2 f2 a2 w2
          have f12 := f1.trans f2
          refine mk_step (f12.mr hR) (f12.n.mt hT) hl hn ht ((f12.2.1 33 (by decide)).trans hz) w2 h6 hm (ct_go_b (f12.mr hR) (f12.n.mt hT) (f12.n.me hE) hEO hg hn ht h6 w2 hl hm a (by omega) (by omega) a2.1 (by omega)) ?_
          rintro v S' V3 ⟨rfl, rfl, w3, f3⟩
          refine ⟨_, rfl, rfl, ?_⟩
          have hb2 := (a2.2 (dep + 1) (Nat.le_refl _) (by omega)).trans b1.2.1
          rw [if_neg (fun z => absurd z.1 (Nat.succ_ne_zero dep)), if_pos ⟨rfl, fun z => by rw [hb2] at z; cases z⟩] at w3
          have f13 := f12.trans f3
          refine ih (dep + 1) _ e fi2 V3 x h2 (by omega) a2.1 (f13.mr hR) (f13.n.mt hT) (f13.n.me hE) (f13.tx hX) ((f13.2.1 33 (by decide)).trans hz) w3 ?_ ?_
          · intro V4 fi4 x4 f4 a4 w4 t4 z4 e4
            have f14 := f13.n.trans f4
            have mve := mv_e (jp := jpO T to) (vl := fV ent g) b
            have e5 := go_mv (to := to) (w := fW ent g) (d := 0) (x := x4) ne' e64 e60 mve (by omega)
            refine mk_step (f14.mr hR) (f14.mt hT) hl hn ht z4 w4 h6 he (ct_go_c (f14.mr hR) (f14.mt hT) (f14.me hE) hEO hg hn ht h6 w4 hl he b (by omega) (by omega) (by omega)) ?_
            rintro v S' V5 ⟨rfl, rfl, w5, f5⟩
            refine ⟨_, rfl, rfl, ?_⟩
            rw [if_neg (fun z => by omega), Nat.add_sub_cancel] at w5
            exact more V5 _ fi4 x4 (f14.trans f5.n) (b1.agr.t ((a2.le (Nat.le_succ _)).t (a4.le (Nat.le_succ _)))) w5 (f5.tx t4) ((f5.2.1 33 (by decide)).trans z4) (e1.trans (e4.trans e5)) h3
          · intro V4 c9 lv f4 hc e4 t4
            exact hQ V4 c9 lv (f13.n.trans f4) hc (e1.trans e4) t4
      · have n60 : ¬ (T n).getD p 0 = 60 := b.1
        have np : ¬ (T n).length ≤ p := by omega
        have ev : gvs ent g (T n) p = [(T n).getD p 0] := if_neg n60
        have mvs := mv_s (jp := jpO T to) (vl := fV ent g) b.2.2.1 b.2.2.2.1 b.2.2.2.2
        refine mk_step hR hT hl hn ht hz hW h6 a (ct_go_e (x := x) hR hT hE hEO hg hn ht h6 hW hl a hX hz b.2.2.1 b.2.2.2.1 b.2.2.2.2 b.2.1 (fun z => absurd z n60) (gvs_len hEO hg (fun z => absurd z n60)) (by omega)) ?_
        rintro v S' V' ⟨rfl, rfl, ⟨z, -⟩ | ⟨-, f1, ⟨l9, t1, z1, w1⟩ | ⟨l9, t1⟩⟩⟩
        · exact absurd rfl z
        · rw [if_neg n60] at w1
          rw [ev] at l9 t1
          have l8 : ¬ 160 ≤ x.length := fun z => l9 (by show _ < 1; omega)
          exact ⟨_, rfl, rfl, more V' _ fi _ f1 ⟨hf, fun _ _ _ => rfl⟩ w1 t1 z1 (go_s1 np b.2.1 n60 mvs l8) h⟩
        · rw [ev] at l9
          have l8 : 160 ≤ x.length := by have : 160 - x.length < 1 := l9; omega
          exact ⟨_, rfl, rfl, mk_trouble hl (c := 3) (by decide) t1.1 (hQ V' 3 [(n, p)] f1 (by decide) (go_s0 np b.2.1 n60 mvs l8) (t1.l hl))⟩
  | succ d ihd =>
    intro l hl4 n hn ht k
    have h6 := h96 n hn ht
    have ejp : jpO T to n = jmOf (T n) := if_pos ht
    have hl : l < 5 := by omega
    induction k with
    | zero =>
      intro dep p q fi V x hw h5 hf hR hT hE hX hz hW hK hQ
      have e : p = q := hw
      subst e
      exact hK V fi x FrN.refl ⟨hf, fun _ _ _ => rfl⟩ hW hX hz rfl
    | succ k ih =>
      intro dep p q fi V x hw h5 hf hR hT hE hX hz hW hK hQ
      have more : ∀ V1 p1 fi1 x1, FrN l V V1 → agr fi fi1 dep → LW V1 l n p1 dep fi1 0 → TX V1 x1 → V1 504 33 = .int 0 → go T to (jpO T to) (fW ent g) (fV ent g) (d + 1) n p x = go T to (jpO T to) (fW ent g) (fV ent g) (d + 1) n p1 x1 → wtx (T n) (jmOf (T n)) k dep p1 q → RM g t0 mc ms kc ks Q QX (nI l) V1 := fun V1 p1 fi1 x1 f1 a1 w1 t1 z1 e1 hw1 =>
        ih dep p1 q fi1 V1 x1 hw1 h5 a1.1 (f1.mr hR) (f1.mt hT) (f1.me hE) t1 z1 w1 (fun V' fi' x' f2 a2 w2 t2 z2 e2 => hK V' fi' x' (f1.trans f2) (a1.t a2) w2 t2 z2 (e1.trans e2)) (fun V' c lv f2 hc e2 t2 => hQ V' c lv (f1.trans f2) hc (e1.trans e2) t2)
      rcases hw with h | ⟨a, b, c, h⟩ | ⟨a, b, h⟩ | ⟨hd9, dd9, m, e, a, b, c, f, h1, h2, h3⟩ | ⟨a, b, h⟩
      · subst h
        exact hK V fi x FrN.refl ⟨hf, fun _ _ _ => rfl⟩ hW hX hz rfl
      · have hp := gd_lt a (by decide)
        have np : ¬ (T n).length ≤ p := by omega
        have ev : gvs ent g (T n) p = fW ent g (fdx (T n) p) := if_pos a
        refine mk_step hR hT hl hn ht hz hW h6 hp (ct_go_e (x := x) hR hT hE hEO hg hn ht h6 hW hl hp hX hz (by rw [a]; decide) (by rw [a]; decide) (by rw [a]; decide) (by rw [a]; decide) (fun _ => b) (gvs_len hEO hg (fun _ => b)) (by omega)) ?_
        rintro v S' V' ⟨rfl, rfl, ⟨z, -⟩ | ⟨-, f1, ⟨l9, t1, z1, w1⟩ | ⟨l9, t1⟩⟩⟩
        · exact absurd rfl z
        · rw [if_pos a] at w1
          rw [ev] at l9 t1
          exact ⟨_, rfl, rfl, more V' _ fi _ f1 ⟨hf, fun _ _ _ => rfl⟩ w1 t1 z1 (go_f1 np a l9) h⟩
        · rw [ev] at l9
          exact ⟨_, rfl, rfl, mk_trouble hl (c := 3) (by decide) t1.1 (hQ V' 3 [(n, p)] f1 (by decide) (go_f0 np a l9) (t1.l hl))⟩
      · have hp := gd_lt a (by decide)
        have np : ¬ (T n).length ≤ p := by omega
        refine mk_step hR hT hl hn ht hz hW h6 hp (ct_go_d hR hT hE hEO hg hn ht h6 hW hl hp a b h96 (by omega)) ?_
        rintro v S' V' ⟨rfl, ⟨z, -⟩ | ⟨-, f1, ⟨u1, rfl, t1⟩ | ⟨u1, u2, rfl, t1⟩ | ⟨u1, u2, u3, rfl, w1, w2, p1, t1, g1⟩⟩⟩
        · exact absurd rfl z
        · exact ⟨_, rfl, rfl, mk_trouble hl (c := 1) (by decide) t1.1 (hQ V' 1 [(n, p)] f1 (by decide) (go_at0 np a u1) (t1.l hl))⟩
        · omega
        · refine ⟨_, rfl, rfl, ?_⟩
          obtain ⟨m96, nw, hw⟩ := hK8 (dgt (T n) p) u3 u1
          have hX1 := hX.fr t1 (congrFun g1 32)
          have hz1 := (congrFun g1 33).trans hz
          refine ihd (l + 1) (by omega) (dgt (T n) p) u3 u1 nw 0 0 (T (dgt (T n) p)).length 0 V' x hw (by decide) (by decide) (f1.mr hR) (f1.mt hT) (f1.me hE) hX1 hz1 w1 ?_ ?_
          · intro V2 fi2 x2 f2 a2 w2' t2 z2 e2
            have f12 := f1.trans (f2.le (Nat.le_succ l))
            refine mk_end (f12.mr hR) (f12.mt hT) (by omega) u3 u1 z2 w2' m96 (fun z => absurd z (Nat.succ_ne_zero l)) (fun _ => ?_)
            rw [Nat.add_sub_cancel]
            exact more V2 _ fi x2 f12 ⟨hf, fun _ _ _ => rfl⟩ (f2.lw (Nat.lt_succ_self l) w2) t2 z2 (go_at3 np a u1 (e2.trans (go_end (Nat.le_refl _)))) h
          · intro V2 c lv f2 hc e2 t2
            exact hQ V2 c _ (f1.trans (f2.le (Nat.le_succ l))) hc (go_at2 np a u1 e2) (t2.up ((f2.2.2 530 (by decide) (by decide) l (Nat.lt_succ_self l)).trans w2.1) ((f2.2.2 531 (by decide) (by decide) l (Nat.lt_succ_self l)).trans p1))
      · have hp := gd_lt hd9.1 (by decide)
        have hm := gd_lt a (by decide)
        have he := gd_lt b (by decide)
        have np : ¬ (T n).length ≤ p := by omega
        have nm : ¬ (T n).length ≤ m := by omega
        have ne' : ¬ (T n).length ≤ e := by omega
        have l1 := wtx_le h1
        have l2 := wtx_le h2
        have lp := hd9.2.2.2.2.2.1
        have p64 : ¬ (T n).getD p 0 = 64 := by rw [hd9.1]; decide
        have p60 : ¬ (T n).getD p 0 = 60 := by rw [hd9.1]; decide
        have m64 : ¬ (T n).getD m 0 = 64 := by rw [a]; decide
        have m60 : ¬ (T n).getD m 0 = 60 := by rw [a]; decide
        have e64 : ¬ (T n).getD e 0 = 64 := by rw [b]; decide
        have e60 : ¬ (T n).getD e 0 = 60 := by rw [b]; decide
        have jp1 : (jpO T to n p).getD 0 = m + 1 := by rw [ejp, c]; rfl
        have jp2 : (jpO T to n m).getD 0 = e + 1 := by rw [ejp, f]; rfl
        refine mk_step hR hT hl hn ht hz hW h6 hp (ct_go_a hR hT hE hEO hg hn ht h6 hW hl hp hd9 dd9 hf (by omega)) ?_
        rintro v S' V1 ⟨rfl, rfl, ⟨fi1, b1, w1⟩, f1⟩
        refine ⟨_, rfl, rfl, ?_⟩
        have hz1 := (f1.2.1 33 (by decide)).trans hz
        have mva := mv_a (jp := jpO T to) (vl := fV ent g) hd9.1
        by_cases hh : hld (hVal (fV ent g) ((T n).getD (p + 1) 0)) ((T n).getD (p + 2) 0) (hN (T n) p)
        · rw [decide_eq_true hh] at b1 w1
          rw [if_neg (fun z => absurd z.2 (by decide))] at w1
          rw [if_pos hh] at mva
          have e1 := go_mv (to := to) (w := fW ent g) (d := (d + 1)) (x := x) np p64 p60 mva (by omega)
          refine ih (dep + 1) _ m fi1 V1 x h1 (by omega) b1.1 (f1.mr hR) (f1.n.mt hT) (f1.n.me hE) (f1.tx hX) hz1 w1 ?_ ?_
          · intro V2 fi2 x2 f2 a2 w2 t2 z2 e2
            have f12 := f1.n.trans f2
            refine mk_step (f12.mr hR) (f12.mt hT) hl hn ht z2 w2 h6 hm (ct_go_b (f12.mr hR) (f12.mt hT) (f12.me hE) hEO hg hn ht h6 w2 hl hm a (by omega) (by omega) a2.1 (by omega)) ?_
            rintro v S' V3 ⟨rfl, rfl, w3, f3⟩
            refine ⟨_, rfl, rfl, ?_⟩
            rw [if_pos ⟨rfl, (a2.2 (dep + 1) (Nat.le_refl _) (by omega)).trans b1.2.1⟩] at w3
            have f13 := f12.trans f3.n
            have mvb := mv_b (jp := jpO T to) (vl := fV ent g) a
            rw [jp2] at mvb
            have e3 := go_mv (to := to) (w := fW ent g) (d := (d + 1)) (x := x2) nm m64 m60 mvb (by omega)
            refine mk_dead (x := x2) hEO hg h96 hl hn ht (by omega) k (dep + 1) _ e fi2 V3 h2 (Nat.le_refl _) (by omega) a2.1 (f13.mr hR) (f13.mt hT) (f13.me hE) (f3.tx t2) ((f3.2.1 33 (by decide)).trans z2) w3 ?_
            intro V4 fi4 f4 a4 w4
            have f14 := f13.trans f4.n
            refine mk_step (f14.mr hR) (f14.mt hT) hl hn ht ((f4.2.1 33 (by decide)).trans ((f3.2.1 33 (by decide)).trans z2)) w4 h6 he (ct_go_c (f14.mr hR) (f14.mt hT) (f14.me hE) hEO hg hn ht h6 w4 hl he b (by omega) (by omega) (by omega)) ?_
            rintro v S' V5 ⟨rfl, rfl, w5, f5⟩
            refine ⟨_, rfl, rfl, ?_⟩
            rw [if_pos rfl, Nat.add_sub_cancel] at w5
            exact more V5 _ fi4 x2 (f14.trans f5.n) (b1.agr.t ((a2.le (Nat.le_succ _)).t (a4.le (Nat.le_succ _)))) w5 (f5.tx (f4.tx (f3.tx t2))) ((f5.2.1 33 (by decide)).trans ((f4.2.1 33 (by decide)).trans ((f3.2.1 33 (by decide)).trans z2))) (e1.trans (e2.trans e3)) h3
          · intro V2 c9 lv f2 hc e2 t2
            exact hQ V2 c9 lv (f1.n.trans f2) hc (e1.trans e2) t2
        · rw [decide_eq_false hh] at b1 w1
          rw [if_pos ⟨rfl, rfl⟩] at w1
          rw [if_neg hh, jp1] at mva
          have e1 := go_mv (to := to) (w := fW ent g) (d := (d + 1)) (x := x) np p64 p60 mva (by omega)
          refine mk_dead (x := x) hEO hg h96 hl hn ht (by omega) k (dep + 1) _ m fi1 V1 h1 (Nat.le_refl _) (by omega) b1.1 (f1.mr hR) (f1.n.mt hT) (f1.n.me hE) (f1.tx hX) hz1 w1 ?_
          intro V2 fi2 f2 a2 w2
          have f12 := f1.trans f2
          refine mk_step (f12.mr hR) (f12.n.mt hT) hl hn ht ((f12.2.1 33 (by decide)).trans hz) w2 h6 hm (ct_go_b (f12.mr hR) (f12.n.mt hT) (f12.n.me hE) hEO hg hn ht h6 w2 hl hm a (by omega) (by omega) a2.1 (by omega)) ?_
          rintro v S' V3 ⟨rfl, rfl, w3, f3⟩
          refine ⟨_, rfl, rfl, ?_⟩
          have hb2 := (a2.2 (dep + 1) (Nat.le_refl _) (by omega)).trans b1.2.1
          rw [if_neg (fun z => absurd z.1 (Nat.succ_ne_zero dep)), if_pos ⟨rfl, fun z => by rw [hb2] at z; cases z⟩] at w3
          have f13 := f12.trans f3
          refine ih (dep + 1) _ e fi2 V3 x h2 (by omega) a2.1 (f13.mr hR) (f13.n.mt hT) (f13.n.me hE) (f13.tx hX) ((f13.2.1 33 (by decide)).trans hz) w3 ?_ ?_
          · intro V4 fi4 x4 f4 a4 w4 t4 z4 e4
            have f14 := f13.n.trans f4
            have mve := mv_e (jp := jpO T to) (vl := fV ent g) b
            have e5 := go_mv (to := to) (w := fW ent g) (d := (d + 1)) (x := x4) ne' e64 e60 mve (by omega)
            refine mk_step (f14.mr hR) (f14.mt hT) hl hn ht z4 w4 h6 he (ct_go_c (f14.mr hR) (f14.mt hT) (f14.me hE) hEO hg hn ht h6 w4 hl he b (by omega) (by omega) (by omega)) ?_
            rintro v S' V5 ⟨rfl, rfl, w5, f5⟩
            refine ⟨_, rfl, rfl, ?_⟩
            rw [if_neg (fun z => by omega), Nat.add_sub_cancel] at w5
            exact more V5 _ fi4 x4 (f14.trans f5.n) (b1.agr.t ((a2.le (Nat.le_succ _)).t (a4.le (Nat.le_succ _)))) w5 (f5.tx t4) ((f5.2.1 33 (by decide)).trans z4) (e1.trans (e4.trans e5)) h3
          · intro V4 c9 lv f4 hc e4 t4
            exact hQ V4 c9 lv (f13.n.trans f4) hc (e1.trans e4) t4
      · have n60 : ¬ (T n).getD p 0 = 60 := b.1
        have np : ¬ (T n).length ≤ p := by omega
        have ev : gvs ent g (T n) p = [(T n).getD p 0] := if_neg n60
        have mvs := mv_s (jp := jpO T to) (vl := fV ent g) b.2.2.1 b.2.2.2.1 b.2.2.2.2
        refine mk_step hR hT hl hn ht hz hW h6 a (ct_go_e (x := x) hR hT hE hEO hg hn ht h6 hW hl a hX hz b.2.2.1 b.2.2.2.1 b.2.2.2.2 b.2.1 (fun z => absurd z n60) (gvs_len hEO hg (fun z => absurd z n60)) (by omega)) ?_
        rintro v S' V' ⟨rfl, rfl, ⟨z, -⟩ | ⟨-, f1, ⟨l9, t1, z1, w1⟩ | ⟨l9, t1⟩⟩⟩
        · exact absurd rfl z
        · rw [if_neg n60] at w1
          rw [ev] at l9 t1
          have l8 : ¬ 160 ≤ x.length := fun z => l9 (by show _ < 1; omega)
          exact ⟨_, rfl, rfl, more V' _ fi _ f1 ⟨hf, fun _ _ _ => rfl⟩ w1 t1 z1 (go_s1 np b.2.1 n60 mvs l8) h⟩
        · rw [ev] at l9
          have l8 : 160 ≤ x.length := by have : 160 - x.length < 1 := l9; omega
          exact ⟨_, rfl, rfl, mk_trouble hl (c := 3) (by decide) t1.1 (hQ V' 3 [(n, p)] f1 (by decide) (go_s0 np b.2.1 n60 mvs l8) (t1.l hl))⟩
end MK
set_option maxHeartbeats 4000000 in
theorem ct_mmake {V : aV} {T : Nat → List Int32} {to : Nat → Bool} {ent : Nat → EntN} {cnt g t : Nat} (hR : MR V) (hT : MT V T to) (hE : ME V ent cnt) (hEO : ∀ k, k < 12 → EO (ent k)) (hg : MBR g) (hK8 : TKS T to) (ht8 : t < 8) (ht : to t = true) (hX : TX V []) (hz : V 504 33 = .int 0) : CT mX12_make 4 0 0 [.ref 504, .int (nI t), .int (nI g)] Sh V (fun v S' V' => none = v ∧ Sh = S' ∧ FrN 0 V V' ∧ ((∃ x, go T to (jpO T to) (fW ent g) (fV ent g) 4 t 0 [] = .inl x ∧ TX V' x ∧ V' 504 33 = .int 0) ∨ ∃ c lv, 1 ≤ c ∧ c ≤ 3 ∧ go T to (jpO T to) (fW ent g) (fV ent g) 4 t 0 [] = .inr (nI c, lv) ∧ TRl V' 0 c lv)) aNo := by
  refine CT_of (by decide +kernel) (Nat.le_of_ble_eq_true rfl) ?_
  show R _ _ _ _ _ _ _ _ 0 [some (.ref 504), some (.int (nI t)), some (.int (nI g)), none, none] [] _ _
  refine R_iconst (v := 0) dX12_make_0 (by decide) ?_
  refine R_istore_3 rfl (by decide) dX12_make_1 ?_
  refine R_aload_0 dX12_make_2 ?_
  refine R_iload_1 dX12_make_3 ?_
  refine R_iconst (v := 0) dX12_make_4 (by decide) ?_
  refine R_callV (T := mX12_make) (T' := mX12_begin) (As := [_, _]) (ci := 12) okX12_begin mlX12_246 rfl (by decide) sh_504 (ct_begin (n := t) (l := 0) hR (by decide)) rfl (by decide) (by decide) (Nat.le_of_ble_eq_true rfl) dX12_make_5 (fun v9 S9 V1 h9 => ?_) (fun E S9 V9 h9 => h9.elim)
  obtain ⟨rfl, rfl, w1, f1, e1⟩ := h9
  obtain ⟨h96, kw, hw⟩ := hK8 t ht8 ht
  refine mk_live (l := 0) (d := 4) (n := t) (k := kw) (dep := 0) (p := 0) (q := (T t).length) (fi := 0) (V := V1) (x := []) hEO hg hK8 rfl ht8 ht hw (by decide) (by decide) (f1.mr hR) (f1.mt hT) (f1.me hE) (hX.fr (e1 529 (by decide) (by decide)) (congrFun (e1 504 (by decide) (by decide)) 32)) ((congrFun (e1 504 (by decide) (by decide)) 33).trans hz) w1 ?_ ?_
  · intro V2 fi2 x2 f2 a2 w2 t2 z2 e2
    have f12 := f1.trans f2
    exact mk_end (f12.mr hR) (f12.mt hT) (by decide) ht8 ht z2 w2 h96 (fun _ => ⟨rfl, rfl, f12, Or.inl ⟨x2, e2.trans (go_end (Nat.le_refl _)), t2, z2⟩⟩) (fun z => absurd z (Nat.lt_irrefl 0))
  · intro V2 c lv f2 hc e2 t2
    exact ⟨rfl, rfl, f1.trans f2, Or.inr ⟨c, lv, hc.1, hc.2, e2, t2⟩⟩

