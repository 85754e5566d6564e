/-! ===== the law: letters ===== -/
def LQ (V : aV) (n nr b st pa : Nat) (rt rr : Nat → Nat) (pd : Nat → Bool) : Prop := V 504 0 = .int (nI n) ∧ V 504 1 = .int (nI nr) ∧ V 504 2 = .int (nI b) ∧ V 504 3 = .int (nI st) ∧ V 504 4 = .int (nI pa) ∧ ∀ i, i < 8 → V 504 (10 + i) = .int (nI (rt i)) ∧ V 504 (20 + i) = .int (nI (rr i)) ∧ V 504 (30 + i) = .int (bI (pd i = true))
def LB (n nr b st : Nat) (rt rr : Nat → Nat) : Prop := 2 ≤ n ∧ n ≤ 9 ∧ 1 ≤ nr ∧ b < 500 ∧ st < 60 ∧ ∀ i, i < 8 → rt i < 3 ∧ rr i < 3
/-- the law and the class stand alike -/
def LW (V : aV) (ent : Nat → EntN) (n : Nat) (mt po : Nat → Nat) (b st pa nr : Nat) (rt rr : Nat → Nat) (pd : Nat → Bool) (kn : Nat → Nat) (kl : Nat → Nat → KL) : Prop := CSt V [] lT lTo ent n mt po b st pa nr rt rr pd kn kl ∧ LQ V n nr b st pa rt rr pd ∧ AA V n ent ∧ MK V 506 mt ∧ MK V 508 po ∧ LB n nr b st rt rr
theorem LQ.fr {V V' : aV} {n nr b st pa : Nat} {rt rr : Nat → Nat} {pd : Nat → Bool} (h : LQ V n nr b st pa rt rr pd) (e : V' 504 = V 504) : LQ V' n nr b st pa rt rr pd := by
  unfold LQ
  rw [e]
  exact h
theorem MK.fr2 {V V' : aV} {q : Nat} {m : Nat → Nat} (h : MK V q m) (e : V' q = V q) : MK V' q m := fun j hj => by rw [e]; exact h j hj
theorem GV.fr {V V' : aV} {n : Nat} {g : Nat → Nat} (h : GV V n g) (e : V' 507 = V 507) : GV V' n g := fun k hk => by rw [e]; exact h k hk
section LTR
variable {ent : Nat → EntN} {n : Nat} {mt po : Nat → Nat} {b st pa nr : Nat} {rt rr : Nat → Nat} {pd : Nat → Bool} {kn : Nat → Nat} {kl : Nat → Nat → KL} {i j : Nat}
/-- the household of a group, out of what the law holds -/
theorem LW.hh {V : aV} (h : LW V ent n mt po b st pa nr rt rr pd kn kl) {k : Nat} (hk : k < n) (hl : gOf mt k &&& (2 ^ k - 1) = 0) : HH ent n (gOf mt k) k := by
  obtain ⟨⟨hI, hS⟩, hq, aa, h6, h8, lb⟩ := h
  have hm := hS.2.2.1.2.2.1
  refine ⟨gOf_l hm (a := k) (by have := lb.2.1; omega), hk, lb.2.1, gOf_self mt k, low_iff.1 hl, fun q hq => gOf_n hm hk hq, fun q hq => ?_, fun q hq => (hS.2.2.1.2.1 q hq).1⟩
  obtain ⟨c, d, e1, e2, -⟩ := aa q hq
  exact ⟨by rw [e1]; rfl, e2⟩
def ckf (ent : Nat → EntN) (b st t G : Nat) : Nat := (b + st * tens (wgt (txW t (fW ent G) (fV ent G)).length (bcn G 12))) * (fV ent G 3 + 2)
/-- what the letters of the first k addresses cost -/
def tot (ent : Nat → EntN) (mt po : Nat → Nat) (b st t r k : Nat) : Nat := ((dLst mt po r k).map (ckf ent b st t)).sum
theorem LW.lt1 {V : aV} (h : LW V ent n mt po b st pa nr rt rr pd kn kl) {k : Nat} (hk : k < n) (hl : gOf mt k &&& (2 ^ k - 1) = 0) (hi : i < 8) : ltr lT lTo ent b st (rt i) (gOf mt k) = .inl (txW (rt i) (fW ent (gOf mt k)) (fV ent (gOf mt k)), wgt (txW (rt i) (fW ent (gOf mt k)) (fV ent (gOf mt k))).length (bcn (gOf mt k) 12), nI (ckf ent b st (rt i) (gOf mt k))) ∧ ckf ent b st (rt i) (gOf mt k) ≤ 5600 ∧ ckf ent b st (rt i) (gOf mt k) = (b + st * tens (wgt (txW (rt i) (fW ent (gOf mt k)) (fV ent (gOf mt k))).length (bcn (gOf mt k) 12))) * ((ent k).2.2.2.1 + 2) := by
  have hh := h.hh hk hl
  obtain ⟨-, -, -, hb, hst, hr⟩ := h.2.2.2.2.2
  obtain ⟨e1, e2⟩ := ltr_tx hh (t := rt i) (hr i hi).1 hb hst
  have e3 : ckf ent b st (rt i) (gOf mt k) = (b + st * tens (wgt (txW (rt i) (fW ent (gOf mt k)) (fV ent (gOf mt k))).length (bcn (gOf mt k) 12))) * ((ent k).2.2.2.1 + 2) := by
    unfold ckf
    rw [hh.v.2.1]
  rw [← e3] at e1 e2
  exact ⟨e1, e2, e3⟩
theorem LW.all {V : aV} (h : LW V ent n mt po b st pa nr rt rr pd kn kl) (hi : i < 8) {r G : Nat} (hG : G ∈ dLst mt po r n) : ∃ x wt, ltr lT lTo ent b st (rt i) G = .inl (x, wt, nI (ckf ent b st (rt i) G)) ∧ ckf ent b st (rt i) G ≤ 5600 := by
  obtain ⟨c, c1, rfl, c2, c3⟩ := (dLst_iff n).1 hG
  obtain ⟨e1, e2, -⟩ := h.lt1 c1 c2 hi
  exact ⟨_, _, e1, e2⟩
theorem tot_le {V : aV} (h : LW V ent n mt po b st pa nr rt rr pd kn kl) (hi : i < 8) {r k : Nat} (hk : k ≤ n) : tot ent mt po b st (rt i) r k ≤ 50400 := by
  have l := dLst_len (mt := mt) (po := po) (r := r) k
  have n9 := h.2.2.2.2.2.2.1
  have s := sum_le (ck := ckf ent b st (rt i)) (dLst mt po r k) (fun g hg => by
    obtain ⟨c, c1, rfl, c2, c3⟩ := (dLst_iff k).1 hg
    exact (h.lt1 (Nat.lt_of_lt_of_le c1 hk) c2 hi).2.1)
  show ((dLst mt po r k).map (ckf ent b st (rt i))).sum ≤ _
  omega
set_option maxHeartbeats 4000000 in
theorem lI {V0 V : aV} {Q : Option Value → aS → aV → Prop} {QX : String → aS → aV → Prop} {mc ms kc ks : Nat} {ps : Int32} {c : Bool} {k : Nat} {l al : Option Value} (h : LW V0 ent n mt po b st pa nr rt rr pd kn kl) (hg : GV V0 n (gOf mt)) (hi : i < nr) (hp : pd i = false) (hj : j < 1000) (f : FrQ V0 V) (hk : k < n) (ht : R mL_letters 15 mc ms Q QX (kc) (ks) 103 [some (.ref 0), some (.ref 504), some (.ref 505), some (.ref 507), some (.ref 508), some (.ref 509), some (.int (nI i)), some (.int ps), l, al, some (.int 1), some (.int (nI k)), some (.int (bI (isO (gOf mt k) po (rr i) c n = true))), none] [] Sh V) : ∀ (m o : Nat), o + m = n → R mL_letters 15 mc ms Q QX (kc) (ks) 47 [some (.ref 0), some (.ref 504), some (.ref 505), some (.ref 507), some (.ref 508), some (.ref 509), some (.int (nI i)), some (.int ps), l, al, some (.int 1), some (.int (nI k)), some (.int (bI (isO (gOf mt k) po (rr i) c o = true))), some (.int (nI o))] [] Sh V := by
  obtain ⟨hC, ⟨e0, e1, e2, e3, e4, er⟩, aa, m6, m8, n2, n9, r1, hb5, hs6, hr3⟩ := id h
  have hs : sym mt n := hC.2.2.2.1.2.2.1
  have i8 : i < 8 := by have := hC.2.2.2.2.2.1; omega
  have r8 := (hr3 i i8).2
  have po8 : ∀ a, a < 12 → po a < 2 ^ 8 := hC.2.2.2.1.2.2.2
  have z0 : V 504 0 = .int (nI n) := (congrFun (f 504 (by decide) (by decide)) 0).trans e0
  have zr : V 504 (20 + i) = .int (nI (rr i)) := (congrFun (f 504 (by decide) (by decide)) _).trans (er i i8).2.1
  have gk : V 507 k = .int (nI (gOf mt k)) := (congrFun (f 507 (by decide) (by decide)) _).trans (hg k hk)
  have lk := gOf_l hs (a := k) (by omega)
  intro m
  induction m with
  | zero =>
    intro o ho
    have e : o = n := by omega
    subst e
    refine R_iload_13 dL_letters_47 ?_
    refine R_aload_1 dL_letters_49 ?_
    refine R_iconst (v := 0) dL_letters_50 (by decide) ?_
    refine R_iald dL_letters_51 sh_504 (vp_in_nI (n := 0) (by decide) (by decide)) rfl z0 ?_
    refine R_icmp_ge 103 dL_letters_52 (by decide) (fun c52 => ?_) (fun c52 => absurd (nI_le (Nat.le_refl _) (by omega)) c52)
    refine R_drop_13 ?_
    exact ht
  | succ m ih =>
    intro o ho
    have wo : V 508 o = .int (nI (po o)) := (congrFun (f 508 (by decide) (by decide)) _).trans (m8 o (by omega)).1
    have lo := po8 o (by omega)
    refine R_iload_13 dL_letters_47 ?_
    refine R_aload_1 dL_letters_49 ?_
    refine R_iconst (v := 0) dL_letters_50 (by decide) ?_
    refine R_iald dL_letters_51 sh_504 (vp_in_nI (n := 0) (by decide) (by decide)) rfl z0 ?_
    refine R_icmp_ge 103 dL_letters_52 (by decide) (fun c52 => absurd c52 (nI_ge (by omega) (by omega))) (fun c52 => ?_)
    refine R_iload_12 dL_letters_55 ?_
    refine R_if_eq 94 dL_letters_57 (by decide) (fun c57 => ?_) (fun c57 => ?_)
    · refine R_iconst (v := 0) dL_letters_94 (by decide) ?_
      refine R_istore_12 rfl (by decide) dL_letters_95 ?_
      refine R_iinc_13 rfl (by decide) dL_letters_97 rfl ?_
      rw [show nI o + Int32.ofInt 1 = nI (o + 1) from nI_1 o]
      refine R_goto 47 dL_letters_100 (by decide) ?_
      have q := ih (o + 1) (by omega)
      first
        | (rw [bI_f (isO_f1 (bI_eq c57))] at q; exact q)
        | (rw [bI_t (isO_t (bI_ne c57) (fun z => bI_eq c69 z.1))] at q; exact q)
        | (rw [bI_t (isO_t (bI_ne c57) (fun z => bI_eq c87 z.2))] at q; exact q)
        | (rw [bI_f (isO_f2 (bI_ne c69) (bI_ne c87))] at q; exact q)
    · refine R_aload_3 dL_letters_60 ?_
      refine R_iload_11 dL_letters_61 ?_
      refine R_iald dL_letters_63 sh_507 (vp_in_nI (by omega) (by decide)) (nI_clamp (by omega)) gk ?_
      refine R_iload_13 dL_letters_64 ?_
      refine R_ishr dL_letters_66 ?_
      refine R_iconst (v := 1) dL_letters_67 (by decide) ?_
      refine R_iand dL_letters_68 ?_
      rw [mb_sh (by omega) (by omega)]
      refine R_if_eq 90 dL_letters_69 (by decide) (fun c69 => ?_) (fun c69 => ?_)
      · refine R_iconst (v := 1) dL_letters_90 (by decide) ?_
        refine R_goto 95 dL_letters_91 (by decide) ?_
        refine R_istore_12 rfl (by decide) dL_letters_95 ?_
        refine R_iinc_13 rfl (by decide) dL_letters_97 rfl ?_
        rw [show nI o + Int32.ofInt 1 = nI (o + 1) from nI_1 o]
        refine R_goto 47 dL_letters_100 (by decide) ?_
        have q := ih (o + 1) (by omega)
        first
          | (rw [bI_f (isO_f1 (bI_eq c57))] at q; exact q)
          | (rw [bI_t (isO_t (bI_ne c57) (fun z => bI_eq c69 z.1))] at q; exact q)
          | (rw [bI_t (isO_t (bI_ne c57) (fun z => bI_eq c87 z.2))] at q; exact q)
          | (rw [bI_f (isO_f2 (bI_ne c69) (bI_ne c87))] at q; exact q)
      · refine R_aload_4 dL_letters_72 ?_
        refine R_iload_13 dL_letters_74 ?_
        refine R_iald dL_letters_76 sh_508 (vp_in_nI (by omega) (by decide)) (nI_clamp (by omega)) wo ?_
        refine R_aload_1 dL_letters_77 ?_
        refine R_bipush (v := 20) dL_letters_78 (by decide) ?_
        refine R_iload_6 dL_letters_80 ?_
        refine R_iadd dL_letters_82 ?_
        rw [show (20 : Int32) + nI i = nI (20 + i) from nI_add 20 i]
        refine R_iald dL_letters_83 sh_504 (vp_in_nI (by omega) (by decide)) (nI_clamp (by omega)) zr ?_
        refine R_ishr dL_letters_84 ?_
        refine R_iconst (v := 1) dL_letters_85 (by decide) ?_
        refine R_iand dL_letters_86 ?_
        rw [mb_sh (by omega) (by omega)]
        refine R_if_ne 94 dL_letters_87 (by decide) (fun c87 => ?_) (fun c87 => ?_)
        · refine R_iconst (v := 0) dL_letters_94 (by decide) ?_
          refine R_istore_12 rfl (by decide) dL_letters_95 ?_
          refine R_iinc_13 rfl (by decide) dL_letters_97 rfl ?_
          rw [show nI o + Int32.ofInt 1 = nI (o + 1) from nI_1 o]
          refine R_goto 47 dL_letters_100 (by decide) ?_
          have q := ih (o + 1) (by omega)
          first
            | (rw [bI_f (isO_f1 (bI_eq c57))] at q; exact q)
            | (rw [bI_t (isO_t (bI_ne c57) (fun z => bI_eq c69 z.1))] at q; exact q)
            | (rw [bI_t (isO_t (bI_ne c57) (fun z => bI_eq c87 z.2))] at q; exact q)
            | (rw [bI_f (isO_f2 (bI_ne c69) (bI_ne c87))] at q; exact q)
        · refine R_iconst (v := 1) dL_letters_90 (by decide) ?_
          refine R_goto 95 dL_letters_91 (by decide) ?_
          refine R_istore_12 rfl (by decide) dL_letters_95 ?_
          refine R_iinc_13 rfl (by decide) dL_letters_97 rfl ?_
          rw [show nI o + Int32.ofInt 1 = nI (o + 1) from nI_1 o]
          refine R_goto 47 dL_letters_100 (by decide) ?_
          have q := ih (o + 1) (by omega)
          first
            | (rw [bI_f (isO_f1 (bI_eq c57))] at q; exact q)
            | (rw [bI_t (isO_t (bI_ne c57) (fun z => bI_eq c69 z.1))] at q; exact q)
            | (rw [bI_t (isO_t (bI_ne c57) (fun z => bI_eq c87 z.2))] at q; exact q)
            | (rw [bI_f (isO_f2 (bI_ne c69) (bI_ne c87))] at q; exact q)
theorem ol_at {V0 : aV} (h : LW V0 ent n mt po b st pa nr rt rr pd kn kl) (hg : GV V0 n (gOf mt)) (hi : i < nr) (hp : pd i = false) (hj : j < 1000) {k : Nat} (hk : k < n) (h1 : gOf mt k &&& (2 ^ k - 1) = 0) (h2 : ¬ wP po (gOf mt k) (rr i) 0) : OL lT lTo ent n mt po b st nr rt rr pd i (dLst mt po (rr i) k).length (gOf mt k) (txW (rt i) (fW ent (gOf mt k)) (fV ent (gOf mt k)), wgt (txW (rt i) (fW ent (gOf mt k)) (fV ent (gOf mt k))).length (bcn (gOf mt k) 12), nI (ckf ent b st (rt i) (gOf mt k))) := by
  obtain ⟨hC, ⟨e0, e1, e2, e3, e4, er⟩, aa, m6, m8, n2, n9, r1, hb5, hs6, hr3⟩ := id h
  have hs : sym mt n := hC.2.2.2.1.2.2.1
  have i8 : i < 8 := by have := hC.2.2.2.2.2.1; omega
  have r8 := (hr3 i i8).2
  have po8 : ∀ a, a < 12 → po a < 2 ^ 8 := hC.2.2.2.1.2.2.2
  obtain ⟨d1, d2⟩ := dLst_at hk h1 h2
  have d3 := dLst_len (mt := mt) (po := po) (r := rr i) k
  exact ⟨hi, i8, hp, d1, by omega, d2, (h.lt1 hk h1 i8).1⟩
set_option maxHeartbeats 8000000 in
theorem lBd {V0 V : aV} {Q : Option Value → aS → aV → Prop} {QX : String → aS → aV → Prop} {mc ms kc ks : Nat} {ps : Int32} {c : Bool} {k : Nat} (h : LW V0 ent n mt po b st pa nr rt rr pd kn kl) (hg : GV V0 n (gOf mt)) (hi : i < nr) (hp : pd i = false) (hj : j < 1000) (hv : CSt V [] lT lTo ent n mt po b st pa nr rt rr pd kn kl) (f : FrQ V0 V) (h9 : V 509 1 = .int (nI j)) (hk : k < n) (hcl : c = true ↔ gOf mt k &&& (2 ^ k - 1) = 0) (ht : ∀ V', CSt V' [] lT lTo ent n mt po b st pa nr rt rr pd kn kl → FrQ V0 V' → V' 509 1 = .int (nI j) → R mL_letters 15 mc ms Q QX (kc) (ks) 12 [some (.ref 0), some (.ref 504), some (.ref 505), some (.ref 507), some (.ref 508), some (.ref 509), some (.int (nI i)), some (.int ps), some (.int (nI (dLst mt po (rr i) (k + 1)).length)), some (.int (nI (tot ent mt po b st (rt i) (rr i) (k + 1)))), some (.int 1), some (.int (nI (k + 1))), none, none] [] Sh V') : R mL_letters 15 mc ms Q QX (kc + 509) (ks + 3054) 103 [some (.ref 0), some (.ref 504), some (.ref 505), some (.ref 507), some (.ref 508), some (.ref 509), some (.int (nI i)), some (.int ps), some (.int (nI (dLst mt po (rr i) k).length)), some (.int (nI (tot ent mt po b st (rt i) (rr i) k))), some (.int 1), some (.int (nI k)), some (.int (bI (isO (gOf mt k) po (rr i) c n = true))), none] [] Sh V := by
  obtain ⟨hC, ⟨e0, e1, e2, e3, e4, er⟩, aa, m6, m8, n2, n9, r1, hb5, hs6, hr3⟩ := id h
  have hs : sym mt n := hC.2.2.2.1.2.2.1
  have i8 : i < 8 := by have := hC.2.2.2.2.2.1; omega
  have r8 := (hr3 i i8).2
  have po8 : ∀ a, a < 12 → po a < 2 ^ 8 := hC.2.2.2.1.2.2.2
  have gn : ∀ q, (gOf mt k).testBit q = true → q < n := fun q z => gOf_n hs hk z
  have iw := isO_wP (G := gOf mt k) (po := po) (r := rr i) (c := c) (n := n) (by omega) gn
  have FIN : ∀ V', CSt V' [] lT lTo ent n mt po b st pa nr rt rr pd kn kl → FrQ V0 V' → V' 509 1 = .int (nI j) → R mL_letters 15 mc ms Q QX (kc) (ks) 297 [some (.ref 0), some (.ref 504), some (.ref 505), some (.ref 507), some (.ref 508), some (.ref 509), some (.int (nI i)), some (.int ps), some (.int (nI (dLst mt po (rr i) (k + 1)).length)), some (.int (nI (tot ent mt po b st (rt i) (rr i) (k + 1)))), some (.int 1), some (.int (nI k)), some (.int (bI (isO (gOf mt k) po (rr i) c n = true))), none] [] Sh V' := by
    intro V' q1 q2 q3
    refine R_iinc_11 rfl (by decide) dL_letters_297 rfl ?_
    rw [show nI k + Int32.ofInt 1 = nI (k + 1) from nI_1 k]
    refine R_goto 12 dL_letters_300 (by decide) ?_
    refine R_drop_12 ?_
    exact ht V' q1 q2 q3
  refine R_iload_12 dL_letters_103 ?_
  refine R_if_eq 297 dL_letters_105 (by decide) (fun c105 => ?_) (fun c105 => ?_)
  · first
      | (refine R_less (kc' := kc) (ks' := ks) (by omega) (by omega) ?_
         have hz : ¬ isO (gOf mt k) po (rr i) c n = true := bI_eq c105
         have ed : dLst mt po (rr i) (k + 1) = dLst mt po (rr i) k := by
           by_cases q : gOf mt k &&& (2 ^ k - 1) = 0
           · exact dLst_n2 (Classical.byContradiction fun z => hz (iw.2 ⟨hcl.2 q, z⟩))
           · exact dLst_n1 q
         have et : tot ent mt po b st (rt i) (rr i) (k + 1) = tot ent mt po b st (rt i) (rr i) k := by unfold tot; rw [ed]
         have q := FIN V hv f h9
         rw [ed, et] at q
         exact q)
      | (have j18 := (congrFun (f18 509 (by decide)) 1).trans ((congrFun (f17 509 (by decide)) 1).trans ((congrFun (f16 509 (by decide)) 1).trans ((congrFun (f15 509 (by decide)) 1).trans ((congrFun (f14 509 (by decide)) 1).trans j4))))
         rw [show nI (dLst mt po (rr i) k).length + Int32.ofInt 1 = nI ((dLst mt po (rr i) k).length + 1) from nI_1 _]
         have q := FIN _ h18 (f4.trans (f14.q.trans (f15.q.trans (f16.q.trans (f17.q.trans f18.q))))) j18
         rw [el, et] at q
         refine R_drop_13 ?_
         exact q)
  · have hy := iw.1 (bI_ne c105)
    have hlow := hcl.1 hy.1
    have o := ol_at h hg hi hp hj hk hlow hy.2
    have hh := h.hh hk hlow
    obtain ⟨-, ck5, cke⟩ := h.lt1 hk hlow i8
    have ed := dLst_y hlow hy.2
    have et : tot ent mt po b st (rt i) (rr i) (k + 1) = tot ent mt po b st (rt i) (rr i) k + ckf ent b st (rt i) (gOf mt k) := by
      unfold tot
      rw [ed, List.map_append, List.sum_append, List.map_cons, List.map_nil, List.sum_cons, List.sum_nil, Nat.add_zero]
    have el : (dLst mt po (rr i) (k + 1)).length = (dLst mt po (rr i) k).length + 1 := by rw [ed, List.length_append]; rfl
    have x114 := hh.len (rt i)
    have bc := hh.bc
    generalize hX : txW (rt i) (fW ent (gOf mt k)) (fV ent (gOf mt k)) = X at *
    generalize hck : ckf ent b st (rt i) (gOf mt k) = CK at *
    have e238 : nI (wgt X.length (bcn (gOf mt k) 12)) = (6 : Int32) + (3 : Int32) * ((nI X.length + 19) / 20) + (2 : Int32) * nI (bcn (gOf mt k) 12) := by
      rw [show nI X.length + 19 = nI (X.length + 19) from nI_add _ 19, show nI (X.length + 19) / 20 = nI ((X.length + 19) / 20) from pk_div (d := 20) (by omega) (by decide) (by decide), show (3 : Int32) * nI ((X.length + 19) / 20) = nI (3 * ((X.length + 19) / 20)) from pk_mul 3 _, show (6 : Int32) + nI (3 * ((X.length + 19) / 20)) = nI (6 + 3 * ((X.length + 19) / 20)) from nI_add 6 _, show (2 : Int32) * nI (bcn (gOf mt k) 12) = nI (2 * bcn (gOf mt k) 12) from pk_mul 2 _, nI_add]
      unfold wgt
      congr 1
      omega
    refine R_less (kc' := kc + 3 + 2 + 3 + 3 + 3 + 489 + 3 + 3) (ks' := ks + 18 + 12 + 18 + 18 + 18 + 2934 + 18 + 18) (by omega) (by omega) ?_
    refine R_aload_0 dL_letters_108 ?_
    refine R_iload_6 dL_letters_109 ?_
    refine R_iload_8 dL_letters_111 ?_
    refine R_iconst (v := 0) dL_letters_113 (by decide) ?_
    refine R_callV (T := mL_letters) (T' := mX11_letter) (As := [_, _, _]) (mc' := 3) (ms' := 18) (ci := 11) okX11_letter mlL_85 rfl (by decide) sh_0 (lc_letter (k := 0) hv o (by decide)) rfl (by decide) (by decide) (Nat.le_of_ble_eq_true rfl) dL_letters_114 (fun v9 S9 V9 u9 => ?_) (fun E S9 V9 h9 => h9.elim)
    obtain ⟨rfl, rfl, h10, f10⟩ := u9
    refine R_aload_3 dL_letters_117 ?_
    refine R_iload_11 dL_letters_118 ?_
    have f2 := f.trans f10.q
    refine R_iald dL_letters_120 sh_507 (vp_in_nI (by omega) (by decide)) (nI_clamp (by omega)) ((congrFun (f2 507 (by decide) (by decide)) _).trans (hg k hk)) ?_
    refine R_icmp_ne 165 dL_letters_121 (by decide) (fun c121 => absurd rfl c121) (fun c121 => ?_)
    refine R_aload_0 dL_letters_124 ?_
    refine R_iload_6 dL_letters_125 ?_
    refine R_iload_8 dL_letters_127 ?_
    refine R_iconst (v := 1) dL_letters_129 (by decide) ?_
    refine R_callV (T := mL_letters) (T' := mX11_letter) (As := [_, _, _]) (mc' := 3) (ms' := 18) (ci := 11) okX11_letter mlL_85 rfl (by decide) sh_0 (lc_letter (k := 1) h10 o (by decide)) rfl (by decide) (by decide) (Nat.le_of_ble_eq_true rfl) dL_letters_130 (fun v9 S9 V9 u9 => ?_) (fun E S9 V9 h9 => h9.elim)
    obtain ⟨rfl, rfl, h11, f11⟩ := u9
    refine R_if_ne 165 dL_letters_133 (by decide) (fun c133 => absurd rfl c133) (fun c133 => ?_)
    refine R_aload_0 dL_letters_136 ?_
    refine R_aload_2 dL_letters_137 ?_
    refine R_aload_1 dL_letters_138 ?_
    refine R_bipush (v := 10) dL_letters_139 (by decide) ?_
    refine R_iload_6 dL_letters_141 ?_
    refine R_iadd dL_letters_143 ?_
    have f3 := (f.trans f10.q).trans f11.q
    have j3 := (congrFun (f11 509 (by decide)) 1).trans ((congrFun (f10 509 (by decide)) 1).trans h9)
    rw [show (10 : Int32) + nI i = nI (10 + i) from nI_add 10 i]
    refine R_iald dL_letters_144 sh_504 (vp_in_nI (by omega) (by decide)) (nI_clamp (by omega)) ((congrFun (f3 504 (by decide) (by decide)) _).trans (er i i8).1) ?_
    refine R_iload_6 dL_letters_145 ?_
    refine R_iload_8 dL_letters_147 ?_
    refine R_aload_5 dL_letters_149 ?_
    refine R_aload_3 dL_letters_151 ?_
    refine R_iload_11 dL_letters_152 ?_
    refine R_iald dL_letters_154 sh_507 (vp_in_nI (by omega) (by decide)) (nI_clamp (by omega)) ((congrFun (f3 507 (by decide) (by decide)) _).trans (hg k hk)) ?_
    refine R_callS (T := mL_letters) (T' := mL_text) (As := [_, _, _, _, _, _, _]) (mc' := 489) (ms' := 2934) okL_text mlL_89 rfl (ct_text hh (f3.aa aa) h11 j3 o hj (hr3 i i8).1 hX.symm) rfl (by decide) (by decide) (Nat.le_of_ble_eq_true rfl) dL_letters_155 (fun v9 S9 V9 u9 => ?_) (fun E S9 V9 h9 => h9.elim)
    obtain ⟨rfl, rfl, ⟨h12, p4, j4⟩, f12⟩ := u9
    change _ = Value.int (nI X.length) at p4
    have f4 := f3.trans f12
    refine R_if_eq 165 dL_letters_158 (by decide) (fun c158 => absurd c158 (by decide)) (fun c158 => ?_)
    refine R_iconst (v := 1) dL_letters_161 (by decide) ?_
    refine R_goto 166 dL_letters_162 (by decide) ?_
    refine R_istore_10 rfl (by decide) dL_letters_166 ?_
    refine R_aload_1 dL_letters_168 ?_
    refine R_aload_2 dL_letters_169 ?_
    refine R_aload_5 dL_letters_170 ?_
    refine R_iconst (v := 0) dL_letters_172 (by decide) ?_
    refine R_iald dL_letters_173 sh_509 (vp_in_nI (n := 0) (by decide) (by decide)) rfl p4 ?_
    refine R_aload_3 dL_letters_174 ?_
    refine R_iload_11 dL_letters_175 ?_
    refine R_iald dL_letters_177 sh_507 (vp_in_nI (by omega) (by decide)) (nI_clamp (by omega)) ((congrFun (f4 507 (by decide) (by decide)) _).trans (hg k hk)) ?_
    refine R_callS_e (T := mL_letters) (T' := mL_cost) (As := [_, _, _, _]) (mc' := 0) (ms' := 0) okL_cost mlL_93 rfl (ct_cost hh (f4.aa aa) ((congrFun (f4 504 (by decide) (by decide)) _).trans e2) ((congrFun (f4 504 (by decide) (by decide)) _).trans e3) (s := X.length) (by omega)) rfl (by decide) (by decide) (Nat.le_of_ble_eq_true rfl) dL_letters_178 ?_
    rw [← cke]
    refine R_istore_13 rfl (by decide) dL_letters_181 ?_
    refine R_iload_10 dL_letters_183 ?_
    refine R_if_eq 284 dL_letters_185 (by decide) (fun c185 => absurd c185 (by decide)) (fun c185 => ?_)
    refine R_aload_0 dL_letters_188 ?_
    refine R_iload_6 dL_letters_189 ?_
    refine R_iload_8 dL_letters_191 ?_
    refine R_iconst (v := 2) dL_letters_193 (by decide) ?_
    refine R_callV (T := mL_letters) (T' := mX11_letter) (As := [_, _, _]) (mc' := 3) (ms' := 18) (ci := 11) okX11_letter mlL_85 rfl (by decide) sh_0 (lc_letter (k := 2) h12 o (by decide)) rfl (by decide) (by decide) (Nat.le_of_ble_eq_true rfl) dL_letters_194 (fun v9 S9 V9 u9 => ?_) (fun E S9 V9 h9 => h9.elim)
    obtain ⟨rfl, rfl, h14, f14⟩ := u9
    refine R_aload_5 dL_letters_197 ?_
    refine R_iconst (v := 0) dL_letters_199 (by decide) ?_
    have p5 := (congrFun (f14 509 (by decide)) 0).trans p4
    refine R_iald dL_letters_200 sh_509 (vp_in_nI (n := 0) (by decide) (by decide)) rfl p5 ?_
    refine R_icmp_ne 284 dL_letters_201 (by decide) (fun c201 => absurd rfl c201) (fun c201 => ?_)
    refine R_aload_0 dL_letters_204 ?_
    refine R_iload_6 dL_letters_205 ?_
    refine R_iload_8 dL_letters_207 ?_
    refine R_iconst (v := 3) dL_letters_209 (by decide) ?_
    refine R_callV (T := mL_letters) (T' := mX11_letter) (As := [_, _, _]) (mc' := 3) (ms' := 18) (ci := 11) okX11_letter mlL_85 rfl (by decide) sh_0 (lc_letter (k := 3) h14 o (by decide)) rfl (by decide) (by decide) (Nat.le_of_ble_eq_true rfl) dL_letters_210 (fun v9 S9 V9 u9 => ?_) (fun E S9 V9 h9 => h9.elim)
    obtain ⟨rfl, rfl, h15, f15⟩ := u9
    refine R_bipush (v := 6) dL_letters_213 (by decide) ?_
    refine R_iconst (v := 3) dL_letters_215 (by decide) ?_
    refine R_aload_5 dL_letters_216 ?_
    refine R_iconst (v := 0) dL_letters_218 (by decide) ?_
    have p6 := (congrFun (f15 509 (by decide)) 0).trans p5
    have f6 := f4.trans (f14.q.trans f15.q)
    refine R_iald dL_letters_219 sh_509 (vp_in_nI (n := 0) (by decide) (by decide)) rfl p6 ?_
    refine R_bipush (v := 19) dL_letters_220 (by decide) ?_
    refine R_iadd dL_letters_222 ?_
    refine R_bipush (v := 20) dL_letters_223 (by decide) ?_
    refine R_idiv dL_letters_225 (by decide) ?_
    refine R_imul dL_letters_226 ?_
    refine R_iadd dL_letters_227 ?_
    refine R_iconst (v := 2) dL_letters_228 (by decide) ?_
    refine R_aload_3 dL_letters_229 ?_
    refine R_iload_11 dL_letters_230 ?_
    refine R_iald dL_letters_232 sh_507 (vp_in_nI (by omega) (by decide)) (nI_clamp (by omega)) ((congrFun (f6 507 (by decide) (by decide)) _).trans (hg k hk)) ?_
    refine R_callS_e (T := mL_letters) (T' := mL_many) (As := [_]) (mc' := 0) (ms' := 0) okL_many mlL_75 rfl (ct_many hh.1) rfl (by decide) (by decide) (Nat.le_of_ble_eq_true rfl) dL_letters_233 ?_
    refine R_imul dL_letters_236 ?_
    refine R_iadd dL_letters_237 ?_
    refine R_icmp_ne 284 dL_letters_238 (by decide) (fun c238 => absurd e238 c238) (fun c238 => ?_)
    refine R_aload_0 dL_letters_241 ?_
    refine R_iload_6 dL_letters_242 ?_
    refine R_iload_8 dL_letters_244 ?_
    refine R_iconst (v := 4) dL_letters_246 (by decide) ?_
    refine R_callV (T := mL_letters) (T' := mX11_letter) (As := [_, _, _]) (mc' := 3) (ms' := 18) (ci := 11) okX11_letter mlL_85 rfl (by decide) sh_0 (lc_letter (k := 4) h15 o (by decide)) rfl (by decide) (by decide) (Nat.le_of_ble_eq_true rfl) dL_letters_247 (fun v9 S9 V9 u9 => ?_) (fun E S9 V9 h9 => h9.elim)
    obtain ⟨rfl, rfl, h16, f16⟩ := u9
    refine R_iload_13 dL_letters_250 ?_
    refine R_icmp_ne 284 dL_letters_252 (by decide) (fun c252 => absurd rfl c252) (fun c252 => ?_)
    refine R_aload_0 dL_letters_255 ?_
    refine R_iload_6 dL_letters_256 ?_
    refine R_iload_8 dL_letters_258 ?_
    refine R_callV (T := mL_letters) (T' := mX11_anew) (As := [_, _]) (mc' := 2) (ms' := 12) (ci := 11) okX11_anew mlL_97 rfl (by decide) sh_0 (lc_anew h16 o) rfl (by decide) (by decide) (Nat.le_of_ble_eq_true rfl) dL_letters_260 (fun v9 S9 V9 u9 => ?_) (fun E S9 V9 h9 => h9.elim)
    obtain ⟨rfl, rfl, h17, f17⟩ := u9
    refine R_if_ne 284 dL_letters_263 (by decide) (fun c263 => absurd rfl c263) (fun c263 => ?_)
    refine R_aload_0 dL_letters_266 ?_
    refine R_iload_6 dL_letters_267 ?_
    refine R_iload_8 dL_letters_269 ?_
    refine R_iconst (v := 0) dL_letters_271 (by decide) ?_
    refine R_iconst (v := 0) dL_letters_272 (by decide) ?_
    refine R_callV (T := mL_letters) (T' := mX11_trouble) (As := [_, _, _, _]) (mc' := 3) (ms' := 18) (ci := 11) okX11_trouble mlL_100 rfl (by decide) sh_0 (lc_trouble h17 o) rfl (by decide) (by decide) (Nat.le_of_ble_eq_true rfl) dL_letters_273 (fun v9 S9 V9 u9 => ?_) (fun E S9 V9 h9 => h9.elim)
    obtain ⟨rfl, rfl, h18, f18⟩ := u9
    refine R_iconst (v := -1) dL_letters_276 (by decide) ?_
    refine R_icmp_ne 284 dL_letters_277 (by decide) (fun c277 => absurd rfl c277) (fun c277 => ?_)
    refine R_iconst (v := 1) dL_letters_280 (by decide) ?_
    refine R_goto 285 dL_letters_281 (by decide) ?_
    refine R_istore_10 rfl (by decide) dL_letters_285 ?_
    refine R_iload_9 dL_letters_287 ?_
    refine R_iload_13 dL_letters_289 ?_
    refine R_iadd dL_letters_291 ?_
    rw [nI_add]
    refine R_istore_9 rfl (by decide) dL_letters_292 ?_
    refine R_iinc_8 rfl (by decide) dL_letters_294 rfl ?_
    first
      | (refine R_less (kc' := kc) (ks' := ks) (by omega) (by omega) ?_
         have hz : ¬ isO (gOf mt k) po (rr i) c n = true := bI_eq c105
         have ed : dLst mt po (rr i) (k + 1) = dLst mt po (rr i) k := by
           by_cases q : gOf mt k &&& (2 ^ k - 1) = 0
           · exact dLst_n2 (Classical.byContradiction fun z => hz (iw.2 ⟨hcl.2 q, z⟩))
           · exact dLst_n1 q
         have et : tot ent mt po b st (rt i) (rr i) (k + 1) = tot ent mt po b st (rt i) (rr i) k := by unfold tot; rw [ed]
         have q := FIN V hv f h9
         rw [ed, et] at q
         exact q)
      | (have j18 := (congrFun (f18 509 (by decide)) 1).trans ((congrFun (f17 509 (by decide)) 1).trans ((congrFun (f16 509 (by decide)) 1).trans ((congrFun (f15 509 (by decide)) 1).trans ((congrFun (f14 509 (by decide)) 1).trans j4))))
         rw [show nI (dLst mt po (rr i) k).length + Int32.ofInt 1 = nI ((dLst mt po (rr i) k).length + 1) from nI_1 _]
         have q := FIN _ h18 (f4.trans (f14.q.trans (f15.q.trans (f16.q.trans (f17.q.trans f18.q))))) j18
         rw [el, et] at q
         refine R_drop_13 ?_
         exact q)
end LTR
