/-! ===== MergePostModel: template ===== -/
def MT (V : aV) (T : Nat → List Int32) (to : Nat → Bool) : Prop := ∀ n, n < 8 → V 507 n = .int (if to n = true then nI (T n).length else -1) ∧ (to n = true → RWS V 506 (96 * n) (T n))
/-- the line is a template; where it is none -/
noncomputable def tpS (L : List Int32) : Bool := match rAll L 96 0 [] (fun _ => none) with
  | .inl _ => false
  | .inr r => decide (r.2.1.length = 0)
noncomputable def tpF (L : List Int32) : Nat := match rAll L 96 0 [] (fun _ => none) with
  | .inl q => q
  | .inr _ => L.length
noncomputable def tpA (L : List Int32) : Int32 := if tpS L = true then nI L.length else -1 - nI (tpF L)
def xcT (t : Int32) : Nat := if ¬ t < 0 ∧ t < 8 then 0 else 1
theorem tp_or (L : List Int32) (hl : L.length ≤ 96) (hc : ∀ q, rAll L 96 0 [] (fun _ => none) = .inl q → q < 2000) : (tpS L = true ∧ wiV L (rAll L 96 0 [] (fun _ => none)) = -1) ∨ (tpS L = false ∧ tpF L < 2000 ∧ wiV L (rAll L 96 0 [] (fun _ => none)) = nI (tpF L)) := by
  unfold tpS tpF
  cases h : rAll L 96 0 [] (fun _ => none) with
  | inl q => exact Or.inr ⟨rfl, hc q h, rfl⟩
  | inr r =>
    by_cases z : r.2.1.length = 0
    · exact Or.inl ⟨decide_eq_true z, if_pos z⟩
    · exact Or.inr ⟨decide_eq_false z, by show L.length < 2000; omega, if_neg z⟩
theorem rP_lt {L : List Int32} {p q : Nat} {mks : List Nat} {jm : Nat → Option Nat} (hl : L.length ≤ 96) (hp : p < L.length) (h : rPart L p mks jm = .inl q) : q < 2000 := by
  by_cases c1 : L.getD p 0 = 60
  · by_cases h1 : isFd (L.getD (p + 1) 0)
    · by_cases h2 : L.getD (p + 2) 0 = 62
      · rw [rP_f2 c1 h1 h2] at h; cases h
      · rw [rP_f1 c1 h1 h2] at h; cases h; omega
    · rw [rP_f0 c1 h1] at h; cases h; omega
  by_cases c2 : L.getD p 0 = 64
  · by_cases h1 : isDg (L.getD (p + 1) 0) 55
    · rw [rP_a1 c2 h1] at h; cases h
    · rw [rP_a0 c2 h1] at h; cases h; omega
  by_cases c3 : L.getD p 0 = 91
  · by_cases h1 : 5 ≤ mks.length
    · rw [rP_o5 c3 h1] at h; cases h; omega
    · rw [rP_o c3 h1] at h
      cases e : hdE L p with
      | inl z => rw [e] at h; cases h; exact hd_lt hl hp e
      | inr z => rw [e] at h; cases h
  by_cases c4 : L.getD p 0 = 124
  · rw [rP_t c4] at h
    unfold rTurn at h
    split at h
    · cases h; omega
    · split at h
      · cases h
      · cases h; omega
  by_cases c5 : L.getD p 0 = 93
  · rw [rP_c c5] at h
    unfold rClose at h
    split at h
    · cases h; omega
    · split at h
      · cases h
      · cases h; omega
  rw [rP_s c1 c2 c3 c4 c5] at h; cases h
theorem rAll_inl {L : List Int32} (hl : L.length ≤ 96) : ∀ {m p q : Nat} {mks : List Nat} {jm : Nat → Option Nat}, rAll L m p mks jm = .inl q → q < 2000 := by
  intro m
  induction m with
  | zero => intro p q mks jm h; cases h
  | succ m ih =>
    intro p q mks jm h
    by_cases c : L.length ≤ p
    · rw [rAll_end c] at h; cases h
    · cases e : rPart L p mks jm with
      | inl z => rw [rAll_l c e] at h; cases h; exact rP_lt hl (by omega) e
      | inr z => rw [rAll_r c e] at h; exact ih h
/-- while the template is laid -/
def TCI (V0 V : aV) (n : Nat) (L : List Int32) (j : Nat) : Prop := (∀ i, i < j → V 506 (96 * n + i) = .int (L.getD i 0)) ∧ (∀ q, (q < 96 * n ∨ 96 * n + 96 ≤ q) → V 506 q = V0 506 q) ∧ ∀ b, b ≠ 506 → V b = V0 b
theorem TCI.s {V0 V : aV} {n : Nat} {L : List Int32} {j : Nat} (h : TCI V0 V n L j) (hj : j < 96) : TCI V0 (a_up V 506 (96 * n + j) (.int (L.getD j 0))) n L (j + 1) := by
  obtain ⟨h1, h2, h3⟩ := h
  refine ⟨fun i hi => ?_, fun q hq => (a_up_ne (Or.inr (by omega))).trans (h2 q hq), fun b hb => (a_up_row hb).trans (h3 b hb)⟩
  by_cases q : i = j
  · subst q; exact a_up_self _ _ _ _
  · exact (a_up_ne (Or.inr (by omega))).trans (h1 i (by omega))
set_option maxHeartbeats 4000000 in
theorem tc_loop {mc ms kc ks : Nat} {V0 : aV} {L : List Int32} {n : Nat} {wr : Int32} (hR0 : MR V0) (hn : n < 8) (hl : L.length ≤ 96) (hL : ∀ j, j < L.length → V0 505 j = .int (L.getD j 0)) {Q : Option Value → aS → aV → Prop} {QX : String → aS → aV → Prop} (hQ : ∀ V', TCI V0 V' n L L.length → Q (some (.int (nI L.length))) Sh V') : ∀ (m j : Nat) (V : aV), j + m = L.length → TCI V0 V n L j → R mX12_template 3 mc ms Q QX kc ks 58 [some (.ref 504), some (.int (nI n)), some (.int wr), some (.int (nI L.length)), some (.int (nI j))] [] Sh V := by
  intro m
  induction m with
  | zero =>
    intro j V hj hT
    have hj' : j = L.length := by omega
    subst hj'
    refine R_iload_4 dX12_template_58 ?_
    refine R_iload_3 dX12_template_60 ?_
    refine R_icmp_ge 89 dX12_template_61 (by decide) (fun c61 => ?_) (fun c61 => absurd (Int32.le_refl _) c61)
    refine R_iload_3 dX12_template_89 ?_
    refine R_iret rfl dX12_template_90 (hQ V hT)
  | succ m ih =>
    intro j V hj hT
    have hR : MR V := hR0.fr (fun k _ => congrFun (hT.2.2 504 (by decide)) k)
    have hjl : j < L.length := by omega
    have hch := (congrFun (hT.2.2 505 (by decide)) j).trans (hL j hjl)
    have b9 : ¬ nI L.length ≤ nI j := nI_ge (by omega) (by omega)
    refine R_iload_4 dX12_template_58 ?_
    refine R_iload_3 dX12_template_60 ?_
    refine R_icmp_ge 89 dX12_template_61 (by decide) (fun c61 => absurd c61 b9) (fun c61 => ?_)
    refine R_aload_0 dX12_template_64 ?_
    refine gfX12_13 rfl dX12_template_65 sh_504 (by first | exact hR.g (k := 3) (a := 506) (by decide) | exact (a_up_ne (by omega)).trans (hR.g (k := 3) (a := 506) (by decide)) | exact (a_up_ne (by omega)).trans ((a_up_ne (by omega)).trans (hR.g (k := 3) (a := 506) (by decide))) | exact (a_up_ne (by omega)).trans ((a_up_ne (by omega)).trans ((a_up_ne (by omega)).trans (hR.g (k := 3) (a := 506) (by decide)))) | exact (a_up_ne (by omega)).trans ((a_up_ne (by omega)).trans ((a_up_ne (by omega)).trans ((a_up_ne (by omega)).trans (hR.g (k := 3) (a := 506) (by decide))))) | exact (a_up_ne (by omega)).trans ((a_up_ne (by omega)).trans ((a_up_ne (by omega)).trans ((a_up_ne (by omega)).trans ((a_up_ne (by omega)).trans (hR.g (k := 3) (a := 506) (by decide)))))) | exact (a_up_ne (by omega)).trans ((a_up_ne (by omega)).trans ((a_up_ne (by omega)).trans ((a_up_ne (by omega)).trans ((a_up_ne (by omega)).trans ((a_up_ne (by omega)).trans (hR.g (k := 3) (a := 506) (by decide)))))))) ?_
    refine R_bipush (v := 96) dX12_template_68 (by decide) ?_
    refine R_iload_1 dX12_template_70 ?_
    refine R_imul dX12_template_71 ?_
    refine R_iload_4 dX12_template_72 ?_
    refine R_iadd dX12_template_74 ?_
    refine R_aload_0 dX12_template_75 ?_
    refine gfX12_7 rfl dX12_template_76 sh_504 (by first | exact hR.g (k := 1) (a := 505) (by decide) | exact (a_up_ne (by omega)).trans (hR.g (k := 1) (a := 505) (by decide)) | exact (a_up_ne (by omega)).trans ((a_up_ne (by omega)).trans (hR.g (k := 1) (a := 505) (by decide))) | exact (a_up_ne (by omega)).trans ((a_up_ne (by omega)).trans ((a_up_ne (by omega)).trans (hR.g (k := 1) (a := 505) (by decide)))) | exact (a_up_ne (by omega)).trans ((a_up_ne (by omega)).trans ((a_up_ne (by omega)).trans ((a_up_ne (by omega)).trans (hR.g (k := 1) (a := 505) (by decide))))) | exact (a_up_ne (by omega)).trans ((a_up_ne (by omega)).trans ((a_up_ne (by omega)).trans ((a_up_ne (by omega)).trans ((a_up_ne (by omega)).trans (hR.g (k := 1) (a := 505) (by decide)))))) | exact (a_up_ne (by omega)).trans ((a_up_ne (by omega)).trans ((a_up_ne (by omega)).trans ((a_up_ne (by omega)).trans ((a_up_ne (by omega)).trans ((a_up_ne (by omega)).trans (hR.g (k := 1) (a := 505) (by decide)))))))) ?_
    refine R_iload_4 dX12_template_79 ?_
    refine R_ialdE dX12_template_81 sh_505 rfl (by omega) (by decide) hch ?_
    refine R_iastE dX12_template_82 sh_506 (ix1 96 n j) (by omega) (by decide) ?_
    refine R_iinc_4 rfl (by decide) dX12_template_83 rfl ?_
    rw [show nI j + Int32.ofInt 1 = nI (j + 1) from nI_1 j]
    refine R_goto 58 dX12_template_86 (by decide) ?_
    exact ih (j + 1) _ (by omega) (hT.s (by omega))
theorem MT.fr {V V' : aV} {T : Nat → List Int32} {to : Nat → Bool} (h : MT V T to) (e6 : V' 506 = V 506) (e7 : V' 507 = V 507) : MT V' T to := fun n hn => ⟨by rw [e7]; exact (h n hn).1, fun z => ((h n hn).2 z).fr e6⟩
theorem ML.nil {V : aV} (h : V 504 2 = .int 0) : ML V [] := ⟨h, fun j hj => absurd hj (Nat.not_lt_zero j), Nat.zero_le _, fun c hc => absurd hc List.not_mem_nil⟩
theorem MT.new {V V0 : aV} {T : Nat → List Int32} {to : Nat → Bool} {n : Nat} {L : List Int32} (h : MT V0 T to) (hn : n < 8) (h96 : ∀ k, (T k).length ≤ 96) (hT : TCI (a_up V0 507 n (.int (nI L.length))) V n L L.length) : MT V (upN T n L) (upN to n true) := fun k hk => by
  have e7 : V 507 = a_up V0 507 n (.int (nI L.length)) 507 := hT.2.2 507 (by decide)
  by_cases q : k = n
  · subst q
    rw [upN_s, upN_s, e7, a_up_self, if_pos rfl]
    exact ⟨rfl, fun _ j hj => hT.1 j hj⟩
  · rw [upN_n q, upN_n q, e7]
    refine ⟨(a_up_ne (Or.inr q)).trans (h k hk).1, fun z j hj => ?_⟩
    have := h96 k
    rw [hT.2.1 (96 * k + j) (by rcases Nat.lt_or_gt_of_ne q with q | q <;> omega)]
    exact (congrFun (a_up_row (by decide)) _).trans ((h k hk).2 z j hj)
def MTeP (V : aV) (L : List Int32) (T : Nat → List Int32) (to : Nat → Bool) (t : Int32) : Option Value → aS → aV → Prop := fun v S' V' => Sh = S' ∧ V' 504 0 = .int (nI (xcT t)) ∧ (∃ y, v = some (.int y) ∧ (xcT t = 0 → y = tpA L)) ∧ ML V' (if xcT t = 0 then [] else L) ∧ MT V' (if xcT t = 0 ∧ tpS L = true then upN T t.toNatClampNeg L else T) (if xcT t = 0 ∧ tpS L = true then upN to t.toNatClampNeg true else to) ∧ (∀ b, b ≠ 504 → b ≠ 506 → b ≠ 507 → V' b = V b) ∧ ∀ k, k ≠ 0 → k ≠ 2 → V' 504 k = V 504 k
set_option maxHeartbeats 4000000 in
theorem ct_mtemplate {V : aV} {L : List Int32} {T : Nat → List Int32} {to : Nat → Bool} (hR : MR V) (hl : ML V L) (hT : MT V T to) (h96 : ∀ k, (T k).length ≤ 96) (t : Int32) : CT mX12_template 3 0 0 [.ref 504, .int t] Sh V (MTeP V L T to t) aNo := by
  refine CT_of (by decide +kernel) (Nat.le_of_ble_eq_true rfl) ?_
  show R _ _ _ _ _ _ _ _ 0 [some (.ref 504), some (.int t), none, none, none] [] _ _
  have hl3 := hl.2.2.1
  refine R_aload_0 dX12_template_0 ?_
  refine R_iload_1 dX12_template_1 ?_
  refine R_if_lt 15 dX12_template_2 (by decide) (fun c2 => ?_) (fun c2 => ?_)
  · refine R_iconst (v := 1) dX12_template_15 (by decide) ?_
    first
      | (have hx : xcT t = 1 := if_neg (fun z => (by first | exact z.1 c2 | exact absurd z.2 (Int32.not_lt.2 c8)))
         refine R_callV_e (T := mX12_template) (T' := mX12_fails) (As := [_]) (ci := 12) okX12_fails mlX12_128 rfl (by decide) sh_504 (ct_mfails _) rfl (by decide) (by decide) (Nat.le_of_ble_eq_true rfl) dX12_template_16 ?_
         refine R_if_eq 24 dX12_template_19 (by decide) (fun c19 => absurd c19 (by decide)) (fun c19 => ?_)
         refine R_iconst (v := 0) dX12_template_22 (by decide) ?_
         refine R_iret rfl dX12_template_23 ⟨rfl, (a_up_self _ _ _ _).trans (by rw [hx]; rfl), ⟨_, rfl, fun z => by rw [hx] at z; cases z⟩, by rw [if_neg (by rw [hx]; decide)]; exact hl.f0 (by decide), by rw [if_neg (by rw [hx]; exact fun z => absurd z.1 (by decide)), if_neg (by rw [hx]; exact fun z => absurd z.1 (by decide))]; exact hT.fr (a_up_row (by decide)) (a_up_row (by decide)), fun b q1 _ _ => a_up_row q1, fun k q1 _ => a_up_ne (Or.inr q1)⟩)
      | (have hx : xcT t = 0 := if_pos ⟨c2, Int32.not_le.1 c8⟩
         obtain ⟨n, hn, rfl⟩ := nI_of c2
         have n8 : n < 8 := (nI_ltI hn (by decide)).1 (Int32.not_le.1 c8)
         refine R_callV_e (T := mX12_template) (T' := mX12_fails) (As := [_]) (ci := 12) okX12_fails mlX12_128 rfl (by decide) sh_504 (ct_mfails _) rfl (by decide) (by decide) (Nat.le_of_ble_eq_true rfl) dX12_template_16 ?_
         refine R_if_eq 24 dX12_template_19 (by decide) (fun c19 => ?_) (fun c19 => absurd (by decide) c19)
         refine R_aload_0 dX12_template_24 ?_
         refine R_callV_e (T := mX12_template) (T' := mX12_wrongInTemplate) (As := []) (ci := 12) okX12_wrongInTemplate mlX12_145 rfl (by decide) sh_504 (ct_mwrong (hR.u (k := 0) (by decide)) (hl.f0 (k := 0) (by decide))) rfl (by decide) (by decide) (Nat.le_of_ble_eq_true rfl) dX12_template_25 ?_
         refine R_istore_2 rfl (by decide) dX12_template_28 ?_
         refine R_aload_0 dX12_template_29 ?_
         refine gfX12_125 rfl dX12_template_30 sh_504 ((a_up_ne (Or.inr (by decide))).trans hl.1) ?_
         refine R_istore_3 rfl (by decide) dX12_template_33 ?_
         refine R_aload_0 dX12_template_34 ?_
         refine R_iconst (v := 0) dX12_template_35 (by decide) ?_
         refine pfX12_125 rfl dX12_template_36 sh_504 ?_
         have hMR : MR (a_up (a_up V 504 0 (.int 0)) 504 2 (.int 0)) := (hR.u (by decide)).u (by decide)
         rcases tp_or L hl3 (fun q e => rAll_inl hl3 e) with ⟨h1, h2⟩ | ⟨h1, h2, h3⟩
         · rw [h2]
           refine R_iload_2 dX12_template_39 ?_
           refine R_iconst (v := -1) dX12_template_40 (by decide) ?_
           refine R_icmp_eq 48 dX12_template_41 (by decide) (fun c41 => ?_) (fun c41 => absurd rfl c41)
           refine R_aload_0 dX12_template_48 ?_
           refine gfX12_16 rfl dX12_template_49 sh_504 (hMR.g (k := 4) (a := 507) (by decide)) ?_
           refine R_iload_1 dX12_template_52 ?_
           refine R_iload_3 dX12_template_53 ?_
           refine R_iastE dX12_template_54 sh_507 rfl (by omega) (by decide) ?_
           refine R_iconst (v := 0) dX12_template_55 (by decide) ?_
           refine R_istore_4 rfl (by decide) dX12_template_56 ?_
           have hR := hMR
           have hA : tpA L = nI L.length := if_pos h1
           refine tc_loop (V0 := a_up (a_up (a_up V 504 0 (.int 0)) 504 2 (.int 0)) 507 n (.int (nI L.length))) (hMR.o (by decide)) n8 hl3 (fun j hj => (congrFun (a_up_row (by decide)) _).trans ((congrFun (a_up_row (by decide)) _).trans ((congrFun (a_up_row (by decide)) _).trans (hl.2.1 j hj)))) (fun V' hC => ?_) L.length 0 _ (by omega) ⟨fun i hi => absurd hi (Nat.not_lt_zero i), fun _ _ => rfl, fun _ _ => rfl⟩
           have e4 : ∀ k, V' 504 k = a_up (a_up V 504 0 (.int 0)) 504 2 (.int 0) 504 k := fun k => (congrFun (hC.2.2 504 (by decide)) k).trans (congrFun (a_up_row (by decide)) k)
           refine ⟨rfl, (e4 0).trans ((a_up_ne (Or.inr (by decide))).trans ((a_up_self _ _ _ _).trans (by rw [hx]; rfl))), ⟨_, rfl, fun _ => hA.symm⟩, by rw [if_pos hx]; exact ML.nil ((e4 2).trans (a_up_self _ _ _ _)), ?_, fun b q1 q2 q3 => (hC.2.2 b q2).trans ((a_up_row q3).trans ((a_up_row q1).trans (a_up_row q1))), fun k q1 q2 => (e4 k).trans ((a_up_ne (Or.inr q2)).trans (a_up_ne (Or.inr q1)))⟩
           rw [if_pos ⟨hx, h1⟩, if_pos ⟨hx, h1⟩, nI_clamp hn]
           exact MT.new (V0 := a_up (a_up V 504 0 (.int 0)) 504 2 (.int 0)) (hT.fr ((a_up_row (by decide)).trans (a_up_row (by decide))) ((a_up_row (by decide)).trans (a_up_row (by decide)))) n8 h96 hC
         · rw [h3]
           refine R_iload_2 dX12_template_39 ?_
           refine R_iconst (v := -1) dX12_template_40 (by decide) ?_
           refine R_icmp_eq 48 dX12_template_41 (by decide) (fun c41 => absurd c41 (m1_ne (by omega))) (fun c41 => ?_)
           refine R_iconst (v := -1) dX12_template_44 (by decide) ?_
           refine R_iload_2 dX12_template_45 ?_
           refine R_isub dX12_template_46 ?_
           refine R_iret rfl dX12_template_47 ⟨rfl, (a_up_ne (Or.inr (by decide))).trans ((a_up_self _ _ _ _).trans (by rw [hx]; rfl)), ⟨_, rfl, fun _ => ((if_neg (by rw [h1]; decide) : tpA L = _)).symm⟩, by rw [if_pos hx]; exact ML.nil (a_up_self _ _ _ _), by rw [if_neg (by rw [h1]; exact fun z => absurd z.2 (by decide)), if_neg (by rw [h1]; exact fun z => absurd z.2 (by decide))]; exact hT.fr ((a_up_row (by decide)).trans (a_up_row (by decide))) ((a_up_row (by decide)).trans (a_up_row (by decide))), fun b q1 _ _ => (a_up_row q1).trans (a_up_row q1), fun k q1 q2 => (a_up_ne (Or.inr q2)).trans (a_up_ne (Or.inr q1))⟩)
  · refine R_iload_1 dX12_template_5 ?_
    refine R_bipush (v := 8) dX12_template_6 (by decide) ?_
    refine R_icmp_ge 15 dX12_template_8 (by decide) (fun c8 => ?_) (fun c8 => ?_)
    · refine R_iconst (v := 1) dX12_template_15 (by decide) ?_
      first
        | (have hx : xcT t = 1 := if_neg (fun z => (by first | exact z.1 c2 | exact absurd z.2 (Int32.not_lt.2 c8)))
           refine R_callV_e (T := mX12_template) (T' := mX12_fails) (As := [_]) (ci := 12) okX12_fails mlX12_128 rfl (by decide) sh_504 (ct_mfails _) rfl (by decide) (by decide) (Nat.le_of_ble_eq_true rfl) dX12_template_16 ?_
           refine R_if_eq 24 dX12_template_19 (by decide) (fun c19 => absurd c19 (by decide)) (fun c19 => ?_)
           refine R_iconst (v := 0) dX12_template_22 (by decide) ?_
           refine R_iret rfl dX12_template_23 ⟨rfl, (a_up_self _ _ _ _).trans (by rw [hx]; rfl), ⟨_, rfl, fun z => by rw [hx] at z; cases z⟩, by rw [if_neg (by rw [hx]; decide)]; exact hl.f0 (by decide), by rw [if_neg (by rw [hx]; exact fun z => absurd z.1 (by decide)), if_neg (by rw [hx]; exact fun z => absurd z.1 (by decide))]; exact hT.fr (a_up_row (by decide)) (a_up_row (by decide)), fun b q1 _ _ => a_up_row q1, fun k q1 _ => a_up_ne (Or.inr q1)⟩)
        | (have hx : xcT t = 0 := if_pos ⟨c2, Int32.not_le.1 c8⟩
           obtain ⟨n, hn, rfl⟩ := nI_of c2
           have n8 : n < 8 := (nI_ltI hn (by decide)).1 (Int32.not_le.1 c8)
           refine R_callV_e (T := mX12_template) (T' := mX12_fails) (As := [_]) (ci := 12) okX12_fails mlX12_128 rfl (by decide) sh_504 (ct_mfails _) rfl (by decide) (by decide) (Nat.le_of_ble_eq_true rfl) dX12_template_16 ?_
           refine R_if_eq 24 dX12_template_19 (by decide) (fun c19 => ?_) (fun c19 => absurd (by decide) c19)
           refine R_aload_0 dX12_template_24 ?_
           refine R_callV_e (T := mX12_template) (T' := mX12_wrongInTemplate) (As := []) (ci := 12) okX12_wrongInTemplate mlX12_145 rfl (by decide) sh_504 (ct_mwrong (hR.u (k := 0) (by decide)) (hl.f0 (k := 0) (by decide))) rfl (by decide) (by decide) (Nat.le_of_ble_eq_true rfl) dX12_template_25 ?_
           refine R_istore_2 rfl (by decide) dX12_template_28 ?_
           refine R_aload_0 dX12_template_29 ?_
           refine gfX12_125 rfl dX12_template_30 sh_504 ((a_up_ne (Or.inr (by decide))).trans hl.1) ?_
           refine R_istore_3 rfl (by decide) dX12_template_33 ?_
           refine R_aload_0 dX12_template_34 ?_
           refine R_iconst (v := 0) dX12_template_35 (by decide) ?_
           refine pfX12_125 rfl dX12_template_36 sh_504 ?_
           have hMR : MR (a_up (a_up V 504 0 (.int 0)) 504 2 (.int 0)) := (hR.u (by decide)).u (by decide)
           rcases tp_or L hl3 (fun q e => rAll_inl hl3 e) with ⟨h1, h2⟩ | ⟨h1, h2, h3⟩
           · rw [h2]
             refine R_iload_2 dX12_template_39 ?_
             refine R_iconst (v := -1) dX12_template_40 (by decide) ?_
             refine R_icmp_eq 48 dX12_template_41 (by decide) (fun c41 => ?_) (fun c41 => absurd rfl c41)
             refine R_aload_0 dX12_template_48 ?_
             refine gfX12_16 rfl dX12_template_49 sh_504 (hMR.g (k := 4) (a := 507) (by decide)) ?_
             refine R_iload_1 dX12_template_52 ?_
             refine R_iload_3 dX12_template_53 ?_
             refine R_iastE dX12_template_54 sh_507 rfl (by omega) (by decide) ?_
             refine R_iconst (v := 0) dX12_template_55 (by decide) ?_
             refine R_istore_4 rfl (by decide) dX12_template_56 ?_
             have hR := hMR
             have hA : tpA L = nI L.length := if_pos h1
             refine tc_loop (V0 := a_up (a_up (a_up V 504 0 (.int 0)) 504 2 (.int 0)) 507 n (.int (nI L.length))) (hMR.o (by decide)) n8 hl3 (fun j hj => (congrFun (a_up_row (by decide)) _).trans ((congrFun (a_up_row (by decide)) _).trans ((congrFun (a_up_row (by decide)) _).trans (hl.2.1 j hj)))) (fun V' hC => ?_) L.length 0 _ (by omega) ⟨fun i hi => absurd hi (Nat.not_lt_zero i), fun _ _ => rfl, fun _ _ => rfl⟩
             have e4 : ∀ k, V' 504 k = a_up (a_up V 504 0 (.int 0)) 504 2 (.int 0) 504 k := fun k => (congrFun (hC.2.2 504 (by decide)) k).trans (congrFun (a_up_row (by decide)) k)
             refine ⟨rfl, (e4 0).trans ((a_up_ne (Or.inr (by decide))).trans ((a_up_self _ _ _ _).trans (by rw [hx]; rfl))), ⟨_, rfl, fun _ => hA.symm⟩, by rw [if_pos hx]; exact ML.nil ((e4 2).trans (a_up_self _ _ _ _)), ?_, fun b q1 q2 q3 => (hC.2.2 b q2).trans ((a_up_row q3).trans ((a_up_row q1).trans (a_up_row q1))), fun k q1 q2 => (e4 k).trans ((a_up_ne (Or.inr q2)).trans (a_up_ne (Or.inr q1)))⟩
             rw [if_pos ⟨hx, h1⟩, if_pos ⟨hx, h1⟩, nI_clamp hn]
             exact MT.new (V0 := a_up (a_up V 504 0 (.int 0)) 504 2 (.int 0)) (hT.fr ((a_up_row (by decide)).trans (a_up_row (by decide))) ((a_up_row (by decide)).trans (a_up_row (by decide)))) n8 h96 hC
           · rw [h3]
             refine R_iload_2 dX12_template_39 ?_
             refine R_iconst (v := -1) dX12_template_40 (by decide) ?_
             refine R_icmp_eq 48 dX12_template_41 (by decide) (fun c41 => absurd c41 (m1_ne (by omega))) (fun c41 => ?_)
             refine R_iconst (v := -1) dX12_template_44 (by decide) ?_
             refine R_iload_2 dX12_template_45 ?_
             refine R_isub dX12_template_46 ?_
             refine R_iret rfl dX12_template_47 ⟨rfl, (a_up_ne (Or.inr (by decide))).trans ((a_up_self _ _ _ _).trans (by rw [hx]; rfl)), ⟨_, rfl, fun _ => ((if_neg (by rw [h1]; decide) : tpA L = _)).symm⟩, by rw [if_pos hx]; exact ML.nil (a_up_self _ _ _ _), by rw [if_neg (by rw [h1]; exact fun z => absurd z.2 (by decide)), if_neg (by rw [h1]; exact fun z => absurd z.2 (by decide))]; exact hT.fr ((a_up_row (by decide)).trans (a_up_row (by decide))) ((a_up_row (by decide)).trans (a_up_row (by decide))), fun b q1 _ _ => (a_up_row q1).trans (a_up_row q1), fun k q1 q2 => (a_up_ne (Or.inr q2)).trans (a_up_ne (Or.inr q1))⟩)
    · refine R_iconst (v := 0) dX12_template_11 (by decide) ?_
      refine R_goto 16 dX12_template_12 (by decide) ?_
      first
        | (have hx : xcT t = 1 := if_neg (fun z => (by first | exact z.1 c2 | exact absurd z.2 (Int32.not_lt.2 c8)))
           refine R_callV_e (T := mX12_template) (T' := mX12_fails) (As := [_]) (ci := 12) okX12_fails mlX12_128 rfl (by decide) sh_504 (ct_mfails _) rfl (by decide) (by decide) (Nat.le_of_ble_eq_true rfl) dX12_template_16 ?_
           refine R_if_eq 24 dX12_template_19 (by decide) (fun c19 => absurd c19 (by decide)) (fun c19 => ?_)
           refine R_iconst (v := 0) dX12_template_22 (by decide) ?_
           refine R_iret rfl dX12_template_23 ⟨rfl, (a_up_self _ _ _ _).trans (by rw [hx]; rfl), ⟨_, rfl, fun z => by rw [hx] at z; cases z⟩, by rw [if_neg (by rw [hx]; decide)]; exact hl.f0 (by decide), by rw [if_neg (by rw [hx]; exact fun z => absurd z.1 (by decide)), if_neg (by rw [hx]; exact fun z => absurd z.1 (by decide))]; exact hT.fr (a_up_row (by decide)) (a_up_row (by decide)), fun b q1 _ _ => a_up_row q1, fun k q1 _ => a_up_ne (Or.inr q1)⟩)
        | (have hx : xcT t = 0 := if_pos ⟨c2, Int32.not_le.1 c8⟩
           obtain ⟨n, hn, rfl⟩ := nI_of c2
           have n8 : n < 8 := (nI_ltI hn (by decide)).1 (Int32.not_le.1 c8)
           refine R_callV_e (T := mX12_template) (T' := mX12_fails) (As := [_]) (ci := 12) okX12_fails mlX12_128 rfl (by decide) sh_504 (ct_mfails _) rfl (by decide) (by decide) (Nat.le_of_ble_eq_true rfl) dX12_template_16 ?_
           refine R_if_eq 24 dX12_template_19 (by decide) (fun c19 => ?_) (fun c19 => absurd (by decide) c19)
           refine R_aload_0 dX12_template_24 ?_
           refine R_callV_e (T := mX12_template) (T' := mX12_wrongInTemplate) (As := []) (ci := 12) okX12_wrongInTemplate mlX12_145 rfl (by decide) sh_504 (ct_mwrong (hR.u (k := 0) (by decide)) (hl.f0 (k := 0) (by decide))) rfl (by decide) (by decide) (Nat.le_of_ble_eq_true rfl) dX12_template_25 ?_
           refine R_istore_2 rfl (by decide) dX12_template_28 ?_
           refine R_aload_0 dX12_template_29 ?_
           refine gfX12_125 rfl dX12_template_30 sh_504 ((a_up_ne (Or.inr (by decide))).trans hl.1) ?_
           refine R_istore_3 rfl (by decide) dX12_template_33 ?_
           refine R_aload_0 dX12_template_34 ?_
           refine R_iconst (v := 0) dX12_template_35 (by decide) ?_
           refine pfX12_125 rfl dX12_template_36 sh_504 ?_
           have hMR : MR (a_up (a_up V 504 0 (.int 0)) 504 2 (.int 0)) := (hR.u (by decide)).u (by decide)
           rcases tp_or L hl3 (fun q e => rAll_inl hl3 e) with ⟨h1, h2⟩ | ⟨h1, h2, h3⟩
           · rw [h2]
             refine R_iload_2 dX12_template_39 ?_
             refine R_iconst (v := -1) dX12_template_40 (by decide) ?_
             refine R_icmp_eq 48 dX12_template_41 (by decide) (fun c41 => ?_) (fun c41 => absurd rfl c41)
             refine R_aload_0 dX12_template_48 ?_
             refine gfX12_16 rfl dX12_template_49 sh_504 (hMR.g (k := 4) (a := 507) (by decide)) ?_
             refine R_iload_1 dX12_template_52 ?_
             refine R_iload_3 dX12_template_53 ?_
             refine R_iastE dX12_template_54 sh_507 rfl (by omega) (by decide) ?_
             refine R_iconst (v := 0) dX12_template_55 (by decide) ?_
             refine R_istore_4 rfl (by decide) dX12_template_56 ?_
             have hR := hMR
             have hA : tpA L = nI L.length := if_pos h1
             refine tc_loop (V0 := a_up (a_up (a_up V 504 0 (.int 0)) 504 2 (.int 0)) 507 n (.int (nI L.length))) (hMR.o (by decide)) n8 hl3 (fun j hj => (congrFun (a_up_row (by decide)) _).trans ((congrFun (a_up_row (by decide)) _).trans ((congrFun (a_up_row (by decide)) _).trans (hl.2.1 j hj)))) (fun V' hC => ?_) L.length 0 _ (by omega) ⟨fun i hi => absurd hi (Nat.not_lt_zero i), fun _ _ => rfl, fun _ _ => rfl⟩
             have e4 : ∀ k, V' 504 k = a_up (a_up V 504 0 (.int 0)) 504 2 (.int 0) 504 k := fun k => (congrFun (hC.2.2 504 (by decide)) k).trans (congrFun (a_up_row (by decide)) k)
             refine ⟨rfl, (e4 0).trans ((a_up_ne (Or.inr (by decide))).trans ((a_up_self _ _ _ _).trans (by rw [hx]; rfl))), ⟨_, rfl, fun _ => hA.symm⟩, by rw [if_pos hx]; exact ML.nil ((e4 2).trans (a_up_self _ _ _ _)), ?_, fun b q1 q2 q3 => (hC.2.2 b q2).trans ((a_up_row q3).trans ((a_up_row q1).trans (a_up_row q1))), fun k q1 q2 => (e4 k).trans ((a_up_ne (Or.inr q2)).trans (a_up_ne (Or.inr q1)))⟩
             rw [if_pos ⟨hx, h1⟩, if_pos ⟨hx, h1⟩, nI_clamp hn]
             exact MT.new (V0 := a_up (a_up V 504 0 (.int 0)) 504 2 (.int 0)) (hT.fr ((a_up_row (by decide)).trans (a_up_row (by decide))) ((a_up_row (by decide)).trans (a_up_row (by decide)))) n8 h96 hC
           · rw [h3]
             refine R_iload_2 dX12_template_39 ?_
             refine R_iconst (v := -1) dX12_template_40 (by decide) ?_
             refine R_icmp_eq 48 dX12_template_41 (by decide) (fun c41 => absurd c41 (m1_ne (by omega))) (fun c41 => ?_)
             refine R_iconst (v := -1) dX12_template_44 (by decide) ?_
             refine R_iload_2 dX12_template_45 ?_
             refine R_isub dX12_template_46 ?_
             refine R_iret rfl dX12_template_47 ⟨rfl, (a_up_ne (Or.inr (by decide))).trans ((a_up_self _ _ _ _).trans (by rw [hx]; rfl)), ⟨_, rfl, fun _ => ((if_neg (by rw [h1]; decide) : tpA L = _)).symm⟩, by rw [if_pos hx]; exact ML.nil (a_up_self _ _ _ _), by rw [if_neg (by rw [h1]; exact fun z => absurd z.2 (by decide)), if_neg (by rw [h1]; exact fun z => absurd z.2 (by decide))]; exact hT.fr ((a_up_row (by decide)).trans (a_up_row (by decide))) ((a_up_row (by decide)).trans (a_up_row (by decide))), fun b q1 _ _ => (a_up_row q1).trans (a_up_row q1), fun k q1 q2 => (a_up_ne (Or.inr q2)).trans (a_up_ne (Or.inr q1))⟩)

