/-! ===== MergePost: signs of a long, paying, matching ===== -/
def MB (V : aV) : Prop := V 0 0 = .ref 1 ∧ V 0 1 = .ref 4 ∧ V 0 2 = .ref 74 ∧ V 0 3 = .ref 196 ∧ V 0 4 = .ref 198 ∧ V 0 5 = .ref 199
def sgc (x : Int64) (k : Int32) : Int32 := ((x.toUInt64 >>> ((8 * k).toInt64.toUInt64 &&& Int64.toUInt64 63)).toInt64 &&& 255).toInt32
theorem and255 (y : Int64) : ∃ m, m < 256 ∧ (y &&& 255).toInt32 = nI m := by
  refine ⟨y.toBitVec.toNat &&& 255, Nat.lt_of_le_of_lt Nat.and_le_right (by decide), ?_⟩
  have e : y &&& 255 = lN (y.toBitVec.toNat &&& 255) := by
    apply Int64.toBitVec_inj.1
    rw [Int64.toBitVec_and]
    show _ = BitVec.ofNat 64 (y.toBitVec.toNat &&& 255)
    rw [BitVec.ofNat_and, BitVec.ofNat_toNat, BitVec.setWidth_eq]
    rfl
  rw [e, lN_i]
theorem sgc_nI (x : Int64) (k : Int32) : ∃ m, m < 256 ∧ sgc x k = nI m := and255 _
theorem sgc_i2c (x : Int64) (k : Int32) : ((sgc x k).toUInt32 % 65536).toInt32 = sgc x k := by
  obtain ⟨m, hm, e⟩ := sgc_nI x k
  rw [e]
  exact nI_i2c (by omega)
theorem sgc_chr (x : Int64) (k : Int32) : 0 ≤ (sgc x k).toInt ∧ (sgc x k).toInt < 65536 := by
  obtain ⟨m, hm, e⟩ := sgc_nI x k
  rw [e]
  exact nI_chr (by omega)
/-- how many signs a long has, from the j-th place on -/
def cSg (x : Int64) : Nat → Nat → Nat → Int32
  | 0, _, c => nI c
  | m + 1, j, c => if sgc x (nI j) = 0 then cSg x m (j + 1) c else if sgc x (nI j) < 32 ∨ 126 < sgc x (nI j) ∨ c < j then -1 else cSg x m (j + 1) (c + 1)
set_option maxHeartbeats 4000000 in
theorem ct_signOf {S : aS} {V : aV} (x : Int64) (k : Int32) : CT mX11_signOf 0 0 0 [.long x, .int k] S V (aRet (some (.int (sgc x k))) S V) aNo := by
  refine CT_of (by decide +kernel) (Nat.le_of_ble_eq_true rfl) ?_
  show R _ _ _ _ _ _ _ _ 0 [some (.long x), none, some (.int k)] [] _ _
  refine R_lload_0 dX11_signOf_0 ?_
  refine R_bipush (v := 8) dX11_signOf_1 (by decide) ?_
  refine R_iload_2 dX11_signOf_3 ?_
  refine R_imul dX11_signOf_4 ?_
  refine R_lushr dX11_signOf_5 ?_
  refine R_ldc2 dX11_signOf_6 cwX11_309 ?_
  refine R_land dX11_signOf_9 ?_
  refine R_l2i dX11_signOf_10 ?_
  refine R_i2c dX11_signOf_11 ?_
  rw [show (((x.toUInt64 >>> ((8 * k).toInt64.toUInt64 &&& Int64.toUInt64 63)).toInt64 &&& 255).toInt32.toUInt32 % 65536).toInt32 = sgc x k from sgc_i2c x k]
  refine R_zret rfl (narc_of (sgc_chr x k)) dX11_signOf_12 ⟨rfl, rfl, rfl⟩

set_option maxHeartbeats 4000000 in
theorem cSg_loop {mc ms kc ks : Nat} {S : aS} {V : aV} {x : Int64} : ∀ (m j c : Nat), j + m = 8 → c ≤ j → ∀ {Q : Option Value → aS → aV → Prop} {QX : String → aS → aV → Prop}, Q (some (.int (cSg x m j c))) S V → R mX11_countSigns 1 mc ms Q QX kc ks 4 [some (.long x), none, some (.int (nI c)), some (.int (nI j)), none] [] S V := by
  intro m
  induction m with
  | zero =>
    intro j c hj hc Q QX hQ
    have hj' : j = 8 := by omega
    subst hj'
    refine R_iload_3 dX11_countSigns_4 ?_
    refine R_bipush (v := 8) dX11_countSigns_5 (by decide) ?_
    refine R_icmp_ge 57 dX11_countSigns_7 (by decide) (fun c7 => ?_) (fun c7 => absurd (by decide) c7)
    refine R_iload_2 dX11_countSigns_57 ?_
    refine R_iret rfl dX11_countSigns_58 hQ
  | succ m ih =>
    intro j c hj hc Q QX hQ
    have h8 : ¬ (8 : Int32) ≤ nI j := nI_ge (a := j) (b := 8) (by omega) (by omega)
    refine R_iload_3 dX11_countSigns_4 ?_
    refine R_bipush (v := 8) dX11_countSigns_5 (by decide) ?_
    refine R_icmp_ge 57 dX11_countSigns_7 (by decide) (fun c7 => absurd c7 h8) (fun c7 => ?_)
    refine R_lload_0 dX11_countSigns_10 ?_
    refine R_iload_3 dX11_countSigns_11 ?_
    refine R_callS_e (T := mX11_countSigns) (T' := mX11_signOf) (As := [_, _]) okX11_signOf mlX11_77 rfl (ct_signOf x (nI j)) rfl (by decide) (by decide) (Nat.le_of_ble_eq_true rfl) dX11_countSigns_12 ?_
    refine R_istore_4 rfl (by decide) dX11_countSigns_15 ?_
    refine R_iload_4 dX11_countSigns_17 ?_
    refine R_if_eq 43 dX11_countSigns_19 (by decide) (fun c19 => ?_) (fun c19 => ?_)
    · refine R_iload_4 dX11_countSigns_43 ?_
      refine R_if_eq 51 dX11_countSigns_45 (by decide) (fun c45 => ?_) (fun c45 => ?_)
      · have e : cSg x (m + 1) j c = cSg x m (j + 1) c := if_pos c45
        rw [e] at hQ
        refine R_drop_4 ?_
        refine R_iinc_3 rfl (by decide) dX11_countSigns_51 rfl ?_
        rw [show nI j + Int32.ofInt 1 = nI (j + 1) from nI_1 j]
        refine R_goto 4 dX11_countSigns_54 (by decide) ?_
        exact ih (j + 1) c (by omega) (by omega) hQ
      · first
          | exact absurd c19 c45
          | (have e : cSg x (m + 1) j c = cSg x m (j + 1) (c + 1) := by
               show (if _ then _ else if _ then _ else _) = _
               rw [if_neg c45, if_neg (fun z => z.elim c26 (fun z => z.elim c33 (fun z => absurd c38 (nI_ge z (by omega)))))]
             rw [e] at hQ
             refine R_iinc_2 rfl (by decide) dX11_countSigns_48 rfl ?_
             rw [show nI c + Int32.ofInt 1 = nI (c + 1) from nI_1 c]
             refine R_drop_4 ?_
             refine R_iinc_3 rfl (by decide) dX11_countSigns_51 rfl ?_
             rw [show nI j + Int32.ofInt 1 = nI (j + 1) from nI_1 j]
             refine R_goto 4 dX11_countSigns_54 (by decide) ?_
             exact ih (j + 1) (c + 1) (by omega) (by omega) hQ)
    · refine R_iload_4 dX11_countSigns_22 ?_
      refine R_bipush (v := 32) dX11_countSigns_24 (by decide) ?_
      refine R_icmp_lt 41 dX11_countSigns_26 (by decide) (fun c26 => ?_) (fun c26 => ?_)
      · have e : cSg x (m + 1) j c = -1 := by
          show (if _ then _ else if _ then _ else _) = _
          first
            | rw [if_neg c19, if_pos (Or.inl c26)]
            | rw [if_neg c19, if_pos (Or.inr (Or.inl c33))]
            | rw [if_neg c19, if_pos (Or.inr (Or.inr ((nI_ltI (by omega) (by omega)).1 (Int32.not_le.1 c38))))]
        rw [e] at hQ
        refine R_iconst (v := -1) dX11_countSigns_41 (by decide) ?_
        exact R_iret rfl dX11_countSigns_42 hQ
      · refine R_iload_4 dX11_countSigns_29 ?_
        refine R_bipush (v := 126) dX11_countSigns_31 (by decide) ?_
        refine R_icmp_gt 41 dX11_countSigns_33 (by decide) (fun c33 => ?_) (fun c33 => ?_)
        · have e : cSg x (m + 1) j c = -1 := by
            show (if _ then _ else if _ then _ else _) = _
            first
              | rw [if_neg c19, if_pos (Or.inl c26)]
              | rw [if_neg c19, if_pos (Or.inr (Or.inl c33))]
              | rw [if_neg c19, if_pos (Or.inr (Or.inr ((nI_ltI (by omega) (by omega)).1 (Int32.not_le.1 c38))))]
          rw [e] at hQ
          refine R_iconst (v := -1) dX11_countSigns_41 (by decide) ?_
          exact R_iret rfl dX11_countSigns_42 hQ
        · refine R_iload_2 dX11_countSigns_36 ?_
          refine R_iload_3 dX11_countSigns_37 ?_
          refine R_icmp_ge 43 dX11_countSigns_38 (by decide) (fun c38 => ?_) (fun c38 => ?_)
          · refine R_iload_4 dX11_countSigns_43 ?_
            refine R_if_eq 51 dX11_countSigns_45 (by decide) (fun c45 => ?_) (fun c45 => ?_)
            · have e : cSg x (m + 1) j c = cSg x m (j + 1) c := if_pos c45
              rw [e] at hQ
              refine R_drop_4 ?_
              refine R_iinc_3 rfl (by decide) dX11_countSigns_51 rfl ?_
              rw [show nI j + Int32.ofInt 1 = nI (j + 1) from nI_1 j]
              refine R_goto 4 dX11_countSigns_54 (by decide) ?_
              exact ih (j + 1) c (by omega) (by omega) hQ
            · first
                | exact absurd c19 c45
                | (have e : cSg x (m + 1) j c = cSg x m (j + 1) (c + 1) := by
                     show (if _ then _ else if _ then _ else _) = _
                     rw [if_neg c45, if_neg (fun z => z.elim c26 (fun z => z.elim c33 (fun z => absurd c38 (nI_ge z (by omega)))))]
                   rw [e] at hQ
                   refine R_iinc_2 rfl (by decide) dX11_countSigns_48 rfl ?_
                   rw [show nI c + Int32.ofInt 1 = nI (c + 1) from nI_1 c]
                   refine R_drop_4 ?_
                   refine R_iinc_3 rfl (by decide) dX11_countSigns_51 rfl ?_
                   rw [show nI j + Int32.ofInt 1 = nI (j + 1) from nI_1 j]
                   refine R_goto 4 dX11_countSigns_54 (by decide) ?_
                   exact ih (j + 1) (c + 1) (by omega) (by omega) hQ)
          · have e : cSg x (m + 1) j c = -1 := by
              show (if _ then _ else if _ then _ else _) = _
              first
                | rw [if_neg c19, if_pos (Or.inl c26)]
                | rw [if_neg c19, if_pos (Or.inr (Or.inl c33))]
                | rw [if_neg c19, if_pos (Or.inr (Or.inr ((nI_ltI (by omega) (by omega)).1 (Int32.not_le.1 c38))))]
            rw [e] at hQ
            refine R_iconst (v := -1) dX11_countSigns_41 (by decide) ?_
            exact R_iret rfl dX11_countSigns_42 hQ
set_option maxHeartbeats 4000000 in
theorem ct_countSigns {S : aS} {V : aV} (x : Int64) : CT mX11_countSigns 1 0 0 [.long x] S V (aRet (some (.int (cSg x 8 0 0))) S V) aNo := by
  refine CT_of (by decide +kernel) (Nat.le_of_ble_eq_true rfl) ?_
  show R _ _ _ _ _ _ _ _ 0 [some (.long x), none, none, none, none] [] _ _
  refine R_iconst (v := 0) dX11_countSigns_0 (by decide) ?_
  refine R_istore_2 rfl (by decide) dX11_countSigns_1 ?_
  refine R_iconst (v := 0) dX11_countSigns_2 (by decide) ?_
  refine R_istore_3 rfl (by decide) dX11_countSigns_3 ?_
  exact cSg_loop 8 0 0 rfl (Nat.le_refl _) ⟨rfl, rfl, rfl⟩

set_option maxHeartbeats 4000000 in
theorem ct_pay {V : aV} {p c : Nat} (h7 : V 0 7 = .int (nI p)) (hp : p < 2 ^ 31) (hc : c < 2 ^ 31) : CT mX11_pay 0 0 0 [.ref 0, .int (nI c)] Sh V (aRet none Sh (a_up V 0 7 (.int (nI (min (p + c) 2147483647))))) aNo := by
  refine CT_of (by decide +kernel) (Nat.le_of_ble_eq_true rfl) ?_
  show R _ _ _ _ _ _ _ _ 0 [some (.ref 0), some (.int (nI c))] [] _ _
  refine R_aload_0 dX11_pay_0 ?_
  refine R_iload_1 dX11_pay_1 ?_
  refine R_ldcw cwX11_307 dX11_pay_2 ?_
  refine R_aload_0 dX11_pay_5 ?_
  refine gfX11_268 rfl dX11_pay_6 sh_0 (by first | assumption | exact a_up_self _ _ _ _ | exact (a_up_ne (by omega)).trans (by assumption) | exact (a_up_ne (by omega)).trans (a_up_self _ _ _ _) | exact (a_up_ne (by omega)).trans ((a_up_ne (by omega)).trans (by assumption)) | exact (a_up_ne (by omega)).trans ((a_up_ne (by omega)).trans (a_up_self _ _ _ _)) | exact (a_up_ne (by omega)).trans ((a_up_ne (by omega)).trans ((a_up_ne (by omega)).trans (by assumption))) | exact (a_up_ne (by omega)).trans ((a_up_ne (by omega)).trans ((a_up_ne (by omega)).trans (a_up_self _ _ _ _))) | exact (a_up_ne (by omega)).trans ((a_up_ne (by omega)).trans ((a_up_ne (by omega)).trans ((a_up_ne (by omega)).trans (by assumption)))) | exact (a_up_ne (by omega)).trans ((a_up_ne (by omega)).trans ((a_up_ne (by omega)).trans ((a_up_ne (by omega)).trans (a_up_self _ _ _ _)))) | exact (a_up_ne (by omega)).trans ((a_up_ne (by omega)).trans ((a_up_ne (by omega)).trans ((a_up_ne (by omega)).trans ((a_up_ne (by omega)).trans (by assumption))))) | exact (a_up_ne (by omega)).trans ((a_up_ne (by omega)).trans ((a_up_ne (by omega)).trans ((a_up_ne (by omega)).trans ((a_up_ne (by omega)).trans (a_up_self _ _ _ _)))))) ?_
  refine R_isub dX11_pay_9 ?_
  rw [show (2147483647 : Int32) - nI p = nI (2147483647 - p) from pk_sub (a := 2147483647) (by omega)]
  refine R_icmp_le 19 dX11_pay_10 (by decide) (fun c10 => ?_) (fun c10 => ?_)
  · have e : min (p + c) 2147483647 = p + c := Nat.min_eq_left (by have := (nI_leI (by omega) (by omega)).1 c10; omega)
    rw [e]
    refine R_aload_0 dX11_pay_19 ?_
    refine gfX11_268 rfl dX11_pay_20 sh_0 (by first | assumption | exact a_up_self _ _ _ _ | exact (a_up_ne (by omega)).trans (by assumption) | exact (a_up_ne (by omega)).trans (a_up_self _ _ _ _) | exact (a_up_ne (by omega)).trans ((a_up_ne (by omega)).trans (by assumption)) | exact (a_up_ne (by omega)).trans ((a_up_ne (by omega)).trans (a_up_self _ _ _ _)) | exact (a_up_ne (by omega)).trans ((a_up_ne (by omega)).trans ((a_up_ne (by omega)).trans (by assumption))) | exact (a_up_ne (by omega)).trans ((a_up_ne (by omega)).trans ((a_up_ne (by omega)).trans (a_up_self _ _ _ _))) | exact (a_up_ne (by omega)).trans ((a_up_ne (by omega)).trans ((a_up_ne (by omega)).trans ((a_up_ne (by omega)).trans (by assumption)))) | exact (a_up_ne (by omega)).trans ((a_up_ne (by omega)).trans ((a_up_ne (by omega)).trans ((a_up_ne (by omega)).trans (a_up_self _ _ _ _)))) | exact (a_up_ne (by omega)).trans ((a_up_ne (by omega)).trans ((a_up_ne (by omega)).trans ((a_up_ne (by omega)).trans ((a_up_ne (by omega)).trans (by assumption))))) | exact (a_up_ne (by omega)).trans ((a_up_ne (by omega)).trans ((a_up_ne (by omega)).trans ((a_up_ne (by omega)).trans ((a_up_ne (by omega)).trans (a_up_self _ _ _ _)))))) ?_
    refine R_iload_1 dX11_pay_23 ?_
    refine R_iadd dX11_pay_24 ?_
    refine pfX11_268 rfl dX11_pay_25 sh_0 ?_
    refine R_vret rfl dX11_pay_28 (by first | exact ⟨rfl, rfl, rfl⟩ | (rw [nI_add]; exact ⟨rfl, rfl, rfl⟩))
  · have e : min (p + c) 2147483647 = 2147483647 := Nat.min_eq_right (Nat.le_of_not_lt (fun q => c10 (nI_le (by omega) (by omega))))
    rw [e]
    refine R_ldcw cwX11_307 dX11_pay_13 ?_
    refine R_goto 25 dX11_pay_16 (by decide) ?_
    refine pfX11_268 rfl dX11_pay_25 sh_0 ?_
    refine R_vret rfl dX11_pay_28 (by first | exact ⟨rfl, rfl, rfl⟩ | (rw [nI_add]; exact ⟨rfl, rfl, rfl⟩))

set_option maxHeartbeats 4000000 in
theorem ct_canBeMatched {V : aV} {en : Nat → Nat} {sp : Nat} {ent : Nat → Ent} {cnt a b : Nat} (hM : MB V) (hB : BF V) (hE : BE V en sp ent cnt) (h0 : V 196 0 = .ref 197) (ha : a < 12) (hb : b < 12) : CT mX11_canBeMatched 5 0 0 [.ref 0, .int (nI a), .int (nI b)] Sh V (fun v S' V' => some (.int (bI (¬ Op.cmpValue (FP.fcmp (lkV (ent a) (ent b)) 1056964608) .l < 0))) = v ∧ Sh = S' ∧ Fr0 V V' 197) aNo := by
  refine CT_of (by decide +kernel) (Nat.le_of_ble_eq_true rfl) ?_
  show R _ _ _ _ _ _ _ _ 0 [some (.ref 0), some (.int (nI a)), some (.int (nI b))] [] _ _
  obtain ⟨m0, m1, m2, m3, m4, m5⟩ := hM
  obtain ⟨f0, f2, f3, f4⟩ := hB
  obtain ⟨q1, q2, q3, _⟩ := hE.1 a ha
  obtain ⟨r1, r2, r3, _⟩ := hE.1 b hb
  refine R_aload_0 dX11_canBeMatched_0 ?_
  refine gfX11_33 rfl dX11_canBeMatched_1 sh_0 m3 ?_
  refine R_aload_0 dX11_canBeMatched_4 ?_
  refine gfX11_26 rfl dX11_canBeMatched_5 sh_0 m2 ?_
  refine gfX11_121 rfl dX11_canBeMatched_8 sh_74 f0 ?_
  refine R_iload_1 dX11_canBeMatched_11 ?_
  refine R_aald_16 dX11_canBeMatched_12 sh_75 (vp_in_nI (by omega) (by decide)) (nI_clamp (by omega)) q1 ?_
  refine R_aload_0 dX11_canBeMatched_13 ?_
  refine gfX11_26 rfl dX11_canBeMatched_14 sh_0 m2 ?_
  refine gfX11_121 rfl dX11_canBeMatched_17 sh_74 f0 ?_
  refine R_iload_2 dX11_canBeMatched_20 ?_
  refine R_aald_16 dX11_canBeMatched_21 sh_75 (vp_in_nI (by omega) (by decide)) (nI_clamp (by omega)) r1 ?_
  refine R_callVN (T := mX11_canBeMatched) (T' := mX5_likenessOf) (As := [_, _]) (ci := 5) okX5_likenessOf mlX11_139 rfl (by decide) sh_196 (ct_likenessOf h0 q3 r3 q2 r2) rfl (by decide) (by decide) (Nat.le_of_ble_eq_true rfl) dX11_canBeMatched_22 (fun v9 S9 V1 h9 => ?_) (fun E S9 V9 h9 => h9.elim)
  obtain ⟨rfl, rfl, u4⟩ := h9
  refine R_ldcwf cwX11_308 dX11_canBeMatched_25 ?_
  refine R_fcmp dX11_canBeMatched_28 ?_
  refine R_if_lt 36 dX11_canBeMatched_29 (by decide) (fun c29 => ?_) (fun c29 => ?_)
  · refine R_iconst (v := 0) dX11_canBeMatched_36 (by decide) ?_
    refine R_zret rfl (by first | rfl | assumption) dX11_canBeMatched_37 (by first | exact ⟨by rw [bI_t c29], rfl, u4⟩ | exact ⟨by rw [bI_f (not_not_intro c29)], rfl, u4⟩)
  · refine R_iconst (v := 1) dX11_canBeMatched_32 (by decide) ?_
    refine R_goto 37 dX11_canBeMatched_33 (by decide) ?_
    refine R_zret rfl (by first | rfl | assumption) dX11_canBeMatched_37 (by first | exact ⟨by rw [bI_t c29], rfl, u4⟩ | exact ⟨by rw [bI_f (not_not_intro c29)], rfl, u4⟩)

