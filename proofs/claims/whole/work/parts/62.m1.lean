/-! ===== MergePostModel: its small methods ===== -/
set_option maxHeartbeats 4000000 in
theorem ct_mthrown {V : aV} {x : Int32} (h : V 504 0 = .int x) : CT mX12_thrown 0 0 0 [.ref 504] Sh V (aRet (some (.int x)) Sh V) aNo := by
  refine CT_of (by decide +kernel) (Nat.le_of_ble_eq_true rfl) ?_
  show R _ _ _ _ _ _ _ _ 0 [some (.ref 504)] [] _ _
  refine R_aload_0 dX12_thrown_0 ?_
  refine gfX12_120 rfl dX12_thrown_1 sh_504 h ?_
  refine R_iret rfl dX12_thrown_4 ⟨rfl, rfl, rfl⟩

set_option maxHeartbeats 4000000 in
theorem ct_maddresses {V : aV} {x : Int32} (h : V 504 5 = .int x) : CT mX12_addresses 0 0 0 [.ref 504] Sh V (aRet (some (.int x)) Sh V) aNo := by
  refine CT_of (by decide +kernel) (Nat.le_of_ble_eq_true rfl) ?_
  show R _ _ _ _ _ _ _ _ 0 [some (.ref 504)] [] _ _
  refine R_aload_0 dX12_addresses_0 ?_
  refine gfX12_166 rfl dX12_addresses_1 sh_504 h ?_
  refine R_iret rfl dX12_addresses_4 ⟨rfl, rfl, rfl⟩

set_option maxHeartbeats 4000000 in
theorem ct_mspent {V : aV} {x : Int32} (h : V 504 21 = .int x) : CT mX12_spent 0 0 0 [.ref 504] Sh V (aRet (some (.int x)) Sh V) aNo := by
  refine CT_of (by decide +kernel) (Nat.le_of_ble_eq_true rfl) ?_
  show R _ _ _ _ _ _ _ _ 0 [some (.ref 504)] [] _ _
  refine R_aload_0 dX12_spent_0 ?_
  refine gfX12_313 rfl dX12_spent_1 sh_504 h ?_
  refine R_iret rfl dX12_spent_4 ⟨rfl, rfl, rfl⟩

set_option maxHeartbeats 4000000 in
theorem ct_mfails {V : aV} (x : Int32) : CT mX12_fails 0 0 0 [.ref 504, .int x] Sh V (aRet (some (.int (bI (0 < x)))) Sh (a_up V 504 0 (.int x))) aNo := by
  refine CT_of (by decide +kernel) (Nat.le_of_ble_eq_true rfl) ?_
  show R _ _ _ _ _ _ _ _ 0 [some (.ref 504), some (.int x)] [] _ _
  refine R_aload_0 dX12_fails_0 ?_
  refine R_iload_1 dX12_fails_1 ?_
  refine pfX12_120 rfl dX12_fails_2 sh_504 ?_
  refine R_iload_1 dX12_fails_5 ?_
  refine R_if_le 13 dX12_fails_6 (by decide) (fun c6 => ?_) (fun c6 => ?_)
  · refine R_iconst (v := 0) dX12_fails_13 (by decide) ?_
    refine R_zret rfl (by first | rfl | assumption) dX12_fails_14 (by first | (rw [bI_t (Int32.not_le.1 (by assumption))]; exact ⟨rfl, rfl, rfl⟩) | (rw [bI_f (Int32.not_lt.2 (by assumption))]; exact ⟨rfl, rfl, rfl⟩))
  · refine R_iconst (v := 1) dX12_fails_9 (by decide) ?_
    refine R_goto 14 dX12_fails_10 (by decide) ?_
    refine R_zret rfl (by first | rfl | assumption) dX12_fails_14 (by first | (rw [bI_t (Int32.not_le.1 (by assumption))]; exact ⟨rfl, rfl, rfl⟩) | (rw [bI_f (Int32.not_lt.2 (by assumption))]; exact ⟨rfl, rfl, rfl⟩))

set_option maxHeartbeats 4000000 in
theorem ct_msignAt {V : aV} {L : List Int32} (hR : MR V) (hl : ML V L) {p : Nat} (hp : p < 2 ^ 31) : CT mX12_signAt 0 0 0 [.ref 504, .int (nI p)] Sh V (aRet (some (.int (lm L p))) Sh V) aNo := by
  refine CT_of (by decide +kernel) (Nat.le_of_ble_eq_true rfl) ?_
  show R _ _ _ _ _ _ _ _ 0 [some (.ref 504), some (.int (nI p))] [] _ _
  obtain ⟨l1, l2, l3, -⟩ := hl
  refine R_iload_1 dX12_signAt_0 ?_
  refine R_aload_0 dX12_signAt_1 ?_
  refine gfX12_125 rfl dX12_signAt_2 sh_504 l1 ?_
  refine R_icmp_ge 17 dX12_signAt_5 (by decide) (fun c5 => ?_) (fun c5 => ?_)
  · rw [lm_f (fun q => nI_ge q (by omega) c5)]
    refine R_iconst (v := -1) dX12_signAt_17 (by decide) ?_
    refine R_iret rfl dX12_signAt_18 ⟨rfl, rfl, rfl⟩
  · have h9 : p < L.length := Nat.lt_of_not_le fun q => c5 (nI_le q hp)
    have h8 := l2 p h9
    rw [lm_t h9]
    refine R_aload_0 dX12_signAt_8 ?_
    refine gfX12_7 rfl dX12_signAt_9 sh_504 (by first | exact hR.g (k := 1) (a := 505) (by decide) | exact (a_up_ne (by omega)).trans (hR.g (k := 1) (a := 505) (by decide)) | exact (a_up_ne (by omega)).trans ((a_up_ne (by omega)).trans (hR.g (k := 1) (a := 505) (by decide))) | exact (a_up_ne (by omega)).trans ((a_up_ne (by omega)).trans ((a_up_ne (by omega)).trans (hR.g (k := 1) (a := 505) (by decide)))) | exact (a_up_ne (by omega)).trans ((a_up_ne (by omega)).trans ((a_up_ne (by omega)).trans ((a_up_ne (by omega)).trans (hR.g (k := 1) (a := 505) (by decide))))) | exact (a_up_ne (by omega)).trans ((a_up_ne (by omega)).trans ((a_up_ne (by omega)).trans ((a_up_ne (by omega)).trans ((a_up_ne (by omega)).trans (hR.g (k := 1) (a := 505) (by decide)))))) | exact (a_up_ne (by omega)).trans ((a_up_ne (by omega)).trans ((a_up_ne (by omega)).trans ((a_up_ne (by omega)).trans ((a_up_ne (by omega)).trans ((a_up_ne (by omega)).trans (hR.g (k := 1) (a := 505) (by decide)))))))) ?_
    refine R_iload_1 dX12_signAt_12 ?_
    refine R_ialdE dX12_signAt_13 sh_505 rfl (by omega) (by decide) h8 ?_
    refine R_goto 18 dX12_signAt_14 (by decide) ?_
    refine R_iret rfl dX12_signAt_18 ⟨rfl, rfl, rfl⟩

set_option maxHeartbeats 4000000 in
theorem ct_misDigit {S : aS} {V : aV} (c : Int32) : CT mX12_isDigit 0 0 0 [.int c] S V (aRet (some (.int (bI (isDg c 57)))) S V) aNo := by
  refine CT_of (by decide +kernel) (Nat.le_of_ble_eq_true rfl) ?_
  show R _ _ _ _ _ _ _ _ 0 [some (.int c)] [] _ _
  refine R_iload_0 dX12_isDigit_0 ?_
  refine R_bipush (v := 48) dX12_isDigit_1 (by decide) ?_
  refine R_icmp_lt 16 dX12_isDigit_3 (by decide) (fun c3 => ?_) (fun c3 => ?_)
  · refine R_iconst (v := 0) dX12_isDigit_16 (by decide) ?_
    refine R_zret rfl (by first | rfl | assumption) dX12_isDigit_17 (by first | (rw [bI_t ⟨Int32.not_lt.1 c3, Int32.not_lt.1 c9⟩]; exact ⟨rfl, rfl, rfl⟩) | (rw [bI_f (fun z : isDg c 57 => absurd c3 (Int32.not_lt.2 z.1))]; exact ⟨rfl, rfl, rfl⟩) | (rw [bI_f (fun z : isDg c 57 => absurd c9 (Int32.not_lt.2 z.2))]; exact ⟨rfl, rfl, rfl⟩))
  · refine R_iload_0 dX12_isDigit_6 ?_
    refine R_bipush (v := 57) dX12_isDigit_7 (by decide) ?_
    refine R_icmp_gt 16 dX12_isDigit_9 (by decide) (fun c9 => ?_) (fun c9 => ?_)
    · refine R_iconst (v := 0) dX12_isDigit_16 (by decide) ?_
      refine R_zret rfl (by first | rfl | assumption) dX12_isDigit_17 (by first | (rw [bI_t ⟨Int32.not_lt.1 c3, Int32.not_lt.1 c9⟩]; exact ⟨rfl, rfl, rfl⟩) | (rw [bI_f (fun z : isDg c 57 => absurd c3 (Int32.not_lt.2 z.1))]; exact ⟨rfl, rfl, rfl⟩) | (rw [bI_f (fun z : isDg c 57 => absurd c9 (Int32.not_lt.2 z.2))]; exact ⟨rfl, rfl, rfl⟩))
    · refine R_iconst (v := 1) dX12_isDigit_12 (by decide) ?_
      refine R_goto 17 dX12_isDigit_13 (by decide) ?_
      refine R_zret rfl (by first | rfl | assumption) dX12_isDigit_17 (by first | (rw [bI_t ⟨Int32.not_lt.1 c3, Int32.not_lt.1 c9⟩]; exact ⟨rfl, rfl, rfl⟩) | (rw [bI_f (fun z : isDg c 57 => absurd c3 (Int32.not_lt.2 z.1))]; exact ⟨rfl, rfl, rfl⟩) | (rw [bI_f (fun z : isDg c 57 => absurd c9 (Int32.not_lt.2 z.2))]; exact ⟨rfl, rfl, rfl⟩))

theorem fd_of {c : Int32} : isFd c ↔ (c = 110 ∨ c = 115 ∨ c = 104 ∨ c = 122 ∨ c = 112 ∨ c = 109) := by
  unfold isFd fIx
  constructor
  · intro h
    refine Classical.byContradiction fun z => ?_
    rw [if_neg (fun q => z (Or.inl q)), if_neg (fun q => z (Or.inr (Or.inl q))), if_neg (fun q => z (Or.inr (Or.inr (Or.inl q)))), if_neg (fun q => z (Or.inr (Or.inr (Or.inr (Or.inl q))))), if_neg (fun q => z (Or.inr (Or.inr (Or.inr (Or.inr (Or.inl q)))))), if_neg (fun q => z (Or.inr (Or.inr (Or.inr (Or.inr (Or.inr q))))))] at h
    exact absurd h (by decide)
  · rintro (rfl | rfl | rfl | rfl | rfl | rfl) <;> decide
set_option maxHeartbeats 4000000 in
theorem ct_misField {S : aS} {V : aV} (c : Int32) : CT mX12_isField 0 0 0 [.int c] S V (aRet (some (.int (bI (isFd c)))) S V) aNo := by
  refine CT_of (by decide +kernel) (Nat.le_of_ble_eq_true rfl) ?_
  show R _ _ _ _ _ _ _ _ 0 [some (.int c)] [] _ _
  refine R_iload_0 dX12_isField_0 ?_
  refine R_bipush (v := 110) dX12_isField_1 (by decide) ?_
  refine R_icmp_eq 36 dX12_isField_3 (by decide) (fun c3 => ?_) (fun c3 => ?_)
  · rw [bI_t (fd_of.2 (by first | exact Or.inl c3 | exact Or.inr (Or.inl c9) | exact Or.inr (Or.inr (Or.inl c15)) | exact Or.inr (Or.inr (Or.inr (Or.inl c21))) | exact Or.inr (Or.inr (Or.inr (Or.inr (Or.inl c27)))) | exact Or.inr (Or.inr (Or.inr (Or.inr (Or.inr c33))))))]
    refine R_iconst (v := 1) dX12_isField_36 (by decide) ?_
    refine R_goto 41 dX12_isField_37 (by decide) ?_
    exact R_zret rfl rfl dX12_isField_41 ⟨rfl, rfl, rfl⟩
  · refine R_iload_0 dX12_isField_6 ?_
    refine R_bipush (v := 115) dX12_isField_7 (by decide) ?_
    refine R_icmp_eq 36 dX12_isField_9 (by decide) (fun c9 => ?_) (fun c9 => ?_)
    · rw [bI_t (fd_of.2 (by first | exact Or.inl c3 | exact Or.inr (Or.inl c9) | exact Or.inr (Or.inr (Or.inl c15)) | exact Or.inr (Or.inr (Or.inr (Or.inl c21))) | exact Or.inr (Or.inr (Or.inr (Or.inr (Or.inl c27)))) | exact Or.inr (Or.inr (Or.inr (Or.inr (Or.inr c33))))))]
      refine R_iconst (v := 1) dX12_isField_36 (by decide) ?_
      refine R_goto 41 dX12_isField_37 (by decide) ?_
      exact R_zret rfl rfl dX12_isField_41 ⟨rfl, rfl, rfl⟩
    · refine R_iload_0 dX12_isField_12 ?_
      refine R_bipush (v := 104) dX12_isField_13 (by decide) ?_
      refine R_icmp_eq 36 dX12_isField_15 (by decide) (fun c15 => ?_) (fun c15 => ?_)
      · rw [bI_t (fd_of.2 (by first | exact Or.inl c3 | exact Or.inr (Or.inl c9) | exact Or.inr (Or.inr (Or.inl c15)) | exact Or.inr (Or.inr (Or.inr (Or.inl c21))) | exact Or.inr (Or.inr (Or.inr (Or.inr (Or.inl c27)))) | exact Or.inr (Or.inr (Or.inr (Or.inr (Or.inr c33))))))]
        refine R_iconst (v := 1) dX12_isField_36 (by decide) ?_
        refine R_goto 41 dX12_isField_37 (by decide) ?_
        exact R_zret rfl rfl dX12_isField_41 ⟨rfl, rfl, rfl⟩
      · refine R_iload_0 dX12_isField_18 ?_
        refine R_bipush (v := 122) dX12_isField_19 (by decide) ?_
        refine R_icmp_eq 36 dX12_isField_21 (by decide) (fun c21 => ?_) (fun c21 => ?_)
        · rw [bI_t (fd_of.2 (by first | exact Or.inl c3 | exact Or.inr (Or.inl c9) | exact Or.inr (Or.inr (Or.inl c15)) | exact Or.inr (Or.inr (Or.inr (Or.inl c21))) | exact Or.inr (Or.inr (Or.inr (Or.inr (Or.inl c27)))) | exact Or.inr (Or.inr (Or.inr (Or.inr (Or.inr c33))))))]
          refine R_iconst (v := 1) dX12_isField_36 (by decide) ?_
          refine R_goto 41 dX12_isField_37 (by decide) ?_
          exact R_zret rfl rfl dX12_isField_41 ⟨rfl, rfl, rfl⟩
        · refine R_iload_0 dX12_isField_24 ?_
          refine R_bipush (v := 112) dX12_isField_25 (by decide) ?_
          refine R_icmp_eq 36 dX12_isField_27 (by decide) (fun c27 => ?_) (fun c27 => ?_)
          · rw [bI_t (fd_of.2 (by first | exact Or.inl c3 | exact Or.inr (Or.inl c9) | exact Or.inr (Or.inr (Or.inl c15)) | exact Or.inr (Or.inr (Or.inr (Or.inl c21))) | exact Or.inr (Or.inr (Or.inr (Or.inr (Or.inl c27)))) | exact Or.inr (Or.inr (Or.inr (Or.inr (Or.inr c33))))))]
            refine R_iconst (v := 1) dX12_isField_36 (by decide) ?_
            refine R_goto 41 dX12_isField_37 (by decide) ?_
            exact R_zret rfl rfl dX12_isField_41 ⟨rfl, rfl, rfl⟩
          · refine R_iload_0 dX12_isField_30 ?_
            refine R_bipush (v := 109) dX12_isField_31 (by decide) ?_
            refine R_icmp_ne 40 dX12_isField_33 (by decide) (fun c33 => ?_) (fun c33 => ?_)
            · rw [bI_f (fun z => (fd_of.1 z).elim c3 (fun z => z.elim c9 (fun z => z.elim c15 (fun z => z.elim c21 (fun z => z.elim c27 c33)))))]
              refine R_iconst (v := 0) dX12_isField_40 (by decide) ?_
              refine R_zret rfl (by first | rfl | assumption) dX12_isField_41 ⟨rfl, rfl, rfl⟩
            · rw [bI_t (fd_of.2 (by first | exact Or.inl c3 | exact Or.inr (Or.inl c9) | exact Or.inr (Or.inr (Or.inl c15)) | exact Or.inr (Or.inr (Or.inr (Or.inl c21))) | exact Or.inr (Or.inr (Or.inr (Or.inr (Or.inl c27)))) | exact Or.inr (Or.inr (Or.inr (Or.inr (Or.inr c33))))))]
              refine R_iconst (v := 1) dX12_isField_36 (by decide) ?_
              refine R_goto 41 dX12_isField_37 (by decide) ?_
              exact R_zret rfl rfl dX12_isField_41 ⟨rfl, rfl, rfl⟩

/-- a sign cleaned; -1 for none -/
noncomputable def mcl (c : Int32) : Int32 := match clS c with
  | some x => x
  | none => -1
theorem cl_add (c : Int32) : c + 32 = c - 65 + 97 := by
  rw [Int32.sub_eq_add_neg, Int32.add_assoc]
  rfl
theorem mcl_a {c : Int32} (h1 : 65 ≤ c) (h2 : c ≤ 90) : mcl c = c + 32 := by
  unfold mcl clS
  rw [if_pos ⟨h1, h2⟩, cl_add]
theorem mcl_b {c : Int32} (h : ¬ (65 ≤ c ∧ c ≤ 90)) (h2 : (97 ≤ c ∧ c ≤ 122) ∨ (48 ≤ c ∧ c ≤ 57)) : mcl c = c := by
  unfold mcl clS
  rw [if_neg h, if_pos h2]
theorem mcl_c {c : Int32} (h : ¬ (65 ≤ c ∧ c ≤ 90)) (h2 : ¬ ((97 ≤ c ∧ c ≤ 122) ∨ (48 ≤ c ∧ c ≤ 57))) : mcl c = -1 := by
  unfold mcl clS
  rw [if_neg h, if_neg h2]
set_option maxHeartbeats 4000000 in
theorem ct_mclean {S : aS} {V : aV} (c : Int32) : CT mX12_clean 1 0 0 [.int c] S V (aRet (some (.int (mcl c))) S V) aNo := by
  refine CT_of (by decide +kernel) (Nat.le_of_ble_eq_true rfl) ?_
  show R _ _ _ _ _ _ _ _ 0 [some (.int c)] [] _ _
  refine R_iload_0 dX12_clean_0 ?_
  refine R_bipush (v := 65) dX12_clean_1 (by decide) ?_
  refine R_icmp_lt 17 dX12_clean_3 (by decide) (fun c3 => ?_) (fun c3 => ?_)
  · have hup : ¬ (65 ≤ c ∧ c ≤ 90) := (by first | exact fun z => absurd c3 (Int32.not_lt.2 z.1) | exact fun z => absurd c9 (Int32.not_lt.2 z.2))
    refine R_iload_0 dX12_clean_17 ?_
    refine R_bipush (v := 97) dX12_clean_18 (by decide) ?_
    refine R_icmp_lt 29 dX12_clean_20 (by decide) (fun c20 => ?_) (fun c20 => ?_)
    · have hlo : ¬ (97 ≤ c ∧ c ≤ 122) := (by first | exact fun z => absurd c20 (Int32.not_lt.2 z.1) | exact fun z => c26 z.2)
      refine R_iload_0 dX12_clean_29 ?_
      refine R_callS_e (T := mX12_clean) (T' := mX12_isDigit) (As := [_]) okX12_isDigit mlX12_142 rfl (ct_misDigit c) rfl (by decide) (by decide) (Nat.le_of_ble_eq_true rfl) dX12_clean_30 ?_
      refine R_if_eq 40 dX12_clean_33 (by decide) (fun c33 => ?_) (fun c33 => ?_)
      · refine R_iconst (v := -1) dX12_clean_40 (by decide) ?_
        refine R_iret rfl dX12_clean_41 ⟨by first | rw [mcl_b hup (Or.inr (bI_ne c33))] | rw [mcl_b hup (Or.inl ⟨Int32.not_lt.1 c20, c26⟩)] | rw [mcl_c hup (fun z => z.elim hlo (bI_eq c33))], rfl, rfl⟩
      · refine R_iload_0 dX12_clean_36 ?_
        refine R_goto 41 dX12_clean_37 (by decide) ?_
        refine R_iret rfl dX12_clean_41 ⟨by first | rw [mcl_b hup (Or.inr (bI_ne c33))] | rw [mcl_b hup (Or.inl ⟨Int32.not_lt.1 c20, c26⟩)] | rw [mcl_c hup (fun z => z.elim hlo (bI_eq c33))], rfl, rfl⟩
    · refine R_iload_0 dX12_clean_23 ?_
      refine R_bipush (v := 122) dX12_clean_24 (by decide) ?_
      refine R_icmp_le 36 dX12_clean_26 (by decide) (fun c26 => ?_) (fun c26 => ?_)
      · refine R_iload_0 dX12_clean_36 ?_
        refine R_goto 41 dX12_clean_37 (by decide) ?_
        refine R_iret rfl dX12_clean_41 ⟨by first | rw [mcl_b hup (Or.inr (bI_ne c33))] | rw [mcl_b hup (Or.inl ⟨Int32.not_lt.1 c20, c26⟩)] | rw [mcl_c hup (fun z => z.elim hlo (bI_eq c33))], rfl, rfl⟩
      · have hlo : ¬ (97 ≤ c ∧ c ≤ 122) := (by first | exact fun z => absurd c20 (Int32.not_lt.2 z.1) | exact fun z => c26 z.2)
        refine R_iload_0 dX12_clean_29 ?_
        refine R_callS_e (T := mX12_clean) (T' := mX12_isDigit) (As := [_]) okX12_isDigit mlX12_142 rfl (ct_misDigit c) rfl (by decide) (by decide) (Nat.le_of_ble_eq_true rfl) dX12_clean_30 ?_
        refine R_if_eq 40 dX12_clean_33 (by decide) (fun c33 => ?_) (fun c33 => ?_)
        · refine R_iconst (v := -1) dX12_clean_40 (by decide) ?_
          refine R_iret rfl dX12_clean_41 ⟨by first | rw [mcl_b hup (Or.inr (bI_ne c33))] | rw [mcl_b hup (Or.inl ⟨Int32.not_lt.1 c20, c26⟩)] | rw [mcl_c hup (fun z => z.elim hlo (bI_eq c33))], rfl, rfl⟩
        · refine R_iload_0 dX12_clean_36 ?_
          refine R_goto 41 dX12_clean_37 (by decide) ?_
          refine R_iret rfl dX12_clean_41 ⟨by first | rw [mcl_b hup (Or.inr (bI_ne c33))] | rw [mcl_b hup (Or.inl ⟨Int32.not_lt.1 c20, c26⟩)] | rw [mcl_c hup (fun z => z.elim hlo (bI_eq c33))], rfl, rfl⟩
  · refine R_iload_0 dX12_clean_6 ?_
    refine R_bipush (v := 90) dX12_clean_7 (by decide) ?_
    refine R_icmp_gt 17 dX12_clean_9 (by decide) (fun c9 => ?_) (fun c9 => ?_)
    · have hup : ¬ (65 ≤ c ∧ c ≤ 90) := (by first | exact fun z => absurd c3 (Int32.not_lt.2 z.1) | exact fun z => absurd c9 (Int32.not_lt.2 z.2))
      refine R_iload_0 dX12_clean_17 ?_
      refine R_bipush (v := 97) dX12_clean_18 (by decide) ?_
      refine R_icmp_lt 29 dX12_clean_20 (by decide) (fun c20 => ?_) (fun c20 => ?_)
      · have hlo : ¬ (97 ≤ c ∧ c ≤ 122) := (by first | exact fun z => absurd c20 (Int32.not_lt.2 z.1) | exact fun z => c26 z.2)
        refine R_iload_0 dX12_clean_29 ?_
        refine R_callS_e (T := mX12_clean) (T' := mX12_isDigit) (As := [_]) okX12_isDigit mlX12_142 rfl (ct_misDigit c) rfl (by decide) (by decide) (Nat.le_of_ble_eq_true rfl) dX12_clean_30 ?_
        refine R_if_eq 40 dX12_clean_33 (by decide) (fun c33 => ?_) (fun c33 => ?_)
        · refine R_iconst (v := -1) dX12_clean_40 (by decide) ?_
          refine R_iret rfl dX12_clean_41 ⟨by first | rw [mcl_b hup (Or.inr (bI_ne c33))] | rw [mcl_b hup (Or.inl ⟨Int32.not_lt.1 c20, c26⟩)] | rw [mcl_c hup (fun z => z.elim hlo (bI_eq c33))], rfl, rfl⟩
        · refine R_iload_0 dX12_clean_36 ?_
          refine R_goto 41 dX12_clean_37 (by decide) ?_
          refine R_iret rfl dX12_clean_41 ⟨by first | rw [mcl_b hup (Or.inr (bI_ne c33))] | rw [mcl_b hup (Or.inl ⟨Int32.not_lt.1 c20, c26⟩)] | rw [mcl_c hup (fun z => z.elim hlo (bI_eq c33))], rfl, rfl⟩
      · refine R_iload_0 dX12_clean_23 ?_
        refine R_bipush (v := 122) dX12_clean_24 (by decide) ?_
        refine R_icmp_le 36 dX12_clean_26 (by decide) (fun c26 => ?_) (fun c26 => ?_)
        · refine R_iload_0 dX12_clean_36 ?_
          refine R_goto 41 dX12_clean_37 (by decide) ?_
          refine R_iret rfl dX12_clean_41 ⟨by first | rw [mcl_b hup (Or.inr (bI_ne c33))] | rw [mcl_b hup (Or.inl ⟨Int32.not_lt.1 c20, c26⟩)] | rw [mcl_c hup (fun z => z.elim hlo (bI_eq c33))], rfl, rfl⟩
        · have hlo : ¬ (97 ≤ c ∧ c ≤ 122) := (by first | exact fun z => absurd c20 (Int32.not_lt.2 z.1) | exact fun z => c26 z.2)
          refine R_iload_0 dX12_clean_29 ?_
          refine R_callS_e (T := mX12_clean) (T' := mX12_isDigit) (As := [_]) okX12_isDigit mlX12_142 rfl (ct_misDigit c) rfl (by decide) (by decide) (Nat.le_of_ble_eq_true rfl) dX12_clean_30 ?_
          refine R_if_eq 40 dX12_clean_33 (by decide) (fun c33 => ?_) (fun c33 => ?_)
          · refine R_iconst (v := -1) dX12_clean_40 (by decide) ?_
            refine R_iret rfl dX12_clean_41 ⟨by first | rw [mcl_b hup (Or.inr (bI_ne c33))] | rw [mcl_b hup (Or.inl ⟨Int32.not_lt.1 c20, c26⟩)] | rw [mcl_c hup (fun z => z.elim hlo (bI_eq c33))], rfl, rfl⟩
          · refine R_iload_0 dX12_clean_36 ?_
            refine R_goto 41 dX12_clean_37 (by decide) ?_
            refine R_iret rfl dX12_clean_41 ⟨by first | rw [mcl_b hup (Or.inr (bI_ne c33))] | rw [mcl_b hup (Or.inl ⟨Int32.not_lt.1 c20, c26⟩)] | rw [mcl_c hup (fun z => z.elim hlo (bI_eq c33))], rfl, rfl⟩
    · refine R_iload_0 dX12_clean_12 ?_
      refine R_bipush (v := 32) dX12_clean_13 (by decide) ?_
      refine R_iadd dX12_clean_15 ?_
      refine R_iret rfl dX12_clean_16 ⟨by rw [mcl_a (Int32.not_lt.1 c3) (Int32.not_lt.1 c9)], rfl, rfl⟩

set_option maxHeartbeats 4000000 in
theorem ct_misOne {V : aV} {n : Int32} (h : V 504 5 = .int n) (t : Int32) : CT mX12_isOne 0 0 0 [.ref 504, .int t] Sh V (aRet (some (.int (bI (¬ t < 0 ∧ t < n)))) Sh V) aNo := by
  refine CT_of (by decide +kernel) (Nat.le_of_ble_eq_true rfl) ?_
  show R _ _ _ _ _ _ _ _ 0 [some (.ref 504), some (.int t)] [] _ _
  refine R_iload_1 dX12_isOne_0 ?_
  refine R_if_lt 16 dX12_isOne_1 (by decide) (fun c1 => ?_) (fun c1 => ?_)
  · refine R_iconst (v := 0) dX12_isOne_16 (by decide) ?_
    refine R_zret rfl (by first | rfl | assumption) dX12_isOne_17 (ret_b (by first | exact bI_t ⟨c1, Int32.not_le.1 (by assumption)⟩ | exact bI_f (fun z => z.1 c1) | exact bI_f (fun z => absurd z.2 (Int32.not_lt.2 c9))))
  · refine R_iload_1 dX12_isOne_4 ?_
    refine R_aload_0 dX12_isOne_5 ?_
    refine gfX12_166 rfl dX12_isOne_6 sh_504 h ?_
    refine R_icmp_ge 16 dX12_isOne_9 (by decide) (fun c9 => ?_) (fun c9 => ?_)
    · refine R_iconst (v := 0) dX12_isOne_16 (by decide) ?_
      refine R_zret rfl (by first | rfl | assumption) dX12_isOne_17 (ret_b (by first | exact bI_t ⟨c1, Int32.not_le.1 (by assumption)⟩ | exact bI_f (fun z => z.1 c1) | exact bI_f (fun z => absurd z.2 (Int32.not_lt.2 c9))))
    · refine R_iconst (v := 1) dX12_isOne_12 (by decide) ?_
      refine R_goto 17 dX12_isOne_13 (by decide) ?_
      refine R_zret rfl (by first | rfl | assumption) dX12_isOne_17 (ret_b (by first | exact bI_t ⟨c1, Int32.not_le.1 (by assumption)⟩ | exact bI_f (fun z => z.1 c1) | exact bI_f (fun z => absurd z.2 (Int32.not_lt.2 c9))))

set_option maxHeartbeats 4000000 in
theorem ct_misRun {V : aV} {n : Int32} (h : V 504 22 = .int n) (t : Int32) : CT mX12_isRun 0 0 0 [.ref 504, .int t] Sh V (aRet (some (.int (bI (¬ t < 0 ∧ t < n)))) Sh V) aNo := by
  refine CT_of (by decide +kernel) (Nat.le_of_ble_eq_true rfl) ?_
  show R _ _ _ _ _ _ _ _ 0 [some (.ref 504), some (.int t)] [] _ _
  refine R_iload_1 dX12_isRun_0 ?_
  refine R_if_lt 16 dX12_isRun_1 (by decide) (fun c1 => ?_) (fun c1 => ?_)
  · refine R_iconst (v := 0) dX12_isRun_16 (by decide) ?_
    refine R_zret rfl (by first | rfl | assumption) dX12_isRun_17 (ret_b (by first | exact bI_t ⟨c1, Int32.not_le.1 (by assumption)⟩ | exact bI_f (fun z => z.1 c1) | exact bI_f (fun z => absurd z.2 (Int32.not_lt.2 c9))))
  · refine R_iload_1 dX12_isRun_4 ?_
    refine R_aload_0 dX12_isRun_5 ?_
    refine gfX12_286 rfl dX12_isRun_6 sh_504 h ?_
    refine R_icmp_ge 16 dX12_isRun_9 (by decide) (fun c9 => ?_) (fun c9 => ?_)
    · refine R_iconst (v := 0) dX12_isRun_16 (by decide) ?_
      refine R_zret rfl (by first | rfl | assumption) dX12_isRun_17 (ret_b (by first | exact bI_t ⟨c1, Int32.not_le.1 (by assumption)⟩ | exact bI_f (fun z => z.1 c1) | exact bI_f (fun z => absurd z.2 (Int32.not_lt.2 c9))))
    · refine R_iconst (v := 1) dX12_isRun_12 (by decide) ?_
      refine R_goto 17 dX12_isRun_13 (by decide) ?_
      refine R_zret rfl (by first | rfl | assumption) dX12_isRun_17 (ret_b (by first | exact bI_t ⟨c1, Int32.not_le.1 (by assumption)⟩ | exact bI_f (fun z => z.1 c1) | exact bI_f (fun z => absurd z.2 (Int32.not_lt.2 c9))))

