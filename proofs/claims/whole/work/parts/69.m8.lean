/-! ===== MergePostModel: readAddress ===== -/
theorem dgE_len {L : List Int32} {hi : Int32} : ∀ {m p : Nat}, p ≤ L.length → dgE L hi m p ≤ L.length
  | 0, p, h => h
  | m + 1, p, h => by
    by_cases q : isDg (L.getD p 0) hi
    · rw [dgE_t q]; exact dgE_len (dg_lt2 q)
    · rw [dgE_f q]; exact h
set_option maxHeartbeats 4000000 in
theorem ct_mreadAddress {V : aV} {L : List Int32} {t : Nat} (hR : MR V) (hl : ML V L) (ht : t < 12) : CT mX12_readAddress 3 0 0 [.ref 504, .int (nI t)] Sh V (MRA V L t) aNo := by
  refine CT_of (by decide +kernel) (Nat.le_of_ble_eq_true rfl) ?_
  show R _ _ _ _ _ _ _ _ 0 [some (.ref 504), some (.int (nI t)), none, none, none, none] [] _ _
  have hl3 := hl.2.2.1
  have hok := hl.2.2.2
  have l1 := e1_le (L := L)
  refine R_aload_0 dX12_readAddress_0 ?_
  refine R_iconst (v := 0) dX12_readAddress_1 (by decide) ?_
  refine R_callV_e (T := mX12_readAddress) (T' := mX12_wordEnd) (As := [_]) (ci := 12) okX12_wordEnd mlX12_152 rfl (by decide) sh_504 (ct_wordEnd (p := 0) hR hl (Nat.zero_le _)) rfl (by decide) (by decide) (Nat.le_of_ble_eq_true rfl) dX12_readAddress_2 ?_
  by_cases h1 : e1 L = 0 ∨ ¬ cm L (e1 L)
  · rw [wdV_1 h1]
    show R _ _ _ _ _ _ _ _ _ _ (.int (-1 - nI (e1 L)) :: _) _ _
    refine R_istore_2 rfl (by decide) dX12_readAddress_5 ?_
    refine R_iload_2 dX12_readAddress_6 ?_
    refine R_if_ge 14 dX12_readAddress_7 (by decide) (fun c7 => absurd c7 (Int32.not_le.2 (hd_neg (by omega)))) (fun c7 => ?_)
    refine R_iconst (v := -1) dX12_readAddress_10 (by decide) ?_
    refine R_iload_2 dX12_readAddress_11 ?_
    refine R_isub dX12_readAddress_12 ?_
    rw [hd_back]
    refine R_iret rfl dX12_readAddress_13 (MRA.n (ra1 h1) (by omega))
  · rw [wdV_2 h1]
    show R _ _ _ _ _ _ _ _ _ _ (.int (nI (e1 L)) :: _) _ _
    obtain ⟨z1, c1, r1⟩ := ra1' h1
    have l2 := e2_le c1.1
    refine R_istore_2 rfl (by decide) dX12_readAddress_5 ?_
    refine R_iload_2 dX12_readAddress_6 ?_
    refine R_if_ge 14 dX12_readAddress_7 (by decide) (fun c7 => ?_) (fun c7 => absurd (nI_pos' (by omega)) c7)
    refine R_aload_0 dX12_readAddress_14 ?_
    refine R_iload_2 dX12_readAddress_15 ?_
    refine R_iconst (v := 1) dX12_readAddress_16 (by decide) ?_
    refine R_iadd dX12_readAddress_17 ?_
    rw [show nI (e1 L) + 1 = nI (e1 L + 1) from nI_1 _]
    refine R_callV_e (T := mX12_readAddress) (T' := mX12_wordEnd) (As := [_]) (ci := 12) okX12_wordEnd mlX12_152 rfl (by decide) sh_504 (ct_wordEnd (p := e1 L + 1) hR hl (by omega)) rfl (by decide) (by decide) (Nat.le_of_ble_eq_true rfl) dX12_readAddress_18 ?_
    by_cases h2 : e2 L = e1 L + 1 ∨ ¬ cm L (e2 L)
    · rw [wdV_1 h2]
      show R _ _ _ _ _ _ _ _ _ _ (.int (-1 - nI (e2 L)) :: _) _ _
      refine R_istore_3 rfl (by decide) dX12_readAddress_21 ?_
      refine R_iload_3 dX12_readAddress_22 ?_
      refine R_if_ge 30 dX12_readAddress_23 (by decide) (fun c23 => absurd c23 (Int32.not_le.2 (hd_neg (by omega)))) (fun c23 => ?_)
      refine R_iconst (v := -1) dX12_readAddress_26 (by decide) ?_
      refine R_iload_3 dX12_readAddress_27 ?_
      refine R_isub dX12_readAddress_28 ?_
      rw [hd_back]
      refine R_iret rfl dX12_readAddress_29 (MRA.n (r1.trans (ra2 c1 h2)) (by omega))
    · rw [wdV_2 h2]
      show R _ _ _ _ _ _ _ _ _ _ (.int (nI (e2 L)) :: _) _ _
      obtain ⟨c2, r2⟩ := ra2' (W := sub L 0 (e1 L)) c1 h2
      have l3 := dgE_le (L := L) (hi := 57) 3 (e2 L + 1)
      have l3a : e2 L + 1 ≤ e3 L := l3.1
      have l3b : e3 L ≤ e2 L + 1 + 3 := l3.2
      refine R_istore_3 rfl (by decide) dX12_readAddress_21 ?_
      refine R_iload_3 dX12_readAddress_22 ?_
      refine R_if_ge 30 dX12_readAddress_23 (by decide) (fun c23 => ?_) (fun c23 => absurd (nI_pos' (by omega)) c23)
      refine R_aload_0 dX12_readAddress_30 ?_
      refine R_iload_3 dX12_readAddress_31 ?_
      refine R_iconst (v := 1) dX12_readAddress_32 (by decide) ?_
      refine R_iadd dX12_readAddress_33 ?_
      rw [show nI (e2 L) + 1 = nI (e2 L + 1) from nI_1 _]
      refine R_iconst (v := 3) dX12_readAddress_34 (by decide) ?_
      refine R_callV_e (T := mX12_readAddress) (T' := mX12_digitsEnd) (As := [_, _]) (ci := 12) okX12_digitsEnd mlX12_155 rfl (by decide) sh_504 (ct_digitsEnd (p := e2 L + 1) (mo := 3) hR hl (by omega) (by decide)) rfl (by decide) (by decide) (Nat.le_of_ble_eq_true rfl) dX12_readAddress_35 ?_
      by_cases h3 : dgE L 57 3 (e2 L + 1) = e2 L + 1
      · rw [show dgV L 3 (e2 L + 1) = -1 - nI (e2 L + 1) from if_pos h3]
        refine R_istore_4 rfl (by decide) dX12_readAddress_38 ?_
        refine R_iload_4 dX12_readAddress_40 ?_
        refine R_if_lt 56 dX12_readAddress_42 (by decide) (fun c42 => ?_) (fun c42 => absurd (hd_neg (by omega)) c42)
        refine R_iload_4 dX12_readAddress_56 ?_
        refine R_if_ge 68 dX12_readAddress_58 (by decide) (fun c58 => absurd c58 (Int32.not_le.2 (hd_neg (by omega)))) (fun c58 => ?_)
        refine R_iconst (v := -1) dX12_readAddress_61 (by decide) ?_
        refine R_iload_4 dX12_readAddress_62 ?_
        refine R_isub dX12_readAddress_64 ?_
        rw [hd_back]
        refine R_goto 70 dX12_readAddress_65 (by decide) ?_
        refine R_iret rfl dX12_readAddress_70 (MRA.n (r1.trans (r2.trans (ra4n (by rw [an1 (Or.inl h3), h3])))) (by omega))
      · rw [show dgV L 3 (e2 L + 1) = nI (e3 L) from if_neg h3]
        refine R_istore_4 rfl (by decide) dX12_readAddress_38 ?_
        refine R_iload_4 dX12_readAddress_40 ?_
        refine R_if_lt 56 dX12_readAddress_42 (by decide) (fun c42 => absurd c42 (nI_pos (by omega))) (fun c42 => ?_)
        refine R_aload_0 dX12_readAddress_45 ?_
        refine R_iload_4 dX12_readAddress_46 ?_
        refine R_callV_e (T := mX12_readAddress) (T' := mX12_signAt) (As := [_]) (ci := 12) okX12_signAt mlX12_132 rfl (by decide) sh_504 (ct_msignAt (p := e3 L) hR hl (by omega)) rfl (by decide) (by decide) (Nat.le_of_ble_eq_true rfl) dX12_readAddress_48 ?_
        refine R_bipush (v := 44) dX12_readAddress_51 (by decide) ?_
        refine R_icmp_eq 71 dX12_readAddress_53 (by decide) (fun c53 => ?_) (fun c53 => ?_)
        · have g3 : L.getD (e3 L) 0 = 44 := (lm_eq (by decide) (by decide)).1 c53
          have c3 : cm L (e3 L) := ⟨gd_lt g3 (by decide), g3⟩
          obtain ⟨hn, hn1, hn2, hn3⟩ := an2 h3 c3
          refine R_aload_0 dX12_readAddress_71 ?_
          refine R_iload_4 dX12_readAddress_72 ?_
          refine R_iconst (v := 1) dX12_readAddress_74 (by decide) ?_
          refine R_iadd dX12_readAddress_75 ?_
          rw [show nI (e3 L) + 1 = nI (e3 L + 1) from nI_1 _]
          refine R_callV_e (T := mX12_readAddress) (T' := mX12_signAt) (As := [_]) (ci := 12) okX12_signAt mlX12_132 rfl (by decide) sh_504 (ct_msignAt (p := e3 L + 1) hR hl (by omega)) rfl (by decide) (by decide) (Nat.le_of_ble_eq_true rfl) dX12_readAddress_76 ?_
          refine R_bipush (v := 48) dX12_readAddress_79 (by decide) ?_
          refine R_icmp_lt 97 dX12_readAddress_81 (by decide) (fun c81 => ?_) (fun c81 => ?_)
          · have c4 : ¬ isDg (L.getD (e3 L + 1) 0) 53 := (by first | exact fun z => absurd c81 (Int32.not_lt.2 (lm_dg.2 z).1) | exact fun z => c94 (lm_dg.2 z).2)
            refine R_iload_4 dX12_readAddress_97 ?_
            refine R_iconst (v := 1) dX12_readAddress_99 (by decide) ?_
            refine R_iadd dX12_readAddress_100 ?_
            rw [show nI (e3 L) + 1 = nI (e3 L + 1) from nI_1 _]
            refine R_iret rfl dX12_readAddress_101 (MRA.n (r1.trans (r2.trans (ra4n (hn3.trans (an3 c4))))) (by show e3 L + 1 < 2000; omega))
          · refine R_aload_0 dX12_readAddress_84 ?_
            refine R_iload_4 dX12_readAddress_85 ?_
            refine R_iconst (v := 1) dX12_readAddress_87 (by decide) ?_
            refine R_iadd dX12_readAddress_88 ?_
            rw [show nI (e3 L) + 1 = nI (e3 L + 1) from nI_1 _]
            refine R_callV_e (T := mX12_readAddress) (T' := mX12_signAt) (As := [_]) (ci := 12) okX12_signAt mlX12_132 rfl (by decide) sh_504 (ct_msignAt (p := e3 L + 1) hR hl (by omega)) rfl (by decide) (by decide) (Nat.le_of_ble_eq_true rfl) dX12_readAddress_89 ?_
            refine R_bipush (v := 53) dX12_readAddress_92 (by decide) ?_
            refine R_icmp_le 102 dX12_readAddress_94 (by decide) (fun c94 => ?_) (fun c94 => ?_)
            · have c4 : isDg (L.getD (e3 L + 1) 0) 53 := lm_dg.1 ⟨Int32.not_lt.1 c81, c94⟩
              obtain ⟨zn, zn1, zn2, zn3, zn4⟩ := an4 (x := nI hn) c4
              refine R_aload_0 dX12_readAddress_102 ?_
              refine R_iload_4 dX12_readAddress_103 ?_
              refine R_iconst (v := 2) dX12_readAddress_105 (by decide) ?_
              refine R_iadd dX12_readAddress_106 ?_
              rw [show nI (e3 L) + 2 = nI (e3 L + 2) from nI_add _ 2]
              refine R_callV_e (T := mX12_readAddress) (T' := mX12_signAt) (As := [_]) (ci := 12) okX12_signAt mlX12_132 rfl (by decide) sh_504 (ct_msignAt (p := e3 L + 2) hR hl (by omega)) rfl (by decide) (by decide) (Nat.le_of_ble_eq_true rfl) dX12_readAddress_107 ?_
              refine R_bipush (v := 44) dX12_readAddress_110 (by decide) ?_
              refine R_icmp_eq 120 dX12_readAddress_112 (by decide) (fun c112 => ?_) (fun c112 => ?_)
              · have g5 : L.getD (e3 L + 2) 0 = 44 := (lm_eq (by decide) (by decide)).1 c112
                have c5 : cm L (e3 L + 1 + 1) := ⟨gd_lt g5 (by decide), g5⟩
                have l4 := dgE_le (L := L) (hi := 57) 2 (e3 L + 3)
                have l4a : e3 L + 3 ≤ e4 L := l4.1
                have l4b : e4 L ≤ e3 L + 3 + 2 := l4.2
                refine R_aload_0 dX12_readAddress_120 ?_
                refine R_iload_4 dX12_readAddress_121 ?_
                refine R_iconst (v := 3) dX12_readAddress_123 (by decide) ?_
                refine R_iadd dX12_readAddress_124 ?_
                rw [show nI (e3 L) + 3 = nI (e3 L + 3) from nI_add _ 3]
                refine R_iconst (v := 2) dX12_readAddress_125 (by decide) ?_
                refine R_callV_e (T := mX12_readAddress) (T' := mX12_digitsEnd) (As := [_, _]) (ci := 12) okX12_digitsEnd mlX12_155 rfl (by decide) sh_504 (ct_digitsEnd (p := e3 L + 3) (mo := 2) hR hl (by omega) (by decide)) rfl (by decide) (by decide) (Nat.le_of_ble_eq_true rfl) dX12_readAddress_126 ?_
                by_cases h4 : dgE L 57 2 (e3 L + 3) = e3 L + 3
                · rw [show dgV L 2 (e3 L + 3) = -1 - nI (e3 L + 3) from if_pos h4]
                  refine R_istore_5 rfl (by decide) dX12_readAddress_129 ?_
                  refine R_iload_5 dX12_readAddress_131 ?_
                  refine R_if_lt 145 dX12_readAddress_133 (by decide) (fun c133 => ?_) (fun c133 => absurd (hd_neg (by omega)) c133)
                  refine R_iload_5 dX12_readAddress_145 ?_
                  refine R_if_ge 157 dX12_readAddress_147 (by decide) (fun c147 => absurd c147 (Int32.not_le.2 (hd_neg (by omega)))) (fun c147 => ?_)
                  refine R_iconst (v := -1) dX12_readAddress_150 (by decide) ?_
                  refine R_iload_5 dX12_readAddress_151 ?_
                  refine R_isub dX12_readAddress_153 ?_
                  rw [hd_back]
                  refine R_goto 159 dX12_readAddress_154 (by decide) ?_
                  refine R_iret rfl dX12_readAddress_159 (MRA.n (r1.trans (r2.trans (ra4n (hn3.trans ((zn4 c5).trans (an5 h4)))))) (by show e3 L + 3 < 2000; omega))
                · rw [show dgV L 2 (e3 L + 3) = nI (e4 L) from if_neg h4]
                  obtain ⟨qn, qn1, qn2, qn3⟩ := an6 (x := nI hn) (y := nI zn) h4
                  refine R_istore_5 rfl (by decide) dX12_readAddress_129 ?_
                  refine R_iload_5 dX12_readAddress_131 ?_
                  refine R_if_lt 145 dX12_readAddress_133 (by decide) (fun c133 => absurd c133 (nI_pos (by omega))) (fun c133 => ?_)
                  refine R_iload_5 dX12_readAddress_136 ?_
                  refine R_aload_0 dX12_readAddress_138 ?_
                  refine gfX12_125 rfl dX12_readAddress_139 sh_504 hl.1 ?_
                  refine R_icmp_eq 160 dX12_readAddress_142 (by decide) (fun c142 => ?_) (fun c142 => ?_)
                  · have c6 : e4 L = L.length := (nI_eq (by omega) (by omega)).1 c142
                    refine R_aload_0 dX12_readAddress_160 ?_
                    refine gfX12_22 rfl dX12_readAddress_161 sh_504 (by first | exact hR.g (k := 7) (a := 509) (by decide) | exact (a_up_ne (by omega)).trans (hR.g (k := 7) (a := 509) (by decide)) | exact (a_up_ne (by omega)).trans ((a_up_ne (by omega)).trans (hR.g (k := 7) (a := 509) (by decide))) | exact (a_up_ne (by omega)).trans ((a_up_ne (by omega)).trans ((a_up_ne (by omega)).trans (hR.g (k := 7) (a := 509) (by decide)))) | exact (a_up_ne (by omega)).trans ((a_up_ne (by omega)).trans ((a_up_ne (by omega)).trans ((a_up_ne (by omega)).trans (hR.g (k := 7) (a := 509) (by decide))))) | exact (a_up_ne (by omega)).trans ((a_up_ne (by omega)).trans ((a_up_ne (by omega)).trans ((a_up_ne (by omega)).trans ((a_up_ne (by omega)).trans (hR.g (k := 7) (a := 509) (by decide)))))) | exact (a_up_ne (by omega)).trans ((a_up_ne (by omega)).trans ((a_up_ne (by omega)).trans ((a_up_ne (by omega)).trans ((a_up_ne (by omega)).trans ((a_up_ne (by omega)).trans (hR.g (k := 7) (a := 509) (by decide)))))))) ?_
                    refine R_iload_1 dX12_readAddress_164 ?_
                    refine R_aload_0 dX12_readAddress_165 ?_
                    refine R_aload_0 dX12_readAddress_166 ?_
                    refine gfX12_19 rfl dX12_readAddress_167 sh_504 (by first | exact hR.g (k := 6) (a := 508) (by decide) | exact (a_up_ne (by omega)).trans (hR.g (k := 6) (a := 508) (by decide)) | exact (a_up_ne (by omega)).trans ((a_up_ne (by omega)).trans (hR.g (k := 6) (a := 508) (by decide))) | exact (a_up_ne (by omega)).trans ((a_up_ne (by omega)).trans ((a_up_ne (by omega)).trans (hR.g (k := 6) (a := 508) (by decide)))) | exact (a_up_ne (by omega)).trans ((a_up_ne (by omega)).trans ((a_up_ne (by omega)).trans ((a_up_ne (by omega)).trans (hR.g (k := 6) (a := 508) (by decide))))) | exact (a_up_ne (by omega)).trans ((a_up_ne (by omega)).trans ((a_up_ne (by omega)).trans ((a_up_ne (by omega)).trans ((a_up_ne (by omega)).trans (hR.g (k := 6) (a := 508) (by decide)))))) | exact (a_up_ne (by omega)).trans ((a_up_ne (by omega)).trans ((a_up_ne (by omega)).trans ((a_up_ne (by omega)).trans ((a_up_ne (by omega)).trans ((a_up_ne (by omega)).trans (hR.g (k := 6) (a := 508) (by decide)))))))) ?_
                    refine R_iload_1 dX12_readAddress_170 ?_
                    refine R_iconst (v := 0) dX12_readAddress_171 (by decide) ?_
                    refine R_iload_2 dX12_readAddress_172 ?_
                    refine R_iconst (v := 0) dX12_readAddress_173 (by decide) ?_
                    refine R_callV (T := mX12_readAddress) (T' := mX12_lay) (As := [_, _, _, _, _]) (ci := 12) okX12_lay mlX12_159 rfl (by decide) sh_504 (ct_lay (p := 0) (e := e1 L) (b := 0) hR hl sh_508 (by decide) (by decide) ht (by omega) (by omega) (by omega)) rfl (by decide) (by decide) (Nat.le_of_ble_eq_true rfl) dX12_readAddress_174 (fun v9 S9 V1 h9 => ?_) (fun E S9 V9 h9 => h9.elim)
                    obtain ⟨rfl, rfl, y1⟩ := h9
                    rw [lyF0] at y1 ⊢
                    have hR := hR.fr (V' := V1) (fun k _ => congrFun (y1.2.2 504 (by decide)) k)
                    have hl := hl.fr (V' := V1) (congrFun (y1.2.2 504 (by decide)) 2) (y1.2.2 505 (by decide))
                    refine R_iastE dX12_readAddress_177 sh_509 rfl (by omega) (by decide) ?_
                    have hR := hR.o (b := 509) (k := t) (v := .int (nI (sub L 0 (e1 L)).length)) (by decide)
                    have hl := hl.o (b := 509) (k := t) (v := .int (nI (sub L 0 (e1 L)).length)) (by decide) (by decide)
                    refine R_aload_0 dX12_readAddress_178 ?_
                    refine gfX12_34 rfl dX12_readAddress_179 sh_504 (by first | exact hR.g (k := 11) (a := 513) (by decide) | exact (a_up_ne (by omega)).trans (hR.g (k := 11) (a := 513) (by decide)) | exact (a_up_ne (by omega)).trans ((a_up_ne (by omega)).trans (hR.g (k := 11) (a := 513) (by decide))) | exact (a_up_ne (by omega)).trans ((a_up_ne (by omega)).trans ((a_up_ne (by omega)).trans (hR.g (k := 11) (a := 513) (by decide)))) | exact (a_up_ne (by omega)).trans ((a_up_ne (by omega)).trans ((a_up_ne (by omega)).trans ((a_up_ne (by omega)).trans (hR.g (k := 11) (a := 513) (by decide))))) | exact (a_up_ne (by omega)).trans ((a_up_ne (by omega)).trans ((a_up_ne (by omega)).trans ((a_up_ne (by omega)).trans ((a_up_ne (by omega)).trans (hR.g (k := 11) (a := 513) (by decide)))))) | exact (a_up_ne (by omega)).trans ((a_up_ne (by omega)).trans ((a_up_ne (by omega)).trans ((a_up_ne (by omega)).trans ((a_up_ne (by omega)).trans ((a_up_ne (by omega)).trans (hR.g (k := 11) (a := 513) (by decide)))))))) ?_
                    refine R_iload_1 dX12_readAddress_182 ?_
                    refine R_aload_0 dX12_readAddress_183 ?_
                    refine R_aload_0 dX12_readAddress_184 ?_
                    refine gfX12_31 rfl dX12_readAddress_185 sh_504 (by first | exact hR.g (k := 10) (a := 512) (by decide) | exact (a_up_ne (by omega)).trans (hR.g (k := 10) (a := 512) (by decide)) | exact (a_up_ne (by omega)).trans ((a_up_ne (by omega)).trans (hR.g (k := 10) (a := 512) (by decide))) | exact (a_up_ne (by omega)).trans ((a_up_ne (by omega)).trans ((a_up_ne (by omega)).trans (hR.g (k := 10) (a := 512) (by decide)))) | exact (a_up_ne (by omega)).trans ((a_up_ne (by omega)).trans ((a_up_ne (by omega)).trans ((a_up_ne (by omega)).trans (hR.g (k := 10) (a := 512) (by decide))))) | exact (a_up_ne (by omega)).trans ((a_up_ne (by omega)).trans ((a_up_ne (by omega)).trans ((a_up_ne (by omega)).trans ((a_up_ne (by omega)).trans (hR.g (k := 10) (a := 512) (by decide)))))) | exact (a_up_ne (by omega)).trans ((a_up_ne (by omega)).trans ((a_up_ne (by omega)).trans ((a_up_ne (by omega)).trans ((a_up_ne (by omega)).trans ((a_up_ne (by omega)).trans (hR.g (k := 10) (a := 512) (by decide)))))))) ?_
                    refine R_iload_1 dX12_readAddress_188 ?_
                    refine R_iconst (v := 0) dX12_readAddress_189 (by decide) ?_
                    refine R_iload_2 dX12_readAddress_190 ?_
                    refine R_iconst (v := 1) dX12_readAddress_191 (by decide) ?_
                    refine R_callV (T := mX12_readAddress) (T' := mX12_lay) (As := [_, _, _, _, _]) (ci := 12) okX12_lay mlX12_159 rfl (by decide) sh_504 (ct_lay (p := 0) (e := e1 L) (b := 1) hR hl sh_512 (by decide) (by decide) ht (by omega) (by omega) (by omega)) rfl (by decide) (by decide) (Nat.le_of_ble_eq_true rfl) dX12_readAddress_192 (fun v9 S9 V2 h9 => ?_) (fun E S9 V9 h9 => h9.elim)
                    obtain ⟨rfl, rfl, y2⟩ := h9
                    rw [lyF1] at y2 ⊢
                    have hR := hR.fr (V' := V2) (fun k _ => congrFun (y2.2.2 504 (by decide)) k)
                    have hl := hl.fr (V' := V2) (congrFun (y2.2.2 504 (by decide)) 2) (y2.2.2 505 (by decide))
                    refine R_iastE dX12_readAddress_195 sh_513 rfl (by omega) (by decide) ?_
                    have hR := hR.o (b := 513) (k := t) (v := .int (nI (cl (sub L 0 (e1 L))).length)) (by decide)
                    have hl := hl.o (b := 513) (k := t) (v := .int (nI (cl (sub L 0 (e1 L))).length)) (by decide) (by decide)
                    refine R_aload_0 dX12_readAddress_196 ?_
                    refine gfX12_28 rfl dX12_readAddress_197 sh_504 (by first | exact hR.g (k := 9) (a := 511) (by decide) | exact (a_up_ne (by omega)).trans (hR.g (k := 9) (a := 511) (by decide)) | exact (a_up_ne (by omega)).trans ((a_up_ne (by omega)).trans (hR.g (k := 9) (a := 511) (by decide))) | exact (a_up_ne (by omega)).trans ((a_up_ne (by omega)).trans ((a_up_ne (by omega)).trans (hR.g (k := 9) (a := 511) (by decide)))) | exact (a_up_ne (by omega)).trans ((a_up_ne (by omega)).trans ((a_up_ne (by omega)).trans ((a_up_ne (by omega)).trans (hR.g (k := 9) (a := 511) (by decide))))) | exact (a_up_ne (by omega)).trans ((a_up_ne (by omega)).trans ((a_up_ne (by omega)).trans ((a_up_ne (by omega)).trans ((a_up_ne (by omega)).trans (hR.g (k := 9) (a := 511) (by decide)))))) | exact (a_up_ne (by omega)).trans ((a_up_ne (by omega)).trans ((a_up_ne (by omega)).trans ((a_up_ne (by omega)).trans ((a_up_ne (by omega)).trans ((a_up_ne (by omega)).trans (hR.g (k := 9) (a := 511) (by decide)))))))) ?_
                    refine R_iload_1 dX12_readAddress_200 ?_
                    refine R_aload_0 dX12_readAddress_201 ?_
                    refine R_aload_0 dX12_readAddress_202 ?_
                    refine gfX12_25 rfl dX12_readAddress_203 sh_504 (by first | exact hR.g (k := 8) (a := 510) (by decide) | exact (a_up_ne (by omega)).trans (hR.g (k := 8) (a := 510) (by decide)) | exact (a_up_ne (by omega)).trans ((a_up_ne (by omega)).trans (hR.g (k := 8) (a := 510) (by decide))) | exact (a_up_ne (by omega)).trans ((a_up_ne (by omega)).trans ((a_up_ne (by omega)).trans (hR.g (k := 8) (a := 510) (by decide)))) | exact (a_up_ne (by omega)).trans ((a_up_ne (by omega)).trans ((a_up_ne (by omega)).trans ((a_up_ne (by omega)).trans (hR.g (k := 8) (a := 510) (by decide))))) | exact (a_up_ne (by omega)).trans ((a_up_ne (by omega)).trans ((a_up_ne (by omega)).trans ((a_up_ne (by omega)).trans ((a_up_ne (by omega)).trans (hR.g (k := 8) (a := 510) (by decide)))))) | exact (a_up_ne (by omega)).trans ((a_up_ne (by omega)).trans ((a_up_ne (by omega)).trans ((a_up_ne (by omega)).trans ((a_up_ne (by omega)).trans ((a_up_ne (by omega)).trans (hR.g (k := 8) (a := 510) (by decide)))))))) ?_
                    refine R_iload_1 dX12_readAddress_206 ?_
                    refine R_iload_2 dX12_readAddress_207 ?_
                    refine R_iconst (v := 1) dX12_readAddress_208 (by decide) ?_
                    refine R_iadd dX12_readAddress_209 ?_
                    rw [show nI (e1 L) + 1 = nI (e1 L + 1) from nI_1 _]
                    refine R_iload_3 dX12_readAddress_210 ?_
                    refine R_iconst (v := 0) dX12_readAddress_211 (by decide) ?_
                    refine R_callV (T := mX12_readAddress) (T' := mX12_lay) (As := [_, _, _, _, _]) (ci := 12) okX12_lay mlX12_159 rfl (by decide) sh_504 (ct_lay (p := e1 L + 1) (e := e2 L) (b := 0) hR hl sh_510 (by decide) (by decide) ht (by omega) (by omega) (by omega)) rfl (by decide) (by decide) (Nat.le_of_ble_eq_true rfl) dX12_readAddress_212 (fun v9 S9 V3 h9 => ?_) (fun E S9 V9 h9 => h9.elim)
                    obtain ⟨rfl, rfl, y3⟩ := h9
                    rw [lyF0] at y3 ⊢
                    have hR := hR.fr (V' := V3) (fun k _ => congrFun (y3.2.2 504 (by decide)) k)
                    have hl := hl.fr (V' := V3) (congrFun (y3.2.2 504 (by decide)) 2) (y3.2.2 505 (by decide))
                    refine R_iastE dX12_readAddress_215 sh_511 rfl (by omega) (by decide) ?_
                    have hR := hR.o (b := 511) (k := t) (v := .int (nI (sub L (e1 L + 1) (e2 L)).length)) (by decide)
                    have hl := hl.o (b := 511) (k := t) (v := .int (nI (sub L (e1 L + 1) (e2 L)).length)) (by decide) (by decide)
                    refine R_aload_0 dX12_readAddress_216 ?_
                    refine gfX12_40 rfl dX12_readAddress_217 sh_504 (by first | exact hR.g (k := 13) (a := 515) (by decide) | exact (a_up_ne (by omega)).trans (hR.g (k := 13) (a := 515) (by decide)) | exact (a_up_ne (by omega)).trans ((a_up_ne (by omega)).trans (hR.g (k := 13) (a := 515) (by decide))) | exact (a_up_ne (by omega)).trans ((a_up_ne (by omega)).trans ((a_up_ne (by omega)).trans (hR.g (k := 13) (a := 515) (by decide)))) | exact (a_up_ne (by omega)).trans ((a_up_ne (by omega)).trans ((a_up_ne (by omega)).trans ((a_up_ne (by omega)).trans (hR.g (k := 13) (a := 515) (by decide))))) | exact (a_up_ne (by omega)).trans ((a_up_ne (by omega)).trans ((a_up_ne (by omega)).trans ((a_up_ne (by omega)).trans ((a_up_ne (by omega)).trans (hR.g (k := 13) (a := 515) (by decide)))))) | exact (a_up_ne (by omega)).trans ((a_up_ne (by omega)).trans ((a_up_ne (by omega)).trans ((a_up_ne (by omega)).trans ((a_up_ne (by omega)).trans ((a_up_ne (by omega)).trans (hR.g (k := 13) (a := 515) (by decide)))))))) ?_
                    refine R_iload_1 dX12_readAddress_220 ?_
                    refine R_aload_0 dX12_readAddress_221 ?_
                    refine R_aload_0 dX12_readAddress_222 ?_
                    refine gfX12_37 rfl dX12_readAddress_223 sh_504 (by first | exact hR.g (k := 12) (a := 514) (by decide) | exact (a_up_ne (by omega)).trans (hR.g (k := 12) (a := 514) (by decide)) | exact (a_up_ne (by omega)).trans ((a_up_ne (by omega)).trans (hR.g (k := 12) (a := 514) (by decide))) | exact (a_up_ne (by omega)).trans ((a_up_ne (by omega)).trans ((a_up_ne (by omega)).trans (hR.g (k := 12) (a := 514) (by decide)))) | exact (a_up_ne (by omega)).trans ((a_up_ne (by omega)).trans ((a_up_ne (by omega)).trans ((a_up_ne (by omega)).trans (hR.g (k := 12) (a := 514) (by decide))))) | exact (a_up_ne (by omega)).trans ((a_up_ne (by omega)).trans ((a_up_ne (by omega)).trans ((a_up_ne (by omega)).trans ((a_up_ne (by omega)).trans (hR.g (k := 12) (a := 514) (by decide)))))) | exact (a_up_ne (by omega)).trans ((a_up_ne (by omega)).trans ((a_up_ne (by omega)).trans ((a_up_ne (by omega)).trans ((a_up_ne (by omega)).trans ((a_up_ne (by omega)).trans (hR.g (k := 12) (a := 514) (by decide)))))))) ?_
                    refine R_iload_1 dX12_readAddress_226 ?_
                    refine R_iload_2 dX12_readAddress_227 ?_
                    refine R_iconst (v := 1) dX12_readAddress_228 (by decide) ?_
                    refine R_iadd dX12_readAddress_229 ?_
                    rw [show nI (e1 L) + 1 = nI (e1 L + 1) from nI_1 _]
                    refine R_iload_3 dX12_readAddress_230 ?_
                    refine R_iconst (v := 1) dX12_readAddress_231 (by decide) ?_
                    refine R_callV (T := mX12_readAddress) (T' := mX12_lay) (As := [_, _, _, _, _]) (ci := 12) okX12_lay mlX12_159 rfl (by decide) sh_504 (ct_lay (p := e1 L + 1) (e := e2 L) (b := 1) hR hl sh_514 (by decide) (by decide) ht (by omega) (by omega) (by omega)) rfl (by decide) (by decide) (Nat.le_of_ble_eq_true rfl) dX12_readAddress_232 (fun v9 S9 V4 h9 => ?_) (fun E S9 V9 h9 => h9.elim)
                    obtain ⟨rfl, rfl, y4⟩ := h9
                    rw [lyF1] at y4 ⊢
                    have hR := hR.fr (V' := V4) (fun k _ => congrFun (y4.2.2 504 (by decide)) k)
                    have hl := hl.fr (V' := V4) (congrFun (y4.2.2 504 (by decide)) 2) (y4.2.2 505 (by decide))
                    refine R_iastE dX12_readAddress_235 sh_515 rfl (by omega) (by decide) ?_
                    have hR := hR.o (b := 515) (k := t) (v := .int (nI (cl (sub L (e1 L + 1) (e2 L))).length)) (by decide)
                    have hl := hl.o (b := 515) (k := t) (v := .int (nI (cl (sub L (e1 L + 1) (e2 L))).length)) (by decide) (by decide)
                    refine R_aload_0 dX12_readAddress_236 ?_
                    refine gfX12_43 rfl dX12_readAddress_237 sh_504 (by first | exact hR.g (k := 14) (a := 516) (by decide) | exact (a_up_ne (by omega)).trans (hR.g (k := 14) (a := 516) (by decide)) | exact (a_up_ne (by omega)).trans ((a_up_ne (by omega)).trans (hR.g (k := 14) (a := 516) (by decide))) | exact (a_up_ne (by omega)).trans ((a_up_ne (by omega)).trans ((a_up_ne (by omega)).trans (hR.g (k := 14) (a := 516) (by decide)))) | exact (a_up_ne (by omega)).trans ((a_up_ne (by omega)).trans ((a_up_ne (by omega)).trans ((a_up_ne (by omega)).trans (hR.g (k := 14) (a := 516) (by decide))))) | exact (a_up_ne (by omega)).trans ((a_up_ne (by omega)).trans ((a_up_ne (by omega)).trans ((a_up_ne (by omega)).trans ((a_up_ne (by omega)).trans (hR.g (k := 14) (a := 516) (by decide)))))) | exact (a_up_ne (by omega)).trans ((a_up_ne (by omega)).trans ((a_up_ne (by omega)).trans ((a_up_ne (by omega)).trans ((a_up_ne (by omega)).trans ((a_up_ne (by omega)).trans (hR.g (k := 14) (a := 516) (by decide)))))))) ?_
                    refine R_iload_1 dX12_readAddress_240 ?_
                    refine R_aload_0 dX12_readAddress_241 ?_
                    refine R_iload_3 dX12_readAddress_242 ?_
                    refine R_iconst (v := 1) dX12_readAddress_243 (by decide) ?_
                    refine R_iadd dX12_readAddress_244 ?_
                    rw [show nI (e2 L) + 1 = nI (e2 L + 1) from nI_1 _]
                    refine R_iload_4 dX12_readAddress_245 ?_
                    refine R_callV_e (T := mX12_readAddress) (T' := mX12_number) (As := [_, _]) (ci := 12) okX12_number mlX12_163 rfl (by decide) sh_504 (ct_number (p := e2 L + 1) (e := e3 L) hR hl (by omega) (by have := c3.1; show e3 L ≤ L.length; have : e3 L < L.length := c3.1; omega)) rfl (by decide) (by decide) (Nat.le_of_ble_eq_true rfl) dX12_readAddress_247 ?_
                    rw [show nmb L (e3 L - (e2 L + 1)) (e2 L + 1) 0 = nI hn from hn2]
                    refine R_iastE dX12_readAddress_250 sh_516 rfl (by omega) (by decide) ?_
                    have hR := hR.o (b := 516) (k := t) (v := .int (nI hn)) (by decide)
                    have hl := hl.o (b := 516) (k := t) (v := .int (nI hn)) (by decide) (by decide)
                    refine R_aload_0 dX12_readAddress_251 ?_
                    refine gfX12_46 rfl dX12_readAddress_252 sh_504 (by first | exact hR.g (k := 15) (a := 517) (by decide) | exact (a_up_ne (by omega)).trans (hR.g (k := 15) (a := 517) (by decide)) | exact (a_up_ne (by omega)).trans ((a_up_ne (by omega)).trans (hR.g (k := 15) (a := 517) (by decide))) | exact (a_up_ne (by omega)).trans ((a_up_ne (by omega)).trans ((a_up_ne (by omega)).trans (hR.g (k := 15) (a := 517) (by decide)))) | exact (a_up_ne (by omega)).trans ((a_up_ne (by omega)).trans ((a_up_ne (by omega)).trans ((a_up_ne (by omega)).trans (hR.g (k := 15) (a := 517) (by decide))))) | exact (a_up_ne (by omega)).trans ((a_up_ne (by omega)).trans ((a_up_ne (by omega)).trans ((a_up_ne (by omega)).trans ((a_up_ne (by omega)).trans (hR.g (k := 15) (a := 517) (by decide)))))) | exact (a_up_ne (by omega)).trans ((a_up_ne (by omega)).trans ((a_up_ne (by omega)).trans ((a_up_ne (by omega)).trans ((a_up_ne (by omega)).trans ((a_up_ne (by omega)).trans (hR.g (k := 15) (a := 517) (by decide)))))))) ?_
                    refine R_iload_1 dX12_readAddress_255 ?_
                    refine R_aload_0 dX12_readAddress_256 ?_
                    refine gfX12_7 rfl dX12_readAddress_257 sh_504 (by first | exact hR.g (k := 1) (a := 505) (by decide) | exact (a_up_ne (by omega)).trans (hR.g (k := 1) (a := 505) (by decide)) | exact (a_up_ne (by omega)).trans ((a_up_ne (by omega)).trans (hR.g (k := 1) (a := 505) (by decide))) | exact (a_up_ne (by omega)).trans ((a_up_ne (by omega)).trans ((a_up_ne (by omega)).trans (hR.g (k := 1) (a := 505) (by decide)))) | exact (a_up_ne (by omega)).trans ((a_up_ne (by omega)).trans ((a_up_ne (by omega)).trans ((a_up_ne (by omega)).trans (hR.g (k := 1) (a := 505) (by decide))))) | exact (a_up_ne (by omega)).trans ((a_up_ne (by omega)).trans ((a_up_ne (by omega)).trans ((a_up_ne (by omega)).trans ((a_up_ne (by omega)).trans (hR.g (k := 1) (a := 505) (by decide)))))) | exact (a_up_ne (by omega)).trans ((a_up_ne (by omega)).trans ((a_up_ne (by omega)).trans ((a_up_ne (by omega)).trans ((a_up_ne (by omega)).trans ((a_up_ne (by omega)).trans (hR.g (k := 1) (a := 505) (by decide)))))))) ?_
                    refine R_iload_4 dX12_readAddress_260 ?_
                    refine R_iconst (v := 1) dX12_readAddress_262 (by decide) ?_
                    refine R_iadd dX12_readAddress_263 ?_
                    rw [show nI (e3 L) + 1 = nI (e3 L + 1) from nI_1 _]
                    refine R_ialdE dX12_readAddress_264 sh_505 rfl (by omega) (by decide) (hl.2.1 _ (by have := c5.1; omega)) ?_
                    refine R_bipush (v := 48) dX12_readAddress_265 (by decide) ?_
                    refine R_isub dX12_readAddress_267 ?_
                    rw [show L.getD (e3 L + 1) 0 - 48 = nI zn from zn2]
                    refine R_iastE dX12_readAddress_268 sh_517 rfl (by omega) (by decide) ?_
                    have hR := hR.o (b := 517) (k := t) (v := .int (nI zn)) (by decide)
                    have hl := hl.o (b := 517) (k := t) (v := .int (nI zn)) (by decide) (by decide)
                    refine R_aload_0 dX12_readAddress_269 ?_
                    refine gfX12_49 rfl dX12_readAddress_270 sh_504 (by first | exact hR.g (k := 16) (a := 518) (by decide) | exact (a_up_ne (by omega)).trans (hR.g (k := 16) (a := 518) (by decide)) | exact (a_up_ne (by omega)).trans ((a_up_ne (by omega)).trans (hR.g (k := 16) (a := 518) (by decide))) | exact (a_up_ne (by omega)).trans ((a_up_ne (by omega)).trans ((a_up_ne (by omega)).trans (hR.g (k := 16) (a := 518) (by decide)))) | exact (a_up_ne (by omega)).trans ((a_up_ne (by omega)).trans ((a_up_ne (by omega)).trans ((a_up_ne (by omega)).trans (hR.g (k := 16) (a := 518) (by decide))))) | exact (a_up_ne (by omega)).trans ((a_up_ne (by omega)).trans ((a_up_ne (by omega)).trans ((a_up_ne (by omega)).trans ((a_up_ne (by omega)).trans (hR.g (k := 16) (a := 518) (by decide)))))) | exact (a_up_ne (by omega)).trans ((a_up_ne (by omega)).trans ((a_up_ne (by omega)).trans ((a_up_ne (by omega)).trans ((a_up_ne (by omega)).trans ((a_up_ne (by omega)).trans (hR.g (k := 16) (a := 518) (by decide)))))))) ?_
                    refine R_iload_1 dX12_readAddress_273 ?_
                    refine R_aload_0 dX12_readAddress_274 ?_
                    refine R_iload_4 dX12_readAddress_275 ?_
                    refine R_iconst (v := 3) dX12_readAddress_277 (by decide) ?_
                    refine R_iadd dX12_readAddress_278 ?_
                    rw [show nI (e3 L) + 3 = nI (e3 L + 3) from nI_add _ 3]
                    refine R_iload_5 dX12_readAddress_279 ?_
                    refine R_callV_e (T := mX12_readAddress) (T' := mX12_number) (As := [_, _]) (ci := 12) okX12_number mlX12_163 rfl (by decide) sh_504 (ct_number (p := e3 L + 3) (e := e4 L) hR hl (by omega) (by omega)) rfl (by decide) (by decide) (Nat.le_of_ble_eq_true rfl) dX12_readAddress_281 ?_
                    rw [show nmb L (e4 L - (e3 L + 3)) (e3 L + 3) 0 = nI qn from qn2]
                    refine R_iastE dX12_readAddress_284 sh_518 rfl (by omega) (by decide) ?_
                    have mm := MEk.mk (x := ((sub L 0 (e1 L)), (sub L (e1 L + 1) (e2 L)), hn, zn, qn)) y1 y2 y3 y4
                    refine R_iconst (v := -1) dX12_readAddress_285 (by decide) ?_
                    refine R_iret rfl dX12_readAddress_286 (MRA.s (y := ((sub L 0 (e1 L)), (sub L (e1 L + 1) (e2 L)), hn, zn, qn)) (r1.trans (r2.trans ((ra4s (hn3.trans ((zn4 c5).trans qn3))).trans (if_pos (by show L.length ≤ e4 L; omega))))) ⟨⟨by show (sub L 0 (e1 L)).length ≤ 12; rw [sub_len (Nat.zero_le _) (by omega)]; omega, hn1, zn1, qn1⟩, by show (sub L (e1 L + 1) (e2 L)).length ≤ 12; rw [sub_len (by omega) (by omega)]; omega, fun c hc => hok c (sub_mem hc), fun c hc => hok c (sub_mem hc)⟩ mm.1 mm.2)
                  · refine R_iload_5 dX12_readAddress_145 ?_
                    refine R_if_ge 157 dX12_readAddress_147 (by decide) (fun c147 => ?_) (fun c147 => absurd (nI_pos' (by omega)) c147)
                    have c6 : ¬ L.length ≤ e4 L := fun z => by
                      have hi : e4 L ≤ L.length := dgE_len (by show e3 L + 3 ≤ L.length; have := c5.1; omega)
                      exact c142 (by rw [show e4 L = L.length by omega])
                    refine R_iload_5 dX12_readAddress_157 ?_
                    refine R_iret rfl dX12_readAddress_159 (MRA.n (r1.trans (r2.trans ((ra4s (hn3.trans ((zn4 c5).trans qn3))).trans (if_neg c6)))) (by show e4 L < 2000; omega))
              · have c5 : ¬ cm L (e3 L + 1 + 1) := fun z => c112 ((lm_eq (by decide) (by decide)).2 z.2)
                refine R_iload_4 dX12_readAddress_115 ?_
                refine R_iconst (v := 2) dX12_readAddress_117 (by decide) ?_
                refine R_iadd dX12_readAddress_118 ?_
                rw [show nI (e3 L) + 2 = nI (e3 L + 2) from nI_add _ 2]
                refine R_iret rfl dX12_readAddress_119 (MRA.n (r1.trans (r2.trans (ra4n (hn3.trans (zn3 c5))))) (by show e3 L + 1 + 1 < 2000; omega))
            · have c4 : ¬ isDg (L.getD (e3 L + 1) 0) 53 := (by first | exact fun z => absurd c81 (Int32.not_lt.2 (lm_dg.2 z).1) | exact fun z => c94 (lm_dg.2 z).2)
              refine R_iload_4 dX12_readAddress_97 ?_
              refine R_iconst (v := 1) dX12_readAddress_99 (by decide) ?_
              refine R_iadd dX12_readAddress_100 ?_
              rw [show nI (e3 L) + 1 = nI (e3 L + 1) from nI_1 _]
              refine R_iret rfl dX12_readAddress_101 (MRA.n (r1.trans (r2.trans (ra4n (hn3.trans (an3 c4))))) (by show e3 L + 1 < 2000; omega))
        · have c3 : ¬ cm L (e3 L) := fun z => c53 ((lm_eq (by decide) (by decide)).2 z.2)
          refine R_iload_4 dX12_readAddress_56 ?_
          refine R_if_ge 68 dX12_readAddress_58 (by decide) (fun c58 => ?_) (fun c58 => absurd (nI_pos' (by omega)) c58)
          refine R_iload_4 dX12_readAddress_68 ?_
          refine R_iret rfl dX12_readAddress_70 (MRA.n (r1.trans (r2.trans (ra4n (an1 (Or.inr c3))))) (by show e3 L < 2000; omega))
/-- whom an address may be matched with -/
def MM (V : aV) (mt : Nat → Nat) : Prop := ∀ i j, i < 12 → j < 12 → V 519 (12 * i + j) = .int (bI ((mt i).testBit j = true))
theorem MM.fr {V V' : aV} {mt : Nat → Nat} (h : MM V mt) (e : V' 519 = V 519) : MM V' mt := fun i j hi hj => by rw [e]; exact h i j hi hj
def anyB (m : Nat) : Nat → Bool
  | 0 => false
  | j + 1 => anyB m j || m.testBit j
theorem anyB_t {m i : Nat} (h : m.testBit i = true) : ∀ j, i < j → anyB m j = true
  | 0, q => absurd q (Nat.not_lt_zero i)
  | j + 1, q => by
    show (anyB m j || m.testBit j) = true
    by_cases e : i = j
    · subst e; rw [h, Bool.or_true]
    · rw [anyB_t h j (by omega), Bool.true_or]
theorem anyB_f {m : Nat} : ∀ j, anyB m j = true → ∃ i, i < j ∧ m.testBit i = true
  | 0, q => absurd (show false = true from q) (by decide)
  | j + 1, q => by
    have q2 : (anyB m j || m.testBit j) = true := q
    rcases Bool.or_eq_true_iff.1 q2 with h | h
    · obtain ⟨i, a, b⟩ := anyB_f j h; exact ⟨i, by omega, b⟩
    · exact ⟨j, by omega, h⟩
theorem anyB_iff {mt : Nat → Nat} {cnt k : Nat} (hm : MTO mt cnt) (hk : k < 12) (hc : cnt ≤ 12) : anyB (mt k) cnt = true ↔ mt k ≠ 0 := by
  constructor
  · intro h z
    obtain ⟨i, -, q⟩ := anyB_f _ h
    rw [z, Nat.zero_testBit] at q
    cases q
  · intro h
    obtain ⟨i, hi⟩ := Nat.exists_testBit_of_ne_zero h
    have h12 : i < 12 := Nat.lt_of_not_le fun q => by
      have := hm.1 k hk
      rw [Nat.testBit_lt_two_pow (Nat.lt_of_lt_of_le this (Nat.pow_le_pow_right (by decide) q))] at hi
      cases hi
    exact anyB_t hi cnt (hm.2 k i hk h12 hi).2.1
set_option maxHeartbeats 4000000 in
theorem im_loop {mc ms kc ks : Nat} {V : aV} {mt : Nat → Nat} {cnt t : Nat} (hR : MR V) (h5 : V 504 5 = .int (nI cnt)) (hM : MM V mt) (hc : cnt ≤ 12) (ht : t < 12) {Q : Option Value → aS → aV → Prop} {QX : String → aS → aV → Prop} (hQ : Q (some (.int (bI (anyB (mt t) cnt = true)))) Sh V) : ∀ (m j : Nat), j + m = cnt → R mX12_isMatched 0 mc ms Q QX kc ks 4 [some (.ref 504), some (.int (nI t)), some (.int (bI (anyB (mt t) j = true))), some (.int (nI j))] [] Sh V := by
  intro m
  induction m with
  | zero =>
    intro j hj
    have hj' : j = cnt := by omega
    subst hj'
    refine R_iload_3 dX12_isMatched_4 ?_
    refine R_aload_0 dX12_isMatched_5 ?_
    refine gfX12_166 rfl dX12_isMatched_6 sh_504 (by first | assumption | exact a_up_self _ _ _ _ | exact (a_up_ne (by omega)).trans (by assumption) | exact (a_up_ne (by omega)).trans (a_up_self _ _ _ _) | exact (a_up_ne (by omega)).trans ((a_up_ne (by omega)).trans (by assumption)) | exact (a_up_ne (by omega)).trans ((a_up_ne (by omega)).trans (a_up_self _ _ _ _)) | exact (a_up_ne (by omega)).trans ((a_up_ne (by omega)).trans ((a_up_ne (by omega)).trans (by assumption))) | exact (a_up_ne (by omega)).trans ((a_up_ne (by omega)).trans ((a_up_ne (by omega)).trans (a_up_self _ _ _ _))) | exact (a_up_ne (by omega)).trans ((a_up_ne (by omega)).trans ((a_up_ne (by omega)).trans ((a_up_ne (by omega)).trans (by assumption)))) | exact (a_up_ne (by omega)).trans ((a_up_ne (by omega)).trans ((a_up_ne (by omega)).trans ((a_up_ne (by omega)).trans (a_up_self _ _ _ _)))) | exact (a_up_ne (by omega)).trans ((a_up_ne (by omega)).trans ((a_up_ne (by omega)).trans ((a_up_ne (by omega)).trans ((a_up_ne (by omega)).trans (by assumption))))) | exact (a_up_ne (by omega)).trans ((a_up_ne (by omega)).trans ((a_up_ne (by omega)).trans ((a_up_ne (by omega)).trans ((a_up_ne (by omega)).trans (a_up_self _ _ _ _)))))) ?_
    refine R_icmp_ge 42 dX12_isMatched_9 (by decide) (fun c9 => ?_) (fun c9 => absurd (Int32.le_refl _) c9)
    refine R_iload_2 dX12_isMatched_42 ?_
    refine R_zret rfl bI_nar dX12_isMatched_43 hQ
  | succ m ih =>
    intro j hj
    have hv := hM t j ht (by omega)
    refine R_iload_3 dX12_isMatched_4 ?_
    refine R_aload_0 dX12_isMatched_5 ?_
    refine gfX12_166 rfl dX12_isMatched_6 sh_504 (by first | assumption | exact a_up_self _ _ _ _ | exact (a_up_ne (by omega)).trans (by assumption) | exact (a_up_ne (by omega)).trans (a_up_self _ _ _ _) | exact (a_up_ne (by omega)).trans ((a_up_ne (by omega)).trans (by assumption)) | exact (a_up_ne (by omega)).trans ((a_up_ne (by omega)).trans (a_up_self _ _ _ _)) | exact (a_up_ne (by omega)).trans ((a_up_ne (by omega)).trans ((a_up_ne (by omega)).trans (by assumption))) | exact (a_up_ne (by omega)).trans ((a_up_ne (by omega)).trans ((a_up_ne (by omega)).trans (a_up_self _ _ _ _))) | exact (a_up_ne (by omega)).trans ((a_up_ne (by omega)).trans ((a_up_ne (by omega)).trans ((a_up_ne (by omega)).trans (by assumption)))) | exact (a_up_ne (by omega)).trans ((a_up_ne (by omega)).trans ((a_up_ne (by omega)).trans ((a_up_ne (by omega)).trans (a_up_self _ _ _ _)))) | exact (a_up_ne (by omega)).trans ((a_up_ne (by omega)).trans ((a_up_ne (by omega)).trans ((a_up_ne (by omega)).trans ((a_up_ne (by omega)).trans (by assumption))))) | exact (a_up_ne (by omega)).trans ((a_up_ne (by omega)).trans ((a_up_ne (by omega)).trans ((a_up_ne (by omega)).trans ((a_up_ne (by omega)).trans (a_up_self _ _ _ _)))))) ?_
    refine R_icmp_ge 42 dX12_isMatched_9 (by decide) (fun c9 => absurd c9 (nI_ge (by omega) (by omega))) (fun c9 => ?_)
    refine R_iload_2 dX12_isMatched_12 ?_
    refine R_if_ne 30 dX12_isMatched_13 (by decide) (fun c13 => ?_) (fun c13 => ?_)
    · refine R_iconst (v := 1) dX12_isMatched_30 (by decide) ?_
      refine R_goto 35 dX12_isMatched_31 (by decide) ?_
      refine R_istore_2 rfl (by decide) dX12_isMatched_35 ?_
      refine R_iinc_3 rfl (by decide) dX12_isMatched_36 rfl ?_
      rw [show nI j + Int32.ofInt 1 = nI (j + 1) from nI_1 _]
      refine R_goto 4 dX12_isMatched_39 (by decide) ?_
      have ea : anyB (mt t) (j + 1) = (anyB (mt t) j || (mt t).testBit j) := rfl
      first
        | (have e9 : (1 : Int32) = bI (anyB (mt t) (j + 1) = true) := (bI_t (by rw [ea, bI_ne c13]; rfl)).symm
           rw [e9]
           exact ih (j + 1) (by omega))
        | (have e9 : (1 : Int32) = bI (anyB (mt t) (j + 1) = true) := (bI_t (by rw [ea, bI_ne c27, Bool.or_true])).symm
           rw [e9]
           exact ih (j + 1) (by omega))
        | (have e9 : (0 : Int32) = bI (anyB (mt t) (j + 1) = true) := (bI_f (by rw [ea, Bool.eq_false_iff.2 (bI_eq c13), Bool.eq_false_iff.2 (bI_eq c27)]; decide)).symm
           rw [e9]
           exact ih (j + 1) (by omega))
    · refine R_aload_0 dX12_isMatched_16 ?_
      refine gfX12_52 rfl dX12_isMatched_17 sh_504 (by first | exact hR.g (k := 17) (a := 519) (by decide) | exact (a_up_ne (by omega)).trans (hR.g (k := 17) (a := 519) (by decide)) | exact (a_up_ne (by omega)).trans ((a_up_ne (by omega)).trans (hR.g (k := 17) (a := 519) (by decide))) | exact (a_up_ne (by omega)).trans ((a_up_ne (by omega)).trans ((a_up_ne (by omega)).trans (hR.g (k := 17) (a := 519) (by decide)))) | exact (a_up_ne (by omega)).trans ((a_up_ne (by omega)).trans ((a_up_ne (by omega)).trans ((a_up_ne (by omega)).trans (hR.g (k := 17) (a := 519) (by decide))))) | exact (a_up_ne (by omega)).trans ((a_up_ne (by omega)).trans ((a_up_ne (by omega)).trans ((a_up_ne (by omega)).trans ((a_up_ne (by omega)).trans (hR.g (k := 17) (a := 519) (by decide)))))) | exact (a_up_ne (by omega)).trans ((a_up_ne (by omega)).trans ((a_up_ne (by omega)).trans ((a_up_ne (by omega)).trans ((a_up_ne (by omega)).trans ((a_up_ne (by omega)).trans (hR.g (k := 17) (a := 519) (by decide)))))))) ?_
      refine R_bipush (v := 12) dX12_isMatched_20 (by decide) ?_
      refine R_iload_1 dX12_isMatched_22 ?_
      refine R_imul dX12_isMatched_23 ?_
      refine R_iload_3 dX12_isMatched_24 ?_
      refine R_iadd dX12_isMatched_25 ?_
      refine R_zaldE dX12_isMatched_26 sh_519 (ix1 12 t j) (by omega) (by decide) hv ?_
      refine R_if_eq 34 dX12_isMatched_27 (by decide) (fun c27 => ?_) (fun c27 => ?_)
      · refine R_iconst (v := 0) dX12_isMatched_34 (by decide) ?_
        refine R_istore_2 rfl (by decide) dX12_isMatched_35 ?_
        refine R_iinc_3 rfl (by decide) dX12_isMatched_36 rfl ?_
        rw [show nI j + Int32.ofInt 1 = nI (j + 1) from nI_1 _]
        refine R_goto 4 dX12_isMatched_39 (by decide) ?_
        have ea : anyB (mt t) (j + 1) = (anyB (mt t) j || (mt t).testBit j) := rfl
        first
          | (have e9 : (1 : Int32) = bI (anyB (mt t) (j + 1) = true) := (bI_t (by rw [ea, bI_ne c13]; rfl)).symm
             rw [e9]
             exact ih (j + 1) (by omega))
          | (have e9 : (1 : Int32) = bI (anyB (mt t) (j + 1) = true) := (bI_t (by rw [ea, bI_ne c27, Bool.or_true])).symm
             rw [e9]
             exact ih (j + 1) (by omega))
          | (have e9 : (0 : Int32) = bI (anyB (mt t) (j + 1) = true) := (bI_f (by rw [ea, Bool.eq_false_iff.2 (bI_eq c13), Bool.eq_false_iff.2 (bI_eq c27)]; decide)).symm
             rw [e9]
             exact ih (j + 1) (by omega))
      · refine R_iconst (v := 1) dX12_isMatched_30 (by decide) ?_
        refine R_goto 35 dX12_isMatched_31 (by decide) ?_
        refine R_istore_2 rfl (by decide) dX12_isMatched_35 ?_
        refine R_iinc_3 rfl (by decide) dX12_isMatched_36 rfl ?_
        rw [show nI j + Int32.ofInt 1 = nI (j + 1) from nI_1 _]
        refine R_goto 4 dX12_isMatched_39 (by decide) ?_
        have ea : anyB (mt t) (j + 1) = (anyB (mt t) j || (mt t).testBit j) := rfl
        first
          | (have e9 : (1 : Int32) = bI (anyB (mt t) (j + 1) = true) := (bI_t (by rw [ea, bI_ne c13]; rfl)).symm
             rw [e9]
             exact ih (j + 1) (by omega))
          | (have e9 : (1 : Int32) = bI (anyB (mt t) (j + 1) = true) := (bI_t (by rw [ea, bI_ne c27, Bool.or_true])).symm
             rw [e9]
             exact ih (j + 1) (by omega))
          | (have e9 : (0 : Int32) = bI (anyB (mt t) (j + 1) = true) := (bI_f (by rw [ea, Bool.eq_false_iff.2 (bI_eq c13), Bool.eq_false_iff.2 (bI_eq c27)]; decide)).symm
             rw [e9]
             exact ih (j + 1) (by omega))
set_option maxHeartbeats 4000000 in
theorem ct_isMatched {V : aV} {mt : Nat → Nat} {cnt t : Nat} (hR : MR V) (h5 : V 504 5 = .int (nI cnt)) (hM : MM V mt) (hc : cnt ≤ 12) (ht : t < 12) : CT mX12_isMatched 0 0 0 [.ref 504, .int (nI t)] Sh V (aRet (some (.int (bI (anyB (mt t) cnt = true)))) Sh V) aNo := by
  refine CT_of (by decide +kernel) (Nat.le_of_ble_eq_true rfl) ?_
  show R _ _ _ _ _ _ _ _ 0 [some (.ref 504), some (.int (nI t)), none, none] [] _ _
  refine R_iconst (v := 0) dX12_isMatched_0 (by decide) ?_
  refine R_istore_2 rfl (by decide) dX12_isMatched_1 ?_
  refine R_iconst (v := 0) dX12_isMatched_2 (by decide) ?_
  refine R_istore_3 rfl (by decide) dX12_isMatched_3 ?_
  have e0 : (0 : Int32) = bI (anyB (mt t) 0 = true) := (bI_f (by decide : ¬ false = true)).symm
  have h9 := im_loop (Q := aRet (some (.int (bI (anyB (mt t) cnt = true)))) Sh V) (QX := aNo) (mc := 0) (ms := 0) (kc := 0) (ks := 0) hR h5 hM hc ht ⟨rfl, rfl, rfl⟩ cnt 0 (by omega)
  rw [← e0] at h9
  exact h9

