/-! ===== MergePostModel: writing, one sign on ===== -/
theorem go_b1 {dd dp fi : Nat} (hz : dd = 0) (hb : fi.testBit dp = true) : dp = (if dd = 0 ∧ fi.testBit dp = true then dp else if dd = dp ∧ ¬ fi.testBit dp = true then 0 else dd) := (if_pos ⟨hz, hb⟩).symm
theorem go_b2 {dd dp fi : Nat} (hd : dd = dp) (hb : ¬ fi.testBit dp = true) : 0 = (if dd = 0 ∧ fi.testBit dp = true then dp else if dd = dp ∧ ¬ fi.testBit dp = true then 0 else dd) := ((if_neg (fun z => hb z.2)).trans (if_pos ⟨hd, hb⟩)).symm
theorem go_b3 {dd dp fi : Nat} (hz : ¬ dd = 0) (hb : fi.testBit dp = true) : dd = (if dd = 0 ∧ fi.testBit dp = true then dp else if dd = dp ∧ ¬ fi.testBit dp = true then 0 else dd) := ((if_neg (fun z => hz z.1)).trans (if_neg (fun z => z.2 hb))).symm
theorem go_b4 {dd dp fi : Nat} (hd : ¬ nI dd = nI dp) (hb : ¬ fi.testBit dp = true) : dd = (if dd = 0 ∧ fi.testBit dp = true then dp else if dd = dp ∧ ¬ fi.testBit dp = true then 0 else dd) := ((if_neg (fun z => hb z.2)).trans (if_neg (fun z => hd (by rw [z.1])))).symm
theorem FrLv.lo {l a : Nat} {v : Value} {V : aV} (h1 : 532 ≤ a) (h2 : a ≤ 535) : FrLv l V (a_up V a l v) := FrLv.u h1 h2
theorem FrLv.mr {l : Nat} {V V' : aV} (h : FrLv l V V') (hR : MR V) : MR V' := h.n.mr hR
set_option maxHeartbeats 4000000 in
theorem ct_go_a {V : aV} {T : Nat → List Int32} {to : Nat → Bool} {ent : Nat → EntN} {cnt g n p : Nat} (hR : MR V) (hT : MT V T to) (hEn : ME V ent cnt) (hEO : ∀ k, k < 12 → EO (ent k)) (hg : MBR g) (hn : n < 8) (ht : to n = true) (h96 : (T n).length ≤ 96) {l dp fi dd : Nat} (hW : LW V l n p dp fi dd) (hl : l < 5) (hp : p < (T n).length) (hC : CHd (T n) p) (hdp : dp < 5) (hfi : fi < 64) (hdd : dd < 100) : CT mX12_goOn 3 0 0 [.ref 504, .int (nI n), .int (nI l), .int (nI g)] Sh V (fun v S' V' => some (.int (nI l)) = v ∧ Sh = S' ∧ (∃ fi', FB fi fi' (dp + 1) (decide (hld (hVal (fV ent g) ((T n).getD (p + 1) 0)) ((T n).getD (p + 2) 0) (hN (T n) p))) ∧ LW V' l n (hE (T n) p + 1) (dp + 1) fi' (if dd = 0 ∧ (decide (hld (hVal (fV ent g) ((T n).getD (p + 1) 0)) ((T n).getD (p + 2) 0) (hN (T n) p))) = false then dp + 1 else dd)) ∧ FrLv l V V') aNo := by
  refine CT_of (by decide +kernel) (Nat.le_of_ble_eq_true rfl) ?_
  show R _ _ _ _ _ _ _ _ 0 [some (.ref 504), some (.int (nI n)), some (.int (nI l)), some (.int (nI g)), none, none, none, none] [] _ _
  obtain ⟨w0, w1, w2, w3, w4⟩ := id hW
  refine R_aload_0 dX12_goOn_0 ?_
  refine gfX12_99 rfl dX12_goOn_1 sh_504 (by first | exact hR.g (k := 38) (a := 532) (by decide) | exact (a_up_ne (by omega)).trans (hR.g (k := 38) (a := 532) (by decide)) | exact (a_up_ne (by omega)).trans ((a_up_ne (by omega)).trans (hR.g (k := 38) (a := 532) (by decide))) | exact (a_up_ne (by omega)).trans ((a_up_ne (by omega)).trans ((a_up_ne (by omega)).trans (hR.g (k := 38) (a := 532) (by decide)))) | exact (a_up_ne (by omega)).trans ((a_up_ne (by omega)).trans ((a_up_ne (by omega)).trans ((a_up_ne (by omega)).trans (hR.g (k := 38) (a := 532) (by decide))))) | exact (a_up_ne (by omega)).trans ((a_up_ne (by omega)).trans ((a_up_ne (by omega)).trans ((a_up_ne (by omega)).trans ((a_up_ne (by omega)).trans (hR.g (k := 38) (a := 532) (by decide)))))) | exact (a_up_ne (by omega)).trans ((a_up_ne (by omega)).trans ((a_up_ne (by omega)).trans ((a_up_ne (by omega)).trans ((a_up_ne (by omega)).trans ((a_up_ne (by omega)).trans (hR.g (k := 38) (a := 532) (by decide)))))))) ?_
  refine R_iload_2 dX12_goOn_4 ?_
  refine R_ialdE dX12_goOn_5 sh_532 rfl (by omega) (by decide) w1 ?_
  refine R_istore_4 rfl (by decide) dX12_goOn_6 ?_
  refine R_aload_0 dX12_goOn_8 ?_
  refine gfX12_13 rfl dX12_goOn_9 sh_504 (by first | exact hR.g (k := 3) (a := 506) (by decide) | exact (a_up_ne (by omega)).trans (hR.g (k := 3) (a := 506) (by decide)) | exact (a_up_ne (by omega)).trans ((a_up_ne (by omega)).trans (hR.g (k := 3) (a := 506) (by decide))) | exact (a_up_ne (by omega)).trans ((a_up_ne (by omega)).trans ((a_up_ne (by omega)).trans (hR.g (k := 3) (a := 506) (by decide)))) | exact (a_up_ne (by omega)).trans ((a_up_ne (by omega)).trans ((a_up_ne (by omega)).trans ((a_up_ne (by omega)).trans (hR.g (k := 3) (a := 506) (by decide))))) | exact (a_up_ne (by omega)).trans ((a_up_ne (by omega)).trans ((a_up_ne (by omega)).trans ((a_up_ne (by omega)).trans ((a_up_ne (by omega)).trans (hR.g (k := 3) (a := 506) (by decide)))))) | exact (a_up_ne (by omega)).trans ((a_up_ne (by omega)).trans ((a_up_ne (by omega)).trans ((a_up_ne (by omega)).trans ((a_up_ne (by omega)).trans ((a_up_ne (by omega)).trans (hR.g (k := 3) (a := 506) (by decide)))))))) ?_
  refine R_bipush (v := 96) dX12_goOn_12 (by decide) ?_
  refine R_iload_1 dX12_goOn_14 ?_
  refine R_imul dX12_goOn_15 ?_
  refine R_iload_4 dX12_goOn_16 ?_
  refine R_iadd dX12_goOn_18 ?_
  refine R_ialdE dX12_goOn_19 sh_506 (ix1 96 n p) (by omega) (by decide) (hT.t hn ht hp) ?_
  refine R_istore_5 rfl (by decide) dX12_goOn_20 ?_
  refine R_aload_0 dX12_goOn_22 ?_
  refine gfX12_108 rfl dX12_goOn_23 sh_504 (by first | exact hR.g (k := 41) (a := 535) (by decide) | exact (a_up_ne (by omega)).trans (hR.g (k := 41) (a := 535) (by decide)) | exact (a_up_ne (by omega)).trans ((a_up_ne (by omega)).trans (hR.g (k := 41) (a := 535) (by decide))) | exact (a_up_ne (by omega)).trans ((a_up_ne (by omega)).trans ((a_up_ne (by omega)).trans (hR.g (k := 41) (a := 535) (by decide)))) | exact (a_up_ne (by omega)).trans ((a_up_ne (by omega)).trans ((a_up_ne (by omega)).trans ((a_up_ne (by omega)).trans (hR.g (k := 41) (a := 535) (by decide))))) | exact (a_up_ne (by omega)).trans ((a_up_ne (by omega)).trans ((a_up_ne (by omega)).trans ((a_up_ne (by omega)).trans ((a_up_ne (by omega)).trans (hR.g (k := 41) (a := 535) (by decide)))))) | exact (a_up_ne (by omega)).trans ((a_up_ne (by omega)).trans ((a_up_ne (by omega)).trans ((a_up_ne (by omega)).trans ((a_up_ne (by omega)).trans ((a_up_ne (by omega)).trans (hR.g (k := 41) (a := 535) (by decide)))))))) ?_
  refine R_iload_2 dX12_goOn_26 ?_
  refine R_ialdE dX12_goOn_27 sh_535 rfl (by omega) (by decide) w4 ?_
  refine R_if_ne 35 dX12_goOn_28 (by decide) (fun c28 => ?_) (fun c28 => ?_)
  · refine R_iconst (v := 0) dX12_goOn_35 (by decide) ?_
    refine R_istore_6 rfl (by decide) dX12_goOn_36 ?_
    refine R_iload_5 dX12_goOn_38 ?_
    refine R_bipush (v := 91) dX12_goOn_40 (by decide) ?_
    refine R_icmp_ne 55 dX12_goOn_42 (by decide) (fun c42 => absurd hC.1 c42) (fun c42 => ?_)
    refine R_aload_0 dX12_goOn_45 ?_
    refine R_iload_1 dX12_goOn_46 ?_
    refine R_iload_2 dX12_goOn_47 ?_
    refine R_iload_3 dX12_goOn_48 ?_
    refine R_callV (T := mX12_goOn) (T' := mX12_open) (As := [_, _, _]) (ci := 12) okX12_open mlX12_254 rfl (by decide) sh_504 (ct_mopen hR hT hEn hEO hg hn ht h96 hW hC hl hdp hfi hdd) rfl (by decide) (by decide) (Nat.le_of_ble_eq_true rfl) dX12_goOn_49 (fun v9 S9 V2 h9 => ?_) (fun E S9 V9 h9 => h9.elim)
    obtain ⟨rfl, rfl, g4, u4⟩ := h9
    refine R_goto 313 dX12_goOn_52 (by decide) ?_
    refine R_iload_2 dX12_goOn_313 ?_
    refine R_iret rfl dX12_goOn_314 ⟨rfl, rfl, g4, u4⟩
  · refine R_iconst (v := 1) dX12_goOn_31 (by decide) ?_
    refine R_goto 36 dX12_goOn_32 (by decide) ?_
    refine R_istore_6 rfl (by decide) dX12_goOn_36 ?_
    refine R_iload_5 dX12_goOn_38 ?_
    refine R_bipush (v := 91) dX12_goOn_40 (by decide) ?_
    refine R_icmp_ne 55 dX12_goOn_42 (by decide) (fun c42 => absurd hC.1 c42) (fun c42 => ?_)
    refine R_aload_0 dX12_goOn_45 ?_
    refine R_iload_1 dX12_goOn_46 ?_
    refine R_iload_2 dX12_goOn_47 ?_
    refine R_iload_3 dX12_goOn_48 ?_
    refine R_callV (T := mX12_goOn) (T' := mX12_open) (As := [_, _, _]) (ci := 12) okX12_open mlX12_254 rfl (by decide) sh_504 (ct_mopen hR hT hEn hEO hg hn ht h96 hW hC hl hdp hfi hdd) rfl (by decide) (by decide) (Nat.le_of_ble_eq_true rfl) dX12_goOn_49 (fun v9 S9 V2 h9 => ?_) (fun E S9 V9 h9 => h9.elim)
    obtain ⟨rfl, rfl, g4, u4⟩ := h9
    refine R_goto 313 dX12_goOn_52 (by decide) ?_
    refine R_iload_2 dX12_goOn_313 ?_
    refine R_iret rfl dX12_goOn_314 ⟨rfl, rfl, g4, u4⟩

set_option maxHeartbeats 4000000 in
theorem ct_go_b {V : aV} {T : Nat → List Int32} {to : Nat → Bool} {ent : Nat → EntN} {cnt g n p : Nat} (hR : MR V) (hT : MT V T to) (hEn : ME V ent cnt) (hEO : ∀ k, k < 12 → EO (ent k)) (hg : MBR g) (hn : n < 8) (ht : to n = true) (h96 : (T n).length ≤ 96) {l dp fi dd : Nat} (hW : LW V l n p dp fi dd) (hl : l < 5) (hp : p < (T n).length) (hc : (T n).getD p 0 = 124) (h1 : 1 ≤ dp) (hdp : dp ≤ 5) (hfi : fi < 64) (hdd : dd < 100) : CT mX12_goOn 3 0 0 [.ref 504, .int (nI n), .int (nI l), .int (nI g)] Sh V (fun v S' V' => some (.int (nI l)) = v ∧ Sh = S' ∧ LW V' l n (p + 1) dp fi (if dd = 0 ∧ fi.testBit dp = true then dp else if dd = dp ∧ ¬ fi.testBit dp = true then 0 else dd) ∧ FrLv l V V') aNo := by
  refine CT_of (by decide +kernel) (Nat.le_of_ble_eq_true rfl) ?_
  show R _ _ _ _ _ _ _ _ 0 [some (.ref 504), some (.int (nI n)), some (.int (nI l)), some (.int (nI g)), none, none, none, none] [] _ _
  obtain ⟨w0, w1, w2, w3, w4⟩ := id hW
  refine R_aload_0 dX12_goOn_0 ?_
  refine gfX12_99 rfl dX12_goOn_1 sh_504 (by first | exact hR.g (k := 38) (a := 532) (by decide) | exact (a_up_ne (by omega)).trans (hR.g (k := 38) (a := 532) (by decide)) | exact (a_up_ne (by omega)).trans ((a_up_ne (by omega)).trans (hR.g (k := 38) (a := 532) (by decide))) | exact (a_up_ne (by omega)).trans ((a_up_ne (by omega)).trans ((a_up_ne (by omega)).trans (hR.g (k := 38) (a := 532) (by decide)))) | exact (a_up_ne (by omega)).trans ((a_up_ne (by omega)).trans ((a_up_ne (by omega)).trans ((a_up_ne (by omega)).trans (hR.g (k := 38) (a := 532) (by decide))))) | exact (a_up_ne (by omega)).trans ((a_up_ne (by omega)).trans ((a_up_ne (by omega)).trans ((a_up_ne (by omega)).trans ((a_up_ne (by omega)).trans (hR.g (k := 38) (a := 532) (by decide)))))) | exact (a_up_ne (by omega)).trans ((a_up_ne (by omega)).trans ((a_up_ne (by omega)).trans ((a_up_ne (by omega)).trans ((a_up_ne (by omega)).trans ((a_up_ne (by omega)).trans (hR.g (k := 38) (a := 532) (by decide)))))))) ?_
  refine R_iload_2 dX12_goOn_4 ?_
  refine R_ialdE dX12_goOn_5 sh_532 rfl (by omega) (by decide) w1 ?_
  refine R_istore_4 rfl (by decide) dX12_goOn_6 ?_
  refine R_aload_0 dX12_goOn_8 ?_
  refine gfX12_13 rfl dX12_goOn_9 sh_504 (by first | exact hR.g (k := 3) (a := 506) (by decide) | exact (a_up_ne (by omega)).trans (hR.g (k := 3) (a := 506) (by decide)) | exact (a_up_ne (by omega)).trans ((a_up_ne (by omega)).trans (hR.g (k := 3) (a := 506) (by decide))) | exact (a_up_ne (by omega)).trans ((a_up_ne (by omega)).trans ((a_up_ne (by omega)).trans (hR.g (k := 3) (a := 506) (by decide)))) | exact (a_up_ne (by omega)).trans ((a_up_ne (by omega)).trans ((a_up_ne (by omega)).trans ((a_up_ne (by omega)).trans (hR.g (k := 3) (a := 506) (by decide))))) | exact (a_up_ne (by omega)).trans ((a_up_ne (by omega)).trans ((a_up_ne (by omega)).trans ((a_up_ne (by omega)).trans ((a_up_ne (by omega)).trans (hR.g (k := 3) (a := 506) (by decide)))))) | exact (a_up_ne (by omega)).trans ((a_up_ne (by omega)).trans ((a_up_ne (by omega)).trans ((a_up_ne (by omega)).trans ((a_up_ne (by omega)).trans ((a_up_ne (by omega)).trans (hR.g (k := 3) (a := 506) (by decide)))))))) ?_
  refine R_bipush (v := 96) dX12_goOn_12 (by decide) ?_
  refine R_iload_1 dX12_goOn_14 ?_
  refine R_imul dX12_goOn_15 ?_
  refine R_iload_4 dX12_goOn_16 ?_
  refine R_iadd dX12_goOn_18 ?_
  refine R_ialdE dX12_goOn_19 sh_506 (ix1 96 n p) (by omega) (by decide) (hT.t hn ht hp) ?_
  refine R_istore_5 rfl (by decide) dX12_goOn_20 ?_
  refine R_aload_0 dX12_goOn_22 ?_
  refine gfX12_108 rfl dX12_goOn_23 sh_504 (by first | exact hR.g (k := 41) (a := 535) (by decide) | exact (a_up_ne (by omega)).trans (hR.g (k := 41) (a := 535) (by decide)) | exact (a_up_ne (by omega)).trans ((a_up_ne (by omega)).trans (hR.g (k := 41) (a := 535) (by decide))) | exact (a_up_ne (by omega)).trans ((a_up_ne (by omega)).trans ((a_up_ne (by omega)).trans (hR.g (k := 41) (a := 535) (by decide)))) | exact (a_up_ne (by omega)).trans ((a_up_ne (by omega)).trans ((a_up_ne (by omega)).trans ((a_up_ne (by omega)).trans (hR.g (k := 41) (a := 535) (by decide))))) | exact (a_up_ne (by omega)).trans ((a_up_ne (by omega)).trans ((a_up_ne (by omega)).trans ((a_up_ne (by omega)).trans ((a_up_ne (by omega)).trans (hR.g (k := 41) (a := 535) (by decide)))))) | exact (a_up_ne (by omega)).trans ((a_up_ne (by omega)).trans ((a_up_ne (by omega)).trans ((a_up_ne (by omega)).trans ((a_up_ne (by omega)).trans ((a_up_ne (by omega)).trans (hR.g (k := 41) (a := 535) (by decide)))))))) ?_
  refine R_iload_2 dX12_goOn_26 ?_
  refine R_ialdE dX12_goOn_27 sh_535 rfl (by omega) (by decide) w4 ?_
  refine R_if_ne 35 dX12_goOn_28 (by decide) (fun c28 => ?_) (fun c28 => ?_)
  · have hz : ¬ dd = 0 := fun z => c28 (by rw [z]; rfl)
    refine R_iconst (v := 0) dX12_goOn_35 (by decide) ?_
    refine R_istore_6 rfl (by decide) dX12_goOn_36 ?_
    refine R_iload_5 dX12_goOn_38 ?_
    refine R_bipush (v := 91) dX12_goOn_40 (by decide) ?_
    refine R_icmp_ne 55 dX12_goOn_42 (by decide) (fun c42 => ?_) (fun c42 => absurd c42 (by rw [hc]; decide))
    refine R_iload_5 dX12_goOn_55 ?_
    refine R_bipush (v := 124) dX12_goOn_57 (by decide) ?_
    refine R_icmp_ne 156 dX12_goOn_59 (by decide) (fun c59 => absurd hc c59) (fun c59 => ?_)
    refine R_aload_0 dX12_goOn_62 ?_
    refine gfX12_105 rfl dX12_goOn_63 sh_504 (by first | exact hR.g (k := 40) (a := 534) (by decide) | exact (a_up_ne (by omega)).trans (hR.g (k := 40) (a := 534) (by decide)) | exact (a_up_ne (by omega)).trans ((a_up_ne (by omega)).trans (hR.g (k := 40) (a := 534) (by decide))) | exact (a_up_ne (by omega)).trans ((a_up_ne (by omega)).trans ((a_up_ne (by omega)).trans (hR.g (k := 40) (a := 534) (by decide)))) | exact (a_up_ne (by omega)).trans ((a_up_ne (by omega)).trans ((a_up_ne (by omega)).trans ((a_up_ne (by omega)).trans (hR.g (k := 40) (a := 534) (by decide))))) | exact (a_up_ne (by omega)).trans ((a_up_ne (by omega)).trans ((a_up_ne (by omega)).trans ((a_up_ne (by omega)).trans ((a_up_ne (by omega)).trans (hR.g (k := 40) (a := 534) (by decide)))))) | exact (a_up_ne (by omega)).trans ((a_up_ne (by omega)).trans ((a_up_ne (by omega)).trans ((a_up_ne (by omega)).trans ((a_up_ne (by omega)).trans ((a_up_ne (by omega)).trans (hR.g (k := 40) (a := 534) (by decide)))))))) ?_
    refine R_iload_2 dX12_goOn_66 ?_
    refine R_ialdE dX12_goOn_67 sh_534 rfl (by omega) (by decide) w3 ?_
    refine R_aload_0 dX12_goOn_68 ?_
    refine gfX12_102 rfl dX12_goOn_69 sh_504 (by first | exact hR.g (k := 39) (a := 533) (by decide) | exact (a_up_ne (by omega)).trans (hR.g (k := 39) (a := 533) (by decide)) | exact (a_up_ne (by omega)).trans ((a_up_ne (by omega)).trans (hR.g (k := 39) (a := 533) (by decide))) | exact (a_up_ne (by omega)).trans ((a_up_ne (by omega)).trans ((a_up_ne (by omega)).trans (hR.g (k := 39) (a := 533) (by decide)))) | exact (a_up_ne (by omega)).trans ((a_up_ne (by omega)).trans ((a_up_ne (by omega)).trans ((a_up_ne (by omega)).trans (hR.g (k := 39) (a := 533) (by decide))))) | exact (a_up_ne (by omega)).trans ((a_up_ne (by omega)).trans ((a_up_ne (by omega)).trans ((a_up_ne (by omega)).trans ((a_up_ne (by omega)).trans (hR.g (k := 39) (a := 533) (by decide)))))) | exact (a_up_ne (by omega)).trans ((a_up_ne (by omega)).trans ((a_up_ne (by omega)).trans ((a_up_ne (by omega)).trans ((a_up_ne (by omega)).trans ((a_up_ne (by omega)).trans (hR.g (k := 39) (a := 533) (by decide)))))))) ?_
    refine R_iload_2 dX12_goOn_72 ?_
    refine R_ialdE dX12_goOn_73 sh_533 rfl (by omega) (by decide) w2 ?_
    refine R_ishr dX12_goOn_74 ?_
    refine R_iconst (v := 1) dX12_goOn_75 (by decide) ?_
    refine R_iand dX12_goOn_76 ?_
    rw [mb_sh (by omega) (by omega)]
    refine R_iconst (v := 1) dX12_goOn_77 (by decide) ?_
    refine R_icmp_ne 85 dX12_goOn_78 (by decide) (fun c78 => ?_) (fun c78 => ?_)
    · have hb : ¬ fi.testBit dp = true := fun z => c78 (bI_t z)
      refine R_iconst (v := 0) dX12_goOn_85 (by decide) ?_
      refine R_istore_7 rfl (by decide) dX12_goOn_86 ?_
      refine R_aload_0 dX12_goOn_88 ?_
      refine gfX12_108 rfl dX12_goOn_89 sh_504 (by first | exact hR.g (k := 41) (a := 535) (by decide) | exact (a_up_ne (by omega)).trans (hR.g (k := 41) (a := 535) (by decide)) | exact (a_up_ne (by omega)).trans ((a_up_ne (by omega)).trans (hR.g (k := 41) (a := 535) (by decide))) | exact (a_up_ne (by omega)).trans ((a_up_ne (by omega)).trans ((a_up_ne (by omega)).trans (hR.g (k := 41) (a := 535) (by decide)))) | exact (a_up_ne (by omega)).trans ((a_up_ne (by omega)).trans ((a_up_ne (by omega)).trans ((a_up_ne (by omega)).trans (hR.g (k := 41) (a := 535) (by decide))))) | exact (a_up_ne (by omega)).trans ((a_up_ne (by omega)).trans ((a_up_ne (by omega)).trans ((a_up_ne (by omega)).trans ((a_up_ne (by omega)).trans (hR.g (k := 41) (a := 535) (by decide)))))) | exact (a_up_ne (by omega)).trans ((a_up_ne (by omega)).trans ((a_up_ne (by omega)).trans ((a_up_ne (by omega)).trans ((a_up_ne (by omega)).trans ((a_up_ne (by omega)).trans (hR.g (k := 41) (a := 535) (by decide)))))))) ?_
      refine R_iload_2 dX12_goOn_92 ?_
      refine R_iload_6 dX12_goOn_93 ?_
      refine R_if_eq 112 dX12_goOn_95 (by decide) (fun c95 => ?_) (fun c95 => ?_)
      · refine R_aload_0 dX12_goOn_112 ?_
        refine gfX12_108 rfl dX12_goOn_113 sh_504 (by first | exact hR.g (k := 41) (a := 535) (by decide) | exact (a_up_ne (by omega)).trans (hR.g (k := 41) (a := 535) (by decide)) | exact (a_up_ne (by omega)).trans ((a_up_ne (by omega)).trans (hR.g (k := 41) (a := 535) (by decide))) | exact (a_up_ne (by omega)).trans ((a_up_ne (by omega)).trans ((a_up_ne (by omega)).trans (hR.g (k := 41) (a := 535) (by decide)))) | exact (a_up_ne (by omega)).trans ((a_up_ne (by omega)).trans ((a_up_ne (by omega)).trans ((a_up_ne (by omega)).trans (hR.g (k := 41) (a := 535) (by decide))))) | exact (a_up_ne (by omega)).trans ((a_up_ne (by omega)).trans ((a_up_ne (by omega)).trans ((a_up_ne (by omega)).trans ((a_up_ne (by omega)).trans (hR.g (k := 41) (a := 535) (by decide)))))) | exact (a_up_ne (by omega)).trans ((a_up_ne (by omega)).trans ((a_up_ne (by omega)).trans ((a_up_ne (by omega)).trans ((a_up_ne (by omega)).trans ((a_up_ne (by omega)).trans (hR.g (k := 41) (a := 535) (by decide)))))))) ?_
        refine R_iload_2 dX12_goOn_116 ?_
        refine R_ialdE dX12_goOn_117 sh_535 rfl (by omega) (by decide) w4 ?_
        refine R_aload_0 dX12_goOn_118 ?_
        refine gfX12_102 rfl dX12_goOn_119 sh_504 (by first | exact hR.g (k := 39) (a := 533) (by decide) | exact (a_up_ne (by omega)).trans (hR.g (k := 39) (a := 533) (by decide)) | exact (a_up_ne (by omega)).trans ((a_up_ne (by omega)).trans (hR.g (k := 39) (a := 533) (by decide))) | exact (a_up_ne (by omega)).trans ((a_up_ne (by omega)).trans ((a_up_ne (by omega)).trans (hR.g (k := 39) (a := 533) (by decide)))) | exact (a_up_ne (by omega)).trans ((a_up_ne (by omega)).trans ((a_up_ne (by omega)).trans ((a_up_ne (by omega)).trans (hR.g (k := 39) (a := 533) (by decide))))) | exact (a_up_ne (by omega)).trans ((a_up_ne (by omega)).trans ((a_up_ne (by omega)).trans ((a_up_ne (by omega)).trans ((a_up_ne (by omega)).trans (hR.g (k := 39) (a := 533) (by decide)))))) | exact (a_up_ne (by omega)).trans ((a_up_ne (by omega)).trans ((a_up_ne (by omega)).trans ((a_up_ne (by omega)).trans ((a_up_ne (by omega)).trans ((a_up_ne (by omega)).trans (hR.g (k := 39) (a := 533) (by decide)))))))) ?_
        refine R_iload_2 dX12_goOn_122 ?_
        refine R_ialdE dX12_goOn_123 sh_533 rfl (by omega) (by decide) w2 ?_
        refine R_icmp_ne 136 dX12_goOn_124 (by decide) (fun c124 => ?_) (fun c124 => ?_)
        · 
          refine R_aload_0 dX12_goOn_136 ?_
          refine gfX12_108 rfl dX12_goOn_137 sh_504 (by first | exact hR.g (k := 41) (a := 535) (by decide) | exact (a_up_ne (by omega)).trans (hR.g (k := 41) (a := 535) (by decide)) | exact (a_up_ne (by omega)).trans ((a_up_ne (by omega)).trans (hR.g (k := 41) (a := 535) (by decide))) | exact (a_up_ne (by omega)).trans ((a_up_ne (by omega)).trans ((a_up_ne (by omega)).trans (hR.g (k := 41) (a := 535) (by decide)))) | exact (a_up_ne (by omega)).trans ((a_up_ne (by omega)).trans ((a_up_ne (by omega)).trans ((a_up_ne (by omega)).trans (hR.g (k := 41) (a := 535) (by decide))))) | exact (a_up_ne (by omega)).trans ((a_up_ne (by omega)).trans ((a_up_ne (by omega)).trans ((a_up_ne (by omega)).trans ((a_up_ne (by omega)).trans (hR.g (k := 41) (a := 535) (by decide)))))) | exact (a_up_ne (by omega)).trans ((a_up_ne (by omega)).trans ((a_up_ne (by omega)).trans ((a_up_ne (by omega)).trans ((a_up_ne (by omega)).trans ((a_up_ne (by omega)).trans (hR.g (k := 41) (a := 535) (by decide)))))))) ?_
          refine R_iload_2 dX12_goOn_140 ?_
          refine R_ialdE dX12_goOn_141 sh_535 rfl (by omega) (by decide) w4 ?_
          refine R_iastE dX12_goOn_142 sh_535 rfl (by omega) (by decide) ?_
          refine R_aload_0 dX12_goOn_143 ?_
          refine gfX12_99 rfl dX12_goOn_144 sh_504 (by first | exact hR.g (k := 38) (a := 532) (by decide) | exact (a_up_ne (by omega)).trans (hR.g (k := 38) (a := 532) (by decide)) | exact (a_up_ne (by omega)).trans ((a_up_ne (by omega)).trans (hR.g (k := 38) (a := 532) (by decide))) | exact (a_up_ne (by omega)).trans ((a_up_ne (by omega)).trans ((a_up_ne (by omega)).trans (hR.g (k := 38) (a := 532) (by decide)))) | exact (a_up_ne (by omega)).trans ((a_up_ne (by omega)).trans ((a_up_ne (by omega)).trans ((a_up_ne (by omega)).trans (hR.g (k := 38) (a := 532) (by decide))))) | exact (a_up_ne (by omega)).trans ((a_up_ne (by omega)).trans ((a_up_ne (by omega)).trans ((a_up_ne (by omega)).trans ((a_up_ne (by omega)).trans (hR.g (k := 38) (a := 532) (by decide)))))) | exact (a_up_ne (by omega)).trans ((a_up_ne (by omega)).trans ((a_up_ne (by omega)).trans ((a_up_ne (by omega)).trans ((a_up_ne (by omega)).trans ((a_up_ne (by omega)).trans (hR.g (k := 38) (a := 532) (by decide)))))))) ?_
          refine R_iload_2 dX12_goOn_147 ?_
          refine R_dup2_11 dX12_goOn_148 rfl rfl ?_
          refine R_ialdE dX12_goOn_149 sh_532 rfl (by omega) (by decide) ((a_up_ne (Or.inl (by decide))).trans w1) ?_
          refine R_iconst (v := 1) dX12_goOn_150 (by decide) ?_
          refine R_iadd dX12_goOn_151 ?_
          rw [nI_1]
          refine R_iastE dX12_goOn_152 sh_532 rfl (by omega) (by decide) ?_
          refine R_goto 313 dX12_goOn_153 (by decide) ?_
          refine R_iload_2 dX12_goOn_313 ?_
          refine R_iret rfl dX12_goOn_314 (by first | exact absurd c95 (by decide) | exact absurd rfl c95 | exact absurd c100 (by decide) | exact absurd rfl c100 | exact absurd c129 (by decide) | exact absurd rfl c129 | exact ⟨rfl, rfl, ⟨((a_up_ne (Or.inl (by decide))).trans ((a_up_ne (Or.inl (by decide))).trans w0)), (a_up_self _ _ _ _), ((a_up_ne (Or.inl (by decide))).trans ((a_up_ne (Or.inl (by decide))).trans w2)), ((a_up_ne (Or.inl (by decide))).trans ((a_up_ne (Or.inl (by decide))).trans w3)), ((a_up_ne (Or.inl (by decide))).trans ((a_up_self _ _ _ _).trans (congrArg (fun z => Value.int (nI z)) (by first | exact go_b1 hz hb | exact go_b2 hd hb | exact go_b3 hz hb | exact go_b4 c124 hb))))⟩, (FrLv.u (by decide) (by decide)).trans (FrLv.u (by decide) (by decide))⟩)
        · have hd : dd = dp := (nI_eq (by omega) (by omega)).1 c124
          refine R_iload_7 dX12_goOn_127 ?_
          refine R_if_ne 136 dX12_goOn_129 (by decide) (fun c129 => ?_) (fun c129 => ?_)
          · 
            refine R_aload_0 dX12_goOn_136 ?_
            refine gfX12_108 rfl dX12_goOn_137 sh_504 (by first | exact hR.g (k := 41) (a := 535) (by decide) | exact (a_up_ne (by omega)).trans (hR.g (k := 41) (a := 535) (by decide)) | exact (a_up_ne (by omega)).trans ((a_up_ne (by omega)).trans (hR.g (k := 41) (a := 535) (by decide))) | exact (a_up_ne (by omega)).trans ((a_up_ne (by omega)).trans ((a_up_ne (by omega)).trans (hR.g (k := 41) (a := 535) (by decide)))) | exact (a_up_ne (by omega)).trans ((a_up_ne (by omega)).trans ((a_up_ne (by omega)).trans ((a_up_ne (by omega)).trans (hR.g (k := 41) (a := 535) (by decide))))) | exact (a_up_ne (by omega)).trans ((a_up_ne (by omega)).trans ((a_up_ne (by omega)).trans ((a_up_ne (by omega)).trans ((a_up_ne (by omega)).trans (hR.g (k := 41) (a := 535) (by decide)))))) | exact (a_up_ne (by omega)).trans ((a_up_ne (by omega)).trans ((a_up_ne (by omega)).trans ((a_up_ne (by omega)).trans ((a_up_ne (by omega)).trans ((a_up_ne (by omega)).trans (hR.g (k := 41) (a := 535) (by decide)))))))) ?_
            refine R_iload_2 dX12_goOn_140 ?_
            refine R_ialdE dX12_goOn_141 sh_535 rfl (by omega) (by decide) w4 ?_
            refine R_iastE dX12_goOn_142 sh_535 rfl (by omega) (by decide) ?_
            refine R_aload_0 dX12_goOn_143 ?_
            refine gfX12_99 rfl dX12_goOn_144 sh_504 (by first | exact hR.g (k := 38) (a := 532) (by decide) | exact (a_up_ne (by omega)).trans (hR.g (k := 38) (a := 532) (by decide)) | exact (a_up_ne (by omega)).trans ((a_up_ne (by omega)).trans (hR.g (k := 38) (a := 532) (by decide))) | exact (a_up_ne (by omega)).trans ((a_up_ne (by omega)).trans ((a_up_ne (by omega)).trans (hR.g (k := 38) (a := 532) (by decide)))) | exact (a_up_ne (by omega)).trans ((a_up_ne (by omega)).trans ((a_up_ne (by omega)).trans ((a_up_ne (by omega)).trans (hR.g (k := 38) (a := 532) (by decide))))) | exact (a_up_ne (by omega)).trans ((a_up_ne (by omega)).trans ((a_up_ne (by omega)).trans ((a_up_ne (by omega)).trans ((a_up_ne (by omega)).trans (hR.g (k := 38) (a := 532) (by decide)))))) | exact (a_up_ne (by omega)).trans ((a_up_ne (by omega)).trans ((a_up_ne (by omega)).trans ((a_up_ne (by omega)).trans ((a_up_ne (by omega)).trans ((a_up_ne (by omega)).trans (hR.g (k := 38) (a := 532) (by decide)))))))) ?_
            refine R_iload_2 dX12_goOn_147 ?_
            refine R_dup2_11 dX12_goOn_148 rfl rfl ?_
            refine R_ialdE dX12_goOn_149 sh_532 rfl (by omega) (by decide) ((a_up_ne (Or.inl (by decide))).trans w1) ?_
            refine R_iconst (v := 1) dX12_goOn_150 (by decide) ?_
            refine R_iadd dX12_goOn_151 ?_
            rw [nI_1]
            refine R_iastE dX12_goOn_152 sh_532 rfl (by omega) (by decide) ?_
            refine R_goto 313 dX12_goOn_153 (by decide) ?_
            refine R_iload_2 dX12_goOn_313 ?_
            refine R_iret rfl dX12_goOn_314 (by first | exact absurd c95 (by decide) | exact absurd rfl c95 | exact absurd c100 (by decide) | exact absurd rfl c100 | exact absurd c129 (by decide) | exact absurd rfl c129 | exact ⟨rfl, rfl, ⟨((a_up_ne (Or.inl (by decide))).trans ((a_up_ne (Or.inl (by decide))).trans w0)), (a_up_self _ _ _ _), ((a_up_ne (Or.inl (by decide))).trans ((a_up_ne (Or.inl (by decide))).trans w2)), ((a_up_ne (Or.inl (by decide))).trans ((a_up_ne (Or.inl (by decide))).trans w3)), ((a_up_ne (Or.inl (by decide))).trans ((a_up_self _ _ _ _).trans (congrArg (fun z => Value.int (nI z)) (by first | exact go_b1 hz hb | exact go_b2 hd hb | exact go_b3 hz hb | exact go_b4 c124 hb))))⟩, (FrLv.u (by decide) (by decide)).trans (FrLv.u (by decide) (by decide))⟩)
          · refine R_iconst (v := 0) dX12_goOn_132 (by decide) ?_
            refine R_goto 142 dX12_goOn_133 (by decide) ?_
            refine R_iastE dX12_goOn_142 sh_535 rfl (by omega) (by decide) ?_
            refine R_aload_0 dX12_goOn_143 ?_
            refine gfX12_99 rfl dX12_goOn_144 sh_504 (by first | exact hR.g (k := 38) (a := 532) (by decide) | exact (a_up_ne (by omega)).trans (hR.g (k := 38) (a := 532) (by decide)) | exact (a_up_ne (by omega)).trans ((a_up_ne (by omega)).trans (hR.g (k := 38) (a := 532) (by decide))) | exact (a_up_ne (by omega)).trans ((a_up_ne (by omega)).trans ((a_up_ne (by omega)).trans (hR.g (k := 38) (a := 532) (by decide)))) | exact (a_up_ne (by omega)).trans ((a_up_ne (by omega)).trans ((a_up_ne (by omega)).trans ((a_up_ne (by omega)).trans (hR.g (k := 38) (a := 532) (by decide))))) | exact (a_up_ne (by omega)).trans ((a_up_ne (by omega)).trans ((a_up_ne (by omega)).trans ((a_up_ne (by omega)).trans ((a_up_ne (by omega)).trans (hR.g (k := 38) (a := 532) (by decide)))))) | exact (a_up_ne (by omega)).trans ((a_up_ne (by omega)).trans ((a_up_ne (by omega)).trans ((a_up_ne (by omega)).trans ((a_up_ne (by omega)).trans ((a_up_ne (by omega)).trans (hR.g (k := 38) (a := 532) (by decide)))))))) ?_
            refine R_iload_2 dX12_goOn_147 ?_
            refine R_dup2_11 dX12_goOn_148 rfl rfl ?_
            refine R_ialdE dX12_goOn_149 sh_532 rfl (by omega) (by decide) ((a_up_ne (Or.inl (by decide))).trans w1) ?_
            refine R_iconst (v := 1) dX12_goOn_150 (by decide) ?_
            refine R_iadd dX12_goOn_151 ?_
            rw [nI_1]
            refine R_iastE dX12_goOn_152 sh_532 rfl (by omega) (by decide) ?_
            refine R_goto 313 dX12_goOn_153 (by decide) ?_
            refine R_iload_2 dX12_goOn_313 ?_
            refine R_iret rfl dX12_goOn_314 (by first | exact absurd c95 (by decide) | exact absurd rfl c95 | exact absurd c100 (by decide) | exact absurd rfl c100 | exact absurd c129 (by decide) | exact absurd rfl c129 | exact ⟨rfl, rfl, ⟨((a_up_ne (Or.inl (by decide))).trans ((a_up_ne (Or.inl (by decide))).trans w0)), (a_up_self _ _ _ _), ((a_up_ne (Or.inl (by decide))).trans ((a_up_ne (Or.inl (by decide))).trans w2)), ((a_up_ne (Or.inl (by decide))).trans ((a_up_ne (Or.inl (by decide))).trans w3)), ((a_up_ne (Or.inl (by decide))).trans ((a_up_self _ _ _ _).trans (congrArg (fun z => Value.int (nI z)) (by first | exact go_b1 hz hb | exact go_b2 hd hb | exact go_b3 hz hb | exact go_b4 c124 hb))))⟩, (FrLv.u (by decide) (by decide)).trans (FrLv.u (by decide) (by decide))⟩)
      · refine R_iload_7 dX12_goOn_98 ?_
        refine R_if_eq 112 dX12_goOn_100 (by decide) (fun c100 => ?_) (fun c100 => ?_)
        · refine R_aload_0 dX12_goOn_112 ?_
          refine gfX12_108 rfl dX12_goOn_113 sh_504 (by first | exact hR.g (k := 41) (a := 535) (by decide) | exact (a_up_ne (by omega)).trans (hR.g (k := 41) (a := 535) (by decide)) | exact (a_up_ne (by omega)).trans ((a_up_ne (by omega)).trans (hR.g (k := 41) (a := 535) (by decide))) | exact (a_up_ne (by omega)).trans ((a_up_ne (by omega)).trans ((a_up_ne (by omega)).trans (hR.g (k := 41) (a := 535) (by decide)))) | exact (a_up_ne (by omega)).trans ((a_up_ne (by omega)).trans ((a_up_ne (by omega)).trans ((a_up_ne (by omega)).trans (hR.g (k := 41) (a := 535) (by decide))))) | exact (a_up_ne (by omega)).trans ((a_up_ne (by omega)).trans ((a_up_ne (by omega)).trans ((a_up_ne (by omega)).trans ((a_up_ne (by omega)).trans (hR.g (k := 41) (a := 535) (by decide)))))) | exact (a_up_ne (by omega)).trans ((a_up_ne (by omega)).trans ((a_up_ne (by omega)).trans ((a_up_ne (by omega)).trans ((a_up_ne (by omega)).trans ((a_up_ne (by omega)).trans (hR.g (k := 41) (a := 535) (by decide)))))))) ?_
          refine R_iload_2 dX12_goOn_116 ?_
          refine R_ialdE dX12_goOn_117 sh_535 rfl (by omega) (by decide) w4 ?_
          refine R_aload_0 dX12_goOn_118 ?_
          refine gfX12_102 rfl dX12_goOn_119 sh_504 (by first | exact hR.g (k := 39) (a := 533) (by decide) | exact (a_up_ne (by omega)).trans (hR.g (k := 39) (a := 533) (by decide)) | exact (a_up_ne (by omega)).trans ((a_up_ne (by omega)).trans (hR.g (k := 39) (a := 533) (by decide))) | exact (a_up_ne (by omega)).trans ((a_up_ne (by omega)).trans ((a_up_ne (by omega)).trans (hR.g (k := 39) (a := 533) (by decide)))) | exact (a_up_ne (by omega)).trans ((a_up_ne (by omega)).trans ((a_up_ne (by omega)).trans ((a_up_ne (by omega)).trans (hR.g (k := 39) (a := 533) (by decide))))) | exact (a_up_ne (by omega)).trans ((a_up_ne (by omega)).trans ((a_up_ne (by omega)).trans ((a_up_ne (by omega)).trans ((a_up_ne (by omega)).trans (hR.g (k := 39) (a := 533) (by decide)))))) | exact (a_up_ne (by omega)).trans ((a_up_ne (by omega)).trans ((a_up_ne (by omega)).trans ((a_up_ne (by omega)).trans ((a_up_ne (by omega)).trans ((a_up_ne (by omega)).trans (hR.g (k := 39) (a := 533) (by decide)))))))) ?_
          refine R_iload_2 dX12_goOn_122 ?_
          refine R_ialdE dX12_goOn_123 sh_533 rfl (by omega) (by decide) w2 ?_
          refine R_icmp_ne 136 dX12_goOn_124 (by decide) (fun c124 => ?_) (fun c124 => ?_)
          · 
            refine R_aload_0 dX12_goOn_136 ?_
            refine gfX12_108 rfl dX12_goOn_137 sh_504 (by first | exact hR.g (k := 41) (a := 535) (by decide) | exact (a_up_ne (by omega)).trans (hR.g (k := 41) (a := 535) (by decide)) | exact (a_up_ne (by omega)).trans ((a_up_ne (by omega)).trans (hR.g (k := 41) (a := 535) (by decide))) | exact (a_up_ne (by omega)).trans ((a_up_ne (by omega)).trans ((a_up_ne (by omega)).trans (hR.g (k := 41) (a := 535) (by decide)))) | exact (a_up_ne (by omega)).trans ((a_up_ne (by omega)).trans ((a_up_ne (by omega)).trans ((a_up_ne (by omega)).trans (hR.g (k := 41) (a := 535) (by decide))))) | exact (a_up_ne (by omega)).trans ((a_up_ne (by omega)).trans ((a_up_ne (by omega)).trans ((a_up_ne (by omega)).trans ((a_up_ne (by omega)).trans (hR.g (k := 41) (a := 535) (by decide)))))) | exact (a_up_ne (by omega)).trans ((a_up_ne (by omega)).trans ((a_up_ne (by omega)).trans ((a_up_ne (by omega)).trans ((a_up_ne (by omega)).trans ((a_up_ne (by omega)).trans (hR.g (k := 41) (a := 535) (by decide)))))))) ?_
            refine R_iload_2 dX12_goOn_140 ?_
            refine R_ialdE dX12_goOn_141 sh_535 rfl (by omega) (by decide) w4 ?_
            refine R_iastE dX12_goOn_142 sh_535 rfl (by omega) (by decide) ?_
            refine R_aload_0 dX12_goOn_143 ?_
            refine gfX12_99 rfl dX12_goOn_144 sh_504 (by first | exact hR.g (k := 38) (a := 532) (by decide) | exact (a_up_ne (by omega)).trans (hR.g (k := 38) (a := 532) (by decide)) | exact (a_up_ne (by omega)).trans ((a_up_ne (by omega)).trans (hR.g (k := 38) (a := 532) (by decide))) | exact (a_up_ne (by omega)).trans ((a_up_ne (by omega)).trans ((a_up_ne (by omega)).trans (hR.g (k := 38) (a := 532) (by decide)))) | exact (a_up_ne (by omega)).trans ((a_up_ne (by omega)).trans ((a_up_ne (by omega)).trans ((a_up_ne (by omega)).trans (hR.g (k := 38) (a := 532) (by decide))))) | exact (a_up_ne (by omega)).trans ((a_up_ne (by omega)).trans ((a_up_ne (by omega)).trans ((a_up_ne (by omega)).trans ((a_up_ne (by omega)).trans (hR.g (k := 38) (a := 532) (by decide)))))) | exact (a_up_ne (by omega)).trans ((a_up_ne (by omega)).trans ((a_up_ne (by omega)).trans ((a_up_ne (by omega)).trans ((a_up_ne (by omega)).trans ((a_up_ne (by omega)).trans (hR.g (k := 38) (a := 532) (by decide)))))))) ?_
            refine R_iload_2 dX12_goOn_147 ?_
            refine R_dup2_11 dX12_goOn_148 rfl rfl ?_
            refine R_ialdE dX12_goOn_149 sh_532 rfl (by omega) (by decide) ((a_up_ne (Or.inl (by decide))).trans w1) ?_
            refine R_iconst (v := 1) dX12_goOn_150 (by decide) ?_
            refine R_iadd dX12_goOn_151 ?_
            rw [nI_1]
            refine R_iastE dX12_goOn_152 sh_532 rfl (by omega) (by decide) ?_
            refine R_goto 313 dX12_goOn_153 (by decide) ?_
            refine R_iload_2 dX12_goOn_313 ?_
            refine R_iret rfl dX12_goOn_314 (by first | exact absurd c95 (by decide) | exact absurd rfl c95 | exact absurd c100 (by decide) | exact absurd rfl c100 | exact absurd c129 (by decide) | exact absurd rfl c129 | exact ⟨rfl, rfl, ⟨((a_up_ne (Or.inl (by decide))).trans ((a_up_ne (Or.inl (by decide))).trans w0)), (a_up_self _ _ _ _), ((a_up_ne (Or.inl (by decide))).trans ((a_up_ne (Or.inl (by decide))).trans w2)), ((a_up_ne (Or.inl (by decide))).trans ((a_up_ne (Or.inl (by decide))).trans w3)), ((a_up_ne (Or.inl (by decide))).trans ((a_up_self _ _ _ _).trans (congrArg (fun z => Value.int (nI z)) (by first | exact go_b1 hz hb | exact go_b2 hd hb | exact go_b3 hz hb | exact go_b4 c124 hb))))⟩, (FrLv.u (by decide) (by decide)).trans (FrLv.u (by decide) (by decide))⟩)
          · have hd : dd = dp := (nI_eq (by omega) (by omega)).1 c124
            refine R_iload_7 dX12_goOn_127 ?_
            refine R_if_ne 136 dX12_goOn_129 (by decide) (fun c129 => ?_) (fun c129 => ?_)
            · 
              refine R_aload_0 dX12_goOn_136 ?_
              refine gfX12_108 rfl dX12_goOn_137 sh_504 (by first | exact hR.g (k := 41) (a := 535) (by decide) | exact (a_up_ne (by omega)).trans (hR.g (k := 41) (a := 535) (by decide)) | exact (a_up_ne (by omega)).trans ((a_up_ne (by omega)).trans (hR.g (k := 41) (a := 535) (by decide))) | exact (a_up_ne (by omega)).trans ((a_up_ne (by omega)).trans ((a_up_ne (by omega)).trans (hR.g (k := 41) (a := 535) (by decide)))) | exact (a_up_ne (by omega)).trans ((a_up_ne (by omega)).trans ((a_up_ne (by omega)).trans ((a_up_ne (by omega)).trans (hR.g (k := 41) (a := 535) (by decide))))) | exact (a_up_ne (by omega)).trans ((a_up_ne (by omega)).trans ((a_up_ne (by omega)).trans ((a_up_ne (by omega)).trans ((a_up_ne (by omega)).trans (hR.g (k := 41) (a := 535) (by decide)))))) | exact (a_up_ne (by omega)).trans ((a_up_ne (by omega)).trans ((a_up_ne (by omega)).trans ((a_up_ne (by omega)).trans ((a_up_ne (by omega)).trans ((a_up_ne (by omega)).trans (hR.g (k := 41) (a := 535) (by decide)))))))) ?_
              refine R_iload_2 dX12_goOn_140 ?_
              refine R_ialdE dX12_goOn_141 sh_535 rfl (by omega) (by decide) w4 ?_
              refine R_iastE dX12_goOn_142 sh_535 rfl (by omega) (by decide) ?_
              refine R_aload_0 dX12_goOn_143 ?_
              refine gfX12_99 rfl dX12_goOn_144 sh_504 (by first | exact hR.g (k := 38) (a := 532) (by decide) | exact (a_up_ne (by omega)).trans (hR.g (k := 38) (a := 532) (by decide)) | exact (a_up_ne (by omega)).trans ((a_up_ne (by omega)).trans (hR.g (k := 38) (a := 532) (by decide))) | exact (a_up_ne (by omega)).trans ((a_up_ne (by omega)).trans ((a_up_ne (by omega)).trans (hR.g (k := 38) (a := 532) (by decide)))) | exact (a_up_ne (by omega)).trans ((a_up_ne (by omega)).trans ((a_up_ne (by omega)).trans ((a_up_ne (by omega)).trans (hR.g (k := 38) (a := 532) (by decide))))) | exact (a_up_ne (by omega)).trans ((a_up_ne (by omega)).trans ((a_up_ne (by omega)).trans ((a_up_ne (by omega)).trans ((a_up_ne (by omega)).trans (hR.g (k := 38) (a := 532) (by decide)))))) | exact (a_up_ne (by omega)).trans ((a_up_ne (by omega)).trans ((a_up_ne (by omega)).trans ((a_up_ne (by omega)).trans ((a_up_ne (by omega)).trans ((a_up_ne (by omega)).trans (hR.g (k := 38) (a := 532) (by decide)))))))) ?_
              refine R_iload_2 dX12_goOn_147 ?_
              refine R_dup2_11 dX12_goOn_148 rfl rfl ?_
              refine R_ialdE dX12_goOn_149 sh_532 rfl (by omega) (by decide) ((a_up_ne (Or.inl (by decide))).trans w1) ?_
              refine R_iconst (v := 1) dX12_goOn_150 (by decide) ?_
              refine R_iadd dX12_goOn_151 ?_
              rw [nI_1]
              refine R_iastE dX12_goOn_152 sh_532 rfl (by omega) (by decide) ?_
              refine R_goto 313 dX12_goOn_153 (by decide) ?_
              refine R_iload_2 dX12_goOn_313 ?_
              refine R_iret rfl dX12_goOn_314 (by first | exact absurd c95 (by decide) | exact absurd rfl c95 | exact absurd c100 (by decide) | exact absurd rfl c100 | exact absurd c129 (by decide) | exact absurd rfl c129 | exact ⟨rfl, rfl, ⟨((a_up_ne (Or.inl (by decide))).trans ((a_up_ne (Or.inl (by decide))).trans w0)), (a_up_self _ _ _ _), ((a_up_ne (Or.inl (by decide))).trans ((a_up_ne (Or.inl (by decide))).trans w2)), ((a_up_ne (Or.inl (by decide))).trans ((a_up_ne (Or.inl (by decide))).trans w3)), ((a_up_ne (Or.inl (by decide))).trans ((a_up_self _ _ _ _).trans (congrArg (fun z => Value.int (nI z)) (by first | exact go_b1 hz hb | exact go_b2 hd hb | exact go_b3 hz hb | exact go_b4 c124 hb))))⟩, (FrLv.u (by decide) (by decide)).trans (FrLv.u (by decide) (by decide))⟩)
            · refine R_iconst (v := 0) dX12_goOn_132 (by decide) ?_
              refine R_goto 142 dX12_goOn_133 (by decide) ?_
              refine R_iastE dX12_goOn_142 sh_535 rfl (by omega) (by decide) ?_
              refine R_aload_0 dX12_goOn_143 ?_
              refine gfX12_99 rfl dX12_goOn_144 sh_504 (by first | exact hR.g (k := 38) (a := 532) (by decide) | exact (a_up_ne (by omega)).trans (hR.g (k := 38) (a := 532) (by decide)) | exact (a_up_ne (by omega)).trans ((a_up_ne (by omega)).trans (hR.g (k := 38) (a := 532) (by decide))) | exact (a_up_ne (by omega)).trans ((a_up_ne (by omega)).trans ((a_up_ne (by omega)).trans (hR.g (k := 38) (a := 532) (by decide)))) | exact (a_up_ne (by omega)).trans ((a_up_ne (by omega)).trans ((a_up_ne (by omega)).trans ((a_up_ne (by omega)).trans (hR.g (k := 38) (a := 532) (by decide))))) | exact (a_up_ne (by omega)).trans ((a_up_ne (by omega)).trans ((a_up_ne (by omega)).trans ((a_up_ne (by omega)).trans ((a_up_ne (by omega)).trans (hR.g (k := 38) (a := 532) (by decide)))))) | exact (a_up_ne (by omega)).trans ((a_up_ne (by omega)).trans ((a_up_ne (by omega)).trans ((a_up_ne (by omega)).trans ((a_up_ne (by omega)).trans ((a_up_ne (by omega)).trans (hR.g (k := 38) (a := 532) (by decide)))))))) ?_
              refine R_iload_2 dX12_goOn_147 ?_
              refine R_dup2_11 dX12_goOn_148 rfl rfl ?_
              refine R_ialdE dX12_goOn_149 sh_532 rfl (by omega) (by decide) ((a_up_ne (Or.inl (by decide))).trans w1) ?_
              refine R_iconst (v := 1) dX12_goOn_150 (by decide) ?_
              refine R_iadd dX12_goOn_151 ?_
              rw [nI_1]
              refine R_iastE dX12_goOn_152 sh_532 rfl (by omega) (by decide) ?_
              refine R_goto 313 dX12_goOn_153 (by decide) ?_
              refine R_iload_2 dX12_goOn_313 ?_
              refine R_iret rfl dX12_goOn_314 (by first | exact absurd c95 (by decide) | exact absurd rfl c95 | exact absurd c100 (by decide) | exact absurd rfl c100 | exact absurd c129 (by decide) | exact absurd rfl c129 | exact ⟨rfl, rfl, ⟨((a_up_ne (Or.inl (by decide))).trans ((a_up_ne (Or.inl (by decide))).trans w0)), (a_up_self _ _ _ _), ((a_up_ne (Or.inl (by decide))).trans ((a_up_ne (Or.inl (by decide))).trans w2)), ((a_up_ne (Or.inl (by decide))).trans ((a_up_ne (Or.inl (by decide))).trans w3)), ((a_up_ne (Or.inl (by decide))).trans ((a_up_self _ _ _ _).trans (congrArg (fun z => Value.int (nI z)) (by first | exact go_b1 hz hb | exact go_b2 hd hb | exact go_b3 hz hb | exact go_b4 c124 hb))))⟩, (FrLv.u (by decide) (by decide)).trans (FrLv.u (by decide) (by decide))⟩)
        · refine R_aload_0 dX12_goOn_103 ?_
          refine gfX12_102 rfl dX12_goOn_104 sh_504 (by first | exact hR.g (k := 39) (a := 533) (by decide) | exact (a_up_ne (by omega)).trans (hR.g (k := 39) (a := 533) (by decide)) | exact (a_up_ne (by omega)).trans ((a_up_ne (by omega)).trans (hR.g (k := 39) (a := 533) (by decide))) | exact (a_up_ne (by omega)).trans ((a_up_ne (by omega)).trans ((a_up_ne (by omega)).trans (hR.g (k := 39) (a := 533) (by decide)))) | exact (a_up_ne (by omega)).trans ((a_up_ne (by omega)).trans ((a_up_ne (by omega)).trans ((a_up_ne (by omega)).trans (hR.g (k := 39) (a := 533) (by decide))))) | exact (a_up_ne (by omega)).trans ((a_up_ne (by omega)).trans ((a_up_ne (by omega)).trans ((a_up_ne (by omega)).trans ((a_up_ne (by omega)).trans (hR.g (k := 39) (a := 533) (by decide)))))) | exact (a_up_ne (by omega)).trans ((a_up_ne (by omega)).trans ((a_up_ne (by omega)).trans ((a_up_ne (by omega)).trans ((a_up_ne (by omega)).trans ((a_up_ne (by omega)).trans (hR.g (k := 39) (a := 533) (by decide)))))))) ?_
          refine R_iload_2 dX12_goOn_107 ?_
          refine R_ialdE dX12_goOn_108 sh_533 rfl (by omega) (by decide) w2 ?_
          refine R_goto 142 dX12_goOn_109 (by decide) ?_
          refine R_iastE dX12_goOn_142 sh_535 rfl (by omega) (by decide) ?_
          refine R_aload_0 dX12_goOn_143 ?_
          refine gfX12_99 rfl dX12_goOn_144 sh_504 (by first | exact hR.g (k := 38) (a := 532) (by decide) | exact (a_up_ne (by omega)).trans (hR.g (k := 38) (a := 532) (by decide)) | exact (a_up_ne (by omega)).trans ((a_up_ne (by omega)).trans (hR.g (k := 38) (a := 532) (by decide))) | exact (a_up_ne (by omega)).trans ((a_up_ne (by omega)).trans ((a_up_ne (by omega)).trans (hR.g (k := 38) (a := 532) (by decide)))) | exact (a_up_ne (by omega)).trans ((a_up_ne (by omega)).trans ((a_up_ne (by omega)).trans ((a_up_ne (by omega)).trans (hR.g (k := 38) (a := 532) (by decide))))) | exact (a_up_ne (by omega)).trans ((a_up_ne (by omega)).trans ((a_up_ne (by omega)).trans ((a_up_ne (by omega)).trans ((a_up_ne (by omega)).trans (hR.g (k := 38) (a := 532) (by decide)))))) | exact (a_up_ne (by omega)).trans ((a_up_ne (by omega)).trans ((a_up_ne (by omega)).trans ((a_up_ne (by omega)).trans ((a_up_ne (by omega)).trans ((a_up_ne (by omega)).trans (hR.g (k := 38) (a := 532) (by decide)))))))) ?_
          refine R_iload_2 dX12_goOn_147 ?_
          refine R_dup2_11 dX12_goOn_148 rfl rfl ?_
          refine R_ialdE dX12_goOn_149 sh_532 rfl (by omega) (by decide) ((a_up_ne (Or.inl (by decide))).trans w1) ?_
          refine R_iconst (v := 1) dX12_goOn_150 (by decide) ?_
          refine R_iadd dX12_goOn_151 ?_
          rw [nI_1]
          refine R_iastE dX12_goOn_152 sh_532 rfl (by omega) (by decide) ?_
          refine R_goto 313 dX12_goOn_153 (by decide) ?_
          refine R_iload_2 dX12_goOn_313 ?_
          refine R_iret rfl dX12_goOn_314 (by first | exact absurd c95 (by decide) | exact absurd rfl c95 | exact absurd c100 (by decide) | exact absurd rfl c100 | exact absurd c129 (by decide) | exact absurd rfl c129 | exact ⟨rfl, rfl, ⟨((a_up_ne (Or.inl (by decide))).trans ((a_up_ne (Or.inl (by decide))).trans w0)), (a_up_self _ _ _ _), ((a_up_ne (Or.inl (by decide))).trans ((a_up_ne (Or.inl (by decide))).trans w2)), ((a_up_ne (Or.inl (by decide))).trans ((a_up_ne (Or.inl (by decide))).trans w3)), ((a_up_ne (Or.inl (by decide))).trans ((a_up_self _ _ _ _).trans (congrArg (fun z => Value.int (nI z)) (by first | exact go_b1 hz hb | exact go_b2 hd hb | exact go_b3 hz hb | exact go_b4 c124 hb))))⟩, (FrLv.u (by decide) (by decide)).trans (FrLv.u (by decide) (by decide))⟩)
    · have hb : fi.testBit dp = true := bI_ne (fun z => by rw [c78] at z; exact absurd z (by decide))
      refine R_iconst (v := 1) dX12_goOn_81 (by decide) ?_
      refine R_goto 86 dX12_goOn_82 (by decide) ?_
      refine R_istore_7 rfl (by decide) dX12_goOn_86 ?_
      refine R_aload_0 dX12_goOn_88 ?_
      refine gfX12_108 rfl dX12_goOn_89 sh_504 (by first | exact hR.g (k := 41) (a := 535) (by decide) | exact (a_up_ne (by omega)).trans (hR.g (k := 41) (a := 535) (by decide)) | exact (a_up_ne (by omega)).trans ((a_up_ne (by omega)).trans (hR.g (k := 41) (a := 535) (by decide))) | exact (a_up_ne (by omega)).trans ((a_up_ne (by omega)).trans ((a_up_ne (by omega)).trans (hR.g (k := 41) (a := 535) (by decide)))) | exact (a_up_ne (by omega)).trans ((a_up_ne (by omega)).trans ((a_up_ne (by omega)).trans ((a_up_ne (by omega)).trans (hR.g (k := 41) (a := 535) (by decide))))) | exact (a_up_ne (by omega)).trans ((a_up_ne (by omega)).trans ((a_up_ne (by omega)).trans ((a_up_ne (by omega)).trans ((a_up_ne (by omega)).trans (hR.g (k := 41) (a := 535) (by decide)))))) | exact (a_up_ne (by omega)).trans ((a_up_ne (by omega)).trans ((a_up_ne (by omega)).trans ((a_up_ne (by omega)).trans ((a_up_ne (by omega)).trans ((a_up_ne (by omega)).trans (hR.g (k := 41) (a := 535) (by decide)))))))) ?_
      refine R_iload_2 dX12_goOn_92 ?_
      refine R_iload_6 dX12_goOn_93 ?_
      refine R_if_eq 112 dX12_goOn_95 (by decide) (fun c95 => ?_) (fun c95 => ?_)
      · refine R_aload_0 dX12_goOn_112 ?_
        refine gfX12_108 rfl dX12_goOn_113 sh_504 (by first | exact hR.g (k := 41) (a := 535) (by decide) | exact (a_up_ne (by omega)).trans (hR.g (k := 41) (a := 535) (by decide)) | exact (a_up_ne (by omega)).trans ((a_up_ne (by omega)).trans (hR.g (k := 41) (a := 535) (by decide))) | exact (a_up_ne (by omega)).trans ((a_up_ne (by omega)).trans ((a_up_ne (by omega)).trans (hR.g (k := 41) (a := 535) (by decide)))) | exact (a_up_ne (by omega)).trans ((a_up_ne (by omega)).trans ((a_up_ne (by omega)).trans ((a_up_ne (by omega)).trans (hR.g (k := 41) (a := 535) (by decide))))) | exact (a_up_ne (by omega)).trans ((a_up_ne (by omega)).trans ((a_up_ne (by omega)).trans ((a_up_ne (by omega)).trans ((a_up_ne (by omega)).trans (hR.g (k := 41) (a := 535) (by decide)))))) | exact (a_up_ne (by omega)).trans ((a_up_ne (by omega)).trans ((a_up_ne (by omega)).trans ((a_up_ne (by omega)).trans ((a_up_ne (by omega)).trans ((a_up_ne (by omega)).trans (hR.g (k := 41) (a := 535) (by decide)))))))) ?_
        refine R_iload_2 dX12_goOn_116 ?_
        refine R_ialdE dX12_goOn_117 sh_535 rfl (by omega) (by decide) w4 ?_
        refine R_aload_0 dX12_goOn_118 ?_
        refine gfX12_102 rfl dX12_goOn_119 sh_504 (by first | exact hR.g (k := 39) (a := 533) (by decide) | exact (a_up_ne (by omega)).trans (hR.g (k := 39) (a := 533) (by decide)) | exact (a_up_ne (by omega)).trans ((a_up_ne (by omega)).trans (hR.g (k := 39) (a := 533) (by decide))) | exact (a_up_ne (by omega)).trans ((a_up_ne (by omega)).trans ((a_up_ne (by omega)).trans (hR.g (k := 39) (a := 533) (by decide)))) | exact (a_up_ne (by omega)).trans ((a_up_ne (by omega)).trans ((a_up_ne (by omega)).trans ((a_up_ne (by omega)).trans (hR.g (k := 39) (a := 533) (by decide))))) | exact (a_up_ne (by omega)).trans ((a_up_ne (by omega)).trans ((a_up_ne (by omega)).trans ((a_up_ne (by omega)).trans ((a_up_ne (by omega)).trans (hR.g (k := 39) (a := 533) (by decide)))))) | exact (a_up_ne (by omega)).trans ((a_up_ne (by omega)).trans ((a_up_ne (by omega)).trans ((a_up_ne (by omega)).trans ((a_up_ne (by omega)).trans ((a_up_ne (by omega)).trans (hR.g (k := 39) (a := 533) (by decide)))))))) ?_
        refine R_iload_2 dX12_goOn_122 ?_
        refine R_ialdE dX12_goOn_123 sh_533 rfl (by omega) (by decide) w2 ?_
        refine R_icmp_ne 136 dX12_goOn_124 (by decide) (fun c124 => ?_) (fun c124 => ?_)
        · 
          refine R_aload_0 dX12_goOn_136 ?_
          refine gfX12_108 rfl dX12_goOn_137 sh_504 (by first | exact hR.g (k := 41) (a := 535) (by decide) | exact (a_up_ne (by omega)).trans (hR.g (k := 41) (a := 535) (by decide)) | exact (a_up_ne (by omega)).trans ((a_up_ne (by omega)).trans (hR.g (k := 41) (a := 535) (by decide))) | exact (a_up_ne (by omega)).trans ((a_up_ne (by omega)).trans ((a_up_ne (by omega)).trans (hR.g (k := 41) (a := 535) (by decide)))) | exact (a_up_ne (by omega)).trans ((a_up_ne (by omega)).trans ((a_up_ne (by omega)).trans ((a_up_ne (by omega)).trans (hR.g (k := 41) (a := 535) (by decide))))) | exact (a_up_ne (by omega)).trans ((a_up_ne (by omega)).trans ((a_up_ne (by omega)).trans ((a_up_ne (by omega)).trans ((a_up_ne (by omega)).trans (hR.g (k := 41) (a := 535) (by decide)))))) | exact (a_up_ne (by omega)).trans ((a_up_ne (by omega)).trans ((a_up_ne (by omega)).trans ((a_up_ne (by omega)).trans ((a_up_ne (by omega)).trans ((a_up_ne (by omega)).trans (hR.g (k := 41) (a := 535) (by decide)))))))) ?_
          refine R_iload_2 dX12_goOn_140 ?_
          refine R_ialdE dX12_goOn_141 sh_535 rfl (by omega) (by decide) w4 ?_
          refine R_iastE dX12_goOn_142 sh_535 rfl (by omega) (by decide) ?_
          refine R_aload_0 dX12_goOn_143 ?_
          refine gfX12_99 rfl dX12_goOn_144 sh_504 (by first | exact hR.g (k := 38) (a := 532) (by decide) | exact (a_up_ne (by omega)).trans (hR.g (k := 38) (a := 532) (by decide)) | exact (a_up_ne (by omega)).trans ((a_up_ne (by omega)).trans (hR.g (k := 38) (a := 532) (by decide))) | exact (a_up_ne (by omega)).trans ((a_up_ne (by omega)).trans ((a_up_ne (by omega)).trans (hR.g (k := 38) (a := 532) (by decide)))) | exact (a_up_ne (by omega)).trans ((a_up_ne (by omega)).trans ((a_up_ne (by omega)).trans ((a_up_ne (by omega)).trans (hR.g (k := 38) (a := 532) (by decide))))) | exact (a_up_ne (by omega)).trans ((a_up_ne (by omega)).trans ((a_up_ne (by omega)).trans ((a_up_ne (by omega)).trans ((a_up_ne (by omega)).trans (hR.g (k := 38) (a := 532) (by decide)))))) | exact (a_up_ne (by omega)).trans ((a_up_ne (by omega)).trans ((a_up_ne (by omega)).trans ((a_up_ne (by omega)).trans ((a_up_ne (by omega)).trans ((a_up_ne (by omega)).trans (hR.g (k := 38) (a := 532) (by decide)))))))) ?_
          refine R_iload_2 dX12_goOn_147 ?_
          refine R_dup2_11 dX12_goOn_148 rfl rfl ?_
          refine R_ialdE dX12_goOn_149 sh_532 rfl (by omega) (by decide) ((a_up_ne (Or.inl (by decide))).trans w1) ?_
          refine R_iconst (v := 1) dX12_goOn_150 (by decide) ?_
          refine R_iadd dX12_goOn_151 ?_
          rw [nI_1]
          refine R_iastE dX12_goOn_152 sh_532 rfl (by omega) (by decide) ?_
          refine R_goto 313 dX12_goOn_153 (by decide) ?_
          refine R_iload_2 dX12_goOn_313 ?_
          refine R_iret rfl dX12_goOn_314 (by first | exact absurd c95 (by decide) | exact absurd rfl c95 | exact absurd c100 (by decide) | exact absurd rfl c100 | exact absurd c129 (by decide) | exact absurd rfl c129 | exact ⟨rfl, rfl, ⟨((a_up_ne (Or.inl (by decide))).trans ((a_up_ne (Or.inl (by decide))).trans w0)), (a_up_self _ _ _ _), ((a_up_ne (Or.inl (by decide))).trans ((a_up_ne (Or.inl (by decide))).trans w2)), ((a_up_ne (Or.inl (by decide))).trans ((a_up_ne (Or.inl (by decide))).trans w3)), ((a_up_ne (Or.inl (by decide))).trans ((a_up_self _ _ _ _).trans (congrArg (fun z => Value.int (nI z)) (by first | exact go_b1 hz hb | exact go_b2 hd hb | exact go_b3 hz hb | exact go_b4 c124 hb))))⟩, (FrLv.u (by decide) (by decide)).trans (FrLv.u (by decide) (by decide))⟩)
        · have hd : dd = dp := (nI_eq (by omega) (by omega)).1 c124
          refine R_iload_7 dX12_goOn_127 ?_
          refine R_if_ne 136 dX12_goOn_129 (by decide) (fun c129 => ?_) (fun c129 => ?_)
          · 
            refine R_aload_0 dX12_goOn_136 ?_
            refine gfX12_108 rfl dX12_goOn_137 sh_504 (by first | exact hR.g (k := 41) (a := 535) (by decide) | exact (a_up_ne (by omega)).trans (hR.g (k := 41) (a := 535) (by decide)) | exact (a_up_ne (by omega)).trans ((a_up_ne (by omega)).trans (hR.g (k := 41) (a := 535) (by decide))) | exact (a_up_ne (by omega)).trans ((a_up_ne (by omega)).trans ((a_up_ne (by omega)).trans (hR.g (k := 41) (a := 535) (by decide)))) | exact (a_up_ne (by omega)).trans ((a_up_ne (by omega)).trans ((a_up_ne (by omega)).trans ((a_up_ne (by omega)).trans (hR.g (k := 41) (a := 535) (by decide))))) | exact (a_up_ne (by omega)).trans ((a_up_ne (by omega)).trans ((a_up_ne (by omega)).trans ((a_up_ne (by omega)).trans ((a_up_ne (by omega)).trans (hR.g (k := 41) (a := 535) (by decide)))))) | exact (a_up_ne (by omega)).trans ((a_up_ne (by omega)).trans ((a_up_ne (by omega)).trans ((a_up_ne (by omega)).trans ((a_up_ne (by omega)).trans ((a_up_ne (by omega)).trans (hR.g (k := 41) (a := 535) (by decide)))))))) ?_
            refine R_iload_2 dX12_goOn_140 ?_
            refine R_ialdE dX12_goOn_141 sh_535 rfl (by omega) (by decide) w4 ?_
            refine R_iastE dX12_goOn_142 sh_535 rfl (by omega) (by decide) ?_
            refine R_aload_0 dX12_goOn_143 ?_
            refine gfX12_99 rfl dX12_goOn_144 sh_504 (by first | exact hR.g (k := 38) (a := 532) (by decide) | exact (a_up_ne (by omega)).trans (hR.g (k := 38) (a := 532) (by decide)) | exact (a_up_ne (by omega)).trans ((a_up_ne (by omega)).trans (hR.g (k := 38) (a := 532) (by decide))) | exact (a_up_ne (by omega)).trans ((a_up_ne (by omega)).trans ((a_up_ne (by omega)).trans (hR.g (k := 38) (a := 532) (by decide)))) | exact (a_up_ne (by omega)).trans ((a_up_ne (by omega)).trans ((a_up_ne (by omega)).trans ((a_up_ne (by omega)).trans (hR.g (k := 38) (a := 532) (by decide))))) | exact (a_up_ne (by omega)).trans ((a_up_ne (by omega)).trans ((a_up_ne (by omega)).trans ((a_up_ne (by omega)).trans ((a_up_ne (by omega)).trans (hR.g (k := 38) (a := 532) (by decide)))))) | exact (a_up_ne (by omega)).trans ((a_up_ne (by omega)).trans ((a_up_ne (by omega)).trans ((a_up_ne (by omega)).trans ((a_up_ne (by omega)).trans ((a_up_ne (by omega)).trans (hR.g (k := 38) (a := 532) (by decide)))))))) ?_
            refine R_iload_2 dX12_goOn_147 ?_
            refine R_dup2_11 dX12_goOn_148 rfl rfl ?_
            refine R_ialdE dX12_goOn_149 sh_532 rfl (by omega) (by decide) ((a_up_ne (Or.inl (by decide))).trans w1) ?_
            refine R_iconst (v := 1) dX12_goOn_150 (by decide) ?_
            refine R_iadd dX12_goOn_151 ?_
            rw [nI_1]
            refine R_iastE dX12_goOn_152 sh_532 rfl (by omega) (by decide) ?_
            refine R_goto 313 dX12_goOn_153 (by decide) ?_
            refine R_iload_2 dX12_goOn_313 ?_
            refine R_iret rfl dX12_goOn_314 (by first | exact absurd c95 (by decide) | exact absurd rfl c95 | exact absurd c100 (by decide) | exact absurd rfl c100 | exact absurd c129 (by decide) | exact absurd rfl c129 | exact ⟨rfl, rfl, ⟨((a_up_ne (Or.inl (by decide))).trans ((a_up_ne (Or.inl (by decide))).trans w0)), (a_up_self _ _ _ _), ((a_up_ne (Or.inl (by decide))).trans ((a_up_ne (Or.inl (by decide))).trans w2)), ((a_up_ne (Or.inl (by decide))).trans ((a_up_ne (Or.inl (by decide))).trans w3)), ((a_up_ne (Or.inl (by decide))).trans ((a_up_self _ _ _ _).trans (congrArg (fun z => Value.int (nI z)) (by first | exact go_b1 hz hb | exact go_b2 hd hb | exact go_b3 hz hb | exact go_b4 c124 hb))))⟩, (FrLv.u (by decide) (by decide)).trans (FrLv.u (by decide) (by decide))⟩)
          · refine R_iconst (v := 0) dX12_goOn_132 (by decide) ?_
            refine R_goto 142 dX12_goOn_133 (by decide) ?_
            refine R_iastE dX12_goOn_142 sh_535 rfl (by omega) (by decide) ?_
            refine R_aload_0 dX12_goOn_143 ?_
            refine gfX12_99 rfl dX12_goOn_144 sh_504 (by first | exact hR.g (k := 38) (a := 532) (by decide) | exact (a_up_ne (by omega)).trans (hR.g (k := 38) (a := 532) (by decide)) | exact (a_up_ne (by omega)).trans ((a_up_ne (by omega)).trans (hR.g (k := 38) (a := 532) (by decide))) | exact (a_up_ne (by omega)).trans ((a_up_ne (by omega)).trans ((a_up_ne (by omega)).trans (hR.g (k := 38) (a := 532) (by decide)))) | exact (a_up_ne (by omega)).trans ((a_up_ne (by omega)).trans ((a_up_ne (by omega)).trans ((a_up_ne (by omega)).trans (hR.g (k := 38) (a := 532) (by decide))))) | exact (a_up_ne (by omega)).trans ((a_up_ne (by omega)).trans ((a_up_ne (by omega)).trans ((a_up_ne (by omega)).trans ((a_up_ne (by omega)).trans (hR.g (k := 38) (a := 532) (by decide)))))) | exact (a_up_ne (by omega)).trans ((a_up_ne (by omega)).trans ((a_up_ne (by omega)).trans ((a_up_ne (by omega)).trans ((a_up_ne (by omega)).trans ((a_up_ne (by omega)).trans (hR.g (k := 38) (a := 532) (by decide)))))))) ?_
            refine R_iload_2 dX12_goOn_147 ?_
            refine R_dup2_11 dX12_goOn_148 rfl rfl ?_
            refine R_ialdE dX12_goOn_149 sh_532 rfl (by omega) (by decide) ((a_up_ne (Or.inl (by decide))).trans w1) ?_
            refine R_iconst (v := 1) dX12_goOn_150 (by decide) ?_
            refine R_iadd dX12_goOn_151 ?_
            rw [nI_1]
            refine R_iastE dX12_goOn_152 sh_532 rfl (by omega) (by decide) ?_
            refine R_goto 313 dX12_goOn_153 (by decide) ?_
            refine R_iload_2 dX12_goOn_313 ?_
            refine R_iret rfl dX12_goOn_314 (by first | exact absurd c95 (by decide) | exact absurd rfl c95 | exact absurd c100 (by decide) | exact absurd rfl c100 | exact absurd c129 (by decide) | exact absurd rfl c129 | exact ⟨rfl, rfl, ⟨((a_up_ne (Or.inl (by decide))).trans ((a_up_ne (Or.inl (by decide))).trans w0)), (a_up_self _ _ _ _), ((a_up_ne (Or.inl (by decide))).trans ((a_up_ne (Or.inl (by decide))).trans w2)), ((a_up_ne (Or.inl (by decide))).trans ((a_up_ne (Or.inl (by decide))).trans w3)), ((a_up_ne (Or.inl (by decide))).trans ((a_up_self _ _ _ _).trans (congrArg (fun z => Value.int (nI z)) (by first | exact go_b1 hz hb | exact go_b2 hd hb | exact go_b3 hz hb | exact go_b4 c124 hb))))⟩, (FrLv.u (by decide) (by decide)).trans (FrLv.u (by decide) (by decide))⟩)
      · refine R_iload_7 dX12_goOn_98 ?_
        refine R_if_eq 112 dX12_goOn_100 (by decide) (fun c100 => ?_) (fun c100 => ?_)
        · refine R_aload_0 dX12_goOn_112 ?_
          refine gfX12_108 rfl dX12_goOn_113 sh_504 (by first | exact hR.g (k := 41) (a := 535) (by decide) | exact (a_up_ne (by omega)).trans (hR.g (k := 41) (a := 535) (by decide)) | exact (a_up_ne (by omega)).trans ((a_up_ne (by omega)).trans (hR.g (k := 41) (a := 535) (by decide))) | exact (a_up_ne (by omega)).trans ((a_up_ne (by omega)).trans ((a_up_ne (by omega)).trans (hR.g (k := 41) (a := 535) (by decide)))) | exact (a_up_ne (by omega)).trans ((a_up_ne (by omega)).trans ((a_up_ne (by omega)).trans ((a_up_ne (by omega)).trans (hR.g (k := 41) (a := 535) (by decide))))) | exact (a_up_ne (by omega)).trans ((a_up_ne (by omega)).trans ((a_up_ne (by omega)).trans ((a_up_ne (by omega)).trans ((a_up_ne (by omega)).trans (hR.g (k := 41) (a := 535) (by decide)))))) | exact (a_up_ne (by omega)).trans ((a_up_ne (by omega)).trans ((a_up_ne (by omega)).trans ((a_up_ne (by omega)).trans ((a_up_ne (by omega)).trans ((a_up_ne (by omega)).trans (hR.g (k := 41) (a := 535) (by decide)))))))) ?_
          refine R_iload_2 dX12_goOn_116 ?_
          refine R_ialdE dX12_goOn_117 sh_535 rfl (by omega) (by decide) w4 ?_
          refine R_aload_0 dX12_goOn_118 ?_
          refine gfX12_102 rfl dX12_goOn_119 sh_504 (by first | exact hR.g (k := 39) (a := 533) (by decide) | exact (a_up_ne (by omega)).trans (hR.g (k := 39) (a := 533) (by decide)) | exact (a_up_ne (by omega)).trans ((a_up_ne (by omega)).trans (hR.g (k := 39) (a := 533) (by decide))) | exact (a_up_ne (by omega)).trans ((a_up_ne (by omega)).trans ((a_up_ne (by omega)).trans (hR.g (k := 39) (a := 533) (by decide)))) | exact (a_up_ne (by omega)).trans ((a_up_ne (by omega)).trans ((a_up_ne (by omega)).trans ((a_up_ne (by omega)).trans (hR.g (k := 39) (a := 533) (by decide))))) | exact (a_up_ne (by omega)).trans ((a_up_ne (by omega)).trans ((a_up_ne (by omega)).trans ((a_up_ne (by omega)).trans ((a_up_ne (by omega)).trans (hR.g (k := 39) (a := 533) (by decide)))))) | exact (a_up_ne (by omega)).trans ((a_up_ne (by omega)).trans ((a_up_ne (by omega)).trans ((a_up_ne (by omega)).trans ((a_up_ne (by omega)).trans ((a_up_ne (by omega)).trans (hR.g (k := 39) (a := 533) (by decide)))))))) ?_
          refine R_iload_2 dX12_goOn_122 ?_
          refine R_ialdE dX12_goOn_123 sh_533 rfl (by omega) (by decide) w2 ?_
          refine R_icmp_ne 136 dX12_goOn_124 (by decide) (fun c124 => ?_) (fun c124 => ?_)
          · 
            refine R_aload_0 dX12_goOn_136 ?_
            refine gfX12_108 rfl dX12_goOn_137 sh_504 (by first | exact hR.g (k := 41) (a := 535) (by decide) | exact (a_up_ne (by omega)).trans (hR.g (k := 41) (a := 535) (by decide)) | exact (a_up_ne (by omega)).trans ((a_up_ne (by omega)).trans (hR.g (k := 41) (a := 535) (by decide))) | exact (a_up_ne (by omega)).trans ((a_up_ne (by omega)).trans ((a_up_ne (by omega)).trans (hR.g (k := 41) (a := 535) (by decide)))) | exact (a_up_ne (by omega)).trans ((a_up_ne (by omega)).trans ((a_up_ne (by omega)).trans ((a_up_ne (by omega)).trans (hR.g (k := 41) (a := 535) (by decide))))) | exact (a_up_ne (by omega)).trans ((a_up_ne (by omega)).trans ((a_up_ne (by omega)).trans ((a_up_ne (by omega)).trans ((a_up_ne (by omega)).trans (hR.g (k := 41) (a := 535) (by decide)))))) | exact (a_up_ne (by omega)).trans ((a_up_ne (by omega)).trans ((a_up_ne (by omega)).trans ((a_up_ne (by omega)).trans ((a_up_ne (by omega)).trans ((a_up_ne (by omega)).trans (hR.g (k := 41) (a := 535) (by decide)))))))) ?_
            refine R_iload_2 dX12_goOn_140 ?_
            refine R_ialdE dX12_goOn_141 sh_535 rfl (by omega) (by decide) w4 ?_
            refine R_iastE dX12_goOn_142 sh_535 rfl (by omega) (by decide) ?_
            refine R_aload_0 dX12_goOn_143 ?_
            refine gfX12_99 rfl dX12_goOn_144 sh_504 (by first | exact hR.g (k := 38) (a := 532) (by decide) | exact (a_up_ne (by omega)).trans (hR.g (k := 38) (a := 532) (by decide)) | exact (a_up_ne (by omega)).trans ((a_up_ne (by omega)).trans (hR.g (k := 38) (a := 532) (by decide))) | exact (a_up_ne (by omega)).trans ((a_up_ne (by omega)).trans ((a_up_ne (by omega)).trans (hR.g (k := 38) (a := 532) (by decide)))) | exact (a_up_ne (by omega)).trans ((a_up_ne (by omega)).trans ((a_up_ne (by omega)).trans ((a_up_ne (by omega)).trans (hR.g (k := 38) (a := 532) (by decide))))) | exact (a_up_ne (by omega)).trans ((a_up_ne (by omega)).trans ((a_up_ne (by omega)).trans ((a_up_ne (by omega)).trans ((a_up_ne (by omega)).trans (hR.g (k := 38) (a := 532) (by decide)))))) | exact (a_up_ne (by omega)).trans ((a_up_ne (by omega)).trans ((a_up_ne (by omega)).trans ((a_up_ne (by omega)).trans ((a_up_ne (by omega)).trans ((a_up_ne (by omega)).trans (hR.g (k := 38) (a := 532) (by decide)))))))) ?_
            refine R_iload_2 dX12_goOn_147 ?_
            refine R_dup2_11 dX12_goOn_148 rfl rfl ?_
            refine R_ialdE dX12_goOn_149 sh_532 rfl (by omega) (by decide) ((a_up_ne (Or.inl (by decide))).trans w1) ?_
            refine R_iconst (v := 1) dX12_goOn_150 (by decide) ?_
            refine R_iadd dX12_goOn_151 ?_
            rw [nI_1]
            refine R_iastE dX12_goOn_152 sh_532 rfl (by omega) (by decide) ?_
            refine R_goto 313 dX12_goOn_153 (by decide) ?_
            refine R_iload_2 dX12_goOn_313 ?_
            refine R_iret rfl dX12_goOn_314 (by first | exact absurd c95 (by decide) | exact absurd rfl c95 | exact absurd c100 (by decide) | exact absurd rfl c100 | exact absurd c129 (by decide) | exact absurd rfl c129 | exact ⟨rfl, rfl, ⟨((a_up_ne (Or.inl (by decide))).trans ((a_up_ne (Or.inl (by decide))).trans w0)), (a_up_self _ _ _ _), ((a_up_ne (Or.inl (by decide))).trans ((a_up_ne (Or.inl (by decide))).trans w2)), ((a_up_ne (Or.inl (by decide))).trans ((a_up_ne (Or.inl (by decide))).trans w3)), ((a_up_ne (Or.inl (by decide))).trans ((a_up_self _ _ _ _).trans (congrArg (fun z => Value.int (nI z)) (by first | exact go_b1 hz hb | exact go_b2 hd hb | exact go_b3 hz hb | exact go_b4 c124 hb))))⟩, (FrLv.u (by decide) (by decide)).trans (FrLv.u (by decide) (by decide))⟩)
          · have hd : dd = dp := (nI_eq (by omega) (by omega)).1 c124
            refine R_iload_7 dX12_goOn_127 ?_
            refine R_if_ne 136 dX12_goOn_129 (by decide) (fun c129 => ?_) (fun c129 => ?_)
            · 
              refine R_aload_0 dX12_goOn_136 ?_
              refine gfX12_108 rfl dX12_goOn_137 sh_504 (by first | exact hR.g (k := 41) (a := 535) (by decide) | exact (a_up_ne (by omega)).trans (hR.g (k := 41) (a := 535) (by decide)) | exact (a_up_ne (by omega)).trans ((a_up_ne (by omega)).trans (hR.g (k := 41) (a := 535) (by decide))) | exact (a_up_ne (by omega)).trans ((a_up_ne (by omega)).trans ((a_up_ne (by omega)).trans (hR.g (k := 41) (a := 535) (by decide)))) | exact (a_up_ne (by omega)).trans ((a_up_ne (by omega)).trans ((a_up_ne (by omega)).trans ((a_up_ne (by omega)).trans (hR.g (k := 41) (a := 535) (by decide))))) | exact (a_up_ne (by omega)).trans ((a_up_ne (by omega)).trans ((a_up_ne (by omega)).trans ((a_up_ne (by omega)).trans ((a_up_ne (by omega)).trans (hR.g (k := 41) (a := 535) (by decide)))))) | exact (a_up_ne (by omega)).trans ((a_up_ne (by omega)).trans ((a_up_ne (by omega)).trans ((a_up_ne (by omega)).trans ((a_up_ne (by omega)).trans ((a_up_ne (by omega)).trans (hR.g (k := 41) (a := 535) (by decide)))))))) ?_
              refine R_iload_2 dX12_goOn_140 ?_
              refine R_ialdE dX12_goOn_141 sh_535 rfl (by omega) (by decide) w4 ?_
              refine R_iastE dX12_goOn_142 sh_535 rfl (by omega) (by decide) ?_
              refine R_aload_0 dX12_goOn_143 ?_
              refine gfX12_99 rfl dX12_goOn_144 sh_504 (by first | exact hR.g (k := 38) (a := 532) (by decide) | exact (a_up_ne (by omega)).trans (hR.g (k := 38) (a := 532) (by decide)) | exact (a_up_ne (by omega)).trans ((a_up_ne (by omega)).trans (hR.g (k := 38) (a := 532) (by decide))) | exact (a_up_ne (by omega)).trans ((a_up_ne (by omega)).trans ((a_up_ne (by omega)).trans (hR.g (k := 38) (a := 532) (by decide)))) | exact (a_up_ne (by omega)).trans ((a_up_ne (by omega)).trans ((a_up_ne (by omega)).trans ((a_up_ne (by omega)).trans (hR.g (k := 38) (a := 532) (by decide))))) | exact (a_up_ne (by omega)).trans ((a_up_ne (by omega)).trans ((a_up_ne (by omega)).trans ((a_up_ne (by omega)).trans ((a_up_ne (by omega)).trans (hR.g (k := 38) (a := 532) (by decide)))))) | exact (a_up_ne (by omega)).trans ((a_up_ne (by omega)).trans ((a_up_ne (by omega)).trans ((a_up_ne (by omega)).trans ((a_up_ne (by omega)).trans ((a_up_ne (by omega)).trans (hR.g (k := 38) (a := 532) (by decide)))))))) ?_
              refine R_iload_2 dX12_goOn_147 ?_
              refine R_dup2_11 dX12_goOn_148 rfl rfl ?_
              refine R_ialdE dX12_goOn_149 sh_532 rfl (by omega) (by decide) ((a_up_ne (Or.inl (by decide))).trans w1) ?_
              refine R_iconst (v := 1) dX12_goOn_150 (by decide) ?_
              refine R_iadd dX12_goOn_151 ?_
              rw [nI_1]
              refine R_iastE dX12_goOn_152 sh_532 rfl (by omega) (by decide) ?_
              refine R_goto 313 dX12_goOn_153 (by decide) ?_
              refine R_iload_2 dX12_goOn_313 ?_
              refine R_iret rfl dX12_goOn_314 (by first | exact absurd c95 (by decide) | exact absurd rfl c95 | exact absurd c100 (by decide) | exact absurd rfl c100 | exact absurd c129 (by decide) | exact absurd rfl c129 | exact ⟨rfl, rfl, ⟨((a_up_ne (Or.inl (by decide))).trans ((a_up_ne (Or.inl (by decide))).trans w0)), (a_up_self _ _ _ _), ((a_up_ne (Or.inl (by decide))).trans ((a_up_ne (Or.inl (by decide))).trans w2)), ((a_up_ne (Or.inl (by decide))).trans ((a_up_ne (Or.inl (by decide))).trans w3)), ((a_up_ne (Or.inl (by decide))).trans ((a_up_self _ _ _ _).trans (congrArg (fun z => Value.int (nI z)) (by first | exact go_b1 hz hb | exact go_b2 hd hb | exact go_b3 hz hb | exact go_b4 c124 hb))))⟩, (FrLv.u (by decide) (by decide)).trans (FrLv.u (by decide) (by decide))⟩)
            · refine R_iconst (v := 0) dX12_goOn_132 (by decide) ?_
              refine R_goto 142 dX12_goOn_133 (by decide) ?_
              refine R_iastE dX12_goOn_142 sh_535 rfl (by omega) (by decide) ?_
              refine R_aload_0 dX12_goOn_143 ?_
              refine gfX12_99 rfl dX12_goOn_144 sh_504 (by first | exact hR.g (k := 38) (a := 532) (by decide) | exact (a_up_ne (by omega)).trans (hR.g (k := 38) (a := 532) (by decide)) | exact (a_up_ne (by omega)).trans ((a_up_ne (by omega)).trans (hR.g (k := 38) (a := 532) (by decide))) | exact (a_up_ne (by omega)).trans ((a_up_ne (by omega)).trans ((a_up_ne (by omega)).trans (hR.g (k := 38) (a := 532) (by decide)))) | exact (a_up_ne (by omega)).trans ((a_up_ne (by omega)).trans ((a_up_ne (by omega)).trans ((a_up_ne (by omega)).trans (hR.g (k := 38) (a := 532) (by decide))))) | exact (a_up_ne (by omega)).trans ((a_up_ne (by omega)).trans ((a_up_ne (by omega)).trans ((a_up_ne (by omega)).trans ((a_up_ne (by omega)).trans (hR.g (k := 38) (a := 532) (by decide)))))) | exact (a_up_ne (by omega)).trans ((a_up_ne (by omega)).trans ((a_up_ne (by omega)).trans ((a_up_ne (by omega)).trans ((a_up_ne (by omega)).trans ((a_up_ne (by omega)).trans (hR.g (k := 38) (a := 532) (by decide)))))))) ?_
              refine R_iload_2 dX12_goOn_147 ?_
              refine R_dup2_11 dX12_goOn_148 rfl rfl ?_
              refine R_ialdE dX12_goOn_149 sh_532 rfl (by omega) (by decide) ((a_up_ne (Or.inl (by decide))).trans w1) ?_
              refine R_iconst (v := 1) dX12_goOn_150 (by decide) ?_
              refine R_iadd dX12_goOn_151 ?_
              rw [nI_1]
              refine R_iastE dX12_goOn_152 sh_532 rfl (by omega) (by decide) ?_
              refine R_goto 313 dX12_goOn_153 (by decide) ?_
              refine R_iload_2 dX12_goOn_313 ?_
              refine R_iret rfl dX12_goOn_314 (by first | exact absurd c95 (by decide) | exact absurd rfl c95 | exact absurd c100 (by decide) | exact absurd rfl c100 | exact absurd c129 (by decide) | exact absurd rfl c129 | exact ⟨rfl, rfl, ⟨((a_up_ne (Or.inl (by decide))).trans ((a_up_ne (Or.inl (by decide))).trans w0)), (a_up_self _ _ _ _), ((a_up_ne (Or.inl (by decide))).trans ((a_up_ne (Or.inl (by decide))).trans w2)), ((a_up_ne (Or.inl (by decide))).trans ((a_up_ne (Or.inl (by decide))).trans w3)), ((a_up_ne (Or.inl (by decide))).trans ((a_up_self _ _ _ _).trans (congrArg (fun z => Value.int (nI z)) (by first | exact go_b1 hz hb | exact go_b2 hd hb | exact go_b3 hz hb | exact go_b4 c124 hb))))⟩, (FrLv.u (by decide) (by decide)).trans (FrLv.u (by decide) (by decide))⟩)
        · refine R_aload_0 dX12_goOn_103 ?_
          refine gfX12_102 rfl dX12_goOn_104 sh_504 (by first | exact hR.g (k := 39) (a := 533) (by decide) | exact (a_up_ne (by omega)).trans (hR.g (k := 39) (a := 533) (by decide)) | exact (a_up_ne (by omega)).trans ((a_up_ne (by omega)).trans (hR.g (k := 39) (a := 533) (by decide))) | exact (a_up_ne (by omega)).trans ((a_up_ne (by omega)).trans ((a_up_ne (by omega)).trans (hR.g (k := 39) (a := 533) (by decide)))) | exact (a_up_ne (by omega)).trans ((a_up_ne (by omega)).trans ((a_up_ne (by omega)).trans ((a_up_ne (by omega)).trans (hR.g (k := 39) (a := 533) (by decide))))) | exact (a_up_ne (by omega)).trans ((a_up_ne (by omega)).trans ((a_up_ne (by omega)).trans ((a_up_ne (by omega)).trans ((a_up_ne (by omega)).trans (hR.g (k := 39) (a := 533) (by decide)))))) | exact (a_up_ne (by omega)).trans ((a_up_ne (by omega)).trans ((a_up_ne (by omega)).trans ((a_up_ne (by omega)).trans ((a_up_ne (by omega)).trans ((a_up_ne (by omega)).trans (hR.g (k := 39) (a := 533) (by decide)))))))) ?_
          refine R_iload_2 dX12_goOn_107 ?_
          refine R_ialdE dX12_goOn_108 sh_533 rfl (by omega) (by decide) w2 ?_
          refine R_goto 142 dX12_goOn_109 (by decide) ?_
          refine R_iastE dX12_goOn_142 sh_535 rfl (by omega) (by decide) ?_
          refine R_aload_0 dX12_goOn_143 ?_
          refine gfX12_99 rfl dX12_goOn_144 sh_504 (by first | exact hR.g (k := 38) (a := 532) (by decide) | exact (a_up_ne (by omega)).trans (hR.g (k := 38) (a := 532) (by decide)) | exact (a_up_ne (by omega)).trans ((a_up_ne (by omega)).trans (hR.g (k := 38) (a := 532) (by decide))) | exact (a_up_ne (by omega)).trans ((a_up_ne (by omega)).trans ((a_up_ne (by omega)).trans (hR.g (k := 38) (a := 532) (by decide)))) | exact (a_up_ne (by omega)).trans ((a_up_ne (by omega)).trans ((a_up_ne (by omega)).trans ((a_up_ne (by omega)).trans (hR.g (k := 38) (a := 532) (by decide))))) | exact (a_up_ne (by omega)).trans ((a_up_ne (by omega)).trans ((a_up_ne (by omega)).trans ((a_up_ne (by omega)).trans ((a_up_ne (by omega)).trans (hR.g (k := 38) (a := 532) (by decide)))))) | exact (a_up_ne (by omega)).trans ((a_up_ne (by omega)).trans ((a_up_ne (by omega)).trans ((a_up_ne (by omega)).trans ((a_up_ne (by omega)).trans ((a_up_ne (by omega)).trans (hR.g (k := 38) (a := 532) (by decide)))))))) ?_
          refine R_iload_2 dX12_goOn_147 ?_
          refine R_dup2_11 dX12_goOn_148 rfl rfl ?_
          refine R_ialdE dX12_goOn_149 sh_532 rfl (by omega) (by decide) ((a_up_ne (Or.inl (by decide))).trans w1) ?_
          refine R_iconst (v := 1) dX12_goOn_150 (by decide) ?_
          refine R_iadd dX12_goOn_151 ?_
          rw [nI_1]
          refine R_iastE dX12_goOn_152 sh_532 rfl (by omega) (by decide) ?_
          refine R_goto 313 dX12_goOn_153 (by decide) ?_
          refine R_iload_2 dX12_goOn_313 ?_
          refine R_iret rfl dX12_goOn_314 (by first | exact absurd c95 (by decide) | exact absurd rfl c95 | exact absurd c100 (by decide) | exact absurd rfl c100 | exact absurd c129 (by decide) | exact absurd rfl c129 | exact ⟨rfl, rfl, ⟨((a_up_ne (Or.inl (by decide))).trans ((a_up_ne (Or.inl (by decide))).trans w0)), (a_up_self _ _ _ _), ((a_up_ne (Or.inl (by decide))).trans ((a_up_ne (Or.inl (by decide))).trans w2)), ((a_up_ne (Or.inl (by decide))).trans ((a_up_ne (Or.inl (by decide))).trans w3)), ((a_up_ne (Or.inl (by decide))).trans ((a_up_self _ _ _ _).trans (congrArg (fun z => Value.int (nI z)) (by first | exact go_b1 hz hb | exact go_b2 hd hb | exact go_b3 hz hb | exact go_b4 c124 hb))))⟩, (FrLv.u (by decide) (by decide)).trans (FrLv.u (by decide) (by decide))⟩)
  · have hz : dd = 0 := nI_0of (by omega) c28
    refine R_iconst (v := 1) dX12_goOn_31 (by decide) ?_
    refine R_goto 36 dX12_goOn_32 (by decide) ?_
    refine R_istore_6 rfl (by decide) dX12_goOn_36 ?_
    refine R_iload_5 dX12_goOn_38 ?_
    refine R_bipush (v := 91) dX12_goOn_40 (by decide) ?_
    refine R_icmp_ne 55 dX12_goOn_42 (by decide) (fun c42 => ?_) (fun c42 => absurd c42 (by rw [hc]; decide))
    refine R_iload_5 dX12_goOn_55 ?_
    refine R_bipush (v := 124) dX12_goOn_57 (by decide) ?_
    refine R_icmp_ne 156 dX12_goOn_59 (by decide) (fun c59 => absurd hc c59) (fun c59 => ?_)
    refine R_aload_0 dX12_goOn_62 ?_
    refine gfX12_105 rfl dX12_goOn_63 sh_504 (by first | exact hR.g (k := 40) (a := 534) (by decide) | exact (a_up_ne (by omega)).trans (hR.g (k := 40) (a := 534) (by decide)) | exact (a_up_ne (by omega)).trans ((a_up_ne (by omega)).trans (hR.g (k := 40) (a := 534) (by decide))) | exact (a_up_ne (by omega)).trans ((a_up_ne (by omega)).trans ((a_up_ne (by omega)).trans (hR.g (k := 40) (a := 534) (by decide)))) | exact (a_up_ne (by omega)).trans ((a_up_ne (by omega)).trans ((a_up_ne (by omega)).trans ((a_up_ne (by omega)).trans (hR.g (k := 40) (a := 534) (by decide))))) | exact (a_up_ne (by omega)).trans ((a_up_ne (by omega)).trans ((a_up_ne (by omega)).trans ((a_up_ne (by omega)).trans ((a_up_ne (by omega)).trans (hR.g (k := 40) (a := 534) (by decide)))))) | exact (a_up_ne (by omega)).trans ((a_up_ne (by omega)).trans ((a_up_ne (by omega)).trans ((a_up_ne (by omega)).trans ((a_up_ne (by omega)).trans ((a_up_ne (by omega)).trans (hR.g (k := 40) (a := 534) (by decide)))))))) ?_
    refine R_iload_2 dX12_goOn_66 ?_
    refine R_ialdE dX12_goOn_67 sh_534 rfl (by omega) (by decide) w3 ?_
    refine R_aload_0 dX12_goOn_68 ?_
    refine gfX12_102 rfl dX12_goOn_69 sh_504 (by first | exact hR.g (k := 39) (a := 533) (by decide) | exact (a_up_ne (by omega)).trans (hR.g (k := 39) (a := 533) (by decide)) | exact (a_up_ne (by omega)).trans ((a_up_ne (by omega)).trans (hR.g (k := 39) (a := 533) (by decide))) | exact (a_up_ne (by omega)).trans ((a_up_ne (by omega)).trans ((a_up_ne (by omega)).trans (hR.g (k := 39) (a := 533) (by decide)))) | exact (a_up_ne (by omega)).trans ((a_up_ne (by omega)).trans ((a_up_ne (by omega)).trans ((a_up_ne (by omega)).trans (hR.g (k := 39) (a := 533) (by decide))))) | exact (a_up_ne (by omega)).trans ((a_up_ne (by omega)).trans ((a_up_ne (by omega)).trans ((a_up_ne (by omega)).trans ((a_up_ne (by omega)).trans (hR.g (k := 39) (a := 533) (by decide)))))) | exact (a_up_ne (by omega)).trans ((a_up_ne (by omega)).trans ((a_up_ne (by omega)).trans ((a_up_ne (by omega)).trans ((a_up_ne (by omega)).trans ((a_up_ne (by omega)).trans (hR.g (k := 39) (a := 533) (by decide)))))))) ?_
    refine R_iload_2 dX12_goOn_72 ?_
    refine R_ialdE dX12_goOn_73 sh_533 rfl (by omega) (by decide) w2 ?_
    refine R_ishr dX12_goOn_74 ?_
    refine R_iconst (v := 1) dX12_goOn_75 (by decide) ?_
    refine R_iand dX12_goOn_76 ?_
    rw [mb_sh (by omega) (by omega)]
    refine R_iconst (v := 1) dX12_goOn_77 (by decide) ?_
    refine R_icmp_ne 85 dX12_goOn_78 (by decide) (fun c78 => ?_) (fun c78 => ?_)
    · have hb : ¬ fi.testBit dp = true := fun z => c78 (bI_t z)
      refine R_iconst (v := 0) dX12_goOn_85 (by decide) ?_
      refine R_istore_7 rfl (by decide) dX12_goOn_86 ?_
      refine R_aload_0 dX12_goOn_88 ?_
      refine gfX12_108 rfl dX12_goOn_89 sh_504 (by first | exact hR.g (k := 41) (a := 535) (by decide) | exact (a_up_ne (by omega)).trans (hR.g (k := 41) (a := 535) (by decide)) | exact (a_up_ne (by omega)).trans ((a_up_ne (by omega)).trans (hR.g (k := 41) (a := 535) (by decide))) | exact (a_up_ne (by omega)).trans ((a_up_ne (by omega)).trans ((a_up_ne (by omega)).trans (hR.g (k := 41) (a := 535) (by decide)))) | exact (a_up_ne (by omega)).trans ((a_up_ne (by omega)).trans ((a_up_ne (by omega)).trans ((a_up_ne (by omega)).trans (hR.g (k := 41) (a := 535) (by decide))))) | exact (a_up_ne (by omega)).trans ((a_up_ne (by omega)).trans ((a_up_ne (by omega)).trans ((a_up_ne (by omega)).trans ((a_up_ne (by omega)).trans (hR.g (k := 41) (a := 535) (by decide)))))) | exact (a_up_ne (by omega)).trans ((a_up_ne (by omega)).trans ((a_up_ne (by omega)).trans ((a_up_ne (by omega)).trans ((a_up_ne (by omega)).trans ((a_up_ne (by omega)).trans (hR.g (k := 41) (a := 535) (by decide)))))))) ?_
      refine R_iload_2 dX12_goOn_92 ?_
      refine R_iload_6 dX12_goOn_93 ?_
      refine R_if_eq 112 dX12_goOn_95 (by decide) (fun c95 => ?_) (fun c95 => ?_)
      · refine R_aload_0 dX12_goOn_112 ?_
        refine gfX12_108 rfl dX12_goOn_113 sh_504 (by first | exact hR.g (k := 41) (a := 535) (by decide) | exact (a_up_ne (by omega)).trans (hR.g (k := 41) (a := 535) (by decide)) | exact (a_up_ne (by omega)).trans ((a_up_ne (by omega)).trans (hR.g (k := 41) (a := 535) (by decide))) | exact (a_up_ne (by omega)).trans ((a_up_ne (by omega)).trans ((a_up_ne (by omega)).trans (hR.g (k := 41) (a := 535) (by decide)))) | exact (a_up_ne (by omega)).trans ((a_up_ne (by omega)).trans ((a_up_ne (by omega)).trans ((a_up_ne (by omega)).trans (hR.g (k := 41) (a := 535) (by decide))))) | exact (a_up_ne (by omega)).trans ((a_up_ne (by omega)).trans ((a_up_ne (by omega)).trans ((a_up_ne (by omega)).trans ((a_up_ne (by omega)).trans (hR.g (k := 41) (a := 535) (by decide)))))) | exact (a_up_ne (by omega)).trans ((a_up_ne (by omega)).trans ((a_up_ne (by omega)).trans ((a_up_ne (by omega)).trans ((a_up_ne (by omega)).trans ((a_up_ne (by omega)).trans (hR.g (k := 41) (a := 535) (by decide)))))))) ?_
        refine R_iload_2 dX12_goOn_116 ?_
        refine R_ialdE dX12_goOn_117 sh_535 rfl (by omega) (by decide) w4 ?_
        refine R_aload_0 dX12_goOn_118 ?_
        refine gfX12_102 rfl dX12_goOn_119 sh_504 (by first | exact hR.g (k := 39) (a := 533) (by decide) | exact (a_up_ne (by omega)).trans (hR.g (k := 39) (a := 533) (by decide)) | exact (a_up_ne (by omega)).trans ((a_up_ne (by omega)).trans (hR.g (k := 39) (a := 533) (by decide))) | exact (a_up_ne (by omega)).trans ((a_up_ne (by omega)).trans ((a_up_ne (by omega)).trans (hR.g (k := 39) (a := 533) (by decide)))) | exact (a_up_ne (by omega)).trans ((a_up_ne (by omega)).trans ((a_up_ne (by omega)).trans ((a_up_ne (by omega)).trans (hR.g (k := 39) (a := 533) (by decide))))) | exact (a_up_ne (by omega)).trans ((a_up_ne (by omega)).trans ((a_up_ne (by omega)).trans ((a_up_ne (by omega)).trans ((a_up_ne (by omega)).trans (hR.g (k := 39) (a := 533) (by decide)))))) | exact (a_up_ne (by omega)).trans ((a_up_ne (by omega)).trans ((a_up_ne (by omega)).trans ((a_up_ne (by omega)).trans ((a_up_ne (by omega)).trans ((a_up_ne (by omega)).trans (hR.g (k := 39) (a := 533) (by decide)))))))) ?_
        refine R_iload_2 dX12_goOn_122 ?_
        refine R_ialdE dX12_goOn_123 sh_533 rfl (by omega) (by decide) w2 ?_
        refine R_icmp_ne 136 dX12_goOn_124 (by decide) (fun c124 => ?_) (fun c124 => ?_)
        · 
          refine R_aload_0 dX12_goOn_136 ?_
          refine gfX12_108 rfl dX12_goOn_137 sh_504 (by first | exact hR.g (k := 41) (a := 535) (by decide) | exact (a_up_ne (by omega)).trans (hR.g (k := 41) (a := 535) (by decide)) | exact (a_up_ne (by omega)).trans ((a_up_ne (by omega)).trans (hR.g (k := 41) (a := 535) (by decide))) | exact (a_up_ne (by omega)).trans ((a_up_ne (by omega)).trans ((a_up_ne (by omega)).trans (hR.g (k := 41) (a := 535) (by decide)))) | exact (a_up_ne (by omega)).trans ((a_up_ne (by omega)).trans ((a_up_ne (by omega)).trans ((a_up_ne (by omega)).trans (hR.g (k := 41) (a := 535) (by decide))))) | exact (a_up_ne (by omega)).trans ((a_up_ne (by omega)).trans ((a_up_ne (by omega)).trans ((a_up_ne (by omega)).trans ((a_up_ne (by omega)).trans (hR.g (k := 41) (a := 535) (by decide)))))) | exact (a_up_ne (by omega)).trans ((a_up_ne (by omega)).trans ((a_up_ne (by omega)).trans ((a_up_ne (by omega)).trans ((a_up_ne (by omega)).trans ((a_up_ne (by omega)).trans (hR.g (k := 41) (a := 535) (by decide)))))))) ?_
          refine R_iload_2 dX12_goOn_140 ?_
          refine R_ialdE dX12_goOn_141 sh_535 rfl (by omega) (by decide) w4 ?_
          refine R_iastE dX12_goOn_142 sh_535 rfl (by omega) (by decide) ?_
          refine R_aload_0 dX12_goOn_143 ?_
          refine gfX12_99 rfl dX12_goOn_144 sh_504 (by first | exact hR.g (k := 38) (a := 532) (by decide) | exact (a_up_ne (by omega)).trans (hR.g (k := 38) (a := 532) (by decide)) | exact (a_up_ne (by omega)).trans ((a_up_ne (by omega)).trans (hR.g (k := 38) (a := 532) (by decide))) | exact (a_up_ne (by omega)).trans ((a_up_ne (by omega)).trans ((a_up_ne (by omega)).trans (hR.g (k := 38) (a := 532) (by decide)))) | exact (a_up_ne (by omega)).trans ((a_up_ne (by omega)).trans ((a_up_ne (by omega)).trans ((a_up_ne (by omega)).trans (hR.g (k := 38) (a := 532) (by decide))))) | exact (a_up_ne (by omega)).trans ((a_up_ne (by omega)).trans ((a_up_ne (by omega)).trans ((a_up_ne (by omega)).trans ((a_up_ne (by omega)).trans (hR.g (k := 38) (a := 532) (by decide)))))) | exact (a_up_ne (by omega)).trans ((a_up_ne (by omega)).trans ((a_up_ne (by omega)).trans ((a_up_ne (by omega)).trans ((a_up_ne (by omega)).trans ((a_up_ne (by omega)).trans (hR.g (k := 38) (a := 532) (by decide)))))))) ?_
          refine R_iload_2 dX12_goOn_147 ?_
          refine R_dup2_11 dX12_goOn_148 rfl rfl ?_
          refine R_ialdE dX12_goOn_149 sh_532 rfl (by omega) (by decide) ((a_up_ne (Or.inl (by decide))).trans w1) ?_
          refine R_iconst (v := 1) dX12_goOn_150 (by decide) ?_
          refine R_iadd dX12_goOn_151 ?_
          rw [nI_1]
          refine R_iastE dX12_goOn_152 sh_532 rfl (by omega) (by decide) ?_
          refine R_goto 313 dX12_goOn_153 (by decide) ?_
          refine R_iload_2 dX12_goOn_313 ?_
          refine R_iret rfl dX12_goOn_314 (by first | exact absurd c95 (by decide) | exact absurd rfl c95 | exact absurd c100 (by decide) | exact absurd rfl c100 | exact absurd c129 (by decide) | exact absurd rfl c129 | exact ⟨rfl, rfl, ⟨((a_up_ne (Or.inl (by decide))).trans ((a_up_ne (Or.inl (by decide))).trans w0)), (a_up_self _ _ _ _), ((a_up_ne (Or.inl (by decide))).trans ((a_up_ne (Or.inl (by decide))).trans w2)), ((a_up_ne (Or.inl (by decide))).trans ((a_up_ne (Or.inl (by decide))).trans w3)), ((a_up_ne (Or.inl (by decide))).trans ((a_up_self _ _ _ _).trans (congrArg (fun z => Value.int (nI z)) (by first | exact go_b1 hz hb | exact go_b2 hd hb | exact go_b3 hz hb | exact go_b4 c124 hb))))⟩, (FrLv.u (by decide) (by decide)).trans (FrLv.u (by decide) (by decide))⟩)
        · have hd : dd = dp := (nI_eq (by omega) (by omega)).1 c124
          refine R_iload_7 dX12_goOn_127 ?_
          refine R_if_ne 136 dX12_goOn_129 (by decide) (fun c129 => ?_) (fun c129 => ?_)
          · 
            refine R_aload_0 dX12_goOn_136 ?_
            refine gfX12_108 rfl dX12_goOn_137 sh_504 (by first | exact hR.g (k := 41) (a := 535) (by decide) | exact (a_up_ne (by omega)).trans (hR.g (k := 41) (a := 535) (by decide)) | exact (a_up_ne (by omega)).trans ((a_up_ne (by omega)).trans (hR.g (k := 41) (a := 535) (by decide))) | exact (a_up_ne (by omega)).trans ((a_up_ne (by omega)).trans ((a_up_ne (by omega)).trans (hR.g (k := 41) (a := 535) (by decide)))) | exact (a_up_ne (by omega)).trans ((a_up_ne (by omega)).trans ((a_up_ne (by omega)).trans ((a_up_ne (by omega)).trans (hR.g (k := 41) (a := 535) (by decide))))) | exact (a_up_ne (by omega)).trans ((a_up_ne (by omega)).trans ((a_up_ne (by omega)).trans ((a_up_ne (by omega)).trans ((a_up_ne (by omega)).trans (hR.g (k := 41) (a := 535) (by decide)))))) | exact (a_up_ne (by omega)).trans ((a_up_ne (by omega)).trans ((a_up_ne (by omega)).trans ((a_up_ne (by omega)).trans ((a_up_ne (by omega)).trans ((a_up_ne (by omega)).trans (hR.g (k := 41) (a := 535) (by decide)))))))) ?_
            refine R_iload_2 dX12_goOn_140 ?_
            refine R_ialdE dX12_goOn_141 sh_535 rfl (by omega) (by decide) w4 ?_
            refine R_iastE dX12_goOn_142 sh_535 rfl (by omega) (by decide) ?_
            refine R_aload_0 dX12_goOn_143 ?_
            refine gfX12_99 rfl dX12_goOn_144 sh_504 (by first | exact hR.g (k := 38) (a := 532) (by decide) | exact (a_up_ne (by omega)).trans (hR.g (k := 38) (a := 532) (by decide)) | exact (a_up_ne (by omega)).trans ((a_up_ne (by omega)).trans (hR.g (k := 38) (a := 532) (by decide))) | exact (a_up_ne (by omega)).trans ((a_up_ne (by omega)).trans ((a_up_ne (by omega)).trans (hR.g (k := 38) (a := 532) (by decide)))) | exact (a_up_ne (by omega)).trans ((a_up_ne (by omega)).trans ((a_up_ne (by omega)).trans ((a_up_ne (by omega)).trans (hR.g (k := 38) (a := 532) (by decide))))) | exact (a_up_ne (by omega)).trans ((a_up_ne (by omega)).trans ((a_up_ne (by omega)).trans ((a_up_ne (by omega)).trans ((a_up_ne (by omega)).trans (hR.g (k := 38) (a := 532) (by decide)))))) | exact (a_up_ne (by omega)).trans ((a_up_ne (by omega)).trans ((a_up_ne (by omega)).trans ((a_up_ne (by omega)).trans ((a_up_ne (by omega)).trans ((a_up_ne (by omega)).trans (hR.g (k := 38) (a := 532) (by decide)))))))) ?_
            refine R_iload_2 dX12_goOn_147 ?_
            refine R_dup2_11 dX12_goOn_148 rfl rfl ?_
            refine R_ialdE dX12_goOn_149 sh_532 rfl (by omega) (by decide) ((a_up_ne (Or.inl (by decide))).trans w1) ?_
            refine R_iconst (v := 1) dX12_goOn_150 (by decide) ?_
            refine R_iadd dX12_goOn_151 ?_
            rw [nI_1]
            refine R_iastE dX12_goOn_152 sh_532 rfl (by omega) (by decide) ?_
            refine R_goto 313 dX12_goOn_153 (by decide) ?_
            refine R_iload_2 dX12_goOn_313 ?_
            refine R_iret rfl dX12_goOn_314 (by first | exact absurd c95 (by decide) | exact absurd rfl c95 | exact absurd c100 (by decide) | exact absurd rfl c100 | exact absurd c129 (by decide) | exact absurd rfl c129 | exact ⟨rfl, rfl, ⟨((a_up_ne (Or.inl (by decide))).trans ((a_up_ne (Or.inl (by decide))).trans w0)), (a_up_self _ _ _ _), ((a_up_ne (Or.inl (by decide))).trans ((a_up_ne (Or.inl (by decide))).trans w2)), ((a_up_ne (Or.inl (by decide))).trans ((a_up_ne (Or.inl (by decide))).trans w3)), ((a_up_ne (Or.inl (by decide))).trans ((a_up_self _ _ _ _).trans (congrArg (fun z => Value.int (nI z)) (by first | exact go_b1 hz hb | exact go_b2 hd hb | exact go_b3 hz hb | exact go_b4 c124 hb))))⟩, (FrLv.u (by decide) (by decide)).trans (FrLv.u (by decide) (by decide))⟩)
          · refine R_iconst (v := 0) dX12_goOn_132 (by decide) ?_
            refine R_goto 142 dX12_goOn_133 (by decide) ?_
            refine R_iastE dX12_goOn_142 sh_535 rfl (by omega) (by decide) ?_
            refine R_aload_0 dX12_goOn_143 ?_
            refine gfX12_99 rfl dX12_goOn_144 sh_504 (by first | exact hR.g (k := 38) (a := 532) (by decide) | exact (a_up_ne (by omega)).trans (hR.g (k := 38) (a := 532) (by decide)) | exact (a_up_ne (by omega)).trans ((a_up_ne (by omega)).trans (hR.g (k := 38) (a := 532) (by decide))) | exact (a_up_ne (by omega)).trans ((a_up_ne (by omega)).trans ((a_up_ne (by omega)).trans (hR.g (k := 38) (a := 532) (by decide)))) | exact (a_up_ne (by omega)).trans ((a_up_ne (by omega)).trans ((a_up_ne (by omega)).trans ((a_up_ne (by omega)).trans (hR.g (k := 38) (a := 532) (by decide))))) | exact (a_up_ne (by omega)).trans ((a_up_ne (by omega)).trans ((a_up_ne (by omega)).trans ((a_up_ne (by omega)).trans ((a_up_ne (by omega)).trans (hR.g (k := 38) (a := 532) (by decide)))))) | exact (a_up_ne (by omega)).trans ((a_up_ne (by omega)).trans ((a_up_ne (by omega)).trans ((a_up_ne (by omega)).trans ((a_up_ne (by omega)).trans ((a_up_ne (by omega)).trans (hR.g (k := 38) (a := 532) (by decide)))))))) ?_
            refine R_iload_2 dX12_goOn_147 ?_
            refine R_dup2_11 dX12_goOn_148 rfl rfl ?_
            refine R_ialdE dX12_goOn_149 sh_532 rfl (by omega) (by decide) ((a_up_ne (Or.inl (by decide))).trans w1) ?_
            refine R_iconst (v := 1) dX12_goOn_150 (by decide) ?_
            refine R_iadd dX12_goOn_151 ?_
            rw [nI_1]
            refine R_iastE dX12_goOn_152 sh_532 rfl (by omega) (by decide) ?_
            refine R_goto 313 dX12_goOn_153 (by decide) ?_
            refine R_iload_2 dX12_goOn_313 ?_
            refine R_iret rfl dX12_goOn_314 (by first | exact absurd c95 (by decide) | exact absurd rfl c95 | exact absurd c100 (by decide) | exact absurd rfl c100 | exact absurd c129 (by decide) | exact absurd rfl c129 | exact ⟨rfl, rfl, ⟨((a_up_ne (Or.inl (by decide))).trans ((a_up_ne (Or.inl (by decide))).trans w0)), (a_up_self _ _ _ _), ((a_up_ne (Or.inl (by decide))).trans ((a_up_ne (Or.inl (by decide))).trans w2)), ((a_up_ne (Or.inl (by decide))).trans ((a_up_ne (Or.inl (by decide))).trans w3)), ((a_up_ne (Or.inl (by decide))).trans ((a_up_self _ _ _ _).trans (congrArg (fun z => Value.int (nI z)) (by first | exact go_b1 hz hb | exact go_b2 hd hb | exact go_b3 hz hb | exact go_b4 c124 hb))))⟩, (FrLv.u (by decide) (by decide)).trans (FrLv.u (by decide) (by decide))⟩)
      · refine R_iload_7 dX12_goOn_98 ?_
        refine R_if_eq 112 dX12_goOn_100 (by decide) (fun c100 => ?_) (fun c100 => ?_)
        · refine R_aload_0 dX12_goOn_112 ?_
          refine gfX12_108 rfl dX12_goOn_113 sh_504 (by first | exact hR.g (k := 41) (a := 535) (by decide) | exact (a_up_ne (by omega)).trans (hR.g (k := 41) (a := 535) (by decide)) | exact (a_up_ne (by omega)).trans ((a_up_ne (by omega)).trans (hR.g (k := 41) (a := 535) (by decide))) | exact (a_up_ne (by omega)).trans ((a_up_ne (by omega)).trans ((a_up_ne (by omega)).trans (hR.g (k := 41) (a := 535) (by decide)))) | exact (a_up_ne (by omega)).trans ((a_up_ne (by omega)).trans ((a_up_ne (by omega)).trans ((a_up_ne (by omega)).trans (hR.g (k := 41) (a := 535) (by decide))))) | exact (a_up_ne (by omega)).trans ((a_up_ne (by omega)).trans ((a_up_ne (by omega)).trans ((a_up_ne (by omega)).trans ((a_up_ne (by omega)).trans (hR.g (k := 41) (a := 535) (by decide)))))) | exact (a_up_ne (by omega)).trans ((a_up_ne (by omega)).trans ((a_up_ne (by omega)).trans ((a_up_ne (by omega)).trans ((a_up_ne (by omega)).trans ((a_up_ne (by omega)).trans (hR.g (k := 41) (a := 535) (by decide)))))))) ?_
          refine R_iload_2 dX12_goOn_116 ?_
          refine R_ialdE dX12_goOn_117 sh_535 rfl (by omega) (by decide) w4 ?_
          refine R_aload_0 dX12_goOn_118 ?_
          refine gfX12_102 rfl dX12_goOn_119 sh_504 (by first | exact hR.g (k := 39) (a := 533) (by decide) | exact (a_up_ne (by omega)).trans (hR.g (k := 39) (a := 533) (by decide)) | exact (a_up_ne (by omega)).trans ((a_up_ne (by omega)).trans (hR.g (k := 39) (a := 533) (by decide))) | exact (a_up_ne (by omega)).trans ((a_up_ne (by omega)).trans ((a_up_ne (by omega)).trans (hR.g (k := 39) (a := 533) (by decide)))) | exact (a_up_ne (by omega)).trans ((a_up_ne (by omega)).trans ((a_up_ne (by omega)).trans ((a_up_ne (by omega)).trans (hR.g (k := 39) (a := 533) (by decide))))) | exact (a_up_ne (by omega)).trans ((a_up_ne (by omega)).trans ((a_up_ne (by omega)).trans ((a_up_ne (by omega)).trans ((a_up_ne (by omega)).trans (hR.g (k := 39) (a := 533) (by decide)))))) | exact (a_up_ne (by omega)).trans ((a_up_ne (by omega)).trans ((a_up_ne (by omega)).trans ((a_up_ne (by omega)).trans ((a_up_ne (by omega)).trans ((a_up_ne (by omega)).trans (hR.g (k := 39) (a := 533) (by decide)))))))) ?_
          refine R_iload_2 dX12_goOn_122 ?_
          refine R_ialdE dX12_goOn_123 sh_533 rfl (by omega) (by decide) w2 ?_
          refine R_icmp_ne 136 dX12_goOn_124 (by decide) (fun c124 => ?_) (fun c124 => ?_)
          · 
            refine R_aload_0 dX12_goOn_136 ?_
            refine gfX12_108 rfl dX12_goOn_137 sh_504 (by first | exact hR.g (k := 41) (a := 535) (by decide) | exact (a_up_ne (by omega)).trans (hR.g (k := 41) (a := 535) (by decide)) | exact (a_up_ne (by omega)).trans ((a_up_ne (by omega)).trans (hR.g (k := 41) (a := 535) (by decide))) | exact (a_up_ne (by omega)).trans ((a_up_ne (by omega)).trans ((a_up_ne (by omega)).trans (hR.g (k := 41) (a := 535) (by decide)))) | exact (a_up_ne (by omega)).trans ((a_up_ne (by omega)).trans ((a_up_ne (by omega)).trans ((a_up_ne (by omega)).trans (hR.g (k := 41) (a := 535) (by decide))))) | exact (a_up_ne (by omega)).trans ((a_up_ne (by omega)).trans ((a_up_ne (by omega)).trans ((a_up_ne (by omega)).trans ((a_up_ne (by omega)).trans (hR.g (k := 41) (a := 535) (by decide)))))) | exact (a_up_ne (by omega)).trans ((a_up_ne (by omega)).trans ((a_up_ne (by omega)).trans ((a_up_ne (by omega)).trans ((a_up_ne (by omega)).trans ((a_up_ne (by omega)).trans (hR.g (k := 41) (a := 535) (by decide)))))))) ?_
            refine R_iload_2 dX12_goOn_140 ?_
            refine R_ialdE dX12_goOn_141 sh_535 rfl (by omega) (by decide) w4 ?_
            refine R_iastE dX12_goOn_142 sh_535 rfl (by omega) (by decide) ?_
            refine R_aload_0 dX12_goOn_143 ?_
            refine gfX12_99 rfl dX12_goOn_144 sh_504 (by first | exact hR.g (k := 38) (a := 532) (by decide) | exact (a_up_ne (by omega)).trans (hR.g (k := 38) (a := 532) (by decide)) | exact (a_up_ne (by omega)).trans ((a_up_ne (by omega)).trans (hR.g (k := 38) (a := 532) (by decide))) | exact (a_up_ne (by omega)).trans ((a_up_ne (by omega)).trans ((a_up_ne (by omega)).trans (hR.g (k := 38) (a := 532) (by decide)))) | exact (a_up_ne (by omega)).trans ((a_up_ne (by omega)).trans ((a_up_ne (by omega)).trans ((a_up_ne (by omega)).trans (hR.g (k := 38) (a := 532) (by decide))))) | exact (a_up_ne (by omega)).trans ((a_up_ne (by omega)).trans ((a_up_ne (by omega)).trans ((a_up_ne (by omega)).trans ((a_up_ne (by omega)).trans (hR.g (k := 38) (a := 532) (by decide)))))) | exact (a_up_ne (by omega)).trans ((a_up_ne (by omega)).trans ((a_up_ne (by omega)).trans ((a_up_ne (by omega)).trans ((a_up_ne (by omega)).trans ((a_up_ne (by omega)).trans (hR.g (k := 38) (a := 532) (by decide)))))))) ?_
            refine R_iload_2 dX12_goOn_147 ?_
            refine R_dup2_11 dX12_goOn_148 rfl rfl ?_
            refine R_ialdE dX12_goOn_149 sh_532 rfl (by omega) (by decide) ((a_up_ne (Or.inl (by decide))).trans w1) ?_
            refine R_iconst (v := 1) dX12_goOn_150 (by decide) ?_
            refine R_iadd dX12_goOn_151 ?_
            rw [nI_1]
            refine R_iastE dX12_goOn_152 sh_532 rfl (by omega) (by decide) ?_
            refine R_goto 313 dX12_goOn_153 (by decide) ?_
            refine R_iload_2 dX12_goOn_313 ?_
            refine R_iret rfl dX12_goOn_314 (by first | exact absurd c95 (by decide) | exact absurd rfl c95 | exact absurd c100 (by decide) | exact absurd rfl c100 | exact absurd c129 (by decide) | exact absurd rfl c129 | exact ⟨rfl, rfl, ⟨((a_up_ne (Or.inl (by decide))).trans ((a_up_ne (Or.inl (by decide))).trans w0)), (a_up_self _ _ _ _), ((a_up_ne (Or.inl (by decide))).trans ((a_up_ne (Or.inl (by decide))).trans w2)), ((a_up_ne (Or.inl (by decide))).trans ((a_up_ne (Or.inl (by decide))).trans w3)), ((a_up_ne (Or.inl (by decide))).trans ((a_up_self _ _ _ _).trans (congrArg (fun z => Value.int (nI z)) (by first | exact go_b1 hz hb | exact go_b2 hd hb | exact go_b3 hz hb | exact go_b4 c124 hb))))⟩, (FrLv.u (by decide) (by decide)).trans (FrLv.u (by decide) (by decide))⟩)
          · have hd : dd = dp := (nI_eq (by omega) (by omega)).1 c124
            refine R_iload_7 dX12_goOn_127 ?_
            refine R_if_ne 136 dX12_goOn_129 (by decide) (fun c129 => ?_) (fun c129 => ?_)
            · 
              refine R_aload_0 dX12_goOn_136 ?_
              refine gfX12_108 rfl dX12_goOn_137 sh_504 (by first | exact hR.g (k := 41) (a := 535) (by decide) | exact (a_up_ne (by omega)).trans (hR.g (k := 41) (a := 535) (by decide)) | exact (a_up_ne (by omega)).trans ((a_up_ne (by omega)).trans (hR.g (k := 41) (a := 535) (by decide))) | exact (a_up_ne (by omega)).trans ((a_up_ne (by omega)).trans ((a_up_ne (by omega)).trans (hR.g (k := 41) (a := 535) (by decide)))) | exact (a_up_ne (by omega)).trans ((a_up_ne (by omega)).trans ((a_up_ne (by omega)).trans ((a_up_ne (by omega)).trans (hR.g (k := 41) (a := 535) (by decide))))) | exact (a_up_ne (by omega)).trans ((a_up_ne (by omega)).trans ((a_up_ne (by omega)).trans ((a_up_ne (by omega)).trans ((a_up_ne (by omega)).trans (hR.g (k := 41) (a := 535) (by decide)))))) | exact (a_up_ne (by omega)).trans ((a_up_ne (by omega)).trans ((a_up_ne (by omega)).trans ((a_up_ne (by omega)).trans ((a_up_ne (by omega)).trans ((a_up_ne (by omega)).trans (hR.g (k := 41) (a := 535) (by decide)))))))) ?_
              refine R_iload_2 dX12_goOn_140 ?_
              refine R_ialdE dX12_goOn_141 sh_535 rfl (by omega) (by decide) w4 ?_
              refine R_iastE dX12_goOn_142 sh_535 rfl (by omega) (by decide) ?_
              refine R_aload_0 dX12_goOn_143 ?_
              refine gfX12_99 rfl dX12_goOn_144 sh_504 (by first | exact hR.g (k := 38) (a := 532) (by decide) | exact (a_up_ne (by omega)).trans (hR.g (k := 38) (a := 532) (by decide)) | exact (a_up_ne (by omega)).trans ((a_up_ne (by omega)).trans (hR.g (k := 38) (a := 532) (by decide))) | exact (a_up_ne (by omega)).trans ((a_up_ne (by omega)).trans ((a_up_ne (by omega)).trans (hR.g (k := 38) (a := 532) (by decide)))) | exact (a_up_ne (by omega)).trans ((a_up_ne (by omega)).trans ((a_up_ne (by omega)).trans ((a_up_ne (by omega)).trans (hR.g (k := 38) (a := 532) (by decide))))) | exact (a_up_ne (by omega)).trans ((a_up_ne (by omega)).trans ((a_up_ne (by omega)).trans ((a_up_ne (by omega)).trans ((a_up_ne (by omega)).trans (hR.g (k := 38) (a := 532) (by decide)))))) | exact (a_up_ne (by omega)).trans ((a_up_ne (by omega)).trans ((a_up_ne (by omega)).trans ((a_up_ne (by omega)).trans ((a_up_ne (by omega)).trans ((a_up_ne (by omega)).trans (hR.g (k := 38) (a := 532) (by decide)))))))) ?_
              refine R_iload_2 dX12_goOn_147 ?_
              refine R_dup2_11 dX12_goOn_148 rfl rfl ?_
              refine R_ialdE dX12_goOn_149 sh_532 rfl (by omega) (by decide) ((a_up_ne (Or.inl (by decide))).trans w1) ?_
              refine R_iconst (v := 1) dX12_goOn_150 (by decide) ?_
              refine R_iadd dX12_goOn_151 ?_
              rw [nI_1]
              refine R_iastE dX12_goOn_152 sh_532 rfl (by omega) (by decide) ?_
              refine R_goto 313 dX12_goOn_153 (by decide) ?_
              refine R_iload_2 dX12_goOn_313 ?_
              refine R_iret rfl dX12_goOn_314 (by first | exact absurd c95 (by decide) | exact absurd rfl c95 | exact absurd c100 (by decide) | exact absurd rfl c100 | exact absurd c129 (by decide) | exact absurd rfl c129 | exact ⟨rfl, rfl, ⟨((a_up_ne (Or.inl (by decide))).trans ((a_up_ne (Or.inl (by decide))).trans w0)), (a_up_self _ _ _ _), ((a_up_ne (Or.inl (by decide))).trans ((a_up_ne (Or.inl (by decide))).trans w2)), ((a_up_ne (Or.inl (by decide))).trans ((a_up_ne (Or.inl (by decide))).trans w3)), ((a_up_ne (Or.inl (by decide))).trans ((a_up_self _ _ _ _).trans (congrArg (fun z => Value.int (nI z)) (by first | exact go_b1 hz hb | exact go_b2 hd hb | exact go_b3 hz hb | exact go_b4 c124 hb))))⟩, (FrLv.u (by decide) (by decide)).trans (FrLv.u (by decide) (by decide))⟩)
            · refine R_iconst (v := 0) dX12_goOn_132 (by decide) ?_
              refine R_goto 142 dX12_goOn_133 (by decide) ?_
              refine R_iastE dX12_goOn_142 sh_535 rfl (by omega) (by decide) ?_
              refine R_aload_0 dX12_goOn_143 ?_
              refine gfX12_99 rfl dX12_goOn_144 sh_504 (by first | exact hR.g (k := 38) (a := 532) (by decide) | exact (a_up_ne (by omega)).trans (hR.g (k := 38) (a := 532) (by decide)) | exact (a_up_ne (by omega)).trans ((a_up_ne (by omega)).trans (hR.g (k := 38) (a := 532) (by decide))) | exact (a_up_ne (by omega)).trans ((a_up_ne (by omega)).trans ((a_up_ne (by omega)).trans (hR.g (k := 38) (a := 532) (by decide)))) | exact (a_up_ne (by omega)).trans ((a_up_ne (by omega)).trans ((a_up_ne (by omega)).trans ((a_up_ne (by omega)).trans (hR.g (k := 38) (a := 532) (by decide))))) | exact (a_up_ne (by omega)).trans ((a_up_ne (by omega)).trans ((a_up_ne (by omega)).trans ((a_up_ne (by omega)).trans ((a_up_ne (by omega)).trans (hR.g (k := 38) (a := 532) (by decide)))))) | exact (a_up_ne (by omega)).trans ((a_up_ne (by omega)).trans ((a_up_ne (by omega)).trans ((a_up_ne (by omega)).trans ((a_up_ne (by omega)).trans ((a_up_ne (by omega)).trans (hR.g (k := 38) (a := 532) (by decide)))))))) ?_
              refine R_iload_2 dX12_goOn_147 ?_
              refine R_dup2_11 dX12_goOn_148 rfl rfl ?_
              refine R_ialdE dX12_goOn_149 sh_532 rfl (by omega) (by decide) ((a_up_ne (Or.inl (by decide))).trans w1) ?_
              refine R_iconst (v := 1) dX12_goOn_150 (by decide) ?_
              refine R_iadd dX12_goOn_151 ?_
              rw [nI_1]
              refine R_iastE dX12_goOn_152 sh_532 rfl (by omega) (by decide) ?_
              refine R_goto 313 dX12_goOn_153 (by decide) ?_
              refine R_iload_2 dX12_goOn_313 ?_
              refine R_iret rfl dX12_goOn_314 (by first | exact absurd c95 (by decide) | exact absurd rfl c95 | exact absurd c100 (by decide) | exact absurd rfl c100 | exact absurd c129 (by decide) | exact absurd rfl c129 | exact ⟨rfl, rfl, ⟨((a_up_ne (Or.inl (by decide))).trans ((a_up_ne (Or.inl (by decide))).trans w0)), (a_up_self _ _ _ _), ((a_up_ne (Or.inl (by decide))).trans ((a_up_ne (Or.inl (by decide))).trans w2)), ((a_up_ne (Or.inl (by decide))).trans ((a_up_ne (Or.inl (by decide))).trans w3)), ((a_up_ne (Or.inl (by decide))).trans ((a_up_self _ _ _ _).trans (congrArg (fun z => Value.int (nI z)) (by first | exact go_b1 hz hb | exact go_b2 hd hb | exact go_b3 hz hb | exact go_b4 c124 hb))))⟩, (FrLv.u (by decide) (by decide)).trans (FrLv.u (by decide) (by decide))⟩)
        · refine R_aload_0 dX12_goOn_103 ?_
          refine gfX12_102 rfl dX12_goOn_104 sh_504 (by first | exact hR.g (k := 39) (a := 533) (by decide) | exact (a_up_ne (by omega)).trans (hR.g (k := 39) (a := 533) (by decide)) | exact (a_up_ne (by omega)).trans ((a_up_ne (by omega)).trans (hR.g (k := 39) (a := 533) (by decide))) | exact (a_up_ne (by omega)).trans ((a_up_ne (by omega)).trans ((a_up_ne (by omega)).trans (hR.g (k := 39) (a := 533) (by decide)))) | exact (a_up_ne (by omega)).trans ((a_up_ne (by omega)).trans ((a_up_ne (by omega)).trans ((a_up_ne (by omega)).trans (hR.g (k := 39) (a := 533) (by decide))))) | exact (a_up_ne (by omega)).trans ((a_up_ne (by omega)).trans ((a_up_ne (by omega)).trans ((a_up_ne (by omega)).trans ((a_up_ne (by omega)).trans (hR.g (k := 39) (a := 533) (by decide)))))) | exact (a_up_ne (by omega)).trans ((a_up_ne (by omega)).trans ((a_up_ne (by omega)).trans ((a_up_ne (by omega)).trans ((a_up_ne (by omega)).trans ((a_up_ne (by omega)).trans (hR.g (k := 39) (a := 533) (by decide)))))))) ?_
          refine R_iload_2 dX12_goOn_107 ?_
          refine R_ialdE dX12_goOn_108 sh_533 rfl (by omega) (by decide) w2 ?_
          refine R_goto 142 dX12_goOn_109 (by decide) ?_
          refine R_iastE dX12_goOn_142 sh_535 rfl (by omega) (by decide) ?_
          refine R_aload_0 dX12_goOn_143 ?_
          refine gfX12_99 rfl dX12_goOn_144 sh_504 (by first | exact hR.g (k := 38) (a := 532) (by decide) | exact (a_up_ne (by omega)).trans (hR.g (k := 38) (a := 532) (by decide)) | exact (a_up_ne (by omega)).trans ((a_up_ne (by omega)).trans (hR.g (k := 38) (a := 532) (by decide))) | exact (a_up_ne (by omega)).trans ((a_up_ne (by omega)).trans ((a_up_ne (by omega)).trans (hR.g (k := 38) (a := 532) (by decide)))) | exact (a_up_ne (by omega)).trans ((a_up_ne (by omega)).trans ((a_up_ne (by omega)).trans ((a_up_ne (by omega)).trans (hR.g (k := 38) (a := 532) (by decide))))) | exact (a_up_ne (by omega)).trans ((a_up_ne (by omega)).trans ((a_up_ne (by omega)).trans ((a_up_ne (by omega)).trans ((a_up_ne (by omega)).trans (hR.g (k := 38) (a := 532) (by decide)))))) | exact (a_up_ne (by omega)).trans ((a_up_ne (by omega)).trans ((a_up_ne (by omega)).trans ((a_up_ne (by omega)).trans ((a_up_ne (by omega)).trans ((a_up_ne (by omega)).trans (hR.g (k := 38) (a := 532) (by decide)))))))) ?_
          refine R_iload_2 dX12_goOn_147 ?_
          refine R_dup2_11 dX12_goOn_148 rfl rfl ?_
          refine R_ialdE dX12_goOn_149 sh_532 rfl (by omega) (by decide) ((a_up_ne (Or.inl (by decide))).trans w1) ?_
          refine R_iconst (v := 1) dX12_goOn_150 (by decide) ?_
          refine R_iadd dX12_goOn_151 ?_
          rw [nI_1]
          refine R_iastE dX12_goOn_152 sh_532 rfl (by omega) (by decide) ?_
          refine R_goto 313 dX12_goOn_153 (by decide) ?_
          refine R_iload_2 dX12_goOn_313 ?_
          refine R_iret rfl dX12_goOn_314 (by first | exact absurd c95 (by decide) | exact absurd rfl c95 | exact absurd c100 (by decide) | exact absurd rfl c100 | exact absurd c129 (by decide) | exact absurd rfl c129 | exact ⟨rfl, rfl, ⟨((a_up_ne (Or.inl (by decide))).trans ((a_up_ne (Or.inl (by decide))).trans w0)), (a_up_self _ _ _ _), ((a_up_ne (Or.inl (by decide))).trans ((a_up_ne (Or.inl (by decide))).trans w2)), ((a_up_ne (Or.inl (by decide))).trans ((a_up_ne (Or.inl (by decide))).trans w3)), ((a_up_ne (Or.inl (by decide))).trans ((a_up_self _ _ _ _).trans (congrArg (fun z => Value.int (nI z)) (by first | exact go_b1 hz hb | exact go_b2 hd hb | exact go_b3 hz hb | exact go_b4 c124 hb))))⟩, (FrLv.u (by decide) (by decide)).trans (FrLv.u (by decide) (by decide))⟩)
    · have hb : fi.testBit dp = true := bI_ne (fun z => by rw [c78] at z; exact absurd z (by decide))
      refine R_iconst (v := 1) dX12_goOn_81 (by decide) ?_
      refine R_goto 86 dX12_goOn_82 (by decide) ?_
      refine R_istore_7 rfl (by decide) dX12_goOn_86 ?_
      refine R_aload_0 dX12_goOn_88 ?_
      refine gfX12_108 rfl dX12_goOn_89 sh_504 (by first | exact hR.g (k := 41) (a := 535) (by decide) | exact (a_up_ne (by omega)).trans (hR.g (k := 41) (a := 535) (by decide)) | exact (a_up_ne (by omega)).trans ((a_up_ne (by omega)).trans (hR.g (k := 41) (a := 535) (by decide))) | exact (a_up_ne (by omega)).trans ((a_up_ne (by omega)).trans ((a_up_ne (by omega)).trans (hR.g (k := 41) (a := 535) (by decide)))) | exact (a_up_ne (by omega)).trans ((a_up_ne (by omega)).trans ((a_up_ne (by omega)).trans ((a_up_ne (by omega)).trans (hR.g (k := 41) (a := 535) (by decide))))) | exact (a_up_ne (by omega)).trans ((a_up_ne (by omega)).trans ((a_up_ne (by omega)).trans ((a_up_ne (by omega)).trans ((a_up_ne (by omega)).trans (hR.g (k := 41) (a := 535) (by decide)))))) | exact (a_up_ne (by omega)).trans ((a_up_ne (by omega)).trans ((a_up_ne (by omega)).trans ((a_up_ne (by omega)).trans ((a_up_ne (by omega)).trans ((a_up_ne (by omega)).trans (hR.g (k := 41) (a := 535) (by decide)))))))) ?_
      refine R_iload_2 dX12_goOn_92 ?_
      refine R_iload_6 dX12_goOn_93 ?_
      refine R_if_eq 112 dX12_goOn_95 (by decide) (fun c95 => ?_) (fun c95 => ?_)
      · refine R_aload_0 dX12_goOn_112 ?_
        refine gfX12_108 rfl dX12_goOn_113 sh_504 (by first | exact hR.g (k := 41) (a := 535) (by decide) | exact (a_up_ne (by omega)).trans (hR.g (k := 41) (a := 535) (by decide)) | exact (a_up_ne (by omega)).trans ((a_up_ne (by omega)).trans (hR.g (k := 41) (a := 535) (by decide))) | exact (a_up_ne (by omega)).trans ((a_up_ne (by omega)).trans ((a_up_ne (by omega)).trans (hR.g (k := 41) (a := 535) (by decide)))) | exact (a_up_ne (by omega)).trans ((a_up_ne (by omega)).trans ((a_up_ne (by omega)).trans ((a_up_ne (by omega)).trans (hR.g (k := 41) (a := 535) (by decide))))) | exact (a_up_ne (by omega)).trans ((a_up_ne (by omega)).trans ((a_up_ne (by omega)).trans ((a_up_ne (by omega)).trans ((a_up_ne (by omega)).trans (hR.g (k := 41) (a := 535) (by decide)))))) | exact (a_up_ne (by omega)).trans ((a_up_ne (by omega)).trans ((a_up_ne (by omega)).trans ((a_up_ne (by omega)).trans ((a_up_ne (by omega)).trans ((a_up_ne (by omega)).trans (hR.g (k := 41) (a := 535) (by decide)))))))) ?_
        refine R_iload_2 dX12_goOn_116 ?_
        refine R_ialdE dX12_goOn_117 sh_535 rfl (by omega) (by decide) w4 ?_
        refine R_aload_0 dX12_goOn_118 ?_
        refine gfX12_102 rfl dX12_goOn_119 sh_504 (by first | exact hR.g (k := 39) (a := 533) (by decide) | exact (a_up_ne (by omega)).trans (hR.g (k := 39) (a := 533) (by decide)) | exact (a_up_ne (by omega)).trans ((a_up_ne (by omega)).trans (hR.g (k := 39) (a := 533) (by decide))) | exact (a_up_ne (by omega)).trans ((a_up_ne (by omega)).trans ((a_up_ne (by omega)).trans (hR.g (k := 39) (a := 533) (by decide)))) | exact (a_up_ne (by omega)).trans ((a_up_ne (by omega)).trans ((a_up_ne (by omega)).trans ((a_up_ne (by omega)).trans (hR.g (k := 39) (a := 533) (by decide))))) | exact (a_up_ne (by omega)).trans ((a_up_ne (by omega)).trans ((a_up_ne (by omega)).trans ((a_up_ne (by omega)).trans ((a_up_ne (by omega)).trans (hR.g (k := 39) (a := 533) (by decide)))))) | exact (a_up_ne (by omega)).trans ((a_up_ne (by omega)).trans ((a_up_ne (by omega)).trans ((a_up_ne (by omega)).trans ((a_up_ne (by omega)).trans ((a_up_ne (by omega)).trans (hR.g (k := 39) (a := 533) (by decide)))))))) ?_
        refine R_iload_2 dX12_goOn_122 ?_
        refine R_ialdE dX12_goOn_123 sh_533 rfl (by omega) (by decide) w2 ?_
        refine R_icmp_ne 136 dX12_goOn_124 (by decide) (fun c124 => ?_) (fun c124 => ?_)
        · 
          refine R_aload_0 dX12_goOn_136 ?_
          refine gfX12_108 rfl dX12_goOn_137 sh_504 (by first | exact hR.g (k := 41) (a := 535) (by decide) | exact (a_up_ne (by omega)).trans (hR.g (k := 41) (a := 535) (by decide)) | exact (a_up_ne (by omega)).trans ((a_up_ne (by omega)).trans (hR.g (k := 41) (a := 535) (by decide))) | exact (a_up_ne (by omega)).trans ((a_up_ne (by omega)).trans ((a_up_ne (by omega)).trans (hR.g (k := 41) (a := 535) (by decide)))) | exact (a_up_ne (by omega)).trans ((a_up_ne (by omega)).trans ((a_up_ne (by omega)).trans ((a_up_ne (by omega)).trans (hR.g (k := 41) (a := 535) (by decide))))) | exact (a_up_ne (by omega)).trans ((a_up_ne (by omega)).trans ((a_up_ne (by omega)).trans ((a_up_ne (by omega)).trans ((a_up_ne (by omega)).trans (hR.g (k := 41) (a := 535) (by decide)))))) | exact (a_up_ne (by omega)).trans ((a_up_ne (by omega)).trans ((a_up_ne (by omega)).trans ((a_up_ne (by omega)).trans ((a_up_ne (by omega)).trans ((a_up_ne (by omega)).trans (hR.g (k := 41) (a := 535) (by decide)))))))) ?_
          refine R_iload_2 dX12_goOn_140 ?_
          refine R_ialdE dX12_goOn_141 sh_535 rfl (by omega) (by decide) w4 ?_
          refine R_iastE dX12_goOn_142 sh_535 rfl (by omega) (by decide) ?_
          refine R_aload_0 dX12_goOn_143 ?_
          refine gfX12_99 rfl dX12_goOn_144 sh_504 (by first | exact hR.g (k := 38) (a := 532) (by decide) | exact (a_up_ne (by omega)).trans (hR.g (k := 38) (a := 532) (by decide)) | exact (a_up_ne (by omega)).trans ((a_up_ne (by omega)).trans (hR.g (k := 38) (a := 532) (by decide))) | exact (a_up_ne (by omega)).trans ((a_up_ne (by omega)).trans ((a_up_ne (by omega)).trans (hR.g (k := 38) (a := 532) (by decide)))) | exact (a_up_ne (by omega)).trans ((a_up_ne (by omega)).trans ((a_up_ne (by omega)).trans ((a_up_ne (by omega)).trans (hR.g (k := 38) (a := 532) (by decide))))) | exact (a_up_ne (by omega)).trans ((a_up_ne (by omega)).trans ((a_up_ne (by omega)).trans ((a_up_ne (by omega)).trans ((a_up_ne (by omega)).trans (hR.g (k := 38) (a := 532) (by decide)))))) | exact (a_up_ne (by omega)).trans ((a_up_ne (by omega)).trans ((a_up_ne (by omega)).trans ((a_up_ne (by omega)).trans ((a_up_ne (by omega)).trans ((a_up_ne (by omega)).trans (hR.g (k := 38) (a := 532) (by decide)))))))) ?_
          refine R_iload_2 dX12_goOn_147 ?_
          refine R_dup2_11 dX12_goOn_148 rfl rfl ?_
          refine R_ialdE dX12_goOn_149 sh_532 rfl (by omega) (by decide) ((a_up_ne (Or.inl (by decide))).trans w1) ?_
          refine R_iconst (v := 1) dX12_goOn_150 (by decide) ?_
          refine R_iadd dX12_goOn_151 ?_
          rw [nI_1]
          refine R_iastE dX12_goOn_152 sh_532 rfl (by omega) (by decide) ?_
          refine R_goto 313 dX12_goOn_153 (by decide) ?_
          refine R_iload_2 dX12_goOn_313 ?_
          refine R_iret rfl dX12_goOn_314 (by first | exact absurd c95 (by decide) | exact absurd rfl c95 | exact absurd c100 (by decide) | exact absurd rfl c100 | exact absurd c129 (by decide) | exact absurd rfl c129 | exact ⟨rfl, rfl, ⟨((a_up_ne (Or.inl (by decide))).trans ((a_up_ne (Or.inl (by decide))).trans w0)), (a_up_self _ _ _ _), ((a_up_ne (Or.inl (by decide))).trans ((a_up_ne (Or.inl (by decide))).trans w2)), ((a_up_ne (Or.inl (by decide))).trans ((a_up_ne (Or.inl (by decide))).trans w3)), ((a_up_ne (Or.inl (by decide))).trans ((a_up_self _ _ _ _).trans (congrArg (fun z => Value.int (nI z)) (by first | exact go_b1 hz hb | exact go_b2 hd hb | exact go_b3 hz hb | exact go_b4 c124 hb))))⟩, (FrLv.u (by decide) (by decide)).trans (FrLv.u (by decide) (by decide))⟩)
        · have hd : dd = dp := (nI_eq (by omega) (by omega)).1 c124
          refine R_iload_7 dX12_goOn_127 ?_
          refine R_if_ne 136 dX12_goOn_129 (by decide) (fun c129 => ?_) (fun c129 => ?_)
          · 
            refine R_aload_0 dX12_goOn_136 ?_
            refine gfX12_108 rfl dX12_goOn_137 sh_504 (by first | exact hR.g (k := 41) (a := 535) (by decide) | exact (a_up_ne (by omega)).trans (hR.g (k := 41) (a := 535) (by decide)) | exact (a_up_ne (by omega)).trans ((a_up_ne (by omega)).trans (hR.g (k := 41) (a := 535) (by decide))) | exact (a_up_ne (by omega)).trans ((a_up_ne (by omega)).trans ((a_up_ne (by omega)).trans (hR.g (k := 41) (a := 535) (by decide)))) | exact (a_up_ne (by omega)).trans ((a_up_ne (by omega)).trans ((a_up_ne (by omega)).trans ((a_up_ne (by omega)).trans (hR.g (k := 41) (a := 535) (by decide))))) | exact (a_up_ne (by omega)).trans ((a_up_ne (by omega)).trans ((a_up_ne (by omega)).trans ((a_up_ne (by omega)).trans ((a_up_ne (by omega)).trans (hR.g (k := 41) (a := 535) (by decide)))))) | exact (a_up_ne (by omega)).trans ((a_up_ne (by omega)).trans ((a_up_ne (by omega)).trans ((a_up_ne (by omega)).trans ((a_up_ne (by omega)).trans ((a_up_ne (by omega)).trans (hR.g (k := 41) (a := 535) (by decide)))))))) ?_
            refine R_iload_2 dX12_goOn_140 ?_
            refine R_ialdE dX12_goOn_141 sh_535 rfl (by omega) (by decide) w4 ?_
            refine R_iastE dX12_goOn_142 sh_535 rfl (by omega) (by decide) ?_
            refine R_aload_0 dX12_goOn_143 ?_
            refine gfX12_99 rfl dX12_goOn_144 sh_504 (by first | exact hR.g (k := 38) (a := 532) (by decide) | exact (a_up_ne (by omega)).trans (hR.g (k := 38) (a := 532) (by decide)) | exact (a_up_ne (by omega)).trans ((a_up_ne (by omega)).trans (hR.g (k := 38) (a := 532) (by decide))) | exact (a_up_ne (by omega)).trans ((a_up_ne (by omega)).trans ((a_up_ne (by omega)).trans (hR.g (k := 38) (a := 532) (by decide)))) | exact (a_up_ne (by omega)).trans ((a_up_ne (by omega)).trans ((a_up_ne (by omega)).trans ((a_up_ne (by omega)).trans (hR.g (k := 38) (a := 532) (by decide))))) | exact (a_up_ne (by omega)).trans ((a_up_ne (by omega)).trans ((a_up_ne (by omega)).trans ((a_up_ne (by omega)).trans ((a_up_ne (by omega)).trans (hR.g (k := 38) (a := 532) (by decide)))))) | exact (a_up_ne (by omega)).trans ((a_up_ne (by omega)).trans ((a_up_ne (by omega)).trans ((a_up_ne (by omega)).trans ((a_up_ne (by omega)).trans ((a_up_ne (by omega)).trans (hR.g (k := 38) (a := 532) (by decide)))))))) ?_
            refine R_iload_2 dX12_goOn_147 ?_
            refine R_dup2_11 dX12_goOn_148 rfl rfl ?_
            refine R_ialdE dX12_goOn_149 sh_532 rfl (by omega) (by decide) ((a_up_ne (Or.inl (by decide))).trans w1) ?_
            refine R_iconst (v := 1) dX12_goOn_150 (by decide) ?_
            refine R_iadd dX12_goOn_151 ?_
            rw [nI_1]
            refine R_iastE dX12_goOn_152 sh_532 rfl (by omega) (by decide) ?_
            refine R_goto 313 dX12_goOn_153 (by decide) ?_
            refine R_iload_2 dX12_goOn_313 ?_
            refine R_iret rfl dX12_goOn_314 (by first | exact absurd c95 (by decide) | exact absurd rfl c95 | exact absurd c100 (by decide) | exact absurd rfl c100 | exact absurd c129 (by decide) | exact absurd rfl c129 | exact ⟨rfl, rfl, ⟨((a_up_ne (Or.inl (by decide))).trans ((a_up_ne (Or.inl (by decide))).trans w0)), (a_up_self _ _ _ _), ((a_up_ne (Or.inl (by decide))).trans ((a_up_ne (Or.inl (by decide))).trans w2)), ((a_up_ne (Or.inl (by decide))).trans ((a_up_ne (Or.inl (by decide))).trans w3)), ((a_up_ne (Or.inl (by decide))).trans ((a_up_self _ _ _ _).trans (congrArg (fun z => Value.int (nI z)) (by first | exact go_b1 hz hb | exact go_b2 hd hb | exact go_b3 hz hb | exact go_b4 c124 hb))))⟩, (FrLv.u (by decide) (by decide)).trans (FrLv.u (by decide) (by decide))⟩)
          · refine R_iconst (v := 0) dX12_goOn_132 (by decide) ?_
            refine R_goto 142 dX12_goOn_133 (by decide) ?_
            refine R_iastE dX12_goOn_142 sh_535 rfl (by omega) (by decide) ?_
            refine R_aload_0 dX12_goOn_143 ?_
            refine gfX12_99 rfl dX12_goOn_144 sh_504 (by first | exact hR.g (k := 38) (a := 532) (by decide) | exact (a_up_ne (by omega)).trans (hR.g (k := 38) (a := 532) (by decide)) | exact (a_up_ne (by omega)).trans ((a_up_ne (by omega)).trans (hR.g (k := 38) (a := 532) (by decide))) | exact (a_up_ne (by omega)).trans ((a_up_ne (by omega)).trans ((a_up_ne (by omega)).trans (hR.g (k := 38) (a := 532) (by decide)))) | exact (a_up_ne (by omega)).trans ((a_up_ne (by omega)).trans ((a_up_ne (by omega)).trans ((a_up_ne (by omega)).trans (hR.g (k := 38) (a := 532) (by decide))))) | exact (a_up_ne (by omega)).trans ((a_up_ne (by omega)).trans ((a_up_ne (by omega)).trans ((a_up_ne (by omega)).trans ((a_up_ne (by omega)).trans (hR.g (k := 38) (a := 532) (by decide)))))) | exact (a_up_ne (by omega)).trans ((a_up_ne (by omega)).trans ((a_up_ne (by omega)).trans ((a_up_ne (by omega)).trans ((a_up_ne (by omega)).trans ((a_up_ne (by omega)).trans (hR.g (k := 38) (a := 532) (by decide)))))))) ?_
            refine R_iload_2 dX12_goOn_147 ?_
            refine R_dup2_11 dX12_goOn_148 rfl rfl ?_
            refine R_ialdE dX12_goOn_149 sh_532 rfl (by omega) (by decide) ((a_up_ne (Or.inl (by decide))).trans w1) ?_
            refine R_iconst (v := 1) dX12_goOn_150 (by decide) ?_
            refine R_iadd dX12_goOn_151 ?_
            rw [nI_1]
            refine R_iastE dX12_goOn_152 sh_532 rfl (by omega) (by decide) ?_
            refine R_goto 313 dX12_goOn_153 (by decide) ?_
            refine R_iload_2 dX12_goOn_313 ?_
            refine R_iret rfl dX12_goOn_314 (by first | exact absurd c95 (by decide) | exact absurd rfl c95 | exact absurd c100 (by decide) | exact absurd rfl c100 | exact absurd c129 (by decide) | exact absurd rfl c129 | exact ⟨rfl, rfl, ⟨((a_up_ne (Or.inl (by decide))).trans ((a_up_ne (Or.inl (by decide))).trans w0)), (a_up_self _ _ _ _), ((a_up_ne (Or.inl (by decide))).trans ((a_up_ne (Or.inl (by decide))).trans w2)), ((a_up_ne (Or.inl (by decide))).trans ((a_up_ne (Or.inl (by decide))).trans w3)), ((a_up_ne (Or.inl (by decide))).trans ((a_up_self _ _ _ _).trans (congrArg (fun z => Value.int (nI z)) (by first | exact go_b1 hz hb | exact go_b2 hd hb | exact go_b3 hz hb | exact go_b4 c124 hb))))⟩, (FrLv.u (by decide) (by decide)).trans (FrLv.u (by decide) (by decide))⟩)
      · refine R_iload_7 dX12_goOn_98 ?_
        refine R_if_eq 112 dX12_goOn_100 (by decide) (fun c100 => ?_) (fun c100 => ?_)
        · refine R_aload_0 dX12_goOn_112 ?_
          refine gfX12_108 rfl dX12_goOn_113 sh_504 (by first | exact hR.g (k := 41) (a := 535) (by decide) | exact (a_up_ne (by omega)).trans (hR.g (k := 41) (a := 535) (by decide)) | exact (a_up_ne (by omega)).trans ((a_up_ne (by omega)).trans (hR.g (k := 41) (a := 535) (by decide))) | exact (a_up_ne (by omega)).trans ((a_up_ne (by omega)).trans ((a_up_ne (by omega)).trans (hR.g (k := 41) (a := 535) (by decide)))) | exact (a_up_ne (by omega)).trans ((a_up_ne (by omega)).trans ((a_up_ne (by omega)).trans ((a_up_ne (by omega)).trans (hR.g (k := 41) (a := 535) (by decide))))) | exact (a_up_ne (by omega)).trans ((a_up_ne (by omega)).trans ((a_up_ne (by omega)).trans ((a_up_ne (by omega)).trans ((a_up_ne (by omega)).trans (hR.g (k := 41) (a := 535) (by decide)))))) | exact (a_up_ne (by omega)).trans ((a_up_ne (by omega)).trans ((a_up_ne (by omega)).trans ((a_up_ne (by omega)).trans ((a_up_ne (by omega)).trans ((a_up_ne (by omega)).trans (hR.g (k := 41) (a := 535) (by decide)))))))) ?_
          refine R_iload_2 dX12_goOn_116 ?_
          refine R_ialdE dX12_goOn_117 sh_535 rfl (by omega) (by decide) w4 ?_
          refine R_aload_0 dX12_goOn_118 ?_
          refine gfX12_102 rfl dX12_goOn_119 sh_504 (by first | exact hR.g (k := 39) (a := 533) (by decide) | exact (a_up_ne (by omega)).trans (hR.g (k := 39) (a := 533) (by decide)) | exact (a_up_ne (by omega)).trans ((a_up_ne (by omega)).trans (hR.g (k := 39) (a := 533) (by decide))) | exact (a_up_ne (by omega)).trans ((a_up_ne (by omega)).trans ((a_up_ne (by omega)).trans (hR.g (k := 39) (a := 533) (by decide)))) | exact (a_up_ne (by omega)).trans ((a_up_ne (by omega)).trans ((a_up_ne (by omega)).trans ((a_up_ne (by omega)).trans (hR.g (k := 39) (a := 533) (by decide))))) | exact (a_up_ne (by omega)).trans ((a_up_ne (by omega)).trans ((a_up_ne (by omega)).trans ((a_up_ne (by omega)).trans ((a_up_ne (by omega)).trans (hR.g (k := 39) (a := 533) (by decide)))))) | exact (a_up_ne (by omega)).trans ((a_up_ne (by omega)).trans ((a_up_ne (by omega)).trans ((a_up_ne (by omega)).trans ((a_up_ne (by omega)).trans ((a_up_ne (by omega)).trans (hR.g (k := 39) (a := 533) (by decide)))))))) ?_
          refine R_iload_2 dX12_goOn_122 ?_
          refine R_ialdE dX12_goOn_123 sh_533 rfl (by omega) (by decide) w2 ?_
          refine R_icmp_ne 136 dX12_goOn_124 (by decide) (fun c124 => ?_) (fun c124 => ?_)
          · 
            refine R_aload_0 dX12_goOn_136 ?_
            refine gfX12_108 rfl dX12_goOn_137 sh_504 (by first | exact hR.g (k := 41) (a := 535) (by decide) | exact (a_up_ne (by omega)).trans (hR.g (k := 41) (a := 535) (by decide)) | exact (a_up_ne (by omega)).trans ((a_up_ne (by omega)).trans (hR.g (k := 41) (a := 535) (by decide))) | exact (a_up_ne (by omega)).trans ((a_up_ne (by omega)).trans ((a_up_ne (by omega)).trans (hR.g (k := 41) (a := 535) (by decide)))) | exact (a_up_ne (by omega)).trans ((a_up_ne (by omega)).trans ((a_up_ne (by omega)).trans ((a_up_ne (by omega)).trans (hR.g (k := 41) (a := 535) (by decide))))) | exact (a_up_ne (by omega)).trans ((a_up_ne (by omega)).trans ((a_up_ne (by omega)).trans ((a_up_ne (by omega)).trans ((a_up_ne (by omega)).trans (hR.g (k := 41) (a := 535) (by decide)))))) | exact (a_up_ne (by omega)).trans ((a_up_ne (by omega)).trans ((a_up_ne (by omega)).trans ((a_up_ne (by omega)).trans ((a_up_ne (by omega)).trans ((a_up_ne (by omega)).trans (hR.g (k := 41) (a := 535) (by decide)))))))) ?_
            refine R_iload_2 dX12_goOn_140 ?_
            refine R_ialdE dX12_goOn_141 sh_535 rfl (by omega) (by decide) w4 ?_
            refine R_iastE dX12_goOn_142 sh_535 rfl (by omega) (by decide) ?_
            refine R_aload_0 dX12_goOn_143 ?_
            refine gfX12_99 rfl dX12_goOn_144 sh_504 (by first | exact hR.g (k := 38) (a := 532) (by decide) | exact (a_up_ne (by omega)).trans (hR.g (k := 38) (a := 532) (by decide)) | exact (a_up_ne (by omega)).trans ((a_up_ne (by omega)).trans (hR.g (k := 38) (a := 532) (by decide))) | exact (a_up_ne (by omega)).trans ((a_up_ne (by omega)).trans ((a_up_ne (by omega)).trans (hR.g (k := 38) (a := 532) (by decide)))) | exact (a_up_ne (by omega)).trans ((a_up_ne (by omega)).trans ((a_up_ne (by omega)).trans ((a_up_ne (by omega)).trans (hR.g (k := 38) (a := 532) (by decide))))) | exact (a_up_ne (by omega)).trans ((a_up_ne (by omega)).trans ((a_up_ne (by omega)).trans ((a_up_ne (by omega)).trans ((a_up_ne (by omega)).trans (hR.g (k := 38) (a := 532) (by decide)))))) | exact (a_up_ne (by omega)).trans ((a_up_ne (by omega)).trans ((a_up_ne (by omega)).trans ((a_up_ne (by omega)).trans ((a_up_ne (by omega)).trans ((a_up_ne (by omega)).trans (hR.g (k := 38) (a := 532) (by decide)))))))) ?_
            refine R_iload_2 dX12_goOn_147 ?_
            refine R_dup2_11 dX12_goOn_148 rfl rfl ?_
            refine R_ialdE dX12_goOn_149 sh_532 rfl (by omega) (by decide) ((a_up_ne (Or.inl (by decide))).trans w1) ?_
            refine R_iconst (v := 1) dX12_goOn_150 (by decide) ?_
            refine R_iadd dX12_goOn_151 ?_
            rw [nI_1]
            refine R_iastE dX12_goOn_152 sh_532 rfl (by omega) (by decide) ?_
            refine R_goto 313 dX12_goOn_153 (by decide) ?_
            refine R_iload_2 dX12_goOn_313 ?_
            refine R_iret rfl dX12_goOn_314 (by first | exact absurd c95 (by decide) | exact absurd rfl c95 | exact absurd c100 (by decide) | exact absurd rfl c100 | exact absurd c129 (by decide) | exact absurd rfl c129 | exact ⟨rfl, rfl, ⟨((a_up_ne (Or.inl (by decide))).trans ((a_up_ne (Or.inl (by decide))).trans w0)), (a_up_self _ _ _ _), ((a_up_ne (Or.inl (by decide))).trans ((a_up_ne (Or.inl (by decide))).trans w2)), ((a_up_ne (Or.inl (by decide))).trans ((a_up_ne (Or.inl (by decide))).trans w3)), ((a_up_ne (Or.inl (by decide))).trans ((a_up_self _ _ _ _).trans (congrArg (fun z => Value.int (nI z)) (by first | exact go_b1 hz hb | exact go_b2 hd hb | exact go_b3 hz hb | exact go_b4 c124 hb))))⟩, (FrLv.u (by decide) (by decide)).trans (FrLv.u (by decide) (by decide))⟩)
          · have hd : dd = dp := (nI_eq (by omega) (by omega)).1 c124
            refine R_iload_7 dX12_goOn_127 ?_
            refine R_if_ne 136 dX12_goOn_129 (by decide) (fun c129 => ?_) (fun c129 => ?_)
            · 
              refine R_aload_0 dX12_goOn_136 ?_
              refine gfX12_108 rfl dX12_goOn_137 sh_504 (by first | exact hR.g (k := 41) (a := 535) (by decide) | exact (a_up_ne (by omega)).trans (hR.g (k := 41) (a := 535) (by decide)) | exact (a_up_ne (by omega)).trans ((a_up_ne (by omega)).trans (hR.g (k := 41) (a := 535) (by decide))) | exact (a_up_ne (by omega)).trans ((a_up_ne (by omega)).trans ((a_up_ne (by omega)).trans (hR.g (k := 41) (a := 535) (by decide)))) | exact (a_up_ne (by omega)).trans ((a_up_ne (by omega)).trans ((a_up_ne (by omega)).trans ((a_up_ne (by omega)).trans (hR.g (k := 41) (a := 535) (by decide))))) | exact (a_up_ne (by omega)).trans ((a_up_ne (by omega)).trans ((a_up_ne (by omega)).trans ((a_up_ne (by omega)).trans ((a_up_ne (by omega)).trans (hR.g (k := 41) (a := 535) (by decide)))))) | exact (a_up_ne (by omega)).trans ((a_up_ne (by omega)).trans ((a_up_ne (by omega)).trans ((a_up_ne (by omega)).trans ((a_up_ne (by omega)).trans ((a_up_ne (by omega)).trans (hR.g (k := 41) (a := 535) (by decide)))))))) ?_
              refine R_iload_2 dX12_goOn_140 ?_
              refine R_ialdE dX12_goOn_141 sh_535 rfl (by omega) (by decide) w4 ?_
              refine R_iastE dX12_goOn_142 sh_535 rfl (by omega) (by decide) ?_
              refine R_aload_0 dX12_goOn_143 ?_
              refine gfX12_99 rfl dX12_goOn_144 sh_504 (by first | exact hR.g (k := 38) (a := 532) (by decide) | exact (a_up_ne (by omega)).trans (hR.g (k := 38) (a := 532) (by decide)) | exact (a_up_ne (by omega)).trans ((a_up_ne (by omega)).trans (hR.g (k := 38) (a := 532) (by decide))) | exact (a_up_ne (by omega)).trans ((a_up_ne (by omega)).trans ((a_up_ne (by omega)).trans (hR.g (k := 38) (a := 532) (by decide)))) | exact (a_up_ne (by omega)).trans ((a_up_ne (by omega)).trans ((a_up_ne (by omega)).trans ((a_up_ne (by omega)).trans (hR.g (k := 38) (a := 532) (by decide))))) | exact (a_up_ne (by omega)).trans ((a_up_ne (by omega)).trans ((a_up_ne (by omega)).trans ((a_up_ne (by omega)).trans ((a_up_ne (by omega)).trans (hR.g (k := 38) (a := 532) (by decide)))))) | exact (a_up_ne (by omega)).trans ((a_up_ne (by omega)).trans ((a_up_ne (by omega)).trans ((a_up_ne (by omega)).trans ((a_up_ne (by omega)).trans ((a_up_ne (by omega)).trans (hR.g (k := 38) (a := 532) (by decide)))))))) ?_
              refine R_iload_2 dX12_goOn_147 ?_
              refine R_dup2_11 dX12_goOn_148 rfl rfl ?_
              refine R_ialdE dX12_goOn_149 sh_532 rfl (by omega) (by decide) ((a_up_ne (Or.inl (by decide))).trans w1) ?_
              refine R_iconst (v := 1) dX12_goOn_150 (by decide) ?_
              refine R_iadd dX12_goOn_151 ?_
              rw [nI_1]
              refine R_iastE dX12_goOn_152 sh_532 rfl (by omega) (by decide) ?_
              refine R_goto 313 dX12_goOn_153 (by decide) ?_
              refine R_iload_2 dX12_goOn_313 ?_
              refine R_iret rfl dX12_goOn_314 (by first | exact absurd c95 (by decide) | exact absurd rfl c95 | exact absurd c100 (by decide) | exact absurd rfl c100 | exact absurd c129 (by decide) | exact absurd rfl c129 | exact ⟨rfl, rfl, ⟨((a_up_ne (Or.inl (by decide))).trans ((a_up_ne (Or.inl (by decide))).trans w0)), (a_up_self _ _ _ _), ((a_up_ne (Or.inl (by decide))).trans ((a_up_ne (Or.inl (by decide))).trans w2)), ((a_up_ne (Or.inl (by decide))).trans ((a_up_ne (Or.inl (by decide))).trans w3)), ((a_up_ne (Or.inl (by decide))).trans ((a_up_self _ _ _ _).trans (congrArg (fun z => Value.int (nI z)) (by first | exact go_b1 hz hb | exact go_b2 hd hb | exact go_b3 hz hb | exact go_b4 c124 hb))))⟩, (FrLv.u (by decide) (by decide)).trans (FrLv.u (by decide) (by decide))⟩)
            · refine R_iconst (v := 0) dX12_goOn_132 (by decide) ?_
              refine R_goto 142 dX12_goOn_133 (by decide) ?_
              refine R_iastE dX12_goOn_142 sh_535 rfl (by omega) (by decide) ?_
              refine R_aload_0 dX12_goOn_143 ?_
              refine gfX12_99 rfl dX12_goOn_144 sh_504 (by first | exact hR.g (k := 38) (a := 532) (by decide) | exact (a_up_ne (by omega)).trans (hR.g (k := 38) (a := 532) (by decide)) | exact (a_up_ne (by omega)).trans ((a_up_ne (by omega)).trans (hR.g (k := 38) (a := 532) (by decide))) | exact (a_up_ne (by omega)).trans ((a_up_ne (by omega)).trans ((a_up_ne (by omega)).trans (hR.g (k := 38) (a := 532) (by decide)))) | exact (a_up_ne (by omega)).trans ((a_up_ne (by omega)).trans ((a_up_ne (by omega)).trans ((a_up_ne (by omega)).trans (hR.g (k := 38) (a := 532) (by decide))))) | exact (a_up_ne (by omega)).trans ((a_up_ne (by omega)).trans ((a_up_ne (by omega)).trans ((a_up_ne (by omega)).trans ((a_up_ne (by omega)).trans (hR.g (k := 38) (a := 532) (by decide)))))) | exact (a_up_ne (by omega)).trans ((a_up_ne (by omega)).trans ((a_up_ne (by omega)).trans ((a_up_ne (by omega)).trans ((a_up_ne (by omega)).trans ((a_up_ne (by omega)).trans (hR.g (k := 38) (a := 532) (by decide)))))))) ?_
              refine R_iload_2 dX12_goOn_147 ?_
              refine R_dup2_11 dX12_goOn_148 rfl rfl ?_
              refine R_ialdE dX12_goOn_149 sh_532 rfl (by omega) (by decide) ((a_up_ne (Or.inl (by decide))).trans w1) ?_
              refine R_iconst (v := 1) dX12_goOn_150 (by decide) ?_
              refine R_iadd dX12_goOn_151 ?_
              rw [nI_1]
              refine R_iastE dX12_goOn_152 sh_532 rfl (by omega) (by decide) ?_
              refine R_goto 313 dX12_goOn_153 (by decide) ?_
              refine R_iload_2 dX12_goOn_313 ?_
              refine R_iret rfl dX12_goOn_314 (by first | exact absurd c95 (by decide) | exact absurd rfl c95 | exact absurd c100 (by decide) | exact absurd rfl c100 | exact absurd c129 (by decide) | exact absurd rfl c129 | exact ⟨rfl, rfl, ⟨((a_up_ne (Or.inl (by decide))).trans ((a_up_ne (Or.inl (by decide))).trans w0)), (a_up_self _ _ _ _), ((a_up_ne (Or.inl (by decide))).trans ((a_up_ne (Or.inl (by decide))).trans w2)), ((a_up_ne (Or.inl (by decide))).trans ((a_up_ne (Or.inl (by decide))).trans w3)), ((a_up_ne (Or.inl (by decide))).trans ((a_up_self _ _ _ _).trans (congrArg (fun z => Value.int (nI z)) (by first | exact go_b1 hz hb | exact go_b2 hd hb | exact go_b3 hz hb | exact go_b4 c124 hb))))⟩, (FrLv.u (by decide) (by decide)).trans (FrLv.u (by decide) (by decide))⟩)
        · refine R_aload_0 dX12_goOn_103 ?_
          refine gfX12_102 rfl dX12_goOn_104 sh_504 (by first | exact hR.g (k := 39) (a := 533) (by decide) | exact (a_up_ne (by omega)).trans (hR.g (k := 39) (a := 533) (by decide)) | exact (a_up_ne (by omega)).trans ((a_up_ne (by omega)).trans (hR.g (k := 39) (a := 533) (by decide))) | exact (a_up_ne (by omega)).trans ((a_up_ne (by omega)).trans ((a_up_ne (by omega)).trans (hR.g (k := 39) (a := 533) (by decide)))) | exact (a_up_ne (by omega)).trans ((a_up_ne (by omega)).trans ((a_up_ne (by omega)).trans ((a_up_ne (by omega)).trans (hR.g (k := 39) (a := 533) (by decide))))) | exact (a_up_ne (by omega)).trans ((a_up_ne (by omega)).trans ((a_up_ne (by omega)).trans ((a_up_ne (by omega)).trans ((a_up_ne (by omega)).trans (hR.g (k := 39) (a := 533) (by decide)))))) | exact (a_up_ne (by omega)).trans ((a_up_ne (by omega)).trans ((a_up_ne (by omega)).trans ((a_up_ne (by omega)).trans ((a_up_ne (by omega)).trans ((a_up_ne (by omega)).trans (hR.g (k := 39) (a := 533) (by decide)))))))) ?_
          refine R_iload_2 dX12_goOn_107 ?_
          refine R_ialdE dX12_goOn_108 sh_533 rfl (by omega) (by decide) w2 ?_
          refine R_goto 142 dX12_goOn_109 (by decide) ?_
          refine R_iastE dX12_goOn_142 sh_535 rfl (by omega) (by decide) ?_
          refine R_aload_0 dX12_goOn_143 ?_
          refine gfX12_99 rfl dX12_goOn_144 sh_504 (by first | exact hR.g (k := 38) (a := 532) (by decide) | exact (a_up_ne (by omega)).trans (hR.g (k := 38) (a := 532) (by decide)) | exact (a_up_ne (by omega)).trans ((a_up_ne (by omega)).trans (hR.g (k := 38) (a := 532) (by decide))) | exact (a_up_ne (by omega)).trans ((a_up_ne (by omega)).trans ((a_up_ne (by omega)).trans (hR.g (k := 38) (a := 532) (by decide)))) | exact (a_up_ne (by omega)).trans ((a_up_ne (by omega)).trans ((a_up_ne (by omega)).trans ((a_up_ne (by omega)).trans (hR.g (k := 38) (a := 532) (by decide))))) | exact (a_up_ne (by omega)).trans ((a_up_ne (by omega)).trans ((a_up_ne (by omega)).trans ((a_up_ne (by omega)).trans ((a_up_ne (by omega)).trans (hR.g (k := 38) (a := 532) (by decide)))))) | exact (a_up_ne (by omega)).trans ((a_up_ne (by omega)).trans ((a_up_ne (by omega)).trans ((a_up_ne (by omega)).trans ((a_up_ne (by omega)).trans ((a_up_ne (by omega)).trans (hR.g (k := 38) (a := 532) (by decide)))))))) ?_
          refine R_iload_2 dX12_goOn_147 ?_
          refine R_dup2_11 dX12_goOn_148 rfl rfl ?_
          refine R_ialdE dX12_goOn_149 sh_532 rfl (by omega) (by decide) ((a_up_ne (Or.inl (by decide))).trans w1) ?_
          refine R_iconst (v := 1) dX12_goOn_150 (by decide) ?_
          refine R_iadd dX12_goOn_151 ?_
          rw [nI_1]
          refine R_iastE dX12_goOn_152 sh_532 rfl (by omega) (by decide) ?_
          refine R_goto 313 dX12_goOn_153 (by decide) ?_
          refine R_iload_2 dX12_goOn_313 ?_
          refine R_iret rfl dX12_goOn_314 (by first | exact absurd c95 (by decide) | exact absurd rfl c95 | exact absurd c100 (by decide) | exact absurd rfl c100 | exact absurd c129 (by decide) | exact absurd rfl c129 | exact ⟨rfl, rfl, ⟨((a_up_ne (Or.inl (by decide))).trans ((a_up_ne (Or.inl (by decide))).trans w0)), (a_up_self _ _ _ _), ((a_up_ne (Or.inl (by decide))).trans ((a_up_ne (Or.inl (by decide))).trans w2)), ((a_up_ne (Or.inl (by decide))).trans ((a_up_ne (Or.inl (by decide))).trans w3)), ((a_up_ne (Or.inl (by decide))).trans ((a_up_self _ _ _ _).trans (congrArg (fun z => Value.int (nI z)) (by first | exact go_b1 hz hb | exact go_b2 hd hb | exact go_b3 hz hb | exact go_b4 c124 hb))))⟩, (FrLv.u (by decide) (by decide)).trans (FrLv.u (by decide) (by decide))⟩)
set_option maxHeartbeats 4000000 in
theorem ct_go_c {V : aV} {T : Nat → List Int32} {to : Nat → Bool} {ent : Nat → EntN} {cnt g n p : Nat} (hR : MR V) (hT : MT V T to) (hEn : ME V ent cnt) (hEO : ∀ k, k < 12 → EO (ent k)) (hg : MBR g) (hn : n < 8) (ht : to n = true) (h96 : (T n).length ≤ 96) {l dp fi dd : Nat} (hW : LW V l n p dp fi dd) (hl : l < 5) (hp : p < (T n).length) (hc : (T n).getD p 0 = 93) (h1 : 1 ≤ dp) (hdp : dp ≤ 5) (hdd : dd < 100) : CT mX12_goOn 3 0 0 [.ref 504, .int (nI n), .int (nI l), .int (nI g)] Sh V (fun v S' V' => some (.int (nI l)) = v ∧ Sh = S' ∧ LW V' l n (p + 1) (dp - 1) fi (if dd = dp then 0 else dd) ∧ FrLv l V V') aNo := by
  refine CT_of (by decide +kernel) (Nat.le_of_ble_eq_true rfl) ?_
  show R _ _ _ _ _ _ _ _ 0 [some (.ref 504), some (.int (nI n)), some (.int (nI l)), some (.int (nI g)), none, none, none, none] [] _ _
  obtain ⟨w0, w1, w2, w3, w4⟩ := id hW
  refine R_aload_0 dX12_goOn_0 ?_
  refine gfX12_99 rfl dX12_goOn_1 sh_504 (by first | exact hR.g (k := 38) (a := 532) (by decide) | exact (a_up_ne (by omega)).trans (hR.g (k := 38) (a := 532) (by decide)) | exact (a_up_ne (by omega)).trans ((a_up_ne (by omega)).trans (hR.g (k := 38) (a := 532) (by decide))) | exact (a_up_ne (by omega)).trans ((a_up_ne (by omega)).trans ((a_up_ne (by omega)).trans (hR.g (k := 38) (a := 532) (by decide)))) | exact (a_up_ne (by omega)).trans ((a_up_ne (by omega)).trans ((a_up_ne (by omega)).trans ((a_up_ne (by omega)).trans (hR.g (k := 38) (a := 532) (by decide))))) | exact (a_up_ne (by omega)).trans ((a_up_ne (by omega)).trans ((a_up_ne (by omega)).trans ((a_up_ne (by omega)).trans ((a_up_ne (by omega)).trans (hR.g (k := 38) (a := 532) (by decide)))))) | exact (a_up_ne (by omega)).trans ((a_up_ne (by omega)).trans ((a_up_ne (by omega)).trans ((a_up_ne (by omega)).trans ((a_up_ne (by omega)).trans ((a_up_ne (by omega)).trans (hR.g (k := 38) (a := 532) (by decide)))))))) ?_
  refine R_iload_2 dX12_goOn_4 ?_
  refine R_ialdE dX12_goOn_5 sh_532 rfl (by omega) (by decide) w1 ?_
  refine R_istore_4 rfl (by decide) dX12_goOn_6 ?_
  refine R_aload_0 dX12_goOn_8 ?_
  refine gfX12_13 rfl dX12_goOn_9 sh_504 (by first | exact hR.g (k := 3) (a := 506) (by decide) | exact (a_up_ne (by omega)).trans (hR.g (k := 3) (a := 506) (by decide)) | exact (a_up_ne (by omega)).trans ((a_up_ne (by omega)).trans (hR.g (k := 3) (a := 506) (by decide))) | exact (a_up_ne (by omega)).trans ((a_up_ne (by omega)).trans ((a_up_ne (by omega)).trans (hR.g (k := 3) (a := 506) (by decide)))) | exact (a_up_ne (by omega)).trans ((a_up_ne (by omega)).trans ((a_up_ne (by omega)).trans ((a_up_ne (by omega)).trans (hR.g (k := 3) (a := 506) (by decide))))) | exact (a_up_ne (by omega)).trans ((a_up_ne (by omega)).trans ((a_up_ne (by omega)).trans ((a_up_ne (by omega)).trans ((a_up_ne (by omega)).trans (hR.g (k := 3) (a := 506) (by decide)))))) | exact (a_up_ne (by omega)).trans ((a_up_ne (by omega)).trans ((a_up_ne (by omega)).trans ((a_up_ne (by omega)).trans ((a_up_ne (by omega)).trans ((a_up_ne (by omega)).trans (hR.g (k := 3) (a := 506) (by decide)))))))) ?_
  refine R_bipush (v := 96) dX12_goOn_12 (by decide) ?_
  refine R_iload_1 dX12_goOn_14 ?_
  refine R_imul dX12_goOn_15 ?_
  refine R_iload_4 dX12_goOn_16 ?_
  refine R_iadd dX12_goOn_18 ?_
  refine R_ialdE dX12_goOn_19 sh_506 (ix1 96 n p) (by omega) (by decide) (hT.t hn ht hp) ?_
  refine R_istore_5 rfl (by decide) dX12_goOn_20 ?_
  refine R_aload_0 dX12_goOn_22 ?_
  refine gfX12_108 rfl dX12_goOn_23 sh_504 (by first | exact hR.g (k := 41) (a := 535) (by decide) | exact (a_up_ne (by omega)).trans (hR.g (k := 41) (a := 535) (by decide)) | exact (a_up_ne (by omega)).trans ((a_up_ne (by omega)).trans (hR.g (k := 41) (a := 535) (by decide))) | exact (a_up_ne (by omega)).trans ((a_up_ne (by omega)).trans ((a_up_ne (by omega)).trans (hR.g (k := 41) (a := 535) (by decide)))) | exact (a_up_ne (by omega)).trans ((a_up_ne (by omega)).trans ((a_up_ne (by omega)).trans ((a_up_ne (by omega)).trans (hR.g (k := 41) (a := 535) (by decide))))) | exact (a_up_ne (by omega)).trans ((a_up_ne (by omega)).trans ((a_up_ne (by omega)).trans ((a_up_ne (by omega)).trans ((a_up_ne (by omega)).trans (hR.g (k := 41) (a := 535) (by decide)))))) | exact (a_up_ne (by omega)).trans ((a_up_ne (by omega)).trans ((a_up_ne (by omega)).trans ((a_up_ne (by omega)).trans ((a_up_ne (by omega)).trans ((a_up_ne (by omega)).trans (hR.g (k := 41) (a := 535) (by decide)))))))) ?_
  refine R_iload_2 dX12_goOn_26 ?_
  refine R_ialdE dX12_goOn_27 sh_535 rfl (by omega) (by decide) w4 ?_
  refine R_if_ne 35 dX12_goOn_28 (by decide) (fun c28 => ?_) (fun c28 => ?_)
  · refine R_iconst (v := 0) dX12_goOn_35 (by decide) ?_
    refine R_istore_6 rfl (by decide) dX12_goOn_36 ?_
    refine R_iload_5 dX12_goOn_38 ?_
    refine R_bipush (v := 91) dX12_goOn_40 (by decide) ?_
    refine R_icmp_ne 55 dX12_goOn_42 (by decide) (fun c42 => ?_) (fun c42 => absurd c42 (by rw [hc]; decide))
    refine R_iload_5 dX12_goOn_55 ?_
    refine R_bipush (v := 124) dX12_goOn_57 (by decide) ?_
    refine R_icmp_ne 156 dX12_goOn_59 (by decide) (fun c59 => ?_) (fun c59 => absurd c59 (by rw [hc]; decide))
    refine R_iload_5 dX12_goOn_156 ?_
    refine R_bipush (v := 93) dX12_goOn_158 (by decide) ?_
    refine R_icmp_ne 217 dX12_goOn_160 (by decide) (fun c160 => absurd hc c160) (fun c160 => ?_)
    refine R_aload_0 dX12_goOn_163 ?_
    refine gfX12_108 rfl dX12_goOn_164 sh_504 (by first | exact hR.g (k := 41) (a := 535) (by decide) | exact (a_up_ne (by omega)).trans (hR.g (k := 41) (a := 535) (by decide)) | exact (a_up_ne (by omega)).trans ((a_up_ne (by omega)).trans (hR.g (k := 41) (a := 535) (by decide))) | exact (a_up_ne (by omega)).trans ((a_up_ne (by omega)).trans ((a_up_ne (by omega)).trans (hR.g (k := 41) (a := 535) (by decide)))) | exact (a_up_ne (by omega)).trans ((a_up_ne (by omega)).trans ((a_up_ne (by omega)).trans ((a_up_ne (by omega)).trans (hR.g (k := 41) (a := 535) (by decide))))) | exact (a_up_ne (by omega)).trans ((a_up_ne (by omega)).trans ((a_up_ne (by omega)).trans ((a_up_ne (by omega)).trans ((a_up_ne (by omega)).trans (hR.g (k := 41) (a := 535) (by decide)))))) | exact (a_up_ne (by omega)).trans ((a_up_ne (by omega)).trans ((a_up_ne (by omega)).trans ((a_up_ne (by omega)).trans ((a_up_ne (by omega)).trans ((a_up_ne (by omega)).trans (hR.g (k := 41) (a := 535) (by decide)))))))) ?_
    refine R_iload_2 dX12_goOn_167 ?_
    refine R_aload_0 dX12_goOn_168 ?_
    refine gfX12_108 rfl dX12_goOn_169 sh_504 (by first | exact hR.g (k := 41) (a := 535) (by decide) | exact (a_up_ne (by omega)).trans (hR.g (k := 41) (a := 535) (by decide)) | exact (a_up_ne (by omega)).trans ((a_up_ne (by omega)).trans (hR.g (k := 41) (a := 535) (by decide))) | exact (a_up_ne (by omega)).trans ((a_up_ne (by omega)).trans ((a_up_ne (by omega)).trans (hR.g (k := 41) (a := 535) (by decide)))) | exact (a_up_ne (by omega)).trans ((a_up_ne (by omega)).trans ((a_up_ne (by omega)).trans ((a_up_ne (by omega)).trans (hR.g (k := 41) (a := 535) (by decide))))) | exact (a_up_ne (by omega)).trans ((a_up_ne (by omega)).trans ((a_up_ne (by omega)).trans ((a_up_ne (by omega)).trans ((a_up_ne (by omega)).trans (hR.g (k := 41) (a := 535) (by decide)))))) | exact (a_up_ne (by omega)).trans ((a_up_ne (by omega)).trans ((a_up_ne (by omega)).trans ((a_up_ne (by omega)).trans ((a_up_ne (by omega)).trans ((a_up_ne (by omega)).trans (hR.g (k := 41) (a := 535) (by decide)))))))) ?_
    refine R_iload_2 dX12_goOn_172 ?_
    refine R_ialdE dX12_goOn_173 sh_535 rfl (by omega) (by decide) w4 ?_
    refine R_aload_0 dX12_goOn_174 ?_
    refine gfX12_102 rfl dX12_goOn_175 sh_504 (by first | exact hR.g (k := 39) (a := 533) (by decide) | exact (a_up_ne (by omega)).trans (hR.g (k := 39) (a := 533) (by decide)) | exact (a_up_ne (by omega)).trans ((a_up_ne (by omega)).trans (hR.g (k := 39) (a := 533) (by decide))) | exact (a_up_ne (by omega)).trans ((a_up_ne (by omega)).trans ((a_up_ne (by omega)).trans (hR.g (k := 39) (a := 533) (by decide)))) | exact (a_up_ne (by omega)).trans ((a_up_ne (by omega)).trans ((a_up_ne (by omega)).trans ((a_up_ne (by omega)).trans (hR.g (k := 39) (a := 533) (by decide))))) | exact (a_up_ne (by omega)).trans ((a_up_ne (by omega)).trans ((a_up_ne (by omega)).trans ((a_up_ne (by omega)).trans ((a_up_ne (by omega)).trans (hR.g (k := 39) (a := 533) (by decide)))))) | exact (a_up_ne (by omega)).trans ((a_up_ne (by omega)).trans ((a_up_ne (by omega)).trans ((a_up_ne (by omega)).trans ((a_up_ne (by omega)).trans ((a_up_ne (by omega)).trans (hR.g (k := 39) (a := 533) (by decide)))))))) ?_
    refine R_iload_2 dX12_goOn_178 ?_
    refine R_ialdE dX12_goOn_179 sh_533 rfl (by omega) (by decide) w2 ?_
    refine R_icmp_ne 187 dX12_goOn_180 (by decide) (fun c180 => ?_) (fun c180 => ?_)
    · refine R_aload_0 dX12_goOn_187 ?_
      refine gfX12_108 rfl dX12_goOn_188 sh_504 (by first | exact hR.g (k := 41) (a := 535) (by decide) | exact (a_up_ne (by omega)).trans (hR.g (k := 41) (a := 535) (by decide)) | exact (a_up_ne (by omega)).trans ((a_up_ne (by omega)).trans (hR.g (k := 41) (a := 535) (by decide))) | exact (a_up_ne (by omega)).trans ((a_up_ne (by omega)).trans ((a_up_ne (by omega)).trans (hR.g (k := 41) (a := 535) (by decide)))) | exact (a_up_ne (by omega)).trans ((a_up_ne (by omega)).trans ((a_up_ne (by omega)).trans ((a_up_ne (by omega)).trans (hR.g (k := 41) (a := 535) (by decide))))) | exact (a_up_ne (by omega)).trans ((a_up_ne (by omega)).trans ((a_up_ne (by omega)).trans ((a_up_ne (by omega)).trans ((a_up_ne (by omega)).trans (hR.g (k := 41) (a := 535) (by decide)))))) | exact (a_up_ne (by omega)).trans ((a_up_ne (by omega)).trans ((a_up_ne (by omega)).trans ((a_up_ne (by omega)).trans ((a_up_ne (by omega)).trans ((a_up_ne (by omega)).trans (hR.g (k := 41) (a := 535) (by decide)))))))) ?_
      refine R_iload_2 dX12_goOn_191 ?_
      refine R_ialdE dX12_goOn_192 sh_535 rfl (by omega) (by decide) w4 ?_
      refine R_iastE dX12_goOn_193 sh_535 rfl (by omega) (by decide) ?_
      refine R_aload_0 dX12_goOn_194 ?_
      refine gfX12_102 rfl dX12_goOn_195 sh_504 (by first | exact hR.g (k := 39) (a := 533) (by decide) | exact (a_up_ne (by omega)).trans (hR.g (k := 39) (a := 533) (by decide)) | exact (a_up_ne (by omega)).trans ((a_up_ne (by omega)).trans (hR.g (k := 39) (a := 533) (by decide))) | exact (a_up_ne (by omega)).trans ((a_up_ne (by omega)).trans ((a_up_ne (by omega)).trans (hR.g (k := 39) (a := 533) (by decide)))) | exact (a_up_ne (by omega)).trans ((a_up_ne (by omega)).trans ((a_up_ne (by omega)).trans ((a_up_ne (by omega)).trans (hR.g (k := 39) (a := 533) (by decide))))) | exact (a_up_ne (by omega)).trans ((a_up_ne (by omega)).trans ((a_up_ne (by omega)).trans ((a_up_ne (by omega)).trans ((a_up_ne (by omega)).trans (hR.g (k := 39) (a := 533) (by decide)))))) | exact (a_up_ne (by omega)).trans ((a_up_ne (by omega)).trans ((a_up_ne (by omega)).trans ((a_up_ne (by omega)).trans ((a_up_ne (by omega)).trans ((a_up_ne (by omega)).trans (hR.g (k := 39) (a := 533) (by decide)))))))) ?_
      refine R_iload_2 dX12_goOn_198 ?_
      refine R_dup2_11 dX12_goOn_199 rfl rfl ?_
      refine R_ialdE dX12_goOn_200 sh_533 rfl (by omega) (by decide) ((a_up_ne (Or.inl (by decide))).trans w2) ?_
      refine R_iconst (v := 1) dX12_goOn_201 (by decide) ?_
      refine R_isub dX12_goOn_202 ?_
      rw [show (1 : Int32) = nI 1 from rfl, pk_sub h1]
      refine R_iastE dX12_goOn_203 sh_533 rfl (by omega) (by decide) ?_
      refine R_aload_0 dX12_goOn_204 ?_
      refine gfX12_99 rfl dX12_goOn_205 sh_504 (by first | exact hR.g (k := 38) (a := 532) (by decide) | exact (a_up_ne (by omega)).trans (hR.g (k := 38) (a := 532) (by decide)) | exact (a_up_ne (by omega)).trans ((a_up_ne (by omega)).trans (hR.g (k := 38) (a := 532) (by decide))) | exact (a_up_ne (by omega)).trans ((a_up_ne (by omega)).trans ((a_up_ne (by omega)).trans (hR.g (k := 38) (a := 532) (by decide)))) | exact (a_up_ne (by omega)).trans ((a_up_ne (by omega)).trans ((a_up_ne (by omega)).trans ((a_up_ne (by omega)).trans (hR.g (k := 38) (a := 532) (by decide))))) | exact (a_up_ne (by omega)).trans ((a_up_ne (by omega)).trans ((a_up_ne (by omega)).trans ((a_up_ne (by omega)).trans ((a_up_ne (by omega)).trans (hR.g (k := 38) (a := 532) (by decide)))))) | exact (a_up_ne (by omega)).trans ((a_up_ne (by omega)).trans ((a_up_ne (by omega)).trans ((a_up_ne (by omega)).trans ((a_up_ne (by omega)).trans ((a_up_ne (by omega)).trans (hR.g (k := 38) (a := 532) (by decide)))))))) ?_
      refine R_iload_2 dX12_goOn_208 ?_
      refine R_dup2_11 dX12_goOn_209 rfl rfl ?_
      refine R_ialdE dX12_goOn_210 sh_532 rfl (by omega) (by decide) ((a_up_ne (Or.inl (by decide))).trans ((a_up_ne (Or.inl (by decide))).trans w1)) ?_
      refine R_iconst (v := 1) dX12_goOn_211 (by decide) ?_
      refine R_iadd dX12_goOn_212 ?_
      rw [nI_1]
      refine R_iastE dX12_goOn_213 sh_532 rfl (by omega) (by decide) ?_
      refine R_goto 313 dX12_goOn_214 (by decide) ?_
      refine R_iload_2 dX12_goOn_313 ?_
      refine R_iret rfl dX12_goOn_314 (by first | exact ⟨rfl, rfl, ⟨((a_up_ne (Or.inl (by decide))).trans ((a_up_ne (Or.inl (by decide))).trans ((a_up_ne (Or.inl (by decide))).trans w0))), (a_up_self _ _ _ _), ((a_up_ne (Or.inl (by decide))).trans (a_up_self _ _ _ _)), ((a_up_ne (Or.inl (by decide))).trans ((a_up_ne (Or.inl (by decide))).trans ((a_up_ne (Or.inl (by decide))).trans w3))), ((a_up_ne (Or.inl (by decide))).trans ((a_up_ne (Or.inl (by decide))).trans ((a_up_self _ _ _ _).trans (congrArg (fun z => Value.int (nI z)) (if_pos ((nI_eq (by omega) (by omega)).1 c180)).symm))))⟩, (FrLv.u (by decide) (by decide)).trans ((FrLv.u (by decide) (by decide)).trans (FrLv.u (by decide) (by decide)))⟩ | exact ⟨rfl, rfl, ⟨((a_up_ne (Or.inl (by decide))).trans ((a_up_ne (Or.inl (by decide))).trans ((a_up_ne (Or.inl (by decide))).trans w0))), (a_up_self _ _ _ _), ((a_up_ne (Or.inl (by decide))).trans (a_up_self _ _ _ _)), ((a_up_ne (Or.inl (by decide))).trans ((a_up_ne (Or.inl (by decide))).trans ((a_up_ne (Or.inl (by decide))).trans w3))), ((a_up_ne (Or.inl (by decide))).trans ((a_up_ne (Or.inl (by decide))).trans ((a_up_self _ _ _ _).trans (congrArg (fun z => Value.int (nI z)) (if_neg (fun z => c180 (by rw [z]))).symm))))⟩, (FrLv.u (by decide) (by decide)).trans ((FrLv.u (by decide) (by decide)).trans (FrLv.u (by decide) (by decide)))⟩)
    · refine R_iconst (v := 0) dX12_goOn_183 (by decide) ?_
      refine R_goto 193 dX12_goOn_184 (by decide) ?_
      refine R_iastE dX12_goOn_193 sh_535 rfl (by omega) (by decide) ?_
      refine R_aload_0 dX12_goOn_194 ?_
      refine gfX12_102 rfl dX12_goOn_195 sh_504 (by first | exact hR.g (k := 39) (a := 533) (by decide) | exact (a_up_ne (by omega)).trans (hR.g (k := 39) (a := 533) (by decide)) | exact (a_up_ne (by omega)).trans ((a_up_ne (by omega)).trans (hR.g (k := 39) (a := 533) (by decide))) | exact (a_up_ne (by omega)).trans ((a_up_ne (by omega)).trans ((a_up_ne (by omega)).trans (hR.g (k := 39) (a := 533) (by decide)))) | exact (a_up_ne (by omega)).trans ((a_up_ne (by omega)).trans ((a_up_ne (by omega)).trans ((a_up_ne (by omega)).trans (hR.g (k := 39) (a := 533) (by decide))))) | exact (a_up_ne (by omega)).trans ((a_up_ne (by omega)).trans ((a_up_ne (by omega)).trans ((a_up_ne (by omega)).trans ((a_up_ne (by omega)).trans (hR.g (k := 39) (a := 533) (by decide)))))) | exact (a_up_ne (by omega)).trans ((a_up_ne (by omega)).trans ((a_up_ne (by omega)).trans ((a_up_ne (by omega)).trans ((a_up_ne (by omega)).trans ((a_up_ne (by omega)).trans (hR.g (k := 39) (a := 533) (by decide)))))))) ?_
      refine R_iload_2 dX12_goOn_198 ?_
      refine R_dup2_11 dX12_goOn_199 rfl rfl ?_
      refine R_ialdE dX12_goOn_200 sh_533 rfl (by omega) (by decide) ((a_up_ne (Or.inl (by decide))).trans w2) ?_
      refine R_iconst (v := 1) dX12_goOn_201 (by decide) ?_
      refine R_isub dX12_goOn_202 ?_
      rw [show (1 : Int32) = nI 1 from rfl, pk_sub h1]
      refine R_iastE dX12_goOn_203 sh_533 rfl (by omega) (by decide) ?_
      refine R_aload_0 dX12_goOn_204 ?_
      refine gfX12_99 rfl dX12_goOn_205 sh_504 (by first | exact hR.g (k := 38) (a := 532) (by decide) | exact (a_up_ne (by omega)).trans (hR.g (k := 38) (a := 532) (by decide)) | exact (a_up_ne (by omega)).trans ((a_up_ne (by omega)).trans (hR.g (k := 38) (a := 532) (by decide))) | exact (a_up_ne (by omega)).trans ((a_up_ne (by omega)).trans ((a_up_ne (by omega)).trans (hR.g (k := 38) (a := 532) (by decide)))) | exact (a_up_ne (by omega)).trans ((a_up_ne (by omega)).trans ((a_up_ne (by omega)).trans ((a_up_ne (by omega)).trans (hR.g (k := 38) (a := 532) (by decide))))) | exact (a_up_ne (by omega)).trans ((a_up_ne (by omega)).trans ((a_up_ne (by omega)).trans ((a_up_ne (by omega)).trans ((a_up_ne (by omega)).trans (hR.g (k := 38) (a := 532) (by decide)))))) | exact (a_up_ne (by omega)).trans ((a_up_ne (by omega)).trans ((a_up_ne (by omega)).trans ((a_up_ne (by omega)).trans ((a_up_ne (by omega)).trans ((a_up_ne (by omega)).trans (hR.g (k := 38) (a := 532) (by decide)))))))) ?_
      refine R_iload_2 dX12_goOn_208 ?_
      refine R_dup2_11 dX12_goOn_209 rfl rfl ?_
      refine R_ialdE dX12_goOn_210 sh_532 rfl (by omega) (by decide) ((a_up_ne (Or.inl (by decide))).trans ((a_up_ne (Or.inl (by decide))).trans w1)) ?_
      refine R_iconst (v := 1) dX12_goOn_211 (by decide) ?_
      refine R_iadd dX12_goOn_212 ?_
      rw [nI_1]
      refine R_iastE dX12_goOn_213 sh_532 rfl (by omega) (by decide) ?_
      refine R_goto 313 dX12_goOn_214 (by decide) ?_
      refine R_iload_2 dX12_goOn_313 ?_
      refine R_iret rfl dX12_goOn_314 (by first | exact ⟨rfl, rfl, ⟨((a_up_ne (Or.inl (by decide))).trans ((a_up_ne (Or.inl (by decide))).trans ((a_up_ne (Or.inl (by decide))).trans w0))), (a_up_self _ _ _ _), ((a_up_ne (Or.inl (by decide))).trans (a_up_self _ _ _ _)), ((a_up_ne (Or.inl (by decide))).trans ((a_up_ne (Or.inl (by decide))).trans ((a_up_ne (Or.inl (by decide))).trans w3))), ((a_up_ne (Or.inl (by decide))).trans ((a_up_ne (Or.inl (by decide))).trans ((a_up_self _ _ _ _).trans (congrArg (fun z => Value.int (nI z)) (if_pos ((nI_eq (by omega) (by omega)).1 c180)).symm))))⟩, (FrLv.u (by decide) (by decide)).trans ((FrLv.u (by decide) (by decide)).trans (FrLv.u (by decide) (by decide)))⟩ | exact ⟨rfl, rfl, ⟨((a_up_ne (Or.inl (by decide))).trans ((a_up_ne (Or.inl (by decide))).trans ((a_up_ne (Or.inl (by decide))).trans w0))), (a_up_self _ _ _ _), ((a_up_ne (Or.inl (by decide))).trans (a_up_self _ _ _ _)), ((a_up_ne (Or.inl (by decide))).trans ((a_up_ne (Or.inl (by decide))).trans ((a_up_ne (Or.inl (by decide))).trans w3))), ((a_up_ne (Or.inl (by decide))).trans ((a_up_ne (Or.inl (by decide))).trans ((a_up_self _ _ _ _).trans (congrArg (fun z => Value.int (nI z)) (if_neg (fun z => c180 (by rw [z]))).symm))))⟩, (FrLv.u (by decide) (by decide)).trans ((FrLv.u (by decide) (by decide)).trans (FrLv.u (by decide) (by decide)))⟩)
  · refine R_iconst (v := 1) dX12_goOn_31 (by decide) ?_
    refine R_goto 36 dX12_goOn_32 (by decide) ?_
    refine R_istore_6 rfl (by decide) dX12_goOn_36 ?_
    refine R_iload_5 dX12_goOn_38 ?_
    refine R_bipush (v := 91) dX12_goOn_40 (by decide) ?_
    refine R_icmp_ne 55 dX12_goOn_42 (by decide) (fun c42 => ?_) (fun c42 => absurd c42 (by rw [hc]; decide))
    refine R_iload_5 dX12_goOn_55 ?_
    refine R_bipush (v := 124) dX12_goOn_57 (by decide) ?_
    refine R_icmp_ne 156 dX12_goOn_59 (by decide) (fun c59 => ?_) (fun c59 => absurd c59 (by rw [hc]; decide))
    refine R_iload_5 dX12_goOn_156 ?_
    refine R_bipush (v := 93) dX12_goOn_158 (by decide) ?_
    refine R_icmp_ne 217 dX12_goOn_160 (by decide) (fun c160 => absurd hc c160) (fun c160 => ?_)
    refine R_aload_0 dX12_goOn_163 ?_
    refine gfX12_108 rfl dX12_goOn_164 sh_504 (by first | exact hR.g (k := 41) (a := 535) (by decide) | exact (a_up_ne (by omega)).trans (hR.g (k := 41) (a := 535) (by decide)) | exact (a_up_ne (by omega)).trans ((a_up_ne (by omega)).trans (hR.g (k := 41) (a := 535) (by decide))) | exact (a_up_ne (by omega)).trans ((a_up_ne (by omega)).trans ((a_up_ne (by omega)).trans (hR.g (k := 41) (a := 535) (by decide)))) | exact (a_up_ne (by omega)).trans ((a_up_ne (by omega)).trans ((a_up_ne (by omega)).trans ((a_up_ne (by omega)).trans (hR.g (k := 41) (a := 535) (by decide))))) | exact (a_up_ne (by omega)).trans ((a_up_ne (by omega)).trans ((a_up_ne (by omega)).trans ((a_up_ne (by omega)).trans ((a_up_ne (by omega)).trans (hR.g (k := 41) (a := 535) (by decide)))))) | exact (a_up_ne (by omega)).trans ((a_up_ne (by omega)).trans ((a_up_ne (by omega)).trans ((a_up_ne (by omega)).trans ((a_up_ne (by omega)).trans ((a_up_ne (by omega)).trans (hR.g (k := 41) (a := 535) (by decide)))))))) ?_
    refine R_iload_2 dX12_goOn_167 ?_
    refine R_aload_0 dX12_goOn_168 ?_
    refine gfX12_108 rfl dX12_goOn_169 sh_504 (by first | exact hR.g (k := 41) (a := 535) (by decide) | exact (a_up_ne (by omega)).trans (hR.g (k := 41) (a := 535) (by decide)) | exact (a_up_ne (by omega)).trans ((a_up_ne (by omega)).trans (hR.g (k := 41) (a := 535) (by decide))) | exact (a_up_ne (by omega)).trans ((a_up_ne (by omega)).trans ((a_up_ne (by omega)).trans (hR.g (k := 41) (a := 535) (by decide)))) | exact (a_up_ne (by omega)).trans ((a_up_ne (by omega)).trans ((a_up_ne (by omega)).trans ((a_up_ne (by omega)).trans (hR.g (k := 41) (a := 535) (by decide))))) | exact (a_up_ne (by omega)).trans ((a_up_ne (by omega)).trans ((a_up_ne (by omega)).trans ((a_up_ne (by omega)).trans ((a_up_ne (by omega)).trans (hR.g (k := 41) (a := 535) (by decide)))))) | exact (a_up_ne (by omega)).trans ((a_up_ne (by omega)).trans ((a_up_ne (by omega)).trans ((a_up_ne (by omega)).trans ((a_up_ne (by omega)).trans ((a_up_ne (by omega)).trans (hR.g (k := 41) (a := 535) (by decide)))))))) ?_
    refine R_iload_2 dX12_goOn_172 ?_
    refine R_ialdE dX12_goOn_173 sh_535 rfl (by omega) (by decide) w4 ?_
    refine R_aload_0 dX12_goOn_174 ?_
    refine gfX12_102 rfl dX12_goOn_175 sh_504 (by first | exact hR.g (k := 39) (a := 533) (by decide) | exact (a_up_ne (by omega)).trans (hR.g (k := 39) (a := 533) (by decide)) | exact (a_up_ne (by omega)).trans ((a_up_ne (by omega)).trans (hR.g (k := 39) (a := 533) (by decide))) | exact (a_up_ne (by omega)).trans ((a_up_ne (by omega)).trans ((a_up_ne (by omega)).trans (hR.g (k := 39) (a := 533) (by decide)))) | exact (a_up_ne (by omega)).trans ((a_up_ne (by omega)).trans ((a_up_ne (by omega)).trans ((a_up_ne (by omega)).trans (hR.g (k := 39) (a := 533) (by decide))))) | exact (a_up_ne (by omega)).trans ((a_up_ne (by omega)).trans ((a_up_ne (by omega)).trans ((a_up_ne (by omega)).trans ((a_up_ne (by omega)).trans (hR.g (k := 39) (a := 533) (by decide)))))) | exact (a_up_ne (by omega)).trans ((a_up_ne (by omega)).trans ((a_up_ne (by omega)).trans ((a_up_ne (by omega)).trans ((a_up_ne (by omega)).trans ((a_up_ne (by omega)).trans (hR.g (k := 39) (a := 533) (by decide)))))))) ?_
    refine R_iload_2 dX12_goOn_178 ?_
    refine R_ialdE dX12_goOn_179 sh_533 rfl (by omega) (by decide) w2 ?_
    refine R_icmp_ne 187 dX12_goOn_180 (by decide) (fun c180 => ?_) (fun c180 => ?_)
    · refine R_aload_0 dX12_goOn_187 ?_
      refine gfX12_108 rfl dX12_goOn_188 sh_504 (by first | exact hR.g (k := 41) (a := 535) (by decide) | exact (a_up_ne (by omega)).trans (hR.g (k := 41) (a := 535) (by decide)) | exact (a_up_ne (by omega)).trans ((a_up_ne (by omega)).trans (hR.g (k := 41) (a := 535) (by decide))) | exact (a_up_ne (by omega)).trans ((a_up_ne (by omega)).trans ((a_up_ne (by omega)).trans (hR.g (k := 41) (a := 535) (by decide)))) | exact (a_up_ne (by omega)).trans ((a_up_ne (by omega)).trans ((a_up_ne (by omega)).trans ((a_up_ne (by omega)).trans (hR.g (k := 41) (a := 535) (by decide))))) | exact (a_up_ne (by omega)).trans ((a_up_ne (by omega)).trans ((a_up_ne (by omega)).trans ((a_up_ne (by omega)).trans ((a_up_ne (by omega)).trans (hR.g (k := 41) (a := 535) (by decide)))))) | exact (a_up_ne (by omega)).trans ((a_up_ne (by omega)).trans ((a_up_ne (by omega)).trans ((a_up_ne (by omega)).trans ((a_up_ne (by omega)).trans ((a_up_ne (by omega)).trans (hR.g (k := 41) (a := 535) (by decide)))))))) ?_
      refine R_iload_2 dX12_goOn_191 ?_
      refine R_ialdE dX12_goOn_192 sh_535 rfl (by omega) (by decide) w4 ?_
      refine R_iastE dX12_goOn_193 sh_535 rfl (by omega) (by decide) ?_
      refine R_aload_0 dX12_goOn_194 ?_
      refine gfX12_102 rfl dX12_goOn_195 sh_504 (by first | exact hR.g (k := 39) (a := 533) (by decide) | exact (a_up_ne (by omega)).trans (hR.g (k := 39) (a := 533) (by decide)) | exact (a_up_ne (by omega)).trans ((a_up_ne (by omega)).trans (hR.g (k := 39) (a := 533) (by decide))) | exact (a_up_ne (by omega)).trans ((a_up_ne (by omega)).trans ((a_up_ne (by omega)).trans (hR.g (k := 39) (a := 533) (by decide)))) | exact (a_up_ne (by omega)).trans ((a_up_ne (by omega)).trans ((a_up_ne (by omega)).trans ((a_up_ne (by omega)).trans (hR.g (k := 39) (a := 533) (by decide))))) | exact (a_up_ne (by omega)).trans ((a_up_ne (by omega)).trans ((a_up_ne (by omega)).trans ((a_up_ne (by omega)).trans ((a_up_ne (by omega)).trans (hR.g (k := 39) (a := 533) (by decide)))))) | exact (a_up_ne (by omega)).trans ((a_up_ne (by omega)).trans ((a_up_ne (by omega)).trans ((a_up_ne (by omega)).trans ((a_up_ne (by omega)).trans ((a_up_ne (by omega)).trans (hR.g (k := 39) (a := 533) (by decide)))))))) ?_
      refine R_iload_2 dX12_goOn_198 ?_
      refine R_dup2_11 dX12_goOn_199 rfl rfl ?_
      refine R_ialdE dX12_goOn_200 sh_533 rfl (by omega) (by decide) ((a_up_ne (Or.inl (by decide))).trans w2) ?_
      refine R_iconst (v := 1) dX12_goOn_201 (by decide) ?_
      refine R_isub dX12_goOn_202 ?_
      rw [show (1 : Int32) = nI 1 from rfl, pk_sub h1]
      refine R_iastE dX12_goOn_203 sh_533 rfl (by omega) (by decide) ?_
      refine R_aload_0 dX12_goOn_204 ?_
      refine gfX12_99 rfl dX12_goOn_205 sh_504 (by first | exact hR.g (k := 38) (a := 532) (by decide) | exact (a_up_ne (by omega)).trans (hR.g (k := 38) (a := 532) (by decide)) | exact (a_up_ne (by omega)).trans ((a_up_ne (by omega)).trans (hR.g (k := 38) (a := 532) (by decide))) | exact (a_up_ne (by omega)).trans ((a_up_ne (by omega)).trans ((a_up_ne (by omega)).trans (hR.g (k := 38) (a := 532) (by decide)))) | exact (a_up_ne (by omega)).trans ((a_up_ne (by omega)).trans ((a_up_ne (by omega)).trans ((a_up_ne (by omega)).trans (hR.g (k := 38) (a := 532) (by decide))))) | exact (a_up_ne (by omega)).trans ((a_up_ne (by omega)).trans ((a_up_ne (by omega)).trans ((a_up_ne (by omega)).trans ((a_up_ne (by omega)).trans (hR.g (k := 38) (a := 532) (by decide)))))) | exact (a_up_ne (by omega)).trans ((a_up_ne (by omega)).trans ((a_up_ne (by omega)).trans ((a_up_ne (by omega)).trans ((a_up_ne (by omega)).trans ((a_up_ne (by omega)).trans (hR.g (k := 38) (a := 532) (by decide)))))))) ?_
      refine R_iload_2 dX12_goOn_208 ?_
      refine R_dup2_11 dX12_goOn_209 rfl rfl ?_
      refine R_ialdE dX12_goOn_210 sh_532 rfl (by omega) (by decide) ((a_up_ne (Or.inl (by decide))).trans ((a_up_ne (Or.inl (by decide))).trans w1)) ?_
      refine R_iconst (v := 1) dX12_goOn_211 (by decide) ?_
      refine R_iadd dX12_goOn_212 ?_
      rw [nI_1]
      refine R_iastE dX12_goOn_213 sh_532 rfl (by omega) (by decide) ?_
      refine R_goto 313 dX12_goOn_214 (by decide) ?_
      refine R_iload_2 dX12_goOn_313 ?_
      refine R_iret rfl dX12_goOn_314 (by first | exact ⟨rfl, rfl, ⟨((a_up_ne (Or.inl (by decide))).trans ((a_up_ne (Or.inl (by decide))).trans ((a_up_ne (Or.inl (by decide))).trans w0))), (a_up_self _ _ _ _), ((a_up_ne (Or.inl (by decide))).trans (a_up_self _ _ _ _)), ((a_up_ne (Or.inl (by decide))).trans ((a_up_ne (Or.inl (by decide))).trans ((a_up_ne (Or.inl (by decide))).trans w3))), ((a_up_ne (Or.inl (by decide))).trans ((a_up_ne (Or.inl (by decide))).trans ((a_up_self _ _ _ _).trans (congrArg (fun z => Value.int (nI z)) (if_pos ((nI_eq (by omega) (by omega)).1 c180)).symm))))⟩, (FrLv.u (by decide) (by decide)).trans ((FrLv.u (by decide) (by decide)).trans (FrLv.u (by decide) (by decide)))⟩ | exact ⟨rfl, rfl, ⟨((a_up_ne (Or.inl (by decide))).trans ((a_up_ne (Or.inl (by decide))).trans ((a_up_ne (Or.inl (by decide))).trans w0))), (a_up_self _ _ _ _), ((a_up_ne (Or.inl (by decide))).trans (a_up_self _ _ _ _)), ((a_up_ne (Or.inl (by decide))).trans ((a_up_ne (Or.inl (by decide))).trans ((a_up_ne (Or.inl (by decide))).trans w3))), ((a_up_ne (Or.inl (by decide))).trans ((a_up_ne (Or.inl (by decide))).trans ((a_up_self _ _ _ _).trans (congrArg (fun z => Value.int (nI z)) (if_neg (fun z => c180 (by rw [z]))).symm))))⟩, (FrLv.u (by decide) (by decide)).trans ((FrLv.u (by decide) (by decide)).trans (FrLv.u (by decide) (by decide)))⟩)
    · refine R_iconst (v := 0) dX12_goOn_183 (by decide) ?_
      refine R_goto 193 dX12_goOn_184 (by decide) ?_
      refine R_iastE dX12_goOn_193 sh_535 rfl (by omega) (by decide) ?_
      refine R_aload_0 dX12_goOn_194 ?_
      refine gfX12_102 rfl dX12_goOn_195 sh_504 (by first | exact hR.g (k := 39) (a := 533) (by decide) | exact (a_up_ne (by omega)).trans (hR.g (k := 39) (a := 533) (by decide)) | exact (a_up_ne (by omega)).trans ((a_up_ne (by omega)).trans (hR.g (k := 39) (a := 533) (by decide))) | exact (a_up_ne (by omega)).trans ((a_up_ne (by omega)).trans ((a_up_ne (by omega)).trans (hR.g (k := 39) (a := 533) (by decide)))) | exact (a_up_ne (by omega)).trans ((a_up_ne (by omega)).trans ((a_up_ne (by omega)).trans ((a_up_ne (by omega)).trans (hR.g (k := 39) (a := 533) (by decide))))) | exact (a_up_ne (by omega)).trans ((a_up_ne (by omega)).trans ((a_up_ne (by omega)).trans ((a_up_ne (by omega)).trans ((a_up_ne (by omega)).trans (hR.g (k := 39) (a := 533) (by decide)))))) | exact (a_up_ne (by omega)).trans ((a_up_ne (by omega)).trans ((a_up_ne (by omega)).trans ((a_up_ne (by omega)).trans ((a_up_ne (by omega)).trans ((a_up_ne (by omega)).trans (hR.g (k := 39) (a := 533) (by decide)))))))) ?_
      refine R_iload_2 dX12_goOn_198 ?_
      refine R_dup2_11 dX12_goOn_199 rfl rfl ?_
      refine R_ialdE dX12_goOn_200 sh_533 rfl (by omega) (by decide) ((a_up_ne (Or.inl (by decide))).trans w2) ?_
      refine R_iconst (v := 1) dX12_goOn_201 (by decide) ?_
      refine R_isub dX12_goOn_202 ?_
      rw [show (1 : Int32) = nI 1 from rfl, pk_sub h1]
      refine R_iastE dX12_goOn_203 sh_533 rfl (by omega) (by decide) ?_
      refine R_aload_0 dX12_goOn_204 ?_
      refine gfX12_99 rfl dX12_goOn_205 sh_504 (by first | exact hR.g (k := 38) (a := 532) (by decide) | exact (a_up_ne (by omega)).trans (hR.g (k := 38) (a := 532) (by decide)) | exact (a_up_ne (by omega)).trans ((a_up_ne (by omega)).trans (hR.g (k := 38) (a := 532) (by decide))) | exact (a_up_ne (by omega)).trans ((a_up_ne (by omega)).trans ((a_up_ne (by omega)).trans (hR.g (k := 38) (a := 532) (by decide)))) | exact (a_up_ne (by omega)).trans ((a_up_ne (by omega)).trans ((a_up_ne (by omega)).trans ((a_up_ne (by omega)).trans (hR.g (k := 38) (a := 532) (by decide))))) | exact (a_up_ne (by omega)).trans ((a_up_ne (by omega)).trans ((a_up_ne (by omega)).trans ((a_up_ne (by omega)).trans ((a_up_ne (by omega)).trans (hR.g (k := 38) (a := 532) (by decide)))))) | exact (a_up_ne (by omega)).trans ((a_up_ne (by omega)).trans ((a_up_ne (by omega)).trans ((a_up_ne (by omega)).trans ((a_up_ne (by omega)).trans ((a_up_ne (by omega)).trans (hR.g (k := 38) (a := 532) (by decide)))))))) ?_
      refine R_iload_2 dX12_goOn_208 ?_
      refine R_dup2_11 dX12_goOn_209 rfl rfl ?_
      refine R_ialdE dX12_goOn_210 sh_532 rfl (by omega) (by decide) ((a_up_ne (Or.inl (by decide))).trans ((a_up_ne (Or.inl (by decide))).trans w1)) ?_
      refine R_iconst (v := 1) dX12_goOn_211 (by decide) ?_
      refine R_iadd dX12_goOn_212 ?_
      rw [nI_1]
      refine R_iastE dX12_goOn_213 sh_532 rfl (by omega) (by decide) ?_
      refine R_goto 313 dX12_goOn_214 (by decide) ?_
      refine R_iload_2 dX12_goOn_313 ?_
      refine R_iret rfl dX12_goOn_314 (by first | exact ⟨rfl, rfl, ⟨((a_up_ne (Or.inl (by decide))).trans ((a_up_ne (Or.inl (by decide))).trans ((a_up_ne (Or.inl (by decide))).trans w0))), (a_up_self _ _ _ _), ((a_up_ne (Or.inl (by decide))).trans (a_up_self _ _ _ _)), ((a_up_ne (Or.inl (by decide))).trans ((a_up_ne (Or.inl (by decide))).trans ((a_up_ne (Or.inl (by decide))).trans w3))), ((a_up_ne (Or.inl (by decide))).trans ((a_up_ne (Or.inl (by decide))).trans ((a_up_self _ _ _ _).trans (congrArg (fun z => Value.int (nI z)) (if_pos ((nI_eq (by omega) (by omega)).1 c180)).symm))))⟩, (FrLv.u (by decide) (by decide)).trans ((FrLv.u (by decide) (by decide)).trans (FrLv.u (by decide) (by decide)))⟩ | exact ⟨rfl, rfl, ⟨((a_up_ne (Or.inl (by decide))).trans ((a_up_ne (Or.inl (by decide))).trans ((a_up_ne (Or.inl (by decide))).trans w0))), (a_up_self _ _ _ _), ((a_up_ne (Or.inl (by decide))).trans (a_up_self _ _ _ _)), ((a_up_ne (Or.inl (by decide))).trans ((a_up_ne (Or.inl (by decide))).trans ((a_up_ne (Or.inl (by decide))).trans w3))), ((a_up_ne (Or.inl (by decide))).trans ((a_up_ne (Or.inl (by decide))).trans ((a_up_self _ _ _ _).trans (congrArg (fun z => Value.int (nI z)) (if_neg (fun z => c180 (by rw [z]))).symm))))⟩, (FrLv.u (by decide) (by decide)).trans ((FrLv.u (by decide) (by decide)).trans (FrLv.u (by decide) (by decide)))⟩)

set_option maxHeartbeats 4000000 in
theorem ct_go_d {V : aV} {T : Nat → List Int32} {to : Nat → Bool} {ent : Nat → EntN} {cnt g n p : Nat} (hR : MR V) (hT : MT V T to) (hEn : ME V ent cnt) (hEO : ∀ k, k < 12 → EO (ent k)) (hg : MBR g) (hn : n < 8) (ht : to n = true) (h96 : (T n).length ≤ 96) {l dp fi dd : Nat} (hW : LW V l n p dp fi dd) (hl : l < 5) (hp : p < (T n).length) (hc : (T n).getD p 0 = 64) (hd : isDg ((T n).getD (p + 1) 0) 55) (h96b : ∀ n, n < 8 → to n = true → (T n).length ≤ 96) (hdd : dd < 100) : CT mX12_goOn 3 0 0 [.ref 504, .int (nI n), .int (nI l), .int (nI g)] Sh V (fun v S' V' => Sh = S' ∧ ((¬ dd = 0 ∧ some (.int (nI l)) = v ∧ LW V' l n (p + 2) dp fi dd ∧ FrLv l V V') ∨ (dd = 0 ∧ FrN l V V' ∧ ((¬ to (dgt (T n) p) = true ∧ v = some (.int (nI l)) ∧ TRo V' l n p 1) ∨ (to (dgt (T n) p) = true ∧ l = 4 ∧ v = some (.int (nI l)) ∧ TRo V' l n p 2) ∨ (to (dgt (T n) p) = true ∧ l < 4 ∧ dgt (T n) p < 8 ∧ v = some (.int (nI (l + 1))) ∧ LW V' (l + 1) (dgt (T n) p) 0 0 0 0 ∧ LW V' l n (p + 2) dp fi 0 ∧ V' 531 l = .int (nI p) ∧ V' 529 = V 529 ∧ V' 504 = V 504))))) aNo := by
  refine CT_of (by decide +kernel) (Nat.le_of_ble_eq_true rfl) ?_
  show R _ _ _ _ _ _ _ _ 0 [some (.ref 504), some (.int (nI n)), some (.int (nI l)), some (.int (nI g)), none, none, none, none] [] _ _
  obtain ⟨w0, w1, w2, w3, w4⟩ := id hW
  obtain ⟨dj, dj7, ed⟩ := dg_j (k := 7) hd (by decide)
  have edg : dgt (T n) p = dj := by unfold dgt; rw [ed, dg_sub, nI_clamp (by omega)]
  refine R_aload_0 dX12_goOn_0 ?_
  refine gfX12_99 rfl dX12_goOn_1 sh_504 (by first | exact hR.g (k := 38) (a := 532) (by decide) | exact (a_up_ne (by omega)).trans (hR.g (k := 38) (a := 532) (by decide)) | exact (a_up_ne (by omega)).trans ((a_up_ne (by omega)).trans (hR.g (k := 38) (a := 532) (by decide))) | exact (a_up_ne (by omega)).trans ((a_up_ne (by omega)).trans ((a_up_ne (by omega)).trans (hR.g (k := 38) (a := 532) (by decide)))) | exact (a_up_ne (by omega)).trans ((a_up_ne (by omega)).trans ((a_up_ne (by omega)).trans ((a_up_ne (by omega)).trans (hR.g (k := 38) (a := 532) (by decide))))) | exact (a_up_ne (by omega)).trans ((a_up_ne (by omega)).trans ((a_up_ne (by omega)).trans ((a_up_ne (by omega)).trans ((a_up_ne (by omega)).trans (hR.g (k := 38) (a := 532) (by decide)))))) | exact (a_up_ne (by omega)).trans ((a_up_ne (by omega)).trans ((a_up_ne (by omega)).trans ((a_up_ne (by omega)).trans ((a_up_ne (by omega)).trans ((a_up_ne (by omega)).trans (hR.g (k := 38) (a := 532) (by decide)))))))) ?_
  refine R_iload_2 dX12_goOn_4 ?_
  refine R_ialdE dX12_goOn_5 sh_532 rfl (by omega) (by decide) w1 ?_
  refine R_istore_4 rfl (by decide) dX12_goOn_6 ?_
  refine R_aload_0 dX12_goOn_8 ?_
  refine gfX12_13 rfl dX12_goOn_9 sh_504 (by first | exact hR.g (k := 3) (a := 506) (by decide) | exact (a_up_ne (by omega)).trans (hR.g (k := 3) (a := 506) (by decide)) | exact (a_up_ne (by omega)).trans ((a_up_ne (by omega)).trans (hR.g (k := 3) (a := 506) (by decide))) | exact (a_up_ne (by omega)).trans ((a_up_ne (by omega)).trans ((a_up_ne (by omega)).trans (hR.g (k := 3) (a := 506) (by decide)))) | exact (a_up_ne (by omega)).trans ((a_up_ne (by omega)).trans ((a_up_ne (by omega)).trans ((a_up_ne (by omega)).trans (hR.g (k := 3) (a := 506) (by decide))))) | exact (a_up_ne (by omega)).trans ((a_up_ne (by omega)).trans ((a_up_ne (by omega)).trans ((a_up_ne (by omega)).trans ((a_up_ne (by omega)).trans (hR.g (k := 3) (a := 506) (by decide)))))) | exact (a_up_ne (by omega)).trans ((a_up_ne (by omega)).trans ((a_up_ne (by omega)).trans ((a_up_ne (by omega)).trans ((a_up_ne (by omega)).trans ((a_up_ne (by omega)).trans (hR.g (k := 3) (a := 506) (by decide)))))))) ?_
  refine R_bipush (v := 96) dX12_goOn_12 (by decide) ?_
  refine R_iload_1 dX12_goOn_14 ?_
  refine R_imul dX12_goOn_15 ?_
  refine R_iload_4 dX12_goOn_16 ?_
  refine R_iadd dX12_goOn_18 ?_
  refine R_ialdE dX12_goOn_19 sh_506 (ix1 96 n p) (by omega) (by decide) (hT.t hn ht hp) ?_
  refine R_istore_5 rfl (by decide) dX12_goOn_20 ?_
  refine R_aload_0 dX12_goOn_22 ?_
  refine gfX12_108 rfl dX12_goOn_23 sh_504 (by first | exact hR.g (k := 41) (a := 535) (by decide) | exact (a_up_ne (by omega)).trans (hR.g (k := 41) (a := 535) (by decide)) | exact (a_up_ne (by omega)).trans ((a_up_ne (by omega)).trans (hR.g (k := 41) (a := 535) (by decide))) | exact (a_up_ne (by omega)).trans ((a_up_ne (by omega)).trans ((a_up_ne (by omega)).trans (hR.g (k := 41) (a := 535) (by decide)))) | exact (a_up_ne (by omega)).trans ((a_up_ne (by omega)).trans ((a_up_ne (by omega)).trans ((a_up_ne (by omega)).trans (hR.g (k := 41) (a := 535) (by decide))))) | exact (a_up_ne (by omega)).trans ((a_up_ne (by omega)).trans ((a_up_ne (by omega)).trans ((a_up_ne (by omega)).trans ((a_up_ne (by omega)).trans (hR.g (k := 41) (a := 535) (by decide)))))) | exact (a_up_ne (by omega)).trans ((a_up_ne (by omega)).trans ((a_up_ne (by omega)).trans ((a_up_ne (by omega)).trans ((a_up_ne (by omega)).trans ((a_up_ne (by omega)).trans (hR.g (k := 41) (a := 535) (by decide)))))))) ?_
  refine R_iload_2 dX12_goOn_26 ?_
  refine R_ialdE dX12_goOn_27 sh_535 rfl (by omega) (by decide) w4 ?_
  refine R_if_ne 35 dX12_goOn_28 (by decide) (fun c28 => ?_) (fun c28 => ?_)
  · have hz : ¬ dd = 0 := fun z => c28 (by rw [z]; rfl)
    refine R_iconst (v := 0) dX12_goOn_35 (by decide) ?_
    refine R_istore_6 rfl (by decide) dX12_goOn_36 ?_
    refine R_iload_5 dX12_goOn_38 ?_
    refine R_bipush (v := 91) dX12_goOn_40 (by decide) ?_
    refine R_icmp_ne 55 dX12_goOn_42 (by decide) (fun c42 => ?_) (fun c42 => absurd c42 (by rw [hc]; decide))
    refine R_iload_5 dX12_goOn_55 ?_
    refine R_bipush (v := 124) dX12_goOn_57 (by decide) ?_
    refine R_icmp_ne 156 dX12_goOn_59 (by decide) (fun c59 => ?_) (fun c59 => absurd c59 (by rw [hc]; decide))
    refine R_iload_5 dX12_goOn_156 ?_
    refine R_bipush (v := 93) dX12_goOn_158 (by decide) ?_
    refine R_icmp_ne 217 dX12_goOn_160 (by decide) (fun c160 => ?_) (fun c160 => absurd c160 (by rw [hc]; decide))
    refine R_iload_5 dX12_goOn_217 ?_
    refine R_bipush (v := 64) dX12_goOn_219 (by decide) ?_
    refine R_icmp_ne 269 dX12_goOn_221 (by decide) (fun c221 => absurd hc c221) (fun c221 => ?_)
    refine R_aload_0 dX12_goOn_224 ?_
    refine gfX12_99 rfl dX12_goOn_225 sh_504 (by first | exact hR.g (k := 38) (a := 532) (by decide) | exact (a_up_ne (by omega)).trans (hR.g (k := 38) (a := 532) (by decide)) | exact (a_up_ne (by omega)).trans ((a_up_ne (by omega)).trans (hR.g (k := 38) (a := 532) (by decide))) | exact (a_up_ne (by omega)).trans ((a_up_ne (by omega)).trans ((a_up_ne (by omega)).trans (hR.g (k := 38) (a := 532) (by decide)))) | exact (a_up_ne (by omega)).trans ((a_up_ne (by omega)).trans ((a_up_ne (by omega)).trans ((a_up_ne (by omega)).trans (hR.g (k := 38) (a := 532) (by decide))))) | exact (a_up_ne (by omega)).trans ((a_up_ne (by omega)).trans ((a_up_ne (by omega)).trans ((a_up_ne (by omega)).trans ((a_up_ne (by omega)).trans (hR.g (k := 38) (a := 532) (by decide)))))) | exact (a_up_ne (by omega)).trans ((a_up_ne (by omega)).trans ((a_up_ne (by omega)).trans ((a_up_ne (by omega)).trans ((a_up_ne (by omega)).trans ((a_up_ne (by omega)).trans (hR.g (k := 38) (a := 532) (by decide)))))))) ?_
    refine R_iload_2 dX12_goOn_228 ?_
    refine R_dup2_11 dX12_goOn_229 rfl rfl ?_
    refine R_ialdE dX12_goOn_230 sh_532 rfl (by omega) (by decide) w1 ?_
    refine R_iconst (v := 2) dX12_goOn_231 (by decide) ?_
    refine R_iadd dX12_goOn_232 ?_
    rw [show nI p + 2 = nI (p + 2) from nI_add _ 2]
    refine R_iastE dX12_goOn_233 sh_532 rfl (by omega) (by decide) ?_
    refine R_iload_6 dX12_goOn_234 ?_
    refine R_if_eq 267 dX12_goOn_236 (by decide) (fun c236 => ?_) (fun c236 => ?_)
    · first
        | exact absurd c236 (by decide)
        | exact absurd rfl c236
        | (refine R_iload_2 dX12_goOn_267 ?_
           exact R_iret rfl dX12_goOn_268 ⟨rfl, Or.inl ⟨hz, rfl, ⟨((a_up_ne (Or.inl (by decide))).trans w0), (a_up_self _ _ _ _), ((a_up_ne (Or.inl (by decide))).trans w2), ((a_up_ne (Or.inl (by decide))).trans w3), ((a_up_ne (Or.inl (by decide))).trans w4)⟩, (FrLv.u (V := V) (l := l) (a := 532) (v := .int (nI (p + 2))) (by decide) (by decide))⟩⟩)
    · exact absurd rfl c236
  · have hz : dd = 0 := nI_0of (by omega) c28
    refine R_iconst (v := 1) dX12_goOn_31 (by decide) ?_
    refine R_goto 36 dX12_goOn_32 (by decide) ?_
    refine R_istore_6 rfl (by decide) dX12_goOn_36 ?_
    refine R_iload_5 dX12_goOn_38 ?_
    refine R_bipush (v := 91) dX12_goOn_40 (by decide) ?_
    refine R_icmp_ne 55 dX12_goOn_42 (by decide) (fun c42 => ?_) (fun c42 => absurd c42 (by rw [hc]; decide))
    refine R_iload_5 dX12_goOn_55 ?_
    refine R_bipush (v := 124) dX12_goOn_57 (by decide) ?_
    refine R_icmp_ne 156 dX12_goOn_59 (by decide) (fun c59 => ?_) (fun c59 => absurd c59 (by rw [hc]; decide))
    refine R_iload_5 dX12_goOn_156 ?_
    refine R_bipush (v := 93) dX12_goOn_158 (by decide) ?_
    refine R_icmp_ne 217 dX12_goOn_160 (by decide) (fun c160 => ?_) (fun c160 => absurd c160 (by rw [hc]; decide))
    refine R_iload_5 dX12_goOn_217 ?_
    refine R_bipush (v := 64) dX12_goOn_219 (by decide) ?_
    refine R_icmp_ne 269 dX12_goOn_221 (by decide) (fun c221 => absurd hc c221) (fun c221 => ?_)
    refine R_aload_0 dX12_goOn_224 ?_
    refine gfX12_99 rfl dX12_goOn_225 sh_504 (by first | exact hR.g (k := 38) (a := 532) (by decide) | exact (a_up_ne (by omega)).trans (hR.g (k := 38) (a := 532) (by decide)) | exact (a_up_ne (by omega)).trans ((a_up_ne (by omega)).trans (hR.g (k := 38) (a := 532) (by decide))) | exact (a_up_ne (by omega)).trans ((a_up_ne (by omega)).trans ((a_up_ne (by omega)).trans (hR.g (k := 38) (a := 532) (by decide)))) | exact (a_up_ne (by omega)).trans ((a_up_ne (by omega)).trans ((a_up_ne (by omega)).trans ((a_up_ne (by omega)).trans (hR.g (k := 38) (a := 532) (by decide))))) | exact (a_up_ne (by omega)).trans ((a_up_ne (by omega)).trans ((a_up_ne (by omega)).trans ((a_up_ne (by omega)).trans ((a_up_ne (by omega)).trans (hR.g (k := 38) (a := 532) (by decide)))))) | exact (a_up_ne (by omega)).trans ((a_up_ne (by omega)).trans ((a_up_ne (by omega)).trans ((a_up_ne (by omega)).trans ((a_up_ne (by omega)).trans ((a_up_ne (by omega)).trans (hR.g (k := 38) (a := 532) (by decide)))))))) ?_
    refine R_iload_2 dX12_goOn_228 ?_
    refine R_dup2_11 dX12_goOn_229 rfl rfl ?_
    refine R_ialdE dX12_goOn_230 sh_532 rfl (by omega) (by decide) w1 ?_
    refine R_iconst (v := 2) dX12_goOn_231 (by decide) ?_
    refine R_iadd dX12_goOn_232 ?_
    rw [show nI p + 2 = nI (p + 2) from nI_add _ 2]
    refine R_iastE dX12_goOn_233 sh_532 rfl (by omega) (by decide) ?_
    refine R_iload_6 dX12_goOn_234 ?_
    refine R_if_eq 267 dX12_goOn_236 (by decide) (fun c236 => ?_) (fun c236 => ?_)
    · first
        | exact absurd c236 (by decide)
        | exact absurd rfl c236
        | (refine R_iload_2 dX12_goOn_267 ?_
           exact R_iret rfl dX12_goOn_268 ⟨rfl, Or.inl ⟨hz, rfl, ⟨((a_up_ne (Or.inl (by decide))).trans w0), (a_up_self _ _ _ _), ((a_up_ne (Or.inl (by decide))).trans w2), ((a_up_ne (Or.inl (by decide))).trans w3), ((a_up_ne (Or.inl (by decide))).trans w4)⟩, (FrLv.u (V := V) (l := l) (a := 532) (v := .int (nI (p + 2))) (by decide) (by decide))⟩⟩)
    · have f1 := (FrLv.u (V := V) (l := l) (a := 532) (v := .int (nI (p + 2))) (by decide) (by decide))
      have hR1 := f1.mr hR
      have hT1 := f1.n.mt hT
      refine R_aload_0 dX12_goOn_239 ?_
      refine R_iload_1 dX12_goOn_240 ?_
      refine R_aload_0 dX12_goOn_241 ?_
      refine gfX12_13 rfl dX12_goOn_242 sh_504 (by first | exact hR.g (k := 3) (a := 506) (by decide) | exact (a_up_ne (by omega)).trans (hR.g (k := 3) (a := 506) (by decide)) | exact (a_up_ne (by omega)).trans ((a_up_ne (by omega)).trans (hR.g (k := 3) (a := 506) (by decide))) | exact (a_up_ne (by omega)).trans ((a_up_ne (by omega)).trans ((a_up_ne (by omega)).trans (hR.g (k := 3) (a := 506) (by decide)))) | exact (a_up_ne (by omega)).trans ((a_up_ne (by omega)).trans ((a_up_ne (by omega)).trans ((a_up_ne (by omega)).trans (hR.g (k := 3) (a := 506) (by decide))))) | exact (a_up_ne (by omega)).trans ((a_up_ne (by omega)).trans ((a_up_ne (by omega)).trans ((a_up_ne (by omega)).trans ((a_up_ne (by omega)).trans (hR.g (k := 3) (a := 506) (by decide)))))) | exact (a_up_ne (by omega)).trans ((a_up_ne (by omega)).trans ((a_up_ne (by omega)).trans ((a_up_ne (by omega)).trans ((a_up_ne (by omega)).trans ((a_up_ne (by omega)).trans (hR.g (k := 3) (a := 506) (by decide)))))))) ?_
      refine R_bipush (v := 96) dX12_goOn_245 (by decide) ?_
      refine R_iload_1 dX12_goOn_247 ?_
      refine R_imul dX12_goOn_248 ?_
      refine R_iload_4 dX12_goOn_249 ?_
      refine R_iadd dX12_goOn_251 ?_
      refine R_iconst (v := 1) dX12_goOn_252 (by decide) ?_
      refine R_iadd dX12_goOn_253 ?_
      refine R_ialdE dX12_goOn_254 sh_506 (ix3 n p) (by have := dg_lt2 hd; omega) (by decide) (hT1.t hn ht (dg_lt2 hd)) ?_
      refine R_bipush (v := 48) dX12_goOn_255 (by decide) ?_
      refine R_isub dX12_goOn_257 ?_
      rw [ed, dg_sub]
      refine R_iload_4 dX12_goOn_258 ?_
      refine R_iload_2 dX12_goOn_260 ?_
      refine R_callV (T := mX12_goOn) (T' := mX12_goDown) (As := [_, _, _, _]) (ci := 12) okX12_goDown mlX12_258 rfl (by decide) sh_504 (ct_goDown (n := n) (m := dj) (p := p) (l := l) hR1 hT1 (by omega) hl (fun z => h96b dj (by omega) z)) rfl (by decide) (by decide) (Nat.le_of_ble_eq_true rfl) dX12_goOn_261 (fun v9 S9 V2 h9 => ?_) (fun E S9 V9 h9 => h9.elim)
      obtain ⟨hS9, q⟩ := h9
      subst hS9
      rcases q with ⟨a1, rfl, a3, a4⟩ | ⟨a1, a2, rfl, a3, a4⟩ | ⟨a1, a2, rfl, a3, a4, a5, a6, a7⟩
      · refine R_goto 268 dX12_goOn_264 (by decide) ?_
        exact R_iret rfl dX12_goOn_268 ⟨rfl, Or.inr ⟨hz, f1.n.trans a4, Or.inl ⟨by rw [edg]; exact a1, rfl, a3⟩⟩⟩
      · refine R_goto 268 dX12_goOn_264 (by decide) ?_
        exact R_iret rfl dX12_goOn_268 ⟨rfl, Or.inr ⟨hz, f1.n.trans a4, Or.inr (Or.inl ⟨by rw [edg]; exact a1, a2, rfl, a3⟩)⟩⟩
      · refine R_goto 268 dX12_goOn_264 (by decide) ?_
        refine R_iret rfl dX12_goOn_268 ⟨rfl, Or.inr ⟨hz, f1.n.trans a5, Or.inr (Or.inr ⟨by rw [edg]; exact a1, a2, by omega, rfl, by rw [edg]; exact a3, ?_, a4, (a6 529 (by decide)).trans (a_up_row (by decide)), (a6 504 (by decide)).trans (a_up_row (by decide))⟩)⟩⟩
        subst hz
        exact ⟨(a7 530 (by decide) (by decide) (by decide) l (Nat.le_refl _)).trans ((a_up_ne (Or.inl (by decide))).trans w0), (a7 532 (by decide) (by decide) (by decide) l (Nat.le_refl _)).trans (a_up_self _ _ _ _), (a7 533 (by decide) (by decide) (by decide) l (Nat.le_refl _)).trans ((a_up_ne (Or.inl (by decide))).trans w2), (a7 534 (by decide) (by decide) (by decide) l (Nat.le_refl _)).trans ((a_up_ne (Or.inl (by decide))).trans w3), (a7 535 (by decide) (by decide) (by decide) l (Nat.le_refl _)).trans ((a_up_ne (Or.inl (by decide))).trans w4)⟩

set_option maxHeartbeats 4000000 in
theorem ct_go_e {V : aV} {T : Nat → List Int32} {to : Nat → Bool} {ent : Nat → EntN} {cnt g n p : Nat} (hR : MR V) (hT : MT V T to) (hEn : ME V ent cnt) (hEO : ∀ k, k < 12 → EO (ent k)) (hg : MBR g) (hn : n < 8) (ht : to n = true) (h96 : (T n).length ≤ 96) {l dp fi dd : Nat} (hW : LW V l n p dp fi dd) (hl : l < 5) (hp : p < (T n).length) {x : List Int32} (hX : TX V x) (hz33 : V 504 33 = .int 0) (c1 : ¬ (T n).getD p 0 = 91) (c2 : ¬ (T n).getD p 0 = 124) (c3 : ¬ (T n).getD p 0 = 93) (c4 : ¬ (T n).getD p 0 = 64) (hf : (T n).getD p 0 = 60 → isFd ((T n).getD (p + 1) 0)) (hgl : (gvs ent g (T n) p).length ≤ 200) (hdd : dd < 100) : CT mX12_goOn 3 0 0 [.ref 504, .int (nI n), .int (nI l), .int (nI g)] Sh V (fun v S' V' => some (.int (nI l)) = v ∧ Sh = S' ∧ ((¬ dd = 0 ∧ LW V' l n (p + if (T n).getD p 0 = 60 then 3 else 1) dp fi dd ∧ FrLv l V V') ∨ (dd = 0 ∧ FrN l V V' ∧ ((¬ 160 - x.length < (gvs ent g (T n) p).length ∧ TX V' (x ++ gvs ent g (T n) p) ∧ V' 504 33 = .int 0 ∧ LW V' l n (p + if (T n).getD p 0 = 60 then 3 else 1) dp fi 0) ∨ (160 - x.length < (gvs ent g (T n) p).length ∧ TRo V' l n p 3))))) aNo := by
  refine CT_of (by decide +kernel) (Nat.le_of_ble_eq_true rfl) ?_
  show R _ _ _ _ _ _ _ _ 0 [some (.ref 504), some (.int (nI n)), some (.int (nI l)), some (.int (nI g)), none, none, none, none] [] _ _
  obtain ⟨w0, w1, w2, w3, w4⟩ := id hW
  refine R_aload_0 dX12_goOn_0 ?_
  refine gfX12_99 rfl dX12_goOn_1 sh_504 (by first | exact hR.g (k := 38) (a := 532) (by decide) | exact (a_up_ne (by omega)).trans (hR.g (k := 38) (a := 532) (by decide)) | exact (a_up_ne (by omega)).trans ((a_up_ne (by omega)).trans (hR.g (k := 38) (a := 532) (by decide))) | exact (a_up_ne (by omega)).trans ((a_up_ne (by omega)).trans ((a_up_ne (by omega)).trans (hR.g (k := 38) (a := 532) (by decide)))) | exact (a_up_ne (by omega)).trans ((a_up_ne (by omega)).trans ((a_up_ne (by omega)).trans ((a_up_ne (by omega)).trans (hR.g (k := 38) (a := 532) (by decide))))) | exact (a_up_ne (by omega)).trans ((a_up_ne (by omega)).trans ((a_up_ne (by omega)).trans ((a_up_ne (by omega)).trans ((a_up_ne (by omega)).trans (hR.g (k := 38) (a := 532) (by decide)))))) | exact (a_up_ne (by omega)).trans ((a_up_ne (by omega)).trans ((a_up_ne (by omega)).trans ((a_up_ne (by omega)).trans ((a_up_ne (by omega)).trans ((a_up_ne (by omega)).trans (hR.g (k := 38) (a := 532) (by decide)))))))) ?_
  refine R_iload_2 dX12_goOn_4 ?_
  refine R_ialdE dX12_goOn_5 sh_532 rfl (by omega) (by decide) w1 ?_
  refine R_istore_4 rfl (by decide) dX12_goOn_6 ?_
  refine R_aload_0 dX12_goOn_8 ?_
  refine gfX12_13 rfl dX12_goOn_9 sh_504 (by first | exact hR.g (k := 3) (a := 506) (by decide) | exact (a_up_ne (by omega)).trans (hR.g (k := 3) (a := 506) (by decide)) | exact (a_up_ne (by omega)).trans ((a_up_ne (by omega)).trans (hR.g (k := 3) (a := 506) (by decide))) | exact (a_up_ne (by omega)).trans ((a_up_ne (by omega)).trans ((a_up_ne (by omega)).trans (hR.g (k := 3) (a := 506) (by decide)))) | exact (a_up_ne (by omega)).trans ((a_up_ne (by omega)).trans ((a_up_ne (by omega)).trans ((a_up_ne (by omega)).trans (hR.g (k := 3) (a := 506) (by decide))))) | exact (a_up_ne (by omega)).trans ((a_up_ne (by omega)).trans ((a_up_ne (by omega)).trans ((a_up_ne (by omega)).trans ((a_up_ne (by omega)).trans (hR.g (k := 3) (a := 506) (by decide)))))) | exact (a_up_ne (by omega)).trans ((a_up_ne (by omega)).trans ((a_up_ne (by omega)).trans ((a_up_ne (by omega)).trans ((a_up_ne (by omega)).trans ((a_up_ne (by omega)).trans (hR.g (k := 3) (a := 506) (by decide)))))))) ?_
  refine R_bipush (v := 96) dX12_goOn_12 (by decide) ?_
  refine R_iload_1 dX12_goOn_14 ?_
  refine R_imul dX12_goOn_15 ?_
  refine R_iload_4 dX12_goOn_16 ?_
  refine R_iadd dX12_goOn_18 ?_
  refine R_ialdE dX12_goOn_19 sh_506 (ix1 96 n p) (by omega) (by decide) (hT.t hn ht hp) ?_
  refine R_istore_5 rfl (by decide) dX12_goOn_20 ?_
  refine R_aload_0 dX12_goOn_22 ?_
  refine gfX12_108 rfl dX12_goOn_23 sh_504 (by first | exact hR.g (k := 41) (a := 535) (by decide) | exact (a_up_ne (by omega)).trans (hR.g (k := 41) (a := 535) (by decide)) | exact (a_up_ne (by omega)).trans ((a_up_ne (by omega)).trans (hR.g (k := 41) (a := 535) (by decide))) | exact (a_up_ne (by omega)).trans ((a_up_ne (by omega)).trans ((a_up_ne (by omega)).trans (hR.g (k := 41) (a := 535) (by decide)))) | exact (a_up_ne (by omega)).trans ((a_up_ne (by omega)).trans ((a_up_ne (by omega)).trans ((a_up_ne (by omega)).trans (hR.g (k := 41) (a := 535) (by decide))))) | exact (a_up_ne (by omega)).trans ((a_up_ne (by omega)).trans ((a_up_ne (by omega)).trans ((a_up_ne (by omega)).trans ((a_up_ne (by omega)).trans (hR.g (k := 41) (a := 535) (by decide)))))) | exact (a_up_ne (by omega)).trans ((a_up_ne (by omega)).trans ((a_up_ne (by omega)).trans ((a_up_ne (by omega)).trans ((a_up_ne (by omega)).trans ((a_up_ne (by omega)).trans (hR.g (k := 41) (a := 535) (by decide)))))))) ?_
  refine R_iload_2 dX12_goOn_26 ?_
  refine R_ialdE dX12_goOn_27 sh_535 rfl (by omega) (by decide) w4 ?_
  refine R_if_ne 35 dX12_goOn_28 (by decide) (fun c28 => ?_) (fun c28 => ?_)
  · have hz : ¬ dd = 0 := fun z => c28 (by rw [z]; rfl)
    refine R_iconst (v := 0) dX12_goOn_35 (by decide) ?_
    refine R_istore_6 rfl (by decide) dX12_goOn_36 ?_
    refine R_iload_5 dX12_goOn_38 ?_
    refine R_bipush (v := 91) dX12_goOn_40 (by decide) ?_
    refine R_icmp_ne 55 dX12_goOn_42 (by decide) (fun c42 => ?_) (fun c42 => absurd c42 c1)
    refine R_iload_5 dX12_goOn_55 ?_
    refine R_bipush (v := 124) dX12_goOn_57 (by decide) ?_
    refine R_icmp_ne 156 dX12_goOn_59 (by decide) (fun c59 => ?_) (fun c59 => absurd c59 c2)
    refine R_iload_5 dX12_goOn_156 ?_
    refine R_bipush (v := 93) dX12_goOn_158 (by decide) ?_
    refine R_icmp_ne 217 dX12_goOn_160 (by decide) (fun c160 => ?_) (fun c160 => absurd c160 c3)
    refine R_iload_5 dX12_goOn_217 ?_
    refine R_bipush (v := 64) dX12_goOn_219 (by decide) ?_
    refine R_icmp_ne 269 dX12_goOn_221 (by decide) (fun c221 => ?_) (fun c221 => absurd c221 c4)
    refine R_aload_0 dX12_goOn_269 ?_
    refine gfX12_99 rfl dX12_goOn_270 sh_504 (by first | exact hR.g (k := 38) (a := 532) (by decide) | exact (a_up_ne (by omega)).trans (hR.g (k := 38) (a := 532) (by decide)) | exact (a_up_ne (by omega)).trans ((a_up_ne (by omega)).trans (hR.g (k := 38) (a := 532) (by decide))) | exact (a_up_ne (by omega)).trans ((a_up_ne (by omega)).trans ((a_up_ne (by omega)).trans (hR.g (k := 38) (a := 532) (by decide)))) | exact (a_up_ne (by omega)).trans ((a_up_ne (by omega)).trans ((a_up_ne (by omega)).trans ((a_up_ne (by omega)).trans (hR.g (k := 38) (a := 532) (by decide))))) | exact (a_up_ne (by omega)).trans ((a_up_ne (by omega)).trans ((a_up_ne (by omega)).trans ((a_up_ne (by omega)).trans ((a_up_ne (by omega)).trans (hR.g (k := 38) (a := 532) (by decide)))))) | exact (a_up_ne (by omega)).trans ((a_up_ne (by omega)).trans ((a_up_ne (by omega)).trans ((a_up_ne (by omega)).trans ((a_up_ne (by omega)).trans ((a_up_ne (by omega)).trans (hR.g (k := 38) (a := 532) (by decide)))))))) ?_
    refine R_iload_2 dX12_goOn_273 ?_
    refine R_dup2_11 dX12_goOn_274 rfl rfl ?_
    refine R_ialdE dX12_goOn_275 sh_532 rfl (by omega) (by decide) w1 ?_
    refine R_iload_5 dX12_goOn_276 ?_
    refine R_bipush (v := 60) dX12_goOn_278 (by decide) ?_
    refine R_icmp_ne 287 dX12_goOn_280 (by decide) (fun c280 => ?_) (fun c280 => ?_)
    · refine R_iconst (v := 1) dX12_goOn_287 (by decide) ?_
      refine R_iadd dX12_goOn_288 ?_
      first
        | rw [show nI p + 3 = nI (p + if (T n).getD p 0 = 60 then 3 else 1) by rw [if_pos c280]; exact nI_add _ 3]
        | rw [show nI p + 1 = nI (p + if (T n).getD p 0 = 60 then 3 else 1) by rw [if_neg c280]; exact nI_1 _]
      refine R_iastE dX12_goOn_289 sh_532 rfl (by omega) (by decide) ?_
      refine R_iload_6 dX12_goOn_290 ?_
      refine R_if_eq 313 dX12_goOn_292 (by decide) (fun c292 => ?_) (fun c292 => ?_)
      · first
          | exact absurd c292 (by decide)
          | exact absurd rfl c292
          | (refine R_iload_2 dX12_goOn_313 ?_
             exact R_iret rfl dX12_goOn_314 ⟨rfl, rfl, Or.inl ⟨hz, ⟨((a_up_ne (Or.inl (by decide))).trans w0), (a_up_self _ _ _ _), ((a_up_ne (Or.inl (by decide))).trans w2), ((a_up_ne (Or.inl (by decide))).trans w3), ((a_up_ne (Or.inl (by decide))).trans w4)⟩, (FrLv.u (V := V) (l := l) (a := 532) (v := .int (nI (p + if (T n).getD p 0 = 60 then 3 else 1))) (by decide) (by decide))⟩⟩)
      · exact absurd rfl c292
    · refine R_iconst (v := 3) dX12_goOn_283 (by decide) ?_
      refine R_goto 288 dX12_goOn_284 (by decide) ?_
      refine R_iadd dX12_goOn_288 ?_
      first
        | rw [show nI p + 3 = nI (p + if (T n).getD p 0 = 60 then 3 else 1) by rw [if_pos c280]; exact nI_add _ 3]
        | rw [show nI p + 1 = nI (p + if (T n).getD p 0 = 60 then 3 else 1) by rw [if_neg c280]; exact nI_1 _]
      refine R_iastE dX12_goOn_289 sh_532 rfl (by omega) (by decide) ?_
      refine R_iload_6 dX12_goOn_290 ?_
      refine R_if_eq 313 dX12_goOn_292 (by decide) (fun c292 => ?_) (fun c292 => ?_)
      · first
          | exact absurd c292 (by decide)
          | exact absurd rfl c292
          | (refine R_iload_2 dX12_goOn_313 ?_
             exact R_iret rfl dX12_goOn_314 ⟨rfl, rfl, Or.inl ⟨hz, ⟨((a_up_ne (Or.inl (by decide))).trans w0), (a_up_self _ _ _ _), ((a_up_ne (Or.inl (by decide))).trans w2), ((a_up_ne (Or.inl (by decide))).trans w3), ((a_up_ne (Or.inl (by decide))).trans w4)⟩, (FrLv.u (V := V) (l := l) (a := 532) (v := .int (nI (p + if (T n).getD p 0 = 60 then 3 else 1))) (by decide) (by decide))⟩⟩)
      · exact absurd rfl c292
  · have hz : dd = 0 := nI_0of (by omega) c28
    refine R_iconst (v := 1) dX12_goOn_31 (by decide) ?_
    refine R_goto 36 dX12_goOn_32 (by decide) ?_
    refine R_istore_6 rfl (by decide) dX12_goOn_36 ?_
    refine R_iload_5 dX12_goOn_38 ?_
    refine R_bipush (v := 91) dX12_goOn_40 (by decide) ?_
    refine R_icmp_ne 55 dX12_goOn_42 (by decide) (fun c42 => ?_) (fun c42 => absurd c42 c1)
    refine R_iload_5 dX12_goOn_55 ?_
    refine R_bipush (v := 124) dX12_goOn_57 (by decide) ?_
    refine R_icmp_ne 156 dX12_goOn_59 (by decide) (fun c59 => ?_) (fun c59 => absurd c59 c2)
    refine R_iload_5 dX12_goOn_156 ?_
    refine R_bipush (v := 93) dX12_goOn_158 (by decide) ?_
    refine R_icmp_ne 217 dX12_goOn_160 (by decide) (fun c160 => ?_) (fun c160 => absurd c160 c3)
    refine R_iload_5 dX12_goOn_217 ?_
    refine R_bipush (v := 64) dX12_goOn_219 (by decide) ?_
    refine R_icmp_ne 269 dX12_goOn_221 (by decide) (fun c221 => ?_) (fun c221 => absurd c221 c4)
    refine R_aload_0 dX12_goOn_269 ?_
    refine gfX12_99 rfl dX12_goOn_270 sh_504 (by first | exact hR.g (k := 38) (a := 532) (by decide) | exact (a_up_ne (by omega)).trans (hR.g (k := 38) (a := 532) (by decide)) | exact (a_up_ne (by omega)).trans ((a_up_ne (by omega)).trans (hR.g (k := 38) (a := 532) (by decide))) | exact (a_up_ne (by omega)).trans ((a_up_ne (by omega)).trans ((a_up_ne (by omega)).trans (hR.g (k := 38) (a := 532) (by decide)))) | exact (a_up_ne (by omega)).trans ((a_up_ne (by omega)).trans ((a_up_ne (by omega)).trans ((a_up_ne (by omega)).trans (hR.g (k := 38) (a := 532) (by decide))))) | exact (a_up_ne (by omega)).trans ((a_up_ne (by omega)).trans ((a_up_ne (by omega)).trans ((a_up_ne (by omega)).trans ((a_up_ne (by omega)).trans (hR.g (k := 38) (a := 532) (by decide)))))) | exact (a_up_ne (by omega)).trans ((a_up_ne (by omega)).trans ((a_up_ne (by omega)).trans ((a_up_ne (by omega)).trans ((a_up_ne (by omega)).trans ((a_up_ne (by omega)).trans (hR.g (k := 38) (a := 532) (by decide)))))))) ?_
    refine R_iload_2 dX12_goOn_273 ?_
    refine R_dup2_11 dX12_goOn_274 rfl rfl ?_
    refine R_ialdE dX12_goOn_275 sh_532 rfl (by omega) (by decide) w1 ?_
    refine R_iload_5 dX12_goOn_276 ?_
    refine R_bipush (v := 60) dX12_goOn_278 (by decide) ?_
    refine R_icmp_ne 287 dX12_goOn_280 (by decide) (fun c280 => ?_) (fun c280 => ?_)
    · refine R_iconst (v := 1) dX12_goOn_287 (by decide) ?_
      refine R_iadd dX12_goOn_288 ?_
      first
        | rw [show nI p + 3 = nI (p + if (T n).getD p 0 = 60 then 3 else 1) by rw [if_pos c280]; exact nI_add _ 3]
        | rw [show nI p + 1 = nI (p + if (T n).getD p 0 = 60 then 3 else 1) by rw [if_neg c280]; exact nI_1 _]
      refine R_iastE dX12_goOn_289 sh_532 rfl (by omega) (by decide) ?_
      refine R_iload_6 dX12_goOn_290 ?_
      refine R_if_eq 313 dX12_goOn_292 (by decide) (fun c292 => ?_) (fun c292 => ?_)
      · first
          | exact absurd c292 (by decide)
          | exact absurd rfl c292
          | (refine R_iload_2 dX12_goOn_313 ?_
             exact R_iret rfl dX12_goOn_314 ⟨rfl, rfl, Or.inl ⟨hz, ⟨((a_up_ne (Or.inl (by decide))).trans w0), (a_up_self _ _ _ _), ((a_up_ne (Or.inl (by decide))).trans w2), ((a_up_ne (Or.inl (by decide))).trans w3), ((a_up_ne (Or.inl (by decide))).trans w4)⟩, (FrLv.u (V := V) (l := l) (a := 532) (v := .int (nI (p + if (T n).getD p 0 = 60 then 3 else 1))) (by decide) (by decide))⟩⟩)
      · have f1 := (FrLv.u (V := V) (l := l) (a := 532) (v := .int (nI (p + if (T n).getD p 0 = 60 then 3 else 1))) (by decide) (by decide))
        have hR1 := f1.mr hR
        have hT1 := f1.n.mt hT
        have hE1 := f1.n.me hEn
        have hX1 := f1.tx hX
        have hz1 := (f1.2.1 33 (by decide)).trans hz33
        refine R_aload_0 dX12_goOn_295 ?_
        refine R_iload_1 dX12_goOn_296 ?_
        refine R_iload_4 dX12_goOn_297 ?_
        refine R_iload_5 dX12_goOn_299 ?_
        refine R_iload_3 dX12_goOn_301 ?_
        refine R_callV (T := mX12_goOn) (T' := mX12_giveSign) (As := [_, _, _, _]) (ci := 12) okX12_giveSign mlX12_262 rfl (by decide) sh_504 (ct_giveSign hR1 hT1 hE1 hEO hg hn ht h96 hp hf) rfl (by decide) (by decide) (Nat.le_of_ble_eq_true rfl) dX12_goOn_302 (fun v9 S9 V2 h9 => ?_) (fun E S9 V9 h9 => h9.elim)
        obtain ⟨rfl, rfl, g4, u4⟩ := h9
        have hR2 := u4.mr hR1
        have hX2 := u4.tx hX1
        have hz2 := (u4.2 33 (by decide)).trans hz1
        refine R_aload_0 dX12_goOn_305 ?_
        refine R_iload_1 dX12_goOn_306 ?_
        refine R_iload_4 dX12_goOn_307 ?_
        refine R_iload_2 dX12_goOn_309 ?_
        refine R_callV (T := mX12_goOn) (T' := mX12_add) (As := [_, _, _]) (ci := 12) okX12_add mlX12_265 rfl (by decide) sh_504 (ct_madd (n := n) (p := p) (l := l) hR2 g4 hgl hl hX2 hz2) rfl (by decide) (by decide) (Nat.le_of_ble_eq_true rfl) dX12_goOn_310 (fun v9 S9 V3 h9 => ?_) (fun E S9 V9 h9 => h9.elim)
        obtain ⟨rfl, rfl, g5, u5⟩ := h9
        have fz := f1.n.trans ((u4.n (l := l)).trans u5)
        refine R_iload_2 dX12_goOn_313 ?_
        refine R_iret rfl dX12_goOn_314 ⟨rfl, rfl, Or.inr ⟨hz, fz, g5.elim (fun q => Or.inl ⟨q.1, q.2.1, q.2.2.1, ⟨((congrFun ((q.2.2.2 530 (by decide) (by decide)).trans (u4.1 530 (by decide) (by decide))) l).trans ((a_up_ne (Or.inl (by decide))).trans w0)), ((congrFun ((q.2.2.2 532 (by decide) (by decide)).trans (u4.1 532 (by decide) (by decide))) l).trans (a_up_self _ _ _ _)), ((congrFun ((q.2.2.2 533 (by decide) (by decide)).trans (u4.1 533 (by decide) (by decide))) l).trans ((a_up_ne (Or.inl (by decide))).trans w2)), ((congrFun ((q.2.2.2 534 (by decide) (by decide)).trans (u4.1 534 (by decide) (by decide))) l).trans ((a_up_ne (Or.inl (by decide))).trans w3)), ((congrFun ((q.2.2.2 535 (by decide) (by decide)).trans (u4.1 535 (by decide) (by decide))) l).trans (((a_up_ne (Or.inl (by decide))).trans w4).trans (by rw [hz])))⟩⟩) Or.inr⟩⟩
    · refine R_iconst (v := 3) dX12_goOn_283 (by decide) ?_
      refine R_goto 288 dX12_goOn_284 (by decide) ?_
      refine R_iadd dX12_goOn_288 ?_
      first
        | rw [show nI p + 3 = nI (p + if (T n).getD p 0 = 60 then 3 else 1) by rw [if_pos c280]; exact nI_add _ 3]
        | rw [show nI p + 1 = nI (p + if (T n).getD p 0 = 60 then 3 else 1) by rw [if_neg c280]; exact nI_1 _]
      refine R_iastE dX12_goOn_289 sh_532 rfl (by omega) (by decide) ?_
      refine R_iload_6 dX12_goOn_290 ?_
      refine R_if_eq 313 dX12_goOn_292 (by decide) (fun c292 => ?_) (fun c292 => ?_)
      · first
          | exact absurd c292 (by decide)
          | exact absurd rfl c292
          | (refine R_iload_2 dX12_goOn_313 ?_
             exact R_iret rfl dX12_goOn_314 ⟨rfl, rfl, Or.inl ⟨hz, ⟨((a_up_ne (Or.inl (by decide))).trans w0), (a_up_self _ _ _ _), ((a_up_ne (Or.inl (by decide))).trans w2), ((a_up_ne (Or.inl (by decide))).trans w3), ((a_up_ne (Or.inl (by decide))).trans w4)⟩, (FrLv.u (V := V) (l := l) (a := 532) (v := .int (nI (p + if (T n).getD p 0 = 60 then 3 else 1))) (by decide) (by decide))⟩⟩)
      · have f1 := (FrLv.u (V := V) (l := l) (a := 532) (v := .int (nI (p + if (T n).getD p 0 = 60 then 3 else 1))) (by decide) (by decide))
        have hR1 := f1.mr hR
        have hT1 := f1.n.mt hT
        have hE1 := f1.n.me hEn
        have hX1 := f1.tx hX
        have hz1 := (f1.2.1 33 (by decide)).trans hz33
        refine R_aload_0 dX12_goOn_295 ?_
        refine R_iload_1 dX12_goOn_296 ?_
        refine R_iload_4 dX12_goOn_297 ?_
        refine R_iload_5 dX12_goOn_299 ?_
        refine R_iload_3 dX12_goOn_301 ?_
        refine R_callV (T := mX12_goOn) (T' := mX12_giveSign) (As := [_, _, _, _]) (ci := 12) okX12_giveSign mlX12_262 rfl (by decide) sh_504 (ct_giveSign hR1 hT1 hE1 hEO hg hn ht h96 hp hf) rfl (by decide) (by decide) (Nat.le_of_ble_eq_true rfl) dX12_goOn_302 (fun v9 S9 V2 h9 => ?_) (fun E S9 V9 h9 => h9.elim)
        obtain ⟨rfl, rfl, g4, u4⟩ := h9
        have hR2 := u4.mr hR1
        have hX2 := u4.tx hX1
        have hz2 := (u4.2 33 (by decide)).trans hz1
        refine R_aload_0 dX12_goOn_305 ?_
        refine R_iload_1 dX12_goOn_306 ?_
        refine R_iload_4 dX12_goOn_307 ?_
        refine R_iload_2 dX12_goOn_309 ?_
        refine R_callV (T := mX12_goOn) (T' := mX12_add) (As := [_, _, _]) (ci := 12) okX12_add mlX12_265 rfl (by decide) sh_504 (ct_madd (n := n) (p := p) (l := l) hR2 g4 hgl hl hX2 hz2) rfl (by decide) (by decide) (Nat.le_of_ble_eq_true rfl) dX12_goOn_310 (fun v9 S9 V3 h9 => ?_) (fun E S9 V9 h9 => h9.elim)
        obtain ⟨rfl, rfl, g5, u5⟩ := h9
        have fz := f1.n.trans ((u4.n (l := l)).trans u5)
        refine R_iload_2 dX12_goOn_313 ?_
        refine R_iret rfl dX12_goOn_314 ⟨rfl, rfl, Or.inr ⟨hz, fz, g5.elim (fun q => Or.inl ⟨q.1, q.2.1, q.2.2.1, ⟨((congrFun ((q.2.2.2 530 (by decide) (by decide)).trans (u4.1 530 (by decide) (by decide))) l).trans ((a_up_ne (Or.inl (by decide))).trans w0)), ((congrFun ((q.2.2.2 532 (by decide) (by decide)).trans (u4.1 532 (by decide) (by decide))) l).trans (a_up_self _ _ _ _)), ((congrFun ((q.2.2.2 533 (by decide) (by decide)).trans (u4.1 533 (by decide) (by decide))) l).trans ((a_up_ne (Or.inl (by decide))).trans w2)), ((congrFun ((q.2.2.2 534 (by decide) (by decide)).trans (u4.1 534 (by decide) (by decide))) l).trans ((a_up_ne (Or.inl (by decide))).trans w3)), ((congrFun ((q.2.2.2 535 (by decide) (by decide)).trans (u4.1 535 (by decide) (by decide))) l).trans (((a_up_ne (Or.inl (by decide))).trans w4).trans (by rw [hz])))⟩⟩) Or.inr⟩⟩

