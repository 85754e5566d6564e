/-! ===== throws ===== -/
section ATHROW
variable {T : aMt} {r mc ms : Nat} {Q : Option Value → aS → aV → Prop} {QX : String → aS → aV → Prop} {kc ks pc : Nat} {lv : List (Option Value)} {st : List Value} {S : aS} {V : aV}
theorem a_fit2 : ∀ n ∈ ["java/lang/RuntimeException", "java/lang/Exception"], Bundle.fit n = true := by decide +kernel
theorem R_throw {cls text : String} {ik is ic : Nat} {names : List String} (hl2 : names.length = 2) (hnm : ∀ n ∈ names, Bundle.fit n = true) (hcls : Bundle.fit cls = true) (hk : Cond.classLink T.1.cls ik cls ∈ aT) (hini : Cond.initialized cls ∈ aT) (hstr : Cond.stringRef T.1.cls is text ∈ aR)
    (hat : ∀ w ∈ (vx_atS T.1.cls ic cls names).filter goodWord, w ∈ aT) (hat2 : ∀ w ∈ (vx_atS T.1.cls ic cls names).filter (fun w => !goodWord w), w ∈ aN ∧ w.onTables = true)
    (hgood : ∀ w ∈ Cond.classLink T.1.cls ik cls :: Cond.initialized cls :: vx_atS T.1.cls ic cls names, vx_ot w = true)
    (d0 : decode T.2.1 pc = .ok (.new ik, 3)) (d3 : decode T.2.1 (pc + 3) = .ok (.dup, 1)) (d4 : decode T.2.1 (pc + 4) = .ok (.ldc is, 2)) (d6 : decode T.2.1 (pc + 6) = .ok (.invokespecial ic, 3)) (d9 : decode T.2.1 (pc + 9) = .ok (.athrow, 1))
    (hr : 6 ≤ r) (hst : (st.map fun v => v.category).sum ≤ 8) (hS2 : S.2 = none) (hq : QX cls S V) : R T r mc ms Q QX (kc + 1) (ks + 6) (pc) (lv) (st) S V := by
  intro p l e s m args below meth c H locs cells slots D cA o x0 ls C K hl hP hz hS ho h1 h2
  obtain ⟨sa, hsa⟩ := K.2.2.1 _ _ _ hstr
  refine vx_throwS (names := names) (A := fun q => o ≤ q) C.1 C.2.1 C.2.2.2.2.2.2.2.2.2 C.2.2.2.1 hcls hnm (C.2.2.2.2.1 _ hk) (C.2.2.2.2.1 _ hini) hsa (fun w hw => ?_) hgood K.2.2.2.1 K.2.2.2.2.1 hS (hl.1.trans C.2.2.1.symm) d0 d3 d4 d6 d9 (fun x hx => (C.2.2.2.2.2.2.2.2.1 x hx).elim) (by rw [hl2]; exact hr) (by rw [a_cats, hl2]; show _ ≤ 40 * r; omega) (by show cells + 1 ≤ mc; omega) (by show slots + 6 ≤ ms; omega) C.2.2.2.2.2.2.1 (fun t _ hsz hkp => ?_) hS.2.2 (by omega) (by omega)
  · by_cases g : goodWord w = true
    · exact C.2.2.2.2.1 _ (hat w (List.mem_filter.mpr ⟨hw, g⟩))
    · have g2 : (!goodWord w) = true := by cases hgw : goodWord w; rfl; exact absurd hgw g
      obtain ⟨q1, q2⟩ := hat2 w (List.mem_filter.mpr ⟨hw, g2⟩)
      exact va_Nw.use q2 (K.2.1 _ q1)
  · refine ⟨⟨S, V, hq, hP.kept hkp, fun n hn => ?_⟩, Nat.le_trans hS.1 hsz, fun q hq1 hq2 => (hkp q (Nat.lt_of_lt_of_le hq1 hS.1)).trans (hS.2.1 q hq1 hq2)⟩
    rw [hS2] at hn; cases hn
end ATHROW
