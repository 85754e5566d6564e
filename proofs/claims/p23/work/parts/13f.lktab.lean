/-! ===== the table of likenesses ===== -/
def n32b (r : UInt32) : Bool := decide (r &&& 0x7fffffff ≤ 0x7f800000)
theorem n32_of {r : UInt32} (h : n32b r = true) : vf_n32 r := by unfold vf_n32; exact of_decide_eq_true h
/-- the same, its argument worked out first -/
def fc (n : UInt32) (k : UInt32 → Bool) : Bool := match n.toNat with
  | 0 => k 0
  | m + 1 => k (UInt32.ofNat (m + 1))
theorem fc_eq (n : UInt32) (k : UInt32 → Bool) : fc n k = k n := by
  unfold fc
  split
  · rename_i h; rw [show n = 0 from UInt32.toNat_inj.1 h]
  · rename_i m h; show k (UInt32.ofNat (m + 1)) = k n; rw [show m + 1 = n.toNat from h.symm, UInt32.ofNat_toNat]
def boT (u : UInt32) : Nat → UInt32 → Int32 → Bool
  | 0, _, _ => false
  | n + 1, v, e => if FP.fcmp v 1065353216 = some .lt then fc (FP.fmul v 1073741824) fun v2 => n32b v2 && boT u n v2 (e + -1) else fc (FP.fsub v 1065353216) fun w => n32b w && fc (FP.fmul w 1258291200) fun x => n32b x && (e <<< 23 + FP.f2i x).toUInt32 == u
def boK (u : UInt32) : Bool := if FP.fcmp u 0 = some .gt then boT u 8 u 127 else u == 0
def wv : List UInt32 := [0, 1034594984, 1035611784, 1036831952, 1038323256, 1040187392, 1041385764, 1042983596, 1044000396, 1045220556, 1046711864, 1048576000, 1049338600, 1049774372, 1050253722, 1051372202, 1052389004, 1052770304, 1053609164, 1054168406, 1054567862, 1055100472, 1055439406, 1056964608, 1057727208, 1057896676, 1058162980, 1058362710, 1058642330, 1059061760, 1059252410, 1059760810, 1060320051, 1060559726, 1060777612, 1061158912, 1061624946, 1061997773, 1062302813, 1062557013, 1062956471, 1063256064, 1063489081, 1063675494, 1063828014, 1063955115, 1065353216]
def hv : List UInt32 := [0, 1045220557]
def zv : List UInt32 := [0, 1036831949]
def wlv (d g : Nat) : UInt32 := if g = 0 then 1065353216 else FP.fsub 1065353216 (FP.fdiv (FP.i2f (nI d)) (FP.i2f (nI g)))
theorem wlv_tab : ((List.range 13).all fun g => (List.range (g + 1)).all fun d => fc (wlv d g) fun x => wv.contains x) = true := by decide +kernel
theorem wlv_in {d g : Nat} (hg : g ≤ 12) (hd : d ≤ g) : wlv d g ∈ wv := by
  have h := List.all_eq_true.1 (List.all_eq_true.1 wlv_tab g (List.mem_range.2 (by omega))) d (List.mem_range.2 (by omega))
  rw [fc_eq] at h
  exact List.contains_iff_mem.1 h
def lkT (a : UInt32) : Bool := fc (FP.fmul 1053609165 a) fun x => n32b x && wv.all fun b => fc (FP.fmul 1050253722 b) fun y => n32b y && fc (FP.fadd x y) fun s => n32b s && hv.all fun h => fc (FP.fadd s h) fun t => n32b t && zv.all fun z => fc (FP.fadd t z) fun u => n32b u && boK u
theorem lk_0 : lkT 0 = true := by decide +kernel
theorem lk_1 : lkT 1034594984 = true := by decide +kernel
theorem lk_2 : lkT 1035611784 = true := by decide +kernel
theorem lk_3 : lkT 1036831952 = true := by decide +kernel
theorem lk_4 : lkT 1038323256 = true := by decide +kernel
theorem lk_5 : lkT 1040187392 = true := by decide +kernel
theorem lk_6 : lkT 1041385764 = true := by decide +kernel
theorem lk_7 : lkT 1042983596 = true := by decide +kernel
theorem lk_8 : lkT 1044000396 = true := by decide +kernel
theorem lk_9 : lkT 1045220556 = true := by decide +kernel
theorem lk_10 : lkT 1046711864 = true := by decide +kernel
theorem lk_11 : lkT 1048576000 = true := by decide +kernel
theorem lk_12 : lkT 1049338600 = true := by decide +kernel
theorem lk_13 : lkT 1049774372 = true := by decide +kernel
theorem lk_14 : lkT 1050253722 = true := by decide +kernel
theorem lk_15 : lkT 1051372202 = true := by decide +kernel
theorem lk_16 : lkT 1052389004 = true := by decide +kernel
theorem lk_17 : lkT 1052770304 = true := by decide +kernel
theorem lk_18 : lkT 1053609164 = true := by decide +kernel
theorem lk_19 : lkT 1054168406 = true := by decide +kernel
theorem lk_20 : lkT 1054567862 = true := by decide +kernel
theorem lk_21 : lkT 1055100472 = true := by decide +kernel
theorem lk_22 : lkT 1055439406 = true := by decide +kernel
theorem lk_23 : lkT 1056964608 = true := by decide +kernel
theorem lk_24 : lkT 1057727208 = true := by decide +kernel
theorem lk_25 : lkT 1057896676 = true := by decide +kernel
theorem lk_26 : lkT 1058162980 = true := by decide +kernel
theorem lk_27 : lkT 1058362710 = true := by decide +kernel
theorem lk_28 : lkT 1058642330 = true := by decide +kernel
theorem lk_29 : lkT 1059061760 = true := by decide +kernel
theorem lk_30 : lkT 1059252410 = true := by decide +kernel
theorem lk_31 : lkT 1059760810 = true := by decide +kernel
theorem lk_32 : lkT 1060320051 = true := by decide +kernel
theorem lk_33 : lkT 1060559726 = true := by decide +kernel
theorem lk_34 : lkT 1060777612 = true := by decide +kernel
theorem lk_35 : lkT 1061158912 = true := by decide +kernel
theorem lk_36 : lkT 1061624946 = true := by decide +kernel
theorem lk_37 : lkT 1061997773 = true := by decide +kernel
theorem lk_38 : lkT 1062302813 = true := by decide +kernel
theorem lk_39 : lkT 1062557013 = true := by decide +kernel
theorem lk_40 : lkT 1062956471 = true := by decide +kernel
theorem lk_41 : lkT 1063256064 = true := by decide +kernel
theorem lk_42 : lkT 1063489081 = true := by decide +kernel
theorem lk_43 : lkT 1063675494 = true := by decide +kernel
theorem lk_44 : lkT 1063828014 = true := by decide +kernel
theorem lk_45 : lkT 1063955115 = true := by decide +kernel
theorem lk_46 : lkT 1065353216 = true := by decide +kernel
theorem lk_all : ∀ a ∈ wv, lkT a = true := by
  have h : wv.all lkT = true := by
    unfold wv
    simp only [List.all_cons, List.all_nil, lk_0, lk_1, lk_2, lk_3, lk_4, lk_5, lk_6, lk_7, lk_8, lk_9, lk_10, lk_11, lk_12, lk_13, lk_14, lk_15, lk_16, lk_17, lk_18, lk_19, lk_20, lk_21, lk_22, lk_23, lk_24, lk_25, lk_26, lk_27, lk_28, lk_29, lk_30, lk_31, lk_32, lk_33, lk_34, lk_35, lk_36, lk_37, lk_38, lk_39, lk_40, lk_41, lk_42, lk_43, lk_44, lk_45, lk_46, Bool.and_self]
  exact List.all_eq_true.1 h
theorem lk_use {a b h z : UInt32} (ha : a ∈ wv) (hb : b ∈ wv) (hh : h ∈ hv) (hz : z ∈ zv) : vf_n32 (FP.fmul 1053609165 a) ∧ vf_n32 (FP.fmul 1050253722 b) ∧ vf_n32 (FP.fadd (FP.fmul 1053609165 a) (FP.fmul 1050253722 b)) ∧ vf_n32 (FP.fadd (FP.fadd (FP.fmul 1053609165 a) (FP.fmul 1050253722 b)) h) ∧ vf_n32 (FP.fadd (FP.fadd (FP.fadd (FP.fmul 1053609165 a) (FP.fmul 1050253722 b)) h) z) ∧ boK (FP.fadd (FP.fadd (FP.fadd (FP.fmul 1053609165 a) (FP.fmul 1050253722 b)) h) z) = true := by
  have q := lk_all a ha
  unfold lkT at q
  rw [fc_eq, Bool.and_eq_true] at q
  obtain ⟨q1, q2⟩ := q
  have q3 := List.all_eq_true.1 q2 b hb
  rw [fc_eq, Bool.and_eq_true] at q3
  obtain ⟨q4, q5⟩ := q3
  rw [fc_eq, Bool.and_eq_true] at q5
  obtain ⟨q6, q7⟩ := q5
  have q8 := List.all_eq_true.1 q7 h hh
  rw [fc_eq, Bool.and_eq_true] at q8
  obtain ⟨q9, q10⟩ := q8
  have q11 := List.all_eq_true.1 q10 z hz
  rw [fc_eq, Bool.and_eq_true] at q11
  exact ⟨n32_of q1, n32_of q4, n32_of q6, n32_of q9, n32_of q11.1, q11.2⟩
