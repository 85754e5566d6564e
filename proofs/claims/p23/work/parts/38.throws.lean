/-! ===== what a throw wants ===== -/
theorem th_i1 : ∀ w ∈ (vx_atS RX11 106 "java/lang/IndexOutOfBoundsException" ["java/lang/RuntimeException", "java/lang/Exception"]).filter goodWord, w ∈ aT := by decide +kernel
theorem th_i2 : ∀ w ∈ (vx_atS RX11 106 "java/lang/IndexOutOfBoundsException" ["java/lang/RuntimeException", "java/lang/Exception"]).filter (fun w => !goodWord w), w ∈ aN ∧ w.onTables = true := by decide +kernel
theorem th_i3 : ∀ w ∈ Cond.classLink RX11 102 "java/lang/IndexOutOfBoundsException" :: Cond.initialized "java/lang/IndexOutOfBoundsException" :: vx_atS RX11 106 "java/lang/IndexOutOfBoundsException" ["java/lang/RuntimeException", "java/lang/Exception"], vx_ot w = true := by decide +kernel
theorem th_i4 : Bundle.fit "java/lang/IndexOutOfBoundsException" = true := by decide +kernel
theorem th_i5 : Cond.initialized "java/lang/IndexOutOfBoundsException" ∈ aT := by decide +kernel
theorem th_a1 : ∀ w ∈ (vx_atS RX11 59 "java/lang/IllegalArgumentException" ["java/lang/RuntimeException", "java/lang/Exception"]).filter goodWord, w ∈ aT := by decide +kernel
theorem th_a2 : ∀ w ∈ (vx_atS RX11 59 "java/lang/IllegalArgumentException" ["java/lang/RuntimeException", "java/lang/Exception"]).filter (fun w => !goodWord w), w ∈ aN ∧ w.onTables = true := by decide +kernel
theorem th_a3 : ∀ w ∈ Cond.classLink RX11 55 "java/lang/IllegalArgumentException" :: Cond.initialized "java/lang/IllegalArgumentException" :: vx_atS RX11 59 "java/lang/IllegalArgumentException" ["java/lang/RuntimeException", "java/lang/Exception"], vx_ot w = true := by decide +kernel
theorem th_a4 : Bundle.fit "java/lang/IllegalArgumentException" = true := by decide +kernel
theorem th_a5 : Cond.initialized "java/lang/IllegalArgumentException" ∈ aT := by decide +kernel
theorem th_s1 : ∀ w ∈ (vx_atS RX11 76 "java/lang/IllegalStateException" ["java/lang/RuntimeException", "java/lang/Exception"]).filter goodWord, w ∈ aT := by decide +kernel
theorem th_s2 : ∀ w ∈ (vx_atS RX11 76 "java/lang/IllegalStateException" ["java/lang/RuntimeException", "java/lang/Exception"]).filter (fun w => !goodWord w), w ∈ aN ∧ w.onTables = true := by decide +kernel
theorem th_s3 : ∀ w ∈ Cond.classLink RX11 72 "java/lang/IllegalStateException" :: Cond.initialized "java/lang/IllegalStateException" :: vx_atS RX11 76 "java/lang/IllegalStateException" ["java/lang/RuntimeException", "java/lang/Exception"], vx_ot w = true := by decide +kernel
theorem th_s4 : Bundle.fit "java/lang/IllegalStateException" = true := by decide +kernel
theorem th_s5 : Cond.initialized "java/lang/IllegalStateException" ∈ aT := by decide +kernel
