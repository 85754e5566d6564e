/-! ===== what a throw wants ===== -/
theorem th_i1 : ∀ w ∈ (vx_atS RX11 106 "java/lang/IndexOutOfBoundsException" ["java/lang/RuntimeException", "java/lang/Exception"]).filter goodWord, w ∈ aT := by decide +kernel
