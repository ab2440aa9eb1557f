def lk_E : String := "java/lang/IndexOutOfBoundsException"
def lk_names : List String := ["java/lang/RuntimeException", "java/lang/Exception"]
theorem lk_fit : Bundle.fit lk_E = true := by decide +kernel
theorem lk_fits : ∀ n ∈ lk_names, Bundle.fit n = true := by decide +kernel
theorem lk_ot : ∀ w ∈ Jvm.Cond.classLink RX11 159 lk_E :: Jvm.Cond.initialized lk_E :: vx_atS RX11 163 lk_E lk_names, vx_ot w = true := by decide +kernel
theorem lk_cw : av_in (6, 63) (.codeWith yL_look cL_look 5 (some .int) [(0, 10, 13, 13), (0, 10, 17, 15)]) = true := by decide +kernel
theorem lk_good : ∀ w ∈ (vx_atS RX11 163 lk_E lk_names).filter goodWord, w ∈ lw_tbl := by decide +kernel
