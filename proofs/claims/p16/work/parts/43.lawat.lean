
theorem lw_atx : ∀ w ∈ (Cond.classLink RL 19 "java/lang/ArrayIndexOutOfBoundsException" :: (vx_at0 RX8 132 "java/lang/ArrayIndexOutOfBoundsException" ["java/lang/IndexOutOfBoundsException", "java/lang/RuntimeException", "java/lang/Exception"]).filter goodWord), w ∈ lw_tbl := by decide +kernel
theorem lw_atg : ∀ w ∈ (Cond.classLink RL 19 "java/lang/ArrayIndexOutOfBoundsException" :: (vx_at0 RX8 132 "java/lang/ArrayIndexOutOfBoundsException" ["java/lang/IndexOutOfBoundsException", "java/lang/RuntimeException", "java/lang/Exception"]).filter goodWord), goodWord w = true := by decide +kernel
