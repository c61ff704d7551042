theorem wsL_law_x2 : ∀ w ∈ (vx_atS RX10 175 "java/lang/IllegalArgumentException" ["java/lang/RuntimeException", "java/lang/Exception"]).filter goodWord, w ∈ lw_tbl := by decide +kernel
