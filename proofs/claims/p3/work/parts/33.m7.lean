set_option maxRecDepth 100000 in
theorem hb_46 : ∀ w ∈ (vx_atS RX12 46 "java/lang/IllegalStateException" ["java/lang/RuntimeException", "java/lang/Exception"]).filter (fun w => !goodWord w), w ∈ b_Xw "java/lang/IllegalStateException" := by decide +kernel
set_option maxRecDepth 100000 in
theorem hg_46_42 : ∀ w ∈ Cond.classLink RX12 42 "java/lang/IllegalStateException" :: Cond.initialized "java/lang/IllegalStateException" :: vx_atS RX12 46 "java/lang/IllegalStateException" ["java/lang/RuntimeException", "java/lang/Exception"], vx_ot w = true := by decide +kernel
set_option maxRecDepth 100000 in
theorem ha_46 : ∀ w ∈ (vx_atS RX12 46 "java/lang/IllegalStateException" ["java/lang/RuntimeException", "java/lang/Exception"]).filter goodWord, w ∈ b_Ws := by decide +kernel
set_option maxRecDepth 100000 in
theorem hb_57 : ∀ w ∈ (vx_atS RX12 57 "java/lang/IllegalArgumentException" ["java/lang/RuntimeException", "java/lang/Exception"]).filter (fun w => !goodWord w), w ∈ b_Xw "java/lang/IllegalArgumentException" := by decide +kernel
set_option maxRecDepth 100000 in
theorem hg_57_53 : ∀ w ∈ Cond.classLink RX12 53 "java/lang/IllegalArgumentException" :: Cond.initialized "java/lang/IllegalArgumentException" :: vx_atS RX12 57 "java/lang/IllegalArgumentException" ["java/lang/RuntimeException", "java/lang/Exception"], vx_ot w = true := by decide +kernel
set_option maxRecDepth 100000 in
theorem ha_57 : ∀ w ∈ (vx_atS RX12 57 "java/lang/IllegalArgumentException" ["java/lang/RuntimeException", "java/lang/Exception"]).filter goodWord, w ∈ b_Ws := by decide +kernel
set_option maxRecDepth 100000 in
theorem hb_85 : ∀ w ∈ (vx_atS RX12 85 "java/lang/IndexOutOfBoundsException" ["java/lang/RuntimeException", "java/lang/Exception"]).filter (fun w => !goodWord w), w ∈ b_Xw "java/lang/IndexOutOfBoundsException" := by decide +kernel
set_option maxRecDepth 100000 in
theorem hg_85_81 : ∀ w ∈ Cond.classLink RX12 81 "java/lang/IndexOutOfBoundsException" :: Cond.initialized "java/lang/IndexOutOfBoundsException" :: vx_atS RX12 85 "java/lang/IndexOutOfBoundsException" ["java/lang/RuntimeException", "java/lang/Exception"], vx_ot w = true := by decide +kernel
set_option maxRecDepth 100000 in
theorem ha_85 : ∀ w ∈ (vx_atS RX12 85 "java/lang/IndexOutOfBoundsException" ["java/lang/RuntimeException", "java/lang/Exception"]).filter goodWord, w ∈ b_Ws := by decide +kernel
