set_option maxRecDepth 20000 in
theorem w_1_17 : (Jvm.Cond.initialized "java/lang/Throwable") ∈ b_Ws := bw_1 (List.mem_of_getElem? (i := 17) rfl) rfl

