set_option maxRecDepth 20000 in
theorem w_1_30 : (Jvm.Cond.instantiable "AssembleLines" (5 : Nat)) ∈ b_Ws := bw_1 (List.mem_of_getElem? (i := 30) rfl) rfl
set_option maxRecDepth 20000 in
theorem w_5_196 : (Jvm.Cond.instantiable "AssembleLinesModel" (72 : Nat)) ∈ b_Ws := bw_5 (List.mem_of_getElem? (i := 196) rfl) rfl

