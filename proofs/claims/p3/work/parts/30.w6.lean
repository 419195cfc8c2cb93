set_option maxRecDepth 20000 in
theorem w_5_200 : (Jvm.Cond.methodLink "AssembleLinesModel" (1 : Nat) ({ cls := "java/lang/Object", name := "<init>", desc := "()V" } : Jvm.MethodName)) ∈ b_Ws := bw_5 (List.mem_of_getElem? (i := 200) rfl) rfl
set_option maxRecDepth 20000 in
theorem w_5_201 : (Jvm.Cond.constantLong "AssembleLinesModel" (7 : Nat) (58320 : Int64)) ∈ b_Ws := bw_5 (List.mem_of_getElem? (i := 201) rfl) rfl
set_option maxRecDepth 20000 in
theorem w_5_202 : (Jvm.Cond.constantLong "AssembleLinesModel" (9 : Nat) (777 : Int64)) ∈ b_Ws := bw_5 (List.mem_of_getElem? (i := 202) rfl) rfl
set_option maxRecDepth 20000 in
theorem w_5_203 : (Jvm.Cond.constantLong "AssembleLinesModel" (11 : Nat) (4356 : Int64)) ∈ b_Ws := bw_5 (List.mem_of_getElem? (i := 203) rfl) rfl
set_option maxRecDepth 20000 in
theorem w_5_204 : (Jvm.Cond.constantLong "AssembleLinesModel" (13 : Nat) (79170 : Int64)) ∈ b_Ws := bw_5 (List.mem_of_getElem? (i := 204) rfl) rfl
set_option maxRecDepth 20000 in
theorem w_5_205 : (Jvm.Cond.constantLong "AssembleLinesModel" (15 : Nat) (2 : Int64)) ∈ b_Ws := bw_5 (List.mem_of_getElem? (i := 205) rfl) rfl
set_option maxRecDepth 20000 in
theorem w_5_206 : (Jvm.Cond.constantLong "AssembleLinesModel" (17 : Nat) (154 : Int64)) ∈ b_Ws := bw_5 (List.mem_of_getElem? (i := 206) rfl) rfl
set_option maxRecDepth 20000 in
theorem w_5_207 : (Jvm.Cond.constantLong "AssembleLinesModel" (19 : Nat) (791 : Int64)) ∈ b_Ws := bw_5 (List.mem_of_getElem? (i := 207) rfl) rfl
set_option maxRecDepth 20000 in
theorem w_5_208 : (Jvm.Cond.constantLong "AssembleLinesModel" (27 : Nat) (6091908 : Int64)) ∈ b_Ws := bw_5 (List.mem_of_getElem? (i := 208) rfl) rfl
set_option maxRecDepth 20000 in
theorem w_5_209 : (Jvm.Cond.constantLong "AssembleLinesModel" (29 : Nat) (322965701 : Int64)) ∈ b_Ws := bw_5 (List.mem_of_getElem? (i := 209) rfl) rfl
set_option maxRecDepth 20000 in
theorem w_5_210 : (Jvm.Cond.constantLong "AssembleLinesModel" (31 : Nat) (4256716 : Int64)) ∈ b_Ws := bw_5 (List.mem_of_getElem? (i := 210) rfl) rfl
set_option maxRecDepth 20000 in
theorem w_5_211 : (Jvm.Cond.constantLong "AssembleLinesModel" (33 : Nat) (78164 : Int64)) ∈ b_Ws := bw_5 (List.mem_of_getElem? (i := 211) rfl) rfl
set_option maxRecDepth 20000 in
theorem w_5_212 : (Jvm.Cond.constantLong "AssembleLinesModel" (35 : Nat) (218379407 : Int64)) ∈ b_Ws := bw_5 (List.mem_of_getElem? (i := 212) rfl) rfl
set_option maxRecDepth 20000 in
theorem w_5_213 : (Jvm.Cond.constantLong "AssembleLinesModel" (37 : Nat) (21380 : Int64)) ∈ b_Ws := bw_5 (List.mem_of_getElem? (i := 213) rfl) rfl
set_option maxRecDepth 20000 in
theorem w_5_214 : (Jvm.Cond.constant "AssembleLinesModel" (122 : Nat) (60000 : Int32)) ∈ b_Ws := bw_5 (List.mem_of_getElem? (i := 214) rfl) rfl
set_option maxRecDepth 20000 in
theorem w_5_215 : (Jvm.Cond.constant "AssembleLinesModel" (150 : Nat) (65536 : Int32)) ∈ b_Ws := bw_5 (List.mem_of_getElem? (i := 215) rfl) rfl
set_option maxRecDepth 20000 in
theorem w_5_216 : (Jvm.Cond.fieldLink "AssembleLinesModel" (21 : Nat) "AssembleLinesModel" "plainNames" "[J") ∈ b_Ws := bw_5 (List.mem_of_getElem? (i := 216) rfl) rfl
set_option maxRecDepth 20000 in
theorem w_5_217 : (Jvm.Cond.fieldLink "AssembleLinesModel" (39 : Nat) "AssembleLinesModel" "dotNames" "[J") ∈ b_Ws := bw_5 (List.mem_of_getElem? (i := 217) rfl) rfl
set_option maxRecDepth 20000 in
theorem w_5_220 : (Jvm.Cond.fieldLink "AssembleLinesModel" (42 : Nat) "AssembleLinesModel" "text" "[I") ∈ b_Ws := bw_5 (List.mem_of_getElem? (i := 220) rfl) rfl
set_option maxRecDepth 20000 in
theorem w_5_222 : (Jvm.Cond.fieldLink "AssembleLinesModel" (46 : Nat) "AssembleLinesModel" "source" "[I") ∈ b_Ws := bw_5 (List.mem_of_getElem? (i := 222) rfl) rfl
set_option maxRecDepth 20000 in
theorem w_5_227 : (Jvm.Cond.fieldLink "AssembleLinesModel" (49 : Nat) "AssembleLinesModel" "line" "[I") ∈ b_Ws := bw_5 (List.mem_of_getElem? (i := 227) rfl) rfl
set_option maxRecDepth 20000 in
theorem w_5_231 : (Jvm.Cond.fieldLink "AssembleLinesModel" (52 : Nat) "AssembleLinesModel" "macroName" "[J") ∈ b_Ws := bw_5 (List.mem_of_getElem? (i := 231) rfl) rfl
set_option maxRecDepth 20000 in
theorem w_5_232 : (Jvm.Cond.fieldLink "AssembleLinesModel" (55 : Nat) "AssembleLinesModel" "macroFirst" "[I") ∈ b_Ws := bw_5 (List.mem_of_getElem? (i := 232) rfl) rfl
set_option maxRecDepth 20000 in
theorem w_5_233 : (Jvm.Cond.fieldLink "AssembleLinesModel" (58 : Nat) "AssembleLinesModel" "macroLines" "[I") ∈ b_Ws := bw_5 (List.mem_of_getElem? (i := 233) rfl) rfl
set_option maxRecDepth 20000 in
theorem w_5_234 : (Jvm.Cond.fieldLink "AssembleLinesModel" (61 : Nat) "AssembleLinesModel" "bodyFrom" "[I") ∈ b_Ws := bw_5 (List.mem_of_getElem? (i := 234) rfl) rfl
set_option maxRecDepth 20000 in
theorem w_5_235 : (Jvm.Cond.fieldLink "AssembleLinesModel" (64 : Nat) "AssembleLinesModel" "bodyTo" "[I") ∈ b_Ws := bw_5 (List.mem_of_getElem? (i := 235) rfl) rfl
set_option maxRecDepth 20000 in
theorem w_5_237 : (Jvm.Cond.fieldLink "AssembleLinesModel" (67 : Nat) "AssembleLinesModel" "frameMacro" "[I") ∈ b_Ws := bw_5 (List.mem_of_getElem? (i := 237) rfl) rfl
set_option maxRecDepth 20000 in
theorem w_5_238 : (Jvm.Cond.fieldLink "AssembleLinesModel" (70 : Nat) "AssembleLinesModel" "frameNext" "[I") ∈ b_Ws := bw_5 (List.mem_of_getElem? (i := 238) rfl) rfl
set_option maxRecDepth 20000 in
theorem w_5_239 : (Jvm.Cond.fieldLink "AssembleLinesModel" (73 : Nat) "AssembleLinesModel" "frameCall" "[I") ∈ b_Ws := bw_5 (List.mem_of_getElem? (i := 239) rfl) rfl
set_option maxRecDepth 20000 in
theorem w_6_0 : (Jvm.Cond.fieldLink "AssembleLinesModel" (76 : Nat) "AssembleLinesModel" "argFrom" "[I") ∈ b_Ws := bw_6 (List.mem_of_getElem? (i := 0) rfl) rfl
set_option maxRecDepth 20000 in
theorem w_6_1 : (Jvm.Cond.fieldLink "AssembleLinesModel" (79 : Nat) "AssembleLinesModel" "argTo" "[I") ∈ b_Ws := bw_6 (List.mem_of_getElem? (i := 1) rfl) rfl
set_option maxRecDepth 20000 in
theorem w_6_2 : (Jvm.Cond.fieldLink "AssembleLinesModel" (82 : Nat) "AssembleLinesModel" "argText" "[I") ∈ b_Ws := bw_6 (List.mem_of_getElem? (i := 2) rfl) rfl
set_option maxRecDepth 20000 in
theorem w_6_5 : (Jvm.Cond.fieldLink "AssembleLinesModel" (85 : Nat) "AssembleLinesModel" "line0" "[I") ∈ b_Ws := bw_6 (List.mem_of_getElem? (i := 5) rfl) rfl
set_option maxRecDepth 20000 in
theorem w_6_6 : (Jvm.Cond.fieldLink "AssembleLinesModel" (88 : Nat) "AssembleLinesModel" "kind" "[I") ∈ b_Ws := bw_6 (List.mem_of_getElem? (i := 6) rfl) rfl
set_option maxRecDepth 20000 in
theorem w_6_7 : (Jvm.Cond.fieldLink "AssembleLinesModel" (91 : Nat) "AssembleLinesModel" "one" "[I") ∈ b_Ws := bw_6 (List.mem_of_getElem? (i := 7) rfl) rfl
set_option maxRecDepth 20000 in
theorem w_6_8 : (Jvm.Cond.fieldLink "AssembleLinesModel" (94 : Nat) "AssembleLinesModel" "two" "[I") ∈ b_Ws := bw_6 (List.mem_of_getElem? (i := 8) rfl) rfl
set_option maxRecDepth 20000 in
theorem w_6_9 : (Jvm.Cond.fieldLink "AssembleLinesModel" (97 : Nat) "AssembleLinesModel" "many" "[I") ∈ b_Ws := bw_6 (List.mem_of_getElem? (i := 9) rfl) rfl
set_option maxRecDepth 20000 in
theorem w_6_10 : (Jvm.Cond.fieldLink "AssembleLinesModel" (100 : Nat) "AssembleLinesModel" "first" "[I") ∈ b_Ws := bw_6 (List.mem_of_getElem? (i := 10) rfl) rfl
set_option maxRecDepth 20000 in
theorem w_6_11 : (Jvm.Cond.fieldLink "AssembleLinesModel" (103 : Nat) "AssembleLinesModel" "space" "[I") ∈ b_Ws := bw_6 (List.mem_of_getElem? (i := 11) rfl) rfl
set_option maxRecDepth 20000 in
theorem w_6_12 : (Jvm.Cond.fieldLink "AssembleLinesModel" (106 : Nat) "AssembleLinesModel" "label" "[J") ∈ b_Ws := bw_6 (List.mem_of_getElem? (i := 12) rfl) rfl
set_option maxRecDepth 20000 in
theorem w_6_13 : (Jvm.Cond.fieldLink "AssembleLinesModel" (109 : Nat) "AssembleLinesModel" "isLong" "[Z") ∈ b_Ws := bw_6 (List.mem_of_getElem? (i := 13) rfl) rfl
set_option maxRecDepth 20000 in
theorem w_6_14 : (Jvm.Cond.fieldLink "AssembleLinesModel" (113 : Nat) "AssembleLinesModel" "place" "[I") ∈ b_Ws := bw_6 (List.mem_of_getElem? (i := 14) rfl) rfl
set_option maxRecDepth 20000 in
theorem w_6_18 : (Jvm.Cond.fieldLink "AssembleLinesModel" (116 : Nat) "AssembleLinesModel" "exprFrom" "[I") ∈ b_Ws := bw_6 (List.mem_of_getElem? (i := 18) rfl) rfl
set_option maxRecDepth 20000 in
theorem w_6_19 : (Jvm.Cond.fieldLink "AssembleLinesModel" (119 : Nat) "AssembleLinesModel" "exprTo" "[I") ∈ b_Ws := bw_6 (List.mem_of_getElem? (i := 19) rfl) rfl
set_option maxRecDepth 20000 in
theorem w_6_20 : (Jvm.Cond.fieldLink "AssembleLinesModel" (123 : Nat) "AssembleLinesModel" "pool" "[I") ∈ b_Ws := bw_6 (List.mem_of_getElem? (i := 20) rfl) rfl
set_option maxRecDepth 20000 in
theorem w_6_22 : (Jvm.Cond.fieldLink "AssembleLinesModel" (126 : Nat) "AssembleLinesModel" "foundFrom" "[I") ∈ b_Ws := bw_6 (List.mem_of_getElem? (i := 22) rfl) rfl
set_option maxRecDepth 20000 in
theorem w_6_23 : (Jvm.Cond.fieldLink "AssembleLinesModel" (129 : Nat) "AssembleLinesModel" "foundTo" "[I") ∈ b_Ws := bw_6 (List.mem_of_getElem? (i := 23) rfl) rfl
set_option maxRecDepth 20000 in
theorem w_6_25 : (Jvm.Cond.fieldLink "AssembleLinesModel" (132 : Nat) "AssembleLinesModel" "setName" "[J") ∈ b_Ws := bw_6 (List.mem_of_getElem? (i := 25) rfl) rfl
set_option maxRecDepth 20000 in
theorem w_6_26 : (Jvm.Cond.fieldLink "AssembleLinesModel" (135 : Nat) "AssembleLinesModel" "setValue" "[I") ∈ b_Ws := bw_6 (List.mem_of_getElem? (i := 26) rfl) rfl
set_option maxRecDepth 20000 in
theorem w_6_27 : (Jvm.Cond.fieldLink "AssembleLinesModel" (138 : Nat) "AssembleLinesModel" "setNext" "[I") ∈ b_Ws := bw_6 (List.mem_of_getElem? (i := 27) rfl) rfl
set_option maxRecDepth 20000 in
theorem w_6_28 : (Jvm.Cond.fieldLink "AssembleLinesModel" (141 : Nat) "AssembleLinesModel" "chain" "[I") ∈ b_Ws := bw_6 (List.mem_of_getElem? (i := 28) rfl) rfl
set_option maxRecDepth 20000 in
theorem w_6_31 : (Jvm.Cond.fieldLink "AssembleLinesModel" (144 : Nat) "AssembleLinesModel" "errorNumber" "[I") ∈ b_Ws := bw_6 (List.mem_of_getElem? (i := 31) rfl) rfl
set_option maxRecDepth 20000 in
theorem w_6_32 : (Jvm.Cond.fieldLink "AssembleLinesModel" (147 : Nat) "AssembleLinesModel" "errorLine" "[I") ∈ b_Ws := bw_6 (List.mem_of_getElem? (i := 32) rfl) rfl
set_option maxRecDepth 20000 in
theorem w_6_37 : (Jvm.Cond.fieldLink "AssembleLinesModel" (151 : Nat) "AssembleLinesModel" "word" "[I") ∈ b_Ws := bw_6 (List.mem_of_getElem? (i := 37) rfl) rfl
set_option maxRecDepth 20000 in
theorem w_6_47 : (Jvm.Cond.fieldLink "AssembleLinesModel" (154 : Nat) "AssembleLinesModel" "wide" "[Z") ∈ b_Ws := bw_6 (List.mem_of_getElem? (i := 47) rfl) rfl
set_option maxRecDepth 20000 in
theorem w_6_193 : (Jvm.Cond.arrayClass Jvm.ClassFile.FieldType.boolean) ∈ b_Ws := bw_6 (List.mem_of_getElem? (i := 193) rfl) rfl
theorem dX13_init_0 : decode cX13_init 0 = .ok (.aload_n 0, 1) := by decide +kernel
theorem dX13_init_1 : decode cX13_init 1 = .ok (.invokespecial 1, 3) := by decide +kernel
theorem dX13_init_4 : decode cX13_init 4 = .ok (.aload_n 0, 1) := by decide +kernel
theorem dX13_init_5 : decode cX13_init 5 = .ok (.bipush 7, 2) := by decide +kernel
theorem dX13_init_7 : decode cX13_init 7 = .ok (.newarray .long, 2) := by decide +kernel
theorem dX13_init_9 : decode cX13_init 9 = .ok (.dup, 1) := by decide +kernel
theorem dX13_init_10 : decode cX13_init 10 = .ok (.iconst 0, 1) := by decide +kernel
theorem dX13_init_11 : decode cX13_init 11 = .ok (.ldc2_w 7, 3) := by decide +kernel
theorem dX13_init_14 : decode cX13_init 14 = .ok (.lastore, 1) := by decide +kernel
theorem dX13_init_15 : decode cX13_init 15 = .ok (.dup, 1) := by decide +kernel
theorem dX13_init_16 : decode cX13_init 16 = .ok (.iconst 1, 1) := by decide +kernel
theorem dX13_init_17 : decode cX13_init 17 = .ok (.ldc2_w 9, 3) := by decide +kernel
theorem dX13_init_20 : decode cX13_init 20 = .ok (.lastore, 1) := by decide +kernel
theorem dX13_init_21 : decode cX13_init 21 = .ok (.dup, 1) := by decide +kernel
theorem dX13_init_22 : decode cX13_init 22 = .ok (.iconst 2, 1) := by decide +kernel
theorem dX13_init_23 : decode cX13_init 23 = .ok (.ldc2_w 11, 3) := by decide +kernel
theorem dX13_init_26 : decode cX13_init 26 = .ok (.lastore, 1) := by decide +kernel
theorem dX13_init_27 : decode cX13_init 27 = .ok (.dup, 1) := by decide +kernel
theorem dX13_init_28 : decode cX13_init 28 = .ok (.iconst 3, 1) := by decide +kernel
theorem dX13_init_29 : decode cX13_init 29 = .ok (.ldc2_w 13, 3) := by decide +kernel
theorem dX13_init_32 : decode cX13_init 32 = .ok (.lastore, 1) := by decide +kernel
theorem dX13_init_33 : decode cX13_init 33 = .ok (.dup, 1) := by decide +kernel
theorem dX13_init_34 : decode cX13_init 34 = .ok (.iconst 4, 1) := by decide +kernel
theorem dX13_init_35 : decode cX13_init 35 = .ok (.ldc2_w 15, 3) := by decide +kernel
theorem dX13_init_38 : decode cX13_init 38 = .ok (.lastore, 1) := by decide +kernel
theorem dX13_init_39 : decode cX13_init 39 = .ok (.dup, 1) := by decide +kernel
theorem dX13_init_40 : decode cX13_init 40 = .ok (.iconst 5, 1) := by decide +kernel
theorem dX13_init_41 : decode cX13_init 41 = .ok (.ldc2_w 17, 3) := by decide +kernel
theorem dX13_init_44 : decode cX13_init 44 = .ok (.lastore, 1) := by decide +kernel
theorem dX13_init_45 : decode cX13_init 45 = .ok (.dup, 1) := by decide +kernel
theorem dX13_init_46 : decode cX13_init 46 = .ok (.bipush 6, 2) := by decide +kernel
theorem dX13_init_48 : decode cX13_init 48 = .ok (.ldc2_w 19, 3) := by decide +kernel
theorem dX13_init_51 : decode cX13_init 51 = .ok (.lastore, 1) := by decide +kernel
theorem dX13_init_52 : decode cX13_init 52 = .ok (.putfield 21, 3) := by decide +kernel
theorem dX13_init_55 : decode cX13_init 55 = .ok (.aload_n 0, 1) := by decide +kernel
theorem dX13_init_56 : decode cX13_init 56 = .ok (.bipush 6, 2) := by decide +kernel
theorem dX13_init_58 : decode cX13_init 58 = .ok (.newarray .long, 2) := by decide +kernel
theorem dX13_init_60 : decode cX13_init 60 = .ok (.dup, 1) := by decide +kernel
theorem dX13_init_61 : decode cX13_init 61 = .ok (.iconst 0, 1) := by decide +kernel
theorem dX13_init_62 : decode cX13_init 62 = .ok (.ldc2_w 27, 3) := by decide +kernel
theorem dX13_init_65 : decode cX13_init 65 = .ok (.lastore, 1) := by decide +kernel
theorem dX13_init_66 : decode cX13_init 66 = .ok (.dup, 1) := by decide +kernel
theorem dX13_init_67 : decode cX13_init 67 = .ok (.iconst 1, 1) := by decide +kernel
theorem dX13_init_68 : decode cX13_init 68 = .ok (.ldc2_w 29, 3) := by decide +kernel
theorem dX13_init_71 : decode cX13_init 71 = .ok (.lastore, 1) := by decide +kernel
theorem dX13_init_72 : decode cX13_init 72 = .ok (.dup, 1) := by decide +kernel
theorem dX13_init_73 : decode cX13_init 73 = .ok (.iconst 2, 1) := by decide +kernel
theorem dX13_init_74 : decode cX13_init 74 = .ok (.ldc2_w 31, 3) := by decide +kernel
theorem dX13_init_77 : decode cX13_init 77 = .ok (.lastore, 1) := by decide +kernel
theorem dX13_init_78 : decode cX13_init 78 = .ok (.dup, 1) := by decide +kernel
theorem dX13_init_79 : decode cX13_init 79 = .ok (.iconst 3, 1) := by decide +kernel
theorem dX13_init_80 : decode cX13_init 80 = .ok (.ldc2_w 33, 3) := by decide +kernel
theorem dX13_init_83 : decode cX13_init 83 = .ok (.lastore, 1) := by decide +kernel
theorem dX13_init_84 : decode cX13_init 84 = .ok (.dup, 1) := by decide +kernel
theorem dX13_init_85 : decode cX13_init 85 = .ok (.iconst 4, 1) := by decide +kernel
theorem dX13_init_86 : decode cX13_init 86 = .ok (.ldc2_w 35, 3) := by decide +kernel
theorem dX13_init_89 : decode cX13_init 89 = .ok (.lastore, 1) := by decide +kernel
theorem dX13_init_90 : decode cX13_init 90 = .ok (.dup, 1) := by decide +kernel
theorem dX13_init_91 : decode cX13_init 91 = .ok (.iconst 5, 1) := by decide +kernel
theorem dX13_init_92 : decode cX13_init 92 = .ok (.ldc2_w 37, 3) := by decide +kernel
theorem dX13_init_95 : decode cX13_init 95 = .ok (.lastore, 1) := by decide +kernel
theorem dX13_init_96 : decode cX13_init 96 = .ok (.putfield 39, 3) := by decide +kernel
theorem dX13_init_99 : decode cX13_init 99 = .ok (.aload_n 0, 1) := by decide +kernel
theorem dX13_init_100 : decode cX13_init 100 = .ok (.sipush 4200, 3) := by decide +kernel
theorem dX13_init_103 : decode cX13_init 103 = .ok (.newarray .int, 2) := by decide +kernel
theorem dX13_init_105 : decode cX13_init 105 = .ok (.putfield 42, 3) := by decide +kernel
theorem dX13_init_108 : decode cX13_init 108 = .ok (.aload_n 0, 1) := by decide +kernel
theorem dX13_init_109 : decode cX13_init 109 = .ok (.sipush 4200, 3) := by decide +kernel
theorem dX13_init_112 : decode cX13_init 112 = .ok (.newarray .int, 2) := by decide +kernel
theorem dX13_init_114 : decode cX13_init 114 = .ok (.putfield 46, 3) := by decide +kernel
theorem dX13_init_117 : decode cX13_init 117 = .ok (.aload_n 0, 1) := by decide +kernel
theorem dX13_init_118 : decode cX13_init 118 = .ok (.sipush 8400, 3) := by decide +kernel
theorem dX13_init_121 : decode cX13_init 121 = .ok (.newarray .int, 2) := by decide +kernel
theorem dX13_init_123 : decode cX13_init 123 = .ok (.putfield 49, 3) := by decide +kernel
theorem dX13_init_126 : decode cX13_init 126 = .ok (.aload_n 0, 1) := by decide +kernel
theorem dX13_init_127 : decode cX13_init 127 = .ok (.bipush 12, 2) := by decide +kernel
theorem dX13_init_129 : decode cX13_init 129 = .ok (.newarray .long, 2) := by decide +kernel
theorem dX13_init_131 : decode cX13_init 131 = .ok (.putfield 52, 3) := by decide +kernel
theorem dX13_init_134 : decode cX13_init 134 = .ok (.aload_n 0, 1) := by decide +kernel
theorem dX13_init_135 : decode cX13_init 135 = .ok (.bipush 12, 2) := by decide +kernel
theorem dX13_init_137 : decode cX13_init 137 = .ok (.newarray .int, 2) := by decide +kernel
theorem dX13_init_139 : decode cX13_init 139 = .ok (.putfield 55, 3) := by decide +kernel
theorem dX13_init_142 : decode cX13_init 142 = .ok (.aload_n 0, 1) := by decide +kernel
theorem dX13_init_143 : decode cX13_init 143 = .ok (.bipush 12, 2) := by decide +kernel
theorem dX13_init_145 : decode cX13_init 145 = .ok (.newarray .int, 2) := by decide +kernel
theorem dX13_init_147 : decode cX13_init 147 = .ok (.putfield 58, 3) := by decide +kernel
theorem dX13_init_150 : decode cX13_init 150 = .ok (.aload_n 0, 1) := by decide +kernel
theorem dX13_init_151 : decode cX13_init 151 = .ok (.sipush 4200, 3) := by decide +kernel
theorem dX13_init_154 : decode cX13_init 154 = .ok (.newarray .int, 2) := by decide +kernel
theorem dX13_init_156 : decode cX13_init 156 = .ok (.putfield 61, 3) := by decide +kernel
theorem dX13_init_159 : decode cX13_init 159 = .ok (.aload_n 0, 1) := by decide +kernel
theorem dX13_init_160 : decode cX13_init 160 = .ok (.sipush 4200, 3) := by decide +kernel
theorem dX13_init_163 : decode cX13_init 163 = .ok (.newarray .int, 2) := by decide +kernel
theorem dX13_init_165 : decode cX13_init 165 = .ok (.putfield 64, 3) := by decide +kernel
theorem dX13_init_168 : decode cX13_init 168 = .ok (.aload_n 0, 1) := by decide +kernel
theorem dX13_init_169 : decode cX13_init 169 = .ok (.bipush 7, 2) := by decide +kernel
theorem dX13_init_171 : decode cX13_init 171 = .ok (.newarray .int, 2) := by decide +kernel
theorem dX13_init_173 : decode cX13_init 173 = .ok (.putfield 67, 3) := by decide +kernel
theorem dX13_init_176 : decode cX13_init 176 = .ok (.aload_n 0, 1) := by decide +kernel
theorem dX13_init_177 : decode cX13_init 177 = .ok (.bipush 7, 2) := by decide +kernel
theorem dX13_init_179 : decode cX13_init 179 = .ok (.newarray .int, 2) := by decide +kernel
theorem dX13_init_181 : decode cX13_init 181 = .ok (.putfield 70, 3) := by decide +kernel
theorem dX13_init_184 : decode cX13_init 184 = .ok (.aload_n 0, 1) := by decide +kernel
theorem dX13_init_185 : decode cX13_init 185 = .ok (.bipush 7, 2) := by decide +kernel
theorem dX13_init_187 : decode cX13_init 187 = .ok (.newarray .int, 2) := by decide +kernel
theorem dX13_init_189 : decode cX13_init 189 = .ok (.putfield 73, 3) := by decide +kernel
theorem dX13_init_192 : decode cX13_init 192 = .ok (.aload_n 0, 1) := by decide +kernel
theorem dX13_init_193 : decode cX13_init 193 = .ok (.bipush 28, 2) := by decide +kernel
theorem dX13_init_195 : decode cX13_init 195 = .ok (.newarray .int, 2) := by decide +kernel
theorem dX13_init_197 : decode cX13_init 197 = .ok (.putfield 76, 3) := by decide +kernel
theorem dX13_init_200 : decode cX13_init 200 = .ok (.aload_n 0, 1) := by decide +kernel
theorem dX13_init_201 : decode cX13_init 201 = .ok (.bipush 28, 2) := by decide +kernel
theorem dX13_init_203 : decode cX13_init 203 = .ok (.newarray .int, 2) := by decide +kernel
theorem dX13_init_205 : decode cX13_init 205 = .ok (.putfield 79, 3) := by decide +kernel
theorem dX13_init_208 : decode cX13_init 208 = .ok (.aload_n 0, 1) := by decide +kernel
theorem dX13_init_209 : decode cX13_init 209 = .ok (.sipush 8400, 3) := by decide +kernel
theorem dX13_init_212 : decode cX13_init 212 = .ok (.newarray .int, 2) := by decide +kernel
theorem dX13_init_214 : decode cX13_init 214 = .ok (.putfield 82, 3) := by decide +kernel
theorem dX13_init_217 : decode cX13_init 217 = .ok (.aload_n 0, 1) := by decide +kernel
theorem dX13_init_218 : decode cX13_init 218 = .ok (.sipush 400, 3) := by decide +kernel
theorem dX13_init_221 : decode cX13_init 221 = .ok (.newarray .int, 2) := by decide +kernel
theorem dX13_init_223 : decode cX13_init 223 = .ok (.putfield 85, 3) := by decide +kernel
theorem dX13_init_226 : decode cX13_init 226 = .ok (.aload_n 0, 1) := by decide +kernel
theorem dX13_init_227 : decode cX13_init 227 = .ok (.sipush 400, 3) := by decide +kernel
theorem dX13_init_230 : decode cX13_init 230 = .ok (.newarray .int, 2) := by decide +kernel
theorem dX13_init_232 : decode cX13_init 232 = .ok (.putfield 88, 3) := by decide +kernel
theorem dX13_init_235 : decode cX13_init 235 = .ok (.aload_n 0, 1) := by decide +kernel
theorem dX13_init_236 : decode cX13_init 236 = .ok (.sipush 400, 3) := by decide +kernel
theorem dX13_init_239 : decode cX13_init 239 = .ok (.newarray .int, 2) := by decide +kernel
theorem dX13_init_241 : decode cX13_init 241 = .ok (.putfield 91, 3) := by decide +kernel
theorem dX13_init_244 : decode cX13_init 244 = .ok (.aload_n 0, 1) := by decide +kernel
theorem dX13_init_245 : decode cX13_init 245 = .ok (.sipush 400, 3) := by decide +kernel
theorem dX13_init_248 : decode cX13_init 248 = .ok (.newarray .int, 2) := by decide +kernel
theorem dX13_init_250 : decode cX13_init 250 = .ok (.putfield 94, 3) := by decide +kernel
theorem dX13_init_253 : decode cX13_init 253 = .ok (.aload_n 0, 1) := by decide +kernel
theorem dX13_init_254 : decode cX13_init 254 = .ok (.sipush 400, 3) := by decide +kernel
theorem dX13_init_257 : decode cX13_init 257 = .ok (.newarray .int, 2) := by decide +kernel
theorem dX13_init_259 : decode cX13_init 259 = .ok (.putfield 97, 3) := by decide +kernel
theorem dX13_init_262 : decode cX13_init 262 = .ok (.aload_n 0, 1) := by decide +kernel
theorem dX13_init_263 : decode cX13_init 263 = .ok (.sipush 400, 3) := by decide +kernel
theorem dX13_init_266 : decode cX13_init 266 = .ok (.newarray .int, 2) := by decide +kernel
theorem dX13_init_268 : decode cX13_init 268 = .ok (.putfield 100, 3) := by decide +kernel
theorem dX13_init_271 : decode cX13_init 271 = .ok (.aload_n 0, 1) := by decide +kernel
theorem dX13_init_272 : decode cX13_init 272 = .ok (.sipush 400, 3) := by decide +kernel
theorem dX13_init_275 : decode cX13_init 275 = .ok (.newarray .int, 2) := by decide +kernel
theorem dX13_init_277 : decode cX13_init 277 = .ok (.putfield 103, 3) := by decide +kernel
theorem dX13_init_280 : decode cX13_init 280 = .ok (.aload_n 0, 1) := by decide +kernel
theorem dX13_init_281 : decode cX13_init 281 = .ok (.sipush 400, 3) := by decide +kernel
theorem dX13_init_284 : decode cX13_init 284 = .ok (.newarray .long, 2) := by decide +kernel
theorem dX13_init_286 : decode cX13_init 286 = .ok (.putfield 106, 3) := by decide +kernel
theorem dX13_init_289 : decode cX13_init 289 = .ok (.aload_n 0, 1) := by decide +kernel
theorem dX13_init_290 : decode cX13_init 290 = .ok (.sipush 400, 3) := by decide +kernel
theorem dX13_init_293 : decode cX13_init 293 = .ok (.newarray .boolean, 2) := by decide +kernel
theorem dX13_init_295 : decode cX13_init 295 = .ok (.putfield 109, 3) := by decide +kernel
theorem dX13_init_298 : decode cX13_init 298 = .ok (.aload_n 0, 1) := by decide +kernel
theorem dX13_init_299 : decode cX13_init 299 = .ok (.sipush 400, 3) := by decide +kernel
theorem dX13_init_302 : decode cX13_init 302 = .ok (.newarray .int, 2) := by decide +kernel
theorem dX13_init_304 : decode cX13_init 304 = .ok (.putfield 113, 3) := by decide +kernel
theorem dX13_init_307 : decode cX13_init 307 = .ok (.aload_n 0, 1) := by decide +kernel
theorem dX13_init_308 : decode cX13_init 308 = .ok (.sipush 3200, 3) := by decide +kernel
theorem dX13_init_311 : decode cX13_init 311 = .ok (.newarray .int, 2) := by decide +kernel
theorem dX13_init_313 : decode cX13_init 313 = .ok (.putfield 116, 3) := by decide +kernel
theorem dX13_init_316 : decode cX13_init 316 = .ok (.aload_n 0, 1) := by decide +kernel
theorem dX13_init_317 : decode cX13_init 317 = .ok (.sipush 3200, 3) := by decide +kernel
theorem dX13_init_320 : decode cX13_init 320 = .ok (.newarray .int, 2) := by decide +kernel
theorem dX13_init_322 : decode cX13_init 322 = .ok (.putfield 119, 3) := by decide +kernel
theorem dX13_init_325 : decode cX13_init 325 = .ok (.aload_n 0, 1) := by decide +kernel
theorem dX13_init_326 : decode cX13_init 326 = .ok (.ldc 122, 2) := by decide +kernel
theorem dX13_init_328 : decode cX13_init 328 = .ok (.newarray .int, 2) := by decide +kernel
theorem dX13_init_330 : decode cX13_init 330 = .ok (.putfield 123, 3) := by decide +kernel
theorem dX13_init_333 : decode cX13_init 333 = .ok (.aload_n 0, 1) := by decide +kernel
theorem dX13_init_334 : decode cX13_init 334 = .ok (.bipush 9, 2) := by decide +kernel
theorem dX13_init_336 : decode cX13_init 336 = .ok (.newarray .int, 2) := by decide +kernel
theorem dX13_init_338 : decode cX13_init 338 = .ok (.putfield 126, 3) := by decide +kernel
theorem dX13_init_341 : decode cX13_init 341 = .ok (.aload_n 0, 1) := by decide +kernel
theorem dX13_init_342 : decode cX13_init 342 = .ok (.bipush 9, 2) := by decide +kernel
theorem dX13_init_344 : decode cX13_init 344 = .ok (.newarray .int, 2) := by decide +kernel
theorem dX13_init_346 : decode cX13_init 346 = .ok (.putfield 129, 3) := by decide +kernel
theorem dX13_init_349 : decode cX13_init 349 = .ok (.aload_n 0, 1) := by decide +kernel
theorem dX13_init_350 : decode cX13_init 350 = .ok (.sipush 400, 3) := by decide +kernel
theorem dX13_init_353 : decode cX13_init 353 = .ok (.newarray .long, 2) := by decide +kernel
theorem dX13_init_355 : decode cX13_init 355 = .ok (.putfield 132, 3) := by decide +kernel
theorem dX13_init_358 : decode cX13_init 358 = .ok (.aload_n 0, 1) := by decide +kernel
theorem dX13_init_359 : decode cX13_init 359 = .ok (.sipush 400, 3) := by decide +kernel
theorem dX13_init_362 : decode cX13_init 362 = .ok (.newarray .int, 2) := by decide +kernel
theorem dX13_init_364 : decode cX13_init 364 = .ok (.putfield 135, 3) := by decide +kernel
theorem dX13_init_367 : decode cX13_init 367 = .ok (.aload_n 0, 1) := by decide +kernel
theorem dX13_init_368 : decode cX13_init 368 = .ok (.sipush 400, 3) := by decide +kernel
theorem dX13_init_371 : decode cX13_init 371 = .ok (.newarray .int, 2) := by decide +kernel
theorem dX13_init_373 : decode cX13_init 373 = .ok (.putfield 138, 3) := by decide +kernel
theorem dX13_init_376 : decode cX13_init 376 = .ok (.aload_n 0, 1) := by decide +kernel
theorem dX13_init_377 : decode cX13_init 377 = .ok (.sipush 1021, 3) := by decide +kernel
theorem dX13_init_380 : decode cX13_init 380 = .ok (.newarray .int, 2) := by decide +kernel
theorem dX13_init_382 : decode cX13_init 382 = .ok (.putfield 141, 3) := by decide +kernel
theorem dX13_init_385 : decode cX13_init 385 = .ok (.aload_n 0, 1) := by decide +kernel
theorem dX13_init_386 : decode cX13_init 386 = .ok (.bipush 50, 2) := by decide +kernel
theorem dX13_init_388 : decode cX13_init 388 = .ok (.newarray .int, 2) := by decide +kernel
theorem dX13_init_390 : decode cX13_init 390 = .ok (.putfield 144, 3) := by decide +kernel
theorem dX13_init_393 : decode cX13_init 393 = .ok (.aload_n 0, 1) := by decide +kernel
theorem dX13_init_394 : decode cX13_init 394 = .ok (.bipush 50, 2) := by decide +kernel
theorem dX13_init_396 : decode cX13_init 396 = .ok (.newarray .int, 2) := by decide +kernel
theorem dX13_init_398 : decode cX13_init 398 = .ok (.putfield 147, 3) := by decide +kernel
theorem dX13_init_401 : decode cX13_init 401 = .ok (.aload_n 0, 1) := by decide +kernel
theorem dX13_init_402 : decode cX13_init 402 = .ok (.ldc 150, 2) := by decide +kernel
theorem dX13_init_404 : decode cX13_init 404 = .ok (.newarray .int, 2) := by decide +kernel
theorem dX13_init_406 : decode cX13_init 406 = .ok (.putfield 151, 3) := by decide +kernel
theorem dX13_init_409 : decode cX13_init 409 = .ok (.aload_n 0, 1) := by decide +kernel
theorem dX13_init_410 : decode cX13_init 410 = .ok (.sipush 400, 3) := by decide +kernel
theorem dX13_init_413 : decode cX13_init 413 = .ok (.newarray .boolean, 2) := by decide +kernel
theorem dX13_init_415 : decode cX13_init 415 = .ok (.putfield 154, 3) := by decide +kernel
theorem dX13_init_418 : decode cX13_init 418 = .ok (.return_, 1) := by decide +kernel

