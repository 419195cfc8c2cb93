set_option maxRecDepth 20000 in
theorem w_1_0 : (Jvm.Cond.initialized "AssembleLinesLaw") ∈ b_Ws := bw_1 (List.mem_of_getElem? (i := 0) rfl) rfl
set_option maxRecDepth 20000 in
theorem w_1_29 : (Jvm.Cond.classLink "AssembleLinesLaw" (8 : Nat) "AssembleLines") ∈ b_Ws := bw_1 (List.mem_of_getElem? (i := 29) rfl) rfl
set_option maxRecDepth 20000 in
theorem w_1_30 : (Jvm.Cond.instantiable "AssembleLines" (5 : Nat)) ∈ b_Ws := bw_1 (List.mem_of_getElem? (i := 30) rfl) rfl
set_option maxRecDepth 20000 in
theorem w_1_31 : (Jvm.Cond.methodLink "AssembleLinesLaw" (40 : Nat) ({ cls := "AssembleLines", name := "<init>", desc := "()V" } : Jvm.MethodName)) ∈ b_Ws := bw_1 (List.mem_of_getElem? (i := 31) rfl) rfl
set_option maxRecDepth 20000 in
theorem w_1_32 : (Jvm.Cond.instanceMethod ({ cls := "AssembleLines", name := "<init>", desc := "()V" } : Jvm.MethodName)) ∈ b_Ws := bw_1 (List.mem_of_getElem? (i := 32) rfl) rfl
set_option maxRecDepth 20000 in
theorem w_1_33 : (Jvm.Cond.code ({ cls := "AssembleLines", name := "<init>", desc := "()V" } : Jvm.MethodName) prog_1_method_1_code (1 : Nat) (Option.none : Option Jvm.ClassFile.FieldType)) ∈ b_Ws := bw_1 (List.mem_of_getElem? (i := 33) rfl) rfl
set_option maxRecDepth 20000 in
theorem w_2_191 : (Jvm.Cond.methodLink "AssembleLinesLaw" (74 : Nat) ({ cls := "AssembleLines", name := "count", desc := "(I)I" } : Jvm.MethodName)) ∈ b_Ws := bw_2 (List.mem_of_getElem? (i := 191) rfl) rfl
set_option maxRecDepth 20000 in
theorem w_2_192 : (Jvm.Cond.instanceMethod ({ cls := "AssembleLines", name := "count", desc := "(I)I" } : Jvm.MethodName)) ∈ b_Ws := bw_2 (List.mem_of_getElem? (i := 192) rfl) rfl
set_option maxRecDepth 20000 in
theorem w_2_193 : (Jvm.Cond.selects "AssembleLines" ({ cls := "AssembleLines", name := "count", desc := "(I)I" } : Jvm.MethodName) ({ cls := "AssembleLines", name := "count", desc := "(I)I" } : Jvm.MethodName)) ∈ b_Ws := bw_2 (List.mem_of_getElem? (i := 193) rfl) rfl
set_option maxRecDepth 20000 in
theorem w_2_194 : (Jvm.Cond.code ({ cls := "AssembleLines", name := "count", desc := "(I)I" } : Jvm.MethodName) prog_1_method_9_code (2 : Nat) (Option.some Jvm.ClassFile.FieldType.int)) ∈ b_Ws := bw_2 (List.mem_of_getElem? (i := 194) rfl) rfl
set_option maxRecDepth 20000 in
theorem w_2_199 : (Jvm.Cond.methodLink "AssembleLinesLaw" (44 : Nat) ({ cls := "AssembleLinesLaw", name := "feed", desc := "(LAssembleLines;IIII[J)I" } : Jvm.MethodName)) ∈ b_Ws := bw_2 (List.mem_of_getElem? (i := 199) rfl) rfl
set_option maxRecDepth 20000 in
theorem w_2_200 : (Jvm.Cond.static ({ cls := "AssembleLinesLaw", name := "feed", desc := "(LAssembleLines;IIII[J)I" } : Jvm.MethodName)) ∈ b_Ws := bw_2 (List.mem_of_getElem? (i := 200) rfl) rfl
set_option maxRecDepth 20000 in
theorem w_2_201 : (Jvm.Cond.codeWith ({ cls := "AssembleLinesLaw", name := "feed", desc := "(LAssembleLines;IIII[J)I" } : Jvm.MethodName) method_3_code (7 : Nat) (Option.some Jvm.ClassFile.FieldType.int) [((0 : Nat), (14 : Nat), (17 : Nat), (13 : Nat))]) ∈ b_Ws := bw_2 (List.mem_of_getElem? (i := 201) rfl) rfl
set_option maxRecDepth 20000 in
theorem w_3_38 : (Jvm.Cond.methodLink "AssembleLinesLaw" (53 : Nat) ({ cls := "AssembleLinesLaw", name := "end", desc := "(LAssembleLines;I[J)I" } : Jvm.MethodName)) ∈ b_Ws := bw_3 (List.mem_of_getElem? (i := 38) rfl) rfl
set_option maxRecDepth 20000 in
theorem w_3_39 : (Jvm.Cond.static ({ cls := "AssembleLinesLaw", name := "end", desc := "(LAssembleLines;I[J)I" } : Jvm.MethodName)) ∈ b_Ws := bw_3 (List.mem_of_getElem? (i := 39) rfl) rfl
set_option maxRecDepth 20000 in
theorem w_3_40 : (Jvm.Cond.codeWith ({ cls := "AssembleLinesLaw", name := "end", desc := "(LAssembleLines;I[J)I" } : Jvm.MethodName) method_4_code (4 : Nat) (Option.some Jvm.ClassFile.FieldType.int) [((0 : Nat), (9 : Nat), (12 : Nat), (19 : Nat)), ((0 : Nat), (9 : Nat), (15 : Nat), (13 : Nat))]) ∈ b_Ws := bw_3 (List.mem_of_getElem? (i := 40) rfl) rfl
set_option maxRecDepth 20000 in
theorem w_3_63 : (Jvm.Cond.methodLink "AssembleLinesLaw" (57 : Nat) ({ cls := "AssembleLinesLaw", name := "assemble", desc := "(LAssembleLines;[J)I" } : Jvm.MethodName)) ∈ b_Ws := bw_3 (List.mem_of_getElem? (i := 63) rfl) rfl
set_option maxRecDepth 20000 in
theorem w_3_64 : (Jvm.Cond.static ({ cls := "AssembleLinesLaw", name := "assemble", desc := "(LAssembleLines;[J)I" } : Jvm.MethodName)) ∈ b_Ws := bw_3 (List.mem_of_getElem? (i := 64) rfl) rfl
set_option maxRecDepth 20000 in
theorem w_3_65 : (Jvm.Cond.codeWith ({ cls := "AssembleLinesLaw", name := "assemble", desc := "(LAssembleLines;[J)I" } : Jvm.MethodName) method_5_code (3 : Nat) (Option.some Jvm.ClassFile.FieldType.int) [((0 : Nat), (8 : Nat), (11 : Nat), (19 : Nat))]) ∈ b_Ws := bw_3 (List.mem_of_getElem? (i := 65) rfl) rfl
set_option maxRecDepth 20000 in
theorem w_5_110 : (Jvm.Cond.methodLink "AssembleLinesLaw" (61 : Nat) ({ cls := "AssembleLinesLaw", name := "error", desc := "(LAssembleLines;II[J)I" } : Jvm.MethodName)) ∈ b_Ws := bw_5 (List.mem_of_getElem? (i := 110) rfl) rfl
set_option maxRecDepth 20000 in
theorem w_5_111 : (Jvm.Cond.static ({ cls := "AssembleLinesLaw", name := "error", desc := "(LAssembleLines;II[J)I" } : Jvm.MethodName)) ∈ b_Ws := bw_5 (List.mem_of_getElem? (i := 111) rfl) rfl
set_option maxRecDepth 20000 in
theorem w_5_112 : (Jvm.Cond.codeWith ({ cls := "AssembleLinesLaw", name := "error", desc := "(LAssembleLines;II[J)I" } : Jvm.MethodName) method_6_code (5 : Nat) (Option.some Jvm.ClassFile.FieldType.int) [((0 : Nat), (10 : Nat), (13 : Nat), (29 : Nat))]) ∈ b_Ws := bw_5 (List.mem_of_getElem? (i := 112) rfl) rfl
set_option maxRecDepth 20000 in
theorem w_5_134 : (Jvm.Cond.methodLink "AssembleLinesLaw" (65 : Nat) ({ cls := "AssembleLinesLaw", name := "word", desc := "(LAssembleLines;I[J)I" } : Jvm.MethodName)) ∈ b_Ws := bw_5 (List.mem_of_getElem? (i := 134) rfl) rfl
set_option maxRecDepth 20000 in
theorem w_5_135 : (Jvm.Cond.static ({ cls := "AssembleLinesLaw", name := "word", desc := "(LAssembleLines;I[J)I" } : Jvm.MethodName)) ∈ b_Ws := bw_5 (List.mem_of_getElem? (i := 135) rfl) rfl
set_option maxRecDepth 20000 in
theorem w_5_136 : (Jvm.Cond.codeWith ({ cls := "AssembleLinesLaw", name := "word", desc := "(LAssembleLines;I[J)I" } : Jvm.MethodName) method_7_code (4 : Nat) (Option.some Jvm.ClassFile.FieldType.int) [((0 : Nat), (9 : Nat), (12 : Nat), (29 : Nat))]) ∈ b_Ws := bw_5 (List.mem_of_getElem? (i := 136) rfl) rfl
set_option maxRecDepth 20000 in
theorem w_5_166 : (Jvm.Cond.methodLink "AssembleLinesLaw" (68 : Nat) ({ cls := "AssembleLinesLaw", name := "statement", desc := "(LAssembleLines;II[J)I" } : Jvm.MethodName)) ∈ b_Ws := bw_5 (List.mem_of_getElem? (i := 166) rfl) rfl
set_option maxRecDepth 20000 in
theorem w_5_167 : (Jvm.Cond.static ({ cls := "AssembleLinesLaw", name := "statement", desc := "(LAssembleLines;II[J)I" } : Jvm.MethodName)) ∈ b_Ws := bw_5 (List.mem_of_getElem? (i := 167) rfl) rfl
set_option maxRecDepth 20000 in
theorem w_5_168 : (Jvm.Cond.codeWith ({ cls := "AssembleLinesLaw", name := "statement", desc := "(LAssembleLines;II[J)I" } : Jvm.MethodName) method_8_code (5 : Nat) (Option.some Jvm.ClassFile.FieldType.int) [((0 : Nat), (10 : Nat), (13 : Nat), (29 : Nat))]) ∈ b_Ws := bw_5 (List.mem_of_getElem? (i := 168) rfl) rfl
set_option maxRecDepth 20000 in
theorem w_5_178 : (Jvm.Cond.methodLink "AssembleLinesLaw" (71 : Nat) ({ cls := "AssembleLinesLaw", name := "name", desc := "(LAssembleLines;II[J)I" } : Jvm.MethodName)) ∈ b_Ws := bw_5 (List.mem_of_getElem? (i := 178) rfl) rfl
set_option maxRecDepth 20000 in
theorem w_5_179 : (Jvm.Cond.static ({ cls := "AssembleLinesLaw", name := "name", desc := "(LAssembleLines;II[J)I" } : Jvm.MethodName)) ∈ b_Ws := bw_5 (List.mem_of_getElem? (i := 179) rfl) rfl
set_option maxRecDepth 20000 in
theorem w_5_180 : (Jvm.Cond.codeWith ({ cls := "AssembleLinesLaw", name := "name", desc := "(LAssembleLines;II[J)I" } : Jvm.MethodName) method_9_code (5 : Nat) (Option.some Jvm.ClassFile.FieldType.int) [((0 : Nat), (10 : Nat), (13 : Nat), (29 : Nat))]) ∈ b_Ws := bw_5 (List.mem_of_getElem? (i := 180) rfl) rfl
set_option maxRecDepth 20000 in
theorem w_5_195 : (Jvm.Cond.classLink "AssembleLinesLaw" (41 : Nat) "AssembleLinesModel") ∈ b_Ws := bw_5 (List.mem_of_getElem? (i := 195) rfl) rfl
set_option maxRecDepth 20000 in
theorem w_5_196 : (Jvm.Cond.instantiable "AssembleLinesModel" (72 : Nat)) ∈ b_Ws := bw_5 (List.mem_of_getElem? (i := 196) rfl) rfl
set_option maxRecDepth 20000 in
theorem w_5_197 : (Jvm.Cond.methodLink "AssembleLinesLaw" (43 : Nat) ({ cls := "AssembleLinesModel", name := "<init>", desc := "()V" } : Jvm.MethodName)) ∈ b_Ws := bw_5 (List.mem_of_getElem? (i := 197) rfl) rfl
set_option maxRecDepth 20000 in
theorem w_5_198 : (Jvm.Cond.instanceMethod ({ cls := "AssembleLinesModel", name := "<init>", desc := "()V" } : Jvm.MethodName)) ∈ b_Ws := bw_5 (List.mem_of_getElem? (i := 198) rfl) rfl
set_option maxRecDepth 20000 in
theorem w_5_199 : (Jvm.Cond.code ({ cls := "AssembleLinesModel", name := "<init>", desc := "()V" } : Jvm.MethodName) prog_15_method_1_code (1 : Nat) (Option.none : Option Jvm.ClassFile.FieldType)) ∈ b_Ws := bw_5 (List.mem_of_getElem? (i := 199) rfl) rfl
set_option maxRecDepth 20000 in
theorem w_6_194 : (Jvm.Cond.methodLink "AssembleLinesLaw" (50 : Nat) ({ cls := "AssembleLinesModel", name := "thrown", desc := "()I" } : Jvm.MethodName)) ∈ b_Ws := bw_6 (List.mem_of_getElem? (i := 194) rfl) rfl
set_option maxRecDepth 20000 in
theorem w_6_195 : (Jvm.Cond.instanceMethod ({ cls := "AssembleLinesModel", name := "thrown", desc := "()I" } : Jvm.MethodName)) ∈ b_Ws := bw_6 (List.mem_of_getElem? (i := 195) rfl) rfl
set_option maxRecDepth 20000 in
theorem w_6_196 : (Jvm.Cond.selects "AssembleLinesModel" ({ cls := "AssembleLinesModel", name := "thrown", desc := "()I" } : Jvm.MethodName) ({ cls := "AssembleLinesModel", name := "thrown", desc := "()I" } : Jvm.MethodName)) ∈ b_Ws := bw_6 (List.mem_of_getElem? (i := 196) rfl) rfl
set_option maxRecDepth 20000 in
theorem w_6_197 : (Jvm.Cond.code ({ cls := "AssembleLinesModel", name := "thrown", desc := "()I" } : Jvm.MethodName) prog_15_method_2_code (1 : Nat) (Option.some Jvm.ClassFile.FieldType.int)) ∈ b_Ws := bw_6 (List.mem_of_getElem? (i := 197) rfl) rfl
set_option maxRecDepth 20000 in
theorem w_6_198 : (Jvm.Cond.methodLink "AssembleLinesLaw" (49 : Nat) ({ cls := "AssembleLinesModel", name := "feed", desc := "(IIII)I" } : Jvm.MethodName)) ∈ b_Ws := bw_6 (List.mem_of_getElem? (i := 198) rfl) rfl
set_option maxRecDepth 20000 in
theorem w_6_199 : (Jvm.Cond.instanceMethod ({ cls := "AssembleLinesModel", name := "feed", desc := "(IIII)I" } : Jvm.MethodName)) ∈ b_Ws := bw_6 (List.mem_of_getElem? (i := 199) rfl) rfl
set_option maxRecDepth 20000 in
theorem w_6_200 : (Jvm.Cond.selects "AssembleLinesModel" ({ cls := "AssembleLinesModel", name := "feed", desc := "(IIII)I" } : Jvm.MethodName) ({ cls := "AssembleLinesModel", name := "feed", desc := "(IIII)I" } : Jvm.MethodName)) ∈ b_Ws := bw_6 (List.mem_of_getElem? (i := 200) rfl) rfl
set_option maxRecDepth 20000 in
theorem w_6_201 : (Jvm.Cond.code ({ cls := "AssembleLinesModel", name := "feed", desc := "(IIII)I" } : Jvm.MethodName) prog_15_method_5_code (7 : Nat) (Option.some Jvm.ClassFile.FieldType.int)) ∈ b_Ws := bw_6 (List.mem_of_getElem? (i := 201) rfl) rfl
set_option maxRecDepth 20000 in
theorem w_6_206 : (Jvm.Cond.methodLink "AssembleLinesLaw" (56 : Nat) ({ cls := "AssembleLinesModel", name := "end", desc := "(I)I" } : Jvm.MethodName)) ∈ b_Ws := bw_6 (List.mem_of_getElem? (i := 206) rfl) rfl
set_option maxRecDepth 20000 in
theorem w_6_207 : (Jvm.Cond.instanceMethod ({ cls := "AssembleLinesModel", name := "end", desc := "(I)I" } : Jvm.MethodName)) ∈ b_Ws := bw_6 (List.mem_of_getElem? (i := 207) rfl) rfl
set_option maxRecDepth 20000 in
theorem w_6_208 : (Jvm.Cond.selects "AssembleLinesModel" ({ cls := "AssembleLinesModel", name := "end", desc := "(I)I" } : Jvm.MethodName) ({ cls := "AssembleLinesModel", name := "end", desc := "(I)I" } : Jvm.MethodName)) ∈ b_Ws := bw_6 (List.mem_of_getElem? (i := 208) rfl) rfl
set_option maxRecDepth 20000 in
theorem w_6_209 : (Jvm.Cond.code ({ cls := "AssembleLinesModel", name := "end", desc := "(I)I" } : Jvm.MethodName) prog_15_method_6_code (2 : Nat) (Option.some Jvm.ClassFile.FieldType.int)) ∈ b_Ws := bw_6 (List.mem_of_getElem? (i := 209) rfl) rfl
set_option maxRecDepth 20000 in
theorem w_6_213 : (Jvm.Cond.methodLink "AssembleLinesLaw" (60 : Nat) ({ cls := "AssembleLinesModel", name := "assemble", desc := "()I" } : Jvm.MethodName)) ∈ b_Ws := bw_6 (List.mem_of_getElem? (i := 213) rfl) rfl
set_option maxRecDepth 20000 in
theorem w_6_214 : (Jvm.Cond.instanceMethod ({ cls := "AssembleLinesModel", name := "assemble", desc := "()I" } : Jvm.MethodName)) ∈ b_Ws := bw_6 (List.mem_of_getElem? (i := 214) rfl) rfl
set_option maxRecDepth 20000 in
theorem w_6_215 : (Jvm.Cond.selects "AssembleLinesModel" ({ cls := "AssembleLinesModel", name := "assemble", desc := "()I" } : Jvm.MethodName) ({ cls := "AssembleLinesModel", name := "assemble", desc := "()I" } : Jvm.MethodName)) ∈ b_Ws := bw_6 (List.mem_of_getElem? (i := 215) rfl) rfl
set_option maxRecDepth 20000 in
theorem w_6_216 : (Jvm.Cond.code ({ cls := "AssembleLinesModel", name := "assemble", desc := "()I" } : Jvm.MethodName) prog_15_method_67_code (2 : Nat) (Option.some Jvm.ClassFile.FieldType.int)) ∈ b_Ws := bw_6 (List.mem_of_getElem? (i := 216) rfl) rfl
set_option maxRecDepth 20000 in
theorem w_7_216 : (Jvm.Cond.methodLink "AssembleLinesLaw" (64 : Nat) ({ cls := "AssembleLinesModel", name := "error", desc := "(II)I" } : Jvm.MethodName)) ∈ b_Ws := bw_7 (List.mem_of_getElem? (i := 216) rfl) rfl
set_option maxRecDepth 20000 in
theorem w_7_217 : (Jvm.Cond.instanceMethod ({ cls := "AssembleLinesModel", name := "error", desc := "(II)I" } : Jvm.MethodName)) ∈ b_Ws := bw_7 (List.mem_of_getElem? (i := 217) rfl) rfl
set_option maxRecDepth 20000 in
theorem w_7_218 : (Jvm.Cond.selects "AssembleLinesModel" ({ cls := "AssembleLinesModel", name := "error", desc := "(II)I" } : Jvm.MethodName) ({ cls := "AssembleLinesModel", name := "error", desc := "(II)I" } : Jvm.MethodName)) ∈ b_Ws := bw_7 (List.mem_of_getElem? (i := 218) rfl) rfl
set_option maxRecDepth 20000 in
theorem w_7_219 : (Jvm.Cond.code ({ cls := "AssembleLinesModel", name := "error", desc := "(II)I" } : Jvm.MethodName) prog_15_method_68_code (3 : Nat) (Option.some Jvm.ClassFile.FieldType.int)) ∈ b_Ws := bw_7 (List.mem_of_getElem? (i := 219) rfl) rfl
set_option maxRecDepth 20000 in
theorem w_7_220 : (Jvm.Cond.methodLink "AssembleLinesLaw" (67 : Nat) ({ cls := "AssembleLinesModel", name := "word", desc := "(I)I" } : Jvm.MethodName)) ∈ b_Ws := bw_7 (List.mem_of_getElem? (i := 220) rfl) rfl
set_option maxRecDepth 20000 in
theorem w_7_221 : (Jvm.Cond.instanceMethod ({ cls := "AssembleLinesModel", name := "word", desc := "(I)I" } : Jvm.MethodName)) ∈ b_Ws := bw_7 (List.mem_of_getElem? (i := 221) rfl) rfl
set_option maxRecDepth 20000 in
theorem w_7_222 : (Jvm.Cond.selects "AssembleLinesModel" ({ cls := "AssembleLinesModel", name := "word", desc := "(I)I" } : Jvm.MethodName) ({ cls := "AssembleLinesModel", name := "word", desc := "(I)I" } : Jvm.MethodName)) ∈ b_Ws := bw_7 (List.mem_of_getElem? (i := 222) rfl) rfl
set_option maxRecDepth 20000 in
theorem w_7_223 : (Jvm.Cond.code ({ cls := "AssembleLinesModel", name := "word", desc := "(I)I" } : Jvm.MethodName) prog_15_method_69_code (2 : Nat) (Option.some Jvm.ClassFile.FieldType.int)) ∈ b_Ws := bw_7 (List.mem_of_getElem? (i := 223) rfl) rfl
set_option maxRecDepth 20000 in
theorem w_7_224 : (Jvm.Cond.methodLink "AssembleLinesLaw" (70 : Nat) ({ cls := "AssembleLinesModel", name := "statement", desc := "(II)I" } : Jvm.MethodName)) ∈ b_Ws := bw_7 (List.mem_of_getElem? (i := 224) rfl) rfl
set_option maxRecDepth 20000 in
theorem w_7_225 : (Jvm.Cond.instanceMethod ({ cls := "AssembleLinesModel", name := "statement", desc := "(II)I" } : Jvm.MethodName)) ∈ b_Ws := bw_7 (List.mem_of_getElem? (i := 225) rfl) rfl
set_option maxRecDepth 20000 in
theorem w_7_226 : (Jvm.Cond.selects "AssembleLinesModel" ({ cls := "AssembleLinesModel", name := "statement", desc := "(II)I" } : Jvm.MethodName) ({ cls := "AssembleLinesModel", name := "statement", desc := "(II)I" } : Jvm.MethodName)) ∈ b_Ws := bw_7 (List.mem_of_getElem? (i := 226) rfl) rfl
set_option maxRecDepth 20000 in
theorem w_7_227 : (Jvm.Cond.code ({ cls := "AssembleLinesModel", name := "statement", desc := "(II)I" } : Jvm.MethodName) prog_15_method_70_code (3 : Nat) (Option.some Jvm.ClassFile.FieldType.int)) ∈ b_Ws := bw_7 (List.mem_of_getElem? (i := 227) rfl) rfl
set_option maxRecDepth 20000 in
theorem w_7_228 : (Jvm.Cond.methodLink "AssembleLinesLaw" (73 : Nat) ({ cls := "AssembleLinesModel", name := "name", desc := "(II)I" } : Jvm.MethodName)) ∈ b_Ws := bw_7 (List.mem_of_getElem? (i := 228) rfl) rfl
set_option maxRecDepth 20000 in
theorem w_7_229 : (Jvm.Cond.instanceMethod ({ cls := "AssembleLinesModel", name := "name", desc := "(II)I" } : Jvm.MethodName)) ∈ b_Ws := bw_7 (List.mem_of_getElem? (i := 229) rfl) rfl
set_option maxRecDepth 20000 in
theorem w_7_230 : (Jvm.Cond.selects "AssembleLinesModel" ({ cls := "AssembleLinesModel", name := "name", desc := "(II)I" } : Jvm.MethodName) ({ cls := "AssembleLinesModel", name := "name", desc := "(II)I" } : Jvm.MethodName)) ∈ b_Ws := bw_7 (List.mem_of_getElem? (i := 230) rfl) rfl
set_option maxRecDepth 20000 in
theorem w_7_231 : (Jvm.Cond.code ({ cls := "AssembleLinesModel", name := "name", desc := "(II)I" } : Jvm.MethodName) prog_15_method_71_code (5 : Nat) (Option.some Jvm.ClassFile.FieldType.int)) ∈ b_Ws := bw_7 (List.mem_of_getElem? (i := 231) rfl) rfl
set_option maxRecDepth 20000 in
theorem w_7_232 : (Jvm.Cond.methodLink "AssembleLinesLaw" (77 : Nat) ({ cls := "AssembleLinesModel", name := "count", desc := "(I)I" } : Jvm.MethodName)) ∈ b_Ws := bw_7 (List.mem_of_getElem? (i := 232) rfl) rfl
set_option maxRecDepth 20000 in
theorem w_7_233 : (Jvm.Cond.instanceMethod ({ cls := "AssembleLinesModel", name := "count", desc := "(I)I" } : Jvm.MethodName)) ∈ b_Ws := bw_7 (List.mem_of_getElem? (i := 233) rfl) rfl
set_option maxRecDepth 20000 in
theorem w_7_234 : (Jvm.Cond.selects "AssembleLinesModel" ({ cls := "AssembleLinesModel", name := "count", desc := "(I)I" } : Jvm.MethodName) ({ cls := "AssembleLinesModel", name := "count", desc := "(I)I" } : Jvm.MethodName)) ∈ b_Ws := bw_7 (List.mem_of_getElem? (i := 234) rfl) rfl
set_option maxRecDepth 20000 in
theorem w_7_235 : (Jvm.Cond.code ({ cls := "AssembleLinesModel", name := "count", desc := "(I)I" } : Jvm.MethodName) prog_15_method_72_code (2 : Nat) (Option.some Jvm.ClassFile.FieldType.int)) ∈ b_Ws := bw_7 (List.mem_of_getElem? (i := 235) rfl) rfl
theorem dL_law_0 : decode cL_law 0 = .ok (.new 8, 3) := by decide +kernel
theorem dL_law_3 : decode cL_law 3 = .ok (.dup, 1) := by decide +kernel
theorem dL_law_4 : decode cL_law 4 = .ok (.invokespecial 40, 3) := by decide +kernel
theorem dL_law_7 : decode cL_law 7 = .ok (.astore_n 1, 1) := by decide +kernel
theorem dL_law_8 : decode cL_law 8 = .ok (.new 41, 3) := by decide +kernel
theorem dL_law_11 : decode cL_law 11 = .ok (.dup, 1) := by decide +kernel
theorem dL_law_12 : decode cL_law 12 = .ok (.invokespecial 43, 3) := by decide +kernel
theorem dL_law_15 : decode cL_law 15 = .ok (.astore_n 2, 1) := by decide +kernel
theorem dL_law_16 : decode cL_law 16 = .ok (.iconst 1, 1) := by decide +kernel
theorem dL_law_17 : decode cL_law 17 = .ok (.newarray .long, 2) := by decide +kernel
theorem dL_law_19 : decode cL_law 19 = .ok (.astore_n 3, 1) := by decide +kernel
theorem dL_law_20 : decode cL_law 20 = .ok (.iconst 0, 1) := by decide +kernel
theorem dL_law_21 : decode cL_law 21 = .ok (.istore 4, 2) := by decide +kernel
theorem dL_law_23 : decode cL_law 23 = .ok (.iload 4, 2) := by decide +kernel
theorem dL_law_25 : decode cL_law 25 = .ok (.aload_n 0, 1) := by decide +kernel
theorem dL_law_26 : decode cL_law 26 = .ok (.arraylength, 1) := by decide +kernel
theorem dL_law_27 : decode cL_law 27 = .ok (.iconst 5, 1) := by decide +kernel
theorem dL_law_28 : decode cL_law 28 = .ok (.isub, 1) := by decide +kernel
theorem dL_law_29 : decode cL_law 29 = .ok (.if_icmp .gt 538, 3) := by decide +kernel
theorem dL_law_32 : decode cL_law 32 = .ok (.aload_n 0, 1) := by decide +kernel
theorem dL_law_33 : decode cL_law 33 = .ok (.iload 4, 2) := by decide +kernel
theorem dL_law_35 : decode cL_law 35 = .ok (.iaload, 1) := by decide +kernel
theorem dL_law_36 : decode cL_law 36 = .ok (.bipush 7, 2) := by decide +kernel
theorem dL_law_38 : decode cL_law 38 = .ok (.iand, 1) := by decide +kernel
theorem dL_law_39 : decode cL_law 39 = .ok (.tableswitch 522 0 7 #[45, 137, 193, 237, 305, 361, 429, 497], 45) := by decide +kernel
theorem dL_law_84 : decode cL_law 84 = .ok (.aload_n 1, 1) := by decide +kernel
theorem dL_law_85 : decode cL_law 85 = .ok (.aload_n 0, 1) := by decide +kernel
theorem dL_law_86 : decode cL_law 86 = .ok (.iload 4, 2) := by decide +kernel
theorem dL_law_88 : decode cL_law 88 = .ok (.iconst 1, 1) := by decide +kernel
theorem dL_law_89 : decode cL_law 89 = .ok (.iadd, 1) := by decide +kernel
theorem dL_law_90 : decode cL_law 90 = .ok (.iaload, 1) := by decide +kernel
theorem dL_law_91 : decode cL_law 91 = .ok (.aload_n 0, 1) := by decide +kernel
theorem dL_law_92 : decode cL_law 92 = .ok (.iload 4, 2) := by decide +kernel
theorem dL_law_94 : decode cL_law 94 = .ok (.iconst 2, 1) := by decide +kernel
theorem dL_law_95 : decode cL_law 95 = .ok (.iadd, 1) := by decide +kernel
theorem dL_law_96 : decode cL_law 96 = .ok (.iaload, 1) := by decide +kernel
theorem dL_law_97 : decode cL_law 97 = .ok (.aload_n 0, 1) := by decide +kernel
theorem dL_law_98 : decode cL_law 98 = .ok (.iload 4, 2) := by decide +kernel
theorem dL_law_100 : decode cL_law 100 = .ok (.iconst 3, 1) := by decide +kernel
theorem dL_law_101 : decode cL_law 101 = .ok (.iadd, 1) := by decide +kernel
theorem dL_law_102 : decode cL_law 102 = .ok (.iaload, 1) := by decide +kernel
theorem dL_law_103 : decode cL_law 103 = .ok (.aload_n 0, 1) := by decide +kernel
theorem dL_law_104 : decode cL_law 104 = .ok (.iload 4, 2) := by decide +kernel
theorem dL_law_106 : decode cL_law 106 = .ok (.iconst 4, 1) := by decide +kernel
theorem dL_law_107 : decode cL_law 107 = .ok (.iadd, 1) := by decide +kernel
theorem dL_law_108 : decode cL_law 108 = .ok (.iaload, 1) := by decide +kernel
theorem dL_law_109 : decode cL_law 109 = .ok (.aload_n 3, 1) := by decide +kernel
theorem dL_law_110 : decode cL_law 110 = .ok (.invokestatic 44, 3) := by decide +kernel
theorem dL_law_113 : decode cL_law 113 = .ok (.istore 5, 2) := by decide +kernel
theorem dL_law_115 : decode cL_law 115 = .ok (.aload_n 2, 1) := by decide +kernel
theorem dL_law_116 : decode cL_law 116 = .ok (.aload_n 0, 1) := by decide +kernel
theorem dL_law_117 : decode cL_law 117 = .ok (.iload 4, 2) := by decide +kernel
theorem dL_law_119 : decode cL_law 119 = .ok (.iconst 1, 1) := by decide +kernel
theorem dL_law_120 : decode cL_law 120 = .ok (.iadd, 1) := by decide +kernel
theorem dL_law_121 : decode cL_law 121 = .ok (.iaload, 1) := by decide +kernel
theorem dL_law_122 : decode cL_law 122 = .ok (.aload_n 0, 1) := by decide +kernel
theorem dL_law_123 : decode cL_law 123 = .ok (.iload 4, 2) := by decide +kernel
theorem dL_law_125 : decode cL_law 125 = .ok (.iconst 2, 1) := by decide +kernel
theorem dL_law_126 : decode cL_law 126 = .ok (.iadd, 1) := by decide +kernel
theorem dL_law_127 : decode cL_law 127 = .ok (.iaload, 1) := by decide +kernel
theorem dL_law_128 : decode cL_law 128 = .ok (.aload_n 0, 1) := by decide +kernel
theorem dL_law_129 : decode cL_law 129 = .ok (.iload 4, 2) := by decide +kernel
theorem dL_law_131 : decode cL_law 131 = .ok (.iconst 3, 1) := by decide +kernel
theorem dL_law_132 : decode cL_law 132 = .ok (.iadd, 1) := by decide +kernel
theorem dL_law_133 : decode cL_law 133 = .ok (.iaload, 1) := by decide +kernel
theorem dL_law_134 : decode cL_law 134 = .ok (.aload_n 0, 1) := by decide +kernel
theorem dL_law_135 : decode cL_law 135 = .ok (.iload 4, 2) := by decide +kernel
theorem dL_law_137 : decode cL_law 137 = .ok (.iconst 4, 1) := by decide +kernel
theorem dL_law_138 : decode cL_law 138 = .ok (.iadd, 1) := by decide +kernel
theorem dL_law_139 : decode cL_law 139 = .ok (.iaload, 1) := by decide +kernel
theorem dL_law_140 : decode cL_law 140 = .ok (.invokevirtual 49, 3) := by decide +kernel
theorem dL_law_143 : decode cL_law 143 = .ok (.istore 6, 2) := by decide +kernel
theorem dL_law_145 : decode cL_law 145 = .ok (.aload_n 2, 1) := by decide +kernel
theorem dL_law_146 : decode cL_law 146 = .ok (.invokevirtual 50, 3) := by decide +kernel
theorem dL_law_149 : decode cL_law 149 = .ok (.iload 5, 2) := by decide +kernel
theorem dL_law_151 : decode cL_law 151 = .ok (.if_icmp .eq 5, 3) := by decide +kernel
theorem dL_law_154 : decode cL_law 154 = .ok (.iconst 0, 1) := by decide +kernel
theorem dL_law_155 : decode cL_law 155 = .ok (.ireturn, 1) := by decide +kernel
theorem dL_law_156 : decode cL_law 156 = .ok (.iload 5, 2) := by decide +kernel
theorem dL_law_158 : decode cL_law 158 = .ok (.ifCond .ne 15, 3) := by decide +kernel
theorem dL_law_161 : decode cL_law 161 = .ok (.aload_n 3, 1) := by decide +kernel
theorem dL_law_162 : decode cL_law 162 = .ok (.iconst 0, 1) := by decide +kernel
theorem dL_law_163 : decode cL_law 163 = .ok (.laload, 1) := by decide +kernel
theorem dL_law_164 : decode cL_law 164 = .ok (.iload 6, 2) := by decide +kernel
theorem dL_law_166 : decode cL_law 166 = .ok (.i2l, 1) := by decide +kernel
theorem dL_law_167 : decode cL_law 167 = .ok (.lcmp, 1) := by decide +kernel
theorem dL_law_168 : decode cL_law 168 = .ok (.ifCond .eq 5, 3) := by decide +kernel
theorem dL_law_171 : decode cL_law 171 = .ok (.iconst 0, 1) := by decide +kernel
theorem dL_law_172 : decode cL_law 172 = .ok (.ireturn, 1) := by decide +kernel
theorem dL_law_173 : decode cL_law 173 = .ok (.goto 388, 3) := by decide +kernel
theorem dL_law_176 : decode cL_law 176 = .ok (.aload_n 1, 1) := by decide +kernel
theorem dL_law_177 : decode cL_law 177 = .ok (.aload_n 0, 1) := by decide +kernel
theorem dL_law_178 : decode cL_law 178 = .ok (.iload 4, 2) := by decide +kernel
theorem dL_law_180 : decode cL_law 180 = .ok (.iconst 1, 1) := by decide +kernel
theorem dL_law_181 : decode cL_law 181 = .ok (.iadd, 1) := by decide +kernel
theorem dL_law_182 : decode cL_law 182 = .ok (.iaload, 1) := by decide +kernel
theorem dL_law_183 : decode cL_law 183 = .ok (.aload_n 3, 1) := by decide +kernel
theorem dL_law_184 : decode cL_law 184 = .ok (.invokestatic 53, 3) := by decide +kernel
theorem dL_law_187 : decode cL_law 187 = .ok (.istore 5, 2) := by decide +kernel
theorem dL_law_189 : decode cL_law 189 = .ok (.aload_n 2, 1) := by decide +kernel
theorem dL_law_190 : decode cL_law 190 = .ok (.aload_n 0, 1) := by decide +kernel
theorem dL_law_191 : decode cL_law 191 = .ok (.iload 4, 2) := by decide +kernel
theorem dL_law_193 : decode cL_law 193 = .ok (.iconst 1, 1) := by decide +kernel
theorem dL_law_194 : decode cL_law 194 = .ok (.iadd, 1) := by decide +kernel
theorem dL_law_195 : decode cL_law 195 = .ok (.iaload, 1) := by decide +kernel
theorem dL_law_196 : decode cL_law 196 = .ok (.invokevirtual 56, 3) := by decide +kernel
theorem dL_law_199 : decode cL_law 199 = .ok (.istore 6, 2) := by decide +kernel
theorem dL_law_201 : decode cL_law 201 = .ok (.aload_n 2, 1) := by decide +kernel
theorem dL_law_202 : decode cL_law 202 = .ok (.invokevirtual 50, 3) := by decide +kernel
theorem dL_law_205 : decode cL_law 205 = .ok (.iload 5, 2) := by decide +kernel
theorem dL_law_207 : decode cL_law 207 = .ok (.if_icmp .eq 5, 3) := by decide +kernel
theorem dL_law_210 : decode cL_law 210 = .ok (.iconst 0, 1) := by decide +kernel
theorem dL_law_211 : decode cL_law 211 = .ok (.ireturn, 1) := by decide +kernel
theorem dL_law_212 : decode cL_law 212 = .ok (.iload 5, 2) := by decide +kernel
theorem dL_law_214 : decode cL_law 214 = .ok (.ifCond .ne 15, 3) := by decide +kernel
theorem dL_law_217 : decode cL_law 217 = .ok (.aload_n 3, 1) := by decide +kernel
theorem dL_law_218 : decode cL_law 218 = .ok (.iconst 0, 1) := by decide +kernel
theorem dL_law_219 : decode cL_law 219 = .ok (.laload, 1) := by decide +kernel
theorem dL_law_220 : decode cL_law 220 = .ok (.iload 6, 2) := by decide +kernel
theorem dL_law_222 : decode cL_law 222 = .ok (.i2l, 1) := by decide +kernel
theorem dL_law_223 : decode cL_law 223 = .ok (.lcmp, 1) := by decide +kernel
theorem dL_law_224 : decode cL_law 224 = .ok (.ifCond .eq 5, 3) := by decide +kernel
theorem dL_law_227 : decode cL_law 227 = .ok (.iconst 0, 1) := by decide +kernel
theorem dL_law_228 : decode cL_law 228 = .ok (.ireturn, 1) := by decide +kernel
theorem dL_law_229 : decode cL_law 229 = .ok (.goto 332, 3) := by decide +kernel
theorem dL_law_232 : decode cL_law 232 = .ok (.aload_n 1, 1) := by decide +kernel
theorem dL_law_233 : decode cL_law 233 = .ok (.aload_n 3, 1) := by decide +kernel
theorem dL_law_234 : decode cL_law 234 = .ok (.invokestatic 57, 3) := by decide +kernel
theorem dL_law_237 : decode cL_law 237 = .ok (.istore 5, 2) := by decide +kernel
theorem dL_law_239 : decode cL_law 239 = .ok (.aload_n 2, 1) := by decide +kernel
theorem dL_law_240 : decode cL_law 240 = .ok (.invokevirtual 60, 3) := by decide +kernel
theorem dL_law_243 : decode cL_law 243 = .ok (.istore 6, 2) := by decide +kernel
theorem dL_law_245 : decode cL_law 245 = .ok (.aload_n 2, 1) := by decide +kernel
theorem dL_law_246 : decode cL_law 246 = .ok (.invokevirtual 50, 3) := by decide +kernel
theorem dL_law_249 : decode cL_law 249 = .ok (.iload 5, 2) := by decide +kernel
theorem dL_law_251 : decode cL_law 251 = .ok (.if_icmp .eq 5, 3) := by decide +kernel
theorem dL_law_254 : decode cL_law 254 = .ok (.iconst 0, 1) := by decide +kernel
theorem dL_law_255 : decode cL_law 255 = .ok (.ireturn, 1) := by decide +kernel
theorem dL_law_256 : decode cL_law 256 = .ok (.iload 5, 2) := by decide +kernel
theorem dL_law_258 : decode cL_law 258 = .ok (.ifCond .ne 15, 3) := by decide +kernel
theorem dL_law_261 : decode cL_law 261 = .ok (.aload_n 3, 1) := by decide +kernel
theorem dL_law_262 : decode cL_law 262 = .ok (.iconst 0, 1) := by decide +kernel
theorem dL_law_263 : decode cL_law 263 = .ok (.laload, 1) := by decide +kernel
theorem dL_law_264 : decode cL_law 264 = .ok (.iload 6, 2) := by decide +kernel
theorem dL_law_266 : decode cL_law 266 = .ok (.i2l, 1) := by decide +kernel
theorem dL_law_267 : decode cL_law 267 = .ok (.lcmp, 1) := by decide +kernel
theorem dL_law_268 : decode cL_law 268 = .ok (.ifCond .eq 5, 3) := by decide +kernel
theorem dL_law_271 : decode cL_law 271 = .ok (.iconst 0, 1) := by decide +kernel
theorem dL_law_272 : decode cL_law 272 = .ok (.ireturn, 1) := by decide +kernel
theorem dL_law_273 : decode cL_law 273 = .ok (.goto 288, 3) := by decide +kernel
theorem dL_law_276 : decode cL_law 276 = .ok (.aload_n 1, 1) := by decide +kernel
theorem dL_law_277 : decode cL_law 277 = .ok (.aload_n 0, 1) := by decide +kernel
theorem dL_law_278 : decode cL_law 278 = .ok (.iload 4, 2) := by decide +kernel
theorem dL_law_280 : decode cL_law 280 = .ok (.iconst 1, 1) := by decide +kernel
theorem dL_law_281 : decode cL_law 281 = .ok (.iadd, 1) := by decide +kernel
theorem dL_law_282 : decode cL_law 282 = .ok (.iaload, 1) := by decide +kernel
theorem dL_law_283 : decode cL_law 283 = .ok (.aload_n 0, 1) := by decide +kernel
theorem dL_law_284 : decode cL_law 284 = .ok (.iload 4, 2) := by decide +kernel
theorem dL_law_286 : decode cL_law 286 = .ok (.iconst 2, 1) := by decide +kernel
theorem dL_law_287 : decode cL_law 287 = .ok (.iadd, 1) := by decide +kernel
theorem dL_law_288 : decode cL_law 288 = .ok (.iaload, 1) := by decide +kernel
theorem dL_law_289 : decode cL_law 289 = .ok (.aload_n 3, 1) := by decide +kernel
theorem dL_law_290 : decode cL_law 290 = .ok (.invokestatic 61, 3) := by decide +kernel
theorem dL_law_293 : decode cL_law 293 = .ok (.istore 5, 2) := by decide +kernel
theorem dL_law_295 : decode cL_law 295 = .ok (.aload_n 2, 1) := by decide +kernel
theorem dL_law_296 : decode cL_law 296 = .ok (.aload_n 0, 1) := by decide +kernel
theorem dL_law_297 : decode cL_law 297 = .ok (.iload 4, 2) := by decide +kernel
theorem dL_law_299 : decode cL_law 299 = .ok (.iconst 1, 1) := by decide +kernel
theorem dL_law_300 : decode cL_law 300 = .ok (.iadd, 1) := by decide +kernel
theorem dL_law_301 : decode cL_law 301 = .ok (.iaload, 1) := by decide +kernel
theorem dL_law_302 : decode cL_law 302 = .ok (.aload_n 0, 1) := by decide +kernel
theorem dL_law_303 : decode cL_law 303 = .ok (.iload 4, 2) := by decide +kernel
theorem dL_law_305 : decode cL_law 305 = .ok (.iconst 2, 1) := by decide +kernel
theorem dL_law_306 : decode cL_law 306 = .ok (.iadd, 1) := by decide +kernel
theorem dL_law_307 : decode cL_law 307 = .ok (.iaload, 1) := by decide +kernel
theorem dL_law_308 : decode cL_law 308 = .ok (.invokevirtual 64, 3) := by decide +kernel
theorem dL_law_311 : decode cL_law 311 = .ok (.istore 6, 2) := by decide +kernel
theorem dL_law_313 : decode cL_law 313 = .ok (.aload_n 2, 1) := by decide +kernel
theorem dL_law_314 : decode cL_law 314 = .ok (.invokevirtual 50, 3) := by decide +kernel
theorem dL_law_317 : decode cL_law 317 = .ok (.iload 5, 2) := by decide +kernel
theorem dL_law_319 : decode cL_law 319 = .ok (.if_icmp .eq 5, 3) := by decide +kernel
theorem dL_law_322 : decode cL_law 322 = .ok (.iconst 0, 1) := by decide +kernel
theorem dL_law_323 : decode cL_law 323 = .ok (.ireturn, 1) := by decide +kernel
theorem dL_law_324 : decode cL_law 324 = .ok (.iload 5, 2) := by decide +kernel
theorem dL_law_326 : decode cL_law 326 = .ok (.ifCond .ne 15, 3) := by decide +kernel
theorem dL_law_329 : decode cL_law 329 = .ok (.aload_n 3, 1) := by decide +kernel
theorem dL_law_330 : decode cL_law 330 = .ok (.iconst 0, 1) := by decide +kernel
theorem dL_law_331 : decode cL_law 331 = .ok (.laload, 1) := by decide +kernel
theorem dL_law_332 : decode cL_law 332 = .ok (.iload 6, 2) := by decide +kernel
theorem dL_law_334 : decode cL_law 334 = .ok (.i2l, 1) := by decide +kernel
theorem dL_law_335 : decode cL_law 335 = .ok (.lcmp, 1) := by decide +kernel
theorem dL_law_336 : decode cL_law 336 = .ok (.ifCond .eq 5, 3) := by decide +kernel
theorem dL_law_339 : decode cL_law 339 = .ok (.iconst 0, 1) := by decide +kernel
theorem dL_law_340 : decode cL_law 340 = .ok (.ireturn, 1) := by decide +kernel
theorem dL_law_341 : decode cL_law 341 = .ok (.goto 220, 3) := by decide +kernel
theorem dL_law_344 : decode cL_law 344 = .ok (.aload_n 1, 1) := by decide +kernel
theorem dL_law_345 : decode cL_law 345 = .ok (.aload_n 0, 1) := by decide +kernel
theorem dL_law_346 : decode cL_law 346 = .ok (.iload 4, 2) := by decide +kernel
theorem dL_law_348 : decode cL_law 348 = .ok (.iconst 1, 1) := by decide +kernel
theorem dL_law_349 : decode cL_law 349 = .ok (.iadd, 1) := by decide +kernel
theorem dL_law_350 : decode cL_law 350 = .ok (.iaload, 1) := by decide +kernel
theorem dL_law_351 : decode cL_law 351 = .ok (.aload_n 3, 1) := by decide +kernel
theorem dL_law_352 : decode cL_law 352 = .ok (.invokestatic 65, 3) := by decide +kernel
theorem dL_law_355 : decode cL_law 355 = .ok (.istore 5, 2) := by decide +kernel
theorem dL_law_357 : decode cL_law 357 = .ok (.aload_n 2, 1) := by decide +kernel
theorem dL_law_358 : decode cL_law 358 = .ok (.aload_n 0, 1) := by decide +kernel
theorem dL_law_359 : decode cL_law 359 = .ok (.iload 4, 2) := by decide +kernel
theorem dL_law_361 : decode cL_law 361 = .ok (.iconst 1, 1) := by decide +kernel
theorem dL_law_362 : decode cL_law 362 = .ok (.iadd, 1) := by decide +kernel
theorem dL_law_363 : decode cL_law 363 = .ok (.iaload, 1) := by decide +kernel
theorem dL_law_364 : decode cL_law 364 = .ok (.invokevirtual 67, 3) := by decide +kernel
theorem dL_law_367 : decode cL_law 367 = .ok (.istore 6, 2) := by decide +kernel
theorem dL_law_369 : decode cL_law 369 = .ok (.aload_n 2, 1) := by decide +kernel
theorem dL_law_370 : decode cL_law 370 = .ok (.invokevirtual 50, 3) := by decide +kernel
theorem dL_law_373 : decode cL_law 373 = .ok (.iload 5, 2) := by decide +kernel
theorem dL_law_375 : decode cL_law 375 = .ok (.if_icmp .eq 5, 3) := by decide +kernel
theorem dL_law_378 : decode cL_law 378 = .ok (.iconst 0, 1) := by decide +kernel
theorem dL_law_379 : decode cL_law 379 = .ok (.ireturn, 1) := by decide +kernel
theorem dL_law_380 : decode cL_law 380 = .ok (.iload 5, 2) := by decide +kernel
theorem dL_law_382 : decode cL_law 382 = .ok (.ifCond .ne 15, 3) := by decide +kernel
theorem dL_law_385 : decode cL_law 385 = .ok (.aload_n 3, 1) := by decide +kernel
theorem dL_law_386 : decode cL_law 386 = .ok (.iconst 0, 1) := by decide +kernel
theorem dL_law_387 : decode cL_law 387 = .ok (.laload, 1) := by decide +kernel
theorem dL_law_388 : decode cL_law 388 = .ok (.iload 6, 2) := by decide +kernel
theorem dL_law_390 : decode cL_law 390 = .ok (.i2l, 1) := by decide +kernel
theorem dL_law_391 : decode cL_law 391 = .ok (.lcmp, 1) := by decide +kernel
theorem dL_law_392 : decode cL_law 392 = .ok (.ifCond .eq 5, 3) := by decide +kernel
theorem dL_law_395 : decode cL_law 395 = .ok (.iconst 0, 1) := by decide +kernel
theorem dL_law_396 : decode cL_law 396 = .ok (.ireturn, 1) := by decide +kernel
theorem dL_law_397 : decode cL_law 397 = .ok (.goto 164, 3) := by decide +kernel
theorem dL_law_400 : decode cL_law 400 = .ok (.aload_n 1, 1) := by decide +kernel
theorem dL_law_401 : decode cL_law 401 = .ok (.aload_n 0, 1) := by decide +kernel
theorem dL_law_402 : decode cL_law 402 = .ok (.iload 4, 2) := by decide +kernel
theorem dL_law_404 : decode cL_law 404 = .ok (.iconst 1, 1) := by decide +kernel
theorem dL_law_405 : decode cL_law 405 = .ok (.iadd, 1) := by decide +kernel
theorem dL_law_406 : decode cL_law 406 = .ok (.iaload, 1) := by decide +kernel
theorem dL_law_407 : decode cL_law 407 = .ok (.aload_n 0, 1) := by decide +kernel
theorem dL_law_408 : decode cL_law 408 = .ok (.iload 4, 2) := by decide +kernel
theorem dL_law_410 : decode cL_law 410 = .ok (.iconst 2, 1) := by decide +kernel
theorem dL_law_411 : decode cL_law 411 = .ok (.iadd, 1) := by decide +kernel
theorem dL_law_412 : decode cL_law 412 = .ok (.iaload, 1) := by decide +kernel
theorem dL_law_413 : decode cL_law 413 = .ok (.aload_n 3, 1) := by decide +kernel
theorem dL_law_414 : decode cL_law 414 = .ok (.invokestatic 68, 3) := by decide +kernel
theorem dL_law_417 : decode cL_law 417 = .ok (.istore 5, 2) := by decide +kernel
theorem dL_law_419 : decode cL_law 419 = .ok (.aload_n 2, 1) := by decide +kernel
theorem dL_law_420 : decode cL_law 420 = .ok (.aload_n 0, 1) := by decide +kernel
theorem dL_law_421 : decode cL_law 421 = .ok (.iload 4, 2) := by decide +kernel
theorem dL_law_423 : decode cL_law 423 = .ok (.iconst 1, 1) := by decide +kernel
theorem dL_law_424 : decode cL_law 424 = .ok (.iadd, 1) := by decide +kernel
theorem dL_law_425 : decode cL_law 425 = .ok (.iaload, 1) := by decide +kernel
theorem dL_law_426 : decode cL_law 426 = .ok (.aload_n 0, 1) := by decide +kernel
theorem dL_law_427 : decode cL_law 427 = .ok (.iload 4, 2) := by decide +kernel
theorem dL_law_429 : decode cL_law 429 = .ok (.iconst 2, 1) := by decide +kernel
theorem dL_law_430 : decode cL_law 430 = .ok (.iadd, 1) := by decide +kernel
theorem dL_law_431 : decode cL_law 431 = .ok (.iaload, 1) := by decide +kernel
theorem dL_law_432 : decode cL_law 432 = .ok (.invokevirtual 70, 3) := by decide +kernel
theorem dL_law_435 : decode cL_law 435 = .ok (.istore 6, 2) := by decide +kernel
theorem dL_law_437 : decode cL_law 437 = .ok (.aload_n 2, 1) := by decide +kernel
theorem dL_law_438 : decode cL_law 438 = .ok (.invokevirtual 50, 3) := by decide +kernel
theorem dL_law_441 : decode cL_law 441 = .ok (.iload 5, 2) := by decide +kernel
theorem dL_law_443 : decode cL_law 443 = .ok (.if_icmp .eq 5, 3) := by decide +kernel
theorem dL_law_446 : decode cL_law 446 = .ok (.iconst 0, 1) := by decide +kernel
theorem dL_law_447 : decode cL_law 447 = .ok (.ireturn, 1) := by decide +kernel
theorem dL_law_448 : decode cL_law 448 = .ok (.iload 5, 2) := by decide +kernel
theorem dL_law_450 : decode cL_law 450 = .ok (.ifCond .ne 15, 3) := by decide +kernel
theorem dL_law_453 : decode cL_law 453 = .ok (.aload_n 3, 1) := by decide +kernel
theorem dL_law_454 : decode cL_law 454 = .ok (.iconst 0, 1) := by decide +kernel
theorem dL_law_455 : decode cL_law 455 = .ok (.laload, 1) := by decide +kernel
theorem dL_law_456 : decode cL_law 456 = .ok (.iload 6, 2) := by decide +kernel
theorem dL_law_458 : decode cL_law 458 = .ok (.i2l, 1) := by decide +kernel
theorem dL_law_459 : decode cL_law 459 = .ok (.lcmp, 1) := by decide +kernel
theorem dL_law_460 : decode cL_law 460 = .ok (.ifCond .eq 5, 3) := by decide +kernel
theorem dL_law_463 : decode cL_law 463 = .ok (.iconst 0, 1) := by decide +kernel
theorem dL_law_464 : decode cL_law 464 = .ok (.ireturn, 1) := by decide +kernel
theorem dL_law_465 : decode cL_law 465 = .ok (.goto 96, 3) := by decide +kernel
theorem dL_law_468 : decode cL_law 468 = .ok (.aload_n 1, 1) := by decide +kernel
theorem dL_law_469 : decode cL_law 469 = .ok (.aload_n 0, 1) := by decide +kernel
theorem dL_law_470 : decode cL_law 470 = .ok (.iload 4, 2) := by decide +kernel
theorem dL_law_472 : decode cL_law 472 = .ok (.iconst 1, 1) := by decide +kernel
theorem dL_law_473 : decode cL_law 473 = .ok (.iadd, 1) := by decide +kernel
theorem dL_law_474 : decode cL_law 474 = .ok (.iaload, 1) := by decide +kernel
theorem dL_law_475 : decode cL_law 475 = .ok (.aload_n 0, 1) := by decide +kernel
theorem dL_law_476 : decode cL_law 476 = .ok (.iload 4, 2) := by decide +kernel
theorem dL_law_478 : decode cL_law 478 = .ok (.iconst 2, 1) := by decide +kernel
theorem dL_law_479 : decode cL_law 479 = .ok (.iadd, 1) := by decide +kernel
theorem dL_law_480 : decode cL_law 480 = .ok (.iaload, 1) := by decide +kernel
theorem dL_law_481 : decode cL_law 481 = .ok (.aload_n 3, 1) := by decide +kernel
theorem dL_law_482 : decode cL_law 482 = .ok (.invokestatic 71, 3) := by decide +kernel
theorem dL_law_485 : decode cL_law 485 = .ok (.istore 5, 2) := by decide +kernel
theorem dL_law_487 : decode cL_law 487 = .ok (.aload_n 2, 1) := by decide +kernel
theorem dL_law_488 : decode cL_law 488 = .ok (.aload_n 0, 1) := by decide +kernel
theorem dL_law_489 : decode cL_law 489 = .ok (.iload 4, 2) := by decide +kernel
theorem dL_law_491 : decode cL_law 491 = .ok (.iconst 1, 1) := by decide +kernel
theorem dL_law_492 : decode cL_law 492 = .ok (.iadd, 1) := by decide +kernel
theorem dL_law_493 : decode cL_law 493 = .ok (.iaload, 1) := by decide +kernel
theorem dL_law_494 : decode cL_law 494 = .ok (.aload_n 0, 1) := by decide +kernel
theorem dL_law_495 : decode cL_law 495 = .ok (.iload 4, 2) := by decide +kernel
theorem dL_law_497 : decode cL_law 497 = .ok (.iconst 2, 1) := by decide +kernel
theorem dL_law_498 : decode cL_law 498 = .ok (.iadd, 1) := by decide +kernel
theorem dL_law_499 : decode cL_law 499 = .ok (.iaload, 1) := by decide +kernel
theorem dL_law_500 : decode cL_law 500 = .ok (.invokevirtual 73, 3) := by decide +kernel
theorem dL_law_503 : decode cL_law 503 = .ok (.istore 6, 2) := by decide +kernel
theorem dL_law_505 : decode cL_law 505 = .ok (.aload_n 2, 1) := by decide +kernel
theorem dL_law_506 : decode cL_law 506 = .ok (.invokevirtual 50, 3) := by decide +kernel
theorem dL_law_509 : decode cL_law 509 = .ok (.iload 5, 2) := by decide +kernel
theorem dL_law_511 : decode cL_law 511 = .ok (.if_icmp .eq 5, 3) := by decide +kernel
theorem dL_law_514 : decode cL_law 514 = .ok (.iconst 0, 1) := by decide +kernel
theorem dL_law_515 : decode cL_law 515 = .ok (.ireturn, 1) := by decide +kernel
theorem dL_law_516 : decode cL_law 516 = .ok (.iload 5, 2) := by decide +kernel
theorem dL_law_518 : decode cL_law 518 = .ok (.ifCond .ne 15, 3) := by decide +kernel
theorem dL_law_521 : decode cL_law 521 = .ok (.aload_n 3, 1) := by decide +kernel
theorem dL_law_522 : decode cL_law 522 = .ok (.iconst 0, 1) := by decide +kernel
theorem dL_law_523 : decode cL_law 523 = .ok (.laload, 1) := by decide +kernel
theorem dL_law_524 : decode cL_law 524 = .ok (.iload 6, 2) := by decide +kernel
theorem dL_law_526 : decode cL_law 526 = .ok (.i2l, 1) := by decide +kernel
theorem dL_law_527 : decode cL_law 527 = .ok (.lcmp, 1) := by decide +kernel
theorem dL_law_528 : decode cL_law 528 = .ok (.ifCond .eq 5, 3) := by decide +kernel
theorem dL_law_531 : decode cL_law 531 = .ok (.iconst 0, 1) := by decide +kernel
theorem dL_law_532 : decode cL_law 532 = .ok (.ireturn, 1) := by decide +kernel
theorem dL_law_533 : decode cL_law 533 = .ok (.goto 28, 3) := by decide +kernel
theorem dL_law_536 : decode cL_law 536 = .ok (.aload_n 1, 1) := by decide +kernel
theorem dL_law_537 : decode cL_law 537 = .ok (.aload_n 0, 1) := by decide +kernel
theorem dL_law_538 : decode cL_law 538 = .ok (.iload 4, 2) := by decide +kernel
theorem dL_law_540 : decode cL_law 540 = .ok (.iconst 1, 1) := by decide +kernel
theorem dL_law_541 : decode cL_law 541 = .ok (.iadd, 1) := by decide +kernel
theorem dL_law_542 : decode cL_law 542 = .ok (.iaload, 1) := by decide +kernel
theorem dL_law_543 : decode cL_law 543 = .ok (.invokevirtual 74, 3) := by decide +kernel
theorem dL_law_546 : decode cL_law 546 = .ok (.aload_n 2, 1) := by decide +kernel
theorem dL_law_547 : decode cL_law 547 = .ok (.aload_n 0, 1) := by decide +kernel
theorem dL_law_548 : decode cL_law 548 = .ok (.iload 4, 2) := by decide +kernel
theorem dL_law_550 : decode cL_law 550 = .ok (.iconst 1, 1) := by decide +kernel
theorem dL_law_551 : decode cL_law 551 = .ok (.iadd, 1) := by decide +kernel
theorem dL_law_552 : decode cL_law 552 = .ok (.iaload, 1) := by decide +kernel
theorem dL_law_553 : decode cL_law 553 = .ok (.invokevirtual 77, 3) := by decide +kernel
theorem dL_law_556 : decode cL_law 556 = .ok (.if_icmp .eq 5, 3) := by decide +kernel
theorem dL_law_559 : decode cL_law 559 = .ok (.iconst 0, 1) := by decide +kernel
theorem dL_law_560 : decode cL_law 560 = .ok (.ireturn, 1) := by decide +kernel
theorem dL_law_561 : decode cL_law 561 = .ok (.iinc 4 5, 3) := by decide +kernel
theorem dL_law_564 : decode cL_law 564 = .ok (.goto (-541), 3) := by decide +kernel
theorem dL_law_567 : decode cL_law 567 = .ok (.iconst 1, 1) := by decide +kernel
theorem dL_law_568 : decode cL_law 568 = .ok (.ireturn, 1) := by decide +kernel

