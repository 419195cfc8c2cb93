theorem d_arrP {s : State} {A : Array Value} {ty : FieldType} (hn : ∀ C, ty ≠ .object C) (h : (Cond.arrayClass ty).before A s = true) : ∃ cA : ClassId, ArrOfT s cA ty ∧ va_RA s cA ty := by
  obtain ⟨c, k, comp, h1, h2, h3⟩ := Cond.arrayClass_spec h
  refine ⟨c, fun N z => ⟨(fun k h => by cases h), k, h2, comp, h3⟩, ?_⟩
  cases ty with
  | object C => exact absurd rfl (hn C)
  | _ => exact h1
theorem d_arrO {s : State} {A : Array Value} {C : String} (h : (Cond.arrayOver (.object C)).before A s = true) : ∃ cA : ClassId, ArrOfT s cA (.object C) ∧ va_RA s cA (.object C) := by
  obtain ⟨comp, c, k, h1, h2, h3, h4, h5⟩ := Cond.arrayOver_spec h
  exact ⟨c, fun N z => ⟨(fun k h => by cases h), k, h3, comp, h4⟩, k, comp, h3, h4, h1, h5⟩
theorem d_str {s : State} {A : Array Value} {own tx : String} {k : Nat} (h1 : (Cond.stringRef own k tx).before A s = true) (h2 : (Cond.exactly (.string own k) "java/lang/String").before A s = true) : ∃ a, vk_R own k tx a s := by
  obtain ⟨a, c, cell, kk, q1, -⟩ := Cond.exactly_spec h2
  exact ⟨a, vk_R.of h1 q1⟩
set_option maxRecDepth 20000 in
theorem x_1_9 : (Jvm.Cond.initialized "AssembleLines$Operation") ∈ lw_tbl := (fun h => List.mem_append_right _ (show _ ∈ tables_1 from List.mem_append_left _ h)) (List.mem_of_getElem? (l := tables_1_1) (i := 9) rfl)
set_option maxRecDepth 20000 in
theorem x_1_22 : (Jvm.Cond.initialized "java/lang/String") ∈ lw_tbl := (fun h => List.mem_append_right _ (show _ ∈ tables_1 from List.mem_append_left _ h)) (List.mem_of_getElem? (l := tables_1_1) (i := 22) rfl)
set_option maxRecDepth 20000 in
theorem x_1_24 : (Jvm.Cond.initialized "jdk/internal/util/Preconditions") ∈ lw_tbl := (fun h => List.mem_append_right _ (show _ ∈ tables_1 from List.mem_append_left _ h)) (List.mem_of_getElem? (l := tables_1_1) (i := 24) rfl)
set_option maxRecDepth 20000 in
theorem x_1_26 : (Jvm.Cond.initialized "AssembleLines$1") ∈ lw_tbl := (fun h => List.mem_append_right _ (show _ ∈ tables_1 from List.mem_append_left _ h)) (List.mem_of_getElem? (l := tables_1_1) (i := 26) rfl)
set_option maxRecDepth 20000 in
theorem x_1_39 : (Jvm.Cond.methodLinkNest "AssembleLines" (15 : Nat) ({ cls := "AssembleLines$Errors", name := "<init>", desc := "()V" } : Jvm.MethodName) "AssembleLines") ∈ lw_tbl := (fun h => List.mem_append_right _ (show _ ∈ tables_1 from List.mem_append_left _ h)) (List.mem_of_getElem? (l := tables_1_1) (i := 39) rfl)
set_option maxRecDepth 20000 in
theorem x_1_133 : (Jvm.Cond.arrayOver (Jvm.ClassFile.FieldType.object "AssembleLines$Statement")) ∈ lw_tbl := (fun h => List.mem_append_right _ (show _ ∈ tables_1 from List.mem_append_left _ h)) (List.mem_of_getElem? (l := tables_1_1) (i := 133) rfl)
set_option maxRecDepth 20000 in
theorem x_1_135 : (Jvm.Cond.methodLinkNest "AssembleLines$Program" (37 : Nat) ({ cls := "AssembleLines$Statement", name := "<init>", desc := "()V" } : Jvm.MethodName) "AssembleLines") ∈ lw_tbl := (fun h => List.mem_append_right _ (show _ ∈ tables_1 from List.mem_append_left _ h)) (List.mem_of_getElem? (l := tables_1_1) (i := 135) rfl)
set_option maxRecDepth 20000 in
theorem x_1_140 : (Jvm.Cond.laysStatic "AssembleLines$Operation" "NOTHING" "LAssembleLines$Operation;") ∈ lw_tbl := (fun h => List.mem_append_right _ (show _ ∈ tables_1 from List.mem_append_left _ h)) (List.mem_of_getElem? (l := tables_1_1) (i := 140) rfl)
set_option maxRecDepth 20000 in
theorem x_1_229 : (Jvm.Cond.methodLinkNest "AssembleLines$TurnOne" (11 : Nat) ({ cls := "AssembleLines$Scanner", name := "<init>", desc := "()V" } : Jvm.MethodName) "AssembleLines") ∈ lw_tbl := (fun h => List.mem_append_right _ (show _ ∈ tables_1 from List.mem_append_left _ h)) (List.mem_of_getElem? (l := tables_1_1) (i := 229) rfl)
set_option maxRecDepth 20000 in
theorem x_2_17 : (Jvm.Cond.methodLinkNest "AssembleLines$TurnOne" (20 : Nat) ({ cls := "AssembleLines$Macros", name := "<init>", desc := "()V" } : Jvm.MethodName) "AssembleLines") ∈ lw_tbl := (fun h => List.mem_append_right _ (show _ ∈ tables_1 from List.mem_append_right _ (List.mem_append_left _ h))) (List.mem_of_getElem? (l := tables_1_2) (i := 17) rfl)
set_option maxRecDepth 20000 in
theorem x_2_42 : (Jvm.Cond.arrayOver (Jvm.ClassFile.FieldType.object "AssembleLines$Call")) ∈ lw_tbl := (fun h => List.mem_append_right _ (show _ ∈ tables_1 from List.mem_append_right _ (List.mem_append_left _ h))) (List.mem_of_getElem? (l := tables_1_2) (i := 42) rfl)
set_option maxRecDepth 20000 in
theorem x_2_44 : (Jvm.Cond.methodLinkNest "AssembleLines$Lines" (27 : Nat) ({ cls := "AssembleLines$Call", name := "<init>", desc := "()V" } : Jvm.MethodName) "AssembleLines") ∈ lw_tbl := (fun h => List.mem_append_right _ (show _ ∈ tables_1 from List.mem_append_right _ (List.mem_append_left _ h))) (List.mem_of_getElem? (l := tables_1_2) (i := 44) rfl)
set_option maxRecDepth 20000 in
theorem x_2_209 : (Jvm.Cond.castable "java/lang/IllegalStateException" "java/lang/IllegalStateException") ∈ lw_tbl := (fun h => List.mem_append_right _ (show _ ∈ tables_1 from List.mem_append_right _ (List.mem_append_left _ h))) (List.mem_of_getElem? (l := tables_1_2) (i := 209) rfl)
set_option maxRecDepth 20000 in
theorem x_2_211 : (Jvm.Cond.declares ({ cls := "java/lang/RuntimeException", name := "<init>", desc := "(Ljava/lang/String;)V" } : Jvm.MethodName)) ∈ lw_tbl := (fun h => List.mem_append_right _ (show _ ∈ tables_1 from List.mem_append_right _ (List.mem_append_left _ h))) (List.mem_of_getElem? (l := tables_1_2) (i := 211) rfl)
set_option maxRecDepth 20000 in
theorem x_2_213 : (Jvm.Cond.declares ({ cls := "java/lang/Exception", name := "<init>", desc := "(Ljava/lang/String;)V" } : Jvm.MethodName)) ∈ lw_tbl := (fun h => List.mem_append_right _ (show _ ∈ tables_1 from List.mem_append_right _ (List.mem_append_left _ h))) (List.mem_of_getElem? (l := tables_1_2) (i := 213) rfl)
set_option maxRecDepth 20000 in
theorem x_2_215 : (Jvm.Cond.declares ({ cls := "java/lang/Throwable", name := "<init>", desc := "(Ljava/lang/String;)V" } : Jvm.MethodName)) ∈ lw_tbl := (fun h => List.mem_append_right _ (show _ ∈ tables_1 from List.mem_append_right _ (List.mem_append_left _ h))) (List.mem_of_getElem? (l := tables_1_2) (i := 215) rfl)
set_option maxRecDepth 20000 in
theorem x_2_234 : (Jvm.Cond.laysStatic "java/lang/Throwable" "UNASSIGNED_STACK" "[Ljava/lang/StackTraceElement;") ∈ lw_tbl := (fun h => List.mem_append_right _ (show _ ∈ tables_1 from List.mem_append_right _ (List.mem_append_left _ h))) (List.mem_of_getElem? (l := tables_1_2) (i := 234) rfl)
set_option maxRecDepth 20000 in
theorem x_2_236 : (Jvm.Cond.laysStatic "java/lang/Throwable" "SUPPRESSED_SENTINEL" "Ljava/util/List;") ∈ lw_tbl := (fun h => List.mem_append_right _ (show _ ∈ tables_1 from List.mem_append_right _ (List.mem_append_left _ h))) (List.mem_of_getElem? (l := tables_1_2) (i := 236) rfl)
set_option maxRecDepth 20000 in
theorem x_3_8 : (Jvm.Cond.stringRef "AssembleLines" (44 : Nat) "the text has no room for sixteen bytes more") ∈ lw_tbl := (fun h => List.mem_append_right _ (show _ ∈ tables_1 from List.mem_append_right _ (List.mem_append_right _ (List.mem_append_left _ h)))) (List.mem_of_getElem? (l := tables_1_3) (i := 8) rfl)
set_option maxRecDepth 20000 in
theorem x_3_48 : (Jvm.Cond.castable "java/lang/IllegalArgumentException" "java/lang/IllegalArgumentException") ∈ lw_tbl := (fun h => List.mem_append_right _ (show _ ∈ tables_1 from List.mem_append_right _ (List.mem_append_right _ (List.mem_append_left _ h)))) (List.mem_of_getElem? (l := tables_1_3) (i := 48) rfl)
set_option maxRecDepth 20000 in
theorem x_3_55 : (Jvm.Cond.stringRef "AssembleLines" (55 : Nat) "n is not from 0 to 16") ∈ lw_tbl := (fun h => List.mem_append_right _ (show _ ∈ tables_1 from List.mem_append_right _ (List.mem_append_right _ (List.mem_append_left _ h)))) (List.mem_of_getElem? (l := tables_1_3) (i := 55) rfl)
set_option maxRecDepth 20000 in
theorem x_3_62 : (Jvm.Cond.stringRef "AssembleLines" (58 : Nat) "the text has less than sixteen bytes") ∈ lw_tbl := (fun h => List.mem_append_right _ (show _ ∈ tables_1 from List.mem_append_right _ (List.mem_append_right _ (List.mem_append_left _ h)))) (List.mem_of_getElem? (l := tables_1_3) (i := 62) rfl)
set_option maxRecDepth 20000 in
theorem x_3_188 : (Jvm.Cond.laysStatic "AssembleLines$Operation" "ALL" "[LAssembleLines$Operation;") ∈ lw_tbl := (fun h => List.mem_append_right _ (show _ ∈ tables_1 from List.mem_append_right _ (List.mem_append_right _ (List.mem_append_left _ h)))) (List.mem_of_getElem? (l := tables_1_3) (i := 188) rfl)
set_option maxRecDepth 20000 in
theorem x_3_206 : (Jvm.Cond.laysStatic "java/lang/String" "COMPACT_STRINGS" "Z") ∈ lw_tbl := (fun h => List.mem_append_right _ (show _ ∈ tables_1 from List.mem_append_right _ (List.mem_append_right _ (List.mem_append_left _ h)))) (List.mem_of_getElem? (l := tables_1_3) (i := 206) rfl)
set_option maxRecDepth 20000 in
theorem x_3_222 : (Jvm.Cond.laysStatic "jdk/internal/util/Preconditions" "SIOOBE_FORMATTER" "Ljava/util/function/BiFunction;") ∈ lw_tbl := (fun h => List.mem_append_right _ (show _ ∈ tables_1 from List.mem_append_right _ (List.mem_append_right _ (List.mem_append_left _ h)))) (List.mem_of_getElem? (l := tables_1_3) (i := 222) rfl)
set_option maxRecDepth 20000 in
theorem x_4_6 : (Jvm.Cond.laysStatic "AssembleLines$Operation" "UNHEARD" "LAssembleLines$Operation;") ∈ lw_tbl := (fun h => List.mem_append_right _ (show _ ∈ tables_1 from List.mem_append_right _ (List.mem_append_right _ (List.mem_append_right _ (List.mem_append_left _ h))))) (List.mem_of_getElem? (l := tables_1_4) (i := 6) rfl)
set_option maxRecDepth 20000 in
theorem x_4_8 : (Jvm.Cond.laysStatic "AssembleLines$Operation" "END" "LAssembleLines$Operation;") ∈ lw_tbl := (fun h => List.mem_append_right _ (show _ ∈ tables_1 from List.mem_append_right _ (List.mem_append_right _ (List.mem_append_right _ (List.mem_append_left _ h))))) (List.mem_of_getElem? (l := tables_1_4) (i := 8) rfl)
set_option maxRecDepth 20000 in
theorem x_4_40 : (Jvm.Cond.laysStatic "AssembleLines$Operation" "CALL" "LAssembleLines$Operation;") ∈ lw_tbl := (fun h => List.mem_append_right _ (show _ ∈ tables_1 from List.mem_append_right _ (List.mem_append_right _ (List.mem_append_right _ (List.mem_append_left _ h))))) (List.mem_of_getElem? (l := tables_1_4) (i := 40) rfl)
set_option maxRecDepth 20000 in
theorem x_4_46 : (Jvm.Cond.laysStatic "AssembleLines$1" "$SwitchMap$AssembleLines$Operation" "[I") ∈ lw_tbl := (fun h => List.mem_append_right _ (show _ ∈ tables_1 from List.mem_append_right _ (List.mem_append_right _ (List.mem_append_right _ (List.mem_append_left _ h))))) (List.mem_of_getElem? (l := tables_1_4) (i := 46) rfl)
set_option maxRecDepth 20000 in
theorem x_4_158 : (Jvm.Cond.laysStatic "AssembleLines$Operation" "SET" "LAssembleLines$Operation;") ∈ lw_tbl := (fun h => List.mem_append_right _ (show _ ∈ tables_1 from List.mem_append_right _ (List.mem_append_right _ (List.mem_append_right _ (List.mem_append_left _ h))))) (List.mem_of_getElem? (l := tables_1_4) (i := 158) rfl)
set_option maxRecDepth 20000 in
theorem x_4_160 : (Jvm.Cond.laysStatic "AssembleLines$Operation" "MACRO" "LAssembleLines$Operation;") ∈ lw_tbl := (fun h => List.mem_append_right _ (show _ ∈ tables_1 from List.mem_append_right _ (List.mem_append_right _ (List.mem_append_right _ (List.mem_append_left _ h))))) (List.mem_of_getElem? (l := tables_1_4) (i := 160) rfl)
set_option maxRecDepth 20000 in
theorem x_4_166 : (Jvm.Cond.laysStatic "AssembleLines$Operation" "SPACE" "LAssembleLines$Operation;") ∈ lw_tbl := (fun h => List.mem_append_right _ (show _ ∈ tables_1 from List.mem_append_right _ (List.mem_append_right _ (List.mem_append_right _ (List.mem_append_left _ h))))) (List.mem_of_getElem? (l := tables_1_4) (i := 166) rfl)
set_option maxRecDepth 20000 in
theorem x_5_17 : (Jvm.Cond.laysStatic "AssembleLines$Operation" "LABEL" "LAssembleLines$Operation;") ∈ lw_tbl := (fun h => List.mem_append_right _ (show _ ∈ tables_1 from List.mem_append_right _ (List.mem_append_right _ (List.mem_append_right _ (List.mem_append_right _ (List.mem_append_left _ h)))))) (List.mem_of_getElem? (l := tables_1_5) (i := 17) rfl)
set_option maxRecDepth 20000 in
theorem x_5_60 : (Jvm.Cond.laysStatic "AssembleLines$Operation" "LW" "LAssembleLines$Operation;") ∈ lw_tbl := (fun h => List.mem_append_right _ (show _ ∈ tables_1 from List.mem_append_right _ (List.mem_append_right _ (List.mem_append_right _ (List.mem_append_right _ (List.mem_append_left _ h)))))) (List.mem_of_getElem? (l := tables_1_5) (i := 60) rfl)
set_option maxRecDepth 20000 in
theorem x_5_62 : (Jvm.Cond.laysStatic "AssembleLines$Operation" "POOL" "LAssembleLines$Operation;") ∈ lw_tbl := (fun h => List.mem_append_right _ (show _ ∈ tables_1 from List.mem_append_right _ (List.mem_append_right _ (List.mem_append_right _ (List.mem_append_right _ (List.mem_append_left _ h)))))) (List.mem_of_getElem? (l := tables_1_5) (i := 62) rfl)
set_option maxRecDepth 20000 in
theorem x_5_88 : (Jvm.Cond.laysStatic "AssembleLines$Operation" "LI" "LAssembleLines$Operation;") ∈ lw_tbl := (fun h => List.mem_append_right _ (show _ ∈ tables_1 from List.mem_append_right _ (List.mem_append_right _ (List.mem_append_right _ (List.mem_append_right _ (List.mem_append_left _ h)))))) (List.mem_of_getElem? (l := tables_1_5) (i := 88) rfl)
set_option maxRecDepth 20000 in
theorem x_5_109 : (Jvm.Cond.stringRef "AssembleLines" (76 : Nat) "the text has errors") ∈ lw_tbl := (fun h => List.mem_append_right _ (show _ ∈ tables_1 from List.mem_append_right _ (List.mem_append_right _ (List.mem_append_right _ (List.mem_append_right _ (List.mem_append_left _ h)))))) (List.mem_of_getElem? (l := tables_1_5) (i := 109) rfl)
set_option maxRecDepth 20000 in
theorem x_5_120 : (Jvm.Cond.castable "java/lang/IndexOutOfBoundsException" "java/lang/IndexOutOfBoundsException") ∈ lw_tbl := (fun h => List.mem_append_right _ (show _ ∈ tables_1 from List.mem_append_right _ (List.mem_append_right _ (List.mem_append_right _ (List.mem_append_right _ (List.mem_append_left _ h)))))) (List.mem_of_getElem? (l := tables_1_5) (i := 120) rfl)
set_option maxRecDepth 20000 in
theorem x_5_127 : (Jvm.Cond.stringRef "AssembleLines" (83 : Nat) "no such error, or no such what") ∈ lw_tbl := (fun h => List.mem_append_right _ (show _ ∈ tables_1 from List.mem_append_right _ (List.mem_append_right _ (List.mem_append_right _ (List.mem_append_right _ (List.mem_append_left _ h)))))) (List.mem_of_getElem? (l := tables_1_5) (i := 127) rfl)
set_option maxRecDepth 20000 in
theorem x_5_141 : (Jvm.Cond.stringRef "AssembleLines" (93 : Nat) "no such word") ∈ lw_tbl := (fun h => List.mem_append_right _ (show _ ∈ tables_1 from List.mem_append_right _ (List.mem_append_right _ (List.mem_append_right _ (List.mem_append_right _ (List.mem_append_left _ h)))))) (List.mem_of_getElem? (l := tables_1_5) (i := 141) rfl)
set_option maxRecDepth 20000 in
theorem x_5_161 : (Jvm.Cond.laysStatic "AssembleLines$Operation" "WORD" "LAssembleLines$Operation;") ∈ lw_tbl := (fun h => List.mem_append_right _ (show _ ∈ tables_1 from List.mem_append_right _ (List.mem_append_right _ (List.mem_append_right _ (List.mem_append_right _ (List.mem_append_left _ h)))))) (List.mem_of_getElem? (l := tables_1_5) (i := 161) rfl)
set_option maxRecDepth 20000 in
theorem x_5_173 : (Jvm.Cond.stringRef "AssembleLines" (102 : Nat) "no such statement, or no such what") ∈ lw_tbl := (fun h => List.mem_append_right _ (show _ ∈ tables_1 from List.mem_append_right _ (List.mem_append_right _ (List.mem_append_right _ (List.mem_append_right _ (List.mem_append_left _ h)))))) (List.mem_of_getElem? (l := tables_1_5) (i := 173) rfl)
set_option maxRecDepth 20000 in
theorem x_5_185 : (Jvm.Cond.stringRef "AssembleLines" (125 : Nat) "no such name, or no such what") ∈ lw_tbl := (fun h => List.mem_append_right _ (show _ ∈ tables_1 from List.mem_append_right _ (List.mem_append_right _ (List.mem_append_right _ (List.mem_append_right _ (List.mem_append_left _ h)))))) (List.mem_of_getElem? (l := tables_1_5) (i := 185) rfl)
set_option maxRecDepth 20000 in
theorem x_8_6 : (Jvm.Cond.laysStatic "AssembleLines$Operation" "NOP" "LAssembleLines$Operation;") ∈ lw_tbl := (fun h => List.mem_append_right _ (show _ ∈ tables_1 from List.mem_append_right _ (List.mem_append_right _ (List.mem_append_right _ (List.mem_append_right _ (List.mem_append_right _ (List.mem_append_right _ (List.mem_append_right _ (h))))))))) (List.mem_of_getElem? (l := tables_1_8) (i := 6) rfl)
set_option maxRecDepth 20000 in
theorem x_8_7 : (Jvm.Cond.laysStatic "AssembleLines$Operation" "ADD" "LAssembleLines$Operation;") ∈ lw_tbl := (fun h => List.mem_append_right _ (show _ ∈ tables_1 from List.mem_append_right _ (List.mem_append_right _ (List.mem_append_right _ (List.mem_append_right _ (List.mem_append_right _ (List.mem_append_right _ (List.mem_append_right _ (h))))))))) (List.mem_of_getElem? (l := tables_1_8) (i := 7) rfl)
set_option maxRecDepth 20000 in
theorem x_8_8 : (Jvm.Cond.laysStatic "AssembleLines$Operation" "SUB" "LAssembleLines$Operation;") ∈ lw_tbl := (fun h => List.mem_append_right _ (show _ ∈ tables_1 from List.mem_append_right _ (List.mem_append_right _ (List.mem_append_right _ (List.mem_append_right _ (List.mem_append_right _ (List.mem_append_right _ (List.mem_append_right _ (h))))))))) (List.mem_of_getElem? (l := tables_1_8) (i := 8) rfl)
set_option maxRecDepth 20000 in
theorem x_8_9 : (Jvm.Cond.laysStatic "AssembleLines$Operation" "B" "LAssembleLines$Operation;") ∈ lw_tbl := (fun h => List.mem_append_right _ (show _ ∈ tables_1 from List.mem_append_right _ (List.mem_append_right _ (List.mem_append_right _ (List.mem_append_right _ (List.mem_append_right _ (List.mem_append_right _ (List.mem_append_right _ (h))))))))) (List.mem_of_getElem? (l := tables_1_8) (i := 9) rfl)
set_option maxRecDepth 20000 in
theorem x_8_10 : (Jvm.Cond.laysStatic "AssembleLines$Operation" "BZ" "LAssembleLines$Operation;") ∈ lw_tbl := (fun h => List.mem_append_right _ (show _ ∈ tables_1 from List.mem_append_right _ (List.mem_append_right _ (List.mem_append_right _ (List.mem_append_right _ (List.mem_append_right _ (List.mem_append_right _ (List.mem_append_right _ (h))))))))) (List.mem_of_getElem? (l := tables_1_8) (i := 10) rfl)
def b_st : List Nat := [110, 110, 110, 110, 119, 122, 125, 128, 131, 134, 137, 140, 143, 146, 149, 152, 155]
def cT (i : Nat) : Term := .static "AssembleLines$Operation" (b_on.getD i "") "LAssembleLines$Operation;"
def sT (i : Nat) : Term := .string "AssembleLines$Operation" (b_st.getD i 0)
def ix_x : List Nat := [4, 40, 102, 54, 137, 123, 144, 151, 158, 165, 109, 130, 95, 116, 81, 88, 47]
set_option maxRecDepth 100000 in
set_option maxHeartbeats 4000000 in
theorem fx_x : ∀ i, i < 17 → (flatC (Jvm.Cond.and given_1 narrow_1))[ix_x.getD i 0]? = some (Cond.exactly (cT i) "AssembleLines$Operation") := by decide +kernel
theorem fl_x : ∀ i, i < 17 → Cond.exactly (cT i) "AssembleLines$Operation" ∈ flatC (Jvm.Cond.and given_1 narrow_1) := fun i hi => List.mem_of_getElem? (fx_x i hi)
def ix_f : List (List Nat) := [[5, 7, 8, 9, 10], [41, 43, 44, 45, 46], [103, 105, 106, 107, 108], [55, 57, 58, 59, 60], [138, 140, 141, 142, 143], [124, 126, 127, 128, 129], [145, 147, 148, 149, 150], [152, 154, 155, 156, 157], [159, 161, 162, 163, 164], [166, 168, 169, 170, 171], [110, 112, 113, 114, 115], [131, 133, 134, 135, 136], [96, 98, 99, 100, 101], [117, 119, 120, 121, 122], [82, 84, 85, 86, 87], [89, 91, 92, 93, 94], [48, 50, 51, 52, 53]]
set_option maxRecDepth 100000 in
set_option maxHeartbeats 4000000 in
theorem fx_f : ∀ i, i < 17 → ∀ k, k < 5 → (flatC (Jvm.Cond.and given_1 narrow_1))[(ix_f.getD i []).getD k 0]? = some (Cond.eq (.field (cT i) (b_oF.getD k ("", "", "", [])).1 (b_oF.getD k ("", "", "", [])).2.1 (b_oF.getD k ("", "", "", [])).2.2.1) (.int ((b_oF.getD k ("", "", "", [])).2.2.2.getD i 0))) := by decide +kernel
theorem fl_f : ∀ i, i < 17 → ∀ q ∈ b_oF, Cond.eq (.field (cT i) q.1 q.2.1 q.2.2.1) (.int (q.2.2.2.getD i 0)) ∈ flatC (Jvm.Cond.and given_1 narrow_1) := fun i hi => (List.forall_mem_cons.2 ⟨List.mem_of_getElem? (fx_f i hi 0 (by decide)), List.forall_mem_cons.2 ⟨List.mem_of_getElem? (fx_f i hi 1 (by decide)), List.forall_mem_cons.2 ⟨List.mem_of_getElem? (fx_f i hi 2 (by decide)), List.forall_mem_cons.2 ⟨List.mem_of_getElem? (fx_f i hi 3 (by decide)), List.forall_mem_cons.2 ⟨List.mem_of_getElem? (fx_f i hi 4 (by decide)), fun _ h => absurd h List.not_mem_nil⟩⟩⟩⟩⟩)
def ix_s : List Nat := [6, 42, 104, 56, 139, 125, 146, 153, 160, 167, 111, 132, 97, 118, 83, 90, 49]
set_option maxRecDepth 100000 in
set_option maxHeartbeats 4000000 in
theorem fx_s : ∀ i, i < 17 → (flatC (Jvm.Cond.and given_1 narrow_1))[ix_s.getD i 0]? = some (Cond.eq (.field (cT i) "AssembleLines$Operation" "spelling" "Ljava/lang/String;") (sT i)) := by decide +kernel
theorem fl_s : ∀ i, i < 17 → Cond.eq (.field (cT i) "AssembleLines$Operation" "spelling" "Ljava/lang/String;") (sT i) ∈ flatC (Jvm.Cond.and given_1 narrow_1) := fun i hi => List.mem_of_getElem? (fx_s i hi)
def ix_sx : List Nat := [473, 473, 473, 473, 543, 528, 550, 557, 564, 569, 513, 534, 503, 519, 485, 493, 477]
set_option maxRecDepth 100000 in
set_option maxHeartbeats 4000000 in
theorem fx_sx : ∀ i, i < 17 → (flatC (Jvm.Cond.and given_1 narrow_1))[ix_sx.getD i 0]? = some (Cond.exactly (sT i) "java/lang/String") := by decide +kernel
theorem fl_sx : ∀ i, i < 17 → Cond.exactly (sT i) "java/lang/String" ∈ flatC (Jvm.Cond.and given_1 narrow_1) := fun i hi => List.mem_of_getElem? (fx_sx i hi)
def ix_co : List Nat := [474, 474, 474, 474, 544, 529, 551, 558, 565, 570, 514, 535, 504, 520, 486, 494, 478]
set_option maxRecDepth 100000 in
set_option maxHeartbeats 4000000 in
theorem fx_co : ∀ i, i < 17 → (flatC (Jvm.Cond.and given_1 narrow_1))[ix_co.getD i 0]? = some (Cond.eq (.field (sT i) "java/lang/String" "coder" "B") (.int 0)) := by decide +kernel
theorem fl_co : ∀ i, i < 17 → Cond.eq (.field (sT i) "java/lang/String" "coder" "B") (.int 0) ∈ flatC (Jvm.Cond.and given_1 narrow_1) := fun i hi => List.mem_of_getElem? (fx_co i hi)
def ix_ar : List Nat := [475, 475, 475, 475, 545, 530, 552, 559, 566, 571, 515, 536, 505, 521, 487, 495, 479]
set_option maxRecDepth 100000 in
set_option maxHeartbeats 4000000 in
theorem fx_ar : ∀ i, i < 17 → (flatC (Jvm.Cond.and given_1 narrow_1))[ix_ar.getD i 0]? = some (Cond.arrayOf (.field (sT i) "java/lang/String" "value" "[B") .byte) := by decide +kernel
theorem fl_ar : ∀ i, i < 17 → Cond.arrayOf (.field (sT i) "java/lang/String" "value" "[B") .byte ∈ flatC (Jvm.Cond.and given_1 narrow_1) := fun i hi => List.mem_of_getElem? (fx_ar i hi)
def ix_le : List Nat := [476, 476, 476, 476, 546, 531, 553, 560, 567, 572, 516, 537, 506, 522, 488, 496, 480]
set_option maxRecDepth 100000 in
set_option maxHeartbeats 4000000 in
theorem fx_le : ∀ i, i < 17 → (flatC (Jvm.Cond.and given_1 narrow_1))[ix_le.getD i 0]? = some (Cond.eq (.length (.field (sT i) "java/lang/String" "value" "[B")) (.int (Int32.ofNat (b_sl.getD i 0)))) := by decide +kernel
theorem fl_le : ∀ i, i < 17 → Cond.eq (.length (.field (sT i) "java/lang/String" "value" "[B")) (.int (Int32.ofNat (b_sl.getD i 0))) ∈ flatC (Jvm.Cond.and given_1 narrow_1) := fun i hi => List.mem_of_getElem? (fx_le i hi)
def ix_el : List (List Nat) := [[], [], [], [], [547, 548, 549], [532, 533], [554, 555, 556], [561, 562, 563], [568], [573, 574], [517, 518], [538, 539, 540, 541, 542], [507, 508, 509, 510, 511, 512], [523, 524, 525, 526, 527], [489, 490, 491, 492], [497, 498, 499, 500, 501, 502], [481, 482, 483, 484]]
set_option maxRecDepth 100000 in
set_option maxHeartbeats 4000000 in
theorem fx_el : ∀ i, i < 17 → ∀ j, j < b_sl.getD i 0 → (flatC (Jvm.Cond.and given_1 narrow_1))[(ix_el.getD i []).getD j 0]? = some (Cond.eq (.elem (.field (sT i) "java/lang/String" "value" "[B") (.int (Int32.ofNat j))) (.int ((b_sb.getD i []).getD j 0))) := by decide +kernel
theorem fl_el : ∀ i, i < 17 → ∀ j, j < b_sl.getD i 0 → Cond.eq (.elem (.field (sT i) "java/lang/String" "value" "[B") (.int (Int32.ofNat j))) (.int ((b_sb.getD i []).getD j 0)) ∈ flatC (Jvm.Cond.and given_1 narrow_1) := fun i hi j hj => List.mem_of_getElem? (fx_el i hi j hj)
set_option maxRecDepth 100000 in
set_option maxHeartbeats 4000000 in
theorem fl_aa : Cond.arrayOf (.static "AssembleLines$Operation" "ALL" "[LAssembleLines$Operation;") (.object "AssembleLines$Operation") ∈ flatC (Jvm.Cond.and given_1 narrow_1) := by decide +kernel
set_option maxRecDepth 100000 in
set_option maxHeartbeats 4000000 in
theorem fl_al : Cond.eq (.length (.static "AssembleLines$Operation" "ALL" "[LAssembleLines$Operation;")) (.int (Int32.ofNat 17)) ∈ flatC (Jvm.Cond.and given_1 narrow_1) := by decide +kernel
def ix_ae : List Nat := [18, 19, 20, 21, 22, 23, 24, 25, 26, 27, 28, 29, 30, 31, 32, 33, 34]
set_option maxRecDepth 100000 in
set_option maxHeartbeats 4000000 in
theorem fx_ae : ∀ j, j < 17 → (flatC (Jvm.Cond.and given_1 narrow_1))[ix_ae.getD j 0]? = some (Cond.eq (.elem (.static "AssembleLines$Operation" "ALL" "[LAssembleLines$Operation;") (.int (Int32.ofNat j))) (cT j)) := by decide +kernel
theorem fl_ae : ∀ j, j < 17 → Cond.eq (.elem (.static "AssembleLines$Operation" "ALL" "[LAssembleLines$Operation;") (.int (Int32.ofNat j))) (cT j) ∈ flatC (Jvm.Cond.and given_1 narrow_1) := fun j hj => List.mem_of_getElem? (fx_ae j hj)
set_option maxRecDepth 100000 in
set_option maxHeartbeats 4000000 in
theorem fl_wa : Cond.arrayOf (.static "AssembleLines$1" "$SwitchMap$AssembleLines$Operation" "[I") .int ∈ flatC (Jvm.Cond.and given_1 narrow_1) := by decide +kernel
set_option maxRecDepth 100000 in
set_option maxHeartbeats 4000000 in
theorem fl_wl : Cond.eq (.length (.static "AssembleLines$1" "$SwitchMap$AssembleLines$Operation" "[I")) (.int (Int32.ofNat 17)) ∈ flatC (Jvm.Cond.and given_1 narrow_1) := by decide +kernel
def ix_we : List Nat := [64, 65, 66, 67, 68, 69, 70, 71, 72, 73, 74, 75, 76, 77, 78, 79, 80]
set_option maxRecDepth 100000 in
set_option maxHeartbeats 4000000 in
theorem fx_we : ∀ j, j < 17 → (flatC (Jvm.Cond.and given_1 narrow_1))[ix_we.getD j 0]? = some (Cond.eq (.elem (.static "AssembleLines$1" "$SwitchMap$AssembleLines$Operation" "[I") (.int (Int32.ofNat j))) (.int (b_sw.getD j 0))) := by decide +kernel
theorem fl_we : ∀ j, j < 17 → Cond.eq (.elem (.static "AssembleLines$1" "$SwitchMap$AssembleLines$Operation" "[I") (.int (Int32.ofNat j))) (.int (b_sw.getD j 0)) ∈ flatC (Jvm.Cond.and given_1 narrow_1) := fun j hj => List.mem_of_getElem? (fx_we j hj)
set_option maxRecDepth 100000 in
set_option maxHeartbeats 4000000 in
theorem fl_cs : Cond.eq (.static "java/lang/String" "COMPACT_STRINGS" "Z") (.int 1) ∈ flatC (Jvm.Cond.and given_1 narrow_1) := by decide +kernel
set_option maxRecDepth 100000 in
set_option maxHeartbeats 4000000 in
theorem fl_si : Cond.isRef (.static "jdk/internal/util/Preconditions" "SIOOBE_FORMATTER" "Ljava/util/function/BiFunction;") ∈ flatC (Jvm.Cond.and given_1 narrow_1) := by decide +kernel
theorem fl_ls : ∀ i, i < 17 → Cond.laysStatic "AssembleLines$Operation" (b_on.getD i "") "LAssembleLines$Operation;" ∈ lw_tbl := fun i hi => match i, hi with
  | 0, _ => x_1_140
  | 1, _ => x_4_6
  | 2, _ => x_5_17
  | 3, _ => x_4_40
  | 4, _ => x_8_6
  | 5, _ => x_5_88
  | 6, _ => x_8_7
  | 7, _ => x_8_8
  | 8, _ => x_8_9
  | 9, _ => x_8_10
  | 10, _ => x_5_60
  | 11, _ => x_5_161
  | 12, _ => x_4_166
  | 13, _ => x_5_62
  | 14, _ => x_4_158
  | 15, _ => x_4_160
  | 16, _ => x_4_8
  | n + 17, h => absurd h (by omega)
def d_P (A : Array Value) (F : Nat → Prop) (s : State) (i k t v : Nat) : Prop := (cT i).eval A s none [] s = some (.ref k) ∧ va_Z "AssembleLines$Operation" (b_on.getD i "") "LAssembleLines$Operation;" (.ref k) F s s.heap ∧ va_O "AssembleLines$Operation" k F s s.heap ∧ (∀ q ∈ b_oF, va_OF q.1 q.2.1 q.2.2.1 (.int (q.2.2.2.getD i 0)) k F s s.heap) ∧ va_OF "AssembleLines$Operation" "spelling" "Ljava/lang/String;" (.ref t) k F s s.heap ∧ va_O "java/lang/String" t F s s.heap ∧ va_OF "java/lang/String" "coder" "B" (.int 0) t F s s.heap ∧ va_OF "java/lang/String" "value" "[B" (.ref v) t F s s.heap ∧ va_T .byte v (b_sl.getD i 0) (fun j => .int ((b_sb.getD i []).getD j 0)) F s s.heap
theorem d_sl : ∀ i, i < 17 → b_sl.getD i 0 < 2 ^ 31 := by decide
set_option maxRecDepth 100000 in
set_option maxHeartbeats 4000000 in
theorem d_all {s : State} {b : Nat} (hts : ∀ w ∈ lw_tbl, w.before #[Value.ref b] s = true) (hg : ∀ c ∈ flatC (Jvm.Cond.and given_1 narrow_1), c.before #[Value.ref b] s = true) : ∃ kn : Nat → Nat, b_E kn (fun q => s.heap.size ≤ q) s s.heap := by
  have hA : ∀ a : Nat, a < s.heap.size → ¬ (fun q => s.heap.size ≤ q) a := fun a h => Nat.not_le.mpr h
  have h0 : ∀ i : Nat, ∃ q : Nat × Nat × Nat, i < 17 → d_P #[Value.ref b] (fun q => s.heap.size ≤ q) s i q.1 q.2.1 q.2.2 := by
    intro i
    by_cases hi : i < 17
    · obtain ⟨k, c, cell, kk, h1, -⟩ := Cond.exactly_spec (hg _ (fl_x i hi))
      obtain ⟨t, c2, cell2, kk2, h2, -⟩ := Cond.exactly_spec (hg _ (fl_sx i hi))
      obtain ⟨v, hv, hT⟩ := va_Tof (f := fun j => .int ((b_sb.getD i []).getD j 0)) (A := fun q => s.heap.size ≤ q) (d_sl i hi) (hg _ (fl_ar i hi)) (va_eqt (hg _ (fl_le i hi))) (fun j hj => va_eqt (hg _ (fl_el i hi j hj))) hA
      exact ⟨(k, t, v), fun _ => ⟨h1, va_Zof (hts _ (fl_ls i hi)) (hts _ x_1_9) h1 hA, va_Oof (hg _ (fl_x i hi)) h1 hA, fun q hq => vk_OFof h1 (va_eqt (hg _ (fl_f i hi q hq))) hA, vk_OFof h1 (va_eqv (hg _ (fl_s i hi)) h2) hA, va_Oof (hg _ (fl_sx i hi)) h2 hA, vk_OFof h2 (va_eqt (hg _ (fl_co i hi))) hA, vk_OFof h2 hv hA, hT⟩⟩
    · exact ⟨(0, 0, 0), fun h => absurd h hi⟩
  obtain ⟨ad, had⟩ := Classical.axiomOfChoice h0
  obtain ⟨sw, hsw, hswT⟩ := va_Tof (N := 17) (f := fun j => .int (b_sw.getD j 0)) (A := fun q => s.heap.size ≤ q) (by decide) (hg _ fl_wa) (va_eqt (hg _ fl_wl)) (fun j hj => va_eqt (hg _ (fl_we j hj))) hA
  obtain ⟨al, hal, halT⟩ := va_Tof (N := 17) (f := fun j => .ref (ad j).1) (A := fun q => s.heap.size ≤ q) (by decide) (hg _ fl_aa) (va_eqt (hg _ fl_al)) (fun j hj => va_eqv (hg _ (fl_ae j hj)) (had j hj).1) hA
  obtain ⟨kn, hkn⟩ : ∃ kn : Nat → Nat, kn = fun j => if j < 17 then (ad j).1 else if j = 17 then al else if j = 18 then sw else if j < 40 then (ad (j - 20)).2.1 else (ad (j - 40)).2.2 := ⟨_, rfl⟩
  have k1 : ∀ i, i < 17 → kn i = (ad i).1 := fun i h => by rw [hkn]; exact if_pos h
  have k2 : ∀ i, i < 17 → kn (20 + i) = (ad i).2.1 := fun i h => by
    rw [hkn]
    show (if 20 + i < 17 then _ else _) = _
    rw [if_neg (by omega), if_neg (by omega), if_neg (by omega), if_pos (by omega), show 20 + i - 20 = i by omega]
  have k3 : ∀ i, i < 17 → kn (40 + i) = (ad i).2.2 := fun i h => by
    rw [hkn]
    show (if 40 + i < 17 then _ else _) = _
    rw [if_neg (by omega), if_neg (by omega), if_neg (by omega), if_neg (by omega), show 40 + i - 40 = i by omega]
  have k17 : kn 17 = al := by rw [hkn]; rfl
  have k18 : kn 18 = sw := by rw [hkn]; rfl
  refine ⟨kn, fun i hi => ?_, ?_, ?_, ?_, ?_, ?_, ?_⟩
  · rw [k1 i hi, k2 i hi, k3 i hi]
    exact (had i hi).2
  · rw [k17]
    exact va_Zof (hts _ x_3_188) (hts _ x_1_9) hal hA
  · rw [k17]
    obtain ⟨cell, h1, h2, h3, h4, h5, h6, h7⟩ := halT
    exact ⟨cell, h1, h2, h3, h4, h5, fun j hj => (h6 j hj).trans (by show some (Value.ref (ad j).1) = some (Value.ref (kn j)); rw [k1 j hj]), h7⟩
  · rw [k18]
    exact va_Zof (hts _ x_4_46) (hts _ x_1_26) hsw hA
  · rw [k18]
    exact hswT
  · exact va_Zof (hts _ x_3_206) (hts _ x_1_22) (va_eqi (hg _ fl_cs)) hA
  · exact va_Zqof (hts _ x_3_222) (hts _ x_1_24) (hg _ fl_si) hA
set_option maxRecDepth 100000 in
set_option maxHeartbeats 4000000 in
theorem whole_G {s : State} {b : Nat} (hts : ∀ w ∈ lw_tbl, w.before #[Value.ref b] s = true) (hgv : (Jvm.Cond.and given_1 narrow_1).before #[Value.ref b] s = true) : ∃ (kn : Nat → Nat) (D : va_G) (cy : Nat → ClassId), b_G kn D cy s.heap.size s := by
  have hws : ∀ w ∈ b_Ws, w.before #[Value.ref b] s = true := fun w hw => hts w (b_Ws_in hw)
  have hg := flat_of_before _ hgv
  have hA : ∀ a : Nat, a < s.heap.size → ¬ (fun q => s.heap.size ≤ q) a := fun a h => Nat.not_le.mpr h
  obtain ⟨c0, j0, hk0⟩ := u_known (C := RX1) (T := TX1) (N := 7) (n := 7) hws in_0 (hws _ w_2_43)
  obtain ⟨c1, j1, hk1⟩ := u_known (C := RX2) (T := TX2) (N := 3) (n := 3) hws in_1 (hws _ w_1_38)
  obtain ⟨c2, j2, hk2⟩ := u_known (C := RX3) (T := TX3) (N := 8) (n := 8) hws in_2 (hws _ w_1_100)
  obtain ⟨c3, j3, hk3⟩ := u_known (C := RX4) (T := TX4) (N := 11) (n := 11) hws in_3 (hws _ w_2_36)
  obtain ⟨c4, j4, hk4⟩ := u_known (C := RX5) (T := TX5) (N := 4) (n := 4) hws in_4 (hws _ w_2_16)
  obtain ⟨c5, j5, hk5⟩ := u_known (C := RX6) (T := TX6) (N := 6) (n := 6) hws in_5 (hws _ w_1_65)
  obtain ⟨c6, j6, hk6⟩ := u_known (C := RX8) (T := TX8) (N := 7) (n := 7) hws in_6 (hws _ w_1_59)
  obtain ⟨c7, j7, hk7⟩ := u_known (C := RX9) (T := TX9) (N := 6) (n := 6) hws in_7 (hws _ w_1_228)
  obtain ⟨c8, j8, hk8⟩ := u_known (C := RX10) (T := TX10) (N := 11) (n := 11) hws in_8 (hws _ w_1_134)
  obtain ⟨c9, j9, hk9⟩ := u_known (C := RX11) (T := TX11) (N := 16) (n := 16) hws in_9 (hws _ w_1_222)
  obtain ⟨c10, j10, hk10⟩ := u_known (C := RX12) (T := TX12) (N := 5) (n := 5) hws in_10 (hws _ w_1_30)
  obtain ⟨c11, j11, hk11⟩ := u_known (C := RX13) (T := TX13) (N := 72) (n := 72) hws in_11 (hws _ w_5_196)
  obtain ⟨a12, r12⟩ := d_arrP (fun C h => by cases h) (hws _ w_1_56)
  obtain ⟨a13, r13⟩ := d_arrP (fun C h => by cases h) (hws _ w_1_57)
  obtain ⟨a14, r14⟩ := d_arrP (fun C h => by cases h) (hws _ w_1_98)
  obtain ⟨a15, r15⟩ := d_arrP (fun C h => by cases h) (hws _ w_6_193)
  obtain ⟨a16, r16⟩ := d_arrO (hts _ x_2_42)
  obtain ⟨a17, r17⟩ := d_arrO (hts _ x_1_133)
  obtain ⟨kn, hBE⟩ := d_all hts hg
  refine ⟨kn, (fun k => if k = 0 then c0 else if k = 1 then c1 else if k = 2 then c2 else if k = 3 then c3 else if k = 4 then c4 else if k = 5 then c5 else if k = 6 then c6 else if k = 7 then c7 else if k = 8 then c8 else if k = 9 then c9 else if k = 10 then c10 else c11, fun k => if k = 0 then j0 else if k = 1 then j1 else if k = 2 then j2 else if k = 3 then j3 else if k = 4 then j4 else if k = 5 then j5 else if k = 6 then j6 else if k = 7 then j7 else if k = 8 then j8 else if k = 9 then j9 else if k = 10 then j10 else j11), fun k => if k = 12 then a12 else if k = 13 then a13 else if k = 14 then a14 else if k = 15 then a15 else if k = 16 then a16 else a17, ⟨?_, ?_⟩, Nat.le_refl _, ⟨?_, ?_, ?_, hBE⟩, (List.forall_mem_cons.2 ⟨va_Nw.of rfl (hts _ x_1_39), (List.forall_mem_cons.2 ⟨va_Nw.of rfl (hts _ x_1_135), (List.forall_mem_cons.2 ⟨va_Nw.of rfl (hts _ x_1_229), (List.forall_mem_cons.2 ⟨va_Nw.of rfl (hts _ x_2_17), (List.forall_mem_cons.2 ⟨va_Nw.of rfl (hts _ x_2_44), (fun _ h => absurd h List.not_mem_nil)⟩)⟩)⟩)⟩)⟩), (List.forall_mem_cons.2 ⟨va_Nw.of rfl (hts _ x_2_209), (List.forall_mem_cons.2 ⟨va_Nw.of rfl (hts _ x_3_48), (List.forall_mem_cons.2 ⟨va_Nw.of rfl (hts _ x_5_120), (fun _ h => absurd h List.not_mem_nil)⟩)⟩)⟩), (List.forall_mem_cons.2 ⟨va_Nw.of rfl (hts _ x_2_211), (List.forall_mem_cons.2 ⟨va_Nw.of rfl (hts _ x_2_213), (List.forall_mem_cons.2 ⟨va_Nw.of rfl (hts _ x_2_215), (fun _ h => absurd h List.not_mem_nil)⟩)⟩)⟩), (List.forall_mem_cons.2 ⟨d_str (hts _ x_3_8) (hg _ (by decide +kernel)), (List.forall_mem_cons.2 ⟨d_str (hts _ x_3_55) (hg _ (by decide +kernel)), (List.forall_mem_cons.2 ⟨d_str (hts _ x_3_62) (hg _ (by decide +kernel)), (List.forall_mem_cons.2 ⟨d_str (hts _ x_5_109) (hg _ (by decide +kernel)), (List.forall_mem_cons.2 ⟨d_str (hts _ x_5_127) (hg _ (by decide +kernel)), (List.forall_mem_cons.2 ⟨d_str (hts _ x_5_141) (hg _ (by decide +kernel)), (List.forall_mem_cons.2 ⟨d_str (hts _ x_5_173) (hg _ (by decide +kernel)), (List.forall_mem_cons.2 ⟨d_str (hts _ x_5_185) (hg _ (by decide +kernel)), (fun _ h => absurd h List.not_mem_nil)⟩)⟩)⟩)⟩)⟩)⟩)⟩)⟩), (List.forall_mem_cons.2 ⟨va_AO.of (hts _ x_1_133), (List.forall_mem_cons.2 ⟨va_AO.of (hts _ x_2_42), (fun _ h => absurd h List.not_mem_nil)⟩)⟩), (List.forall_mem_cons.2 ⟨va_Nc.of (hg _ (by decide +kernel)), (fun _ h => absurd h List.not_mem_nil)⟩)⟩
  · intro k q hq
    match k, hq with
    | 0, hq => cases hq; exact hk0
    | 1, hq => cases hq; exact hk1
    | 2, hq => cases hq; exact hk2
    | 3, hq => cases hq; exact hk3
    | 4, hq => cases hq; exact hk4
    | 5, hq => cases hq; exact hk5
    | 6, hq => cases hq; exact hk6
    | 7, hq => cases hq; exact hk7
    | 8, hq => cases hq; exact hk8
    | 9, hq => cases hq; exact hk9
    | 10, hq => cases hq; exact hk10
    | 11, hq => cases hq; exact hk11
    | k + 12, hq => simp [vwCl] at hq
  · intro k q hq
    match k, hq with
    | 0, hq => cases hq; exact r12
    | 1, hq => cases hq; exact r13
    | 2, hq => cases hq; exact r14
    | 3, hq => cases hq; exact r15
    | 4, hq => cases hq; exact r16
    | 5, hq => cases hq; exact r17
    | k + 6, hq => simp [b_Tys] at hq
  · exact (hBE.1 0 (by decide)).1
  · exact vx_Zqof (hts _ x_2_234) (hws _ w_1_17) (hg _ (by decide +kernel)) hA
  · exact vx_Zqof (hts _ x_2_236) (hws _ w_1_17) (hg _ (by decide +kernel)) hA
set_option maxRecDepth 100000 in
set_option maxHeartbeats 4000000 in
theorem whole_start {p : Program} {e : Env} {s : State} {m : MethodId} {below : List Frame} {meth : Method} {c : Code} (l : Launch) (hl0 : l.stackTraces = false) {b L : Nat} {xs : Nat → Int32} (hL : L ≤ 2560) (C0 : lw_At p s m meth c b L xs) : W p l e room_1 s m #[Value.ref b] below meth c s.heap [] 0 0 (lw_Z below #[Value.ref b] s) (entryFrame m ([Value.ref b] : List Value).toArray 7) := by
  obtain ⟨hx, hb, hr, hml, hown, hts, hXs, hbl, hlocks, hgv⟩ := id C0
  obtain ⟨kn, D, cy, hG⟩ := whole_G hts hgv
  have hE := lv_entry ([.ref b]) (n := 7) (Nat.le_of_ble_eq_true rfl)
  rw [lg_entry_eq]
  have hB : b_V (p, l, e, room_1, s, m, #[Value.ref b], below, meth, c, lw_Z below #[Value.ref b] s, D, cy, kn, s.heap.size, 7) ((fun _ => 99, fun _ _ => 0, fun _ _ => 0, fun _ _ => none, fun _ => 0, fun _ _ => 0, fun _ _ => 0, fun _ _ => none) : b_M) s.heap.size 0 0 0 [(0, .ref b)] [] :=
    law_body (X := (p, l, e, room_1, s, m, #[Value.ref b], below, meth, c, lw_Z below #[Value.ref b] s, D, cy, kn, s.heap.size, 7)) ⟨hx, hb, hml, hown, fun w hw => hts w (b_Ws_in hw), hG, rfl, hl0⟩ rfl ⟨hXs, hbl, Nat.not_le.mpr hbl⟩ ⟨rfl, rfl, hr, hlocks, rfl, rfl⟩ hL (by decide) (by decide) (by decide) (by decide) (fun b i h => absurd (show (99 : Nat) = 12 from h) (by decide))
  exact hB s.heap [] _ ⟨rfl, fun a h => absurd (show 99 < 18 from h) (by decide)⟩ va_S.rf hE
set_option maxHeartbeats 4000000 in
theorem lw_walk (l : Launch) (hl0 : l.stackTraces = false) (b : Addr) (xs : List Int32) : MetFree l x (headSpec (Jvm.Cond.code x code maxLocals ret :: tables_1) room_1) (lw_P b xs) (fun _ _ _ _ _ => True) lw_Q := by
  refine MetFree.of_bodyS (code := code) (maxLocals := maxLocals) (ret := ret) (by decide) ?_ ?_
  · intro args s m h hn
    obtain ⟨meth, c, h1, h2, h3, h4, h5, h6, -, -⟩ := Cond.code_spec hn (atoms_spec (ws := Jvm.Cond.code x code maxLocals ret :: tables_1) h _ List.mem_cons_self)
    exact ⟨meth, c, h1, h2, h3, h4, h5, h6⟩
  · intro p e s m args below meth c s₁ B hml0 hP _
    obtain ⟨rfl, hx, hbd, hgv⟩ := hP
    obtain ⟨scr, harrAt, hlist, hof, hsmall⟩ := hx
    obtain ⟨hcb, hkn, -, -⟩ := State.arrayAt?_spec harrAt
    have hown : s.vm.findClass R_law = some m.cls := findClass_of_methodNamed B.named
    have hts0 : ∀ c ∈ (Jvm.Cond.code x code maxLocals ret :: tables_1), c.before #[Value.ref b] s = true := atoms_spec (ws := Jvm.Cond.code x code maxLocals ret :: tables_1) B.pre
    have hts : ∀ w ∈ lw_tbl, w.before #[Value.ref b] s = true := k2_hts_sels lw_privs (fun w hw => hts0 w (List.mem_cons_of_mem _ hw)) lw_privs_ok
    have hml : c.maxLocals = 7 := B.maxLocals_eq (hts0 _ List.mem_cons_self)
    have X₀ : Stand p l e room_1 s m #[Value.ref b] below meth c s₁ [] 0 0 := Stand.of_body B
    have hh0 : s₁.heap = s.heap := by rw [B.state]; rfl
    have hsz : scr.slots.size = xs.length := by rw [← Array.length_toList, hlist, List.length_map]
    have hval : ∀ j : Nat, j < xs.length → scr.slots[j]? = some (.int (xs.getD j 0)) := fun j hj => by
      rw [← Array.getElem?_toList, hlist]
      simp [hj]
    have hbl : b < s.heap.size := (Array.getElem?_eq_some_iff.mp hcb).1
    have hX : va_X b xs.length (fun j => xs.getD j 0) s s.heap := ⟨scr, hcb, hof, hkn, hsz, hval⟩
    have K : W p l e room_1 s m #[Value.ref b] below meth c s₁.heap [] 0 0 (lw_Z below #[Value.ref b] s) (entryFrame m ([Value.ref b] : List Value).toArray 7) := by
      rw [hh0]
      exact whole_start l hl0 hbd ⟨B.exec, B.bytes, B.returns, hml, hown, hts, hX, hbl, B.notSynchronized, hgv⟩
    obtain ⟨t, a1, o, b1, b2, b3⟩ := K s₁ rfl X₀
    exact ⟨t, o, a1, b1, b2, b3⟩
theorem lw_pre_spec {args : Array Value} {s : State} (h : (Jvm.Cond.and given_1 narrow_1).before args s = true) (hr : rest_1_c.before args s = true) : ∃ (b : Addr) (xs : List Int32), lw_P b xs args s := by
  have hs := flat_of_before _ h
  have hq := flat_of_before _ hr
  have hc : (Cond.count 1).before args s = true := hs _ (by decide +kernel)
  have harr : (Cond.arrayOf (.arg 0) .int).before args s = true := hs _ (by decide +kernel)
  have hle : (Cond.le (.length (.arg 0)) (.int 2560)).before args s = true := hs _ (by decide +kernel)
  have hlen : (Cond.isInt (.length (.arg 0))).before args s = true := hq _ (by decide +kernel)
  have hall : (Cond.all (.arg 0) (.isInt (.elem (.arg 0) (.index 0)))).before args s = true := hq _ (by decide +kernel)
  obtain ⟨b, xs, hb, hx⟩ := State.ints_of_pre rfl harr hlen hall
  have hsm : xs.length < 2 ^ 31 := hx.choose_spec.2.2.2
  have hev : (Term.length (.arg 0)).eval args s none [] s = some (.int xs.length.toInt32) := hx.length_eval hb
  have hv := Cond.le_ints hev (show (Term.int 2560).eval args s none [] s = some (.int 2560) from rfl)
  have hd : xs.length.toInt32 ≤ 2560 := by
    simpa [Cond.before, Cond.holds, hv] using hle
  have hN : xs.length ≤ 2560 := (Int32.ofNat_le_ofNat hsm (by decide)).mp (show Int32.ofNat xs.length ≤ Int32.ofNat 2560 from hd)
  exact ⟨b, xs, Cond.one_arg hc (show args[0]? = some (.ref b) from hb), hx, hN, h⟩
theorem lw_comes (l : Launch) (hl0 : l.stackTraces = false) : Comes l x (Jvm.Cond.code x code maxLocals ret :: tables_1) room_1 (fun tb e args s => Calls_1 tb e args s ∧ rest_1 tb e args s ∧ Pre_1 tb e args s)
    (fun _ _ args s o t => lw_Q args s o t) := by
  intro p e ha hc hk s m args below hf hfit hheap happ hpre
  obtain ⟨b, xs, hP⟩ := lw_pre_spec hpre.2.2 hpre.2.1
  obtain ⟨k, o, h1, h2, h3, hQ⟩ := lw_walk l hl0 b xs p e ha hc hk s m args below hf ((Spec.applies_iff_loose hf).mp happ).1 hP trivial
  exact ⟨k, o, h1, h2, h3, hQ⟩
theorem lw_frame {s t : State} {o : Outcome} {args : Array Value} (h : Framed s o t [] 601024 7293034) :
    Framed s o t (fieldLocs frame_1_writes args s ++ arrayLocs frame_1_arrays args s ++ staticLocs frame_1_statics s) 601024 7293034 := h
theorem lw_limb (L : Cond) (hL : ∀ (args : Array Value) (s t : State), L.after args s (.returned (some (.int 1))) t = true) :
    ArmFor flags0 classFile x code maxLocals ret World_1 tables_1 room_1 Calls_1 rest_1 Pre_1
      (fun tb e a s o t => postC L tb e a s o t ∧ Framed s o t (fieldLocs frame_1_writes a s ++ arrayLocs frame_1_arrays a s ++ staticLocs frame_1_statics s) 601024 7293034) := by
  intro l hfl _ _ p e ha hc hk s m args below hf hfit hheap happ hpre
  obtain ⟨k, o, h1, h2, h3, rfl, hF⟩ := lw_comes l (by unfold Launch.stackTraces; rw [hfl]; decide) p e ha hc hk s m args below hf hfit hheap happ hpre
  exact ⟨k, _, h1, h2, h3, hL args s _, lw_frame hF⟩
theorem i_vc : Claimed_1_1 ∧ Claimed_1_2 := ⟨lw_limb limb_1_1 (fun args s t => by simp [limb_1_1, Cond.after, Cond.holds, Cond.value]), lw_limb limb_1_2 (fun args s t => Cond.after_iff.mpr (by
  first | (rw [show limb_1_2 = Cond.eq .result (.int 1) from rfl, Cond.eq_ints (x := 1) (y := 1) rfl rfl]; simp; done) | (simp [limb_1_2, Cond.value, Term.eval]; done)))⟩
