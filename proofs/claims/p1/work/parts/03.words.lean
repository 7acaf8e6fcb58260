theorem kw_30 : (Jvm.Cond.fieldLink "LinkText$ByteRow" (15 : Nat) "LinkText$ByteRow" "count" "I") ∈ k_tbl := List.mem_filter.mpr ⟨List.mem_append_right _ (List.mem_append_left _ (List.mem_of_getElem? (i := 30) rfl)), rfl⟩
theorem kw_28 : (Jvm.Cond.fieldLink "LinkText$ByteRow" (9 : Nat) "LinkText$ByteRow" "bytes" "[B") ∈ k_tbl := List.mem_filter.mpr ⟨List.mem_append_right _ (List.mem_append_left _ (List.mem_of_getElem? (i := 28) rfl)), rfl⟩
theorem kw_32 : (Jvm.Cond.fieldLink "LinkText$ByteRow" (19 : Nat) "LinkText$ByteRow" "overrun" "Z") ∈ k_tbl := List.mem_filter.mpr ⟨List.mem_append_right _ (List.mem_append_left _ (List.mem_of_getElem? (i := 32) rfl)), rfl⟩
theorem kw_505 : (Jvm.Cond.methodLink "LinkText$ByteRow" (23 : Nat) ({ cls := "java/lang/System", name := "arraycopy", desc := "(Ljava/lang/Object;ILjava/lang/Object;II)V" } : Jvm.MethodName)) ∈ k_tbl := List.mem_filter.mpr ⟨List.mem_append_right _ (List.mem_append_right _ (List.mem_append_right _ (List.mem_append_left _ (List.mem_of_getElem? (i := 25) rfl)))), rfl⟩
theorem kw_507 : (Jvm.Cond.native ({ cls := "java/lang/System", name := "arraycopy", desc := "(Ljava/lang/Object;ILjava/lang/Object;II)V" } : Jvm.MethodName)) ∈ k_tbl := List.mem_filter.mpr ⟨List.mem_append_right _ (List.mem_append_right _ (List.mem_append_right _ (List.mem_append_left _ (List.mem_of_getElem? (i := 27) rfl)))), rfl⟩
theorem kw_506 : (Jvm.Cond.static ({ cls := "java/lang/System", name := "arraycopy", desc := "(Ljava/lang/Object;ILjava/lang/Object;II)V" } : Jvm.MethodName)) ∈ k_tbl := List.mem_filter.mpr ⟨List.mem_append_right _ (List.mem_append_right _ (List.mem_append_right _ (List.mem_append_left _ (List.mem_of_getElem? (i := 26) rfl)))), rfl⟩
theorem kw_13 : (Jvm.Cond.initialized "java/lang/System") ∈ k_tbl := List.mem_filter.mpr ⟨List.mem_append_right _ (List.mem_append_left _ (List.mem_of_getElem? (i := 13) rfl)), rfl⟩
theorem kw_508 : (Jvm.Cond.methodLink "LinkText$ByteRow" (29 : Nat) ({ cls := "LinkText$ByteRow", name := "cutTo", desc := "(I)V" } : Jvm.MethodName)) ∈ k_tbl := List.mem_filter.mpr ⟨List.mem_append_right _ (List.mem_append_right _ (List.mem_append_right _ (List.mem_append_left _ (List.mem_of_getElem? (i := 28) rfl)))), rfl⟩
theorem kw_379 : (Jvm.Cond.code ({ cls := "LinkText$ByteRow", name := "cutTo", desc := "(I)V" } : Jvm.MethodName) prog_2_method_3_code (2 : Nat) (Option.none : Option Jvm.ClassFile.FieldType)) ∈ k_tbl := List.mem_filter.mpr ⟨List.mem_append_right _ (List.mem_append_right _ (List.mem_append_left _ (List.mem_of_getElem? (i := 139) rfl))), rfl⟩
theorem kw_2 : (Jvm.Cond.initialized "LinkText$ByteRow") ∈ k_tbl := List.mem_filter.mpr ⟨List.mem_append_right _ (List.mem_append_left _ (List.mem_of_getElem? (i := 2) rfl)), rfl⟩
theorem kw_377 : (Jvm.Cond.instanceMethod ({ cls := "LinkText$ByteRow", name := "cutTo", desc := "(I)V" } : Jvm.MethodName)) ∈ k_tbl := List.mem_filter.mpr ⟨List.mem_append_right _ (List.mem_append_right _ (List.mem_append_left _ (List.mem_of_getElem? (i := 137) rfl))), rfl⟩
theorem kw_378 : (Jvm.Cond.selects "LinkText$ByteRow" ({ cls := "LinkText$ByteRow", name := "cutTo", desc := "(I)V" } : Jvm.MethodName) ({ cls := "LinkText$ByteRow", name := "cutTo", desc := "(I)V" } : Jvm.MethodName)) ∈ k_tbl := List.mem_filter.mpr ⟨List.mem_append_right _ (List.mem_append_right _ (List.mem_append_left _ (List.mem_of_getElem? (i := 138) rfl))), rfl⟩
theorem kw_53 : (Jvm.Cond.fieldLink "LinkText$Lines" (28 : Nat) "LinkText$Lines" "count" "I") ∈ k_tbl := List.mem_filter.mpr ⟨List.mem_append_right _ (List.mem_append_left _ (List.mem_of_getElem? (i := 53) rfl)), rfl⟩
theorem kw_56 : (Jvm.Cond.fieldLink "LinkText$Lines" (32 : Nat) "LinkText$Lines" "numberCount" "I") ∈ k_tbl := List.mem_filter.mpr ⟨List.mem_append_right _ (List.mem_append_left _ (List.mem_of_getElem? (i := 56) rfl)), rfl⟩
theorem kw_397 : (Jvm.Cond.methodLink "LinkText$Lines" (35 : Nat) ({ cls := "LinkText$Lines", name := "has", desc := "(I)Z" } : Jvm.MethodName)) ∈ k_tbl := List.mem_filter.mpr ⟨List.mem_append_right _ (List.mem_append_right _ (List.mem_append_left _ (List.mem_of_getElem? (i := 157) rfl))), rfl⟩
theorem kw_392 : (Jvm.Cond.code ({ cls := "LinkText$Lines", name := "has", desc := "(I)Z" } : Jvm.MethodName) prog_3_method_5_code (2 : Nat) (Option.some Jvm.ClassFile.FieldType.boolean)) ∈ k_tbl := List.mem_filter.mpr ⟨List.mem_append_right _ (List.mem_append_right _ (List.mem_append_left _ (List.mem_of_getElem? (i := 152) rfl))), rfl⟩
theorem kw_3 : (Jvm.Cond.initialized "LinkText$Lines") ∈ k_tbl := List.mem_filter.mpr ⟨List.mem_append_right _ (List.mem_append_left _ (List.mem_of_getElem? (i := 3) rfl)), rfl⟩
theorem kw_390 : (Jvm.Cond.instanceMethod ({ cls := "LinkText$Lines", name := "has", desc := "(I)Z" } : Jvm.MethodName)) ∈ k_tbl := List.mem_filter.mpr ⟨List.mem_append_right _ (List.mem_append_right _ (List.mem_append_left _ (List.mem_of_getElem? (i := 150) rfl))), rfl⟩
theorem kw_391 : (Jvm.Cond.selects "LinkText$Lines" ({ cls := "LinkText$Lines", name := "has", desc := "(I)Z" } : Jvm.MethodName) ({ cls := "LinkText$Lines", name := "has", desc := "(I)Z" } : Jvm.MethodName)) ∈ k_tbl := List.mem_filter.mpr ⟨List.mem_append_right _ (List.mem_append_right _ (List.mem_append_left _ (List.mem_of_getElem? (i := 151) rfl))), rfl⟩
theorem kw_51 : (Jvm.Cond.fieldLink "LinkText$Lines" (21 : Nat) "LinkText$Lines" "sizes" "[I") ∈ k_tbl := List.mem_filter.mpr ⟨List.mem_append_right _ (List.mem_append_left _ (List.mem_of_getElem? (i := 51) rfl)), rfl⟩
theorem kw_48 : (Jvm.Cond.fieldLink "LinkText$Lines" (9 : Nat) "LinkText$Lines" "kinds" "[I") ∈ k_tbl := List.mem_filter.mpr ⟨List.mem_append_right _ (List.mem_append_left _ (List.mem_of_getElem? (i := 48) rfl)), rfl⟩
theorem kw_49 : (Jvm.Cond.fieldLink "LinkText$Lines" (15 : Nat) "LinkText$Lines" "places" "[I") ∈ k_tbl := List.mem_filter.mpr ⟨List.mem_append_right _ (List.mem_append_left _ (List.mem_of_getElem? (i := 49) rfl)), rfl⟩
theorem kw_414 : (Jvm.Cond.methodLink "LinkText$Lines" (39 : Nat) ({ cls := "LinkText$Lines", name := "sizeOf", desc := "(I)I" } : Jvm.MethodName)) ∈ k_tbl := List.mem_filter.mpr ⟨List.mem_append_right _ (List.mem_append_right _ (List.mem_append_left _ (List.mem_of_getElem? (i := 174) rfl))), rfl⟩
theorem kw_401 : (Jvm.Cond.code ({ cls := "LinkText$Lines", name := "sizeOf", desc := "(I)I" } : Jvm.MethodName) prog_3_method_7_code (2 : Nat) (Option.some Jvm.ClassFile.FieldType.int)) ∈ k_tbl := List.mem_filter.mpr ⟨List.mem_append_right _ (List.mem_append_right _ (List.mem_append_left _ (List.mem_of_getElem? (i := 161) rfl))), rfl⟩
theorem kw_399 : (Jvm.Cond.instanceMethod ({ cls := "LinkText$Lines", name := "sizeOf", desc := "(I)I" } : Jvm.MethodName)) ∈ k_tbl := List.mem_filter.mpr ⟨List.mem_append_right _ (List.mem_append_right _ (List.mem_append_left _ (List.mem_of_getElem? (i := 159) rfl))), rfl⟩
theorem kw_400 : (Jvm.Cond.selects "LinkText$Lines" ({ cls := "LinkText$Lines", name := "sizeOf", desc := "(I)I" } : Jvm.MethodName) ({ cls := "LinkText$Lines", name := "sizeOf", desc := "(I)I" } : Jvm.MethodName)) ∈ k_tbl := List.mem_filter.mpr ⟨List.mem_append_right _ (List.mem_append_right _ (List.mem_append_left _ (List.mem_of_getElem? (i := 160) rfl))), rfl⟩
theorem kw_50 : (Jvm.Cond.fieldLink "LinkText$Lines" (18 : Nat) "LinkText$Lines" "firsts" "[I") ∈ k_tbl := List.mem_filter.mpr ⟨List.mem_append_right _ (List.mem_append_left _ (List.mem_of_getElem? (i := 50) rfl)), rfl⟩
theorem kw_52 : (Jvm.Cond.fieldLink "LinkText$Lines" (24 : Nat) "LinkText$Lines" "numbers" "[J") ∈ k_tbl := List.mem_filter.mpr ⟨List.mem_append_right _ (List.mem_append_left _ (List.mem_of_getElem? (i := 52) rfl)), rfl⟩
theorem kw_86 : (Jvm.Cond.fieldLink "LinkText$Tokens" (37 : Nat) "LinkText$Tokens" "text" "[B") ∈ k_tbl := List.mem_filter.mpr ⟨List.mem_append_right _ (List.mem_append_left _ (List.mem_of_getElem? (i := 86) rfl)), rfl⟩
theorem kw_87 : (Jvm.Cond.fieldLink "LinkText$Tokens" (9 : Nat) "LinkText$Tokens" "end" "I") ∈ k_tbl := List.mem_filter.mpr ⟨List.mem_append_right _ (List.mem_append_left _ (List.mem_of_getElem? (i := 87) rfl)), rfl⟩
theorem kw_88 : (Jvm.Cond.fieldLink "LinkText$Tokens" (15 : Nat) "LinkText$Tokens" "sort" "I") ∈ k_tbl := List.mem_filter.mpr ⟨List.mem_append_right _ (List.mem_append_left _ (List.mem_of_getElem? (i := 88) rfl)), rfl⟩
theorem kw_89 : (Jvm.Cond.fieldLink "LinkText$Tokens" (18 : Nat) "LinkText$Tokens" "place" "I") ∈ k_tbl := List.mem_filter.mpr ⟨List.mem_append_right _ (List.mem_append_left _ (List.mem_of_getElem? (i := 89) rfl)), rfl⟩
theorem kw_91 : (Jvm.Cond.fieldLink "LinkText$Tokens" (21 : Nat) "LinkText$Tokens" "behind" "I") ∈ k_tbl := List.mem_filter.mpr ⟨List.mem_append_right _ (List.mem_append_left _ (List.mem_of_getElem? (i := 91) rfl)), rfl⟩
theorem kw_92 : (Jvm.Cond.fieldLink "LinkText$Tokens" (24 : Nat) "LinkText$Tokens" "value" "J") ∈ k_tbl := List.mem_filter.mpr ⟨List.mem_append_right _ (List.mem_append_left _ (List.mem_of_getElem? (i := 92) rfl)), rfl⟩
theorem kw_94 : (Jvm.Cond.fieldLink "LinkText$Tokens" (28 : Nat) "LinkText$Tokens" "fault" "I") ∈ k_tbl := List.mem_filter.mpr ⟨List.mem_append_right _ (List.mem_append_left _ (List.mem_of_getElem? (i := 94) rfl)), rfl⟩
theorem kw_111 : (Jvm.Cond.fieldLink "LinkText$Reader" (23 : Nat) "LinkText$Reader" "tokens" "LLinkText$Tokens;") ∈ k_tbl := List.mem_filter.mpr ⟨List.mem_append_right _ (List.mem_append_left _ (List.mem_of_getElem? (i := 111) rfl)), rfl⟩
theorem kw_178 : (Jvm.Cond.methodLink "LinkText$Reader" (31 : Nat) ({ cls := "LinkText$Tokens", name := "begin", desc := "(I)V" } : Jvm.MethodName)) ∈ k_tbl := List.mem_filter.mpr ⟨List.mem_append_right _ (List.mem_append_left _ (List.mem_of_getElem? (i := 178) rfl)), rfl⟩
theorem kw_181 : (Jvm.Cond.code ({ cls := "LinkText$Tokens", name := "begin", desc := "(I)V" } : Jvm.MethodName) prog_6_method_2_code (2 : Nat) (Option.none : Option Jvm.ClassFile.FieldType)) ∈ k_tbl := List.mem_filter.mpr ⟨List.mem_append_right _ (List.mem_append_left _ (List.mem_of_getElem? (i := 181) rfl)), rfl⟩
theorem kw_5 : (Jvm.Cond.initialized "LinkText$Tokens") ∈ k_tbl := List.mem_filter.mpr ⟨List.mem_append_right _ (List.mem_append_left _ (List.mem_of_getElem? (i := 5) rfl)), rfl⟩
theorem kw_179 : (Jvm.Cond.instanceMethod ({ cls := "LinkText$Tokens", name := "begin", desc := "(I)V" } : Jvm.MethodName)) ∈ k_tbl := List.mem_filter.mpr ⟨List.mem_append_right _ (List.mem_append_left _ (List.mem_of_getElem? (i := 179) rfl)), rfl⟩
theorem kw_180 : (Jvm.Cond.selects "LinkText$Tokens" ({ cls := "LinkText$Tokens", name := "begin", desc := "(I)V" } : Jvm.MethodName) ({ cls := "LinkText$Tokens", name := "begin", desc := "(I)V" } : Jvm.MethodName)) ∈ k_tbl := List.mem_filter.mpr ⟨List.mem_append_right _ (List.mem_append_left _ (List.mem_of_getElem? (i := 180) rfl)), rfl⟩
theorem kw_112 : (Jvm.Cond.fieldLink "LinkText$Reader" (27 : Nat) "LinkText$Reader" "lines" "LLinkText$Lines;") ∈ k_tbl := List.mem_filter.mpr ⟨List.mem_append_right _ (List.mem_append_left _ (List.mem_of_getElem? (i := 112) rfl)), rfl⟩
theorem kw_182 : (Jvm.Cond.methodLink "LinkText$Reader" (35 : Nat) ({ cls := "LinkText$Lines", name := "clear", desc := "()V" } : Jvm.MethodName)) ∈ k_tbl := List.mem_filter.mpr ⟨List.mem_append_right _ (List.mem_append_left _ (List.mem_of_getElem? (i := 182) rfl)), rfl⟩
theorem kw_185 : (Jvm.Cond.code ({ cls := "LinkText$Lines", name := "clear", desc := "()V" } : Jvm.MethodName) prog_3_method_2_code (1 : Nat) (Option.none : Option Jvm.ClassFile.FieldType)) ∈ k_tbl := List.mem_filter.mpr ⟨List.mem_append_right _ (List.mem_append_left _ (List.mem_of_getElem? (i := 185) rfl)), rfl⟩
theorem kw_183 : (Jvm.Cond.instanceMethod ({ cls := "LinkText$Lines", name := "clear", desc := "()V" } : Jvm.MethodName)) ∈ k_tbl := List.mem_filter.mpr ⟨List.mem_append_right _ (List.mem_append_left _ (List.mem_of_getElem? (i := 183) rfl)), rfl⟩
theorem kw_184 : (Jvm.Cond.selects "LinkText$Lines" ({ cls := "LinkText$Lines", name := "clear", desc := "()V" } : Jvm.MethodName) ({ cls := "LinkText$Lines", name := "clear", desc := "()V" } : Jvm.MethodName)) ∈ k_tbl := List.mem_filter.mpr ⟨List.mem_append_right _ (List.mem_append_left _ (List.mem_of_getElem? (i := 184) rfl)), rfl⟩
theorem kw_113 : (Jvm.Cond.fieldLink "LinkText$Reader" (9 : Nat) "LinkText$Reader" "fault" "I") ∈ k_tbl := List.mem_filter.mpr ⟨List.mem_append_right _ (List.mem_append_left _ (List.mem_of_getElem? (i := 113) rfl)), rfl⟩
theorem kw_115 : (Jvm.Cond.fieldLink "LinkText$Reader" (15 : Nat) "LinkText$Reader" "faultPlace" "I") ∈ k_tbl := List.mem_filter.mpr ⟨List.mem_append_right _ (List.mem_append_left _ (List.mem_of_getElem? (i := 115) rfl)), rfl⟩
theorem kw_190 : (Jvm.Cond.methodLink "LinkText$Reader" (40 : Nat) ({ cls := "LinkText$Tokens", name := "isLineEnd", desc := "()Z" } : Jvm.MethodName)) ∈ k_tbl := List.mem_filter.mpr ⟨List.mem_append_right _ (List.mem_append_left _ (List.mem_of_getElem? (i := 190) rfl)), rfl⟩
theorem kw_193 : (Jvm.Cond.code ({ cls := "LinkText$Tokens", name := "isLineEnd", desc := "()Z" } : Jvm.MethodName) prog_6_method_6_code (1 : Nat) (Option.some Jvm.ClassFile.FieldType.boolean)) ∈ k_tbl := List.mem_filter.mpr ⟨List.mem_append_right _ (List.mem_append_left _ (List.mem_of_getElem? (i := 193) rfl)), rfl⟩
theorem kw_191 : (Jvm.Cond.instanceMethod ({ cls := "LinkText$Tokens", name := "isLineEnd", desc := "()Z" } : Jvm.MethodName)) ∈ k_tbl := List.mem_filter.mpr ⟨List.mem_append_right _ (List.mem_append_left _ (List.mem_of_getElem? (i := 191) rfl)), rfl⟩
theorem kw_192 : (Jvm.Cond.selects "LinkText$Tokens" ({ cls := "LinkText$Tokens", name := "isLineEnd", desc := "()Z" } : Jvm.MethodName) ({ cls := "LinkText$Tokens", name := "isLineEnd", desc := "()Z" } : Jvm.MethodName)) ∈ k_tbl := List.mem_filter.mpr ⟨List.mem_append_right _ (List.mem_append_left _ (List.mem_of_getElem? (i := 192) rfl)), rfl⟩
theorem kw_194 : (Jvm.Cond.methodLink "LinkText$Reader" (44 : Nat) ({ cls := "LinkText$Tokens", name := "isTextEnd", desc := "()Z" } : Jvm.MethodName)) ∈ k_tbl := List.mem_filter.mpr ⟨List.mem_append_right _ (List.mem_append_left _ (List.mem_of_getElem? (i := 194) rfl)), rfl⟩
theorem kw_197 : (Jvm.Cond.code ({ cls := "LinkText$Tokens", name := "isTextEnd", desc := "()Z" } : Jvm.MethodName) prog_6_method_7_code (1 : Nat) (Option.some Jvm.ClassFile.FieldType.boolean)) ∈ k_tbl := List.mem_filter.mpr ⟨List.mem_append_right _ (List.mem_append_left _ (List.mem_of_getElem? (i := 197) rfl)), rfl⟩
theorem kw_195 : (Jvm.Cond.instanceMethod ({ cls := "LinkText$Tokens", name := "isTextEnd", desc := "()Z" } : Jvm.MethodName)) ∈ k_tbl := List.mem_filter.mpr ⟨List.mem_append_right _ (List.mem_append_left _ (List.mem_of_getElem? (i := 195) rfl)), rfl⟩
theorem kw_196 : (Jvm.Cond.selects "LinkText$Tokens" ({ cls := "LinkText$Tokens", name := "isTextEnd", desc := "()Z" } : Jvm.MethodName) ({ cls := "LinkText$Tokens", name := "isTextEnd", desc := "()Z" } : Jvm.MethodName)) ∈ k_tbl := List.mem_filter.mpr ⟨List.mem_append_right _ (List.mem_append_left _ (List.mem_of_getElem? (i := 196) rfl)), rfl⟩
theorem kw_356 : (Jvm.Cond.constantLong "LinkText" (156 : Nat) (-1000000000000000000 : Int64)) ∈ k_tbl := List.mem_filter.mpr ⟨List.mem_append_right _ (List.mem_append_right _ (List.mem_append_left _ (List.mem_of_getElem? (i := 116) rfl))), rfl⟩
theorem kw_139 : (Jvm.Cond.fieldLink "LinkText" (10 : Nat) "LinkText" "tape" "LLinkText$ByteRow;") ∈ k_tbl := List.mem_filter.mpr ⟨List.mem_append_right _ (List.mem_append_left _ (List.mem_of_getElem? (i := 139) rfl)), rfl⟩
theorem kw_166 : (Jvm.Cond.methodLink "LinkText" (54 : Nat) ({ cls := "LinkText$ByteRow", name := "add", desc := "(I)V" } : Jvm.MethodName)) ∈ k_tbl := List.mem_filter.mpr ⟨List.mem_append_right _ (List.mem_append_left _ (List.mem_of_getElem? (i := 166) rfl)), rfl⟩
theorem kw_169 : (Jvm.Cond.code ({ cls := "LinkText$ByteRow", name := "add", desc := "(I)V" } : Jvm.MethodName) prog_2_method_2_code (2 : Nat) (Option.none : Option Jvm.ClassFile.FieldType)) ∈ k_tbl := List.mem_filter.mpr ⟨List.mem_append_right _ (List.mem_append_left _ (List.mem_of_getElem? (i := 169) rfl)), rfl⟩
theorem kw_167 : (Jvm.Cond.instanceMethod ({ cls := "LinkText$ByteRow", name := "add", desc := "(I)V" } : Jvm.MethodName)) ∈ k_tbl := List.mem_filter.mpr ⟨List.mem_append_right _ (List.mem_append_left _ (List.mem_of_getElem? (i := 167) rfl)), rfl⟩
theorem kw_168 : (Jvm.Cond.selects "LinkText$ByteRow" ({ cls := "LinkText$ByteRow", name := "add", desc := "(I)V" } : Jvm.MethodName) ({ cls := "LinkText$ByteRow", name := "add", desc := "(I)V" } : Jvm.MethodName)) ∈ k_tbl := List.mem_filter.mpr ⟨List.mem_append_right _ (List.mem_append_left _ (List.mem_of_getElem? (i := 168) rfl)), rfl⟩
theorem kw_31 : (Jvm.Cond.fieldLinkNest "LinkText" (46 : Nat) "LinkText$ByteRow" "count" "I" "LinkText") ∈ lw_tbl := List.mem_append_right _ (List.mem_append_left _ (List.mem_of_getElem? (i := 31) rfl))
theorem kw_162 : (Jvm.Cond.methodLink "LinkText" (50 : Nat) ({ cls := "LinkText", name := "feedFour", desc := "(I)V" } : Jvm.MethodName)) ∈ k_tbl := List.mem_filter.mpr ⟨List.mem_append_right _ (List.mem_append_left _ (List.mem_of_getElem? (i := 162) rfl)), rfl⟩
theorem kw_165 : (Jvm.Cond.code ({ cls := "LinkText", name := "feedFour", desc := "(I)V" } : Jvm.MethodName) prog_1_method_3_code (3 : Nat) (Option.none : Option Jvm.ClassFile.FieldType)) ∈ k_tbl := List.mem_filter.mpr ⟨List.mem_append_right _ (List.mem_append_left _ (List.mem_of_getElem? (i := 165) rfl)), rfl⟩
theorem kw_1 : (Jvm.Cond.initialized "LinkText") ∈ k_tbl := List.mem_filter.mpr ⟨List.mem_append_right _ (List.mem_append_left _ (List.mem_of_getElem? (i := 1) rfl)), rfl⟩
theorem kw_164 : (Jvm.Cond.instanceMethod ({ cls := "LinkText", name := "feedFour", desc := "(I)V" } : Jvm.MethodName)) ∈ k_tbl := List.mem_filter.mpr ⟨List.mem_append_right _ (List.mem_append_left _ (List.mem_of_getElem? (i := 164) rfl)), rfl⟩
theorem kp_0 : Cond.selects "LinkText" (⟨"LinkText", "feedFour", "(I)V"⟩ : MethodName) (⟨"LinkText", "feedFour", "(I)V"⟩ : MethodName) ∈ k_tbl := List.mem_filter.mpr ⟨List.mem_append_left _ (List.mem_of_getElem? (i := 0) rfl), rfl⟩
theorem kw_144 : (Jvm.Cond.fieldLink "LinkText" (42 : Nat) "LinkText" "everRead" "Z") ∈ k_tbl := List.mem_filter.mpr ⟨List.mem_append_right _ (List.mem_append_left _ (List.mem_of_getElem? (i := 144) rfl)), rfl⟩
theorem kw_142 : (Jvm.Cond.fieldLink "LinkText" (31 : Nat) "LinkText" "reader" "LLinkText$Reader;") ∈ k_tbl := List.mem_filter.mpr ⟨List.mem_append_right _ (List.mem_append_left _ (List.mem_of_getElem? (i := 142) rfl)), rfl⟩
theorem kw_174 : (Jvm.Cond.methodLink "LinkText" (57 : Nat) ({ cls := "LinkText$Reader", name := "begin", desc := "(I)V" } : Jvm.MethodName)) ∈ k_tbl := List.mem_filter.mpr ⟨List.mem_append_right _ (List.mem_append_left _ (List.mem_of_getElem? (i := 174) rfl)), rfl⟩
theorem kw_177 : (Jvm.Cond.code ({ cls := "LinkText$Reader", name := "begin", desc := "(I)V" } : Jvm.MethodName) prog_5_method_2_code (2 : Nat) (Option.none : Option Jvm.ClassFile.FieldType)) ∈ k_tbl := List.mem_filter.mpr ⟨List.mem_append_right _ (List.mem_append_left _ (List.mem_of_getElem? (i := 177) rfl)), rfl⟩
theorem kw_4 : (Jvm.Cond.initialized "LinkText$Reader") ∈ k_tbl := List.mem_filter.mpr ⟨List.mem_append_right _ (List.mem_append_left _ (List.mem_of_getElem? (i := 4) rfl)), rfl⟩
theorem kw_175 : (Jvm.Cond.instanceMethod ({ cls := "LinkText$Reader", name := "begin", desc := "(I)V" } : Jvm.MethodName)) ∈ k_tbl := List.mem_filter.mpr ⟨List.mem_append_right _ (List.mem_append_left _ (List.mem_of_getElem? (i := 175) rfl)), rfl⟩
theorem kw_176 : (Jvm.Cond.selects "LinkText$Reader" ({ cls := "LinkText$Reader", name := "begin", desc := "(I)V" } : Jvm.MethodName) ({ cls := "LinkText$Reader", name := "begin", desc := "(I)V" } : Jvm.MethodName)) ∈ k_tbl := List.mem_filter.mpr ⟨List.mem_append_right _ (List.mem_append_left _ (List.mem_of_getElem? (i := 176) rfl)), rfl⟩
theorem kw_186 : (Jvm.Cond.methodLink "LinkText" (60 : Nat) ({ cls := "LinkText$Reader", name := "findLine", desc := "()Z" } : Jvm.MethodName)) ∈ k_tbl := List.mem_filter.mpr ⟨List.mem_append_right _ (List.mem_append_left _ (List.mem_of_getElem? (i := 186) rfl)), rfl⟩
theorem kw_189 : (Jvm.Cond.code ({ cls := "LinkText$Reader", name := "findLine", desc := "()Z" } : Jvm.MethodName) prog_5_method_3_code (2 : Nat) (Option.some Jvm.ClassFile.FieldType.boolean)) ∈ k_tbl := List.mem_filter.mpr ⟨List.mem_append_right _ (List.mem_append_left _ (List.mem_of_getElem? (i := 189) rfl)), rfl⟩
theorem kw_187 : (Jvm.Cond.instanceMethod ({ cls := "LinkText$Reader", name := "findLine", desc := "()Z" } : Jvm.MethodName)) ∈ k_tbl := List.mem_filter.mpr ⟨List.mem_append_right _ (List.mem_append_left _ (List.mem_of_getElem? (i := 187) rfl)), rfl⟩
theorem kw_188 : (Jvm.Cond.selects "LinkText$Reader" ({ cls := "LinkText$Reader", name := "findLine", desc := "()Z" } : Jvm.MethodName) ({ cls := "LinkText$Reader", name := "findLine", desc := "()Z" } : Jvm.MethodName)) ∈ k_tbl := List.mem_filter.mpr ⟨List.mem_append_right _ (List.mem_append_left _ (List.mem_of_getElem? (i := 188) rfl)), rfl⟩
theorem kw_376 : (Jvm.Cond.methodLink "LinkText" (67 : Nat) ({ cls := "LinkText$ByteRow", name := "cutTo", desc := "(I)V" } : Jvm.MethodName)) ∈ k_tbl := List.mem_filter.mpr ⟨List.mem_append_right _ (List.mem_append_right _ (List.mem_append_left _ (List.mem_of_getElem? (i := 136) rfl))), rfl⟩
theorem kw_114 : (Jvm.Cond.fieldLinkNest "LinkText" (70 : Nat) "LinkText$Reader" "fault" "I" "LinkText") ∈ lw_tbl := List.mem_append_right _ (List.mem_append_left _ (List.mem_of_getElem? (i := 114) rfl))
theorem kw_141 : (Jvm.Cond.fieldLink "LinkText" (22 : Nat) "LinkText" "lines" "LLinkText$Lines;") ∈ k_tbl := List.mem_filter.mpr ⟨List.mem_append_right _ (List.mem_append_left _ (List.mem_of_getElem? (i := 141) rfl)), rfl⟩
theorem kw_54 : (Jvm.Cond.fieldLinkNest "LinkText" (76 : Nat) "LinkText$Lines" "count" "I" "LinkText") ∈ lw_tbl := List.mem_append_right _ (List.mem_append_left _ (List.mem_of_getElem? (i := 54) rfl))
theorem kw_380 : (Jvm.Cond.methodLink "LinkText" (73 : Nat) ({ cls := "LinkText$Lines", name := "clear", desc := "()V" } : Jvm.MethodName)) ∈ k_tbl := List.mem_filter.mpr ⟨List.mem_append_right _ (List.mem_append_right _ (List.mem_append_left _ (List.mem_of_getElem? (i := 140) rfl))), rfl⟩
theorem kw_116 : (Jvm.Cond.fieldLinkNest "LinkText" (77 : Nat) "LinkText$Reader" "faultPlace" "I" "LinkText") ∈ lw_tbl := List.mem_append_right _ (List.mem_append_left _ (List.mem_of_getElem? (i := 116) rfl))
theorem kw_389 : (Jvm.Cond.methodLink "LinkText" (80 : Nat) ({ cls := "LinkText$Lines", name := "has", desc := "(I)Z" } : Jvm.MethodName)) ∈ k_tbl := List.mem_filter.mpr ⟨List.mem_append_right _ (List.mem_append_right _ (List.mem_append_left _ (List.mem_of_getElem? (i := 149) rfl))), rfl⟩
theorem kw_393 : (Jvm.Cond.methodLink "LinkText" (84 : Nat) ({ cls := "LinkText$Lines", name := "kindOf", desc := "(I)I" } : Jvm.MethodName)) ∈ k_tbl := List.mem_filter.mpr ⟨List.mem_append_right _ (List.mem_append_right _ (List.mem_append_left _ (List.mem_of_getElem? (i := 153) rfl))), rfl⟩
theorem kw_396 : (Jvm.Cond.code ({ cls := "LinkText$Lines", name := "kindOf", desc := "(I)I" } : Jvm.MethodName) prog_3_method_6_code (2 : Nat) (Option.some Jvm.ClassFile.FieldType.int)) ∈ k_tbl := List.mem_filter.mpr ⟨List.mem_append_right _ (List.mem_append_right _ (List.mem_append_left _ (List.mem_of_getElem? (i := 156) rfl))), rfl⟩
theorem kw_394 : (Jvm.Cond.instanceMethod ({ cls := "LinkText$Lines", name := "kindOf", desc := "(I)I" } : Jvm.MethodName)) ∈ k_tbl := List.mem_filter.mpr ⟨List.mem_append_right _ (List.mem_append_right _ (List.mem_append_left _ (List.mem_of_getElem? (i := 154) rfl))), rfl⟩
theorem kw_395 : (Jvm.Cond.selects "LinkText$Lines" ({ cls := "LinkText$Lines", name := "kindOf", desc := "(I)I" } : Jvm.MethodName) ({ cls := "LinkText$Lines", name := "kindOf", desc := "(I)I" } : Jvm.MethodName)) ∈ k_tbl := List.mem_filter.mpr ⟨List.mem_append_right _ (List.mem_append_right _ (List.mem_append_left _ (List.mem_of_getElem? (i := 155) rfl))), rfl⟩
theorem kw_398 : (Jvm.Cond.methodLink "LinkText" (88 : Nat) ({ cls := "LinkText$Lines", name := "sizeOf", desc := "(I)I" } : Jvm.MethodName)) ∈ k_tbl := List.mem_filter.mpr ⟨List.mem_append_right _ (List.mem_append_right _ (List.mem_append_left _ (List.mem_of_getElem? (i := 158) rfl))), rfl⟩
theorem kw_402 : (Jvm.Cond.methodLink "LinkText" (91 : Nat) ({ cls := "LinkText$Lines", name := "placeOf", desc := "(I)I" } : Jvm.MethodName)) ∈ k_tbl := List.mem_filter.mpr ⟨List.mem_append_right _ (List.mem_append_right _ (List.mem_append_left _ (List.mem_of_getElem? (i := 162) rfl))), rfl⟩
theorem kw_405 : (Jvm.Cond.code ({ cls := "LinkText$Lines", name := "placeOf", desc := "(I)I" } : Jvm.MethodName) prog_3_method_8_code (2 : Nat) (Option.some Jvm.ClassFile.FieldType.int)) ∈ k_tbl := List.mem_filter.mpr ⟨List.mem_append_right _ (List.mem_append_right _ (List.mem_append_left _ (List.mem_of_getElem? (i := 165) rfl))), rfl⟩
theorem kw_403 : (Jvm.Cond.instanceMethod ({ cls := "LinkText$Lines", name := "placeOf", desc := "(I)I" } : Jvm.MethodName)) ∈ k_tbl := List.mem_filter.mpr ⟨List.mem_append_right _ (List.mem_append_right _ (List.mem_append_left _ (List.mem_of_getElem? (i := 163) rfl))), rfl⟩
theorem kw_404 : (Jvm.Cond.selects "LinkText$Lines" ({ cls := "LinkText$Lines", name := "placeOf", desc := "(I)I" } : Jvm.MethodName) ({ cls := "LinkText$Lines", name := "placeOf", desc := "(I)I" } : Jvm.MethodName)) ∈ k_tbl := List.mem_filter.mpr ⟨List.mem_append_right _ (List.mem_append_right _ (List.mem_append_left _ (List.mem_of_getElem? (i := 164) rfl))), rfl⟩
theorem kw_410 : (Jvm.Cond.methodLink "LinkText" (94 : Nat) ({ cls := "LinkText$Lines", name := "storedAt", desc := "(II)J" } : Jvm.MethodName)) ∈ k_tbl := List.mem_filter.mpr ⟨List.mem_append_right _ (List.mem_append_right _ (List.mem_append_left _ (List.mem_of_getElem? (i := 170) rfl))), rfl⟩
theorem kw_413 : (Jvm.Cond.code ({ cls := "LinkText$Lines", name := "storedAt", desc := "(II)J" } : Jvm.MethodName) prog_3_method_9_code (4 : Nat) (Option.some Jvm.ClassFile.FieldType.long)) ∈ k_tbl := List.mem_filter.mpr ⟨List.mem_append_right _ (List.mem_append_right _ (List.mem_append_left _ (List.mem_of_getElem? (i := 173) rfl))), rfl⟩
theorem kw_411 : (Jvm.Cond.instanceMethod ({ cls := "LinkText$Lines", name := "storedAt", desc := "(II)J" } : Jvm.MethodName)) ∈ k_tbl := List.mem_filter.mpr ⟨List.mem_append_right _ (List.mem_append_right _ (List.mem_append_left _ (List.mem_of_getElem? (i := 171) rfl))), rfl⟩
theorem kw_412 : (Jvm.Cond.selects "LinkText$Lines" ({ cls := "LinkText$Lines", name := "storedAt", desc := "(II)J" } : Jvm.MethodName) ({ cls := "LinkText$Lines", name := "storedAt", desc := "(II)J" } : Jvm.MethodName)) ∈ k_tbl := List.mem_filter.mpr ⟨List.mem_append_right _ (List.mem_append_right _ (List.mem_append_left _ (List.mem_of_getElem? (i := 172) rfl))), rfl⟩
theorem kw_415 : (Jvm.Cond.methodLink "LinkText" (98 : Nat) ({ cls := "LinkText", name := "valueOf", desc := "(J)J" } : Jvm.MethodName)) ∈ k_tbl := List.mem_filter.mpr ⟨List.mem_append_right _ (List.mem_append_right _ (List.mem_append_left _ (List.mem_of_getElem? (i := 175) rfl))), rfl⟩
theorem kw_417 : (Jvm.Cond.code ({ cls := "LinkText", name := "valueOf", desc := "(J)J" } : Jvm.MethodName) prog_1_method_14_code (2 : Nat) (Option.some Jvm.ClassFile.FieldType.long)) ∈ k_tbl := List.mem_filter.mpr ⟨List.mem_append_right _ (List.mem_append_right _ (List.mem_append_left _ (List.mem_of_getElem? (i := 177) rfl))), rfl⟩
theorem kw_416 : (Jvm.Cond.static ({ cls := "LinkText", name := "valueOf", desc := "(J)J" } : Jvm.MethodName)) ∈ k_tbl := List.mem_filter.mpr ⟨List.mem_append_right _ (List.mem_append_right _ (List.mem_append_left _ (List.mem_of_getElem? (i := 176) rfl))), rfl⟩
theorem kw_140 : (Jvm.Cond.fieldLink "LinkText" (16 : Nat) "LinkText" "paper" "LLinkText$ByteRow;") ∈ k_tbl := List.mem_filter.mpr ⟨List.mem_append_right _ (List.mem_append_left _ (List.mem_of_getElem? (i := 140) rfl)), rfl⟩
theorem kw_143 : (Jvm.Cond.fieldLink "LinkText" (38 : Nat) "LinkText" "printer" "LLinkText$Printer;") ∈ k_tbl := List.mem_filter.mpr ⟨List.mem_append_right _ (List.mem_append_left _ (List.mem_of_getElem? (i := 143) rfl)), rfl⟩
theorem kw_493 : (Jvm.Cond.methodLink "LinkText" (108 : Nat) ({ cls := "LinkText$ByteRow", name := "byteAt", desc := "(I)I" } : Jvm.MethodName)) ∈ k_tbl := List.mem_filter.mpr ⟨List.mem_append_right _ (List.mem_append_right _ (List.mem_append_right _ (List.mem_append_left _ (List.mem_of_getElem? (i := 13) rfl)))), rfl⟩
theorem kw_496 : (Jvm.Cond.code ({ cls := "LinkText$ByteRow", name := "byteAt", desc := "(I)I" } : Jvm.MethodName) prog_2_method_4_code (2 : Nat) (Option.some Jvm.ClassFile.FieldType.int)) ∈ k_tbl := List.mem_filter.mpr ⟨List.mem_append_right _ (List.mem_append_right _ (List.mem_append_right _ (List.mem_append_left _ (List.mem_of_getElem? (i := 16) rfl)))), rfl⟩
theorem kw_494 : (Jvm.Cond.instanceMethod ({ cls := "LinkText$ByteRow", name := "byteAt", desc := "(I)I" } : Jvm.MethodName)) ∈ k_tbl := List.mem_filter.mpr ⟨List.mem_append_right _ (List.mem_append_right _ (List.mem_append_right _ (List.mem_append_left _ (List.mem_of_getElem? (i := 14) rfl)))), rfl⟩
theorem kw_495 : (Jvm.Cond.selects "LinkText$ByteRow" ({ cls := "LinkText$ByteRow", name := "byteAt", desc := "(I)I" } : Jvm.MethodName) ({ cls := "LinkText$ByteRow", name := "byteAt", desc := "(I)I" } : Jvm.MethodName)) ∈ k_tbl := List.mem_filter.mpr ⟨List.mem_append_right _ (List.mem_append_right _ (List.mem_append_right _ (List.mem_append_left _ (List.mem_of_getElem? (i := 15) rfl)))), rfl⟩
theorem kw_501 : (Jvm.Cond.methodLink "LinkText" (111 : Nat) ({ cls := "LinkText$ByteRow", name := "copy", desc := "(LLinkText$ByteRow;)V" } : Jvm.MethodName)) ∈ k_tbl := List.mem_filter.mpr ⟨List.mem_append_right _ (List.mem_append_right _ (List.mem_append_right _ (List.mem_append_left _ (List.mem_of_getElem? (i := 21) rfl)))), rfl⟩
theorem kw_504 : (Jvm.Cond.code ({ cls := "LinkText$ByteRow", name := "copy", desc := "(LLinkText$ByteRow;)V" } : Jvm.MethodName) prog_2_method_5_code (2 : Nat) (Option.none : Option Jvm.ClassFile.FieldType)) ∈ k_tbl := List.mem_filter.mpr ⟨List.mem_append_right _ (List.mem_append_right _ (List.mem_append_right _ (List.mem_append_left _ (List.mem_of_getElem? (i := 24) rfl)))), rfl⟩
theorem kw_502 : (Jvm.Cond.instanceMethod ({ cls := "LinkText$ByteRow", name := "copy", desc := "(LLinkText$ByteRow;)V" } : Jvm.MethodName)) ∈ k_tbl := List.mem_filter.mpr ⟨List.mem_append_right _ (List.mem_append_right _ (List.mem_append_right _ (List.mem_append_left _ (List.mem_of_getElem? (i := 22) rfl)))), rfl⟩
theorem kw_503 : (Jvm.Cond.selects "LinkText$ByteRow" ({ cls := "LinkText$ByteRow", name := "copy", desc := "(LLinkText$ByteRow;)V" } : Jvm.MethodName) ({ cls := "LinkText$ByteRow", name := "copy", desc := "(LLinkText$ByteRow;)V" } : Jvm.MethodName)) ∈ k_tbl := List.mem_filter.mpr ⟨List.mem_append_right _ (List.mem_append_right _ (List.mem_append_right _ (List.mem_append_left _ (List.mem_of_getElem? (i := 23) rfl)))), rfl⟩
theorem kw_515 : (Jvm.Cond.fieldLink "LinkTextModel" (7 : Nat) "LinkTextModel" "tape" "[I") ∈ k_tbl := List.mem_filter.mpr ⟨List.mem_append_right _ (List.mem_append_right _ (List.mem_append_right _ (List.mem_append_left _ (List.mem_of_getElem? (i := 35) rfl)))), rfl⟩
theorem kw_516 : (Jvm.Cond.fieldLink "LinkTextModel" (48 : Nat) "LinkTextModel" "taped" "I") ∈ k_tbl := List.mem_filter.mpr ⟨List.mem_append_right _ (List.mem_append_right _ (List.mem_append_right _ (List.mem_append_left _ (List.mem_of_getElem? (i := 36) rfl)))), rfl⟩
theorem kw_597 : (Jvm.Cond.methodLink "LinkTextModel" (51 : Nat) ({ cls := "LinkTextModel", name := "put", desc := "(I)V" } : Jvm.MethodName)) ∈ k_tbl := List.mem_filter.mpr ⟨List.mem_append_right _ (List.mem_append_right _ (List.mem_append_right _ (List.mem_append_left _ (List.mem_of_getElem? (i := 117) rfl)))), rfl⟩
theorem kw_600 : (Jvm.Cond.code ({ cls := "LinkTextModel", name := "put", desc := "(I)V" } : Jvm.MethodName) prog_8_method_4_code (3 : Nat) (Option.none : Option Jvm.ClassFile.FieldType)) ∈ k_tbl := List.mem_filter.mpr ⟨List.mem_append_right _ (List.mem_append_right _ (List.mem_append_right _ (List.mem_append_left _ (List.mem_of_getElem? (i := 120) rfl)))), rfl⟩
theorem kw_7 : (Jvm.Cond.initialized "LinkTextModel") ∈ k_tbl := List.mem_filter.mpr ⟨List.mem_append_right _ (List.mem_append_left _ (List.mem_of_getElem? (i := 7) rfl)), rfl⟩
theorem kw_599 : (Jvm.Cond.instanceMethod ({ cls := "LinkTextModel", name := "put", desc := "(I)V" } : Jvm.MethodName)) ∈ k_tbl := List.mem_filter.mpr ⟨List.mem_append_right _ (List.mem_append_right _ (List.mem_append_right _ (List.mem_append_left _ (List.mem_of_getElem? (i := 119) rfl)))), rfl⟩
theorem kp_24 : Cond.selects "LinkTextModel" (⟨"LinkTextModel", "put", "(I)V"⟩ : MethodName) (⟨"LinkTextModel", "put", "(I)V"⟩ : MethodName) ∈ k_tbl := List.mem_filter.mpr ⟨List.mem_append_left _ (List.mem_of_getElem? (i := 24) rfl), rfl⟩
theorem kw_519 : (Jvm.Cond.fieldLink "LinkTextModel" (90 : Nat) "LinkTextModel" "lines" "I") ∈ k_tbl := List.mem_filter.mpr ⟨List.mem_append_right _ (List.mem_append_right _ (List.mem_append_right _ (List.mem_append_left _ (List.mem_of_getElem? (i := 39) rfl)))), rfl⟩
theorem kw_517 : (Jvm.Cond.fieldLink "LinkTextModel" (13 : Nat) "LinkTextModel" "fault" "I") ∈ k_tbl := List.mem_filter.mpr ⟨List.mem_append_right _ (List.mem_append_right _ (List.mem_append_right _ (List.mem_append_left _ (List.mem_of_getElem? (i := 37) rfl)))), rfl⟩
theorem kw_518 : (Jvm.Cond.fieldLink "LinkTextModel" (17 : Nat) "LinkTextModel" "place" "I") ∈ k_tbl := List.mem_filter.mpr ⟨List.mem_append_right _ (List.mem_append_right _ (List.mem_append_right _ (List.mem_append_left _ (List.mem_of_getElem? (i := 38) rfl)))), rfl⟩
theorem kw_526 : (Jvm.Cond.fieldLink "LinkTextModel" (93 : Nat) "LinkTextModel" "state" "I") ∈ k_tbl := List.mem_filter.mpr ⟨List.mem_append_right _ (List.mem_append_right _ (List.mem_append_right _ (List.mem_append_left _ (List.mem_of_getElem? (i := 46) rfl)))), rfl⟩
theorem kw_613 : (Jvm.Cond.methodLink "LinkTextModel" (120 : Nat) ({ cls := "LinkTextModel", name := "mayEnd", desc := "()Z" } : Jvm.MethodName)) ∈ k_tbl := List.mem_filter.mpr ⟨List.mem_append_right _ (List.mem_append_right _ (List.mem_append_right _ (List.mem_append_left _ (List.mem_of_getElem? (i := 133) rfl)))), rfl⟩
theorem kw_616 : (Jvm.Cond.code ({ cls := "LinkTextModel", name := "mayEnd", desc := "()Z" } : Jvm.MethodName) prog_8_method_17_code (1 : Nat) (Option.some Jvm.ClassFile.FieldType.boolean)) ∈ k_tbl := List.mem_filter.mpr ⟨List.mem_append_right _ (List.mem_append_right _ (List.mem_append_right _ (List.mem_append_left _ (List.mem_of_getElem? (i := 136) rfl)))), rfl⟩
theorem kw_615 : (Jvm.Cond.instanceMethod ({ cls := "LinkTextModel", name := "mayEnd", desc := "()Z" } : Jvm.MethodName)) ∈ k_tbl := List.mem_filter.mpr ⟨List.mem_append_right _ (List.mem_append_right _ (List.mem_append_right _ (List.mem_append_left _ (List.mem_of_getElem? (i := 135) rfl)))), rfl⟩
theorem kp_27 : Cond.selects "LinkTextModel" (⟨"LinkTextModel", "mayEnd", "()Z"⟩ : MethodName) (⟨"LinkTextModel", "mayEnd", "()Z"⟩ : MethodName) ∈ k_tbl := List.mem_filter.mpr ⟨List.mem_append_left _ (List.mem_of_getElem? (i := 27) rfl), rfl⟩
theorem kw_520 : (Jvm.Cond.fieldLink "LinkTextModel" (20 : Nat) "LinkTextModel" "kind" "[I") ∈ k_tbl := List.mem_filter.mpr ⟨List.mem_append_right _ (List.mem_append_right _ (List.mem_append_right _ (List.mem_append_left _ (List.mem_of_getElem? (i := 40) rfl)))), rfl⟩
theorem kw_605 : (Jvm.Cond.methodLink "LinkTextModel" (100 : Nat) ({ cls := "LinkTextModel", name := "stop", desc := "(II)V" } : Jvm.MethodName)) ∈ k_tbl := List.mem_filter.mpr ⟨List.mem_append_right _ (List.mem_append_right _ (List.mem_append_right _ (List.mem_append_left _ (List.mem_of_getElem? (i := 125) rfl)))), rfl⟩
theorem kw_608 : (Jvm.Cond.code ({ cls := "LinkTextModel", name := "stop", desc := "(II)V" } : Jvm.MethodName) prog_8_method_13_code (3 : Nat) (Option.none : Option Jvm.ClassFile.FieldType)) ∈ k_tbl := List.mem_filter.mpr ⟨List.mem_append_right _ (List.mem_append_right _ (List.mem_append_right _ (List.mem_append_left _ (List.mem_of_getElem? (i := 128) rfl)))), rfl⟩
theorem kw_607 : (Jvm.Cond.instanceMethod ({ cls := "LinkTextModel", name := "stop", desc := "(II)V" } : Jvm.MethodName)) ∈ k_tbl := List.mem_filter.mpr ⟨List.mem_append_right _ (List.mem_append_right _ (List.mem_append_right _ (List.mem_append_left _ (List.mem_of_getElem? (i := 127) rfl)))), rfl⟩
theorem kp_25 : Cond.selects "LinkTextModel" (⟨"LinkTextModel", "stop", "(II)V"⟩ : MethodName) (⟨"LinkTextModel", "stop", "(II)V"⟩ : MethodName) ∈ k_tbl := List.mem_filter.mpr ⟨List.mem_append_left _ (List.mem_of_getElem? (i := 25) rfl), rfl⟩
theorem kw_525 : (Jvm.Cond.fieldLink "LinkTextModel" (87 : Nat) "LinkTextModel" "used" "I") ∈ k_tbl := List.mem_filter.mpr ⟨List.mem_append_right _ (List.mem_append_right _ (List.mem_append_right _ (List.mem_append_left _ (List.mem_of_getElem? (i := 45) rfl)))), rfl⟩
theorem kw_527 : (Jvm.Cond.fieldLink "LinkTextModel" (170 : Nat) "LinkTextModel" "at" "I") ∈ k_tbl := List.mem_filter.mpr ⟨List.mem_append_right _ (List.mem_append_right _ (List.mem_append_right _ (List.mem_append_left _ (List.mem_of_getElem? (i := 47) rfl)))), rfl⟩
theorem kw_532 : (Jvm.Cond.fieldLink "LinkTextModel" (55 : Nat) "LinkTextModel" "from" "I") ∈ k_tbl := List.mem_filter.mpr ⟨List.mem_append_right _ (List.mem_append_right _ (List.mem_append_right _ (List.mem_append_left _ (List.mem_of_getElem? (i := 52) rfl)))), rfl⟩
theorem kw_609 : (Jvm.Cond.methodLink "LinkTextModel" (173 : Nat) ({ cls := "LinkTextModel", name := "finish", desc := "(I)V" } : Jvm.MethodName)) ∈ k_tbl := List.mem_filter.mpr ⟨List.mem_append_right _ (List.mem_append_right _ (List.mem_append_right _ (List.mem_append_left _ (List.mem_of_getElem? (i := 129) rfl)))), rfl⟩
theorem kw_612 : (Jvm.Cond.code ({ cls := "LinkTextModel", name := "finish", desc := "(I)V" } : Jvm.MethodName) prog_8_method_18_code (2 : Nat) (Option.none : Option Jvm.ClassFile.FieldType)) ∈ k_tbl := List.mem_filter.mpr ⟨List.mem_append_right _ (List.mem_append_right _ (List.mem_append_right _ (List.mem_append_left _ (List.mem_of_getElem? (i := 132) rfl)))), rfl⟩
theorem kw_611 : (Jvm.Cond.instanceMethod ({ cls := "LinkTextModel", name := "finish", desc := "(I)V" } : Jvm.MethodName)) ∈ k_tbl := List.mem_filter.mpr ⟨List.mem_append_right _ (List.mem_append_right _ (List.mem_append_right _ (List.mem_append_left _ (List.mem_of_getElem? (i := 131) rfl)))), rfl⟩
theorem kp_26 : Cond.selects "LinkTextModel" (⟨"LinkTextModel", "finish", "(I)V"⟩ : MethodName) (⟨"LinkTextModel", "finish", "(I)V"⟩ : MethodName) ∈ k_tbl := List.mem_filter.mpr ⟨List.mem_append_left _ (List.mem_of_getElem? (i := 26) rfl), rfl⟩
theorem kw_722 : (Jvm.Cond.methodLink "LinkTextModel" (195 : Nat) ({ cls := "LinkTextModel", name := "isLine", desc := "(I)Z" } : Jvm.MethodName)) ∈ k_tbl := List.mem_filter.mpr ⟨List.mem_append_right _ (List.mem_append_right _ (List.mem_append_right _ (List.mem_append_right _ (List.mem_of_getElem? (i := 2) rfl)))), rfl⟩
theorem kw_725 : (Jvm.Cond.code ({ cls := "LinkTextModel", name := "isLine", desc := "(I)Z" } : Jvm.MethodName) prog_8_method_32_code (2 : Nat) (Option.some Jvm.ClassFile.FieldType.boolean)) ∈ k_tbl := List.mem_filter.mpr ⟨List.mem_append_right _ (List.mem_append_right _ (List.mem_append_right _ (List.mem_append_right _ (List.mem_of_getElem? (i := 5) rfl)))), rfl⟩
theorem kw_724 : (Jvm.Cond.instanceMethod ({ cls := "LinkTextModel", name := "isLine", desc := "(I)Z" } : Jvm.MethodName)) ∈ k_tbl := List.mem_filter.mpr ⟨List.mem_append_right _ (List.mem_append_right _ (List.mem_append_right _ (List.mem_append_right _ (List.mem_of_getElem? (i := 4) rfl)))), rfl⟩
theorem kp_46 : Cond.selects "LinkTextModel" (⟨"LinkTextModel", "isLine", "(I)Z"⟩ : MethodName) (⟨"LinkTextModel", "isLine", "(I)Z"⟩ : MethodName) ∈ k_tbl := List.mem_filter.mpr ⟨List.mem_append_left _ (List.mem_of_getElem? (i := 46) rfl), rfl⟩
theorem kw_523 : (Jvm.Cond.fieldLink "LinkTextModel" (29 : Nat) "LinkTextModel" "begins" "[I") ∈ k_tbl := List.mem_filter.mpr ⟨List.mem_append_right _ (List.mem_append_right _ (List.mem_append_right _ (List.mem_append_left _ (List.mem_of_getElem? (i := 43) rfl)))), rfl⟩
theorem kw_522 : (Jvm.Cond.fieldLink "LinkTextModel" (26 : Nat) "LinkTextModel" "count" "[I") ∈ k_tbl := List.mem_filter.mpr ⟨List.mem_append_right _ (List.mem_append_right _ (List.mem_append_right _ (List.mem_append_left _ (List.mem_of_getElem? (i := 42) rfl)))), rfl⟩
theorem kw_524 : (Jvm.Cond.fieldLink "LinkTextModel" (32 : Nat) "LinkTextModel" "numbers" "[J") ∈ k_tbl := List.mem_filter.mpr ⟨List.mem_append_right _ (List.mem_append_right _ (List.mem_append_right _ (List.mem_append_left _ (List.mem_of_getElem? (i := 44) rfl)))), rfl⟩
theorem kw_521 : (Jvm.Cond.fieldLink "LinkTextModel" (23 : Nat) "LinkTextModel" "first" "[I") ∈ k_tbl := List.mem_filter.mpr ⟨List.mem_append_right _ (List.mem_append_right _ (List.mem_append_right _ (List.mem_append_left _ (List.mem_of_getElem? (i := 41) rfl)))), rfl⟩
theorem kw_537 : (Jvm.Cond.fieldLink "LinkTextModel" (205 : Nat) "LinkTextModel" "written" "I") ∈ k_tbl := List.mem_filter.mpr ⟨List.mem_append_right _ (List.mem_append_right _ (List.mem_append_right _ (List.mem_append_left _ (List.mem_of_getElem? (i := 57) rfl)))), rfl⟩
theorem kw_538 : (Jvm.Cond.fieldLink "LinkTextModel" (198 : Nat) "LinkTextModel" "over" "Z") ∈ k_tbl := List.mem_filter.mpr ⟨List.mem_append_right _ (List.mem_append_right _ (List.mem_append_right _ (List.mem_append_left _ (List.mem_of_getElem? (i := 58) rfl)))), rfl⟩
theorem kw_535 : (Jvm.Cond.fieldLink "LinkTextModel" (202 : Nat) "LinkTextModel" "printed" "I") ∈ k_tbl := List.mem_filter.mpr ⟨List.mem_append_right _ (List.mem_append_right _ (List.mem_append_right _ (List.mem_append_left _ (List.mem_of_getElem? (i := 55) rfl)))), rfl⟩
theorem kw_534 : (Jvm.Cond.fieldLink "LinkTextModel" (36 : Nat) "LinkTextModel" "out" "[I") ∈ k_tbl := List.mem_filter.mpr ⟨List.mem_append_right _ (List.mem_append_right _ (List.mem_append_right _ (List.mem_append_left _ (List.mem_of_getElem? (i := 54) rfl)))), rfl⟩
theorem kw_27 : (Jvm.Cond.methodLink "LinkText$ByteRow" (3 : Nat) ({ cls := "java/lang/Object", name := "<init>", desc := "()V" } : Jvm.MethodName)) ∈ k_tbl := List.mem_filter.mpr ⟨List.mem_append_right _ (List.mem_append_left _ (List.mem_of_getElem? (i := 27) rfl)), rfl⟩
theorem kw_20 : (Jvm.Cond.instanceMethod ({ cls := "java/lang/Object", name := "<init>", desc := "()V" } : Jvm.MethodName)) ∈ k_tbl := List.mem_filter.mpr ⟨List.mem_append_right _ (List.mem_append_left _ (List.mem_of_getElem? (i := 20) rfl)), rfl⟩
theorem kw_21 : (Jvm.Cond.code ({ cls := "java/lang/Object", name := "<init>", desc := "()V" } : Jvm.MethodName) object_method_1_code (1 : Nat) (Option.none : Option Jvm.ClassFile.FieldType)) ∈ k_tbl := List.mem_filter.mpr ⟨List.mem_append_right _ (List.mem_append_left _ (List.mem_of_getElem? (i := 21) rfl)), rfl⟩
theorem kw_41 : (Jvm.Cond.arrayClass Jvm.ClassFile.FieldType.byte) ∈ k_tbl := List.mem_filter.mpr ⟨List.mem_append_right _ (List.mem_append_left _ (List.mem_of_getElem? (i := 41) rfl)), rfl⟩
theorem kw_47 : (Jvm.Cond.methodLink "LinkText$Lines" (3 : Nat) ({ cls := "java/lang/Object", name := "<init>", desc := "()V" } : Jvm.MethodName)) ∈ k_tbl := List.mem_filter.mpr ⟨List.mem_append_right _ (List.mem_append_left _ (List.mem_of_getElem? (i := 47) rfl)), rfl⟩
theorem kw_72 : (Jvm.Cond.arrayClass Jvm.ClassFile.FieldType.int) ∈ k_tbl := List.mem_filter.mpr ⟨List.mem_append_right _ (List.mem_append_left _ (List.mem_of_getElem? (i := 72) rfl)), rfl⟩
theorem kw_73 : (Jvm.Cond.arrayClass Jvm.ClassFile.FieldType.long) ∈ k_tbl := List.mem_filter.mpr ⟨List.mem_append_right _ (List.mem_append_left _ (List.mem_of_getElem? (i := 73) rfl)), rfl⟩
theorem kw_85 : (Jvm.Cond.methodLink "LinkText$Tokens" (3 : Nat) ({ cls := "java/lang/Object", name := "<init>", desc := "()V" } : Jvm.MethodName)) ∈ k_tbl := List.mem_filter.mpr ⟨List.mem_append_right _ (List.mem_append_left _ (List.mem_of_getElem? (i := 85) rfl)), rfl⟩
theorem kw_29 : (Jvm.Cond.fieldLinkNest "LinkText$Tokens" (31 : Nat) "LinkText$ByteRow" "bytes" "[B" "LinkText") ∈ lw_tbl := List.mem_append_right _ (List.mem_append_left _ (List.mem_of_getElem? (i := 29) rfl))
theorem kw_79 : (Jvm.Cond.methodLink "LinkText$Reader" (3 : Nat) ({ cls := "java/lang/Object", name := "<init>", desc := "()V" } : Jvm.MethodName)) ∈ k_tbl := List.mem_filter.mpr ⟨List.mem_append_right _ (List.mem_append_left _ (List.mem_of_getElem? (i := 79) rfl)), rfl⟩
theorem kw_80 : (Jvm.Cond.classLink "LinkText$Reader" (18 : Nat) "LinkText$Tokens") ∈ k_tbl := List.mem_filter.mpr ⟨List.mem_append_right _ (List.mem_append_left _ (List.mem_of_getElem? (i := 80) rfl)), rfl⟩
theorem kw_81 : (Jvm.Cond.instantiable "LinkText$Tokens" (7 : Nat)) ∈ k_tbl := List.mem_filter.mpr ⟨List.mem_append_right _ (List.mem_append_left _ (List.mem_of_getElem? (i := 81) rfl)), rfl⟩
theorem kw_82 : (Jvm.Cond.methodLink "LinkText$Reader" (20 : Nat) ({ cls := "LinkText$Tokens", name := "<init>", desc := "(LLinkText$ByteRow;)V" } : Jvm.MethodName)) ∈ k_tbl := List.mem_filter.mpr ⟨List.mem_append_right _ (List.mem_append_left _ (List.mem_of_getElem? (i := 82) rfl)), rfl⟩
theorem kw_84 : (Jvm.Cond.code ({ cls := "LinkText$Tokens", name := "<init>", desc := "(LLinkText$ByteRow;)V" } : Jvm.MethodName) prog_6_method_1_code (2 : Nat) (Option.none : Option Jvm.ClassFile.FieldType)) ∈ k_tbl := List.mem_filter.mpr ⟨List.mem_append_right _ (List.mem_append_left _ (List.mem_of_getElem? (i := 84) rfl)), rfl⟩
theorem kw_83 : (Jvm.Cond.instanceMethod ({ cls := "LinkText$Tokens", name := "<init>", desc := "(LLinkText$ByteRow;)V" } : Jvm.MethodName)) ∈ k_tbl := List.mem_filter.mpr ⟨List.mem_append_right _ (List.mem_append_left _ (List.mem_of_getElem? (i := 83) rfl)), rfl⟩
theorem kw_131 : (Jvm.Cond.methodLink "LinkText$Printer" (3 : Nat) ({ cls := "java/lang/Object", name := "<init>", desc := "()V" } : Jvm.MethodName)) ∈ k_tbl := List.mem_filter.mpr ⟨List.mem_append_right _ (List.mem_append_left _ (List.mem_of_getElem? (i := 131) rfl)), rfl⟩
theorem kw_132 : (Jvm.Cond.fieldLink "LinkText$Printer" (9 : Nat) "LinkText$Printer" "paper" "LLinkText$ByteRow;") ∈ k_tbl := List.mem_filter.mpr ⟨List.mem_append_right _ (List.mem_append_left _ (List.mem_of_getElem? (i := 132) rfl)), rfl⟩
theorem kw_133 : (Jvm.Cond.fieldLink "LinkText$Printer" (15 : Nat) "LinkText$Printer" "lines" "LLinkText$Lines;") ∈ k_tbl := List.mem_filter.mpr ⟨List.mem_append_right _ (List.mem_append_left _ (List.mem_of_getElem? (i := 133) rfl)), rfl⟩
theorem kw_19 : (Jvm.Cond.methodLink "LinkText" (1 : Nat) ({ cls := "java/lang/Object", name := "<init>", desc := "()V" } : Jvm.MethodName)) ∈ k_tbl := List.mem_filter.mpr ⟨List.mem_append_right _ (List.mem_append_left _ (List.mem_of_getElem? (i := 19) rfl)), rfl⟩
theorem kw_22 : (Jvm.Cond.classLink "LinkText" (7 : Nat) "LinkText$ByteRow") ∈ k_tbl := List.mem_filter.mpr ⟨List.mem_append_right _ (List.mem_append_left _ (List.mem_of_getElem? (i := 22) rfl)), rfl⟩
theorem kw_23 : (Jvm.Cond.instantiable "LinkText$ByteRow" (3 : Nat)) ∈ k_tbl := List.mem_filter.mpr ⟨List.mem_append_right _ (List.mem_append_left _ (List.mem_of_getElem? (i := 23) rfl)), rfl⟩
theorem kw_24 : (Jvm.Cond.methodLinkNest "LinkText" (9 : Nat) ({ cls := "LinkText$ByteRow", name := "<init>", desc := "()V" } : Jvm.MethodName) "LinkText") ∈ lw_tbl := List.mem_append_right _ (List.mem_append_left _ (List.mem_of_getElem? (i := 24) rfl))
theorem kw_26 : (Jvm.Cond.code ({ cls := "LinkText$ByteRow", name := "<init>", desc := "()V" } : Jvm.MethodName) prog_2_method_1_code (1 : Nat) (Option.none : Option Jvm.ClassFile.FieldType)) ∈ k_tbl := List.mem_filter.mpr ⟨List.mem_append_right _ (List.mem_append_left _ (List.mem_of_getElem? (i := 26) rfl)), rfl⟩
theorem kw_25 : (Jvm.Cond.instanceMethod ({ cls := "LinkText$ByteRow", name := "<init>", desc := "()V" } : Jvm.MethodName)) ∈ k_tbl := List.mem_filter.mpr ⟨List.mem_append_right _ (List.mem_append_left _ (List.mem_of_getElem? (i := 25) rfl)), rfl⟩
theorem kw_42 : (Jvm.Cond.classLink "LinkText" (19 : Nat) "LinkText$Lines") ∈ k_tbl := List.mem_filter.mpr ⟨List.mem_append_right _ (List.mem_append_left _ (List.mem_of_getElem? (i := 42) rfl)), rfl⟩
theorem kw_43 : (Jvm.Cond.instantiable "LinkText$Lines" (7 : Nat)) ∈ k_tbl := List.mem_filter.mpr ⟨List.mem_append_right _ (List.mem_append_left _ (List.mem_of_getElem? (i := 43) rfl)), rfl⟩
theorem kw_44 : (Jvm.Cond.methodLinkNest "LinkText" (21 : Nat) ({ cls := "LinkText$Lines", name := "<init>", desc := "()V" } : Jvm.MethodName) "LinkText") ∈ lw_tbl := List.mem_append_right _ (List.mem_append_left _ (List.mem_of_getElem? (i := 44) rfl))
theorem kw_46 : (Jvm.Cond.code ({ cls := "LinkText$Lines", name := "<init>", desc := "()V" } : Jvm.MethodName) prog_3_method_1_code (1 : Nat) (Option.none : Option Jvm.ClassFile.FieldType)) ∈ k_tbl := List.mem_filter.mpr ⟨List.mem_append_right _ (List.mem_append_left _ (List.mem_of_getElem? (i := 46) rfl)), rfl⟩
theorem kw_45 : (Jvm.Cond.instanceMethod ({ cls := "LinkText$Lines", name := "<init>", desc := "()V" } : Jvm.MethodName)) ∈ k_tbl := List.mem_filter.mpr ⟨List.mem_append_right _ (List.mem_append_left _ (List.mem_of_getElem? (i := 45) rfl)), rfl⟩
theorem kw_74 : (Jvm.Cond.classLink "LinkText" (26 : Nat) "LinkText$Reader") ∈ k_tbl := List.mem_filter.mpr ⟨List.mem_append_right _ (List.mem_append_left _ (List.mem_of_getElem? (i := 74) rfl)), rfl⟩
theorem kw_75 : (Jvm.Cond.instantiable "LinkText$Reader" (4 : Nat)) ∈ k_tbl := List.mem_filter.mpr ⟨List.mem_append_right _ (List.mem_append_left _ (List.mem_of_getElem? (i := 75) rfl)), rfl⟩
theorem kw_76 : (Jvm.Cond.methodLink "LinkText" (28 : Nat) ({ cls := "LinkText$Reader", name := "<init>", desc := "(LLinkText$ByteRow;LLinkText$Lines;)V" } : Jvm.MethodName)) ∈ k_tbl := List.mem_filter.mpr ⟨List.mem_append_right _ (List.mem_append_left _ (List.mem_of_getElem? (i := 76) rfl)), rfl⟩
theorem kw_78 : (Jvm.Cond.code ({ cls := "LinkText$Reader", name := "<init>", desc := "(LLinkText$ByteRow;LLinkText$Lines;)V" } : Jvm.MethodName) prog_5_method_1_code (3 : Nat) (Option.none : Option Jvm.ClassFile.FieldType)) ∈ k_tbl := List.mem_filter.mpr ⟨List.mem_append_right _ (List.mem_append_left _ (List.mem_of_getElem? (i := 78) rfl)), rfl⟩
theorem kw_77 : (Jvm.Cond.instanceMethod ({ cls := "LinkText$Reader", name := "<init>", desc := "(LLinkText$ByteRow;LLinkText$Lines;)V" } : Jvm.MethodName)) ∈ k_tbl := List.mem_filter.mpr ⟨List.mem_append_right _ (List.mem_append_left _ (List.mem_of_getElem? (i := 77) rfl)), rfl⟩
theorem kw_126 : (Jvm.Cond.classLink "LinkText" (35 : Nat) "LinkText$Printer") ∈ k_tbl := List.mem_filter.mpr ⟨List.mem_append_right _ (List.mem_append_left _ (List.mem_of_getElem? (i := 126) rfl)), rfl⟩
theorem kw_127 : (Jvm.Cond.instantiable "LinkText$Printer" (2 : Nat)) ∈ k_tbl := List.mem_filter.mpr ⟨List.mem_append_right _ (List.mem_append_left _ (List.mem_of_getElem? (i := 127) rfl)), rfl⟩
theorem kw_6 : (Jvm.Cond.initialized "LinkText$Printer") ∈ k_tbl := List.mem_filter.mpr ⟨List.mem_append_right _ (List.mem_append_left _ (List.mem_of_getElem? (i := 6) rfl)), rfl⟩
theorem kw_128 : (Jvm.Cond.methodLink "LinkText" (37 : Nat) ({ cls := "LinkText$Printer", name := "<init>", desc := "(LLinkText$ByteRow;LLinkText$Lines;)V" } : Jvm.MethodName)) ∈ k_tbl := List.mem_filter.mpr ⟨List.mem_append_right _ (List.mem_append_left _ (List.mem_of_getElem? (i := 128) rfl)), rfl⟩
theorem kw_130 : (Jvm.Cond.code ({ cls := "LinkText$Printer", name := "<init>", desc := "(LLinkText$ByteRow;LLinkText$Lines;)V" } : Jvm.MethodName) prog_4_method_1_code (3 : Nat) (Option.none : Option Jvm.ClassFile.FieldType)) ∈ k_tbl := List.mem_filter.mpr ⟨List.mem_append_right _ (List.mem_append_left _ (List.mem_of_getElem? (i := 130) rfl)), rfl⟩
theorem kw_129 : (Jvm.Cond.instanceMethod ({ cls := "LinkText$Printer", name := "<init>", desc := "(LLinkText$ByteRow;LLinkText$Lines;)V" } : Jvm.MethodName)) ∈ k_tbl := List.mem_filter.mpr ⟨List.mem_append_right _ (List.mem_append_left _ (List.mem_of_getElem? (i := 129) rfl)), rfl⟩
theorem kw_514 : (Jvm.Cond.methodLink "LinkTextModel" (1 : Nat) ({ cls := "java/lang/Object", name := "<init>", desc := "()V" } : Jvm.MethodName)) ∈ k_tbl := List.mem_filter.mpr ⟨List.mem_append_right _ (List.mem_append_right _ (List.mem_append_right _ (List.mem_append_left _ (List.mem_of_getElem? (i := 34) rfl)))), rfl⟩
theorem kw_536 : (Jvm.Cond.fieldLink "LinkTextModel" (39 : Nat) "LinkTextModel" "fresh" "[I") ∈ k_tbl := List.mem_filter.mpr ⟨List.mem_append_right _ (List.mem_append_right _ (List.mem_append_right _ (List.mem_append_left _ (List.mem_of_getElem? (i := 56) rfl)))), rfl⟩
theorem kw_539 : (Jvm.Cond.fieldLink "LinkTextModel" (42 : Nat) "LinkTextModel" "digits" "[I") ∈ k_tbl := List.mem_filter.mpr ⟨List.mem_append_right _ (List.mem_append_right _ (List.mem_append_right _ (List.mem_append_left _ (List.mem_of_getElem? (i := 59) rfl)))), rfl⟩
theorem kw_158 : (Jvm.Cond.methodLink "LinkTextLaw" (13 : Nat) ({ cls := "LinkText", name := "feed", desc := "(IIIII)I" } : Jvm.MethodName)) ∈ k_tbl := List.mem_filter.mpr ⟨List.mem_append_right _ (List.mem_append_left _ (List.mem_of_getElem? (i := 158) rfl)), rfl⟩
theorem kw_161 : (Jvm.Cond.code ({ cls := "LinkText", name := "feed", desc := "(IIIII)I" } : Jvm.MethodName) prog_1_method_2_code (6 : Nat) (Option.some Jvm.ClassFile.FieldType.int)) ∈ k_tbl := List.mem_filter.mpr ⟨List.mem_append_right _ (List.mem_append_left _ (List.mem_of_getElem? (i := 161) rfl)), rfl⟩
theorem kw_159 : (Jvm.Cond.instanceMethod ({ cls := "LinkText", name := "feed", desc := "(IIIII)I" } : Jvm.MethodName)) ∈ k_tbl := List.mem_filter.mpr ⟨List.mem_append_right _ (List.mem_append_left _ (List.mem_of_getElem? (i := 159) rfl)), rfl⟩
theorem kw_160 : (Jvm.Cond.selects "LinkText" ({ cls := "LinkText", name := "feed", desc := "(IIIII)I" } : Jvm.MethodName) ({ cls := "LinkText", name := "feed", desc := "(IIIII)I" } : Jvm.MethodName)) ∈ k_tbl := List.mem_filter.mpr ⟨List.mem_append_right _ (List.mem_append_left _ (List.mem_of_getElem? (i := 160) rfl)), rfl⟩
theorem kw_593 : (Jvm.Cond.methodLink "LinkTextLaw" (17 : Nat) ({ cls := "LinkTextModel", name := "feed", desc := "(IIIII)I" } : Jvm.MethodName)) ∈ k_tbl := List.mem_filter.mpr ⟨List.mem_append_right _ (List.mem_append_right _ (List.mem_append_right _ (List.mem_append_left _ (List.mem_of_getElem? (i := 113) rfl)))), rfl⟩
theorem kw_596 : (Jvm.Cond.code ({ cls := "LinkTextModel", name := "feed", desc := "(IIIII)I" } : Jvm.MethodName) prog_8_method_3_code (6 : Nat) (Option.some Jvm.ClassFile.FieldType.int)) ∈ k_tbl := List.mem_filter.mpr ⟨List.mem_append_right _ (List.mem_append_right _ (List.mem_append_right _ (List.mem_append_left _ (List.mem_of_getElem? (i := 116) rfl)))), rfl⟩
theorem kw_594 : (Jvm.Cond.instanceMethod ({ cls := "LinkTextModel", name := "feed", desc := "(IIIII)I" } : Jvm.MethodName)) ∈ k_tbl := List.mem_filter.mpr ⟨List.mem_append_right _ (List.mem_append_right _ (List.mem_append_right _ (List.mem_append_left _ (List.mem_of_getElem? (i := 114) rfl)))), rfl⟩
theorem kw_595 : (Jvm.Cond.selects "LinkTextModel" ({ cls := "LinkTextModel", name := "feed", desc := "(IIIII)I" } : Jvm.MethodName) ({ cls := "LinkTextModel", name := "feed", desc := "(IIIII)I" } : Jvm.MethodName)) ∈ k_tbl := List.mem_filter.mpr ⟨List.mem_append_right _ (List.mem_append_right _ (List.mem_append_right _ (List.mem_append_left _ (List.mem_of_getElem? (i := 115) rfl)))), rfl⟩
theorem kw_170 : (Jvm.Cond.methodLink "LinkTextLaw" (18 : Nat) ({ cls := "LinkText", name := "read", desc := "(I)I" } : Jvm.MethodName)) ∈ k_tbl := List.mem_filter.mpr ⟨List.mem_append_right _ (List.mem_append_left _ (List.mem_of_getElem? (i := 170) rfl)), rfl⟩
theorem kw_173 : (Jvm.Cond.code ({ cls := "LinkText", name := "read", desc := "(I)I" } : Jvm.MethodName) prog_1_method_4_code (3 : Nat) (Option.some Jvm.ClassFile.FieldType.int)) ∈ k_tbl := List.mem_filter.mpr ⟨List.mem_append_right _ (List.mem_append_left _ (List.mem_of_getElem? (i := 173) rfl)), rfl⟩
theorem kw_171 : (Jvm.Cond.instanceMethod ({ cls := "LinkText", name := "read", desc := "(I)I" } : Jvm.MethodName)) ∈ k_tbl := List.mem_filter.mpr ⟨List.mem_append_right _ (List.mem_append_left _ (List.mem_of_getElem? (i := 171) rfl)), rfl⟩
theorem kw_172 : (Jvm.Cond.selects "LinkText" ({ cls := "LinkText", name := "read", desc := "(I)I" } : Jvm.MethodName) ({ cls := "LinkText", name := "read", desc := "(I)I" } : Jvm.MethodName)) ∈ k_tbl := List.mem_filter.mpr ⟨List.mem_append_right _ (List.mem_append_left _ (List.mem_of_getElem? (i := 172) rfl)), rfl⟩
theorem kw_601 : (Jvm.Cond.methodLink "LinkTextLaw" (22 : Nat) ({ cls := "LinkTextModel", name := "read", desc := "(I)I" } : Jvm.MethodName)) ∈ k_tbl := List.mem_filter.mpr ⟨List.mem_append_right _ (List.mem_append_right _ (List.mem_append_right _ (List.mem_append_left _ (List.mem_of_getElem? (i := 121) rfl)))), rfl⟩
theorem kw_604 : (Jvm.Cond.code ({ cls := "LinkTextModel", name := "read", desc := "(I)I" } : Jvm.MethodName) prog_8_method_29_code (4 : Nat) (Option.some Jvm.ClassFile.FieldType.int)) ∈ k_tbl := List.mem_filter.mpr ⟨List.mem_append_right _ (List.mem_append_right _ (List.mem_append_right _ (List.mem_append_left _ (List.mem_of_getElem? (i := 124) rfl)))), rfl⟩
theorem kw_602 : (Jvm.Cond.instanceMethod ({ cls := "LinkTextModel", name := "read", desc := "(I)I" } : Jvm.MethodName)) ∈ k_tbl := List.mem_filter.mpr ⟨List.mem_append_right _ (List.mem_append_right _ (List.mem_append_right _ (List.mem_append_left _ (List.mem_of_getElem? (i := 122) rfl)))), rfl⟩
theorem kw_603 : (Jvm.Cond.selects "LinkTextModel" ({ cls := "LinkTextModel", name := "read", desc := "(I)I" } : Jvm.MethodName) ({ cls := "LinkTextModel", name := "read", desc := "(I)I" } : Jvm.MethodName)) ∈ k_tbl := List.mem_filter.mpr ⟨List.mem_append_right _ (List.mem_append_right _ (List.mem_append_right _ (List.mem_append_left _ (List.mem_of_getElem? (i := 123) rfl)))), rfl⟩
theorem kw_381 : (Jvm.Cond.methodLink "LinkTextLaw" (23 : Nat) ({ cls := "LinkText", name := "fault", desc := "(I)I" } : Jvm.MethodName)) ∈ k_tbl := List.mem_filter.mpr ⟨List.mem_append_right _ (List.mem_append_right _ (List.mem_append_left _ (List.mem_of_getElem? (i := 141) rfl))), rfl⟩
theorem kw_384 : (Jvm.Cond.code ({ cls := "LinkText", name := "fault", desc := "(I)I" } : Jvm.MethodName) prog_1_method_5_code (2 : Nat) (Option.some Jvm.ClassFile.FieldType.int)) ∈ k_tbl := List.mem_filter.mpr ⟨List.mem_append_right _ (List.mem_append_right _ (List.mem_append_left _ (List.mem_of_getElem? (i := 144) rfl))), rfl⟩
theorem kw_382 : (Jvm.Cond.instanceMethod ({ cls := "LinkText", name := "fault", desc := "(I)I" } : Jvm.MethodName)) ∈ k_tbl := List.mem_filter.mpr ⟨List.mem_append_right _ (List.mem_append_right _ (List.mem_append_left _ (List.mem_of_getElem? (i := 142) rfl))), rfl⟩
theorem kw_383 : (Jvm.Cond.selects "LinkText" ({ cls := "LinkText", name := "fault", desc := "(I)I" } : Jvm.MethodName) ({ cls := "LinkText", name := "fault", desc := "(I)I" } : Jvm.MethodName)) ∈ k_tbl := List.mem_filter.mpr ⟨List.mem_append_right _ (List.mem_append_right _ (List.mem_append_left _ (List.mem_of_getElem? (i := 143) rfl))), rfl⟩
theorem kw_714 : (Jvm.Cond.methodLink "LinkTextLaw" (26 : Nat) ({ cls := "LinkTextModel", name := "fault", desc := "(I)I" } : Jvm.MethodName)) ∈ k_tbl := List.mem_filter.mpr ⟨List.mem_append_right _ (List.mem_append_right _ (List.mem_append_right _ (List.mem_append_left _ (List.mem_of_getElem? (i := 234) rfl)))), rfl⟩
theorem kw_717 : (Jvm.Cond.code ({ cls := "LinkTextModel", name := "fault", desc := "(I)I" } : Jvm.MethodName) prog_8_method_31_code (2 : Nat) (Option.some Jvm.ClassFile.FieldType.int)) ∈ k_tbl := List.mem_filter.mpr ⟨List.mem_append_right _ (List.mem_append_right _ (List.mem_append_right _ (List.mem_append_left _ (List.mem_of_getElem? (i := 237) rfl)))), rfl⟩
theorem kw_715 : (Jvm.Cond.instanceMethod ({ cls := "LinkTextModel", name := "fault", desc := "(I)I" } : Jvm.MethodName)) ∈ k_tbl := List.mem_filter.mpr ⟨List.mem_append_right _ (List.mem_append_right _ (List.mem_append_right _ (List.mem_append_left _ (List.mem_of_getElem? (i := 235) rfl)))), rfl⟩
theorem kw_716 : (Jvm.Cond.selects "LinkTextModel" ({ cls := "LinkTextModel", name := "fault", desc := "(I)I" } : Jvm.MethodName) ({ cls := "LinkTextModel", name := "fault", desc := "(I)I" } : Jvm.MethodName)) ∈ k_tbl := List.mem_filter.mpr ⟨List.mem_append_right _ (List.mem_append_right _ (List.mem_append_right _ (List.mem_append_left _ (List.mem_of_getElem? (i := 236) rfl)))), rfl⟩
theorem kw_385 : (Jvm.Cond.methodLink "LinkTextLaw" (27 : Nat) ({ cls := "LinkText", name := "line", desc := "(II)I" } : Jvm.MethodName)) ∈ k_tbl := List.mem_filter.mpr ⟨List.mem_append_right _ (List.mem_append_right _ (List.mem_append_left _ (List.mem_of_getElem? (i := 145) rfl))), rfl⟩
theorem kw_388 : (Jvm.Cond.code ({ cls := "LinkText", name := "line", desc := "(II)I" } : Jvm.MethodName) prog_1_method_6_code (3 : Nat) (Option.some Jvm.ClassFile.FieldType.int)) ∈ k_tbl := List.mem_filter.mpr ⟨List.mem_append_right _ (List.mem_append_right _ (List.mem_append_left _ (List.mem_of_getElem? (i := 148) rfl))), rfl⟩
theorem kw_386 : (Jvm.Cond.instanceMethod ({ cls := "LinkText", name := "line", desc := "(II)I" } : Jvm.MethodName)) ∈ k_tbl := List.mem_filter.mpr ⟨List.mem_append_right _ (List.mem_append_right _ (List.mem_append_left _ (List.mem_of_getElem? (i := 146) rfl))), rfl⟩
theorem kw_387 : (Jvm.Cond.selects "LinkText" ({ cls := "LinkText", name := "line", desc := "(II)I" } : Jvm.MethodName) ({ cls := "LinkText", name := "line", desc := "(II)I" } : Jvm.MethodName)) ∈ k_tbl := List.mem_filter.mpr ⟨List.mem_append_right _ (List.mem_append_right _ (List.mem_append_left _ (List.mem_of_getElem? (i := 147) rfl))), rfl⟩
theorem kw_718 : (Jvm.Cond.methodLink "LinkTextLaw" (31 : Nat) ({ cls := "LinkTextModel", name := "line", desc := "(II)I" } : Jvm.MethodName)) ∈ k_tbl := List.mem_filter.mpr ⟨List.mem_append_right _ (List.mem_append_right _ (List.mem_append_right _ (List.mem_append_left _ (List.mem_of_getElem? (i := 238) rfl)))), rfl⟩
theorem kw_721 : (Jvm.Cond.code ({ cls := "LinkTextModel", name := "line", desc := "(II)I" } : Jvm.MethodName) prog_8_method_33_code (3 : Nat) (Option.some Jvm.ClassFile.FieldType.int)) ∈ k_tbl := List.mem_filter.mpr ⟨List.mem_append_right _ (List.mem_append_right _ (List.mem_append_right _ (List.mem_append_right _ (List.mem_of_getElem? (i := 1) rfl)))), rfl⟩
theorem kw_719 : (Jvm.Cond.instanceMethod ({ cls := "LinkTextModel", name := "line", desc := "(II)I" } : Jvm.MethodName)) ∈ k_tbl := List.mem_filter.mpr ⟨List.mem_append_right _ (List.mem_append_right _ (List.mem_append_right _ (List.mem_append_left _ (List.mem_of_getElem? (i := 239) rfl)))), rfl⟩
theorem kw_720 : (Jvm.Cond.selects "LinkTextModel" ({ cls := "LinkTextModel", name := "line", desc := "(II)I" } : Jvm.MethodName) ({ cls := "LinkTextModel", name := "line", desc := "(II)I" } : Jvm.MethodName)) ∈ k_tbl := List.mem_filter.mpr ⟨List.mem_append_right _ (List.mem_append_right _ (List.mem_append_right _ (List.mem_append_right _ (List.mem_of_getElem? (i := 0) rfl)))), rfl⟩
theorem kw_406 : (Jvm.Cond.methodLink "LinkTextLaw" (32 : Nat) ({ cls := "LinkText", name := "number", desc := "(II)J" } : Jvm.MethodName)) ∈ k_tbl := List.mem_filter.mpr ⟨List.mem_append_right _ (List.mem_append_right _ (List.mem_append_left _ (List.mem_of_getElem? (i := 166) rfl))), rfl⟩
theorem kw_409 : (Jvm.Cond.code ({ cls := "LinkText", name := "number", desc := "(II)J" } : Jvm.MethodName) prog_1_method_7_code (3 : Nat) (Option.some Jvm.ClassFile.FieldType.long)) ∈ k_tbl := List.mem_filter.mpr ⟨List.mem_append_right _ (List.mem_append_right _ (List.mem_append_left _ (List.mem_of_getElem? (i := 169) rfl))), rfl⟩
theorem kw_407 : (Jvm.Cond.instanceMethod ({ cls := "LinkText", name := "number", desc := "(II)J" } : Jvm.MethodName)) ∈ k_tbl := List.mem_filter.mpr ⟨List.mem_append_right _ (List.mem_append_right _ (List.mem_append_left _ (List.mem_of_getElem? (i := 167) rfl))), rfl⟩
theorem kw_408 : (Jvm.Cond.selects "LinkText" ({ cls := "LinkText", name := "number", desc := "(II)J" } : Jvm.MethodName) ({ cls := "LinkText", name := "number", desc := "(II)J" } : Jvm.MethodName)) ∈ k_tbl := List.mem_filter.mpr ⟨List.mem_append_right _ (List.mem_append_right _ (List.mem_append_left _ (List.mem_of_getElem? (i := 168) rfl))), rfl⟩
theorem kw_726 : (Jvm.Cond.methodLink "LinkTextLaw" (36 : Nat) ({ cls := "LinkTextModel", name := "number", desc := "(II)J" } : Jvm.MethodName)) ∈ k_tbl := List.mem_filter.mpr ⟨List.mem_append_right _ (List.mem_append_right _ (List.mem_append_right _ (List.mem_append_right _ (List.mem_of_getElem? (i := 6) rfl)))), rfl⟩
theorem kw_729 : (Jvm.Cond.code ({ cls := "LinkTextModel", name := "number", desc := "(II)J" } : Jvm.MethodName) prog_8_method_34_code (3 : Nat) (Option.some Jvm.ClassFile.FieldType.long)) ∈ k_tbl := List.mem_filter.mpr ⟨List.mem_append_right _ (List.mem_append_right _ (List.mem_append_right _ (List.mem_append_right _ (List.mem_of_getElem? (i := 9) rfl)))), rfl⟩
theorem kw_727 : (Jvm.Cond.instanceMethod ({ cls := "LinkTextModel", name := "number", desc := "(II)J" } : Jvm.MethodName)) ∈ k_tbl := List.mem_filter.mpr ⟨List.mem_append_right _ (List.mem_append_right _ (List.mem_append_right _ (List.mem_append_right _ (List.mem_of_getElem? (i := 7) rfl)))), rfl⟩
theorem kw_728 : (Jvm.Cond.selects "LinkTextModel" ({ cls := "LinkTextModel", name := "number", desc := "(II)J" } : Jvm.MethodName) ({ cls := "LinkTextModel", name := "number", desc := "(II)J" } : Jvm.MethodName)) ∈ k_tbl := List.mem_filter.mpr ⟨List.mem_append_right _ (List.mem_append_right _ (List.mem_append_right _ (List.mem_append_right _ (List.mem_of_getElem? (i := 8) rfl)))), rfl⟩
theorem kw_418 : (Jvm.Cond.methodLink "LinkTextLaw" (37 : Nat) ({ cls := "LinkText", name := "print", desc := "(I)I" } : Jvm.MethodName)) ∈ k_tbl := List.mem_filter.mpr ⟨List.mem_append_right _ (List.mem_append_right _ (List.mem_append_left _ (List.mem_of_getElem? (i := 178) rfl))), rfl⟩
theorem kw_421 : (Jvm.Cond.code ({ cls := "LinkText", name := "print", desc := "(I)I" } : Jvm.MethodName) prog_1_method_8_code (3 : Nat) (Option.some Jvm.ClassFile.FieldType.int)) ∈ k_tbl := List.mem_filter.mpr ⟨List.mem_append_right _ (List.mem_append_right _ (List.mem_append_left _ (List.mem_of_getElem? (i := 181) rfl))), rfl⟩
theorem kw_419 : (Jvm.Cond.instanceMethod ({ cls := "LinkText", name := "print", desc := "(I)I" } : Jvm.MethodName)) ∈ k_tbl := List.mem_filter.mpr ⟨List.mem_append_right _ (List.mem_append_right _ (List.mem_append_left _ (List.mem_of_getElem? (i := 179) rfl))), rfl⟩
theorem kw_420 : (Jvm.Cond.selects "LinkText" ({ cls := "LinkText", name := "print", desc := "(I)I" } : Jvm.MethodName) ({ cls := "LinkText", name := "print", desc := "(I)I" } : Jvm.MethodName)) ∈ k_tbl := List.mem_filter.mpr ⟨List.mem_append_right _ (List.mem_append_right _ (List.mem_append_left _ (List.mem_of_getElem? (i := 180) rfl))), rfl⟩
theorem kw_730 : (Jvm.Cond.methodLink "LinkTextLaw" (40 : Nat) ({ cls := "LinkTextModel", name := "print", desc := "(I)I" } : Jvm.MethodName)) ∈ k_tbl := List.mem_filter.mpr ⟨List.mem_append_right _ (List.mem_append_right _ (List.mem_append_right _ (List.mem_append_right _ (List.mem_of_getElem? (i := 10) rfl)))), rfl⟩
theorem kw_733 : (Jvm.Cond.code ({ cls := "LinkTextModel", name := "print", desc := "(I)I" } : Jvm.MethodName) prog_8_method_43_code (3 : Nat) (Option.some Jvm.ClassFile.FieldType.int)) ∈ k_tbl := List.mem_filter.mpr ⟨List.mem_append_right _ (List.mem_append_right _ (List.mem_append_right _ (List.mem_append_right _ (List.mem_of_getElem? (i := 13) rfl)))), rfl⟩
theorem kw_731 : (Jvm.Cond.instanceMethod ({ cls := "LinkTextModel", name := "print", desc := "(I)I" } : Jvm.MethodName)) ∈ k_tbl := List.mem_filter.mpr ⟨List.mem_append_right _ (List.mem_append_right _ (List.mem_append_right _ (List.mem_append_right _ (List.mem_of_getElem? (i := 11) rfl)))), rfl⟩
theorem kw_732 : (Jvm.Cond.selects "LinkTextModel" ({ cls := "LinkTextModel", name := "print", desc := "(I)I" } : Jvm.MethodName) ({ cls := "LinkTextModel", name := "print", desc := "(I)I" } : Jvm.MethodName)) ∈ k_tbl := List.mem_filter.mpr ⟨List.mem_append_right _ (List.mem_append_right _ (List.mem_append_right _ (List.mem_append_right _ (List.mem_of_getElem? (i := 12) rfl)))), rfl⟩
theorem kw_489 : (Jvm.Cond.methodLink "LinkTextLaw" (41 : Nat) ({ cls := "LinkText", name := "printed", desc := "(I)I" } : Jvm.MethodName)) ∈ k_tbl := List.mem_filter.mpr ⟨List.mem_append_right _ (List.mem_append_right _ (List.mem_append_right _ (List.mem_append_left _ (List.mem_of_getElem? (i := 9) rfl)))), rfl⟩
theorem kw_492 : (Jvm.Cond.code ({ cls := "LinkText", name := "printed", desc := "(I)I" } : Jvm.MethodName) prog_1_method_9_code (2 : Nat) (Option.some Jvm.ClassFile.FieldType.int)) ∈ k_tbl := List.mem_filter.mpr ⟨List.mem_append_right _ (List.mem_append_right _ (List.mem_append_right _ (List.mem_append_left _ (List.mem_of_getElem? (i := 12) rfl)))), rfl⟩
theorem kw_490 : (Jvm.Cond.instanceMethod ({ cls := "LinkText", name := "printed", desc := "(I)I" } : Jvm.MethodName)) ∈ k_tbl := List.mem_filter.mpr ⟨List.mem_append_right _ (List.mem_append_right _ (List.mem_append_right _ (List.mem_append_left _ (List.mem_of_getElem? (i := 10) rfl)))), rfl⟩
theorem kw_491 : (Jvm.Cond.selects "LinkText" ({ cls := "LinkText", name := "printed", desc := "(I)I" } : Jvm.MethodName) ({ cls := "LinkText", name := "printed", desc := "(I)I" } : Jvm.MethodName)) ∈ k_tbl := List.mem_filter.mpr ⟨List.mem_append_right _ (List.mem_append_right _ (List.mem_append_right _ (List.mem_append_left _ (List.mem_of_getElem? (i := 11) rfl)))), rfl⟩
theorem kw_767 : (Jvm.Cond.methodLink "LinkTextLaw" (44 : Nat) ({ cls := "LinkTextModel", name := "printed", desc := "(I)I" } : Jvm.MethodName)) ∈ k_tbl := List.mem_filter.mpr ⟨List.mem_append_right _ (List.mem_append_right _ (List.mem_append_right _ (List.mem_append_right _ (List.mem_of_getElem? (i := 47) rfl)))), rfl⟩
theorem kw_770 : (Jvm.Cond.code ({ cls := "LinkTextModel", name := "printed", desc := "(I)I" } : Jvm.MethodName) prog_8_method_44_code (2 : Nat) (Option.some Jvm.ClassFile.FieldType.int)) ∈ k_tbl := List.mem_filter.mpr ⟨List.mem_append_right _ (List.mem_append_right _ (List.mem_append_right _ (List.mem_append_right _ (List.mem_of_getElem? (i := 50) rfl)))), rfl⟩
theorem kw_768 : (Jvm.Cond.instanceMethod ({ cls := "LinkTextModel", name := "printed", desc := "(I)I" } : Jvm.MethodName)) ∈ k_tbl := List.mem_filter.mpr ⟨List.mem_append_right _ (List.mem_append_right _ (List.mem_append_right _ (List.mem_append_right _ (List.mem_of_getElem? (i := 48) rfl)))), rfl⟩
theorem kw_769 : (Jvm.Cond.selects "LinkTextModel" ({ cls := "LinkTextModel", name := "printed", desc := "(I)I" } : Jvm.MethodName) ({ cls := "LinkTextModel", name := "printed", desc := "(I)I" } : Jvm.MethodName)) ∈ k_tbl := List.mem_filter.mpr ⟨List.mem_append_right _ (List.mem_append_right _ (List.mem_append_right _ (List.mem_append_right _ (List.mem_of_getElem? (i := 49) rfl)))), rfl⟩
theorem kw_497 : (Jvm.Cond.methodLink "LinkTextLaw" (45 : Nat) ({ cls := "LinkText", name := "wipe", desc := "(Z)I" } : Jvm.MethodName)) ∈ k_tbl := List.mem_filter.mpr ⟨List.mem_append_right _ (List.mem_append_right _ (List.mem_append_right _ (List.mem_append_left _ (List.mem_of_getElem? (i := 17) rfl)))), rfl⟩
theorem kw_500 : (Jvm.Cond.code ({ cls := "LinkText", name := "wipe", desc := "(Z)I" } : Jvm.MethodName) prog_1_method_10_code (3 : Nat) (Option.some Jvm.ClassFile.FieldType.int)) ∈ k_tbl := List.mem_filter.mpr ⟨List.mem_append_right _ (List.mem_append_right _ (List.mem_append_right _ (List.mem_append_left _ (List.mem_of_getElem? (i := 20) rfl)))), rfl⟩
theorem kw_498 : (Jvm.Cond.instanceMethod ({ cls := "LinkText", name := "wipe", desc := "(Z)I" } : Jvm.MethodName)) ∈ k_tbl := List.mem_filter.mpr ⟨List.mem_append_right _ (List.mem_append_right _ (List.mem_append_right _ (List.mem_append_left _ (List.mem_of_getElem? (i := 18) rfl)))), rfl⟩
theorem kw_499 : (Jvm.Cond.selects "LinkText" ({ cls := "LinkText", name := "wipe", desc := "(Z)I" } : Jvm.MethodName) ({ cls := "LinkText", name := "wipe", desc := "(Z)I" } : Jvm.MethodName)) ∈ k_tbl := List.mem_filter.mpr ⟨List.mem_append_right _ (List.mem_append_right _ (List.mem_append_right _ (List.mem_append_left _ (List.mem_of_getElem? (i := 19) rfl)))), rfl⟩
theorem kw_771 : (Jvm.Cond.methodLink "LinkTextLaw" (49 : Nat) ({ cls := "LinkTextModel", name := "wipe", desc := "(Z)I" } : Jvm.MethodName)) ∈ k_tbl := List.mem_filter.mpr ⟨List.mem_append_right _ (List.mem_append_right _ (List.mem_append_right _ (List.mem_append_right _ (List.mem_of_getElem? (i := 51) rfl)))), rfl⟩
theorem kw_774 : (Jvm.Cond.code ({ cls := "LinkTextModel", name := "wipe", desc := "(Z)I" } : Jvm.MethodName) prog_8_method_45_code (4 : Nat) (Option.some Jvm.ClassFile.FieldType.int)) ∈ k_tbl := List.mem_filter.mpr ⟨List.mem_append_right _ (List.mem_append_right _ (List.mem_append_right _ (List.mem_append_right _ (List.mem_of_getElem? (i := 54) rfl)))), rfl⟩
theorem kw_772 : (Jvm.Cond.instanceMethod ({ cls := "LinkTextModel", name := "wipe", desc := "(Z)I" } : Jvm.MethodName)) ∈ k_tbl := List.mem_filter.mpr ⟨List.mem_append_right _ (List.mem_append_right _ (List.mem_append_right _ (List.mem_append_right _ (List.mem_of_getElem? (i := 52) rfl)))), rfl⟩
theorem kw_773 : (Jvm.Cond.selects "LinkTextModel" ({ cls := "LinkTextModel", name := "wipe", desc := "(Z)I" } : Jvm.MethodName) ({ cls := "LinkTextModel", name := "wipe", desc := "(Z)I" } : Jvm.MethodName)) ∈ k_tbl := List.mem_filter.mpr ⟨List.mem_append_right _ (List.mem_append_right _ (List.mem_append_right _ (List.mem_append_right _ (List.mem_of_getElem? (i := 53) rfl)))), rfl⟩
theorem kw_14 : (Jvm.Cond.classLink "LinkTextLaw" (7 : Nat) "LinkText") ∈ k_tbl := List.mem_filter.mpr ⟨List.mem_append_right _ (List.mem_append_left _ (List.mem_of_getElem? (i := 14) rfl)), rfl⟩
theorem kw_15 : (Jvm.Cond.instantiable "LinkText" (6 : Nat)) ∈ k_tbl := List.mem_filter.mpr ⟨List.mem_append_right _ (List.mem_append_left _ (List.mem_of_getElem? (i := 15) rfl)), rfl⟩
theorem kw_16 : (Jvm.Cond.methodLink "LinkTextLaw" (9 : Nat) ({ cls := "LinkText", name := "<init>", desc := "()V" } : Jvm.MethodName)) ∈ k_tbl := List.mem_filter.mpr ⟨List.mem_append_right _ (List.mem_append_left _ (List.mem_of_getElem? (i := 16) rfl)), rfl⟩
theorem kw_18 : (Jvm.Cond.code ({ cls := "LinkText", name := "<init>", desc := "()V" } : Jvm.MethodName) prog_1_method_1_code (1 : Nat) (Option.none : Option Jvm.ClassFile.FieldType)) ∈ k_tbl := List.mem_filter.mpr ⟨List.mem_append_right _ (List.mem_append_left _ (List.mem_of_getElem? (i := 18) rfl)), rfl⟩
theorem kw_17 : (Jvm.Cond.instanceMethod ({ cls := "LinkText", name := "<init>", desc := "()V" } : Jvm.MethodName)) ∈ k_tbl := List.mem_filter.mpr ⟨List.mem_append_right _ (List.mem_append_left _ (List.mem_of_getElem? (i := 17) rfl)), rfl⟩
theorem kw_509 : (Jvm.Cond.classLink "LinkTextLaw" (10 : Nat) "LinkTextModel") ∈ k_tbl := List.mem_filter.mpr ⟨List.mem_append_right _ (List.mem_append_right _ (List.mem_append_right _ (List.mem_append_left _ (List.mem_of_getElem? (i := 29) rfl)))), rfl⟩
theorem kw_510 : (Jvm.Cond.instantiable "LinkTextModel" (26 : Nat)) ∈ k_tbl := List.mem_filter.mpr ⟨List.mem_append_right _ (List.mem_append_right _ (List.mem_append_right _ (List.mem_append_left _ (List.mem_of_getElem? (i := 30) rfl)))), rfl⟩
theorem kw_511 : (Jvm.Cond.methodLink "LinkTextLaw" (12 : Nat) ({ cls := "LinkTextModel", name := "<init>", desc := "()V" } : Jvm.MethodName)) ∈ k_tbl := List.mem_filter.mpr ⟨List.mem_append_right _ (List.mem_append_right _ (List.mem_append_right _ (List.mem_append_left _ (List.mem_of_getElem? (i := 31) rfl)))), rfl⟩
theorem kw_513 : (Jvm.Cond.code ({ cls := "LinkTextModel", name := "<init>", desc := "()V" } : Jvm.MethodName) prog_8_method_1_code (1 : Nat) (Option.none : Option Jvm.ClassFile.FieldType)) ∈ k_tbl := List.mem_filter.mpr ⟨List.mem_append_right _ (List.mem_append_right _ (List.mem_append_right _ (List.mem_append_left _ (List.mem_of_getElem? (i := 33) rfl)))), rfl⟩
theorem kw_512 : (Jvm.Cond.instanceMethod ({ cls := "LinkTextModel", name := "<init>", desc := "()V" } : Jvm.MethodName)) ∈ k_tbl := List.mem_filter.mpr ⟨List.mem_append_right _ (List.mem_append_right _ (List.mem_append_right _ (List.mem_append_left _ (List.mem_of_getElem? (i := 32) rfl)))), rfl⟩
theorem dX0_add_0 : decode prog_2_method_2_code 0 = .ok (.aload_n 0, 1) := by decide +kernel
theorem dX0_add_1 : decode prog_2_method_2_code 1 = .ok (.getfield 15, 3) := by decide +kernel
theorem dX0_add_4 : decode prog_2_method_2_code 4 = .ok (.aload_n 0, 1) := by decide +kernel
theorem dX0_add_5 : decode prog_2_method_2_code 5 = .ok (.getfield 9, 3) := by decide +kernel
theorem dX0_add_8 : decode prog_2_method_2_code 8 = .ok (.arraylength, 1) := by decide +kernel
theorem dX0_add_9 : decode prog_2_method_2_code 9 = .ok (.if_icmp .lt 9, 3) := by decide +kernel
theorem dX0_add_18 : decode prog_2_method_2_code 18 = .ok (.aload_n 0, 1) := by decide +kernel
theorem dX0_add_19 : decode prog_2_method_2_code 19 = .ok (.getfield 9, 3) := by decide +kernel
theorem dX0_add_22 : decode prog_2_method_2_code 22 = .ok (.aload_n 0, 1) := by decide +kernel
theorem dX0_add_23 : decode prog_2_method_2_code 23 = .ok (.getfield 15, 3) := by decide +kernel
theorem dX0_add_26 : decode prog_2_method_2_code 26 = .ok (.iload_n 1, 1) := by decide +kernel
theorem dX0_add_27 : decode prog_2_method_2_code 27 = .ok (.i2b, 1) := by decide +kernel
theorem dX0_add_28 : decode prog_2_method_2_code 28 = .ok (.bastore, 1) := by decide +kernel
theorem dX0_add_29 : decode prog_2_method_2_code 29 = .ok (.aload_n 0, 1) := by decide +kernel
theorem dX0_add_30 : decode prog_2_method_2_code 30 = .ok (.dup, 1) := by decide +kernel
theorem dX0_add_31 : decode prog_2_method_2_code 31 = .ok (.getfield 15, 3) := by decide +kernel
theorem dX0_add_34 : decode prog_2_method_2_code 34 = .ok (.iconst 1, 1) := by decide +kernel
theorem dX0_add_35 : decode prog_2_method_2_code 35 = .ok (.iadd, 1) := by decide +kernel
theorem dX0_add_36 : decode prog_2_method_2_code 36 = .ok (.putfield 15, 3) := by decide +kernel
theorem dX0_add_39 : decode prog_2_method_2_code 39 = .ok (.return_, 1) := by decide +kernel
theorem dX0_add_12 : decode prog_2_method_2_code 12 = .ok (.aload_n 0, 1) := by decide +kernel
theorem dX0_add_13 : decode prog_2_method_2_code 13 = .ok (.iconst 1, 1) := by decide +kernel
theorem dX0_add_14 : decode prog_2_method_2_code 14 = .ok (.putfield 19, 3) := by decide +kernel
theorem dX0_add_17 : decode prog_2_method_2_code 17 = .ok (.return_, 1) := by decide +kernel
theorem dX0_cutTo_0 : decode prog_2_method_3_code 0 = .ok (.aload_n 0, 1) := by decide +kernel
theorem dX0_cutTo_1 : decode prog_2_method_3_code 1 = .ok (.iload_n 1, 1) := by decide +kernel
theorem dX0_cutTo_2 : decode prog_2_method_3_code 2 = .ok (.putfield 15, 3) := by decide +kernel
theorem dX0_cutTo_5 : decode prog_2_method_3_code 5 = .ok (.aload_n 0, 1) := by decide +kernel
theorem dX0_cutTo_6 : decode prog_2_method_3_code 6 = .ok (.iconst 0, 1) := by decide +kernel
theorem dX0_cutTo_7 : decode prog_2_method_3_code 7 = .ok (.putfield 19, 3) := by decide +kernel
theorem dX0_cutTo_10 : decode prog_2_method_3_code 10 = .ok (.return_, 1) := by decide +kernel
theorem dX0_byteAt_0 : decode prog_2_method_4_code 0 = .ok (.iload_n 1, 1) := by decide +kernel
theorem dX0_byteAt_1 : decode prog_2_method_4_code 1 = .ok (.ifCond .lt 11, 3) := by decide +kernel
theorem dX0_byteAt_12 : decode prog_2_method_4_code 12 = .ok (.iconst (-1), 1) := by decide +kernel
theorem dX0_byteAt_13 : decode prog_2_method_4_code 13 = .ok (.goto 13, 3) := by decide +kernel
theorem dX0_byteAt_26 : decode prog_2_method_4_code 26 = .ok (.ireturn, 1) := by decide +kernel
theorem dX0_byteAt_4 : decode prog_2_method_4_code 4 = .ok (.iload_n 1, 1) := by decide +kernel
theorem dX0_byteAt_5 : decode prog_2_method_4_code 5 = .ok (.aload_n 0, 1) := by decide +kernel
theorem dX0_byteAt_6 : decode prog_2_method_4_code 6 = .ok (.getfield 15, 3) := by decide +kernel
theorem dX0_byteAt_9 : decode prog_2_method_4_code 9 = .ok (.if_icmp .lt 7, 3) := by decide +kernel
theorem dX0_byteAt_16 : decode prog_2_method_4_code 16 = .ok (.aload_n 0, 1) := by decide +kernel
theorem dX0_byteAt_17 : decode prog_2_method_4_code 17 = .ok (.getfield 9, 3) := by decide +kernel
theorem dX0_byteAt_20 : decode prog_2_method_4_code 20 = .ok (.iload_n 1, 1) := by decide +kernel
theorem dX0_byteAt_21 : decode prog_2_method_4_code 21 = .ok (.baload, 1) := by decide +kernel
theorem dX0_byteAt_22 : decode prog_2_method_4_code 22 = .ok (.sipush 255, 3) := by decide +kernel
theorem dX0_byteAt_25 : decode prog_2_method_4_code 25 = .ok (.iand, 1) := by decide +kernel
theorem dX0_copy_0 : decode prog_2_method_5_code 0 = .ok (.aload_n 1, 1) := by decide +kernel
theorem dX0_copy_1 : decode prog_2_method_5_code 1 = .ok (.getfield 9, 3) := by decide +kernel
theorem dX0_copy_4 : decode prog_2_method_5_code 4 = .ok (.iconst 0, 1) := by decide +kernel
theorem dX0_copy_5 : decode prog_2_method_5_code 5 = .ok (.aload_n 0, 1) := by decide +kernel
theorem dX0_copy_6 : decode prog_2_method_5_code 6 = .ok (.getfield 9, 3) := by decide +kernel
theorem dX0_copy_9 : decode prog_2_method_5_code 9 = .ok (.iconst 0, 1) := by decide +kernel
theorem dX0_copy_10 : decode prog_2_method_5_code 10 = .ok (.aload_n 1, 1) := by decide +kernel
theorem dX0_copy_11 : decode prog_2_method_5_code 11 = .ok (.getfield 15, 3) := by decide +kernel
theorem dX0_copy_14 : decode prog_2_method_5_code 14 = .ok (.invokestatic 23, 3) := by decide +kernel
theorem dX0_copy_17 : decode prog_2_method_5_code 17 = .ok (.aload_n 0, 1) := by decide +kernel
theorem dX0_copy_18 : decode prog_2_method_5_code 18 = .ok (.aload_n 1, 1) := by decide +kernel
theorem dX0_copy_19 : decode prog_2_method_5_code 19 = .ok (.getfield 15, 3) := by decide +kernel
theorem dX0_copy_22 : decode prog_2_method_5_code 22 = .ok (.invokevirtual 29, 3) := by decide +kernel
theorem dX0_copy_25 : decode prog_2_method_5_code 25 = .ok (.return_, 1) := by decide +kernel
theorem dX1_clear_0 : decode prog_3_method_2_code 0 = .ok (.aload_n 0, 1) := by decide +kernel
theorem dX1_clear_1 : decode prog_3_method_2_code 1 = .ok (.iconst 0, 1) := by decide +kernel
theorem dX1_clear_2 : decode prog_3_method_2_code 2 = .ok (.putfield 28, 3) := by decide +kernel
theorem dX1_clear_5 : decode prog_3_method_2_code 5 = .ok (.aload_n 0, 1) := by decide +kernel
theorem dX1_clear_6 : decode prog_3_method_2_code 6 = .ok (.iconst 0, 1) := by decide +kernel
theorem dX1_clear_7 : decode prog_3_method_2_code 7 = .ok (.putfield 32, 3) := by decide +kernel
theorem dX1_clear_10 : decode prog_3_method_2_code 10 = .ok (.return_, 1) := by decide +kernel
theorem dX1_has_0 : decode prog_3_method_5_code 0 = .ok (.iload_n 1, 1) := by decide +kernel
theorem dX1_has_1 : decode prog_3_method_5_code 1 = .ok (.ifCond .lt 15, 3) := by decide +kernel
theorem dX1_has_16 : decode prog_3_method_5_code 16 = .ok (.iconst 0, 1) := by decide +kernel
theorem dX1_has_17 : decode prog_3_method_5_code 17 = .ok (.ireturn, 1) := by decide +kernel
theorem dX1_has_4 : decode prog_3_method_5_code 4 = .ok (.iload_n 1, 1) := by decide +kernel
theorem dX1_has_5 : decode prog_3_method_5_code 5 = .ok (.aload_n 0, 1) := by decide +kernel
theorem dX1_has_6 : decode prog_3_method_5_code 6 = .ok (.getfield 28, 3) := by decide +kernel
theorem dX1_has_9 : decode prog_3_method_5_code 9 = .ok (.if_icmp .ge 7, 3) := by decide +kernel
theorem dX1_has_12 : decode prog_3_method_5_code 12 = .ok (.iconst 1, 1) := by decide +kernel
theorem dX1_has_13 : decode prog_3_method_5_code 13 = .ok (.goto 4, 3) := by decide +kernel
theorem dX1_sizeOf_0 : decode prog_3_method_7_code 0 = .ok (.aload_n 0, 1) := by decide +kernel
theorem dX1_sizeOf_1 : decode prog_3_method_7_code 1 = .ok (.iload_n 1, 1) := by decide +kernel
theorem dX1_sizeOf_2 : decode prog_3_method_7_code 2 = .ok (.invokevirtual 35, 3) := by decide +kernel
theorem dX1_sizeOf_5 : decode prog_3_method_7_code 5 = .ok (.ifCond .eq 12, 3) := by decide +kernel
theorem dX1_sizeOf_17 : decode prog_3_method_7_code 17 = .ok (.iconst 0, 1) := by decide +kernel
theorem dX1_sizeOf_18 : decode prog_3_method_7_code 18 = .ok (.ireturn, 1) := by decide +kernel
theorem dX1_sizeOf_8 : decode prog_3_method_7_code 8 = .ok (.aload_n 0, 1) := by decide +kernel
theorem dX1_sizeOf_9 : decode prog_3_method_7_code 9 = .ok (.getfield 21, 3) := by decide +kernel
theorem dX1_sizeOf_12 : decode prog_3_method_7_code 12 = .ok (.iload_n 1, 1) := by decide +kernel
theorem dX1_sizeOf_13 : decode prog_3_method_7_code 13 = .ok (.iaload, 1) := by decide +kernel
theorem dX1_sizeOf_14 : decode prog_3_method_7_code 14 = .ok (.goto 4, 3) := by decide +kernel
theorem dX1_kindOf_0 : decode prog_3_method_6_code 0 = .ok (.aload_n 0, 1) := by decide +kernel
theorem dX1_kindOf_1 : decode prog_3_method_6_code 1 = .ok (.iload_n 1, 1) := by decide +kernel
theorem dX1_kindOf_2 : decode prog_3_method_6_code 2 = .ok (.invokevirtual 35, 3) := by decide +kernel
theorem dX1_kindOf_5 : decode prog_3_method_6_code 5 = .ok (.ifCond .eq 12, 3) := by decide +kernel
theorem dX1_kindOf_17 : decode prog_3_method_6_code 17 = .ok (.iconst 0, 1) := by decide +kernel
theorem dX1_kindOf_18 : decode prog_3_method_6_code 18 = .ok (.ireturn, 1) := by decide +kernel
theorem dX1_kindOf_8 : decode prog_3_method_6_code 8 = .ok (.aload_n 0, 1) := by decide +kernel
theorem dX1_kindOf_9 : decode prog_3_method_6_code 9 = .ok (.getfield 9, 3) := by decide +kernel
theorem dX1_kindOf_12 : decode prog_3_method_6_code 12 = .ok (.iload_n 1, 1) := by decide +kernel
theorem dX1_kindOf_13 : decode prog_3_method_6_code 13 = .ok (.iaload, 1) := by decide +kernel
theorem dX1_kindOf_14 : decode prog_3_method_6_code 14 = .ok (.goto 4, 3) := by decide +kernel
theorem dX1_placeOf_0 : decode prog_3_method_8_code 0 = .ok (.aload_n 0, 1) := by decide +kernel
theorem dX1_placeOf_1 : decode prog_3_method_8_code 1 = .ok (.iload_n 1, 1) := by decide +kernel
theorem dX1_placeOf_2 : decode prog_3_method_8_code 2 = .ok (.invokevirtual 35, 3) := by decide +kernel
theorem dX1_placeOf_5 : decode prog_3_method_8_code 5 = .ok (.ifCond .eq 12, 3) := by decide +kernel
theorem dX1_placeOf_17 : decode prog_3_method_8_code 17 = .ok (.iconst (-1), 1) := by decide +kernel
theorem dX1_placeOf_18 : decode prog_3_method_8_code 18 = .ok (.ireturn, 1) := by decide +kernel
theorem dX1_placeOf_8 : decode prog_3_method_8_code 8 = .ok (.aload_n 0, 1) := by decide +kernel
theorem dX1_placeOf_9 : decode prog_3_method_8_code 9 = .ok (.getfield 15, 3) := by decide +kernel
theorem dX1_placeOf_12 : decode prog_3_method_8_code 12 = .ok (.iload_n 1, 1) := by decide +kernel
theorem dX1_placeOf_13 : decode prog_3_method_8_code 13 = .ok (.iaload, 1) := by decide +kernel
theorem dX1_placeOf_14 : decode prog_3_method_8_code 14 = .ok (.goto 4, 3) := by decide +kernel
theorem dX1_storedAt_0 : decode prog_3_method_9_code 0 = .ok (.iload_n 2, 1) := by decide +kernel
theorem dX1_storedAt_1 : decode prog_3_method_9_code 1 = .ok (.ifCond .lt 12, 3) := by decide +kernel
theorem dX1_storedAt_13 : decode prog_3_method_9_code 13 = .ok (.lconst 0, 1) := by decide +kernel
theorem dX1_storedAt_14 : decode prog_3_method_9_code 14 = .ok (.lreturn, 1) := by decide +kernel
theorem dX1_storedAt_4 : decode prog_3_method_9_code 4 = .ok (.iload_n 2, 1) := by decide +kernel
theorem dX1_storedAt_5 : decode prog_3_method_9_code 5 = .ok (.aload_n 0, 1) := by decide +kernel
theorem dX1_storedAt_6 : decode prog_3_method_9_code 6 = .ok (.iload_n 1, 1) := by decide +kernel
theorem dX1_storedAt_7 : decode prog_3_method_9_code 7 = .ok (.invokevirtual 39, 3) := by decide +kernel
theorem dX1_storedAt_10 : decode prog_3_method_9_code 10 = .ok (.if_icmp .lt 5, 3) := by decide +kernel
theorem dX1_storedAt_15 : decode prog_3_method_9_code 15 = .ok (.aload_n 0, 1) := by decide +kernel
theorem dX1_storedAt_16 : decode prog_3_method_9_code 16 = .ok (.getfield 18, 3) := by decide +kernel
theorem dX1_storedAt_19 : decode prog_3_method_9_code 19 = .ok (.iload_n 1, 1) := by decide +kernel
theorem dX1_storedAt_20 : decode prog_3_method_9_code 20 = .ok (.iaload, 1) := by decide +kernel
theorem dX1_storedAt_21 : decode prog_3_method_9_code 21 = .ok (.iload_n 2, 1) := by decide +kernel
theorem dX1_storedAt_22 : decode prog_3_method_9_code 22 = .ok (.iadd, 1) := by decide +kernel
theorem dX1_storedAt_23 : decode prog_3_method_9_code 23 = .ok (.istore_n 3, 1) := by decide +kernel
theorem dX1_storedAt_24 : decode prog_3_method_9_code 24 = .ok (.iload_n 3, 1) := by decide +kernel
theorem dX1_storedAt_25 : decode prog_3_method_9_code 25 = .ok (.aload_n 0, 1) := by decide +kernel
theorem dX1_storedAt_26 : decode prog_3_method_9_code 26 = .ok (.getfield 24, 3) := by decide +kernel
theorem dX1_storedAt_29 : decode prog_3_method_9_code 29 = .ok (.arraylength, 1) := by decide +kernel
theorem dX1_storedAt_30 : decode prog_3_method_9_code 30 = .ok (.if_icmp .ge 12, 3) := by decide +kernel
theorem dX1_storedAt_42 : decode prog_3_method_9_code 42 = .ok (.lconst 0, 1) := by decide +kernel
theorem dX1_storedAt_43 : decode prog_3_method_9_code 43 = .ok (.lreturn, 1) := by decide +kernel
theorem dX1_storedAt_33 : decode prog_3_method_9_code 33 = .ok (.aload_n 0, 1) := by decide +kernel
theorem dX1_storedAt_34 : decode prog_3_method_9_code 34 = .ok (.getfield 24, 3) := by decide +kernel
theorem dX1_storedAt_37 : decode prog_3_method_9_code 37 = .ok (.iload_n 3, 1) := by decide +kernel
theorem dX1_storedAt_38 : decode prog_3_method_9_code 38 = .ok (.laload, 1) := by decide +kernel
theorem dX1_storedAt_39 : decode prog_3_method_9_code 39 = .ok (.goto 4, 3) := by decide +kernel
theorem dX2_begin_0 : decode prog_6_method_2_code 0 = .ok (.aload_n 0, 1) := by decide +kernel
theorem dX2_begin_1 : decode prog_6_method_2_code 1 = .ok (.iload_n 1, 1) := by decide +kernel
theorem dX2_begin_2 : decode prog_6_method_2_code 2 = .ok (.ifCond .lt 16, 3) := by decide +kernel
theorem dX2_begin_5 : decode prog_6_method_2_code 5 = .ok (.iload_n 1, 1) := by decide +kernel
theorem dX2_begin_6 : decode prog_6_method_2_code 6 = .ok (.aload_n 0, 1) := by decide +kernel
theorem dX2_begin_7 : decode prog_6_method_2_code 7 = .ok (.getfield 37, 3) := by decide +kernel
theorem dX2_begin_10 : decode prog_6_method_2_code 10 = .ok (.arraylength, 1) := by decide +kernel
theorem dX2_begin_11 : decode prog_6_method_2_code 11 = .ok (.if_icmp .gt 7, 3) := by decide +kernel
theorem dX2_begin_14 : decode prog_6_method_2_code 14 = .ok (.iload_n 1, 1) := by decide +kernel
theorem dX2_begin_15 : decode prog_6_method_2_code 15 = .ok (.goto 4, 3) := by decide +kernel
theorem dX2_begin_19 : decode prog_6_method_2_code 19 = .ok (.putfield 9, 3) := by decide +kernel
theorem dX2_begin_22 : decode prog_6_method_2_code 22 = .ok (.aload_n 0, 1) := by decide +kernel
theorem dX2_begin_23 : decode prog_6_method_2_code 23 = .ok (.iconst 0, 1) := by decide +kernel
theorem dX2_begin_24 : decode prog_6_method_2_code 24 = .ok (.putfield 15, 3) := by decide +kernel
theorem dX2_begin_27 : decode prog_6_method_2_code 27 = .ok (.aload_n 0, 1) := by decide +kernel
theorem dX2_begin_28 : decode prog_6_method_2_code 28 = .ok (.iconst 0, 1) := by decide +kernel
theorem dX2_begin_29 : decode prog_6_method_2_code 29 = .ok (.putfield 18, 3) := by decide +kernel
theorem dX2_begin_32 : decode prog_6_method_2_code 32 = .ok (.aload_n 0, 1) := by decide +kernel
theorem dX2_begin_33 : decode prog_6_method_2_code 33 = .ok (.iconst 0, 1) := by decide +kernel
theorem dX2_begin_34 : decode prog_6_method_2_code 34 = .ok (.putfield 21, 3) := by decide +kernel
theorem dX2_begin_37 : decode prog_6_method_2_code 37 = .ok (.aload_n 0, 1) := by decide +kernel
theorem dX2_begin_38 : decode prog_6_method_2_code 38 = .ok (.lconst 0, 1) := by decide +kernel
theorem dX2_begin_39 : decode prog_6_method_2_code 39 = .ok (.putfield 24, 3) := by decide +kernel
theorem dX2_begin_42 : decode prog_6_method_2_code 42 = .ok (.aload_n 0, 1) := by decide +kernel
theorem dX2_begin_43 : decode prog_6_method_2_code 43 = .ok (.iconst 0, 1) := by decide +kernel
theorem dX2_begin_44 : decode prog_6_method_2_code 44 = .ok (.putfield 28, 3) := by decide +kernel
theorem dX2_begin_47 : decode prog_6_method_2_code 47 = .ok (.return_, 1) := by decide +kernel
theorem dX2_begin_18 : decode prog_6_method_2_code 18 = .ok (.iconst 0, 1) := by decide +kernel
theorem dX2_isLineEnd_0 : decode prog_6_method_6_code 0 = .ok (.aload_n 0, 1) := by decide +kernel
theorem dX2_isLineEnd_1 : decode prog_6_method_6_code 1 = .ok (.getfield 15, 3) := by decide +kernel
theorem dX2_isLineEnd_4 : decode prog_6_method_6_code 4 = .ok (.ifCond .ne 7, 3) := by decide +kernel
theorem dX2_isLineEnd_11 : decode prog_6_method_6_code 11 = .ok (.iconst 0, 1) := by decide +kernel
theorem dX2_isLineEnd_12 : decode prog_6_method_6_code 12 = .ok (.ireturn, 1) := by decide +kernel
theorem dX2_isLineEnd_7 : decode prog_6_method_6_code 7 = .ok (.iconst 1, 1) := by decide +kernel
theorem dX2_isLineEnd_8 : decode prog_6_method_6_code 8 = .ok (.goto 4, 3) := by decide +kernel
theorem dX2_isTextEnd_0 : decode prog_6_method_7_code 0 = .ok (.aload_n 0, 1) := by decide +kernel
theorem dX2_isTextEnd_1 : decode prog_6_method_7_code 1 = .ok (.getfield 15, 3) := by decide +kernel
theorem dX2_isTextEnd_4 : decode prog_6_method_7_code 4 = .ok (.ifCond .ne 18, 3) := by decide +kernel
theorem dX2_isTextEnd_22 : decode prog_6_method_7_code 22 = .ok (.iconst 0, 1) := by decide +kernel
theorem dX2_isTextEnd_23 : decode prog_6_method_7_code 23 = .ok (.ireturn, 1) := by decide +kernel
theorem dX2_isTextEnd_7 : decode prog_6_method_7_code 7 = .ok (.aload_n 0, 1) := by decide +kernel
theorem dX2_isTextEnd_8 : decode prog_6_method_7_code 8 = .ok (.getfield 18, 3) := by decide +kernel
theorem dX2_isTextEnd_11 : decode prog_6_method_7_code 11 = .ok (.aload_n 0, 1) := by decide +kernel
theorem dX2_isTextEnd_12 : decode prog_6_method_7_code 12 = .ok (.getfield 9, 3) := by decide +kernel
theorem dX2_isTextEnd_15 : decode prog_6_method_7_code 15 = .ok (.if_icmp .lt 7, 3) := by decide +kernel
theorem dX2_isTextEnd_18 : decode prog_6_method_7_code 18 = .ok (.iconst 1, 1) := by decide +kernel
theorem dX2_isTextEnd_19 : decode prog_6_method_7_code 19 = .ok (.goto 4, 3) := by decide +kernel
theorem dX3_begin_0 : decode prog_5_method_2_code 0 = .ok (.aload_n 0, 1) := by decide +kernel
theorem dX3_begin_1 : decode prog_5_method_2_code 1 = .ok (.getfield 23, 3) := by decide +kernel
theorem dX3_begin_4 : decode prog_5_method_2_code 4 = .ok (.iload_n 1, 1) := by decide +kernel
theorem dX3_begin_5 : decode prog_5_method_2_code 5 = .ok (.invokevirtual 31, 3) := by decide +kernel
theorem dX3_begin_8 : decode prog_5_method_2_code 8 = .ok (.aload_n 0, 1) := by decide +kernel
theorem dX3_begin_9 : decode prog_5_method_2_code 9 = .ok (.getfield 27, 3) := by decide +kernel
theorem dX3_begin_12 : decode prog_5_method_2_code 12 = .ok (.invokevirtual 35, 3) := by decide +kernel
theorem dX3_begin_15 : decode prog_5_method_2_code 15 = .ok (.aload_n 0, 1) := by decide +kernel
theorem dX3_begin_16 : decode prog_5_method_2_code 16 = .ok (.iconst 0, 1) := by decide +kernel
theorem dX3_begin_17 : decode prog_5_method_2_code 17 = .ok (.putfield 9, 3) := by decide +kernel
theorem dX3_begin_20 : decode prog_5_method_2_code 20 = .ok (.aload_n 0, 1) := by decide +kernel
theorem dX3_begin_21 : decode prog_5_method_2_code 21 = .ok (.iconst (-1), 1) := by decide +kernel
theorem dX3_begin_22 : decode prog_5_method_2_code 22 = .ok (.putfield 15, 3) := by decide +kernel
theorem dX3_begin_25 : decode prog_5_method_2_code 25 = .ok (.return_, 1) := by decide +kernel
theorem dX3_findLine_0 : decode prog_5_method_3_code 0 = .ok (.aload_n 0, 1) := by decide +kernel
theorem dX3_findLine_1 : decode prog_5_method_3_code 1 = .ok (.getfield 9, 3) := by decide +kernel
theorem dX3_findLine_4 : decode prog_5_method_3_code 4 = .ok (.ifCond .eq 5, 3) := by decide +kernel
theorem dX3_findLine_9 : decode prog_5_method_3_code 9 = .ok (.iconst 0, 1) := by decide +kernel
theorem dX3_findLine_10 : decode prog_5_method_3_code 10 = .ok (.istore_n 1, 1) := by decide +kernel
theorem dX3_findLine_7 : decode prog_5_method_3_code 7 = .ok (.iconst 0, 1) := by decide +kernel
theorem dX3_findLine_8 : decode prog_5_method_3_code 8 = .ok (.ireturn, 1) := by decide +kernel
theorem dX3_findLine_11 : decode prog_5_method_3_code 11 = .ok (.iload_n 1, 1) := by decide +kernel
theorem dX3_findLine_12 : decode prog_5_method_3_code 12 = .ok (.sipush 4000, 3) := by decide +kernel
theorem dX3_findLine_15 : decode prog_5_method_3_code 15 = .ok (.if_icmp .gt 37, 3) := by decide +kernel
theorem dX3_findLine_18 : decode prog_5_method_3_code 18 = .ok (.aload_n 0, 1) := by decide +kernel
theorem dX3_findLine_19 : decode prog_5_method_3_code 19 = .ok (.getfield 23, 3) := by decide +kernel
theorem dX3_findLine_22 : decode prog_5_method_3_code 22 = .ok (.invokevirtual 40, 3) := by decide +kernel
theorem dX3_findLine_25 : decode prog_5_method_3_code 25 = .ok (.ifCond .eq 27, 3) := by decide +kernel
theorem dX3_findLine_28 : decode prog_5_method_3_code 28 = .ok (.aload_n 0, 1) := by decide +kernel
theorem dX3_findLine_29 : decode prog_5_method_3_code 29 = .ok (.getfield 23, 3) := by decide +kernel
theorem dX3_findLine_32 : decode prog_5_method_3_code 32 = .ok (.invokevirtual 44, 3) := by decide +kernel
theorem dX3_findLine_35 : decode prog_5_method_3_code 35 = .ok (.ifCond .ne 17, 3) := by decide +kernel
theorem dX3_findLine_38 : decode prog_5_method_3_code 38 = .ok (.aload_n 0, 1) := by decide +kernel
theorem dX3_findLine_39 : decode prog_5_method_3_code 39 = .ok (.getfield 23, 3) := by decide +kernel
theorem dX3_findLine_42 : decode prog_5_method_3_code 42 = .ok (.iconst 0, 1) := by decide +kernel
theorem dX3_findLine_43 : decode prog_5_method_3_code 43 = .ok (.invokevirtual 47, 3) := by decide +kernel
theorem dX3_findLine_52 : decode prog_5_method_3_code 52 = .ok (.aload_n 0, 1) := by decide +kernel
theorem dX3_findLine_53 : decode prog_5_method_3_code 53 = .ok (.getfield 23, 3) := by decide +kernel
theorem dX3_findLine_56 : decode prog_5_method_3_code 56 = .ok (.invokevirtual 40, 3) := by decide +kernel
theorem dX3_findLine_59 : decode prog_5_method_3_code 59 = .ok (.ifCond .ne 7, 3) := by decide +kernel
theorem dX3_findLine_66 : decode prog_5_method_3_code 66 = .ok (.iconst 0, 1) := by decide +kernel
theorem dX3_findLine_67 : decode prog_5_method_3_code 67 = .ok (.ireturn, 1) := by decide +kernel
theorem dX3_findLine_62 : decode prog_5_method_3_code 62 = .ok (.iconst 1, 1) := by decide +kernel
theorem dX3_findLine_63 : decode prog_5_method_3_code 63 = .ok (.goto 4, 3) := by decide +kernel
theorem dX5_valueOf_0 : decode prog_1_method_14_code 0 = .ok (.lload_n 0, 1) := by decide +kernel
theorem dX5_valueOf_1 : decode prog_1_method_14_code 1 = .ok (.ldc2_w 156, 3) := by decide +kernel
theorem dX5_valueOf_4 : decode prog_1_method_14_code 4 = .ok (.lcmp, 1) := by decide +kernel
theorem dX5_valueOf_5 : decode prog_1_method_14_code 5 = .ok (.ifCond .ne 7, 3) := by decide +kernel
theorem dX5_valueOf_12 : decode prog_1_method_14_code 12 = .ok (.lload_n 0, 1) := by decide +kernel
theorem dX5_valueOf_13 : decode prog_1_method_14_code 13 = .ok (.lreturn, 1) := by decide +kernel
theorem dX5_valueOf_8 : decode prog_1_method_14_code 8 = .ok (.lconst 0, 1) := by decide +kernel
theorem dX5_valueOf_9 : decode prog_1_method_14_code 9 = .ok (.goto 4, 3) := by decide +kernel
theorem dX5_feedFour_0 : decode prog_1_method_3_code 0 = .ok (.bipush 24, 2) := by decide +kernel
theorem dX5_feedFour_2 : decode prog_1_method_3_code 2 = .ok (.istore_n 2, 1) := by decide +kernel
theorem dX5_feedFour_3 : decode prog_1_method_3_code 3 = .ok (.iload_n 2, 1) := by decide +kernel
theorem dX5_feedFour_4 : decode prog_1_method_3_code 4 = .ok (.ifCond .lt 19, 3) := by decide +kernel
theorem dX5_feedFour_23 : decode prog_1_method_3_code 23 = .ok (.return_, 1) := by decide +kernel
theorem dX5_feedFour_7 : decode prog_1_method_3_code 7 = .ok (.aload_n 0, 1) := by decide +kernel
theorem dX5_feedFour_8 : decode prog_1_method_3_code 8 = .ok (.getfield 10, 3) := by decide +kernel
theorem dX5_feedFour_11 : decode prog_1_method_3_code 11 = .ok (.iload_n 1, 1) := by decide +kernel
theorem dX5_feedFour_12 : decode prog_1_method_3_code 12 = .ok (.iload_n 2, 1) := by decide +kernel
theorem dX5_feedFour_13 : decode prog_1_method_3_code 13 = .ok (.ishr, 1) := by decide +kernel
theorem dX5_feedFour_14 : decode prog_1_method_3_code 14 = .ok (.invokevirtual 54, 3) := by decide +kernel
theorem dX5_feedFour_17 : decode prog_1_method_3_code 17 = .ok (.iinc 2 (-8), 3) := by decide +kernel
theorem dX5_feedFour_20 : decode prog_1_method_3_code 20 = .ok (.goto (-17), 3) := by decide +kernel
theorem dX5_feed_0 : decode prog_1_method_2_code 0 = .ok (.aload_n 0, 1) := by decide +kernel
theorem dX5_feed_1 : decode prog_1_method_2_code 1 = .ok (.getfield 10, 3) := by decide +kernel
theorem dX5_feed_4 : decode prog_1_method_2_code 4 = .ok (.getfield 46, 3) := by decide +kernel
theorem dX5_feed_7 : decode prog_1_method_2_code 7 = .ok (.sipush 3980, 3) := by decide +kernel
theorem dX5_feed_10 : decode prog_1_method_2_code 10 = .ok (.if_icmp .le 5, 3) := by decide +kernel
theorem dX5_feed_15 : decode prog_1_method_2_code 15 = .ok (.aload_n 0, 1) := by decide +kernel
theorem dX5_feed_16 : decode prog_1_method_2_code 16 = .ok (.iload_n 1, 1) := by decide +kernel
theorem dX5_feed_17 : decode prog_1_method_2_code 17 = .ok (.invokevirtual 50, 3) := by decide +kernel
theorem dX5_feed_20 : decode prog_1_method_2_code 20 = .ok (.aload_n 0, 1) := by decide +kernel
theorem dX5_feed_21 : decode prog_1_method_2_code 21 = .ok (.iload_n 2, 1) := by decide +kernel
theorem dX5_feed_22 : decode prog_1_method_2_code 22 = .ok (.invokevirtual 50, 3) := by decide +kernel
theorem dX5_feed_25 : decode prog_1_method_2_code 25 = .ok (.aload_n 0, 1) := by decide +kernel
theorem dX5_feed_26 : decode prog_1_method_2_code 26 = .ok (.iload_n 3, 1) := by decide +kernel
theorem dX5_feed_27 : decode prog_1_method_2_code 27 = .ok (.invokevirtual 50, 3) := by decide +kernel
theorem dX5_feed_30 : decode prog_1_method_2_code 30 = .ok (.aload_n 0, 1) := by decide +kernel
theorem dX5_feed_31 : decode prog_1_method_2_code 31 = .ok (.iload 4, 2) := by decide +kernel
theorem dX5_feed_33 : decode prog_1_method_2_code 33 = .ok (.invokevirtual 50, 3) := by decide +kernel
theorem dX5_feed_36 : decode prog_1_method_2_code 36 = .ok (.aload_n 0, 1) := by decide +kernel
theorem dX5_feed_37 : decode prog_1_method_2_code 37 = .ok (.iload 5, 2) := by decide +kernel
theorem dX5_feed_39 : decode prog_1_method_2_code 39 = .ok (.invokevirtual 50, 3) := by decide +kernel
theorem dX5_feed_42 : decode prog_1_method_2_code 42 = .ok (.aload_n 0, 1) := by decide +kernel
theorem dX5_feed_43 : decode prog_1_method_2_code 43 = .ok (.getfield 10, 3) := by decide +kernel
theorem dX5_feed_46 : decode prog_1_method_2_code 46 = .ok (.getfield 46, 3) := by decide +kernel
theorem dX5_feed_49 : decode prog_1_method_2_code 49 = .ok (.ireturn, 1) := by decide +kernel
theorem dX5_feed_13 : decode prog_1_method_2_code 13 = .ok (.iconst (-1), 1) := by decide +kernel
theorem dX5_feed_14 : decode prog_1_method_2_code 14 = .ok (.ireturn, 1) := by decide +kernel
theorem dX5_read_0 : decode prog_1_method_4_code 0 = .ok (.iload_n 1, 1) := by decide +kernel
theorem dX5_read_1 : decode prog_1_method_4_code 1 = .ok (.ifCond .lt 14, 3) := by decide +kernel
theorem dX5_read_15 : decode prog_1_method_4_code 15 = .ok (.bipush (-2), 2) := by decide +kernel
theorem dX5_read_17 : decode prog_1_method_4_code 17 = .ok (.ireturn, 1) := by decide +kernel
theorem dX5_read_4 : decode prog_1_method_4_code 4 = .ok (.iload_n 1, 1) := by decide +kernel
theorem dX5_read_5 : decode prog_1_method_4_code 5 = .ok (.aload_n 0, 1) := by decide +kernel
theorem dX5_read_6 : decode prog_1_method_4_code 6 = .ok (.getfield 10, 3) := by decide +kernel
theorem dX5_read_9 : decode prog_1_method_4_code 9 = .ok (.getfield 46, 3) := by decide +kernel
theorem dX5_read_12 : decode prog_1_method_4_code 12 = .ok (.if_icmp .le 6, 3) := by decide +kernel
theorem dX5_read_18 : decode prog_1_method_4_code 18 = .ok (.aload_n 0, 1) := by decide +kernel
theorem dX5_read_19 : decode prog_1_method_4_code 19 = .ok (.iconst 1, 1) := by decide +kernel
theorem dX5_read_20 : decode prog_1_method_4_code 20 = .ok (.putfield 42, 3) := by decide +kernel
theorem dX5_read_23 : decode prog_1_method_4_code 23 = .ok (.aload_n 0, 1) := by decide +kernel
theorem dX5_read_24 : decode prog_1_method_4_code 24 = .ok (.getfield 31, 3) := by decide +kernel
theorem dX5_read_27 : decode prog_1_method_4_code 27 = .ok (.iload_n 1, 1) := by decide +kernel
theorem dX5_read_28 : decode prog_1_method_4_code 28 = .ok (.invokevirtual 57, 3) := by decide +kernel
theorem dX5_read_31 : decode prog_1_method_4_code 31 = .ok (.iconst 0, 1) := by decide +kernel
theorem dX5_read_32 : decode prog_1_method_4_code 32 = .ok (.istore_n 2, 1) := by decide +kernel
theorem dX5_read_33 : decode prog_1_method_4_code 33 = .ok (.iload_n 2, 1) := by decide +kernel
theorem dX5_read_34 : decode prog_1_method_4_code 34 = .ok (.bipush 64, 2) := by decide +kernel
theorem dX5_read_36 : decode prog_1_method_4_code 36 = .ok (.if_icmp .gt 26, 3) := by decide +kernel
theorem dX5_read_39 : decode prog_1_method_4_code 39 = .ok (.aload_n 0, 1) := by decide +kernel
theorem dX5_read_40 : decode prog_1_method_4_code 40 = .ok (.getfield 31, 3) := by decide +kernel
theorem dX5_read_43 : decode prog_1_method_4_code 43 = .ok (.invokevirtual 60, 3) := by decide +kernel
theorem dX5_read_46 : decode prog_1_method_4_code 46 = .ok (.ifCond .eq 16, 3) := by decide +kernel
theorem dX5_read_49 : decode prog_1_method_4_code 49 = .ok (.aload_n 0, 1) := by decide +kernel
theorem dX5_read_50 : decode prog_1_method_4_code 50 = .ok (.getfield 31, 3) := by decide +kernel
theorem dX5_read_53 : decode prog_1_method_4_code 53 = .ok (.invokevirtual 64, 3) := by decide +kernel
theorem dX5_read_62 : decode prog_1_method_4_code 62 = .ok (.aload_n 0, 1) := by decide +kernel
theorem dX5_read_63 : decode prog_1_method_4_code 63 = .ok (.getfield 10, 3) := by decide +kernel
theorem dX5_read_66 : decode prog_1_method_4_code 66 = .ok (.iconst 0, 1) := by decide +kernel
theorem dX5_read_67 : decode prog_1_method_4_code 67 = .ok (.invokevirtual 67, 3) := by decide +kernel
theorem dX5_read_70 : decode prog_1_method_4_code 70 = .ok (.aload_n 0, 1) := by decide +kernel
theorem dX5_read_71 : decode prog_1_method_4_code 71 = .ok (.getfield 31, 3) := by decide +kernel
theorem dX5_read_74 : decode prog_1_method_4_code 74 = .ok (.getfield 70, 3) := by decide +kernel
theorem dX5_read_77 : decode prog_1_method_4_code 77 = .ok (.ifCond .eq 12, 3) := by decide +kernel
theorem dX5_read_89 : decode prog_1_method_4_code 89 = .ok (.aload_n 0, 1) := by decide +kernel
theorem dX5_read_90 : decode prog_1_method_4_code 90 = .ok (.getfield 22, 3) := by decide +kernel
theorem dX5_read_93 : decode prog_1_method_4_code 93 = .ok (.getfield 76, 3) := by decide +kernel
theorem dX5_read_96 : decode prog_1_method_4_code 96 = .ok (.ireturn, 1) := by decide +kernel
theorem dX5_read_80 : decode prog_1_method_4_code 80 = .ok (.aload_n 0, 1) := by decide +kernel
theorem dX5_read_81 : decode prog_1_method_4_code 81 = .ok (.getfield 22, 3) := by decide +kernel
theorem dX5_read_84 : decode prog_1_method_4_code 84 = .ok (.invokevirtual 73, 3) := by decide +kernel
theorem dX5_read_87 : decode prog_1_method_4_code 87 = .ok (.iconst (-1), 1) := by decide +kernel
theorem dX5_read_88 : decode prog_1_method_4_code 88 = .ok (.ireturn, 1) := by decide +kernel
theorem dX5_fault_0 : decode prog_1_method_5_code 0 = .ok (.aload_n 0, 1) := by decide +kernel
theorem dX5_fault_1 : decode prog_1_method_5_code 1 = .ok (.getfield 42, 3) := by decide +kernel
theorem dX5_fault_4 : decode prog_1_method_5_code 4 = .ok (.ifCond .ne 5, 3) := by decide +kernel
theorem dX5_fault_9 : decode prog_1_method_5_code 9 = .ok (.iload_n 1, 1) := by decide +kernel
theorem dX5_fault_10 : decode prog_1_method_5_code 10 = .ok (.lookupswitch 42 #[(0, 26), (1, 34)], 26) := by decide +kernel
theorem dX5_fault_36 : decode prog_1_method_5_code 36 = .ok (.aload_n 0, 1) := by decide +kernel
theorem dX5_fault_37 : decode prog_1_method_5_code 37 = .ok (.getfield 31, 3) := by decide +kernel
theorem dX5_fault_40 : decode prog_1_method_5_code 40 = .ok (.getfield 70, 3) := by decide +kernel
theorem dX5_fault_43 : decode prog_1_method_5_code 43 = .ok (.ireturn, 1) := by decide +kernel
theorem dX5_fault_44 : decode prog_1_method_5_code 44 = .ok (.aload_n 0, 1) := by decide +kernel
theorem dX5_fault_45 : decode prog_1_method_5_code 45 = .ok (.getfield 31, 3) := by decide +kernel
theorem dX5_fault_48 : decode prog_1_method_5_code 48 = .ok (.getfield 77, 3) := by decide +kernel
theorem dX5_fault_51 : decode prog_1_method_5_code 51 = .ok (.ireturn, 1) := by decide +kernel
theorem dX5_fault_52 : decode prog_1_method_5_code 52 = .ok (.iconst (-1), 1) := by decide +kernel
theorem dX5_fault_53 : decode prog_1_method_5_code 53 = .ok (.ireturn, 1) := by decide +kernel
theorem dX5_fault_7 : decode prog_1_method_5_code 7 = .ok (.iconst (-1), 1) := by decide +kernel
theorem dX5_fault_8 : decode prog_1_method_5_code 8 = .ok (.ireturn, 1) := by decide +kernel
theorem dX5_line_0 : decode prog_1_method_6_code 0 = .ok (.aload_n 0, 1) := by decide +kernel
theorem dX5_line_1 : decode prog_1_method_6_code 1 = .ok (.getfield 22, 3) := by decide +kernel
theorem dX5_line_4 : decode prog_1_method_6_code 4 = .ok (.iload_n 1, 1) := by decide +kernel
theorem dX5_line_5 : decode prog_1_method_6_code 5 = .ok (.invokevirtual 80, 3) := by decide +kernel
theorem dX5_line_8 : decode prog_1_method_6_code 8 = .ok (.ifCond .ne 5, 3) := by decide +kernel
theorem dX5_line_13 : decode prog_1_method_6_code 13 = .ok (.iload_n 2, 1) := by decide +kernel
theorem dX5_line_14 : decode prog_1_method_6_code 14 = .ok (.tableswitch 53 0 2 #[26, 35, 44], 26) := by decide +kernel
theorem dX5_line_40 : decode prog_1_method_6_code 40 = .ok (.aload_n 0, 1) := by decide +kernel
theorem dX5_line_41 : decode prog_1_method_6_code 41 = .ok (.getfield 22, 3) := by decide +kernel
theorem dX5_line_44 : decode prog_1_method_6_code 44 = .ok (.iload_n 1, 1) := by decide +kernel
theorem dX5_line_45 : decode prog_1_method_6_code 45 = .ok (.invokevirtual 84, 3) := by decide +kernel
theorem dX5_line_48 : decode prog_1_method_6_code 48 = .ok (.ireturn, 1) := by decide +kernel
theorem dX5_line_49 : decode prog_1_method_6_code 49 = .ok (.aload_n 0, 1) := by decide +kernel
theorem dX5_line_50 : decode prog_1_method_6_code 50 = .ok (.getfield 22, 3) := by decide +kernel
theorem dX5_line_53 : decode prog_1_method_6_code 53 = .ok (.iload_n 1, 1) := by decide +kernel
theorem dX5_line_54 : decode prog_1_method_6_code 54 = .ok (.invokevirtual 88, 3) := by decide +kernel
theorem dX5_line_57 : decode prog_1_method_6_code 57 = .ok (.ireturn, 1) := by decide +kernel
theorem dX5_line_58 : decode prog_1_method_6_code 58 = .ok (.aload_n 0, 1) := by decide +kernel
theorem dX5_line_59 : decode prog_1_method_6_code 59 = .ok (.getfield 22, 3) := by decide +kernel
theorem dX5_line_62 : decode prog_1_method_6_code 62 = .ok (.iload_n 1, 1) := by decide +kernel
theorem dX5_line_63 : decode prog_1_method_6_code 63 = .ok (.invokevirtual 91, 3) := by decide +kernel
theorem dX5_line_66 : decode prog_1_method_6_code 66 = .ok (.ireturn, 1) := by decide +kernel
theorem dX5_line_67 : decode prog_1_method_6_code 67 = .ok (.iconst (-1), 1) := by decide +kernel
theorem dX5_line_68 : decode prog_1_method_6_code 68 = .ok (.ireturn, 1) := by decide +kernel
theorem dX5_line_11 : decode prog_1_method_6_code 11 = .ok (.iconst (-1), 1) := by decide +kernel
theorem dX5_line_12 : decode prog_1_method_6_code 12 = .ok (.ireturn, 1) := by decide +kernel
theorem dX5_number_0 : decode prog_1_method_7_code 0 = .ok (.aload_n 0, 1) := by decide +kernel
theorem dX5_number_1 : decode prog_1_method_7_code 1 = .ok (.getfield 22, 3) := by decide +kernel
theorem dX5_number_4 : decode prog_1_method_7_code 4 = .ok (.iload_n 1, 1) := by decide +kernel
theorem dX5_number_5 : decode prog_1_method_7_code 5 = .ok (.iload_n 2, 1) := by decide +kernel
theorem dX5_number_6 : decode prog_1_method_7_code 6 = .ok (.invokevirtual 94, 3) := by decide +kernel
theorem dX5_number_9 : decode prog_1_method_7_code 9 = .ok (.invokestatic 98, 3) := by decide +kernel
theorem dX5_number_12 : decode prog_1_method_7_code 12 = .ok (.lreturn, 1) := by decide +kernel
theorem dX5_print_0 : decode prog_1_method_8_code 0 = .ok (.aload_n 0, 1) := by decide +kernel
theorem dX5_print_1 : decode prog_1_method_8_code 1 = .ok (.getfield 22, 3) := by decide +kernel
theorem dX5_print_4 : decode prog_1_method_8_code 4 = .ok (.iload_n 1, 1) := by decide +kernel
theorem dX5_print_5 : decode prog_1_method_8_code 5 = .ok (.invokevirtual 80, 3) := by decide +kernel
theorem dX5_print_8 : decode prog_1_method_8_code 8 = .ok (.ifCond .ne 5, 3) := by decide +kernel
theorem dX5_print_13 : decode prog_1_method_8_code 13 = .ok (.aload_n 0, 1) := by decide +kernel
theorem dX5_print_14 : decode prog_1_method_8_code 14 = .ok (.getfield 16, 3) := by decide +kernel
theorem dX5_print_17 : decode prog_1_method_8_code 17 = .ok (.getfield 46, 3) := by decide +kernel
theorem dX5_print_20 : decode prog_1_method_8_code 20 = .ok (.istore_n 2, 1) := by decide +kernel
theorem dX5_print_21 : decode prog_1_method_8_code 21 = .ok (.aload_n 0, 1) := by decide +kernel
theorem dX5_print_22 : decode prog_1_method_8_code 22 = .ok (.getfield 38, 3) := by decide +kernel
theorem dX5_print_25 : decode prog_1_method_8_code 25 = .ok (.iload_n 1, 1) := by decide +kernel
theorem dX5_print_26 : decode prog_1_method_8_code 26 = .ok (.invokevirtual 102, 3) := by decide +kernel
theorem dX5_print_11 : decode prog_1_method_8_code 11 = .ok (.iconst (-1), 1) := by decide +kernel
theorem dX5_print_12 : decode prog_1_method_8_code 12 = .ok (.ireturn, 1) := by decide +kernel
theorem dX5_printed_0 : decode prog_1_method_9_code 0 = .ok (.aload_n 0, 1) := by decide +kernel
theorem dX5_printed_1 : decode prog_1_method_9_code 1 = .ok (.getfield 16, 3) := by decide +kernel
theorem dX5_printed_4 : decode prog_1_method_9_code 4 = .ok (.iload_n 1, 1) := by decide +kernel
theorem dX5_printed_5 : decode prog_1_method_9_code 5 = .ok (.invokevirtual 108, 3) := by decide +kernel
theorem dX5_printed_8 : decode prog_1_method_9_code 8 = .ok (.ireturn, 1) := by decide +kernel
theorem dX5_wipe_0 : decode prog_1_method_10_code 0 = .ok (.aload_n 0, 1) := by decide +kernel
theorem dX5_wipe_1 : decode prog_1_method_10_code 1 = .ok (.getfield 16, 3) := by decide +kernel
theorem dX5_wipe_4 : decode prog_1_method_10_code 4 = .ok (.getfield 46, 3) := by decide +kernel
theorem dX5_wipe_7 : decode prog_1_method_10_code 7 = .ok (.istore_n 2, 1) := by decide +kernel
theorem dX5_wipe_8 : decode prog_1_method_10_code 8 = .ok (.iload_n 1, 1) := by decide +kernel
theorem dX5_wipe_9 : decode prog_1_method_10_code 9 = .ok (.ifCond .eq 14, 3) := by decide +kernel
theorem dX5_wipe_12 : decode prog_1_method_10_code 12 = .ok (.aload_n 0, 1) := by decide +kernel
theorem dX5_wipe_13 : decode prog_1_method_10_code 13 = .ok (.getfield 10, 3) := by decide +kernel
theorem dX5_wipe_16 : decode prog_1_method_10_code 16 = .ok (.aload_n 0, 1) := by decide +kernel
theorem dX5_wipe_17 : decode prog_1_method_10_code 17 = .ok (.getfield 16, 3) := by decide +kernel
theorem dX5_wipe_20 : decode prog_1_method_10_code 20 = .ok (.invokevirtual 111, 3) := by decide +kernel
theorem dX5_wipe_23 : decode prog_1_method_10_code 23 = .ok (.aload_n 0, 1) := by decide +kernel
theorem dX5_wipe_24 : decode prog_1_method_10_code 24 = .ok (.getfield 16, 3) := by decide +kernel
theorem dX5_wipe_27 : decode prog_1_method_10_code 27 = .ok (.iconst 0, 1) := by decide +kernel
theorem dX5_wipe_28 : decode prog_1_method_10_code 28 = .ok (.invokevirtual 67, 3) := by decide +kernel
theorem dX5_wipe_31 : decode prog_1_method_10_code 31 = .ok (.iload_n 2, 1) := by decide +kernel
theorem dX5_wipe_32 : decode prog_1_method_10_code 32 = .ok (.ireturn, 1) := by decide +kernel
theorem dX6_put_0 : decode prog_8_method_4_code 0 = .ok (.bipush 24, 2) := by decide +kernel
theorem dX6_put_2 : decode prog_8_method_4_code 2 = .ok (.istore_n 2, 1) := by decide +kernel
theorem dX6_put_3 : decode prog_8_method_4_code 3 = .ok (.iload_n 2, 1) := by decide +kernel
theorem dX6_put_4 : decode prog_8_method_4_code 4 = .ok (.ifCond .lt 35, 3) := by decide +kernel
theorem dX6_put_39 : decode prog_8_method_4_code 39 = .ok (.return_, 1) := by decide +kernel
theorem dX6_put_7 : decode prog_8_method_4_code 7 = .ok (.aload_n 0, 1) := by decide +kernel
theorem dX6_put_8 : decode prog_8_method_4_code 8 = .ok (.getfield 7, 3) := by decide +kernel
theorem dX6_put_11 : decode prog_8_method_4_code 11 = .ok (.aload_n 0, 1) := by decide +kernel
theorem dX6_put_12 : decode prog_8_method_4_code 12 = .ok (.getfield 48, 3) := by decide +kernel
theorem dX6_put_15 : decode prog_8_method_4_code 15 = .ok (.iload_n 1, 1) := by decide +kernel
theorem dX6_put_16 : decode prog_8_method_4_code 16 = .ok (.iload_n 2, 1) := by decide +kernel
theorem dX6_put_17 : decode prog_8_method_4_code 17 = .ok (.ishr, 1) := by decide +kernel
theorem dX6_put_18 : decode prog_8_method_4_code 18 = .ok (.sipush 255, 3) := by decide +kernel
theorem dX6_put_21 : decode prog_8_method_4_code 21 = .ok (.iand, 1) := by decide +kernel
theorem dX6_put_22 : decode prog_8_method_4_code 22 = .ok (.iastore, 1) := by decide +kernel
theorem dX6_put_23 : decode prog_8_method_4_code 23 = .ok (.aload_n 0, 1) := by decide +kernel
theorem dX6_put_24 : decode prog_8_method_4_code 24 = .ok (.dup, 1) := by decide +kernel
theorem dX6_put_25 : decode prog_8_method_4_code 25 = .ok (.getfield 48, 3) := by decide +kernel
theorem dX6_put_28 : decode prog_8_method_4_code 28 = .ok (.iconst 1, 1) := by decide +kernel
theorem dX6_put_29 : decode prog_8_method_4_code 29 = .ok (.iadd, 1) := by decide +kernel
theorem dX6_put_30 : decode prog_8_method_4_code 30 = .ok (.putfield 48, 3) := by decide +kernel
theorem dX6_put_33 : decode prog_8_method_4_code 33 = .ok (.iinc 2 (-8), 3) := by decide +kernel
theorem dX6_put_36 : decode prog_8_method_4_code 36 = .ok (.goto (-33), 3) := by decide +kernel
theorem dX6_feed_0 : decode prog_8_method_3_code 0 = .ok (.aload_n 0, 1) := by decide +kernel
theorem dX6_feed_1 : decode prog_8_method_3_code 1 = .ok (.getfield 48, 3) := by decide +kernel
theorem dX6_feed_4 : decode prog_8_method_3_code 4 = .ok (.bipush 20, 2) := by decide +kernel
theorem dX6_feed_6 : decode prog_8_method_3_code 6 = .ok (.iadd, 1) := by decide +kernel
theorem dX6_feed_7 : decode prog_8_method_3_code 7 = .ok (.sipush 4000, 3) := by decide +kernel
theorem dX6_feed_10 : decode prog_8_method_3_code 10 = .ok (.if_icmp .le 5, 3) := by decide +kernel
theorem dX6_feed_15 : decode prog_8_method_3_code 15 = .ok (.aload_n 0, 1) := by decide +kernel
theorem dX6_feed_16 : decode prog_8_method_3_code 16 = .ok (.iload_n 1, 1) := by decide +kernel
theorem dX6_feed_17 : decode prog_8_method_3_code 17 = .ok (.invokevirtual 51, 3) := by decide +kernel
theorem dX6_feed_20 : decode prog_8_method_3_code 20 = .ok (.aload_n 0, 1) := by decide +kernel
theorem dX6_feed_21 : decode prog_8_method_3_code 21 = .ok (.iload_n 2, 1) := by decide +kernel
theorem dX6_feed_22 : decode prog_8_method_3_code 22 = .ok (.invokevirtual 51, 3) := by decide +kernel
theorem dX6_feed_25 : decode prog_8_method_3_code 25 = .ok (.aload_n 0, 1) := by decide +kernel
theorem dX6_feed_26 : decode prog_8_method_3_code 26 = .ok (.iload_n 3, 1) := by decide +kernel
theorem dX6_feed_27 : decode prog_8_method_3_code 27 = .ok (.invokevirtual 51, 3) := by decide +kernel
theorem dX6_feed_30 : decode prog_8_method_3_code 30 = .ok (.aload_n 0, 1) := by decide +kernel
theorem dX6_feed_31 : decode prog_8_method_3_code 31 = .ok (.iload 4, 2) := by decide +kernel
theorem dX6_feed_33 : decode prog_8_method_3_code 33 = .ok (.invokevirtual 51, 3) := by decide +kernel
theorem dX6_feed_36 : decode prog_8_method_3_code 36 = .ok (.aload_n 0, 1) := by decide +kernel
theorem dX6_feed_37 : decode prog_8_method_3_code 37 = .ok (.iload 5, 2) := by decide +kernel
theorem dX6_feed_39 : decode prog_8_method_3_code 39 = .ok (.invokevirtual 51, 3) := by decide +kernel
theorem dX6_feed_42 : decode prog_8_method_3_code 42 = .ok (.aload_n 0, 1) := by decide +kernel
theorem dX6_feed_43 : decode prog_8_method_3_code 43 = .ok (.getfield 48, 3) := by decide +kernel
theorem dX6_feed_46 : decode prog_8_method_3_code 46 = .ok (.ireturn, 1) := by decide +kernel
theorem dX6_feed_13 : decode prog_8_method_3_code 13 = .ok (.iconst (-1), 1) := by decide +kernel
theorem dX6_feed_14 : decode prog_8_method_3_code 14 = .ok (.ireturn, 1) := by decide +kernel
theorem dX6_isLine_0 : decode prog_8_method_32_code 0 = .ok (.iload_n 1, 1) := by decide +kernel
theorem dX6_isLine_1 : decode prog_8_method_32_code 1 = .ok (.ifCond .lt 15, 3) := by decide +kernel
theorem dX6_isLine_16 : decode prog_8_method_32_code 16 = .ok (.iconst 0, 1) := by decide +kernel
theorem dX6_isLine_17 : decode prog_8_method_32_code 17 = .ok (.ireturn, 1) := by decide +kernel
theorem dX6_isLine_4 : decode prog_8_method_32_code 4 = .ok (.iload_n 1, 1) := by decide +kernel
theorem dX6_isLine_5 : decode prog_8_method_32_code 5 = .ok (.aload_n 0, 1) := by decide +kernel
theorem dX6_isLine_6 : decode prog_8_method_32_code 6 = .ok (.getfield 90, 3) := by decide +kernel
theorem dX6_isLine_9 : decode prog_8_method_32_code 9 = .ok (.if_icmp .ge 7, 3) := by decide +kernel
theorem dX6_isLine_12 : decode prog_8_method_32_code 12 = .ok (.iconst 1, 1) := by decide +kernel
theorem dX6_isLine_13 : decode prog_8_method_32_code 13 = .ok (.goto 4, 3) := by decide +kernel
theorem dX6_stop_0 : decode prog_8_method_13_code 0 = .ok (.aload_n 0, 1) := by decide +kernel
theorem dX6_stop_1 : decode prog_8_method_13_code 1 = .ok (.getfield 13, 3) := by decide +kernel
theorem dX6_stop_4 : decode prog_8_method_13_code 4 = .ok (.ifCond .eq 4, 3) := by decide +kernel
theorem dX6_stop_8 : decode prog_8_method_13_code 8 = .ok (.aload_n 0, 1) := by decide +kernel
theorem dX6_stop_9 : decode prog_8_method_13_code 9 = .ok (.iload_n 1, 1) := by decide +kernel
theorem dX6_stop_10 : decode prog_8_method_13_code 10 = .ok (.putfield 13, 3) := by decide +kernel
theorem dX6_stop_13 : decode prog_8_method_13_code 13 = .ok (.aload_n 0, 1) := by decide +kernel
theorem dX6_stop_14 : decode prog_8_method_13_code 14 = .ok (.iload_n 2, 1) := by decide +kernel
theorem dX6_stop_15 : decode prog_8_method_13_code 15 = .ok (.putfield 17, 3) := by decide +kernel
theorem dX6_stop_18 : decode prog_8_method_13_code 18 = .ok (.return_, 1) := by decide +kernel
theorem dX6_stop_7 : decode prog_8_method_13_code 7 = .ok (.return_, 1) := by decide +kernel
theorem dX6_mayEnd_0 : decode prog_8_method_17_code 0 = .ok (.aload_n 0, 1) := by decide +kernel
theorem dX6_mayEnd_1 : decode prog_8_method_17_code 1 = .ok (.getfield 93, 3) := by decide +kernel
theorem dX6_mayEnd_4 : decode prog_8_method_17_code 4 = .ok (.iconst 1, 1) := by decide +kernel
theorem dX6_mayEnd_5 : decode prog_8_method_17_code 5 = .ok (.if_icmp .eq 57, 3) := by decide +kernel
theorem dX6_mayEnd_62 : decode prog_8_method_17_code 62 = .ok (.iconst 1, 1) := by decide +kernel
theorem dX6_mayEnd_63 : decode prog_8_method_17_code 63 = .ok (.goto 4, 3) := by decide +kernel
theorem dX6_mayEnd_67 : decode prog_8_method_17_code 67 = .ok (.ireturn, 1) := by decide +kernel
theorem dX6_mayEnd_8 : decode prog_8_method_17_code 8 = .ok (.aload_n 0, 1) := by decide +kernel
theorem dX6_mayEnd_9 : decode prog_8_method_17_code 9 = .ok (.getfield 93, 3) := by decide +kernel
theorem dX6_mayEnd_12 : decode prog_8_method_17_code 12 = .ok (.bipush 6, 2) := by decide +kernel
theorem dX6_mayEnd_14 : decode prog_8_method_17_code 14 = .ok (.if_icmp .eq 48, 3) := by decide +kernel
theorem dX6_mayEnd_17 : decode prog_8_method_17_code 17 = .ok (.aload_n 0, 1) := by decide +kernel
theorem dX6_mayEnd_18 : decode prog_8_method_17_code 18 = .ok (.getfield 93, 3) := by decide +kernel
theorem dX6_mayEnd_21 : decode prog_8_method_17_code 21 = .ok (.bipush 8, 2) := by decide +kernel
theorem dX6_mayEnd_23 : decode prog_8_method_17_code 23 = .ok (.if_icmp .eq 39, 3) := by decide +kernel
theorem dX6_mayEnd_26 : decode prog_8_method_17_code 26 = .ok (.aload_n 0, 1) := by decide +kernel
theorem dX6_mayEnd_27 : decode prog_8_method_17_code 27 = .ok (.getfield 93, 3) := by decide +kernel
theorem dX6_mayEnd_30 : decode prog_8_method_17_code 30 = .ok (.bipush 19, 2) := by decide +kernel
theorem dX6_mayEnd_32 : decode prog_8_method_17_code 32 = .ok (.if_icmp .eq 30, 3) := by decide +kernel
theorem dX6_mayEnd_35 : decode prog_8_method_17_code 35 = .ok (.aload_n 0, 1) := by decide +kernel
theorem dX6_mayEnd_36 : decode prog_8_method_17_code 36 = .ok (.getfield 93, 3) := by decide +kernel
theorem dX6_mayEnd_39 : decode prog_8_method_17_code 39 = .ok (.bipush 22, 2) := by decide +kernel
theorem dX6_mayEnd_41 : decode prog_8_method_17_code 41 = .ok (.if_icmp .eq 21, 3) := by decide +kernel
theorem dX6_mayEnd_44 : decode prog_8_method_17_code 44 = .ok (.aload_n 0, 1) := by decide +kernel
theorem dX6_mayEnd_45 : decode prog_8_method_17_code 45 = .ok (.getfield 93, 3) := by decide +kernel
theorem dX6_mayEnd_48 : decode prog_8_method_17_code 48 = .ok (.bipush 23, 2) := by decide +kernel
theorem dX6_mayEnd_50 : decode prog_8_method_17_code 50 = .ok (.if_icmp .eq 12, 3) := by decide +kernel
theorem dX6_mayEnd_53 : decode prog_8_method_17_code 53 = .ok (.aload_n 0, 1) := by decide +kernel
theorem dX6_mayEnd_54 : decode prog_8_method_17_code 54 = .ok (.getfield 93, 3) := by decide +kernel
theorem dX6_mayEnd_57 : decode prog_8_method_17_code 57 = .ok (.bipush 26, 2) := by decide +kernel
theorem dX6_mayEnd_59 : decode prog_8_method_17_code 59 = .ok (.if_icmp .ne 7, 3) := by decide +kernel
theorem dX6_mayEnd_66 : decode prog_8_method_17_code 66 = .ok (.iconst 0, 1) := by decide +kernel
theorem dX6_finish_0 : decode prog_8_method_18_code 0 = .ok (.aload_n 0, 1) := by decide +kernel
theorem dX6_finish_1 : decode prog_8_method_18_code 1 = .ok (.getfield 93, 3) := by decide +kernel
theorem dX6_finish_4 : decode prog_8_method_18_code 4 = .ok (.ifCond .ne 4, 3) := by decide +kernel
theorem dX6_finish_8 : decode prog_8_method_18_code 8 = .ok (.aload_n 0, 1) := by decide +kernel
theorem dX6_finish_9 : decode prog_8_method_18_code 9 = .ok (.invokevirtual 120, 3) := by decide +kernel
theorem dX6_finish_12 : decode prog_8_method_18_code 12 = .ok (.ifCond .ne 10, 3) := by decide +kernel
theorem dX6_finish_22 : decode prog_8_method_18_code 22 = .ok (.aload_n 0, 1) := by decide +kernel
theorem dX6_finish_23 : decode prog_8_method_18_code 23 = .ok (.getfield 20, 3) := by decide +kernel
theorem dX6_finish_26 : decode prog_8_method_18_code 26 = .ok (.aload_n 0, 1) := by decide +kernel
theorem dX6_finish_27 : decode prog_8_method_18_code 27 = .ok (.getfield 90, 3) := by decide +kernel
theorem dX6_finish_30 : decode prog_8_method_18_code 30 = .ok (.iaload, 1) := by decide +kernel
theorem dX6_finish_31 : decode prog_8_method_18_code 31 = .ok (.iconst 1, 1) := by decide +kernel
theorem dX6_finish_32 : decode prog_8_method_18_code 32 = .ok (.if_icmp .ne 16, 3) := by decide +kernel
theorem dX6_finish_35 : decode prog_8_method_18_code 35 = .ok (.aload_n 0, 1) := by decide +kernel
theorem dX6_finish_36 : decode prog_8_method_18_code 36 = .ok (.getfield 93, 3) := by decide +kernel
theorem dX6_finish_39 : decode prog_8_method_18_code 39 = .ok (.iconst 1, 1) := by decide +kernel
theorem dX6_finish_40 : decode prog_8_method_18_code 40 = .ok (.if_icmp .ne 8, 3) := by decide +kernel
theorem dX6_finish_43 : decode prog_8_method_18_code 43 = .ok (.aload_n 0, 1) := by decide +kernel
theorem dX6_finish_44 : decode prog_8_method_18_code 44 = .ok (.lconst 0, 1) := by decide +kernel
theorem dX6_finish_45 : decode prog_8_method_18_code 45 = .ok (.invokevirtual 123, 3) := by decide +kernel
theorem dX6_finish_15 : decode prog_8_method_18_code 15 = .ok (.aload_n 0, 1) := by decide +kernel
theorem dX6_finish_16 : decode prog_8_method_18_code 16 = .ok (.iconst 4, 1) := by decide +kernel
theorem dX6_finish_17 : decode prog_8_method_18_code 17 = .ok (.iload_n 1, 1) := by decide +kernel
theorem dX6_finish_18 : decode prog_8_method_18_code 18 = .ok (.invokevirtual 100, 3) := by decide +kernel
theorem dX6_finish_21 : decode prog_8_method_18_code 21 = .ok (.return_, 1) := by decide +kernel
theorem dX6_finish_7 : decode prog_8_method_18_code 7 = .ok (.return_, 1) := by decide +kernel
theorem dX6_finish_48 : decode prog_8_method_18_code 48 = .ok (.aload_n 0, 1) := by decide +kernel
theorem dX6_finish_49 : decode prog_8_method_18_code 49 = .ok (.getfield 93, 3) := by decide +kernel
theorem dX6_finish_52 : decode prog_8_method_18_code 52 = .ok (.bipush 22, 2) := by decide +kernel
theorem dX6_finish_54 : decode prog_8_method_18_code 54 = .ok (.if_icmp .eq 12, 3) := by decide +kernel
theorem dX6_finish_57 : decode prog_8_method_18_code 57 = .ok (.aload_n 0, 1) := by decide +kernel
theorem dX6_finish_58 : decode prog_8_method_18_code 58 = .ok (.getfield 93, 3) := by decide +kernel
theorem dX6_finish_61 : decode prog_8_method_18_code 61 = .ok (.bipush 23, 2) := by decide +kernel
theorem dX6_finish_63 : decode prog_8_method_18_code 63 = .ok (.if_icmp .ne 21, 3) := by decide +kernel
theorem dX6_finish_66 : decode prog_8_method_18_code 66 = .ok (.aload_n 0, 1) := by decide +kernel
theorem dX6_finish_67 : decode prog_8_method_18_code 67 = .ok (.aload_n 0, 1) := by decide +kernel
theorem dX6_finish_68 : decode prog_8_method_18_code 68 = .ok (.getfield 93, 3) := by decide +kernel
theorem dX6_finish_71 : decode prog_8_method_18_code 71 = .ok (.bipush 23, 2) := by decide +kernel
theorem dX6_finish_73 : decode prog_8_method_18_code 73 = .ok (.if_icmp .ne 7, 3) := by decide +kernel
theorem dX6_finish_80 : decode prog_8_method_18_code 80 = .ok (.iconst 0, 1) := by decide +kernel
theorem dX6_finish_76 : decode prog_8_method_18_code 76 = .ok (.iconst 1, 1) := by decide +kernel
theorem dX6_finish_77 : decode prog_8_method_18_code 77 = .ok (.goto 4, 3) := by decide +kernel
theorem dX6_finish_81 : decode prog_8_method_18_code 81 = .ok (.invokevirtual 127, 3) := by decide +kernel
theorem dX6_finish_84 : decode prog_8_method_18_code 84 = .ok (.aload_n 0, 1) := by decide +kernel
theorem dX6_finish_85 : decode prog_8_method_18_code 85 = .ok (.iconst 0, 1) := by decide +kernel
theorem dX6_finish_86 : decode prog_8_method_18_code 86 = .ok (.putfield 93, 3) := by decide +kernel
theorem dX6_finish_89 : decode prog_8_method_18_code 89 = .ok (.aload_n 0, 1) := by decide +kernel
theorem dX6_finish_90 : decode prog_8_method_18_code 90 = .ok (.dup, 1) := by decide +kernel
theorem dX6_finish_91 : decode prog_8_method_18_code 91 = .ok (.getfield 90, 3) := by decide +kernel
theorem dX6_finish_94 : decode prog_8_method_18_code 94 = .ok (.iconst 1, 1) := by decide +kernel
theorem dX6_finish_95 : decode prog_8_method_18_code 95 = .ok (.iadd, 1) := by decide +kernel
theorem dX6_finish_96 : decode prog_8_method_18_code 96 = .ok (.putfield 90, 3) := by decide +kernel
theorem dX6_finish_99 : decode prog_8_method_18_code 99 = .ok (.return_, 1) := by decide +kernel
theorem dX6_read_0 : decode prog_8_method_29_code 0 = .ok (.iload_n 1, 1) := by decide +kernel
theorem dX6_read_1 : decode prog_8_method_29_code 1 = .ok (.ifCond .lt 11, 3) := by decide +kernel
theorem dX6_read_12 : decode prog_8_method_29_code 12 = .ok (.bipush (-2), 2) := by decide +kernel
theorem dX6_read_14 : decode prog_8_method_29_code 14 = .ok (.ireturn, 1) := by decide +kernel
theorem dX6_read_4 : decode prog_8_method_29_code 4 = .ok (.iload_n 1, 1) := by decide +kernel
theorem dX6_read_5 : decode prog_8_method_29_code 5 = .ok (.aload_n 0, 1) := by decide +kernel
theorem dX6_read_6 : decode prog_8_method_29_code 6 = .ok (.getfield 48, 3) := by decide +kernel
theorem dX6_read_9 : decode prog_8_method_29_code 9 = .ok (.if_icmp .le 6, 3) := by decide +kernel
theorem dX6_read_15 : decode prog_8_method_29_code 15 = .ok (.aload_n 0, 1) := by decide +kernel
theorem dX6_read_16 : decode prog_8_method_29_code 16 = .ok (.iconst 0, 1) := by decide +kernel
theorem dX6_read_17 : decode prog_8_method_29_code 17 = .ok (.putfield 13, 3) := by decide +kernel
theorem dX6_read_20 : decode prog_8_method_29_code 20 = .ok (.aload_n 0, 1) := by decide +kernel
theorem dX6_read_21 : decode prog_8_method_29_code 21 = .ok (.iconst (-1), 1) := by decide +kernel
theorem dX6_read_22 : decode prog_8_method_29_code 22 = .ok (.putfield 17, 3) := by decide +kernel
theorem dX6_read_25 : decode prog_8_method_29_code 25 = .ok (.aload_n 0, 1) := by decide +kernel
theorem dX6_read_26 : decode prog_8_method_29_code 26 = .ok (.iconst 0, 1) := by decide +kernel
theorem dX6_read_27 : decode prog_8_method_29_code 27 = .ok (.putfield 90, 3) := by decide +kernel
theorem dX6_read_30 : decode prog_8_method_29_code 30 = .ok (.aload_n 0, 1) := by decide +kernel
theorem dX6_read_31 : decode prog_8_method_29_code 31 = .ok (.iconst 0, 1) := by decide +kernel
theorem dX6_read_32 : decode prog_8_method_29_code 32 = .ok (.putfield 87, 3) := by decide +kernel
theorem dX6_read_35 : decode prog_8_method_29_code 35 = .ok (.aload_n 0, 1) := by decide +kernel
theorem dX6_read_36 : decode prog_8_method_29_code 36 = .ok (.iconst 0, 1) := by decide +kernel
theorem dX6_read_37 : decode prog_8_method_29_code 37 = .ok (.putfield 93, 3) := by decide +kernel
theorem dX6_read_40 : decode prog_8_method_29_code 40 = .ok (.aload_n 0, 1) := by decide +kernel
theorem dX6_read_41 : decode prog_8_method_29_code 41 = .ok (.iconst 0, 1) := by decide +kernel
theorem dX6_read_42 : decode prog_8_method_29_code 42 = .ok (.putfield 170, 3) := by decide +kernel
theorem dX6_read_45 : decode prog_8_method_29_code 45 = .ok (.iconst 0, 1) := by decide +kernel
theorem dX6_read_46 : decode prog_8_method_29_code 46 = .ok (.istore_n 2, 1) := by decide +kernel
theorem dX6_read_47 : decode prog_8_method_29_code 47 = .ok (.aload_n 0, 1) := by decide +kernel
theorem dX6_read_48 : decode prog_8_method_29_code 48 = .ok (.getfield 170, 3) := by decide +kernel
theorem dX6_read_51 : decode prog_8_method_29_code 51 = .ok (.iload_n 1, 1) := by decide +kernel
theorem dX6_read_52 : decode prog_8_method_29_code 52 = .ok (.if_icmp .ge 121, 3) := by decide +kernel
theorem dX6_read_55 : decode prog_8_method_29_code 55 = .ok (.aload_n 0, 1) := by decide +kernel
theorem dX6_read_56 : decode prog_8_method_29_code 56 = .ok (.getfield 13, 3) := by decide +kernel
theorem dX6_read_59 : decode prog_8_method_29_code 59 = .ok (.ifCond .ne 114, 3) := by decide +kernel
theorem dX6_read_62 : decode prog_8_method_29_code 62 = .ok (.aload_n 0, 1) := by decide +kernel
theorem dX6_read_63 : decode prog_8_method_29_code 63 = .ok (.getfield 7, 3) := by decide +kernel
theorem dX6_read_66 : decode prog_8_method_29_code 66 = .ok (.aload_n 0, 1) := by decide +kernel
theorem dX6_read_67 : decode prog_8_method_29_code 67 = .ok (.getfield 170, 3) := by decide +kernel
theorem dX6_read_70 : decode prog_8_method_29_code 70 = .ok (.iaload, 1) := by decide +kernel
theorem dX6_read_71 : decode prog_8_method_29_code 71 = .ok (.istore_n 3, 1) := by decide +kernel
theorem dX6_read_72 : decode prog_8_method_29_code 72 = .ok (.aload_n 0, 1) := by decide +kernel
theorem dX6_read_73 : decode prog_8_method_29_code 73 = .ok (.aload_n 0, 1) := by decide +kernel
theorem dX6_read_74 : decode prog_8_method_29_code 74 = .ok (.getfield 170, 3) := by decide +kernel
theorem dX6_read_77 : decode prog_8_method_29_code 77 = .ok (.putfield 55, 3) := by decide +kernel
theorem dX6_read_80 : decode prog_8_method_29_code 80 = .ok (.aload_n 0, 1) := by decide +kernel
theorem dX6_read_81 : decode prog_8_method_29_code 81 = .ok (.dup, 1) := by decide +kernel
theorem dX6_read_82 : decode prog_8_method_29_code 82 = .ok (.getfield 170, 3) := by decide +kernel
theorem dX6_read_85 : decode prog_8_method_29_code 85 = .ok (.iconst 1, 1) := by decide +kernel
theorem dX6_read_86 : decode prog_8_method_29_code 86 = .ok (.iadd, 1) := by decide +kernel
theorem dX6_read_87 : decode prog_8_method_29_code 87 = .ok (.putfield 170, 3) := by decide +kernel
theorem dX6_read_90 : decode prog_8_method_29_code 90 = .ok (.iload_n 3, 1) := by decide +kernel
theorem dX6_read_91 : decode prog_8_method_29_code 91 = .ok (.bipush 10, 2) := by decide +kernel
theorem dX6_read_93 : decode prog_8_method_29_code 93 = .ok (.if_icmp .eq 27, 3) := by decide +kernel
theorem dX6_read_96 : decode prog_8_method_29_code 96 = .ok (.iload_n 3, 1) := by decide +kernel
theorem dX6_read_97 : decode prog_8_method_29_code 97 = .ok (.bipush 32, 2) := by decide +kernel
theorem dX6_read_99 : decode prog_8_method_29_code 99 = .ok (.if_icmp .lt 9, 3) := by decide +kernel
theorem dX6_read_102 : decode prog_8_method_29_code 102 = .ok (.iload_n 3, 1) := by decide +kernel
theorem dX6_read_103 : decode prog_8_method_29_code 103 = .ok (.bipush 126, 2) := by decide +kernel
theorem dX6_read_105 : decode prog_8_method_29_code 105 = .ok (.if_icmp .le 15, 3) := by decide +kernel
theorem dX6_read_108 : decode prog_8_method_29_code 108 = .ok (.aload_n 0, 1) := by decide +kernel
theorem dX6_read_109 : decode prog_8_method_29_code 109 = .ok (.iconst 1, 1) := by decide +kernel
theorem dX6_read_110 : decode prog_8_method_29_code 110 = .ok (.aload_n 0, 1) := by decide +kernel
theorem dX6_read_111 : decode prog_8_method_29_code 111 = .ok (.getfield 55, 3) := by decide +kernel
theorem dX6_read_114 : decode prog_8_method_29_code 114 = .ok (.invokevirtual 100, 3) := by decide +kernel
theorem dX6_read_117 : decode prog_8_method_29_code 117 = .ok (.goto 53, 3) := by decide +kernel
theorem dX6_read_170 : decode prog_8_method_29_code 170 = .ok (.goto (-123), 3) := by decide +kernel
theorem dX6_read_120 : decode prog_8_method_29_code 120 = .ok (.iload_n 3, 1) := by decide +kernel
theorem dX6_read_121 : decode prog_8_method_29_code 121 = .ok (.bipush 10, 2) := by decide +kernel
theorem dX6_read_123 : decode prog_8_method_29_code 123 = .ok (.if_icmp .ne 16, 3) := by decide +kernel
theorem dX6_read_139 : decode prog_8_method_29_code 139 = .ok (.iload_n 2, 1) := by decide +kernel
theorem dX6_read_140 : decode prog_8_method_29_code 140 = .ok (.ifCond .ne 14, 3) := by decide +kernel
theorem dX6_read_143 : decode prog_8_method_29_code 143 = .ok (.iload_n 3, 1) := by decide +kernel
theorem dX6_read_144 : decode prog_8_method_29_code 144 = .ok (.bipush 35, 2) := by decide +kernel
theorem dX6_read_146 : decode prog_8_method_29_code 146 = .ok (.if_icmp .ne 8, 3) := by decide +kernel
theorem dX6_read_149 : decode prog_8_method_29_code 149 = .ok (.iconst 1, 1) := by decide +kernel
theorem dX6_read_150 : decode prog_8_method_29_code 150 = .ok (.istore_n 2, 1) := by decide +kernel
theorem dX6_read_151 : decode prog_8_method_29_code 151 = .ok (.goto 19, 3) := by decide +kernel
theorem dX6_read_126 : decode prog_8_method_29_code 126 = .ok (.aload_n 0, 1) := by decide +kernel
theorem dX6_read_127 : decode prog_8_method_29_code 127 = .ok (.aload_n 0, 1) := by decide +kernel
theorem dX6_read_128 : decode prog_8_method_29_code 128 = .ok (.getfield 55, 3) := by decide +kernel
theorem dX6_read_131 : decode prog_8_method_29_code 131 = .ok (.invokevirtual 173, 3) := by decide +kernel
theorem dX6_read_134 : decode prog_8_method_29_code 134 = .ok (.iconst 0, 1) := by decide +kernel
theorem dX6_read_135 : decode prog_8_method_29_code 135 = .ok (.istore_n 2, 1) := by decide +kernel
theorem dX6_read_136 : decode prog_8_method_29_code 136 = .ok (.goto 34, 3) := by decide +kernel
theorem dX6_read_154 : decode prog_8_method_29_code 154 = .ok (.iload_n 2, 1) := by decide +kernel
theorem dX6_read_155 : decode prog_8_method_29_code 155 = .ok (.ifCond .ne 15, 3) := by decide +kernel
theorem dX6_read_158 : decode prog_8_method_29_code 158 = .ok (.iload_n 3, 1) := by decide +kernel
theorem dX6_read_159 : decode prog_8_method_29_code 159 = .ok (.bipush 32, 2) := by decide +kernel
theorem dX6_read_161 : decode prog_8_method_29_code 161 = .ok (.if_icmp .eq 9, 3) := by decide +kernel
theorem dX6_read_164 : decode prog_8_method_29_code 164 = .ok (.aload_n 0, 1) := by decide +kernel
theorem dX6_read_165 : decode prog_8_method_29_code 165 = .ok (.iload_n 3, 1) := by decide +kernel
theorem dX6_read_166 : decode prog_8_method_29_code 166 = .ok (.iload_n 1, 1) := by decide +kernel
theorem dX6_read_167 : decode prog_8_method_29_code 167 = .ok (.invokevirtual 176, 3) := by decide +kernel
theorem dX6_read_173 : decode prog_8_method_29_code 173 = .ok (.aload_n 0, 1) := by decide +kernel
theorem dX6_read_174 : decode prog_8_method_29_code 174 = .ok (.getfield 13, 3) := by decide +kernel
theorem dX6_read_177 : decode prog_8_method_29_code 177 = .ok (.ifCond .ne 8, 3) := by decide +kernel
theorem dX6_read_180 : decode prog_8_method_29_code 180 = .ok (.aload_n 0, 1) := by decide +kernel
theorem dX6_read_181 : decode prog_8_method_29_code 181 = .ok (.iload_n 1, 1) := by decide +kernel
theorem dX6_read_182 : decode prog_8_method_29_code 182 = .ok (.invokevirtual 173, 3) := by decide +kernel
theorem dX6_read_185 : decode prog_8_method_29_code 185 = .ok (.aload_n 0, 1) := by decide +kernel
theorem dX6_read_186 : decode prog_8_method_29_code 186 = .ok (.iconst 0, 1) := by decide +kernel
theorem dX6_read_187 : decode prog_8_method_29_code 187 = .ok (.putfield 48, 3) := by decide +kernel
theorem dX6_read_190 : decode prog_8_method_29_code 190 = .ok (.aload_n 0, 1) := by decide +kernel
theorem dX6_read_191 : decode prog_8_method_29_code 191 = .ok (.getfield 13, 3) := by decide +kernel
theorem dX6_read_194 : decode prog_8_method_29_code 194 = .ok (.ifCond .eq 8, 3) := by decide +kernel
theorem dX6_read_197 : decode prog_8_method_29_code 197 = .ok (.aload_n 0, 1) := by decide +kernel
theorem dX6_read_198 : decode prog_8_method_29_code 198 = .ok (.iconst 0, 1) := by decide +kernel
theorem dX6_read_199 : decode prog_8_method_29_code 199 = .ok (.putfield 90, 3) := by decide +kernel
theorem dX6_read_202 : decode prog_8_method_29_code 202 = .ok (.aload_n 0, 1) := by decide +kernel
theorem dX6_read_203 : decode prog_8_method_29_code 203 = .ok (.getfield 13, 3) := by decide +kernel
theorem dX6_read_206 : decode prog_8_method_29_code 206 = .ok (.ifCond .ne 10, 3) := by decide +kernel
theorem dX6_read_216 : decode prog_8_method_29_code 216 = .ok (.iconst (-1), 1) := by decide +kernel
theorem dX6_read_217 : decode prog_8_method_29_code 217 = .ok (.ireturn, 1) := by decide +kernel
theorem dX6_read_209 : decode prog_8_method_29_code 209 = .ok (.aload_n 0, 1) := by decide +kernel
theorem dX6_read_210 : decode prog_8_method_29_code 210 = .ok (.getfield 90, 3) := by decide +kernel
theorem dX6_read_213 : decode prog_8_method_29_code 213 = .ok (.goto 4, 3) := by decide +kernel
theorem dX6_fault_0 : decode prog_8_method_31_code 0 = .ok (.iload_n 1, 1) := by decide +kernel
theorem dX6_fault_1 : decode prog_8_method_31_code 1 = .ok (.ifCond .ne 10, 3) := by decide +kernel
theorem dX6_fault_11 : decode prog_8_method_31_code 11 = .ok (.iload_n 1, 1) := by decide +kernel
theorem dX6_fault_12 : decode prog_8_method_31_code 12 = .ok (.iconst 1, 1) := by decide +kernel
theorem dX6_fault_13 : decode prog_8_method_31_code 13 = .ok (.if_icmp .ne 17, 3) := by decide +kernel
theorem dX6_fault_30 : decode prog_8_method_31_code 30 = .ok (.iconst (-1), 1) := by decide +kernel
theorem dX6_fault_31 : decode prog_8_method_31_code 31 = .ok (.ireturn, 1) := by decide +kernel
theorem dX6_fault_16 : decode prog_8_method_31_code 16 = .ok (.aload_n 0, 1) := by decide +kernel
theorem dX6_fault_17 : decode prog_8_method_31_code 17 = .ok (.getfield 13, 3) := by decide +kernel
theorem dX6_fault_20 : decode prog_8_method_31_code 20 = .ok (.ifCond .le 10, 3) := by decide +kernel
theorem dX6_fault_23 : decode prog_8_method_31_code 23 = .ok (.aload_n 0, 1) := by decide +kernel
theorem dX6_fault_24 : decode prog_8_method_31_code 24 = .ok (.getfield 17, 3) := by decide +kernel
theorem dX6_fault_27 : decode prog_8_method_31_code 27 = .ok (.goto 4, 3) := by decide +kernel
theorem dX6_fault_4 : decode prog_8_method_31_code 4 = .ok (.aload_n 0, 1) := by decide +kernel
theorem dX6_fault_5 : decode prog_8_method_31_code 5 = .ok (.getfield 13, 3) := by decide +kernel
theorem dX6_fault_8 : decode prog_8_method_31_code 8 = .ok (.goto 23, 3) := by decide +kernel
theorem dX6_line_0 : decode prog_8_method_33_code 0 = .ok (.aload_n 0, 1) := by decide +kernel
theorem dX6_line_1 : decode prog_8_method_33_code 1 = .ok (.iload_n 1, 1) := by decide +kernel
theorem dX6_line_2 : decode prog_8_method_33_code 2 = .ok (.invokevirtual 195, 3) := by decide +kernel
theorem dX6_line_5 : decode prog_8_method_33_code 5 = .ok (.ifCond .ne 5, 3) := by decide +kernel
theorem dX6_line_10 : decode prog_8_method_33_code 10 = .ok (.iload_n 2, 1) := by decide +kernel
theorem dX6_line_11 : decode prog_8_method_33_code 11 = .ok (.ifCond .ne 12, 3) := by decide +kernel
theorem dX6_line_23 : decode prog_8_method_33_code 23 = .ok (.iload_n 2, 1) := by decide +kernel
theorem dX6_line_24 : decode prog_8_method_33_code 24 = .ok (.iconst 1, 1) := by decide +kernel
theorem dX6_line_25 : decode prog_8_method_33_code 25 = .ok (.if_icmp .ne 12, 3) := by decide +kernel
theorem dX6_line_37 : decode prog_8_method_33_code 37 = .ok (.iload_n 2, 1) := by decide +kernel
theorem dX6_line_38 : decode prog_8_method_33_code 38 = .ok (.iconst 2, 1) := by decide +kernel
theorem dX6_line_39 : decode prog_8_method_33_code 39 = .ok (.if_icmp .ne 12, 3) := by decide +kernel
theorem dX6_line_51 : decode prog_8_method_33_code 51 = .ok (.iconst (-1), 1) := by decide +kernel
theorem dX6_line_52 : decode prog_8_method_33_code 52 = .ok (.ireturn, 1) := by decide +kernel
theorem dX6_line_42 : decode prog_8_method_33_code 42 = .ok (.aload_n 0, 1) := by decide +kernel
theorem dX6_line_43 : decode prog_8_method_33_code 43 = .ok (.getfield 29, 3) := by decide +kernel
theorem dX6_line_46 : decode prog_8_method_33_code 46 = .ok (.iload_n 1, 1) := by decide +kernel
theorem dX6_line_47 : decode prog_8_method_33_code 47 = .ok (.iaload, 1) := by decide +kernel
theorem dX6_line_48 : decode prog_8_method_33_code 48 = .ok (.goto 4, 3) := by decide +kernel
theorem dX6_line_28 : decode prog_8_method_33_code 28 = .ok (.aload_n 0, 1) := by decide +kernel
theorem dX6_line_29 : decode prog_8_method_33_code 29 = .ok (.getfield 26, 3) := by decide +kernel
theorem dX6_line_32 : decode prog_8_method_33_code 32 = .ok (.iload_n 1, 1) := by decide +kernel
theorem dX6_line_33 : decode prog_8_method_33_code 33 = .ok (.iaload, 1) := by decide +kernel
theorem dX6_line_34 : decode prog_8_method_33_code 34 = .ok (.goto 18, 3) := by decide +kernel
theorem dX6_line_14 : decode prog_8_method_33_code 14 = .ok (.aload_n 0, 1) := by decide +kernel
theorem dX6_line_15 : decode prog_8_method_33_code 15 = .ok (.getfield 20, 3) := by decide +kernel
theorem dX6_line_18 : decode prog_8_method_33_code 18 = .ok (.iload_n 1, 1) := by decide +kernel
theorem dX6_line_19 : decode prog_8_method_33_code 19 = .ok (.iaload, 1) := by decide +kernel
theorem dX6_line_20 : decode prog_8_method_33_code 20 = .ok (.goto 32, 3) := by decide +kernel
theorem dX6_line_8 : decode prog_8_method_33_code 8 = .ok (.iconst (-1), 1) := by decide +kernel
theorem dX6_line_9 : decode prog_8_method_33_code 9 = .ok (.ireturn, 1) := by decide +kernel
theorem dX6_number1_0 : decode prog_8_method_34_code 0 = .ok (.aload_n 0, 1) := by decide +kernel
theorem dX6_number1_1 : decode prog_8_method_34_code 1 = .ok (.iload_n 1, 1) := by decide +kernel
theorem dX6_number1_2 : decode prog_8_method_34_code 2 = .ok (.invokevirtual 195, 3) := by decide +kernel
theorem dX6_number1_5 : decode prog_8_method_34_code 5 = .ok (.ifCond .eq 17, 3) := by decide +kernel
theorem dX6_number1_22 : decode prog_8_method_34_code 22 = .ok (.lconst 0, 1) := by decide +kernel
theorem dX6_number1_23 : decode prog_8_method_34_code 23 = .ok (.goto 16, 3) := by decide +kernel
theorem dX6_number1_39 : decode prog_8_method_34_code 39 = .ok (.lreturn, 1) := by decide +kernel
theorem dX6_number1_8 : decode prog_8_method_34_code 8 = .ok (.iload_n 2, 1) := by decide +kernel
theorem dX6_number1_9 : decode prog_8_method_34_code 9 = .ok (.ifCond .lt 13, 3) := by decide +kernel
theorem dX6_number1_12 : decode prog_8_method_34_code 12 = .ok (.iload_n 2, 1) := by decide +kernel
theorem dX6_number1_13 : decode prog_8_method_34_code 13 = .ok (.aload_n 0, 1) := by decide +kernel
theorem dX6_number1_14 : decode prog_8_method_34_code 14 = .ok (.getfield 26, 3) := by decide +kernel
theorem dX6_number1_17 : decode prog_8_method_34_code 17 = .ok (.iload_n 1, 1) := by decide +kernel
theorem dX6_number1_18 : decode prog_8_method_34_code 18 = .ok (.iaload, 1) := by decide +kernel
theorem dX6_number1_19 : decode prog_8_method_34_code 19 = .ok (.if_icmp .lt 7, 3) := by decide +kernel
theorem dX6_number1_26 : decode prog_8_method_34_code 26 = .ok (.aload_n 0, 1) := by decide +kernel
theorem dX6_number1_27 : decode prog_8_method_34_code 27 = .ok (.getfield 32, 3) := by decide +kernel
theorem dX6_number1_30 : decode prog_8_method_34_code 30 = .ok (.aload_n 0, 1) := by decide +kernel
theorem dX6_number1_31 : decode prog_8_method_34_code 31 = .ok (.getfield 23, 3) := by decide +kernel
theorem dX6_number1_34 : decode prog_8_method_34_code 34 = .ok (.iload_n 1, 1) := by decide +kernel
theorem dX6_number1_35 : decode prog_8_method_34_code 35 = .ok (.iaload, 1) := by decide +kernel
theorem dX6_number1_36 : decode prog_8_method_34_code 36 = .ok (.iload_n 2, 1) := by decide +kernel
theorem dX6_number1_37 : decode prog_8_method_34_code 37 = .ok (.iadd, 1) := by decide +kernel
theorem dX6_number1_38 : decode prog_8_method_34_code 38 = .ok (.laload, 1) := by decide +kernel
theorem dX6_print_0 : decode prog_8_method_43_code 0 = .ok (.aload_n 0, 1) := by decide +kernel
theorem dX6_print_1 : decode prog_8_method_43_code 1 = .ok (.iload_n 1, 1) := by decide +kernel
theorem dX6_print_2 : decode prog_8_method_43_code 2 = .ok (.invokevirtual 195, 3) := by decide +kernel
theorem dX6_print_5 : decode prog_8_method_43_code 5 = .ok (.ifCond .ne 5, 3) := by decide +kernel
theorem dX6_print_10 : decode prog_8_method_43_code 10 = .ok (.aload_n 0, 1) := by decide +kernel
theorem dX6_print_11 : decode prog_8_method_43_code 11 = .ok (.iconst 0, 1) := by decide +kernel
theorem dX6_print_12 : decode prog_8_method_43_code 12 = .ok (.putfield 205, 3) := by decide +kernel
theorem dX6_print_15 : decode prog_8_method_43_code 15 = .ok (.aload_n 0, 1) := by decide +kernel
theorem dX6_print_16 : decode prog_8_method_43_code 16 = .ok (.iconst 0, 1) := by decide +kernel
theorem dX6_print_17 : decode prog_8_method_43_code 17 = .ok (.putfield 198, 3) := by decide +kernel
theorem dX6_print_20 : decode prog_8_method_43_code 20 = .ok (.aload_n 0, 1) := by decide +kernel
theorem dX6_print_21 : decode prog_8_method_43_code 21 = .ok (.aload_n 0, 1) := by decide +kernel
theorem dX6_print_22 : decode prog_8_method_43_code 22 = .ok (.getfield 20, 3) := by decide +kernel
theorem dX6_print_25 : decode prog_8_method_43_code 25 = .ok (.iload_n 1, 1) := by decide +kernel
theorem dX6_print_26 : decode prog_8_method_43_code 26 = .ok (.iaload, 1) := by decide +kernel
theorem dX6_print_27 : decode prog_8_method_43_code 27 = .ok (.invokevirtual 224, 3) := by decide +kernel
theorem dX6_print_8 : decode prog_8_method_43_code 8 = .ok (.iconst (-1), 1) := by decide +kernel
theorem dX6_print_9 : decode prog_8_method_43_code 9 = .ok (.ireturn, 1) := by decide +kernel
theorem dX6_printed_0 : decode prog_8_method_44_code 0 = .ok (.iload_n 1, 1) := by decide +kernel
theorem dX6_printed_1 : decode prog_8_method_44_code 1 = .ok (.ifCond .lt 11, 3) := by decide +kernel
theorem dX6_printed_12 : decode prog_8_method_44_code 12 = .ok (.iconst (-1), 1) := by decide +kernel
theorem dX6_printed_13 : decode prog_8_method_44_code 13 = .ok (.goto 9, 3) := by decide +kernel
theorem dX6_printed_22 : decode prog_8_method_44_code 22 = .ok (.ireturn, 1) := by decide +kernel
theorem dX6_printed_4 : decode prog_8_method_44_code 4 = .ok (.iload_n 1, 1) := by decide +kernel
theorem dX6_printed_5 : decode prog_8_method_44_code 5 = .ok (.aload_n 0, 1) := by decide +kernel
theorem dX6_printed_6 : decode prog_8_method_44_code 6 = .ok (.getfield 202, 3) := by decide +kernel
theorem dX6_printed_9 : decode prog_8_method_44_code 9 = .ok (.if_icmp .lt 7, 3) := by decide +kernel
theorem dX6_printed_16 : decode prog_8_method_44_code 16 = .ok (.aload_n 0, 1) := by decide +kernel
theorem dX6_printed_17 : decode prog_8_method_44_code 17 = .ok (.getfield 36, 3) := by decide +kernel
theorem dX6_printed_20 : decode prog_8_method_44_code 20 = .ok (.iload_n 1, 1) := by decide +kernel
theorem dX6_printed_21 : decode prog_8_method_44_code 21 = .ok (.iaload, 1) := by decide +kernel
theorem dX6_wipe_0 : decode prog_8_method_45_code 0 = .ok (.aload_n 0, 1) := by decide +kernel
theorem dX6_wipe_1 : decode prog_8_method_45_code 1 = .ok (.getfield 202, 3) := by decide +kernel
theorem dX6_wipe_4 : decode prog_8_method_45_code 4 = .ok (.istore_n 2, 1) := by decide +kernel
theorem dX6_wipe_5 : decode prog_8_method_45_code 5 = .ok (.iload_n 1, 1) := by decide +kernel
theorem dX6_wipe_6 : decode prog_8_method_45_code 6 = .ok (.ifCond .eq 39, 3) := by decide +kernel
theorem dX6_wipe_9 : decode prog_8_method_45_code 9 = .ok (.iconst 0, 1) := by decide +kernel
theorem dX6_wipe_10 : decode prog_8_method_45_code 10 = .ok (.istore_n 3, 1) := by decide +kernel
theorem dX6_wipe_11 : decode prog_8_method_45_code 11 = .ok (.iload_n 3, 1) := by decide +kernel
theorem dX6_wipe_12 : decode prog_8_method_45_code 12 = .ok (.aload_n 0, 1) := by decide +kernel
theorem dX6_wipe_13 : decode prog_8_method_45_code 13 = .ok (.getfield 202, 3) := by decide +kernel
theorem dX6_wipe_16 : decode prog_8_method_45_code 16 = .ok (.if_icmp .ge 21, 3) := by decide +kernel
theorem dX6_wipe_19 : decode prog_8_method_45_code 19 = .ok (.aload_n 0, 1) := by decide +kernel
theorem dX6_wipe_20 : decode prog_8_method_45_code 20 = .ok (.getfield 7, 3) := by decide +kernel
theorem dX6_wipe_23 : decode prog_8_method_45_code 23 = .ok (.iload_n 3, 1) := by decide +kernel
theorem dX6_wipe_24 : decode prog_8_method_45_code 24 = .ok (.aload_n 0, 1) := by decide +kernel
theorem dX6_wipe_25 : decode prog_8_method_45_code 25 = .ok (.getfield 36, 3) := by decide +kernel
theorem dX6_wipe_28 : decode prog_8_method_45_code 28 = .ok (.iload_n 3, 1) := by decide +kernel
theorem dX6_wipe_29 : decode prog_8_method_45_code 29 = .ok (.iaload, 1) := by decide +kernel
theorem dX6_wipe_30 : decode prog_8_method_45_code 30 = .ok (.iastore, 1) := by decide +kernel
theorem dX6_wipe_31 : decode prog_8_method_45_code 31 = .ok (.iinc 3 1, 3) := by decide +kernel
theorem dX6_wipe_34 : decode prog_8_method_45_code 34 = .ok (.goto (-23), 3) := by decide +kernel
theorem dX6_wipe_37 : decode prog_8_method_45_code 37 = .ok (.aload_n 0, 1) := by decide +kernel
theorem dX6_wipe_38 : decode prog_8_method_45_code 38 = .ok (.aload_n 0, 1) := by decide +kernel
theorem dX6_wipe_39 : decode prog_8_method_45_code 39 = .ok (.getfield 202, 3) := by decide +kernel
theorem dX6_wipe_42 : decode prog_8_method_45_code 42 = .ok (.putfield 48, 3) := by decide +kernel
theorem dX6_wipe_45 : decode prog_8_method_45_code 45 = .ok (.aload_n 0, 1) := by decide +kernel
theorem dX6_wipe_46 : decode prog_8_method_45_code 46 = .ok (.iconst 0, 1) := by decide +kernel
theorem dX6_wipe_47 : decode prog_8_method_45_code 47 = .ok (.putfield 202, 3) := by decide +kernel
theorem dX6_wipe_50 : decode prog_8_method_45_code 50 = .ok (.iload_n 2, 1) := by decide +kernel
theorem dX6_wipe_51 : decode prog_8_method_45_code 51 = .ok (.ireturn, 1) := by decide +kernel
theorem dX0_init_0 : decode prog_2_method_1_code 0 = .ok (.aload_n 0, 1) := by decide +kernel
theorem dX0_init_1 : decode prog_2_method_1_code 1 = .ok (.invokespecial 3, 3) := by decide +kernel
theorem dX0_init_4 : decode prog_2_method_1_code 4 = .ok (.aload_n 0, 1) := by decide +kernel
theorem dX0_init_5 : decode prog_2_method_1_code 5 = .ok (.sipush 4000, 3) := by decide +kernel
theorem dX0_init_8 : decode prog_2_method_1_code 8 = .ok (.newarray .byte, 2) := by decide +kernel
theorem dX0_init_10 : decode prog_2_method_1_code 10 = .ok (.putfield 9, 3) := by decide +kernel
theorem dX0_init_13 : decode prog_2_method_1_code 13 = .ok (.aload_n 0, 1) := by decide +kernel
theorem dX0_init_14 : decode prog_2_method_1_code 14 = .ok (.iconst 0, 1) := by decide +kernel
theorem dX0_init_15 : decode prog_2_method_1_code 15 = .ok (.putfield 15, 3) := by decide +kernel
theorem dX0_init_18 : decode prog_2_method_1_code 18 = .ok (.aload_n 0, 1) := by decide +kernel
theorem dX0_init_19 : decode prog_2_method_1_code 19 = .ok (.iconst 0, 1) := by decide +kernel
theorem dX0_init_20 : decode prog_2_method_1_code 20 = .ok (.putfield 19, 3) := by decide +kernel
theorem dX0_init_23 : decode prog_2_method_1_code 23 = .ok (.return_, 1) := by decide +kernel
theorem dX1_init_0 : decode prog_3_method_1_code 0 = .ok (.aload_n 0, 1) := by decide +kernel
theorem dX1_init_1 : decode prog_3_method_1_code 1 = .ok (.invokespecial 3, 3) := by decide +kernel
theorem dX1_init_4 : decode prog_3_method_1_code 4 = .ok (.aload_n 0, 1) := by decide +kernel
theorem dX1_init_5 : decode prog_3_method_1_code 5 = .ok (.bipush 64, 2) := by decide +kernel
theorem dX1_init_7 : decode prog_3_method_1_code 7 = .ok (.newarray .int, 2) := by decide +kernel
theorem dX1_init_9 : decode prog_3_method_1_code 9 = .ok (.putfield 9, 3) := by decide +kernel
theorem dX1_init_12 : decode prog_3_method_1_code 12 = .ok (.aload_n 0, 1) := by decide +kernel
theorem dX1_init_13 : decode prog_3_method_1_code 13 = .ok (.bipush 64, 2) := by decide +kernel
theorem dX1_init_15 : decode prog_3_method_1_code 15 = .ok (.newarray .int, 2) := by decide +kernel
theorem dX1_init_17 : decode prog_3_method_1_code 17 = .ok (.putfield 15, 3) := by decide +kernel
theorem dX1_init_20 : decode prog_3_method_1_code 20 = .ok (.aload_n 0, 1) := by decide +kernel
theorem dX1_init_21 : decode prog_3_method_1_code 21 = .ok (.bipush 64, 2) := by decide +kernel
theorem dX1_init_23 : decode prog_3_method_1_code 23 = .ok (.newarray .int, 2) := by decide +kernel
theorem dX1_init_25 : decode prog_3_method_1_code 25 = .ok (.putfield 18, 3) := by decide +kernel
theorem dX1_init_28 : decode prog_3_method_1_code 28 = .ok (.aload_n 0, 1) := by decide +kernel
theorem dX1_init_29 : decode prog_3_method_1_code 29 = .ok (.bipush 64, 2) := by decide +kernel
theorem dX1_init_31 : decode prog_3_method_1_code 31 = .ok (.newarray .int, 2) := by decide +kernel
theorem dX1_init_33 : decode prog_3_method_1_code 33 = .ok (.putfield 21, 3) := by decide +kernel
theorem dX1_init_36 : decode prog_3_method_1_code 36 = .ok (.aload_n 0, 1) := by decide +kernel
theorem dX1_init_37 : decode prog_3_method_1_code 37 = .ok (.sipush 4000, 3) := by decide +kernel
theorem dX1_init_40 : decode prog_3_method_1_code 40 = .ok (.newarray .long, 2) := by decide +kernel
theorem dX1_init_42 : decode prog_3_method_1_code 42 = .ok (.putfield 24, 3) := by decide +kernel
theorem dX1_init_45 : decode prog_3_method_1_code 45 = .ok (.aload_n 0, 1) := by decide +kernel
theorem dX1_init_46 : decode prog_3_method_1_code 46 = .ok (.iconst 0, 1) := by decide +kernel
theorem dX1_init_47 : decode prog_3_method_1_code 47 = .ok (.putfield 28, 3) := by decide +kernel
theorem dX1_init_50 : decode prog_3_method_1_code 50 = .ok (.aload_n 0, 1) := by decide +kernel
theorem dX1_init_51 : decode prog_3_method_1_code 51 = .ok (.iconst 0, 1) := by decide +kernel
theorem dX1_init_52 : decode prog_3_method_1_code 52 = .ok (.putfield 32, 3) := by decide +kernel
theorem dX1_init_55 : decode prog_3_method_1_code 55 = .ok (.return_, 1) := by decide +kernel
theorem dX2_init_0 : decode prog_6_method_1_code 0 = .ok (.aload_n 0, 1) := by decide +kernel
theorem dX2_init_1 : decode prog_6_method_1_code 1 = .ok (.invokespecial 3, 3) := by decide +kernel
theorem dX2_init_4 : decode prog_6_method_1_code 4 = .ok (.aload_n 0, 1) := by decide +kernel
theorem dX2_init_5 : decode prog_6_method_1_code 5 = .ok (.iconst 0, 1) := by decide +kernel
theorem dX2_init_6 : decode prog_6_method_1_code 6 = .ok (.putfield 9, 3) := by decide +kernel
theorem dX2_init_9 : decode prog_6_method_1_code 9 = .ok (.aload_n 0, 1) := by decide +kernel
theorem dX2_init_10 : decode prog_6_method_1_code 10 = .ok (.iconst 0, 1) := by decide +kernel
theorem dX2_init_11 : decode prog_6_method_1_code 11 = .ok (.putfield 15, 3) := by decide +kernel
theorem dX2_init_14 : decode prog_6_method_1_code 14 = .ok (.aload_n 0, 1) := by decide +kernel
theorem dX2_init_15 : decode prog_6_method_1_code 15 = .ok (.iconst 0, 1) := by decide +kernel
theorem dX2_init_16 : decode prog_6_method_1_code 16 = .ok (.putfield 18, 3) := by decide +kernel
theorem dX2_init_19 : decode prog_6_method_1_code 19 = .ok (.aload_n 0, 1) := by decide +kernel
theorem dX2_init_20 : decode prog_6_method_1_code 20 = .ok (.iconst 0, 1) := by decide +kernel
theorem dX2_init_21 : decode prog_6_method_1_code 21 = .ok (.putfield 21, 3) := by decide +kernel
theorem dX2_init_24 : decode prog_6_method_1_code 24 = .ok (.aload_n 0, 1) := by decide +kernel
theorem dX2_init_25 : decode prog_6_method_1_code 25 = .ok (.lconst 0, 1) := by decide +kernel
theorem dX2_init_26 : decode prog_6_method_1_code 26 = .ok (.putfield 24, 3) := by decide +kernel
theorem dX2_init_29 : decode prog_6_method_1_code 29 = .ok (.aload_n 0, 1) := by decide +kernel
theorem dX2_init_30 : decode prog_6_method_1_code 30 = .ok (.iconst 0, 1) := by decide +kernel
theorem dX2_init_31 : decode prog_6_method_1_code 31 = .ok (.putfield 28, 3) := by decide +kernel
theorem dX2_init_34 : decode prog_6_method_1_code 34 = .ok (.aload_n 0, 1) := by decide +kernel
theorem dX2_init_35 : decode prog_6_method_1_code 35 = .ok (.aload_n 1, 1) := by decide +kernel
theorem dX2_init_36 : decode prog_6_method_1_code 36 = .ok (.getfield 31, 3) := by decide +kernel
theorem dX2_init_39 : decode prog_6_method_1_code 39 = .ok (.putfield 37, 3) := by decide +kernel
theorem dX2_init_42 : decode prog_6_method_1_code 42 = .ok (.return_, 1) := by decide +kernel
theorem dX3_init_0 : decode prog_5_method_1_code 0 = .ok (.aload_n 0, 1) := by decide +kernel
theorem dX3_init_1 : decode prog_5_method_1_code 1 = .ok (.invokespecial 3, 3) := by decide +kernel
theorem dX3_init_4 : decode prog_5_method_1_code 4 = .ok (.aload_n 0, 1) := by decide +kernel
theorem dX3_init_5 : decode prog_5_method_1_code 5 = .ok (.iconst 0, 1) := by decide +kernel
theorem dX3_init_6 : decode prog_5_method_1_code 6 = .ok (.putfield 9, 3) := by decide +kernel
theorem dX3_init_9 : decode prog_5_method_1_code 9 = .ok (.aload_n 0, 1) := by decide +kernel
theorem dX3_init_10 : decode prog_5_method_1_code 10 = .ok (.iconst (-1), 1) := by decide +kernel
theorem dX3_init_11 : decode prog_5_method_1_code 11 = .ok (.putfield 15, 3) := by decide +kernel
theorem dX3_init_14 : decode prog_5_method_1_code 14 = .ok (.aload_n 0, 1) := by decide +kernel
theorem dX3_init_15 : decode prog_5_method_1_code 15 = .ok (.new 18, 3) := by decide +kernel
theorem dX3_init_18 : decode prog_5_method_1_code 18 = .ok (.dup, 1) := by decide +kernel
theorem dX3_init_19 : decode prog_5_method_1_code 19 = .ok (.aload_n 1, 1) := by decide +kernel
theorem dX3_init_20 : decode prog_5_method_1_code 20 = .ok (.invokespecial 20, 3) := by decide +kernel
theorem dX3_init_23 : decode prog_5_method_1_code 23 = .ok (.putfield 23, 3) := by decide +kernel
theorem dX3_init_26 : decode prog_5_method_1_code 26 = .ok (.aload_n 0, 1) := by decide +kernel
theorem dX3_init_27 : decode prog_5_method_1_code 27 = .ok (.aload_n 2, 1) := by decide +kernel
theorem dX3_init_28 : decode prog_5_method_1_code 28 = .ok (.putfield 27, 3) := by decide +kernel
theorem dX3_init_31 : decode prog_5_method_1_code 31 = .ok (.return_, 1) := by decide +kernel
theorem dX4_init_0 : decode prog_4_method_1_code 0 = .ok (.aload_n 0, 1) := by decide +kernel
theorem dX4_init_1 : decode prog_4_method_1_code 1 = .ok (.invokespecial 3, 3) := by decide +kernel
theorem dX4_init_4 : decode prog_4_method_1_code 4 = .ok (.aload_n 0, 1) := by decide +kernel
theorem dX4_init_5 : decode prog_4_method_1_code 5 = .ok (.aload_n 1, 1) := by decide +kernel
theorem dX4_init_6 : decode prog_4_method_1_code 6 = .ok (.putfield 9, 3) := by decide +kernel
theorem dX4_init_9 : decode prog_4_method_1_code 9 = .ok (.aload_n 0, 1) := by decide +kernel
theorem dX4_init_10 : decode prog_4_method_1_code 10 = .ok (.aload_n 2, 1) := by decide +kernel
theorem dX4_init_11 : decode prog_4_method_1_code 11 = .ok (.putfield 15, 3) := by decide +kernel
theorem dX4_init_14 : decode prog_4_method_1_code 14 = .ok (.return_, 1) := by decide +kernel
theorem dX5_init_0 : decode prog_1_method_1_code 0 = .ok (.aload_n 0, 1) := by decide +kernel
theorem dX5_init_1 : decode prog_1_method_1_code 1 = .ok (.invokespecial 1, 3) := by decide +kernel
theorem dX5_init_4 : decode prog_1_method_1_code 4 = .ok (.aload_n 0, 1) := by decide +kernel
theorem dX5_init_5 : decode prog_1_method_1_code 5 = .ok (.new 7, 3) := by decide +kernel
theorem dX5_init_8 : decode prog_1_method_1_code 8 = .ok (.dup, 1) := by decide +kernel
theorem dX5_init_9 : decode prog_1_method_1_code 9 = .ok (.invokespecial 9, 3) := by decide +kernel
theorem dX5_init_12 : decode prog_1_method_1_code 12 = .ok (.putfield 10, 3) := by decide +kernel
theorem dX5_init_15 : decode prog_1_method_1_code 15 = .ok (.aload_n 0, 1) := by decide +kernel
theorem dX5_init_16 : decode prog_1_method_1_code 16 = .ok (.new 7, 3) := by decide +kernel
theorem dX5_init_19 : decode prog_1_method_1_code 19 = .ok (.dup, 1) := by decide +kernel
theorem dX5_init_20 : decode prog_1_method_1_code 20 = .ok (.invokespecial 9, 3) := by decide +kernel
theorem dX5_init_23 : decode prog_1_method_1_code 23 = .ok (.putfield 16, 3) := by decide +kernel
theorem dX5_init_26 : decode prog_1_method_1_code 26 = .ok (.aload_n 0, 1) := by decide +kernel
theorem dX5_init_27 : decode prog_1_method_1_code 27 = .ok (.new 19, 3) := by decide +kernel
theorem dX5_init_30 : decode prog_1_method_1_code 30 = .ok (.dup, 1) := by decide +kernel
theorem dX5_init_31 : decode prog_1_method_1_code 31 = .ok (.invokespecial 21, 3) := by decide +kernel
theorem dX5_init_34 : decode prog_1_method_1_code 34 = .ok (.putfield 22, 3) := by decide +kernel
theorem dX5_init_37 : decode prog_1_method_1_code 37 = .ok (.aload_n 0, 1) := by decide +kernel
theorem dX5_init_38 : decode prog_1_method_1_code 38 = .ok (.new 26, 3) := by decide +kernel
theorem dX5_init_41 : decode prog_1_method_1_code 41 = .ok (.dup, 1) := by decide +kernel
theorem dX5_init_42 : decode prog_1_method_1_code 42 = .ok (.aload_n 0, 1) := by decide +kernel
theorem dX5_init_43 : decode prog_1_method_1_code 43 = .ok (.getfield 10, 3) := by decide +kernel
theorem dX5_init_46 : decode prog_1_method_1_code 46 = .ok (.aload_n 0, 1) := by decide +kernel
theorem dX5_init_47 : decode prog_1_method_1_code 47 = .ok (.getfield 22, 3) := by decide +kernel
theorem dX5_init_50 : decode prog_1_method_1_code 50 = .ok (.invokespecial 28, 3) := by decide +kernel
theorem dX5_init_53 : decode prog_1_method_1_code 53 = .ok (.putfield 31, 3) := by decide +kernel
theorem dX5_init_56 : decode prog_1_method_1_code 56 = .ok (.aload_n 0, 1) := by decide +kernel
theorem dX5_init_57 : decode prog_1_method_1_code 57 = .ok (.new 35, 3) := by decide +kernel
theorem dX5_init_60 : decode prog_1_method_1_code 60 = .ok (.dup, 1) := by decide +kernel
theorem dX5_init_61 : decode prog_1_method_1_code 61 = .ok (.aload_n 0, 1) := by decide +kernel
theorem dX5_init_62 : decode prog_1_method_1_code 62 = .ok (.getfield 16, 3) := by decide +kernel
theorem dX5_init_65 : decode prog_1_method_1_code 65 = .ok (.aload_n 0, 1) := by decide +kernel
theorem dX5_init_66 : decode prog_1_method_1_code 66 = .ok (.getfield 22, 3) := by decide +kernel
theorem dX5_init_69 : decode prog_1_method_1_code 69 = .ok (.invokespecial 37, 3) := by decide +kernel
theorem dX5_init_72 : decode prog_1_method_1_code 72 = .ok (.putfield 38, 3) := by decide +kernel
theorem dX5_init_75 : decode prog_1_method_1_code 75 = .ok (.aload_n 0, 1) := by decide +kernel
theorem dX5_init_76 : decode prog_1_method_1_code 76 = .ok (.iconst 0, 1) := by decide +kernel
theorem dX5_init_77 : decode prog_1_method_1_code 77 = .ok (.putfield 42, 3) := by decide +kernel
theorem dX5_init_80 : decode prog_1_method_1_code 80 = .ok (.return_, 1) := by decide +kernel
theorem dX6_init_0 : decode prog_8_method_1_code 0 = .ok (.aload_n 0, 1) := by decide +kernel
theorem dX6_init_1 : decode prog_8_method_1_code 1 = .ok (.invokespecial 1, 3) := by decide +kernel
theorem dX6_init_4 : decode prog_8_method_1_code 4 = .ok (.aload_n 0, 1) := by decide +kernel
theorem dX6_init_5 : decode prog_8_method_1_code 5 = .ok (.sipush 4000, 3) := by decide +kernel
theorem dX6_init_8 : decode prog_8_method_1_code 8 = .ok (.newarray .int, 2) := by decide +kernel
theorem dX6_init_10 : decode prog_8_method_1_code 10 = .ok (.putfield 7, 3) := by decide +kernel
theorem dX6_init_13 : decode prog_8_method_1_code 13 = .ok (.aload_n 0, 1) := by decide +kernel
theorem dX6_init_14 : decode prog_8_method_1_code 14 = .ok (.iconst (-1), 1) := by decide +kernel
theorem dX6_init_15 : decode prog_8_method_1_code 15 = .ok (.putfield 13, 3) := by decide +kernel
theorem dX6_init_18 : decode prog_8_method_1_code 18 = .ok (.aload_n 0, 1) := by decide +kernel
theorem dX6_init_19 : decode prog_8_method_1_code 19 = .ok (.iconst (-1), 1) := by decide +kernel
theorem dX6_init_20 : decode prog_8_method_1_code 20 = .ok (.putfield 17, 3) := by decide +kernel
theorem dX6_init_23 : decode prog_8_method_1_code 23 = .ok (.aload_n 0, 1) := by decide +kernel
theorem dX6_init_24 : decode prog_8_method_1_code 24 = .ok (.bipush 64, 2) := by decide +kernel
theorem dX6_init_26 : decode prog_8_method_1_code 26 = .ok (.newarray .int, 2) := by decide +kernel
theorem dX6_init_28 : decode prog_8_method_1_code 28 = .ok (.putfield 20, 3) := by decide +kernel
theorem dX6_init_31 : decode prog_8_method_1_code 31 = .ok (.aload_n 0, 1) := by decide +kernel
theorem dX6_init_32 : decode prog_8_method_1_code 32 = .ok (.bipush 64, 2) := by decide +kernel
theorem dX6_init_34 : decode prog_8_method_1_code 34 = .ok (.newarray .int, 2) := by decide +kernel
theorem dX6_init_36 : decode prog_8_method_1_code 36 = .ok (.putfield 23, 3) := by decide +kernel
theorem dX6_init_39 : decode prog_8_method_1_code 39 = .ok (.aload_n 0, 1) := by decide +kernel
theorem dX6_init_40 : decode prog_8_method_1_code 40 = .ok (.bipush 64, 2) := by decide +kernel
theorem dX6_init_42 : decode prog_8_method_1_code 42 = .ok (.newarray .int, 2) := by decide +kernel
theorem dX6_init_44 : decode prog_8_method_1_code 44 = .ok (.putfield 26, 3) := by decide +kernel
theorem dX6_init_47 : decode prog_8_method_1_code 47 = .ok (.aload_n 0, 1) := by decide +kernel
theorem dX6_init_48 : decode prog_8_method_1_code 48 = .ok (.bipush 64, 2) := by decide +kernel
theorem dX6_init_50 : decode prog_8_method_1_code 50 = .ok (.newarray .int, 2) := by decide +kernel
theorem dX6_init_52 : decode prog_8_method_1_code 52 = .ok (.putfield 29, 3) := by decide +kernel
theorem dX6_init_55 : decode prog_8_method_1_code 55 = .ok (.aload_n 0, 1) := by decide +kernel
theorem dX6_init_56 : decode prog_8_method_1_code 56 = .ok (.sipush 4200, 3) := by decide +kernel
theorem dX6_init_59 : decode prog_8_method_1_code 59 = .ok (.newarray .long, 2) := by decide +kernel
theorem dX6_init_61 : decode prog_8_method_1_code 61 = .ok (.putfield 32, 3) := by decide +kernel
theorem dX6_init_64 : decode prog_8_method_1_code 64 = .ok (.aload_n 0, 1) := by decide +kernel
theorem dX6_init_65 : decode prog_8_method_1_code 65 = .ok (.sipush 4000, 3) := by decide +kernel
theorem dX6_init_68 : decode prog_8_method_1_code 68 = .ok (.newarray .int, 2) := by decide +kernel
theorem dX6_init_70 : decode prog_8_method_1_code 70 = .ok (.putfield 36, 3) := by decide +kernel
theorem dX6_init_73 : decode prog_8_method_1_code 73 = .ok (.aload_n 0, 1) := by decide +kernel
theorem dX6_init_74 : decode prog_8_method_1_code 74 = .ok (.sipush 4000, 3) := by decide +kernel
theorem dX6_init_77 : decode prog_8_method_1_code 77 = .ok (.newarray .int, 2) := by decide +kernel
theorem dX6_init_79 : decode prog_8_method_1_code 79 = .ok (.putfield 39, 3) := by decide +kernel
theorem dX6_init_82 : decode prog_8_method_1_code 82 = .ok (.aload_n 0, 1) := by decide +kernel
theorem dX6_init_83 : decode prog_8_method_1_code 83 = .ok (.bipush 20, 2) := by decide +kernel
theorem dX6_init_85 : decode prog_8_method_1_code 85 = .ok (.newarray .int, 2) := by decide +kernel
theorem dX6_init_87 : decode prog_8_method_1_code 87 = .ok (.putfield 42, 3) := by decide +kernel
theorem dX6_init_90 : decode prog_8_method_1_code 90 = .ok (.return_, 1) := by decide +kernel
theorem dL_law_18 : decode code 18 = .ok (.iload_n 3, 1) := by decide +kernel
theorem dL_law_19 : decode code 19 = .ok (.aload_n 0, 1) := by decide +kernel
theorem dL_law_20 : decode code 20 = .ok (.arraylength, 1) := by decide +kernel
theorem dL_law_21 : decode code 21 = .ok (.bipush 6, 2) := by decide +kernel
theorem dL_law_23 : decode code 23 = .ok (.isub, 1) := by decide +kernel
theorem dL_law_24 : decode code 24 = .ok (.if_icmp .gt 323, 3) := by decide +kernel
theorem dL_law_347 : decode code 347 = .ok (.iconst 1, 1) := by decide +kernel
theorem dL_law_348 : decode code 348 = .ok (.ireturn, 1) := by decide +kernel
theorem dL_law_27 : decode code 27 = .ok (.aload_n 0, 1) := by decide +kernel
theorem dL_law_28 : decode code 28 = .ok (.iload_n 3, 1) := by decide +kernel
theorem dL_law_29 : decode code 29 = .ok (.iaload, 1) := by decide +kernel
theorem dL_law_30 : decode code 30 = .ok (.bipush 7, 2) := by decide +kernel
theorem dL_law_32 : decode code 32 = .ok (.iand, 1) := by decide +kernel
theorem dL_law_33 : decode code 33 = .ok (.tableswitch 308 0 7 #[47, 110, 133, 156, 189, 223, 246, 269], 47) := by decide +kernel
theorem dL_law_80 : decode code 80 = .ok (.aload_n 1, 1) := by decide +kernel
theorem dL_law_81 : decode code 81 = .ok (.aload_n 0, 1) := by decide +kernel
theorem dL_law_82 : decode code 82 = .ok (.iload_n 3, 1) := by decide +kernel
theorem dL_law_83 : decode code 83 = .ok (.iconst 1, 1) := by decide +kernel
theorem dL_law_84 : decode code 84 = .ok (.iadd, 1) := by decide +kernel
theorem dL_law_85 : decode code 85 = .ok (.iaload, 1) := by decide +kernel
theorem dL_law_86 : decode code 86 = .ok (.aload_n 0, 1) := by decide +kernel
theorem dL_law_87 : decode code 87 = .ok (.iload_n 3, 1) := by decide +kernel
theorem dL_law_88 : decode code 88 = .ok (.iconst 2, 1) := by decide +kernel
theorem dL_law_89 : decode code 89 = .ok (.iadd, 1) := by decide +kernel
theorem dL_law_90 : decode code 90 = .ok (.iaload, 1) := by decide +kernel
theorem dL_law_91 : decode code 91 = .ok (.aload_n 0, 1) := by decide +kernel
theorem dL_law_92 : decode code 92 = .ok (.iload_n 3, 1) := by decide +kernel
theorem dL_law_93 : decode code 93 = .ok (.iconst 3, 1) := by decide +kernel
theorem dL_law_94 : decode code 94 = .ok (.iadd, 1) := by decide +kernel
theorem dL_law_95 : decode code 95 = .ok (.iaload, 1) := by decide +kernel
theorem dL_law_96 : decode code 96 = .ok (.aload_n 0, 1) := by decide +kernel
theorem dL_law_97 : decode code 97 = .ok (.iload_n 3, 1) := by decide +kernel
theorem dL_law_98 : decode code 98 = .ok (.iconst 4, 1) := by decide +kernel
theorem dL_law_99 : decode code 99 = .ok (.iadd, 1) := by decide +kernel
theorem dL_law_100 : decode code 100 = .ok (.iaload, 1) := by decide +kernel
theorem dL_law_101 : decode code 101 = .ok (.aload_n 0, 1) := by decide +kernel
theorem dL_law_102 : decode code 102 = .ok (.iload_n 3, 1) := by decide +kernel
theorem dL_law_103 : decode code 103 = .ok (.iconst 5, 1) := by decide +kernel
theorem dL_law_104 : decode code 104 = .ok (.iadd, 1) := by decide +kernel
theorem dL_law_105 : decode code 105 = .ok (.iaload, 1) := by decide +kernel
theorem dL_law_106 : decode code 106 = .ok (.invokevirtual 13, 3) := by decide +kernel
theorem dL_law_109 : decode code 109 = .ok (.aload_n 2, 1) := by decide +kernel
theorem dL_law_110 : decode code 110 = .ok (.aload_n 0, 1) := by decide +kernel
theorem dL_law_111 : decode code 111 = .ok (.iload_n 3, 1) := by decide +kernel
theorem dL_law_112 : decode code 112 = .ok (.iconst 1, 1) := by decide +kernel
theorem dL_law_113 : decode code 113 = .ok (.iadd, 1) := by decide +kernel
theorem dL_law_114 : decode code 114 = .ok (.iaload, 1) := by decide +kernel
theorem dL_law_115 : decode code 115 = .ok (.aload_n 0, 1) := by decide +kernel
theorem dL_law_116 : decode code 116 = .ok (.iload_n 3, 1) := by decide +kernel
theorem dL_law_117 : decode code 117 = .ok (.iconst 2, 1) := by decide +kernel
theorem dL_law_118 : decode code 118 = .ok (.iadd, 1) := by decide +kernel
theorem dL_law_119 : decode code 119 = .ok (.iaload, 1) := by decide +kernel
theorem dL_law_120 : decode code 120 = .ok (.aload_n 0, 1) := by decide +kernel
theorem dL_law_121 : decode code 121 = .ok (.iload_n 3, 1) := by decide +kernel
theorem dL_law_122 : decode code 122 = .ok (.iconst 3, 1) := by decide +kernel
theorem dL_law_123 : decode code 123 = .ok (.iadd, 1) := by decide +kernel
theorem dL_law_124 : decode code 124 = .ok (.iaload, 1) := by decide +kernel
theorem dL_law_125 : decode code 125 = .ok (.aload_n 0, 1) := by decide +kernel
theorem dL_law_126 : decode code 126 = .ok (.iload_n 3, 1) := by decide +kernel
theorem dL_law_127 : decode code 127 = .ok (.iconst 4, 1) := by decide +kernel
theorem dL_law_128 : decode code 128 = .ok (.iadd, 1) := by decide +kernel
theorem dL_law_129 : decode code 129 = .ok (.iaload, 1) := by decide +kernel
theorem dL_law_130 : decode code 130 = .ok (.aload_n 0, 1) := by decide +kernel
theorem dL_law_131 : decode code 131 = .ok (.iload_n 3, 1) := by decide +kernel
theorem dL_law_132 : decode code 132 = .ok (.iconst 5, 1) := by decide +kernel
theorem dL_law_133 : decode code 133 = .ok (.iadd, 1) := by decide +kernel
theorem dL_law_134 : decode code 134 = .ok (.iaload, 1) := by decide +kernel
theorem dL_law_135 : decode code 135 = .ok (.invokevirtual 17, 3) := by decide +kernel
theorem dL_law_138 : decode code 138 = .ok (.if_icmp .eq 203, 3) := by decide +kernel
theorem dL_law_141 : decode code 141 = .ok (.iconst 0, 1) := by decide +kernel
theorem dL_law_142 : decode code 142 = .ok (.ireturn, 1) := by decide +kernel
theorem dL_law_143 : decode code 143 = .ok (.aload_n 1, 1) := by decide +kernel
theorem dL_law_144 : decode code 144 = .ok (.aload_n 0, 1) := by decide +kernel
theorem dL_law_145 : decode code 145 = .ok (.iload_n 3, 1) := by decide +kernel
theorem dL_law_146 : decode code 146 = .ok (.iconst 1, 1) := by decide +kernel
theorem dL_law_147 : decode code 147 = .ok (.iadd, 1) := by decide +kernel
theorem dL_law_148 : decode code 148 = .ok (.iaload, 1) := by decide +kernel
theorem dL_law_149 : decode code 149 = .ok (.invokevirtual 18, 3) := by decide +kernel
theorem dL_law_152 : decode code 152 = .ok (.aload_n 2, 1) := by decide +kernel
theorem dL_law_153 : decode code 153 = .ok (.aload_n 0, 1) := by decide +kernel
theorem dL_law_154 : decode code 154 = .ok (.iload_n 3, 1) := by decide +kernel
theorem dL_law_155 : decode code 155 = .ok (.iconst 1, 1) := by decide +kernel
theorem dL_law_156 : decode code 156 = .ok (.iadd, 1) := by decide +kernel
theorem dL_law_157 : decode code 157 = .ok (.iaload, 1) := by decide +kernel
theorem dL_law_158 : decode code 158 = .ok (.invokevirtual 22, 3) := by decide +kernel
theorem dL_law_161 : decode code 161 = .ok (.if_icmp .eq 180, 3) := by decide +kernel
theorem dL_law_164 : decode code 164 = .ok (.iconst 0, 1) := by decide +kernel
theorem dL_law_165 : decode code 165 = .ok (.ireturn, 1) := by decide +kernel
theorem dL_law_166 : decode code 166 = .ok (.aload_n 1, 1) := by decide +kernel
theorem dL_law_167 : decode code 167 = .ok (.aload_n 0, 1) := by decide +kernel
theorem dL_law_168 : decode code 168 = .ok (.iload_n 3, 1) := by decide +kernel
theorem dL_law_169 : decode code 169 = .ok (.iconst 1, 1) := by decide +kernel
theorem dL_law_170 : decode code 170 = .ok (.iadd, 1) := by decide +kernel
theorem dL_law_171 : decode code 171 = .ok (.iaload, 1) := by decide +kernel
theorem dL_law_172 : decode code 172 = .ok (.invokevirtual 23, 3) := by decide +kernel
theorem dL_law_175 : decode code 175 = .ok (.aload_n 2, 1) := by decide +kernel
theorem dL_law_176 : decode code 176 = .ok (.aload_n 0, 1) := by decide +kernel
theorem dL_law_177 : decode code 177 = .ok (.iload_n 3, 1) := by decide +kernel
theorem dL_law_178 : decode code 178 = .ok (.iconst 1, 1) := by decide +kernel
theorem dL_law_179 : decode code 179 = .ok (.iadd, 1) := by decide +kernel
theorem dL_law_180 : decode code 180 = .ok (.iaload, 1) := by decide +kernel
theorem dL_law_181 : decode code 181 = .ok (.invokevirtual 26, 3) := by decide +kernel
theorem dL_law_184 : decode code 184 = .ok (.if_icmp .eq 157, 3) := by decide +kernel
theorem dL_law_187 : decode code 187 = .ok (.iconst 0, 1) := by decide +kernel
theorem dL_law_188 : decode code 188 = .ok (.ireturn, 1) := by decide +kernel
theorem dL_law_189 : decode code 189 = .ok (.aload_n 1, 1) := by decide +kernel
theorem dL_law_190 : decode code 190 = .ok (.aload_n 0, 1) := by decide +kernel
theorem dL_law_191 : decode code 191 = .ok (.iload_n 3, 1) := by decide +kernel
theorem dL_law_192 : decode code 192 = .ok (.iconst 1, 1) := by decide +kernel
theorem dL_law_193 : decode code 193 = .ok (.iadd, 1) := by decide +kernel
theorem dL_law_194 : decode code 194 = .ok (.iaload, 1) := by decide +kernel
theorem dL_law_195 : decode code 195 = .ok (.aload_n 0, 1) := by decide +kernel
theorem dL_law_196 : decode code 196 = .ok (.iload_n 3, 1) := by decide +kernel
theorem dL_law_197 : decode code 197 = .ok (.iconst 2, 1) := by decide +kernel
theorem dL_law_198 : decode code 198 = .ok (.iadd, 1) := by decide +kernel
theorem dL_law_199 : decode code 199 = .ok (.iaload, 1) := by decide +kernel
theorem dL_law_200 : decode code 200 = .ok (.invokevirtual 27, 3) := by decide +kernel
theorem dL_law_203 : decode code 203 = .ok (.aload_n 2, 1) := by decide +kernel
theorem dL_law_204 : decode code 204 = .ok (.aload_n 0, 1) := by decide +kernel
theorem dL_law_205 : decode code 205 = .ok (.iload_n 3, 1) := by decide +kernel
theorem dL_law_206 : decode code 206 = .ok (.iconst 1, 1) := by decide +kernel
theorem dL_law_207 : decode code 207 = .ok (.iadd, 1) := by decide +kernel
theorem dL_law_208 : decode code 208 = .ok (.iaload, 1) := by decide +kernel
theorem dL_law_209 : decode code 209 = .ok (.aload_n 0, 1) := by decide +kernel
theorem dL_law_210 : decode code 210 = .ok (.iload_n 3, 1) := by decide +kernel
theorem dL_law_211 : decode code 211 = .ok (.iconst 2, 1) := by decide +kernel
theorem dL_law_212 : decode code 212 = .ok (.iadd, 1) := by decide +kernel
theorem dL_law_213 : decode code 213 = .ok (.iaload, 1) := by decide +kernel
theorem dL_law_214 : decode code 214 = .ok (.invokevirtual 31, 3) := by decide +kernel
theorem dL_law_217 : decode code 217 = .ok (.if_icmp .eq 124, 3) := by decide +kernel
theorem dL_law_220 : decode code 220 = .ok (.iconst 0, 1) := by decide +kernel
theorem dL_law_221 : decode code 221 = .ok (.ireturn, 1) := by decide +kernel
theorem dL_law_222 : decode code 222 = .ok (.aload_n 1, 1) := by decide +kernel
theorem dL_law_223 : decode code 223 = .ok (.aload_n 0, 1) := by decide +kernel
theorem dL_law_224 : decode code 224 = .ok (.iload_n 3, 1) := by decide +kernel
theorem dL_law_225 : decode code 225 = .ok (.iconst 1, 1) := by decide +kernel
theorem dL_law_226 : decode code 226 = .ok (.iadd, 1) := by decide +kernel
theorem dL_law_227 : decode code 227 = .ok (.iaload, 1) := by decide +kernel
theorem dL_law_228 : decode code 228 = .ok (.aload_n 0, 1) := by decide +kernel
theorem dL_law_229 : decode code 229 = .ok (.iload_n 3, 1) := by decide +kernel
theorem dL_law_230 : decode code 230 = .ok (.iconst 2, 1) := by decide +kernel
theorem dL_law_231 : decode code 231 = .ok (.iadd, 1) := by decide +kernel
theorem dL_law_232 : decode code 232 = .ok (.iaload, 1) := by decide +kernel
theorem dL_law_233 : decode code 233 = .ok (.invokevirtual 32, 3) := by decide +kernel
theorem dL_law_236 : decode code 236 = .ok (.aload_n 2, 1) := by decide +kernel
theorem dL_law_237 : decode code 237 = .ok (.aload_n 0, 1) := by decide +kernel
theorem dL_law_238 : decode code 238 = .ok (.iload_n 3, 1) := by decide +kernel
theorem dL_law_239 : decode code 239 = .ok (.iconst 1, 1) := by decide +kernel
theorem dL_law_240 : decode code 240 = .ok (.iadd, 1) := by decide +kernel
theorem dL_law_241 : decode code 241 = .ok (.iaload, 1) := by decide +kernel
theorem dL_law_242 : decode code 242 = .ok (.aload_n 0, 1) := by decide +kernel
theorem dL_law_243 : decode code 243 = .ok (.iload_n 3, 1) := by decide +kernel
theorem dL_law_244 : decode code 244 = .ok (.iconst 2, 1) := by decide +kernel
theorem dL_law_245 : decode code 245 = .ok (.iadd, 1) := by decide +kernel
theorem dL_law_246 : decode code 246 = .ok (.iaload, 1) := by decide +kernel
theorem dL_law_247 : decode code 247 = .ok (.invokevirtual 36, 3) := by decide +kernel
theorem dL_law_250 : decode code 250 = .ok (.lcmp, 1) := by decide +kernel
theorem dL_law_251 : decode code 251 = .ok (.ifCond .eq 90, 3) := by decide +kernel
theorem dL_law_254 : decode code 254 = .ok (.iconst 0, 1) := by decide +kernel
theorem dL_law_255 : decode code 255 = .ok (.ireturn, 1) := by decide +kernel
theorem dL_law_256 : decode code 256 = .ok (.aload_n 1, 1) := by decide +kernel
theorem dL_law_257 : decode code 257 = .ok (.aload_n 0, 1) := by decide +kernel
theorem dL_law_258 : decode code 258 = .ok (.iload_n 3, 1) := by decide +kernel
theorem dL_law_259 : decode code 259 = .ok (.iconst 1, 1) := by decide +kernel
theorem dL_law_260 : decode code 260 = .ok (.iadd, 1) := by decide +kernel
theorem dL_law_261 : decode code 261 = .ok (.iaload, 1) := by decide +kernel
theorem dL_law_262 : decode code 262 = .ok (.invokevirtual 37, 3) := by decide +kernel
theorem dL_law_265 : decode code 265 = .ok (.aload_n 2, 1) := by decide +kernel
theorem dL_law_266 : decode code 266 = .ok (.aload_n 0, 1) := by decide +kernel
theorem dL_law_267 : decode code 267 = .ok (.iload_n 3, 1) := by decide +kernel
theorem dL_law_268 : decode code 268 = .ok (.iconst 1, 1) := by decide +kernel
theorem dL_law_269 : decode code 269 = .ok (.iadd, 1) := by decide +kernel
theorem dL_law_270 : decode code 270 = .ok (.iaload, 1) := by decide +kernel
theorem dL_law_271 : decode code 271 = .ok (.invokevirtual 40, 3) := by decide +kernel
theorem dL_law_274 : decode code 274 = .ok (.if_icmp .eq 67, 3) := by decide +kernel
theorem dL_law_277 : decode code 277 = .ok (.iconst 0, 1) := by decide +kernel
theorem dL_law_278 : decode code 278 = .ok (.ireturn, 1) := by decide +kernel
theorem dL_law_279 : decode code 279 = .ok (.aload_n 1, 1) := by decide +kernel
theorem dL_law_280 : decode code 280 = .ok (.aload_n 0, 1) := by decide +kernel
theorem dL_law_281 : decode code 281 = .ok (.iload_n 3, 1) := by decide +kernel
theorem dL_law_282 : decode code 282 = .ok (.iconst 1, 1) := by decide +kernel
theorem dL_law_283 : decode code 283 = .ok (.iadd, 1) := by decide +kernel
theorem dL_law_284 : decode code 284 = .ok (.iaload, 1) := by decide +kernel
theorem dL_law_285 : decode code 285 = .ok (.invokevirtual 41, 3) := by decide +kernel
theorem dL_law_288 : decode code 288 = .ok (.aload_n 2, 1) := by decide +kernel
theorem dL_law_289 : decode code 289 = .ok (.aload_n 0, 1) := by decide +kernel
theorem dL_law_290 : decode code 290 = .ok (.iload_n 3, 1) := by decide +kernel
theorem dL_law_291 : decode code 291 = .ok (.iconst 1, 1) := by decide +kernel
theorem dL_law_292 : decode code 292 = .ok (.iadd, 1) := by decide +kernel
theorem dL_law_293 : decode code 293 = .ok (.iaload, 1) := by decide +kernel
theorem dL_law_294 : decode code 294 = .ok (.invokevirtual 44, 3) := by decide +kernel
theorem dL_law_297 : decode code 297 = .ok (.if_icmp .eq 44, 3) := by decide +kernel
theorem dL_law_300 : decode code 300 = .ok (.iconst 0, 1) := by decide +kernel
theorem dL_law_301 : decode code 301 = .ok (.ireturn, 1) := by decide +kernel
theorem dL_law_302 : decode code 302 = .ok (.aload_n 1, 1) := by decide +kernel
theorem dL_law_303 : decode code 303 = .ok (.aload_n 0, 1) := by decide +kernel
theorem dL_law_304 : decode code 304 = .ok (.iload_n 3, 1) := by decide +kernel
theorem dL_law_305 : decode code 305 = .ok (.iconst 1, 1) := by decide +kernel
theorem dL_law_306 : decode code 306 = .ok (.iadd, 1) := by decide +kernel
theorem dL_law_307 : decode code 307 = .ok (.iaload, 1) := by decide +kernel
theorem dL_law_308 : decode code 308 = .ok (.ifCond .eq 7, 3) := by decide +kernel
theorem dL_law_315 : decode code 315 = .ok (.iconst 0, 1) := by decide +kernel
theorem dL_law_311 : decode code 311 = .ok (.iconst 1, 1) := by decide +kernel
theorem dL_law_312 : decode code 312 = .ok (.goto 4, 3) := by decide +kernel
theorem dL_law_341 : decode code 341 = .ok (.iinc 3 6, 3) := by decide +kernel
theorem dL_law_344 : decode code 344 = .ok (.goto (-326), 3) := by decide +kernel
theorem dL_law_316 : decode code 316 = .ok (.invokevirtual 45, 3) := by decide +kernel
theorem dL_law_319 : decode code 319 = .ok (.aload_n 2, 1) := by decide +kernel
theorem dL_law_320 : decode code 320 = .ok (.aload_n 0, 1) := by decide +kernel
theorem dL_law_321 : decode code 321 = .ok (.iload_n 3, 1) := by decide +kernel
theorem dL_law_322 : decode code 322 = .ok (.iconst 1, 1) := by decide +kernel
theorem dL_law_323 : decode code 323 = .ok (.iadd, 1) := by decide +kernel
theorem dL_law_324 : decode code 324 = .ok (.iaload, 1) := by decide +kernel
theorem dL_law_325 : decode code 325 = .ok (.ifCond .eq 7, 3) := by decide +kernel
theorem dL_law_332 : decode code 332 = .ok (.iconst 0, 1) := by decide +kernel
theorem dL_law_328 : decode code 328 = .ok (.iconst 1, 1) := by decide +kernel
theorem dL_law_329 : decode code 329 = .ok (.goto 4, 3) := by decide +kernel
theorem dL_law_333 : decode code 333 = .ok (.invokevirtual 49, 3) := by decide +kernel
theorem dL_law_336 : decode code 336 = .ok (.if_icmp .eq 5, 3) := by decide +kernel
theorem dL_law_339 : decode code 339 = .ok (.iconst 0, 1) := by decide +kernel
theorem dL_law_340 : decode code 340 = .ok (.ireturn, 1) := by decide +kernel
theorem dL_law_0 : decode code 0 = .ok (.new 7, 3) := by decide +kernel
theorem dL_law_3 : decode code 3 = .ok (.dup, 1) := by decide +kernel
theorem dL_law_4 : decode code 4 = .ok (.invokespecial 9, 3) := by decide +kernel
theorem dL_law_7 : decode code 7 = .ok (.astore_n 1, 1) := by decide +kernel
theorem dL_law_8 : decode code 8 = .ok (.new 10, 3) := by decide +kernel
theorem dL_law_11 : decode code 11 = .ok (.dup, 1) := by decide +kernel
theorem dL_law_12 : decode code 12 = .ok (.invokespecial 12, 3) := by decide +kernel
theorem dL_law_15 : decode code 15 = .ok (.astore_n 2, 1) := by decide +kernel
theorem dL_law_16 : decode code 16 = .ok (.iconst 0, 1) := by decide +kernel
theorem dL_law_17 : decode code 17 = .ok (.istore_n 3, 1) := by decide +kernel
