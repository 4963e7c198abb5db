/-! WORDS, METHODS, DECODED INSTRUCTIONS (printed by wip/p1) -/
theorem gk_upd0 (k : Nat) : upd (fun _ => (0 : Int32)) k 0 = (fun _ => 0) := by
  funext j
  unfold upd
  split <;> rfl
theorem in_Jt : ∀ w ∈ u_ws R_Jt F_Jt 6, w ∈ gk_tw := fun w h => gk_in (in0_Jt w h) (ing_Jt w h)
theorem in_Fa : ∀ w ∈ u_ws R_Fa F_Fa 5, w ∈ gk_tw := fun w h => gk_in (in0_Fa w h) (ing_Fa w h)
theorem in_Ex : ∀ w ∈ u_ws R_Ex F_Ex 12, w ∈ gk_tw := fun w h => gk_in (in0_Ex w h) (ing_Ex w h)
theorem in_Li : ∀ w ∈ u_ws R_Li F_Li 8, w ∈ gk_tw := fun w h => gk_in (in0_Li w h) (ing_Li w h)
theorem in_Ro : ∀ w ∈ u_ws R_Ro F_Ro 4, w ∈ gk_tw := fun w h => gk_in (in0_Ro w h) (ing_Ro w h)
theorem in_Al : ∀ w ∈ u_ws R_Al F_Al 3, w ∈ gk_tw := fun w h => gk_in (in0_Al w h) (ing_Al w h)
theorem in_Sb : ∀ w ∈ u_ws R_Sb F_Sb 4, w ∈ gk_tw := fun w h => gk_in (in0_Sb w h) (ing_Sb w h)
theorem in_Te : ∀ w ∈ u_ws R_Te F_Te 7, w ∈ gk_tw := fun w h => gk_in (in0_Te w h) (ing_Te w h)
theorem in_Ln : ∀ w ∈ u_ws R_Ln F_Ln 4, w ∈ gk_tw := fun w h => gk_in (in0_Ln w h) (ing_Ln w h)
theorem in_Re : ∀ w ∈ u_ws R_Re F_Re 9, w ∈ gk_tw := fun w h => gk_in (in0_Re w h) (ing_Re w h)
theorem in_Mo : ∀ w ∈ u_ws R_Mo F_Mo 81, w ∈ gk_tw := fun w h => gk_in (in0_Mo w h) (ing_Mo w h)
theorem k_91 : Jvm.Cond.initialized "JobText$Faults" ∈ gk_tw := gk_in (List.mem_of_getElem? (i := 91) (by decide +kernel)) (by decide +kernel)
theorem k_92 : Jvm.Cond.initialized "java/util/AbstractCollection" ∈ gk_tw := gk_in (List.mem_of_getElem? (i := 92) (by decide +kernel)) (by decide +kernel)
theorem k_93 : Jvm.Cond.initialized "java/util/AbstractList" ∈ gk_tw := gk_in (List.mem_of_getElem? (i := 93) (by decide +kernel)) (by decide +kernel)
theorem k_94 : Jvm.Cond.initialized "java/util/ArrayList" ∈ gk_tw := gk_in (List.mem_of_getElem? (i := 94) (by decide +kernel)) (by decide +kernel)
theorem k_95 : Jvm.Cond.initialized "JobText$Expander" ∈ gk_tw := gk_in (List.mem_of_getElem? (i := 95) (by decide +kernel)) (by decide +kernel)
theorem k_96 : Jvm.Cond.initialized "JobText$Listing" ∈ gk_tw := gk_in (List.mem_of_getElem? (i := 96) (by decide +kernel)) (by decide +kernel)
theorem k_97 : Jvm.Cond.initialized "java/lang/AbstractStringBuilder" ∈ gk_tw := gk_in (List.mem_of_getElem? (i := 97) (by decide +kernel)) (by decide +kernel)
theorem k_98 : Jvm.Cond.initialized "java/lang/StringBuilder" ∈ gk_tw := gk_in (List.mem_of_getElem? (i := 98) (by decide +kernel)) (by decide +kernel)
theorem k_101 : Jvm.Cond.initialized "JobText$Rows" ∈ gk_tw := gk_in (List.mem_of_getElem? (i := 101) (by decide +kernel)) (by decide +kernel)
theorem k_122 : Jvm.Cond.methodLink "JobText" (3 : Nat) ({ cls := "java/lang/Object", name := "<init>", desc := "()V" } : Jvm.MethodName) ∈ gk_tw := gk_in (List.mem_of_getElem? (i := 122) (by decide +kernel)) (by decide +kernel)
theorem k_123 : Jvm.Cond.instanceMethod ({ cls := "java/lang/Object", name := "<init>", desc := "()V" } : Jvm.MethodName) ∈ gk_tw := gk_in (List.mem_of_getElem? (i := 123) (by decide +kernel)) (by decide +kernel)
theorem k_124 : Jvm.Cond.code ({ cls := "java/lang/Object", name := "<init>", desc := "()V" } : Jvm.MethodName) object_method_1_code (1 : Nat) (Option.none : Option Jvm.ClassFile.FieldType) ∈ gk_tw := gk_in (List.mem_of_getElem? (i := 124) (by decide +kernel)) (by decide +kernel)
theorem k_125 : Jvm.Cond.classLink "JobText" (13 : Nat) "JobText$Faults" ∈ gk_tw := gk_in (List.mem_of_getElem? (i := 125) (by decide +kernel)) (by decide +kernel)
theorem k_126 : Jvm.Cond.instantiable "JobText$Faults" (5 : Nat) ∈ gk_tw := gk_in (List.mem_of_getElem? (i := 126) (by decide +kernel)) (by decide +kernel)
theorem k_128 : Jvm.Cond.instanceMethod ({ cls := "JobText$Faults", name := "<init>", desc := "()V" } : Jvm.MethodName) ∈ gk_tw := gk_in (List.mem_of_getElem? (i := 128) (by decide +kernel)) (by decide +kernel)
theorem k_129 : Jvm.Cond.code ({ cls := "JobText$Faults", name := "<init>", desc := "()V" } : Jvm.MethodName) prog_5_method_1_code (1 : Nat) (Option.none : Option Jvm.ClassFile.FieldType) ∈ gk_tw := gk_in (List.mem_of_getElem? (i := 129) (by decide +kernel)) (by decide +kernel)
theorem k_130 : Jvm.Cond.methodLink "JobText$Faults" (3 : Nat) ({ cls := "java/lang/Object", name := "<init>", desc := "()V" } : Jvm.MethodName) ∈ gk_tw := gk_in (List.mem_of_getElem? (i := 130) (by decide +kernel)) (by decide +kernel)
theorem k_131 : Jvm.Cond.fieldLink "JobText$Faults" (9 : Nat) "JobText$Faults" "lines" "[I" ∈ gk_tw := gk_in (List.mem_of_getElem? (i := 131) (by decide +kernel)) (by decide +kernel)
theorem k_132 : Jvm.Cond.fieldLink "JobText$Faults" (15 : Nat) "JobText$Faults" "columns" "[I" ∈ gk_tw := gk_in (List.mem_of_getElem? (i := 132) (by decide +kernel)) (by decide +kernel)
theorem k_133 : Jvm.Cond.fieldLink "JobText$Faults" (18 : Nat) "JobText$Faults" "kinds" "[I" ∈ gk_tw := gk_in (List.mem_of_getElem? (i := 133) (by decide +kernel)) (by decide +kernel)
theorem k_134 : Jvm.Cond.fieldLink "JobText$Faults" (21 : Nat) "JobText$Faults" "nearest" "[I" ∈ gk_tw := gk_in (List.mem_of_getElem? (i := 134) (by decide +kernel)) (by decide +kernel)
theorem k_147 : Jvm.Cond.arrayClass Jvm.ClassFile.FieldType.byte ∈ gk_tw := gk_in (List.mem_of_getElem? (i := 147) (by decide +kernel)) (by decide +kernel)
theorem k_148 : Jvm.Cond.arrayClass Jvm.ClassFile.FieldType.int ∈ gk_tw := gk_in (List.mem_of_getElem? (i := 148) (by decide +kernel)) (by decide +kernel)
theorem k_149 : Jvm.Cond.classLink "JobText" (20 : Nat) "java/util/ArrayList" ∈ gk_tw := gk_in (List.mem_of_getElem? (i := 149) (by decide +kernel)) (by decide +kernel)
theorem k_150 : Jvm.Cond.instantiable "java/util/ArrayList" (3 : Nat) ∈ gk_tw := gk_in (List.mem_of_getElem? (i := 150) (by decide +kernel)) (by decide +kernel)
theorem k_151 : Jvm.Cond.methodLink "JobText" (22 : Nat) ({ cls := "java/util/ArrayList", name := "<init>", desc := "()V" } : Jvm.MethodName) ∈ gk_tw := gk_in (List.mem_of_getElem? (i := 151) (by decide +kernel)) (by decide +kernel)
theorem k_152 : Jvm.Cond.instanceMethod ({ cls := "java/util/ArrayList", name := "<init>", desc := "()V" } : Jvm.MethodName) ∈ gk_tw := gk_in (List.mem_of_getElem? (i := 152) (by decide +kernel)) (by decide +kernel)
theorem k_153 : Jvm.Cond.code ({ cls := "java/util/ArrayList", name := "<init>", desc := "()V" } : Jvm.MethodName) prog_27_method_2_code (1 : Nat) (Option.none : Option Jvm.ClassFile.FieldType) ∈ gk_tw := gk_in (List.mem_of_getElem? (i := 153) (by decide +kernel)) (by decide +kernel)
theorem k_154 : Jvm.Cond.methodLink "java/util/ArrayList" (1 : Nat) ({ cls := "java/util/AbstractList", name := "<init>", desc := "()V" } : Jvm.MethodName) ∈ gk_tw := gk_in (List.mem_of_getElem? (i := 154) (by decide +kernel)) (by decide +kernel)
theorem k_155 : Jvm.Cond.instanceMethod ({ cls := "java/util/AbstractList", name := "<init>", desc := "()V" } : Jvm.MethodName) ∈ gk_tw := gk_in (List.mem_of_getElem? (i := 155) (by decide +kernel)) (by decide +kernel)
theorem k_156 : Jvm.Cond.code ({ cls := "java/util/AbstractList", name := "<init>", desc := "()V" } : Jvm.MethodName) prog_26_method_1_code (1 : Nat) (Option.none : Option Jvm.ClassFile.FieldType) ∈ gk_tw := gk_in (List.mem_of_getElem? (i := 156) (by decide +kernel)) (by decide +kernel)
theorem k_157 : Jvm.Cond.methodLink "java/util/AbstractList" (1 : Nat) ({ cls := "java/util/AbstractCollection", name := "<init>", desc := "()V" } : Jvm.MethodName) ∈ gk_tw := gk_in (List.mem_of_getElem? (i := 157) (by decide +kernel)) (by decide +kernel)
theorem k_158 : Jvm.Cond.instanceMethod ({ cls := "java/util/AbstractCollection", name := "<init>", desc := "()V" } : Jvm.MethodName) ∈ gk_tw := gk_in (List.mem_of_getElem? (i := 158) (by decide +kernel)) (by decide +kernel)
theorem k_159 : Jvm.Cond.code ({ cls := "java/util/AbstractCollection", name := "<init>", desc := "()V" } : Jvm.MethodName) prog_25_method_1_code (1 : Nat) (Option.none : Option Jvm.ClassFile.FieldType) ∈ gk_tw := gk_in (List.mem_of_getElem? (i := 159) (by decide +kernel)) (by decide +kernel)
theorem k_160 : Jvm.Cond.methodLink "java/util/AbstractCollection" (1 : Nat) ({ cls := "java/lang/Object", name := "<init>", desc := "()V" } : Jvm.MethodName) ∈ gk_tw := gk_in (List.mem_of_getElem? (i := 160) (by decide +kernel)) (by decide +kernel)
theorem k_161 : Jvm.Cond.fieldLink "java/util/ArrayList" (39 : Nat) "java/util/ArrayList" "DEFAULTCAPACITY_EMPTY_ELEMENTDATA" "[Ljava/lang/Object;" ∈ gk_tw := gk_in (List.mem_of_getElem? (i := 161) (by decide +kernel)) (by decide +kernel)
theorem k_163 : Jvm.Cond.fieldLink "java/util/ArrayList" (9 : Nat) "java/util/ArrayList" "elementData" "[Ljava/lang/Object;" ∈ gk_tw := gk_in (List.mem_of_getElem? (i := 163) (by decide +kernel)) (by decide +kernel)
theorem k_165 : Jvm.Cond.fieldLink "java/util/AbstractList" (7 : Nat) "java/util/AbstractList" "modCount" "I" ∈ gk_tw := gk_in (List.mem_of_getElem? (i := 165) (by decide +kernel)) (by decide +kernel)
theorem k_175 : Jvm.Cond.classLink "JobText" (27 : Nat) "JobText$Expander" ∈ gk_tw := gk_in (List.mem_of_getElem? (i := 175) (by decide +kernel)) (by decide +kernel)
theorem k_176 : Jvm.Cond.instantiable "JobText$Expander" (12 : Nat) ∈ gk_tw := gk_in (List.mem_of_getElem? (i := 176) (by decide +kernel)) (by decide +kernel)
theorem k_178 : Jvm.Cond.instanceMethod ({ cls := "JobText$Expander", name := "<init>", desc := "()V" } : Jvm.MethodName) ∈ gk_tw := gk_in (List.mem_of_getElem? (i := 178) (by decide +kernel)) (by decide +kernel)
theorem k_179 : Jvm.Cond.code ({ cls := "JobText$Expander", name := "<init>", desc := "()V" } : Jvm.MethodName) prog_4_method_1_code (1 : Nat) (Option.none : Option Jvm.ClassFile.FieldType) ∈ gk_tw := gk_in (List.mem_of_getElem? (i := 179) (by decide +kernel)) (by decide +kernel)
theorem k_180 : Jvm.Cond.methodLink "JobText$Expander" (3 : Nat) ({ cls := "java/lang/Object", name := "<init>", desc := "()V" } : Jvm.MethodName) ∈ gk_tw := gk_in (List.mem_of_getElem? (i := 180) (by decide +kernel)) (by decide +kernel)
theorem k_181 : Jvm.Cond.classLink "JobText$Expander" (9 : Nat) "JobText$Listing" ∈ gk_tw := gk_in (List.mem_of_getElem? (i := 181) (by decide +kernel)) (by decide +kernel)
theorem k_182 : Jvm.Cond.instantiable "JobText$Listing" (8 : Nat) ∈ gk_tw := gk_in (List.mem_of_getElem? (i := 182) (by decide +kernel)) (by decide +kernel)
theorem k_184 : Jvm.Cond.instanceMethod ({ cls := "JobText$Listing", name := "<init>", desc := "()V" } : Jvm.MethodName) ∈ gk_tw := gk_in (List.mem_of_getElem? (i := 184) (by decide +kernel)) (by decide +kernel)
theorem k_185 : Jvm.Cond.code ({ cls := "JobText$Listing", name := "<init>", desc := "()V" } : Jvm.MethodName) prog_8_method_1_code (1 : Nat) (Option.none : Option Jvm.ClassFile.FieldType) ∈ gk_tw := gk_in (List.mem_of_getElem? (i := 185) (by decide +kernel)) (by decide +kernel)
theorem k_186 : Jvm.Cond.methodLink "JobText$Listing" (3 : Nat) ({ cls := "java/lang/Object", name := "<init>", desc := "()V" } : Jvm.MethodName) ∈ gk_tw := gk_in (List.mem_of_getElem? (i := 186) (by decide +kernel)) (by decide +kernel)
theorem k_187 : Jvm.Cond.classLink "JobText$Listing" (30 : Nat) "java/lang/StringBuilder" ∈ gk_tw := gk_in (List.mem_of_getElem? (i := 187) (by decide +kernel)) (by decide +kernel)
theorem k_188 : Jvm.Cond.instantiable "java/lang/StringBuilder" (4 : Nat) ∈ gk_tw := gk_in (List.mem_of_getElem? (i := 188) (by decide +kernel)) (by decide +kernel)
theorem k_189 : Jvm.Cond.methodLink "JobText$Listing" (32 : Nat) ({ cls := "java/lang/StringBuilder", name := "<init>", desc := "()V" } : Jvm.MethodName) ∈ gk_tw := gk_in (List.mem_of_getElem? (i := 189) (by decide +kernel)) (by decide +kernel)
theorem k_190 : Jvm.Cond.instanceMethod ({ cls := "java/lang/StringBuilder", name := "<init>", desc := "()V" } : Jvm.MethodName) ∈ gk_tw := gk_in (List.mem_of_getElem? (i := 190) (by decide +kernel)) (by decide +kernel)
theorem k_191 : Jvm.Cond.code ({ cls := "java/lang/StringBuilder", name := "<init>", desc := "()V" } : Jvm.MethodName) prog_21_method_1_code (1 : Nat) (Option.none : Option Jvm.ClassFile.FieldType) ∈ gk_tw := gk_in (List.mem_of_getElem? (i := 191) (by decide +kernel)) (by decide +kernel)
theorem k_192 : Jvm.Cond.methodLink "java/lang/StringBuilder" (1 : Nat) ({ cls := "java/lang/AbstractStringBuilder", name := "<init>", desc := "(I)V" } : Jvm.MethodName) ∈ gk_tw := gk_in (List.mem_of_getElem? (i := 192) (by decide +kernel)) (by decide +kernel)
theorem k_193 : Jvm.Cond.instanceMethod ({ cls := "java/lang/AbstractStringBuilder", name := "<init>", desc := "(I)V" } : Jvm.MethodName) ∈ gk_tw := gk_in (List.mem_of_getElem? (i := 193) (by decide +kernel)) (by decide +kernel)
theorem k_194 : Jvm.Cond.code ({ cls := "java/lang/AbstractStringBuilder", name := "<init>", desc := "(I)V" } : Jvm.MethodName) prog_16_method_2_code (2 : Nat) (Option.none : Option Jvm.ClassFile.FieldType) ∈ gk_tw := gk_in (List.mem_of_getElem? (i := 194) (by decide +kernel)) (by decide +kernel)
theorem k_195 : Jvm.Cond.methodLink "java/lang/AbstractStringBuilder" (3 : Nat) ({ cls := "java/lang/Object", name := "<init>", desc := "()V" } : Jvm.MethodName) ∈ gk_tw := gk_in (List.mem_of_getElem? (i := 195) (by decide +kernel)) (by decide +kernel)
theorem k_196 : Jvm.Cond.fieldLink "java/lang/AbstractStringBuilder" (18 : Nat) "java/lang/String" "COMPACT_STRINGS" "Z" ∈ gk_tw := gk_in (List.mem_of_getElem? (i := 196) (by decide +kernel)) (by decide +kernel)
theorem k_205 : Jvm.Cond.fieldLink "java/lang/AbstractStringBuilder" (15 : Nat) "java/lang/AbstractStringBuilder" "value" "[B" ∈ gk_tw := gk_in (List.mem_of_getElem? (i := 205) (by decide +kernel)) (by decide +kernel)
theorem k_206 : Jvm.Cond.fieldLink "java/lang/AbstractStringBuilder" (22 : Nat) "java/lang/AbstractStringBuilder" "coder" "B" ∈ gk_tw := gk_in (List.mem_of_getElem? (i := 206) (by decide +kernel)) (by decide +kernel)
theorem k_218 : Jvm.Cond.fieldLink "JobText$Listing" (9 : Nat) "JobText$Listing" "lines" "[I" ∈ gk_tw := gk_in (List.mem_of_getElem? (i := 218) (by decide +kernel)) (by decide +kernel)
theorem k_219 : Jvm.Cond.fieldLink "JobText$Listing" (15 : Nat) "JobText$Listing" "operations" "[I" ∈ gk_tw := gk_in (List.mem_of_getElem? (i := 219) (by decide +kernel)) (by decide +kernel)
theorem k_220 : Jvm.Cond.fieldLink "JobText$Listing" (18 : Nat) "JobText$Listing" "depths" "[I" ∈ gk_tw := gk_in (List.mem_of_getElem? (i := 220) (by decide +kernel)) (by decide +kernel)
theorem k_221 : Jvm.Cond.fieldLink "JobText$Listing" (21 : Nat) "JobText$Listing" "counts" "[I" ∈ gk_tw := gk_in (List.mem_of_getElem? (i := 221) (by decide +kernel)) (by decide +kernel)
theorem k_222 : Jvm.Cond.fieldLink "JobText$Listing" (24 : Nat) "JobText$Listing" "changes" "[I" ∈ gk_tw := gk_in (List.mem_of_getElem? (i := 222) (by decide +kernel)) (by decide +kernel)
theorem k_223 : Jvm.Cond.fieldLink "JobText$Listing" (27 : Nat) "JobText$Listing" "ends" "[I" ∈ gk_tw := gk_in (List.mem_of_getElem? (i := 223) (by decide +kernel)) (by decide +kernel)
theorem k_224 : Jvm.Cond.fieldLink "JobText$Listing" (33 : Nat) "JobText$Listing" "letters" "Ljava/lang/StringBuilder;" ∈ gk_tw := gk_in (List.mem_of_getElem? (i := 224) (by decide +kernel)) (by decide +kernel)
theorem k_243 : Jvm.Cond.classLink "JobText$Expander" (18 : Nat) "JobText$Rows" ∈ gk_tw := gk_in (List.mem_of_getElem? (i := 243) (by decide +kernel)) (by decide +kernel)
theorem k_244 : Jvm.Cond.instantiable "JobText$Rows" (4 : Nat) ∈ gk_tw := gk_in (List.mem_of_getElem? (i := 244) (by decide +kernel)) (by decide +kernel)
theorem k_246 : Jvm.Cond.instanceMethod ({ cls := "JobText$Rows", name := "<init>", desc := "()V" } : Jvm.MethodName) ∈ gk_tw := gk_in (List.mem_of_getElem? (i := 246) (by decide +kernel)) (by decide +kernel)
theorem k_247 : Jvm.Cond.code ({ cls := "JobText$Rows", name := "<init>", desc := "()V" } : Jvm.MethodName) prog_10_method_1_code (1 : Nat) (Option.none : Option Jvm.ClassFile.FieldType) ∈ gk_tw := gk_in (List.mem_of_getElem? (i := 247) (by decide +kernel)) (by decide +kernel)
theorem k_248 : Jvm.Cond.methodLink "JobText$Rows" (3 : Nat) ({ cls := "java/lang/Object", name := "<init>", desc := "()V" } : Jvm.MethodName) ∈ gk_tw := gk_in (List.mem_of_getElem? (i := 248) (by decide +kernel)) (by decide +kernel)
theorem k_249 : Jvm.Cond.fieldLink "JobText$Rows" (9 : Nat) "JobText$Rows" "keys" "[J" ∈ gk_tw := gk_in (List.mem_of_getElem? (i := 249) (by decide +kernel)) (by decide +kernel)
theorem k_250 : Jvm.Cond.fieldLink "JobText$Rows" (15 : Nat) "JobText$Rows" "lengths" "[I" ∈ gk_tw := gk_in (List.mem_of_getElem? (i := 250) (by decide +kernel)) (by decide +kernel)
theorem k_251 : Jvm.Cond.fieldLink "JobText$Rows" (19 : Nat) "JobText$Rows" "values" "[B" ∈ gk_tw := gk_in (List.mem_of_getElem? (i := 251) (by decide +kernel)) (by decide +kernel)
theorem k_262 : Jvm.Cond.arrayClass Jvm.ClassFile.FieldType.long ∈ gk_tw := gk_in (List.mem_of_getElem? (i := 262) (by decide +kernel)) (by decide +kernel)
theorem k_263 : Jvm.Cond.classLink "JobText$Expander" (28 : Nat) "java/util/ArrayList" ∈ gk_tw := gk_in (List.mem_of_getElem? (i := 263) (by decide +kernel)) (by decide +kernel)
theorem k_264 : Jvm.Cond.methodLink "JobText$Expander" (30 : Nat) ({ cls := "java/util/ArrayList", name := "<init>", desc := "()V" } : Jvm.MethodName) ∈ gk_tw := gk_in (List.mem_of_getElem? (i := 264) (by decide +kernel)) (by decide +kernel)
theorem k_265 : Jvm.Cond.fieldLink "JobText$Expander" (12 : Nat) "JobText$Expander" "listing" "LJobText$Listing;" ∈ gk_tw := gk_in (List.mem_of_getElem? (i := 265) (by decide +kernel)) (by decide +kernel)
theorem k_266 : Jvm.Cond.fieldLink "JobText$Expander" (21 : Nat) "JobText$Expander" "rows" "LJobText$Rows;" ∈ gk_tw := gk_in (List.mem_of_getElem? (i := 266) (by decide +kernel)) (by decide +kernel)
theorem k_267 : Jvm.Cond.fieldLink "JobText$Expander" (25 : Nat) "JobText$Expander" "sets" "LJobText$Rows;" ∈ gk_tw := gk_in (List.mem_of_getElem? (i := 267) (by decide +kernel)) (by decide +kernel)
theorem k_268 : Jvm.Cond.fieldLink "JobText$Expander" (31 : Nat) "JobText$Expander" "frames" "Ljava/util/ArrayList;" ∈ gk_tw := gk_in (List.mem_of_getElem? (i := 268) (by decide +kernel)) (by decide +kernel)
theorem k_269 : Jvm.Cond.fieldLink "JobText$Expander" (35 : Nat) "JobText$Expander" "overrides" "Ljava/util/ArrayList;" ∈ gk_tw := gk_in (List.mem_of_getElem? (i := 269) (by decide +kernel)) (by decide +kernel)
theorem k_270 : Jvm.Cond.fieldLink "JobText$Expander" (38 : Nat) "JobText$Expander" "procedures" "Ljava/util/ArrayList;" ∈ gk_tw := gk_in (List.mem_of_getElem? (i := 270) (by decide +kernel)) (by decide +kernel)
theorem k_271 : Jvm.Cond.fieldLink "JobText$Expander" (41 : Nat) "JobText$Expander" "library" "Ljava/util/ArrayList;" ∈ gk_tw := gk_in (List.mem_of_getElem? (i := 271) (by decide +kernel)) (by decide +kernel)
theorem k_302 : Jvm.Cond.fieldLink "JobText" (9 : Nat) "JobText" "signs" "[B" ∈ gk_tw := gk_in (List.mem_of_getElem? (i := 302) (by decide +kernel)) (by decide +kernel)
theorem k_303 : Jvm.Cond.fieldLink "JobText" (16 : Nat) "JobText" "faults" "LJobText$Faults;" ∈ gk_tw := gk_in (List.mem_of_getElem? (i := 303) (by decide +kernel)) (by decide +kernel)
theorem k_304 : Jvm.Cond.fieldLink "JobText" (23 : Nat) "JobText" "library" "Ljava/util/ArrayList;" ∈ gk_tw := gk_in (List.mem_of_getElem? (i := 304) (by decide +kernel)) (by decide +kernel)
theorem k_305 : Jvm.Cond.fieldLink "JobText" (30 : Nat) "JobText" "expander" "LJobText$Expander;" ∈ gk_tw := gk_in (List.mem_of_getElem? (i := 305) (by decide +kernel)) (by decide +kernel)
theorem nk_0 : Jvm.Cond.methodLinkNest "JobText" (15 : Nat) ({ cls := "JobText$Faults", name := "<init>", desc := "()V" } : Jvm.MethodName) "JobText" ∈ gk_nw := List.mem_of_getElem? (i := 0) (by decide +kernel)
theorem nk_1 : Jvm.Cond.methodLinkNest "JobText" (29 : Nat) ({ cls := "JobText$Expander", name := "<init>", desc := "()V" } : Jvm.MethodName) "JobText" ∈ gk_nw := List.mem_of_getElem? (i := 1) (by decide +kernel)
theorem nk_2 : Jvm.Cond.methodLinkNest "JobText$Expander" (11 : Nat) ({ cls := "JobText$Listing", name := "<init>", desc := "()V" } : Jvm.MethodName) "JobText" ∈ gk_nw := List.mem_of_getElem? (i := 2) (by decide +kernel)
theorem nk_3 : Jvm.Cond.methodLinkNest "JobText$Expander" (20 : Nat) ({ cls := "JobText$Rows", name := "<init>", desc := "()V" } : Jvm.MethodName) "JobText" ∈ gk_nw := List.mem_of_getElem? (i := 3) (by decide +kernel)
abbrev b_Ac_init : ByteArray := prog_25_method_1_code
def y_Ac_init : MethodName := ⟨"java/util/AbstractCollection", "<init>", "()V"⟩
abbrev b_Ab_init : ByteArray := prog_26_method_1_code
def y_Ab_init : MethodName := ⟨"java/util/AbstractList", "<init>", "()V"⟩
abbrev b_Al_init : ByteArray := prog_27_method_2_code
def y_Al_init : MethodName := ⟨"java/util/ArrayList", "<init>", "()V"⟩
abbrev b_As_init : ByteArray := prog_16_method_2_code
def y_As_init : MethodName := ⟨"java/lang/AbstractStringBuilder", "<init>", "(I)V"⟩
abbrev b_Sb_init : ByteArray := prog_21_method_1_code
def y_Sb_init : MethodName := ⟨"java/lang/StringBuilder", "<init>", "()V"⟩
abbrev b_Fa_init : ByteArray := prog_5_method_1_code
def y_Fa_init : MethodName := ⟨"JobText$Faults", "<init>", "()V"⟩
abbrev b_Ro_init : ByteArray := prog_10_method_1_code
def y_Ro_init : MethodName := ⟨"JobText$Rows", "<init>", "()V"⟩
abbrev b_Li_init : ByteArray := prog_8_method_1_code
def y_Li_init : MethodName := ⟨"JobText$Listing", "<init>", "()V"⟩
abbrev b_Ex_init : ByteArray := prog_4_method_1_code
def y_Ex_init : MethodName := ⟨"JobText$Expander", "<init>", "()V"⟩
abbrev b_Jt_init : ByteArray := prog_1_method_1_code
def y_Jt_init : MethodName := ⟨"JobText", "<init>", "()V"⟩
theorem ok_Ac_init : gk_ok y_Ac_init b_Ac_init 1 (none) 0 := ⟨⟨k_159, k_92⟩, by decide, by decide, by decide +kernel⟩
theorem ok_Ab_init : gk_ok y_Ab_init b_Ab_init 1 (none) 0 := ⟨⟨k_156, k_93⟩, by decide, by decide, by decide +kernel⟩
theorem ok_As_init : gk_ok y_As_init b_As_init 2 (none) 1 := ⟨⟨k_194, k_97⟩, by decide, by decide, by decide +kernel⟩
theorem ok_Sb_init : gk_ok y_Sb_init b_Sb_init 1 (none) 0 := ⟨⟨k_191, k_98⟩, by decide, by decide, by decide +kernel⟩
theorem ok_Li_init : gk_ok y_Li_init b_Li_init 1 (none) 0 := ⟨⟨k_185, k_96⟩, by decide, by decide, by decide +kernel⟩
theorem ok_Ro_init : gk_ok y_Ro_init b_Ro_init 1 (none) 0 := ⟨⟨k_247, k_101⟩, by decide, by decide, by decide +kernel⟩
theorem ok_Al_init : gk_ok y_Al_init b_Al_init 1 (none) 0 := ⟨⟨k_153, k_94⟩, by decide, by decide, by decide +kernel⟩
theorem ok_Fa_init : gk_ok y_Fa_init b_Fa_init 1 (none) 0 := ⟨⟨k_129, k_91⟩, by decide, by decide, by decide +kernel⟩
theorem ok_Ex_init : gk_ok y_Ex_init b_Ex_init 1 (none) 0 := ⟨⟨k_179, k_95⟩, by decide, by decide, by decide +kernel⟩
