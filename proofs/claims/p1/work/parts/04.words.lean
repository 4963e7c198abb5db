/-! WORDS, METHODS, DECODED INSTRUCTIONS (printed by wip/p1) -/
theorem gk_upd0 (k : Nat) : upd (fun _ => (0 : Int32)) k 0 = (fun _ => 0) := by
  funext j
  unfold upd
  split <;> rfl
theorem in_Jt : ∀ w ∈ u_ws R_Jt F_Jt 6, w ∈ gk_tw := fun w h => gk_in (in0_Jt w h) (ing_Jt w h)
theorem in_Fa : ∀ w ∈ u_ws R_Fa F_Fa 5, w ∈ gk_tw := fun w h => gk_in (in0_Fa w h) (ing_Fa w h)
theorem in_Ex : ∀ w ∈ u_ws R_Ex F_Ex 12, w ∈ gk_tw := fun w h => gk_in (in0_Ex w h) (ing_Ex w h)
theorem in_Li : ∀ w ∈ u_ws R_Li F_Li 8, w ∈ gk_tw := fun w h => gk_in (in0_Li w h) (ing_Li w h)
theorem in_Ro : ∀ w ∈ u_ws R_Ro F_Ro 4, w ∈ gk_tw := fun w h => gk_in (in0_Ro w h) (ing_Ro w h)
theorem in_Al : ∀ w ∈ u_ws R_Al F_Al 3, w ∈ gk_tw := fun w h => gk_in (in0_Al w h) (ing_Al w h)
theorem in_Sb : ∀ w ∈ u_ws R_Sb F_Sb 4, w ∈ gk_tw := fun w h => gk_in (in0_Sb w h) (ing_Sb w h)
theorem in_Te : ∀ w ∈ u_ws R_Te F_Te 7, w ∈ gk_tw := fun w h => gk_in (in0_Te w h) (ing_Te w h)
theorem in_Ln : ∀ w ∈ u_ws R_Ln F_Ln 4, w ∈ gk_tw := fun w h => gk_in (in0_Ln w h) (ing_Ln w h)
theorem in_Re : ∀ w ∈ u_ws R_Re F_Re 9, w ∈ gk_tw := fun w h => gk_in (in0_Re w h) (ing_Re w h)
theorem in_Mo : ∀ w ∈ u_ws R_Mo F_Mo 81, w ∈ gk_tw := fun w h => gk_in (in0_Mo w h) (ing_Mo w h)
theorem k_19 : Jvm.Cond.selects "JobText" ({ cls := "JobText", name := "shelve", desc := "(LJobText$Text;)Z" } : Jvm.MethodName) ({ cls := "JobText", name := "shelve", desc := "(LJobText$Text;)Z" } : Jvm.MethodName) ∈ gk_tw := gk_in (List.mem_of_getElem? (i := 19) (by decide +kernel)) (by decide +kernel)
theorem k_20 : Jvm.Cond.selects "JobText" ({ cls := "JobText", name := "statementOf", desc := "(I)LJobText$Statement;" } : Jvm.MethodName) ({ cls := "JobText", name := "statementOf", desc := "(I)LJobText$Statement;" } : Jvm.MethodName) ∈ gk_tw := gk_in (List.mem_of_getElem? (i := 20) (by decide +kernel)) (by decide +kernel)
theorem k_21 : Jvm.Cond.selects "JobText" ({ cls := "JobText", name := "hasJob", desc := "()Z" } : Jvm.MethodName) ({ cls := "JobText", name := "hasJob", desc := "()Z" } : Jvm.MethodName) ∈ gk_tw := gk_in (List.mem_of_getElem? (i := 21) (by decide +kernel)) (by decide +kernel)
theorem k_37 : Jvm.Cond.selects "JobTextModel" ({ cls := "JobTextModel", name := "split", desc := "(I)V" } : Jvm.MethodName) ({ cls := "JobTextModel", name := "split", desc := "(I)V" } : Jvm.MethodName) ∈ gk_tw := gk_in (List.mem_of_getElem? (i := 37) (by decide +kernel)) (by decide +kernel)
theorem k_64 : Jvm.Cond.selects "JobTextModel" ({ cls := "JobTextModel", name := "keep", desc := "()Z" } : Jvm.MethodName) ({ cls := "JobTextModel", name := "keep", desc := "()Z" } : Jvm.MethodName) ∈ gk_tw := gk_in (List.mem_of_getElem? (i := 64) (by decide +kernel)) (by decide +kernel)
theorem k_90 : Jvm.Cond.initialized "JobText" ∈ gk_tw := gk_in (List.mem_of_getElem? (i := 90) (by decide +kernel)) (by decide +kernel)
theorem k_91 : Jvm.Cond.initialized "JobText$Faults" ∈ gk_tw := gk_in (List.mem_of_getElem? (i := 91) (by decide +kernel)) (by decide +kernel)
theorem k_92 : Jvm.Cond.initialized "java/util/AbstractCollection" ∈ gk_tw := gk_in (List.mem_of_getElem? (i := 92) (by decide +kernel)) (by decide +kernel)
theorem k_93 : Jvm.Cond.initialized "java/util/AbstractList" ∈ gk_tw := gk_in (List.mem_of_getElem? (i := 93) (by decide +kernel)) (by decide +kernel)
theorem k_94 : Jvm.Cond.initialized "java/util/ArrayList" ∈ gk_tw := gk_in (List.mem_of_getElem? (i := 94) (by decide +kernel)) (by decide +kernel)
theorem k_95 : Jvm.Cond.initialized "JobText$Expander" ∈ gk_tw := gk_in (List.mem_of_getElem? (i := 95) (by decide +kernel)) (by decide +kernel)
theorem k_96 : Jvm.Cond.initialized "JobText$Listing" ∈ gk_tw := gk_in (List.mem_of_getElem? (i := 96) (by decide +kernel)) (by decide +kernel)
theorem k_97 : Jvm.Cond.initialized "java/lang/AbstractStringBuilder" ∈ gk_tw := gk_in (List.mem_of_getElem? (i := 97) (by decide +kernel)) (by decide +kernel)
theorem k_98 : Jvm.Cond.initialized "java/lang/StringBuilder" ∈ gk_tw := gk_in (List.mem_of_getElem? (i := 98) (by decide +kernel)) (by decide +kernel)
theorem k_101 : Jvm.Cond.initialized "JobText$Rows" ∈ gk_tw := gk_in (List.mem_of_getElem? (i := 101) (by decide +kernel)) (by decide +kernel)
theorem k_102 : Jvm.Cond.initialized "JobTextModel" ∈ gk_tw := gk_in (List.mem_of_getElem? (i := 102) (by decide +kernel)) (by decide +kernel)
theorem k_103 : Jvm.Cond.initialized "JobText$Text" ∈ gk_tw := gk_in (List.mem_of_getElem? (i := 103) (by decide +kernel)) (by decide +kernel)
theorem k_104 : Jvm.Cond.initialized "JobText$Lines" ∈ gk_tw := gk_in (List.mem_of_getElem? (i := 104) (by decide +kernel)) (by decide +kernel)
theorem k_105 : Jvm.Cond.initialized "java/lang/Math" ∈ gk_tw := gk_in (List.mem_of_getElem? (i := 105) (by decide +kernel)) (by decide +kernel)
theorem k_106 : Jvm.Cond.initialized "JobText$Reader" ∈ gk_tw := gk_in (List.mem_of_getElem? (i := 106) (by decide +kernel)) (by decide +kernel)
theorem k_117 : Jvm.Cond.classLink "JobTextLaw" (7 : Nat) "JobText" ∈ gk_tw := gk_in (List.mem_of_getElem? (i := 117) (by decide +kernel)) (by decide +kernel)
theorem k_118 : Jvm.Cond.instantiable "JobText" (6 : Nat) ∈ gk_tw := gk_in (List.mem_of_getElem? (i := 118) (by decide +kernel)) (by decide +kernel)
theorem k_119 : Jvm.Cond.methodLink "JobTextLaw" (9 : Nat) ({ cls := "JobText", name := "<init>", desc := "()V" } : Jvm.MethodName) ∈ gk_tw := gk_in (List.mem_of_getElem? (i := 119) (by decide +kernel)) (by decide +kernel)
theorem k_120 : Jvm.Cond.instanceMethod ({ cls := "JobText", name := "<init>", desc := "()V" } : Jvm.MethodName) ∈ gk_tw := gk_in (List.mem_of_getElem? (i := 120) (by decide +kernel)) (by decide +kernel)
theorem k_121 : Jvm.Cond.code ({ cls := "JobText", name := "<init>", desc := "()V" } : Jvm.MethodName) prog_1_method_1_code (1 : Nat) (Option.none : Option Jvm.ClassFile.FieldType) ∈ gk_tw := gk_in (List.mem_of_getElem? (i := 121) (by decide +kernel)) (by decide +kernel)
theorem k_122 : Jvm.Cond.methodLink "JobText" (3 : Nat) ({ cls := "java/lang/Object", name := "<init>", desc := "()V" } : Jvm.MethodName) ∈ gk_tw := gk_in (List.mem_of_getElem? (i := 122) (by decide +kernel)) (by decide +kernel)
theorem k_123 : Jvm.Cond.instanceMethod ({ cls := "java/lang/Object", name := "<init>", desc := "()V" } : Jvm.MethodName) ∈ gk_tw := gk_in (List.mem_of_getElem? (i := 123) (by decide +kernel)) (by decide +kernel)
theorem k_124 : Jvm.Cond.code ({ cls := "java/lang/Object", name := "<init>", desc := "()V" } : Jvm.MethodName) object_method_1_code (1 : Nat) (Option.none : Option Jvm.ClassFile.FieldType) ∈ gk_tw := gk_in (List.mem_of_getElem? (i := 124) (by decide +kernel)) (by decide +kernel)
theorem k_125 : Jvm.Cond.classLink "JobText" (13 : Nat) "JobText$Faults" ∈ gk_tw := gk_in (List.mem_of_getElem? (i := 125) (by decide +kernel)) (by decide +kernel)
theorem k_126 : Jvm.Cond.instantiable "JobText$Faults" (5 : Nat) ∈ gk_tw := gk_in (List.mem_of_getElem? (i := 126) (by decide +kernel)) (by decide +kernel)
theorem k_128 : Jvm.Cond.instanceMethod ({ cls := "JobText$Faults", name := "<init>", desc := "()V" } : Jvm.MethodName) ∈ gk_tw := gk_in (List.mem_of_getElem? (i := 128) (by decide +kernel)) (by decide +kernel)
theorem k_129 : Jvm.Cond.code ({ cls := "JobText$Faults", name := "<init>", desc := "()V" } : Jvm.MethodName) prog_5_method_1_code (1 : Nat) (Option.none : Option Jvm.ClassFile.FieldType) ∈ gk_tw := gk_in (List.mem_of_getElem? (i := 129) (by decide +kernel)) (by decide +kernel)
theorem k_130 : Jvm.Cond.methodLink "JobText$Faults" (3 : Nat) ({ cls := "java/lang/Object", name := "<init>", desc := "()V" } : Jvm.MethodName) ∈ gk_tw := gk_in (List.mem_of_getElem? (i := 130) (by decide +kernel)) (by decide +kernel)
theorem k_131 : Jvm.Cond.fieldLink "JobText$Faults" (9 : Nat) "JobText$Faults" "lines" "[I" ∈ gk_tw := gk_in (List.mem_of_getElem? (i := 131) (by decide +kernel)) (by decide +kernel)
theorem k_132 : Jvm.Cond.fieldLink "JobText$Faults" (15 : Nat) "JobText$Faults" "columns" "[I" ∈ gk_tw := gk_in (List.mem_of_getElem? (i := 132) (by decide +kernel)) (by decide +kernel)
theorem k_133 : Jvm.Cond.fieldLink "JobText$Faults" (18 : Nat) "JobText$Faults" "kinds" "[I" ∈ gk_tw := gk_in (List.mem_of_getElem? (i := 133) (by decide +kernel)) (by decide +kernel)
theorem k_134 : Jvm.Cond.fieldLink "JobText$Faults" (21 : Nat) "JobText$Faults" "nearest" "[I" ∈ gk_tw := gk_in (List.mem_of_getElem? (i := 134) (by decide +kernel)) (by decide +kernel)
theorem k_135 : Jvm.Cond.fieldLink "JobText$Faults" (24 : Nat) "JobText$Faults" "total" "I" ∈ gk_tw := gk_in (List.mem_of_getElem? (i := 135) (by decide +kernel)) (by decide +kernel)
theorem k_147 : Jvm.Cond.arrayClass Jvm.ClassFile.FieldType.byte ∈ gk_tw := gk_in (List.mem_of_getElem? (i := 147) (by decide +kernel)) (by decide +kernel)
theorem k_148 : Jvm.Cond.arrayClass Jvm.ClassFile.FieldType.int ∈ gk_tw := gk_in (List.mem_of_getElem? (i := 148) (by decide +kernel)) (by decide +kernel)
theorem k_149 : Jvm.Cond.classLink "JobText" (20 : Nat) "java/util/ArrayList" ∈ gk_tw := gk_in (List.mem_of_getElem? (i := 149) (by decide +kernel)) (by decide +kernel)
theorem k_150 : Jvm.Cond.instantiable "java/util/ArrayList" (3 : Nat) ∈ gk_tw := gk_in (List.mem_of_getElem? (i := 150) (by decide +kernel)) (by decide +kernel)
theorem k_151 : Jvm.Cond.methodLink "JobText" (22 : Nat) ({ cls := "java/util/ArrayList", name := "<init>", desc := "()V" } : Jvm.MethodName) ∈ gk_tw := gk_in (List.mem_of_getElem? (i := 151) (by decide +kernel)) (by decide +kernel)
theorem k_152 : Jvm.Cond.instanceMethod ({ cls := "java/util/ArrayList", name := "<init>", desc := "()V" } : Jvm.MethodName) ∈ gk_tw := gk_in (List.mem_of_getElem? (i := 152) (by decide +kernel)) (by decide +kernel)
theorem k_153 : Jvm.Cond.code ({ cls := "java/util/ArrayList", name := "<init>", desc := "()V" } : Jvm.MethodName) prog_27_method_2_code (1 : Nat) (Option.none : Option Jvm.ClassFile.FieldType) ∈ gk_tw := gk_in (List.mem_of_getElem? (i := 153) (by decide +kernel)) (by decide +kernel)
theorem k_154 : Jvm.Cond.methodLink "java/util/ArrayList" (1 : Nat) ({ cls := "java/util/AbstractList", name := "<init>", desc := "()V" } : Jvm.MethodName) ∈ gk_tw := gk_in (List.mem_of_getElem? (i := 154) (by decide +kernel)) (by decide +kernel)
theorem k_155 : Jvm.Cond.instanceMethod ({ cls := "java/util/AbstractList", name := "<init>", desc := "()V" } : Jvm.MethodName) ∈ gk_tw := gk_in (List.mem_of_getElem? (i := 155) (by decide +kernel)) (by decide +kernel)
theorem k_156 : Jvm.Cond.code ({ cls := "java/util/AbstractList", name := "<init>", desc := "()V" } : Jvm.MethodName) prog_26_method_1_code (1 : Nat) (Option.none : Option Jvm.ClassFile.FieldType) ∈ gk_tw := gk_in (List.mem_of_getElem? (i := 156) (by decide +kernel)) (by decide +kernel)
theorem k_157 : Jvm.Cond.methodLink "java/util/AbstractList" (1 : Nat) ({ cls := "java/util/AbstractCollection", name := "<init>", desc := "()V" } : Jvm.MethodName) ∈ gk_tw := gk_in (List.mem_of_getElem? (i := 157) (by decide +kernel)) (by decide +kernel)
theorem k_158 : Jvm.Cond.instanceMethod ({ cls := "java/util/AbstractCollection", name := "<init>", desc := "()V" } : Jvm.MethodName) ∈ gk_tw := gk_in (List.mem_of_getElem? (i := 158) (by decide +kernel)) (by decide +kernel)
theorem k_159 : Jvm.Cond.code ({ cls := "java/util/AbstractCollection", name := "<init>", desc := "()V" } : Jvm.MethodName) prog_25_method_1_code (1 : Nat) (Option.none : Option Jvm.ClassFile.FieldType) ∈ gk_tw := gk_in (List.mem_of_getElem? (i := 159) (by decide +kernel)) (by decide +kernel)
theorem k_160 : Jvm.Cond.methodLink "java/util/AbstractCollection" (1 : Nat) ({ cls := "java/lang/Object", name := "<init>", desc := "()V" } : Jvm.MethodName) ∈ gk_tw := gk_in (List.mem_of_getElem? (i := 160) (by decide +kernel)) (by decide +kernel)
theorem k_161 : Jvm.Cond.fieldLink "java/util/ArrayList" (39 : Nat) "java/util/ArrayList" "DEFAULTCAPACITY_EMPTY_ELEMENTDATA" "[Ljava/lang/Object;" ∈ gk_tw := gk_in (List.mem_of_getElem? (i := 161) (by decide +kernel)) (by decide +kernel)
theorem k_163 : Jvm.Cond.fieldLink "java/util/ArrayList" (9 : Nat) "java/util/ArrayList" "elementData" "[Ljava/lang/Object;" ∈ gk_tw := gk_in (List.mem_of_getElem? (i := 163) (by decide +kernel)) (by decide +kernel)
theorem k_164 : Jvm.Cond.fieldLink "java/util/ArrayList" (48 : Nat) "java/util/ArrayList" "size" "I" ∈ gk_tw := gk_in (List.mem_of_getElem? (i := 164) (by decide +kernel)) (by decide +kernel)
theorem k_165 : Jvm.Cond.fieldLink "java/util/AbstractList" (7 : Nat) "java/util/AbstractList" "modCount" "I" ∈ gk_tw := gk_in (List.mem_of_getElem? (i := 165) (by decide +kernel)) (by decide +kernel)
theorem k_175 : Jvm.Cond.classLink "JobText" (27 : Nat) "JobText$Expander" ∈ gk_tw := gk_in (List.mem_of_getElem? (i := 175) (by decide +kernel)) (by decide +kernel)
theorem k_176 : Jvm.Cond.instantiable "JobText$Expander" (12 : Nat) ∈ gk_tw := gk_in (List.mem_of_getElem? (i := 176) (by decide +kernel)) (by decide +kernel)
theorem k_178 : Jvm.Cond.instanceMethod ({ cls := "JobText$Expander", name := "<init>", desc := "()V" } : Jvm.MethodName) ∈ gk_tw := gk_in (List.mem_of_getElem? (i := 178) (by decide +kernel)) (by decide +kernel)
theorem k_179 : Jvm.Cond.code ({ cls := "JobText$Expander", name := "<init>", desc := "()V" } : Jvm.MethodName) prog_4_method_1_code (1 : Nat) (Option.none : Option Jvm.ClassFile.FieldType) ∈ gk_tw := gk_in (List.mem_of_getElem? (i := 179) (by decide +kernel)) (by decide +kernel)
theorem k_180 : Jvm.Cond.methodLink "JobText$Expander" (3 : Nat) ({ cls := "java/lang/Object", name := "<init>", desc := "()V" } : Jvm.MethodName) ∈ gk_tw := gk_in (List.mem_of_getElem? (i := 180) (by decide +kernel)) (by decide +kernel)
theorem k_181 : Jvm.Cond.classLink "JobText$Expander" (9 : Nat) "JobText$Listing" ∈ gk_tw := gk_in (List.mem_of_getElem? (i := 181) (by decide +kernel)) (by decide +kernel)
theorem k_182 : Jvm.Cond.instantiable "JobText$Listing" (8 : Nat) ∈ gk_tw := gk_in (List.mem_of_getElem? (i := 182) (by decide +kernel)) (by decide +kernel)
theorem k_184 : Jvm.Cond.instanceMethod ({ cls := "JobText$Listing", name := "<init>", desc := "()V" } : Jvm.MethodName) ∈ gk_tw := gk_in (List.mem_of_getElem? (i := 184) (by decide +kernel)) (by decide +kernel)
theorem k_185 : Jvm.Cond.code ({ cls := "JobText$Listing", name := "<init>", desc := "()V" } : Jvm.MethodName) prog_8_method_1_code (1 : Nat) (Option.none : Option Jvm.ClassFile.FieldType) ∈ gk_tw := gk_in (List.mem_of_getElem? (i := 185) (by decide +kernel)) (by decide +kernel)
theorem k_186 : Jvm.Cond.methodLink "JobText$Listing" (3 : Nat) ({ cls := "java/lang/Object", name := "<init>", desc := "()V" } : Jvm.MethodName) ∈ gk_tw := gk_in (List.mem_of_getElem? (i := 186) (by decide +kernel)) (by decide +kernel)
theorem k_187 : Jvm.Cond.classLink "JobText$Listing" (30 : Nat) "java/lang/StringBuilder" ∈ gk_tw := gk_in (List.mem_of_getElem? (i := 187) (by decide +kernel)) (by decide +kernel)
theorem k_188 : Jvm.Cond.instantiable "java/lang/StringBuilder" (4 : Nat) ∈ gk_tw := gk_in (List.mem_of_getElem? (i := 188) (by decide +kernel)) (by decide +kernel)
theorem k_189 : Jvm.Cond.methodLink "JobText$Listing" (32 : Nat) ({ cls := "java/lang/StringBuilder", name := "<init>", desc := "()V" } : Jvm.MethodName) ∈ gk_tw := gk_in (List.mem_of_getElem? (i := 189) (by decide +kernel)) (by decide +kernel)
theorem k_190 : Jvm.Cond.instanceMethod ({ cls := "java/lang/StringBuilder", name := "<init>", desc := "()V" } : Jvm.MethodName) ∈ gk_tw := gk_in (List.mem_of_getElem? (i := 190) (by decide +kernel)) (by decide +kernel)
theorem k_191 : Jvm.Cond.code ({ cls := "java/lang/StringBuilder", name := "<init>", desc := "()V" } : Jvm.MethodName) prog_21_method_1_code (1 : Nat) (Option.none : Option Jvm.ClassFile.FieldType) ∈ gk_tw := gk_in (List.mem_of_getElem? (i := 191) (by decide +kernel)) (by decide +kernel)
theorem k_192 : Jvm.Cond.methodLink "java/lang/StringBuilder" (1 : Nat) ({ cls := "java/lang/AbstractStringBuilder", name := "<init>", desc := "(I)V" } : Jvm.MethodName) ∈ gk_tw := gk_in (List.mem_of_getElem? (i := 192) (by decide +kernel)) (by decide +kernel)
theorem k_193 : Jvm.Cond.instanceMethod ({ cls := "java/lang/AbstractStringBuilder", name := "<init>", desc := "(I)V" } : Jvm.MethodName) ∈ gk_tw := gk_in (List.mem_of_getElem? (i := 193) (by decide +kernel)) (by decide +kernel)
theorem k_194 : Jvm.Cond.code ({ cls := "java/lang/AbstractStringBuilder", name := "<init>", desc := "(I)V" } : Jvm.MethodName) prog_16_method_2_code (2 : Nat) (Option.none : Option Jvm.ClassFile.FieldType) ∈ gk_tw := gk_in (List.mem_of_getElem? (i := 194) (by decide +kernel)) (by decide +kernel)
theorem k_195 : Jvm.Cond.methodLink "java/lang/AbstractStringBuilder" (3 : Nat) ({ cls := "java/lang/Object", name := "<init>", desc := "()V" } : Jvm.MethodName) ∈ gk_tw := gk_in (List.mem_of_getElem? (i := 195) (by decide +kernel)) (by decide +kernel)
theorem k_196 : Jvm.Cond.fieldLink "java/lang/AbstractStringBuilder" (18 : Nat) "java/lang/String" "COMPACT_STRINGS" "Z" ∈ gk_tw := gk_in (List.mem_of_getElem? (i := 196) (by decide +kernel)) (by decide +kernel)
theorem k_205 : Jvm.Cond.fieldLink "java/lang/AbstractStringBuilder" (15 : Nat) "java/lang/AbstractStringBuilder" "value" "[B" ∈ gk_tw := gk_in (List.mem_of_getElem? (i := 205) (by decide +kernel)) (by decide +kernel)
theorem k_206 : Jvm.Cond.fieldLink "java/lang/AbstractStringBuilder" (22 : Nat) "java/lang/AbstractStringBuilder" "coder" "B" ∈ gk_tw := gk_in (List.mem_of_getElem? (i := 206) (by decide +kernel)) (by decide +kernel)
theorem k_218 : Jvm.Cond.fieldLink "JobText$Listing" (9 : Nat) "JobText$Listing" "lines" "[I" ∈ gk_tw := gk_in (List.mem_of_getElem? (i := 218) (by decide +kernel)) (by decide +kernel)
theorem k_219 : Jvm.Cond.fieldLink "JobText$Listing" (15 : Nat) "JobText$Listing" "operations" "[I" ∈ gk_tw := gk_in (List.mem_of_getElem? (i := 219) (by decide +kernel)) (by decide +kernel)
theorem k_220 : Jvm.Cond.fieldLink "JobText$Listing" (18 : Nat) "JobText$Listing" "depths" "[I" ∈ gk_tw := gk_in (List.mem_of_getElem? (i := 220) (by decide +kernel)) (by decide +kernel)
theorem k_221 : Jvm.Cond.fieldLink "JobText$Listing" (21 : Nat) "JobText$Listing" "counts" "[I" ∈ gk_tw := gk_in (List.mem_of_getElem? (i := 221) (by decide +kernel)) (by decide +kernel)
theorem k_222 : Jvm.Cond.fieldLink "JobText$Listing" (24 : Nat) "JobText$Listing" "changes" "[I" ∈ gk_tw := gk_in (List.mem_of_getElem? (i := 222) (by decide +kernel)) (by decide +kernel)
theorem k_223 : Jvm.Cond.fieldLink "JobText$Listing" (27 : Nat) "JobText$Listing" "ends" "[I" ∈ gk_tw := gk_in (List.mem_of_getElem? (i := 223) (by decide +kernel)) (by decide +kernel)
theorem k_224 : Jvm.Cond.fieldLink "JobText$Listing" (33 : Nat) "JobText$Listing" "letters" "Ljava/lang/StringBuilder;" ∈ gk_tw := gk_in (List.mem_of_getElem? (i := 224) (by decide +kernel)) (by decide +kernel)
theorem k_225 : Jvm.Cond.fieldLink "JobText$Listing" (37 : Nat) "JobText$Listing" "size" "I" ∈ gk_tw := gk_in (List.mem_of_getElem? (i := 225) (by decide +kernel)) (by decide +kernel)
theorem k_243 : Jvm.Cond.classLink "JobText$Expander" (18 : Nat) "JobText$Rows" ∈ gk_tw := gk_in (List.mem_of_getElem? (i := 243) (by decide +kernel)) (by decide +kernel)
theorem k_244 : Jvm.Cond.instantiable "JobText$Rows" (4 : Nat) ∈ gk_tw := gk_in (List.mem_of_getElem? (i := 244) (by decide +kernel)) (by decide +kernel)
theorem k_246 : Jvm.Cond.instanceMethod ({ cls := "JobText$Rows", name := "<init>", desc := "()V" } : Jvm.MethodName) ∈ gk_tw := gk_in (List.mem_of_getElem? (i := 246) (by decide +kernel)) (by decide +kernel)
theorem k_247 : Jvm.Cond.code ({ cls := "JobText$Rows", name := "<init>", desc := "()V" } : Jvm.MethodName) prog_10_method_1_code (1 : Nat) (Option.none : Option Jvm.ClassFile.FieldType) ∈ gk_tw := gk_in (List.mem_of_getElem? (i := 247) (by decide +kernel)) (by decide +kernel)
theorem k_248 : Jvm.Cond.methodLink "JobText$Rows" (3 : Nat) ({ cls := "java/lang/Object", name := "<init>", desc := "()V" } : Jvm.MethodName) ∈ gk_tw := gk_in (List.mem_of_getElem? (i := 248) (by decide +kernel)) (by decide +kernel)
theorem k_249 : Jvm.Cond.fieldLink "JobText$Rows" (9 : Nat) "JobText$Rows" "keys" "[J" ∈ gk_tw := gk_in (List.mem_of_getElem? (i := 249) (by decide +kernel)) (by decide +kernel)
theorem k_250 : Jvm.Cond.fieldLink "JobText$Rows" (15 : Nat) "JobText$Rows" "lengths" "[I" ∈ gk_tw := gk_in (List.mem_of_getElem? (i := 250) (by decide +kernel)) (by decide +kernel)
theorem k_251 : Jvm.Cond.fieldLink "JobText$Rows" (19 : Nat) "JobText$Rows" "values" "[B" ∈ gk_tw := gk_in (List.mem_of_getElem? (i := 251) (by decide +kernel)) (by decide +kernel)
theorem k_262 : Jvm.Cond.arrayClass Jvm.ClassFile.FieldType.long ∈ gk_tw := gk_in (List.mem_of_getElem? (i := 262) (by decide +kernel)) (by decide +kernel)
theorem k_263 : Jvm.Cond.classLink "JobText$Expander" (28 : Nat) "java/util/ArrayList" ∈ gk_tw := gk_in (List.mem_of_getElem? (i := 263) (by decide +kernel)) (by decide +kernel)
theorem k_264 : Jvm.Cond.methodLink "JobText$Expander" (30 : Nat) ({ cls := "java/util/ArrayList", name := "<init>", desc := "()V" } : Jvm.MethodName) ∈ gk_tw := gk_in (List.mem_of_getElem? (i := 264) (by decide +kernel)) (by decide +kernel)
theorem k_265 : Jvm.Cond.fieldLink "JobText$Expander" (12 : Nat) "JobText$Expander" "listing" "LJobText$Listing;" ∈ gk_tw := gk_in (List.mem_of_getElem? (i := 265) (by decide +kernel)) (by decide +kernel)
theorem k_266 : Jvm.Cond.fieldLink "JobText$Expander" (21 : Nat) "JobText$Expander" "rows" "LJobText$Rows;" ∈ gk_tw := gk_in (List.mem_of_getElem? (i := 266) (by decide +kernel)) (by decide +kernel)
theorem k_267 : Jvm.Cond.fieldLink "JobText$Expander" (25 : Nat) "JobText$Expander" "sets" "LJobText$Rows;" ∈ gk_tw := gk_in (List.mem_of_getElem? (i := 267) (by decide +kernel)) (by decide +kernel)
theorem k_268 : Jvm.Cond.fieldLink "JobText$Expander" (31 : Nat) "JobText$Expander" "frames" "Ljava/util/ArrayList;" ∈ gk_tw := gk_in (List.mem_of_getElem? (i := 268) (by decide +kernel)) (by decide +kernel)
theorem k_269 : Jvm.Cond.fieldLink "JobText$Expander" (35 : Nat) "JobText$Expander" "overrides" "Ljava/util/ArrayList;" ∈ gk_tw := gk_in (List.mem_of_getElem? (i := 269) (by decide +kernel)) (by decide +kernel)
theorem k_270 : Jvm.Cond.fieldLink "JobText$Expander" (38 : Nat) "JobText$Expander" "procedures" "Ljava/util/ArrayList;" ∈ gk_tw := gk_in (List.mem_of_getElem? (i := 270) (by decide +kernel)) (by decide +kernel)
theorem k_271 : Jvm.Cond.fieldLink "JobText$Expander" (41 : Nat) "JobText$Expander" "library" "Ljava/util/ArrayList;" ∈ gk_tw := gk_in (List.mem_of_getElem? (i := 271) (by decide +kernel)) (by decide +kernel)
theorem k_274 : Jvm.Cond.fieldLink "JobText$Expander" (48 : Nat) "JobText$Expander" "called" "J" ∈ gk_tw := gk_in (List.mem_of_getElem? (i := 274) (by decide +kernel)) (by decide +kernel)
theorem k_275 : Jvm.Cond.fieldLink "JobText$Expander" (44 : Nat) "JobText$Expander" "missing" "I" ∈ gk_tw := gk_in (List.mem_of_getElem? (i := 275) (by decide +kernel)) (by decide +kernel)
theorem k_302 : Jvm.Cond.fieldLink "JobText" (9 : Nat) "JobText" "signs" "[B" ∈ gk_tw := gk_in (List.mem_of_getElem? (i := 302) (by decide +kernel)) (by decide +kernel)
theorem k_303 : Jvm.Cond.fieldLink "JobText" (16 : Nat) "JobText" "faults" "LJobText$Faults;" ∈ gk_tw := gk_in (List.mem_of_getElem? (i := 303) (by decide +kernel)) (by decide +kernel)
theorem k_304 : Jvm.Cond.fieldLink "JobText" (23 : Nat) "JobText" "library" "Ljava/util/ArrayList;" ∈ gk_tw := gk_in (List.mem_of_getElem? (i := 304) (by decide +kernel)) (by decide +kernel)
theorem k_305 : Jvm.Cond.fieldLink "JobText" (30 : Nat) "JobText" "expander" "LJobText$Expander;" ∈ gk_tw := gk_in (List.mem_of_getElem? (i := 305) (by decide +kernel)) (by decide +kernel)
theorem k_306 : Jvm.Cond.fieldLink "JobText" (38 : Nat) "JobText" "signCount" "I" ∈ gk_tw := gk_in (List.mem_of_getElem? (i := 306) (by decide +kernel)) (by decide +kernel)
theorem k_307 : Jvm.Cond.fieldLink "JobText" (77 : Nat) "JobText" "text" "LJobText$Text;" ∈ gk_tw := gk_in (List.mem_of_getElem? (i := 307) (by decide +kernel)) (by decide +kernel)
theorem k_321 : Jvm.Cond.methodLink "JobTextLaw" (15 : Nat) ({ cls := "JobText", name := "sign", desc := "(J)V" } : Jvm.MethodName) ∈ gk_tw := gk_in (List.mem_of_getElem? (i := 321) (by decide +kernel)) (by decide +kernel)
theorem k_322 : Jvm.Cond.instanceMethod ({ cls := "JobText", name := "sign", desc := "(J)V" } : Jvm.MethodName) ∈ gk_tw := gk_in (List.mem_of_getElem? (i := 322) (by decide +kernel)) (by decide +kernel)
theorem k_323 : Jvm.Cond.selects "JobText" ({ cls := "JobText", name := "sign", desc := "(J)V" } : Jvm.MethodName) ({ cls := "JobText", name := "sign", desc := "(J)V" } : Jvm.MethodName) ∈ gk_tw := gk_in (List.mem_of_getElem? (i := 323) (by decide +kernel)) (by decide +kernel)
theorem k_324 : Jvm.Cond.code ({ cls := "JobText", name := "sign", desc := "(J)V" } : Jvm.MethodName) prog_1_method_2_code (5 : Nat) (Option.none : Option Jvm.ClassFile.FieldType) ∈ gk_tw := gk_in (List.mem_of_getElem? (i := 324) (by decide +kernel)) (by decide +kernel)
theorem k_325 : Jvm.Cond.methodLink "JobText" (34 : Nat) ({ cls := "JobText", name := "isSign", desc := "(I)Z" } : Jvm.MethodName) ∈ gk_tw := gk_in (List.mem_of_getElem? (i := 325) (by decide +kernel)) (by decide +kernel)
theorem k_326 : Jvm.Cond.static ({ cls := "JobText", name := "isSign", desc := "(I)Z" } : Jvm.MethodName) ∈ gk_tw := gk_in (List.mem_of_getElem? (i := 326) (by decide +kernel)) (by decide +kernel)
theorem k_327 : Jvm.Cond.code ({ cls := "JobText", name := "isSign", desc := "(I)Z" } : Jvm.MethodName) prog_1_method_17_code (1 : Nat) (Option.some Jvm.ClassFile.FieldType.boolean) ∈ gk_tw := gk_in (List.mem_of_getElem? (i := 327) (by decide +kernel)) (by decide +kernel)
theorem k_328 : Jvm.Cond.methodLink "JobTextLaw" (20 : Nat) ({ cls := "JobText", name := "read", desc := "()I" } : Jvm.MethodName) ∈ gk_tw := gk_in (List.mem_of_getElem? (i := 328) (by decide +kernel)) (by decide +kernel)
theorem k_329 : Jvm.Cond.instanceMethod ({ cls := "JobText", name := "read", desc := "()I" } : Jvm.MethodName) ∈ gk_tw := gk_in (List.mem_of_getElem? (i := 329) (by decide +kernel)) (by decide +kernel)
theorem k_330 : Jvm.Cond.selects "JobText" ({ cls := "JobText", name := "read", desc := "()I" } : Jvm.MethodName) ({ cls := "JobText", name := "read", desc := "()I" } : Jvm.MethodName) ∈ gk_tw := gk_in (List.mem_of_getElem? (i := 330) (by decide +kernel)) (by decide +kernel)
theorem k_331 : Jvm.Cond.code ({ cls := "JobText", name := "read", desc := "()I" } : Jvm.MethodName) prog_1_method_3_code (6 : Nat) (Option.some Jvm.ClassFile.FieldType.int) ∈ gk_tw := gk_in (List.mem_of_getElem? (i := 331) (by decide +kernel)) (by decide +kernel)
theorem k_332 : Jvm.Cond.methodLink "JobText" (42 : Nat) ({ cls := "JobText$Faults", name := "clear", desc := "()V" } : Jvm.MethodName) ∈ gk_tw := gk_in (List.mem_of_getElem? (i := 332) (by decide +kernel)) (by decide +kernel)
theorem k_333 : Jvm.Cond.instanceMethod ({ cls := "JobText$Faults", name := "clear", desc := "()V" } : Jvm.MethodName) ∈ gk_tw := gk_in (List.mem_of_getElem? (i := 333) (by decide +kernel)) (by decide +kernel)
theorem k_334 : Jvm.Cond.selects "JobText$Faults" ({ cls := "JobText$Faults", name := "clear", desc := "()V" } : Jvm.MethodName) ({ cls := "JobText$Faults", name := "clear", desc := "()V" } : Jvm.MethodName) ∈ gk_tw := gk_in (List.mem_of_getElem? (i := 334) (by decide +kernel)) (by decide +kernel)
theorem k_335 : Jvm.Cond.code ({ cls := "JobText$Faults", name := "clear", desc := "()V" } : Jvm.MethodName) prog_5_method_2_code (1 : Nat) (Option.none : Option Jvm.ClassFile.FieldType) ∈ gk_tw := gk_in (List.mem_of_getElem? (i := 335) (by decide +kernel)) (by decide +kernel)
theorem k_336 : Jvm.Cond.classLink "JobText" (45 : Nat) "JobText$Text" ∈ gk_tw := gk_in (List.mem_of_getElem? (i := 336) (by decide +kernel)) (by decide +kernel)
theorem k_337 : Jvm.Cond.instantiable "JobText$Text" (7 : Nat) ∈ gk_tw := gk_in (List.mem_of_getElem? (i := 337) (by decide +kernel)) (by decide +kernel)
theorem k_339 : Jvm.Cond.instanceMethod ({ cls := "JobText$Text", name := "<init>", desc := "()V" } : Jvm.MethodName) ∈ gk_tw := gk_in (List.mem_of_getElem? (i := 339) (by decide +kernel)) (by decide +kernel)
theorem k_340 : Jvm.Cond.code ({ cls := "JobText$Text", name := "<init>", desc := "()V" } : Jvm.MethodName) prog_12_method_1_code (1 : Nat) (Option.none : Option Jvm.ClassFile.FieldType) ∈ gk_tw := gk_in (List.mem_of_getElem? (i := 340) (by decide +kernel)) (by decide +kernel)
theorem k_341 : Jvm.Cond.methodLink "JobText$Text" (3 : Nat) ({ cls := "java/lang/Object", name := "<init>", desc := "()V" } : Jvm.MethodName) ∈ gk_tw := gk_in (List.mem_of_getElem? (i := 341) (by decide +kernel)) (by decide +kernel)
theorem k_342 : Jvm.Cond.classLink "JobText$Text" (9 : Nat) "JobText$Rows" ∈ gk_tw := gk_in (List.mem_of_getElem? (i := 342) (by decide +kernel)) (by decide +kernel)
theorem k_344 : Jvm.Cond.classLink "JobText$Text" (18 : Nat) "java/util/ArrayList" ∈ gk_tw := gk_in (List.mem_of_getElem? (i := 344) (by decide +kernel)) (by decide +kernel)
theorem k_345 : Jvm.Cond.methodLink "JobText$Text" (20 : Nat) ({ cls := "java/util/ArrayList", name := "<init>", desc := "()V" } : Jvm.MethodName) ∈ gk_tw := gk_in (List.mem_of_getElem? (i := 345) (by decide +kernel)) (by decide +kernel)
theorem k_346 : Jvm.Cond.fieldLink "JobText$Text" (12 : Nat) "JobText$Text" "rows" "LJobText$Rows;" ∈ gk_tw := gk_in (List.mem_of_getElem? (i := 346) (by decide +kernel)) (by decide +kernel)
theorem k_347 : Jvm.Cond.fieldLink "JobText$Text" (21 : Nat) "JobText$Text" "statements" "Ljava/util/ArrayList;" ∈ gk_tw := gk_in (List.mem_of_getElem? (i := 347) (by decide +kernel)) (by decide +kernel)
theorem k_348 : Jvm.Cond.fieldLink "JobText$Text" (25 : Nat) "JobText$Text" "procedures" "Ljava/util/ArrayList;" ∈ gk_tw := gk_in (List.mem_of_getElem? (i := 348) (by decide +kernel)) (by decide +kernel)
theorem k_349 : Jvm.Cond.fieldLink "JobText$Text" (28 : Nat) "JobText$Text" "job" "LJobText$Body;" ∈ gk_tw := gk_in (List.mem_of_getElem? (i := 349) (by decide +kernel)) (by decide +kernel)
theorem k_350 : Jvm.Cond.fieldLink "JobText$Text" (42 : Nat) "JobText$Text" "openProcedure" "LJobText$Body;" ∈ gk_tw := gk_in (List.mem_of_getElem? (i := 350) (by decide +kernel)) (by decide +kernel)
theorem k_351 : Jvm.Cond.fieldLink "JobText$Text" (45 : Nat) "JobText$Text" "openIfs" "I" ∈ gk_tw := gk_in (List.mem_of_getElem? (i := 351) (by decide +kernel)) (by decide +kernel)
theorem k_368 : Jvm.Cond.classLink "JobText" (48 : Nat) "JobText$Lines" ∈ gk_tw := gk_in (List.mem_of_getElem? (i := 368) (by decide +kernel)) (by decide +kernel)
theorem k_369 : Jvm.Cond.instantiable "JobText$Lines" (4 : Nat) ∈ gk_tw := gk_in (List.mem_of_getElem? (i := 369) (by decide +kernel)) (by decide +kernel)
theorem k_370 : Jvm.Cond.methodLink "JobText" (50 : Nat) ({ cls := "JobText$Lines", name := "<init>", desc := "([BI)V" } : Jvm.MethodName) ∈ gk_tw := gk_in (List.mem_of_getElem? (i := 370) (by decide +kernel)) (by decide +kernel)
theorem k_371 : Jvm.Cond.instanceMethod ({ cls := "JobText$Lines", name := "<init>", desc := "([BI)V" } : Jvm.MethodName) ∈ gk_tw := gk_in (List.mem_of_getElem? (i := 371) (by decide +kernel)) (by decide +kernel)
theorem k_372 : Jvm.Cond.code ({ cls := "JobText$Lines", name := "<init>", desc := "([BI)V" } : Jvm.MethodName) prog_7_method_1_code (7 : Nat) (Option.none : Option Jvm.ClassFile.FieldType) ∈ gk_tw := gk_in (List.mem_of_getElem? (i := 372) (by decide +kernel)) (by decide +kernel)
theorem k_373 : Jvm.Cond.methodLink "JobText$Lines" (3 : Nat) ({ cls := "java/lang/Object", name := "<init>", desc := "()V" } : Jvm.MethodName) ∈ gk_tw := gk_in (List.mem_of_getElem? (i := 373) (by decide +kernel)) (by decide +kernel)
theorem k_374 : Jvm.Cond.methodLink "JobText$Lines" (15 : Nat) ({ cls := "java/lang/Math", name := "min", desc := "(II)I" } : Jvm.MethodName) ∈ gk_tw := gk_in (List.mem_of_getElem? (i := 374) (by decide +kernel)) (by decide +kernel)
theorem k_375 : Jvm.Cond.static ({ cls := "java/lang/Math", name := "min", desc := "(II)I" } : Jvm.MethodName) ∈ gk_tw := gk_in (List.mem_of_getElem? (i := 375) (by decide +kernel)) (by decide +kernel)
theorem k_377 : Jvm.Cond.methodLink "JobText$Lines" (21 : Nat) ({ cls := "JobText$Lines", name := "totalOf", desc := "([BI)I" } : Jvm.MethodName) ∈ gk_tw := gk_in (List.mem_of_getElem? (i := 377) (by decide +kernel)) (by decide +kernel)
theorem k_378 : Jvm.Cond.static ({ cls := "JobText$Lines", name := "totalOf", desc := "([BI)I" } : Jvm.MethodName) ∈ gk_tw := gk_in (List.mem_of_getElem? (i := 378) (by decide +kernel)) (by decide +kernel)
theorem k_379 : Jvm.Cond.code ({ cls := "JobText$Lines", name := "totalOf", desc := "([BI)I" } : Jvm.MethodName) prog_7_method_2_code (4 : Nat) (Option.some Jvm.ClassFile.FieldType.int) ∈ gk_tw := gk_in (List.mem_of_getElem? (i := 379) (by decide +kernel)) (by decide +kernel)
theorem k_380 : Jvm.Cond.fieldLink "JobText$Lines" (9 : Nat) "JobText$Lines" "signs" "[B" ∈ gk_tw := gk_in (List.mem_of_getElem? (i := 380) (by decide +kernel)) (by decide +kernel)
theorem k_381 : Jvm.Cond.fieldLink "JobText$Lines" (29 : Nat) "JobText$Lines" "starts" "[I" ∈ gk_tw := gk_in (List.mem_of_getElem? (i := 381) (by decide +kernel)) (by decide +kernel)
theorem k_382 : Jvm.Cond.fieldLink "JobText$Lines" (33 : Nat) "JobText$Lines" "lengths" "[I" ∈ gk_tw := gk_in (List.mem_of_getElem? (i := 382) (by decide +kernel)) (by decide +kernel)
theorem k_383 : Jvm.Cond.fieldLink "JobText$Lines" (25 : Nat) "JobText$Lines" "total" "I" ∈ gk_tw := gk_in (List.mem_of_getElem? (i := 383) (by decide +kernel)) (by decide +kernel)
theorem k_393 : Jvm.Cond.classLink "JobText" (53 : Nat) "JobText$Reader" ∈ gk_tw := gk_in (List.mem_of_getElem? (i := 393) (by decide +kernel)) (by decide +kernel)
theorem k_394 : Jvm.Cond.instantiable "JobText$Reader" (9 : Nat) ∈ gk_tw := gk_in (List.mem_of_getElem? (i := 394) (by decide +kernel)) (by decide +kernel)
theorem k_395 : Jvm.Cond.methodLink "JobText" (55 : Nat) ({ cls := "JobText$Reader", name := "<init>", desc := "(LJobText$Lines;LJobText$Text;LJobText$Faults;)V" } : Jvm.MethodName) ∈ gk_tw := gk_in (List.mem_of_getElem? (i := 395) (by decide +kernel)) (by decide +kernel)
theorem k_396 : Jvm.Cond.instanceMethod ({ cls := "JobText$Reader", name := "<init>", desc := "(LJobText$Lines;LJobText$Text;LJobText$Faults;)V" } : Jvm.MethodName) ∈ gk_tw := gk_in (List.mem_of_getElem? (i := 396) (by decide +kernel)) (by decide +kernel)
theorem k_397 : Jvm.Cond.code ({ cls := "JobText$Reader", name := "<init>", desc := "(LJobText$Lines;LJobText$Text;LJobText$Faults;)V" } : Jvm.MethodName) prog_9_method_1_code (4 : Nat) (Option.none : Option Jvm.ClassFile.FieldType) ∈ gk_tw := gk_in (List.mem_of_getElem? (i := 397) (by decide +kernel)) (by decide +kernel)
theorem k_398 : Jvm.Cond.methodLink "JobText$Reader" (3 : Nat) ({ cls := "java/lang/Object", name := "<init>", desc := "()V" } : Jvm.MethodName) ∈ gk_tw := gk_in (List.mem_of_getElem? (i := 398) (by decide +kernel)) (by decide +kernel)
theorem k_399 : Jvm.Cond.methodLink "JobText$Reader" (19 : Nat) ({ cls := "JobText$Text", name := "rows", desc := "()LJobText$Rows;" } : Jvm.MethodName) ∈ gk_tw := gk_in (List.mem_of_getElem? (i := 399) (by decide +kernel)) (by decide +kernel)
theorem k_400 : Jvm.Cond.instanceMethod ({ cls := "JobText$Text", name := "rows", desc := "()LJobText$Rows;" } : Jvm.MethodName) ∈ gk_tw := gk_in (List.mem_of_getElem? (i := 400) (by decide +kernel)) (by decide +kernel)
theorem k_401 : Jvm.Cond.selects "JobText$Text" ({ cls := "JobText$Text", name := "rows", desc := "()LJobText$Rows;" } : Jvm.MethodName) ({ cls := "JobText$Text", name := "rows", desc := "()LJobText$Rows;" } : Jvm.MethodName) ∈ gk_tw := gk_in (List.mem_of_getElem? (i := 401) (by decide +kernel)) (by decide +kernel)
theorem k_402 : Jvm.Cond.code ({ cls := "JobText$Text", name := "rows", desc := "()LJobText$Rows;" } : Jvm.MethodName) prog_12_method_2_code (1 : Nat) (Option.some (Jvm.ClassFile.FieldType.object "JobText$Rows")) ∈ gk_tw := gk_in (List.mem_of_getElem? (i := 402) (by decide +kernel)) (by decide +kernel)
theorem k_403 : Jvm.Cond.fieldLink "JobText$Reader" (9 : Nat) "JobText$Reader" "lines" "LJobText$Lines;" ∈ gk_tw := gk_in (List.mem_of_getElem? (i := 403) (by decide +kernel)) (by decide +kernel)
theorem k_404 : Jvm.Cond.fieldLink "JobText$Reader" (15 : Nat) "JobText$Reader" "text" "LJobText$Text;" ∈ gk_tw := gk_in (List.mem_of_getElem? (i := 404) (by decide +kernel)) (by decide +kernel)
theorem k_405 : Jvm.Cond.fieldLink "JobText$Reader" (25 : Nat) "JobText$Reader" "rows" "LJobText$Rows;" ∈ gk_tw := gk_in (List.mem_of_getElem? (i := 405) (by decide +kernel)) (by decide +kernel)
theorem k_406 : Jvm.Cond.fieldLink "JobText$Reader" (28 : Nat) "JobText$Reader" "faults" "LJobText$Faults;" ∈ gk_tw := gk_in (List.mem_of_getElem? (i := 406) (by decide +kernel)) (by decide +kernel)
theorem k_431 : Jvm.Cond.methodLink "JobText" (58 : Nat) ({ cls := "JobText$Lines", name := "total", desc := "()I" } : Jvm.MethodName) ∈ gk_tw := gk_in (List.mem_of_getElem? (i := 431) (by decide +kernel)) (by decide +kernel)
theorem k_432 : Jvm.Cond.instanceMethod ({ cls := "JobText$Lines", name := "total", desc := "()I" } : Jvm.MethodName) ∈ gk_tw := gk_in (List.mem_of_getElem? (i := 432) (by decide +kernel)) (by decide +kernel)
theorem k_433 : Jvm.Cond.selects "JobText$Lines" ({ cls := "JobText$Lines", name := "total", desc := "()I" } : Jvm.MethodName) ({ cls := "JobText$Lines", name := "total", desc := "()I" } : Jvm.MethodName) ∈ gk_tw := gk_in (List.mem_of_getElem? (i := 433) (by decide +kernel)) (by decide +kernel)
theorem k_434 : Jvm.Cond.code ({ cls := "JobText$Lines", name := "total", desc := "()I" } : Jvm.MethodName) prog_7_method_3_code (1 : Nat) (Option.some Jvm.ClassFile.FieldType.int) ∈ gk_tw := gk_in (List.mem_of_getElem? (i := 434) (by decide +kernel)) (by decide +kernel)
theorem k_731 : Jvm.Cond.methodLink "JobText" (156 : Nat) ({ cls := "java/util/ArrayList", name := "size", desc := "()I" } : Jvm.MethodName) ∈ gk_tw := gk_in (List.mem_of_getElem? (i := 731) (by decide +kernel)) (by decide +kernel)
theorem k_732 : Jvm.Cond.instanceMethod ({ cls := "java/util/ArrayList", name := "size", desc := "()I" } : Jvm.MethodName) ∈ gk_tw := gk_in (List.mem_of_getElem? (i := 732) (by decide +kernel)) (by decide +kernel)
theorem k_733 : Jvm.Cond.selects "java/util/ArrayList" ({ cls := "java/util/ArrayList", name := "size", desc := "()I" } : Jvm.MethodName) ({ cls := "java/util/ArrayList", name := "size", desc := "()I" } : Jvm.MethodName) ∈ gk_tw := gk_in (List.mem_of_getElem? (i := 733) (by decide +kernel)) (by decide +kernel)
theorem k_734 : Jvm.Cond.code ({ cls := "java/util/ArrayList", name := "size", desc := "()I" } : Jvm.MethodName) prog_27_method_8_code (1 : Nat) (Option.some Jvm.ClassFile.FieldType.int) ∈ gk_tw := gk_in (List.mem_of_getElem? (i := 734) (by decide +kernel)) (by decide +kernel)
theorem k_763 : Jvm.Cond.methodLink "JobText$Text" (32 : Nat) ({ cls := "java/util/ArrayList", name := "size", desc := "()I" } : Jvm.MethodName) ∈ gk_tw := gk_in (List.mem_of_getElem? (i := 763) (by decide +kernel)) (by decide +kernel)
theorem k_894 : Jvm.Cond.methodLink "JobText" (69 : Nat) ({ cls := "JobText$Text", name := "isOpen", desc := "()Z" } : Jvm.MethodName) ∈ gk_tw := gk_in (List.mem_of_getElem? (i := 894) (by decide +kernel)) (by decide +kernel)
theorem k_895 : Jvm.Cond.instanceMethod ({ cls := "JobText$Text", name := "isOpen", desc := "()Z" } : Jvm.MethodName) ∈ gk_tw := gk_in (List.mem_of_getElem? (i := 895) (by decide +kernel)) (by decide +kernel)
theorem k_896 : Jvm.Cond.selects "JobText$Text" ({ cls := "JobText$Text", name := "isOpen", desc := "()Z" } : Jvm.MethodName) ({ cls := "JobText$Text", name := "isOpen", desc := "()Z" } : Jvm.MethodName) ∈ gk_tw := gk_in (List.mem_of_getElem? (i := 896) (by decide +kernel)) (by decide +kernel)
theorem k_897 : Jvm.Cond.code ({ cls := "JobText$Text", name := "isOpen", desc := "()Z" } : Jvm.MethodName) prog_12_method_7_code (1 : Nat) (Option.some Jvm.ClassFile.FieldType.boolean) ∈ gk_tw := gk_in (List.mem_of_getElem? (i := 897) (by decide +kernel)) (by decide +kernel)
theorem k_899 : Jvm.Cond.methodLink "JobText" (81 : Nat) ({ cls := "JobText$Faults", name := "total", desc := "()I" } : Jvm.MethodName) ∈ gk_tw := gk_in (List.mem_of_getElem? (i := 899) (by decide +kernel)) (by decide +kernel)
theorem k_900 : Jvm.Cond.instanceMethod ({ cls := "JobText$Faults", name := "total", desc := "()I" } : Jvm.MethodName) ∈ gk_tw := gk_in (List.mem_of_getElem? (i := 900) (by decide +kernel)) (by decide +kernel)
theorem k_901 : Jvm.Cond.selects "JobText$Faults" ({ cls := "JobText$Faults", name := "total", desc := "()I" } : Jvm.MethodName) ({ cls := "JobText$Faults", name := "total", desc := "()I" } : Jvm.MethodName) ∈ gk_tw := gk_in (List.mem_of_getElem? (i := 901) (by decide +kernel)) (by decide +kernel)
theorem k_902 : Jvm.Cond.code ({ cls := "JobText$Faults", name := "total", desc := "()I" } : Jvm.MethodName) prog_5_method_3_code (1 : Nat) (Option.some Jvm.ClassFile.FieldType.int) ∈ gk_tw := gk_in (List.mem_of_getElem? (i := 902) (by decide +kernel)) (by decide +kernel)
theorem k_903 : Jvm.Cond.methodLink "JobText" (82 : Nat) ({ cls := "JobText$Text", name := "job", desc := "()LJobText$Body;" } : Jvm.MethodName) ∈ gk_tw := gk_in (List.mem_of_getElem? (i := 903) (by decide +kernel)) (by decide +kernel)
theorem k_904 : Jvm.Cond.instanceMethod ({ cls := "JobText$Text", name := "job", desc := "()LJobText$Body;" } : Jvm.MethodName) ∈ gk_tw := gk_in (List.mem_of_getElem? (i := 904) (by decide +kernel)) (by decide +kernel)
theorem k_905 : Jvm.Cond.selects "JobText$Text" ({ cls := "JobText$Text", name := "job", desc := "()LJobText$Body;" } : Jvm.MethodName) ({ cls := "JobText$Text", name := "job", desc := "()LJobText$Body;" } : Jvm.MethodName) ∈ gk_tw := gk_in (List.mem_of_getElem? (i := 905) (by decide +kernel)) (by decide +kernel)
theorem k_906 : Jvm.Cond.code ({ cls := "JobText$Text", name := "job", desc := "()LJobText$Body;" } : Jvm.MethodName) prog_12_method_3_code (1 : Nat) (Option.some (Jvm.ClassFile.FieldType.object "JobText$Body")) ∈ gk_tw := gk_in (List.mem_of_getElem? (i := 906) (by decide +kernel)) (by decide +kernel)
theorem k_907 : Jvm.Cond.methodLink "JobText" (86 : Nat) ({ cls := "JobText", name := "shelve", desc := "(LJobText$Text;)Z" } : Jvm.MethodName) ∈ gk_tw := gk_in (List.mem_of_getElem? (i := 907) (by decide +kernel)) (by decide +kernel)
theorem k_909 : Jvm.Cond.instanceMethod ({ cls := "JobText", name := "shelve", desc := "(LJobText$Text;)Z" } : Jvm.MethodName) ∈ gk_tw := gk_in (List.mem_of_getElem? (i := 909) (by decide +kernel)) (by decide +kernel)
theorem k_910 : Jvm.Cond.code ({ cls := "JobText", name := "shelve", desc := "(LJobText$Text;)Z" } : Jvm.MethodName) prog_1_method_15_code (7 : Nat) (Option.some Jvm.ClassFile.FieldType.boolean) ∈ gk_tw := gk_in (List.mem_of_getElem? (i := 910) (by decide +kernel)) (by decide +kernel)
theorem k_911 : Jvm.Cond.methodLink "JobText" (164 : Nat) ({ cls := "JobText$Text", name := "procedures", desc := "()Ljava/util/ArrayList;" } : Jvm.MethodName) ∈ gk_tw := gk_in (List.mem_of_getElem? (i := 911) (by decide +kernel)) (by decide +kernel)
theorem k_912 : Jvm.Cond.instanceMethod ({ cls := "JobText$Text", name := "procedures", desc := "()Ljava/util/ArrayList;" } : Jvm.MethodName) ∈ gk_tw := gk_in (List.mem_of_getElem? (i := 912) (by decide +kernel)) (by decide +kernel)
theorem k_913 : Jvm.Cond.selects "JobText$Text" ({ cls := "JobText$Text", name := "procedures", desc := "()Ljava/util/ArrayList;" } : Jvm.MethodName) ({ cls := "JobText$Text", name := "procedures", desc := "()Ljava/util/ArrayList;" } : Jvm.MethodName) ∈ gk_tw := gk_in (List.mem_of_getElem? (i := 913) (by decide +kernel)) (by decide +kernel)
theorem k_914 : Jvm.Cond.code ({ cls := "JobText$Text", name := "procedures", desc := "()Ljava/util/ArrayList;" } : Jvm.MethodName) prog_12_method_4_code (1 : Nat) (Option.some (Jvm.ClassFile.FieldType.object "java/util/ArrayList")) ∈ gk_tw := gk_in (List.mem_of_getElem? (i := 914) (by decide +kernel)) (by decide +kernel)
theorem k_921 : Jvm.Cond.methodLink "JobText" (90 : Nat) ({ cls := "JobText$Text", name := "size", desc := "()I" } : Jvm.MethodName) ∈ gk_tw := gk_in (List.mem_of_getElem? (i := 921) (by decide +kernel)) (by decide +kernel)
theorem k_922 : Jvm.Cond.instanceMethod ({ cls := "JobText$Text", name := "size", desc := "()I" } : Jvm.MethodName) ∈ gk_tw := gk_in (List.mem_of_getElem? (i := 922) (by decide +kernel)) (by decide +kernel)
theorem k_923 : Jvm.Cond.selects "JobText$Text" ({ cls := "JobText$Text", name := "size", desc := "()I" } : Jvm.MethodName) ({ cls := "JobText$Text", name := "size", desc := "()I" } : Jvm.MethodName) ∈ gk_tw := gk_in (List.mem_of_getElem? (i := 923) (by decide +kernel)) (by decide +kernel)
theorem k_924 : Jvm.Cond.code ({ cls := "JobText$Text", name := "size", desc := "()I" } : Jvm.MethodName) prog_12_method_5_code (1 : Nat) (Option.some Jvm.ClassFile.FieldType.int) ∈ gk_tw := gk_in (List.mem_of_getElem? (i := 924) (by decide +kernel)) (by decide +kernel)
theorem k_925 : Jvm.Cond.methodLink "JobTextLaw" (25 : Nat) ({ cls := "JobText", name := "statement", desc := "(II)I" } : Jvm.MethodName) ∈ gk_tw := gk_in (List.mem_of_getElem? (i := 925) (by decide +kernel)) (by decide +kernel)
theorem k_926 : Jvm.Cond.instanceMethod ({ cls := "JobText", name := "statement", desc := "(II)I" } : Jvm.MethodName) ∈ gk_tw := gk_in (List.mem_of_getElem? (i := 926) (by decide +kernel)) (by decide +kernel)
theorem k_927 : Jvm.Cond.selects "JobText" ({ cls := "JobText", name := "statement", desc := "(II)I" } : Jvm.MethodName) ({ cls := "JobText", name := "statement", desc := "(II)I" } : Jvm.MethodName) ∈ gk_tw := gk_in (List.mem_of_getElem? (i := 927) (by decide +kernel)) (by decide +kernel)
theorem k_928 : Jvm.Cond.code ({ cls := "JobText", name := "statement", desc := "(II)I" } : Jvm.MethodName) prog_1_method_4_code (4 : Nat) (Option.some Jvm.ClassFile.FieldType.int) ∈ gk_tw := gk_in (List.mem_of_getElem? (i := 928) (by decide +kernel)) (by decide +kernel)
theorem k_929 : Jvm.Cond.methodLink "JobText" (93 : Nat) ({ cls := "JobText", name := "statementOf", desc := "(I)LJobText$Statement;" } : Jvm.MethodName) ∈ gk_tw := gk_in (List.mem_of_getElem? (i := 929) (by decide +kernel)) (by decide +kernel)
theorem k_931 : Jvm.Cond.instanceMethod ({ cls := "JobText", name := "statementOf", desc := "(I)LJobText$Statement;" } : Jvm.MethodName) ∈ gk_tw := gk_in (List.mem_of_getElem? (i := 931) (by decide +kernel)) (by decide +kernel)
theorem k_932 : Jvm.Cond.code ({ cls := "JobText", name := "statementOf", desc := "(I)LJobText$Statement;" } : Jvm.MethodName) prog_1_method_14_code (2 : Nat) (Option.some (Jvm.ClassFile.FieldType.object "JobText$Statement")) ∈ gk_tw := gk_in (List.mem_of_getElem? (i := 932) (by decide +kernel)) (by decide +kernel)
theorem k_938 : Jvm.Cond.methodLink "JobTextLaw" (30 : Nat) ({ cls := "JobText", name := "parameter", desc := "(III)I" } : Jvm.MethodName) ∈ gk_tw := gk_in (List.mem_of_getElem? (i := 938) (by decide +kernel)) (by decide +kernel)
theorem k_939 : Jvm.Cond.instanceMethod ({ cls := "JobText", name := "parameter", desc := "(III)I" } : Jvm.MethodName) ∈ gk_tw := gk_in (List.mem_of_getElem? (i := 939) (by decide +kernel)) (by decide +kernel)
theorem k_940 : Jvm.Cond.selects "JobText" ({ cls := "JobText", name := "parameter", desc := "(III)I" } : Jvm.MethodName) ({ cls := "JobText", name := "parameter", desc := "(III)I" } : Jvm.MethodName) ∈ gk_tw := gk_in (List.mem_of_getElem? (i := 940) (by decide +kernel)) (by decide +kernel)
theorem k_941 : Jvm.Cond.code ({ cls := "JobText", name := "parameter", desc := "(III)I" } : Jvm.MethodName) prog_1_method_5_code (5 : Nat) (Option.some Jvm.ClassFile.FieldType.int) ∈ gk_tw := gk_in (List.mem_of_getElem? (i := 941) (by decide +kernel)) (by decide +kernel)
theorem k_948 : Jvm.Cond.static ({ cls := "JobText", name := "nameLength", desc := "(J)I" } : Jvm.MethodName) ∈ gk_tw := gk_in (List.mem_of_getElem? (i := 948) (by decide +kernel)) (by decide +kernel)
theorem k_949 : Jvm.Cond.code ({ cls := "JobText", name := "nameLength", desc := "(J)I" } : Jvm.MethodName) prog_1_method_20_code (4 : Nat) (Option.some Jvm.ClassFile.FieldType.int) ∈ gk_tw := gk_in (List.mem_of_getElem? (i := 949) (by decide +kernel)) (by decide +kernel)
theorem k_950 : Jvm.Cond.constantLong "JobText" (191 : Nat) (255 : Int64) ∈ gk_tw := gk_in (List.mem_of_getElem? (i := 950) (by decide +kernel)) (by decide +kernel)
theorem k_952 : Jvm.Cond.static ({ cls := "JobText", name := "nameSign", desc := "(JI)I" } : Jvm.MethodName) ∈ gk_tw := gk_in (List.mem_of_getElem? (i := 952) (by decide +kernel)) (by decide +kernel)
theorem k_953 : Jvm.Cond.code ({ cls := "JobText", name := "nameSign", desc := "(JI)I" } : Jvm.MethodName) prog_1_method_21_code (4 : Nat) (Option.some Jvm.ClassFile.FieldType.int) ∈ gk_tw := gk_in (List.mem_of_getElem? (i := 953) (by decide +kernel)) (by decide +kernel)
theorem k_954 : Jvm.Cond.methodLink "JobText" (193 : Nat) ({ cls := "JobText", name := "nameLength", desc := "(J)I" } : Jvm.MethodName) ∈ gk_tw := gk_in (List.mem_of_getElem? (i := 954) (by decide +kernel)) (by decide +kernel)
theorem k_955 : Jvm.Cond.methodLink "JobTextLaw" (35 : Nat) ({ cls := "JobText", name := "data", desc := "(II)I" } : Jvm.MethodName) ∈ gk_tw := gk_in (List.mem_of_getElem? (i := 955) (by decide +kernel)) (by decide +kernel)
theorem k_956 : Jvm.Cond.instanceMethod ({ cls := "JobText", name := "data", desc := "(II)I" } : Jvm.MethodName) ∈ gk_tw := gk_in (List.mem_of_getElem? (i := 956) (by decide +kernel)) (by decide +kernel)
theorem k_957 : Jvm.Cond.selects "JobText" ({ cls := "JobText", name := "data", desc := "(II)I" } : Jvm.MethodName) ({ cls := "JobText", name := "data", desc := "(II)I" } : Jvm.MethodName) ∈ gk_tw := gk_in (List.mem_of_getElem? (i := 957) (by decide +kernel)) (by decide +kernel)
theorem k_958 : Jvm.Cond.code ({ cls := "JobText", name := "data", desc := "(II)I" } : Jvm.MethodName) prog_1_method_6_code (4 : Nat) (Option.some Jvm.ClassFile.FieldType.int) ∈ gk_tw := gk_in (List.mem_of_getElem? (i := 958) (by decide +kernel)) (by decide +kernel)
theorem k_959 : Jvm.Cond.methodLink "JobTextLaw" (39 : Nat) ({ cls := "JobText", name := "fault", desc := "(II)I" } : Jvm.MethodName) ∈ gk_tw := gk_in (List.mem_of_getElem? (i := 959) (by decide +kernel)) (by decide +kernel)
theorem k_960 : Jvm.Cond.instanceMethod ({ cls := "JobText", name := "fault", desc := "(II)I" } : Jvm.MethodName) ∈ gk_tw := gk_in (List.mem_of_getElem? (i := 960) (by decide +kernel)) (by decide +kernel)
theorem k_961 : Jvm.Cond.selects "JobText" ({ cls := "JobText", name := "fault", desc := "(II)I" } : Jvm.MethodName) ({ cls := "JobText", name := "fault", desc := "(II)I" } : Jvm.MethodName) ∈ gk_tw := gk_in (List.mem_of_getElem? (i := 961) (by decide +kernel)) (by decide +kernel)
theorem k_962 : Jvm.Cond.code ({ cls := "JobText", name := "fault", desc := "(II)I" } : Jvm.MethodName) prog_1_method_7_code (3 : Nat) (Option.some Jvm.ClassFile.FieldType.int) ∈ gk_tw := gk_in (List.mem_of_getElem? (i := 962) (by decide +kernel)) (by decide +kernel)
theorem k_963 : Jvm.Cond.methodLink "JobText" (124 : Nat) ({ cls := "JobText$Faults", name := "tell", desc := "(II)I" } : Jvm.MethodName) ∈ gk_tw := gk_in (List.mem_of_getElem? (i := 963) (by decide +kernel)) (by decide +kernel)
theorem k_964 : Jvm.Cond.instanceMethod ({ cls := "JobText$Faults", name := "tell", desc := "(II)I" } : Jvm.MethodName) ∈ gk_tw := gk_in (List.mem_of_getElem? (i := 964) (by decide +kernel)) (by decide +kernel)
theorem k_965 : Jvm.Cond.selects "JobText$Faults" ({ cls := "JobText$Faults", name := "tell", desc := "(II)I" } : Jvm.MethodName) ({ cls := "JobText$Faults", name := "tell", desc := "(II)I" } : Jvm.MethodName) ∈ gk_tw := gk_in (List.mem_of_getElem? (i := 965) (by decide +kernel)) (by decide +kernel)
theorem k_966 : Jvm.Cond.code ({ cls := "JobText$Faults", name := "tell", desc := "(II)I" } : Jvm.MethodName) prog_5_method_5_code (3 : Nat) (Option.some Jvm.ClassFile.FieldType.int) ∈ gk_tw := gk_in (List.mem_of_getElem? (i := 966) (by decide +kernel)) (by decide +kernel)
theorem k_967 : Jvm.Cond.methodLink "JobTextLaw" (43 : Nat) ({ cls := "JobText", name := "expand", desc := "()I" } : Jvm.MethodName) ∈ gk_tw := gk_in (List.mem_of_getElem? (i := 967) (by decide +kernel)) (by decide +kernel)
theorem k_968 : Jvm.Cond.instanceMethod ({ cls := "JobText", name := "expand", desc := "()I" } : Jvm.MethodName) ∈ gk_tw := gk_in (List.mem_of_getElem? (i := 968) (by decide +kernel)) (by decide +kernel)
theorem k_969 : Jvm.Cond.selects "JobText" ({ cls := "JobText", name := "expand", desc := "()I" } : Jvm.MethodName) ({ cls := "JobText", name := "expand", desc := "()I" } : Jvm.MethodName) ∈ gk_tw := gk_in (List.mem_of_getElem? (i := 969) (by decide +kernel)) (by decide +kernel)
theorem k_970 : Jvm.Cond.code ({ cls := "JobText", name := "expand", desc := "()I" } : Jvm.MethodName) prog_1_method_8_code (2 : Nat) (Option.some Jvm.ClassFile.FieldType.int) ∈ gk_tw := gk_in (List.mem_of_getElem? (i := 970) (by decide +kernel)) (by decide +kernel)
theorem k_971 : Jvm.Cond.methodLink "JobText" (126 : Nat) ({ cls := "JobText", name := "hasJob", desc := "()Z" } : Jvm.MethodName) ∈ gk_tw := gk_in (List.mem_of_getElem? (i := 971) (by decide +kernel)) (by decide +kernel)
theorem k_973 : Jvm.Cond.instanceMethod ({ cls := "JobText", name := "hasJob", desc := "()Z" } : Jvm.MethodName) ∈ gk_tw := gk_in (List.mem_of_getElem? (i := 973) (by decide +kernel)) (by decide +kernel)
theorem k_974 : Jvm.Cond.code ({ cls := "JobText", name := "hasJob", desc := "()Z" } : Jvm.MethodName) prog_1_method_13_code (1 : Nat) (Option.some Jvm.ClassFile.FieldType.boolean) ∈ gk_tw := gk_in (List.mem_of_getElem? (i := 974) (by decide +kernel)) (by decide +kernel)
theorem k_1295 : Jvm.Cond.instanceMethod ({ cls := "JobText$Listing", name := "size", desc := "()I" } : Jvm.MethodName) ∈ gk_tw := gk_in (List.mem_of_getElem? (i := 1295) (by decide +kernel)) (by decide +kernel)
theorem k_1296 : Jvm.Cond.selects "JobText$Listing" ({ cls := "JobText$Listing", name := "size", desc := "()I" } : Jvm.MethodName) ({ cls := "JobText$Listing", name := "size", desc := "()I" } : Jvm.MethodName) ∈ gk_tw := gk_in (List.mem_of_getElem? (i := 1296) (by decide +kernel)) (by decide +kernel)
theorem k_1297 : Jvm.Cond.code ({ cls := "JobText$Listing", name := "size", desc := "()I" } : Jvm.MethodName) prog_8_method_3_code (1 : Nat) (Option.some Jvm.ClassFile.FieldType.int) ∈ gk_tw := gk_in (List.mem_of_getElem? (i := 1297) (by decide +kernel)) (by decide +kernel)
theorem k_1298 : Jvm.Cond.methodLink "JobTextLaw" (47 : Nat) ({ cls := "JobText", name := "at", desc := "(II)I" } : Jvm.MethodName) ∈ gk_tw := gk_in (List.mem_of_getElem? (i := 1298) (by decide +kernel)) (by decide +kernel)
theorem k_1299 : Jvm.Cond.instanceMethod ({ cls := "JobText", name := "at", desc := "(II)I" } : Jvm.MethodName) ∈ gk_tw := gk_in (List.mem_of_getElem? (i := 1299) (by decide +kernel)) (by decide +kernel)
theorem k_1300 : Jvm.Cond.selects "JobText" ({ cls := "JobText", name := "at", desc := "(II)I" } : Jvm.MethodName) ({ cls := "JobText", name := "at", desc := "(II)I" } : Jvm.MethodName) ∈ gk_tw := gk_in (List.mem_of_getElem? (i := 1300) (by decide +kernel)) (by decide +kernel)
theorem k_1301 : Jvm.Cond.code ({ cls := "JobText", name := "at", desc := "(II)I" } : Jvm.MethodName) prog_1_method_9_code (3 : Nat) (Option.some Jvm.ClassFile.FieldType.int) ∈ gk_tw := gk_in (List.mem_of_getElem? (i := 1301) (by decide +kernel)) (by decide +kernel)
theorem k_1302 : Jvm.Cond.methodLink "JobText" (143 : Nat) ({ cls := "JobText$Expander", name := "listing", desc := "()LJobText$Listing;" } : Jvm.MethodName) ∈ gk_tw := gk_in (List.mem_of_getElem? (i := 1302) (by decide +kernel)) (by decide +kernel)
theorem k_1303 : Jvm.Cond.instanceMethod ({ cls := "JobText$Expander", name := "listing", desc := "()LJobText$Listing;" } : Jvm.MethodName) ∈ gk_tw := gk_in (List.mem_of_getElem? (i := 1303) (by decide +kernel)) (by decide +kernel)
theorem k_1304 : Jvm.Cond.selects "JobText$Expander" ({ cls := "JobText$Expander", name := "listing", desc := "()LJobText$Listing;" } : Jvm.MethodName) ({ cls := "JobText$Expander", name := "listing", desc := "()LJobText$Listing;" } : Jvm.MethodName) ∈ gk_tw := gk_in (List.mem_of_getElem? (i := 1304) (by decide +kernel)) (by decide +kernel)
theorem k_1305 : Jvm.Cond.code ({ cls := "JobText$Expander", name := "listing", desc := "()LJobText$Listing;" } : Jvm.MethodName) prog_4_method_2_code (1 : Nat) (Option.some (Jvm.ClassFile.FieldType.object "JobText$Listing")) ∈ gk_tw := gk_in (List.mem_of_getElem? (i := 1305) (by decide +kernel)) (by decide +kernel)
theorem k_1306 : Jvm.Cond.methodLink "JobText" (147 : Nat) ({ cls := "JobText$Listing", name := "tell", desc := "(II)I" } : Jvm.MethodName) ∈ gk_tw := gk_in (List.mem_of_getElem? (i := 1306) (by decide +kernel)) (by decide +kernel)
theorem k_1307 : Jvm.Cond.instanceMethod ({ cls := "JobText$Listing", name := "tell", desc := "(II)I" } : Jvm.MethodName) ∈ gk_tw := gk_in (List.mem_of_getElem? (i := 1307) (by decide +kernel)) (by decide +kernel)
theorem k_1308 : Jvm.Cond.selects "JobText$Listing" ({ cls := "JobText$Listing", name := "tell", desc := "(II)I" } : Jvm.MethodName) ({ cls := "JobText$Listing", name := "tell", desc := "(II)I" } : Jvm.MethodName) ∈ gk_tw := gk_in (List.mem_of_getElem? (i := 1308) (by decide +kernel)) (by decide +kernel)
theorem k_1309 : Jvm.Cond.code ({ cls := "JobText$Listing", name := "tell", desc := "(II)I" } : Jvm.MethodName) prog_8_method_6_code (3 : Nat) (Option.some Jvm.ClassFile.FieldType.int) ∈ gk_tw := gk_in (List.mem_of_getElem? (i := 1309) (by decide +kernel)) (by decide +kernel)
theorem k_1310 : Jvm.Cond.methodLink "JobTextLaw" (51 : Nat) ({ cls := "JobText", name := "letter", desc := "(II)I" } : Jvm.MethodName) ∈ gk_tw := gk_in (List.mem_of_getElem? (i := 1310) (by decide +kernel)) (by decide +kernel)
theorem k_1311 : Jvm.Cond.instanceMethod ({ cls := "JobText", name := "letter", desc := "(II)I" } : Jvm.MethodName) ∈ gk_tw := gk_in (List.mem_of_getElem? (i := 1311) (by decide +kernel)) (by decide +kernel)
theorem k_1312 : Jvm.Cond.selects "JobText" ({ cls := "JobText", name := "letter", desc := "(II)I" } : Jvm.MethodName) ({ cls := "JobText", name := "letter", desc := "(II)I" } : Jvm.MethodName) ∈ gk_tw := gk_in (List.mem_of_getElem? (i := 1312) (by decide +kernel)) (by decide +kernel)
theorem k_1313 : Jvm.Cond.code ({ cls := "JobText", name := "letter", desc := "(II)I" } : Jvm.MethodName) prog_1_method_10_code (3 : Nat) (Option.some Jvm.ClassFile.FieldType.int) ∈ gk_tw := gk_in (List.mem_of_getElem? (i := 1313) (by decide +kernel)) (by decide +kernel)
theorem k_1314 : Jvm.Cond.methodLink "JobText" (150 : Nat) ({ cls := "JobText$Listing", name := "letterOf", desc := "(II)I" } : Jvm.MethodName) ∈ gk_tw := gk_in (List.mem_of_getElem? (i := 1314) (by decide +kernel)) (by decide +kernel)
theorem k_1315 : Jvm.Cond.instanceMethod ({ cls := "JobText$Listing", name := "letterOf", desc := "(II)I" } : Jvm.MethodName) ∈ gk_tw := gk_in (List.mem_of_getElem? (i := 1315) (by decide +kernel)) (by decide +kernel)
theorem k_1316 : Jvm.Cond.selects "JobText$Listing" ({ cls := "JobText$Listing", name := "letterOf", desc := "(II)I" } : Jvm.MethodName) ({ cls := "JobText$Listing", name := "letterOf", desc := "(II)I" } : Jvm.MethodName) ∈ gk_tw := gk_in (List.mem_of_getElem? (i := 1316) (by decide +kernel)) (by decide +kernel)
theorem k_1317 : Jvm.Cond.code ({ cls := "JobText$Listing", name := "letterOf", desc := "(II)I" } : Jvm.MethodName) prog_8_method_7_code (4 : Nat) (Option.some Jvm.ClassFile.FieldType.int) ∈ gk_tw := gk_in (List.mem_of_getElem? (i := 1317) (by decide +kernel)) (by decide +kernel)
theorem k_1328 : Jvm.Cond.methodLink "JobTextLaw" (55 : Nat) ({ cls := "JobText", name := "ring", desc := "(I)I" } : Jvm.MethodName) ∈ gk_tw := gk_in (List.mem_of_getElem? (i := 1328) (by decide +kernel)) (by decide +kernel)
theorem k_1329 : Jvm.Cond.instanceMethod ({ cls := "JobText", name := "ring", desc := "(I)I" } : Jvm.MethodName) ∈ gk_tw := gk_in (List.mem_of_getElem? (i := 1329) (by decide +kernel)) (by decide +kernel)
theorem k_1330 : Jvm.Cond.selects "JobText" ({ cls := "JobText", name := "ring", desc := "(I)I" } : Jvm.MethodName) ({ cls := "JobText", name := "ring", desc := "(I)I" } : Jvm.MethodName) ∈ gk_tw := gk_in (List.mem_of_getElem? (i := 1330) (by decide +kernel)) (by decide +kernel)
theorem k_1331 : Jvm.Cond.code ({ cls := "JobText", name := "ring", desc := "(I)I" } : Jvm.MethodName) prog_1_method_11_code (2 : Nat) (Option.some Jvm.ClassFile.FieldType.int) ∈ gk_tw := gk_in (List.mem_of_getElem? (i := 1331) (by decide +kernel)) (by decide +kernel)
theorem k_1332 : Jvm.Cond.methodLink "JobText" (153 : Nat) ({ cls := "JobText$Expander", name := "calledSign", desc := "(I)I" } : Jvm.MethodName) ∈ gk_tw := gk_in (List.mem_of_getElem? (i := 1332) (by decide +kernel)) (by decide +kernel)
theorem k_1333 : Jvm.Cond.instanceMethod ({ cls := "JobText$Expander", name := "calledSign", desc := "(I)I" } : Jvm.MethodName) ∈ gk_tw := gk_in (List.mem_of_getElem? (i := 1333) (by decide +kernel)) (by decide +kernel)
theorem k_1334 : Jvm.Cond.selects "JobText$Expander" ({ cls := "JobText$Expander", name := "calledSign", desc := "(I)I" } : Jvm.MethodName) ({ cls := "JobText$Expander", name := "calledSign", desc := "(I)I" } : Jvm.MethodName) ∈ gk_tw := gk_in (List.mem_of_getElem? (i := 1334) (by decide +kernel)) (by decide +kernel)
theorem k_1335 : Jvm.Cond.code ({ cls := "JobText$Expander", name := "calledSign", desc := "(I)I" } : Jvm.MethodName) prog_4_method_4_code (2 : Nat) (Option.some Jvm.ClassFile.FieldType.int) ∈ gk_tw := gk_in (List.mem_of_getElem? (i := 1335) (by decide +kernel)) (by decide +kernel)
theorem k_1337 : Jvm.Cond.methodLink "JobTextLaw" (60 : Nat) ({ cls := "JobText", name := "count", desc := "(I)I" } : Jvm.MethodName) ∈ gk_tw := gk_in (List.mem_of_getElem? (i := 1337) (by decide +kernel)) (by decide +kernel)
theorem k_1338 : Jvm.Cond.instanceMethod ({ cls := "JobText", name := "count", desc := "(I)I" } : Jvm.MethodName) ∈ gk_tw := gk_in (List.mem_of_getElem? (i := 1338) (by decide +kernel)) (by decide +kernel)
theorem k_1339 : Jvm.Cond.selects "JobText" ({ cls := "JobText", name := "count", desc := "(I)I" } : Jvm.MethodName) ({ cls := "JobText", name := "count", desc := "(I)I" } : Jvm.MethodName) ∈ gk_tw := gk_in (List.mem_of_getElem? (i := 1339) (by decide +kernel)) (by decide +kernel)
theorem k_1340 : Jvm.Cond.code ({ cls := "JobText", name := "count", desc := "(I)I" } : Jvm.MethodName) prog_1_method_12_code (2 : Nat) (Option.some Jvm.ClassFile.FieldType.int) ∈ gk_tw := gk_in (List.mem_of_getElem? (i := 1340) (by decide +kernel)) (by decide +kernel)
theorem k_1341 : Jvm.Cond.methodLink "JobText" (157 : Nat) ({ cls := "JobText$Listing", name := "size", desc := "()I" } : Jvm.MethodName) ∈ gk_tw := gk_in (List.mem_of_getElem? (i := 1341) (by decide +kernel)) (by decide +kernel)
theorem k_1342 : Jvm.Cond.methodLink "JobText" (158 : Nat) ({ cls := "JobText$Expander", name := "missing", desc := "()I" } : Jvm.MethodName) ∈ gk_tw := gk_in (List.mem_of_getElem? (i := 1342) (by decide +kernel)) (by decide +kernel)
theorem k_1343 : Jvm.Cond.instanceMethod ({ cls := "JobText$Expander", name := "missing", desc := "()I" } : Jvm.MethodName) ∈ gk_tw := gk_in (List.mem_of_getElem? (i := 1343) (by decide +kernel)) (by decide +kernel)
theorem k_1344 : Jvm.Cond.selects "JobText$Expander" ({ cls := "JobText$Expander", name := "missing", desc := "()I" } : Jvm.MethodName) ({ cls := "JobText$Expander", name := "missing", desc := "()I" } : Jvm.MethodName) ∈ gk_tw := gk_in (List.mem_of_getElem? (i := 1344) (by decide +kernel)) (by decide +kernel)
theorem k_1345 : Jvm.Cond.code ({ cls := "JobText$Expander", name := "missing", desc := "()I" } : Jvm.MethodName) prog_4_method_3_code (1 : Nat) (Option.some Jvm.ClassFile.FieldType.int) ∈ gk_tw := gk_in (List.mem_of_getElem? (i := 1345) (by decide +kernel)) (by decide +kernel)
theorem k_1346 : Jvm.Cond.classLink "JobTextLaw" (10 : Nat) "JobTextModel" ∈ gk_tw := gk_in (List.mem_of_getElem? (i := 1346) (by decide +kernel)) (by decide +kernel)
theorem k_1347 : Jvm.Cond.instantiable "JobTextModel" (81 : Nat) ∈ gk_tw := gk_in (List.mem_of_getElem? (i := 1347) (by decide +kernel)) (by decide +kernel)
theorem k_1348 : Jvm.Cond.methodLink "JobTextLaw" (12 : Nat) ({ cls := "JobTextModel", name := "<init>", desc := "()V" } : Jvm.MethodName) ∈ gk_tw := gk_in (List.mem_of_getElem? (i := 1348) (by decide +kernel)) (by decide +kernel)
theorem k_1349 : Jvm.Cond.instanceMethod ({ cls := "JobTextModel", name := "<init>", desc := "()V" } : Jvm.MethodName) ∈ gk_tw := gk_in (List.mem_of_getElem? (i := 1349) (by decide +kernel)) (by decide +kernel)
theorem k_1350 : Jvm.Cond.code ({ cls := "JobTextModel", name := "<init>", desc := "()V" } : Jvm.MethodName) prog_14_method_1_code (1 : Nat) (Option.none : Option Jvm.ClassFile.FieldType) ∈ gk_tw := gk_in (List.mem_of_getElem? (i := 1350) (by decide +kernel)) (by decide +kernel)
theorem k_1351 : Jvm.Cond.methodLink "JobTextModel" (1 : Nat) ({ cls := "java/lang/Object", name := "<init>", desc := "()V" } : Jvm.MethodName) ∈ gk_tw := gk_in (List.mem_of_getElem? (i := 1351) (by decide +kernel)) (by decide +kernel)
theorem k_1352 : Jvm.Cond.constant "JobTextModel" (7 : Nat) (950000 : Int32) ∈ gk_tw := gk_in (List.mem_of_getElem? (i := 1352) (by decide +kernel)) (by decide +kernel)
theorem k_1353 : Jvm.Cond.constant "JobTextModel" (53 : Nat) (39000 : Int32) ∈ gk_tw := gk_in (List.mem_of_getElem? (i := 1353) (by decide +kernel)) (by decide +kernel)
theorem k_1354 : Jvm.Cond.constant "JobTextModel" (106 : Nat) (40000 : Int32) ∈ gk_tw := gk_in (List.mem_of_getElem? (i := 1354) (by decide +kernel)) (by decide +kernel)
theorem k_1355 : Jvm.Cond.fieldLink "JobTextModel" (176 : Nat) "JobTextModel" "thrown" "I" ∈ gk_tw := gk_in (List.mem_of_getElem? (i := 1355) (by decide +kernel)) (by decide +kernel)
theorem k_1356 : Jvm.Cond.fieldLink "JobTextModel" (8 : Nat) "JobTextModel" "mem" "[I" ∈ gk_tw := gk_in (List.mem_of_getElem? (i := 1356) (by decide +kernel)) (by decide +kernel)
theorem k_1357 : Jvm.Cond.fieldLink "JobTextModel" (14 : Nat) "JobTextModel" "buffer" "[I" ∈ gk_tw := gk_in (List.mem_of_getElem? (i := 1357) (by decide +kernel)) (by decide +kernel)
theorem k_1358 : Jvm.Cond.fieldLink "JobTextModel" (182 : Nat) "JobTextModel" "size" "I" ∈ gk_tw := gk_in (List.mem_of_getElem? (i := 1358) (by decide +kernel)) (by decide +kernel)
theorem k_1359 : Jvm.Cond.fieldLink "JobTextModel" (17 : Nat) "JobTextModel" "many" "[I" ∈ gk_tw := gk_in (List.mem_of_getElem? (i := 1359) (by decide +kernel)) (by decide +kernel)
theorem k_1360 : Jvm.Cond.fieldLink "JobTextModel" (20 : Nat) "JobTextModel" "line" "[I" ∈ gk_tw := gk_in (List.mem_of_getElem? (i := 1360) (by decide +kernel)) (by decide +kernel)
theorem k_1361 : Jvm.Cond.fieldLink "JobTextModel" (23 : Nat) "JobTextModel" "op" "[I" ∈ gk_tw := gk_in (List.mem_of_getElem? (i := 1361) (by decide +kernel)) (by decide +kernel)
theorem k_1362 : Jvm.Cond.fieldLink "JobTextModel" (26 : Nat) "JobTextModel" "nameFrom" "[I" ∈ gk_tw := gk_in (List.mem_of_getElem? (i := 1362) (by decide +kernel)) (by decide +kernel)
theorem k_1363 : Jvm.Cond.fieldLink "JobTextModel" (29 : Nat) "JobTextModel" "nameLong" "[I" ∈ gk_tw := gk_in (List.mem_of_getElem? (i := 1363) (by decide +kernel)) (by decide +kernel)
theorem k_1364 : Jvm.Cond.fieldLink "JobTextModel" (32 : Nat) "JobTextModel" "point" "[I" ∈ gk_tw := gk_in (List.mem_of_getElem? (i := 1364) (by decide +kernel)) (by decide +kernel)
theorem k_1365 : Jvm.Cond.fieldLink "JobTextModel" (35 : Nat) "JobTextModel" "parFirst" "[I" ∈ gk_tw := gk_in (List.mem_of_getElem? (i := 1365) (by decide +kernel)) (by decide +kernel)
theorem k_1366 : Jvm.Cond.fieldLink "JobTextModel" (38 : Nat) "JobTextModel" "parMany" "[I" ∈ gk_tw := gk_in (List.mem_of_getElem? (i := 1366) (by decide +kernel)) (by decide +kernel)
theorem k_1367 : Jvm.Cond.fieldLink "JobTextModel" (41 : Nat) "JobTextModel" "dataFrom" "[I" ∈ gk_tw := gk_in (List.mem_of_getElem? (i := 1367) (by decide +kernel)) (by decide +kernel)
theorem k_1368 : Jvm.Cond.fieldLink "JobTextModel" (44 : Nat) "JobTextModel" "dataMany" "[I" ∈ gk_tw := gk_in (List.mem_of_getElem? (i := 1368) (by decide +kernel)) (by decide +kernel)
theorem k_1369 : Jvm.Cond.fieldLink "JobTextModel" (47 : Nat) "JobTextModel" "step" "[I" ∈ gk_tw := gk_in (List.mem_of_getElem? (i := 1369) (by decide +kernel)) (by decide +kernel)
theorem k_1370 : Jvm.Cond.fieldLink "JobTextModel" (50 : Nat) "JobTextModel" "body" "[I" ∈ gk_tw := gk_in (List.mem_of_getElem? (i := 1370) (by decide +kernel)) (by decide +kernel)
theorem k_1371 : Jvm.Cond.fieldLink "JobTextModel" (54 : Nat) "JobTextModel" "parFrom" "[I" ∈ gk_tw := gk_in (List.mem_of_getElem? (i := 1371) (by decide +kernel)) (by decide +kernel)
theorem k_1372 : Jvm.Cond.fieldLink "JobTextModel" (57 : Nat) "JobTextModel" "parKey" "[I" ∈ gk_tw := gk_in (List.mem_of_getElem? (i := 1372) (by decide +kernel)) (by decide +kernel)
theorem k_1373 : Jvm.Cond.fieldLink "JobTextModel" (60 : Nat) "JobTextModel" "parLong" "[I" ∈ gk_tw := gk_in (List.mem_of_getElem? (i := 1373) (by decide +kernel)) (by decide +kernel)
theorem k_1374 : Jvm.Cond.fieldLink "JobTextModel" (249 : Nat) "JobTextModel" "parameters" "I" ∈ gk_tw := gk_in (List.mem_of_getElem? (i := 1374) (by decide +kernel)) (by decide +kernel)
theorem k_1375 : Jvm.Cond.fieldLink "JobTextModel" (354 : Nat) "JobTextModel" "procedures" "I" ∈ gk_tw := gk_in (List.mem_of_getElem? (i := 1375) (by decide +kernel)) (by decide +kernel)
theorem k_1376 : Jvm.Cond.fieldLink "JobTextModel" (344 : Nat) "JobTextModel" "job" "Z" ∈ gk_tw := gk_in (List.mem_of_getElem? (i := 1376) (by decide +kernel)) (by decide +kernel)
theorem k_1377 : Jvm.Cond.fieldLink "JobTextModel" (188 : Nat) "JobTextModel" "faults" "I" ∈ gk_tw := gk_in (List.mem_of_getElem? (i := 1377) (by decide +kernel)) (by decide +kernel)
theorem k_1378 : Jvm.Cond.fieldLink "JobTextModel" (63 : Nat) "JobTextModel" "faultLine" "[I" ∈ gk_tw := gk_in (List.mem_of_getElem? (i := 1378) (by decide +kernel)) (by decide +kernel)
theorem k_1379 : Jvm.Cond.fieldLink "JobTextModel" (66 : Nat) "JobTextModel" "faultColumn" "[I" ∈ gk_tw := gk_in (List.mem_of_getElem? (i := 1379) (by decide +kernel)) (by decide +kernel)
theorem k_1380 : Jvm.Cond.fieldLink "JobTextModel" (69 : Nat) "JobTextModel" "faultKind" "[I" ∈ gk_tw := gk_in (List.mem_of_getElem? (i := 1380) (by decide +kernel)) (by decide +kernel)
theorem k_1381 : Jvm.Cond.fieldLink "JobTextModel" (72 : Nat) "JobTextModel" "faultNear" "[I" ∈ gk_tw := gk_in (List.mem_of_getElem? (i := 1381) (by decide +kernel)) (by decide +kernel)
theorem k_1382 : Jvm.Cond.fieldLink "JobTextModel" (185 : Nat) "JobTextModel" "lines" "I" ∈ gk_tw := gk_in (List.mem_of_getElem? (i := 1382) (by decide +kernel)) (by decide +kernel)
theorem k_1383 : Jvm.Cond.fieldLink "JobTextModel" (258 : Nat) "JobTextModel" "at" "I" ∈ gk_tw := gk_in (List.mem_of_getElem? (i := 1383) (by decide +kernel)) (by decide +kernel)
theorem k_1384 : Jvm.Cond.fieldLink "JobTextModel" (75 : Nat) "JobTextModel" "lineFrom" "[I" ∈ gk_tw := gk_in (List.mem_of_getElem? (i := 1384) (by decide +kernel)) (by decide +kernel)
theorem k_1385 : Jvm.Cond.fieldLink "JobTextModel" (78 : Nat) "JobTextModel" "lineLong" "[I" ∈ gk_tw := gk_in (List.mem_of_getElem? (i := 1385) (by decide +kernel)) (by decide +kernel)
theorem k_1389 : Jvm.Cond.fieldLink "JobTextModel" (271 : Nat) "JobTextModel" "procedure" "I" ∈ gk_tw := gk_in (List.mem_of_getElem? (i := 1389) (by decide +kernel)) (by decide +kernel)
theorem k_1390 : Jvm.Cond.fieldLink "JobTextModel" (281 : Nat) "JobTextModel" "jobStep" "I" ∈ gk_tw := gk_in (List.mem_of_getElem? (i := 1390) (by decide +kernel)) (by decide +kernel)
theorem k_1391 : Jvm.Cond.fieldLink "JobTextModel" (278 : Nat) "JobTextModel" "procedureStep" "I" ∈ gk_tw := gk_in (List.mem_of_getElem? (i := 1391) (by decide +kernel)) (by decide +kernel)
theorem k_1392 : Jvm.Cond.fieldLink "JobTextModel" (284 : Nat) "JobTextModel" "ifs" "I" ∈ gk_tw := gk_in (List.mem_of_getElem? (i := 1392) (by decide +kernel)) (by decide +kernel)
theorem k_1393 : Jvm.Cond.fieldLink "JobTextModel" (290 : Nat) "JobTextModel" "isJob" "Z" ∈ gk_tw := gk_in (List.mem_of_getElem? (i := 1393) (by decide +kernel)) (by decide +kernel)
theorem k_1394 : Jvm.Cond.fieldLink "JobTextModel" (81 : Nat) "JobTextModel" "elses" "[Z" ∈ gk_tw := gk_in (List.mem_of_getElem? (i := 1394) (by decide +kernel)) (by decide +kernel)
theorem k_1395 : Jvm.Cond.fieldLink "JobTextModel" (404 : Nat) "JobTextModel" "made" "I" ∈ gk_tw := gk_in (List.mem_of_getElem? (i := 1395) (by decide +kernel)) (by decide +kernel)
theorem k_1396 : Jvm.Cond.fieldLink "JobTextModel" (389 : Nat) "JobTextModel" "missing" "I" ∈ gk_tw := gk_in (List.mem_of_getElem? (i := 1396) (by decide +kernel)) (by decide +kernel)
theorem k_1397 : Jvm.Cond.fieldLink "JobTextModel" (436 : Nat) "JobTextModel" "ringLong" "I" ∈ gk_tw := gk_in (List.mem_of_getElem? (i := 1397) (by decide +kernel)) (by decide +kernel)
theorem k_1399 : Jvm.Cond.fieldLink "JobTextModel" (85 : Nat) "JobTextModel" "ringSigns" "[I" ∈ gk_tw := gk_in (List.mem_of_getElem? (i := 1399) (by decide +kernel)) (by decide +kernel)
theorem k_1400 : Jvm.Cond.fieldLink "JobTextModel" (88 : Nat) "JobTextModel" "madeLine" "[I" ∈ gk_tw := gk_in (List.mem_of_getElem? (i := 1400) (by decide +kernel)) (by decide +kernel)
theorem k_1401 : Jvm.Cond.fieldLink "JobTextModel" (91 : Nat) "JobTextModel" "madeOp" "[I" ∈ gk_tw := gk_in (List.mem_of_getElem? (i := 1401) (by decide +kernel)) (by decide +kernel)
theorem k_1402 : Jvm.Cond.fieldLink "JobTextModel" (94 : Nat) "JobTextModel" "madeCalls" "[I" ∈ gk_tw := gk_in (List.mem_of_getElem? (i := 1402) (by decide +kernel)) (by decide +kernel)
theorem k_1403 : Jvm.Cond.fieldLink "JobTextModel" (97 : Nat) "JobTextModel" "madeMany" "[I" ∈ gk_tw := gk_in (List.mem_of_getElem? (i := 1403) (by decide +kernel)) (by decide +kernel)
theorem k_1404 : Jvm.Cond.fieldLink "JobTextModel" (100 : Nat) "JobTextModel" "madeBy" "[I" ∈ gk_tw := gk_in (List.mem_of_getElem? (i := 1404) (by decide +kernel)) (by decide +kernel)
theorem k_1405 : Jvm.Cond.fieldLink "JobTextModel" (103 : Nat) "JobTextModel" "madeLong" "[I" ∈ gk_tw := gk_in (List.mem_of_getElem? (i := 1405) (by decide +kernel)) (by decide +kernel)
theorem k_1406 : Jvm.Cond.fieldLink "JobTextModel" (107 : Nat) "JobTextModel" "letters" "[I" ∈ gk_tw := gk_in (List.mem_of_getElem? (i := 1406) (by decide +kernel)) (by decide +kernel)
theorem k_1409 : Jvm.Cond.fieldLink "JobTextModel" (110 : Nat) "JobTextModel" "heldFrom" "[I" ∈ gk_tw := gk_in (List.mem_of_getElem? (i := 1409) (by decide +kernel)) (by decide +kernel)
theorem k_1410 : Jvm.Cond.fieldLink "JobTextModel" (113 : Nat) "JobTextModel" "heldKey" "[I" ∈ gk_tw := gk_in (List.mem_of_getElem? (i := 1410) (by decide +kernel)) (by decide +kernel)
theorem k_1411 : Jvm.Cond.fieldLink "JobTextModel" (116 : Nat) "JobTextModel" "heldLong" "[I" ∈ gk_tw := gk_in (List.mem_of_getElem? (i := 1411) (by decide +kernel)) (by decide +kernel)
theorem k_1413 : Jvm.Cond.fieldLink "JobTextModel" (119 : Nat) "JobTextModel" "next" "[I" ∈ gk_tw := gk_in (List.mem_of_getElem? (i := 1413) (by decide +kernel)) (by decide +kernel)
theorem k_1414 : Jvm.Cond.fieldLink "JobTextModel" (122 : Nat) "JobTextModel" "end" "[I" ∈ gk_tw := gk_in (List.mem_of_getElem? (i := 1414) (by decide +kernel)) (by decide +kernel)
theorem k_1415 : Jvm.Cond.fieldLink "JobTextModel" (125 : Nat) "JobTextModel" "of" "[I" ∈ gk_tw := gk_in (List.mem_of_getElem? (i := 1415) (by decide +kernel)) (by decide +kernel)
theorem k_1416 : Jvm.Cond.fieldLink "JobTextModel" (128 : Nat) "JobTextModel" "execFirst" "[I" ∈ gk_tw := gk_in (List.mem_of_getElem? (i := 1416) (by decide +kernel)) (by decide +kernel)
theorem k_1417 : Jvm.Cond.fieldLink "JobTextModel" (131 : Nat) "JobTextModel" "execMany" "[I" ∈ gk_tw := gk_in (List.mem_of_getElem? (i := 1417) (by decide +kernel)) (by decide +kernel)
theorem k_1418 : Jvm.Cond.fieldLink "JobTextModel" (134 : Nat) "JobTextModel" "overFirst" "[I" ∈ gk_tw := gk_in (List.mem_of_getElem? (i := 1418) (by decide +kernel)) (by decide +kernel)
theorem k_1419 : Jvm.Cond.fieldLink "JobTextModel" (137 : Nat) "JobTextModel" "topWas" "[I" ∈ gk_tw := gk_in (List.mem_of_getElem? (i := 1419) (by decide +kernel)) (by decide +kernel)
theorem k_1420 : Jvm.Cond.fieldLink "JobTextModel" (140 : Nat) "JobTextModel" "storedWas" "[I" ∈ gk_tw := gk_in (List.mem_of_getElem? (i := 1420) (by decide +kernel)) (by decide +kernel)
theorem k_1421 : Jvm.Cond.fieldLink "JobTextModel" (143 : Nat) "JobTextModel" "oversWas" "[I" ∈ gk_tw := gk_in (List.mem_of_getElem? (i := 1421) (by decide +kernel)) (by decide +kernel)
theorem k_1423 : Jvm.Cond.fieldLink "JobTextModel" (146 : Nat) "JobTextModel" "over" "[I" ∈ gk_tw := gk_in (List.mem_of_getElem? (i := 1423) (by decide +kernel)) (by decide +kernel)
theorem k_1424 : Jvm.Cond.fieldLink "JobTextModel" (149 : Nat) "JobTextModel" "overPar" "[I" ∈ gk_tw := gk_in (List.mem_of_getElem? (i := 1424) (by decide +kernel)) (by decide +kernel)
theorem k_1425 : Jvm.Cond.fieldLink "JobTextModel" (152 : Nat) "JobTextModel" "overMany" "[I" ∈ gk_tw := gk_in (List.mem_of_getElem? (i := 1425) (by decide +kernel)) (by decide +kernel)
theorem k_1426 : Jvm.Cond.fieldLink "JobTextModel" (155 : Nat) "JobTextModel" "overStep" "[I" ∈ gk_tw := gk_in (List.mem_of_getElem? (i := 1426) (by decide +kernel)) (by decide +kernel)
theorem k_1427 : Jvm.Cond.fieldLink "JobTextModel" (158 : Nat) "JobTextModel" "overAdded" "[Z" ∈ gk_tw := gk_in (List.mem_of_getElem? (i := 1427) (by decide +kernel)) (by decide +kernel)
theorem k_1429 : Jvm.Cond.fieldLink "JobTextModel" (161 : Nat) "JobTextModel" "setFrom" "[I" ∈ gk_tw := gk_in (List.mem_of_getElem? (i := 1429) (by decide +kernel)) (by decide +kernel)
theorem k_1430 : Jvm.Cond.fieldLink "JobTextModel" (164 : Nat) "JobTextModel" "setLong" "[I" ∈ gk_tw := gk_in (List.mem_of_getElem? (i := 1430) (by decide +kernel)) (by decide +kernel)
theorem k_1431 : Jvm.Cond.fieldLink "JobTextModel" (167 : Nat) "JobTextModel" "setValue" "[I" ∈ gk_tw := gk_in (List.mem_of_getElem? (i := 1431) (by decide +kernel)) (by decide +kernel)
theorem k_1434 : Jvm.Cond.fieldLink "JobTextModel" (170 : Nat) "JobTextModel" "rowed" "[I" ∈ gk_tw := gk_in (List.mem_of_getElem? (i := 1434) (by decide +kernel)) (by decide +kernel)
theorem k_1435 : Jvm.Cond.fieldLink "JobTextModel" (173 : Nat) "JobTextModel" "rowed2" "[I" ∈ gk_tw := gk_in (List.mem_of_getElem? (i := 1435) (by decide +kernel)) (by decide +kernel)
theorem k_1599 : Jvm.Cond.arrayClass Jvm.ClassFile.FieldType.boolean ∈ gk_tw := gk_in (List.mem_of_getElem? (i := 1599) (by decide +kernel)) (by decide +kernel)
theorem k_1600 : Jvm.Cond.methodLink "JobTextLaw" (19 : Nat) ({ cls := "JobTextModel", name := "sign", desc := "(J)V" } : Jvm.MethodName) ∈ gk_tw := gk_in (List.mem_of_getElem? (i := 1600) (by decide +kernel)) (by decide +kernel)
theorem k_1601 : Jvm.Cond.instanceMethod ({ cls := "JobTextModel", name := "sign", desc := "(J)V" } : Jvm.MethodName) ∈ gk_tw := gk_in (List.mem_of_getElem? (i := 1601) (by decide +kernel)) (by decide +kernel)
theorem k_1602 : Jvm.Cond.selects "JobTextModel" ({ cls := "JobTextModel", name := "sign", desc := "(J)V" } : Jvm.MethodName) ({ cls := "JobTextModel", name := "sign", desc := "(J)V" } : Jvm.MethodName) ∈ gk_tw := gk_in (List.mem_of_getElem? (i := 1602) (by decide +kernel)) (by decide +kernel)
theorem k_1603 : Jvm.Cond.code ({ cls := "JobTextModel", name := "sign", desc := "(J)V" } : Jvm.MethodName) prog_14_method_3_code (5 : Nat) (Option.none : Option Jvm.ClassFile.FieldType) ∈ gk_tw := gk_in (List.mem_of_getElem? (i := 1603) (by decide +kernel)) (by decide +kernel)
theorem k_1604 : Jvm.Cond.constantLong "JobTextModel" (180 : Nat) (255 : Int64) ∈ gk_tw := gk_in (List.mem_of_getElem? (i := 1604) (by decide +kernel)) (by decide +kernel)
theorem k_1605 : Jvm.Cond.methodLink "JobTextLaw" (24 : Nat) ({ cls := "JobTextModel", name := "read", desc := "()I" } : Jvm.MethodName) ∈ gk_tw := gk_in (List.mem_of_getElem? (i := 1605) (by decide +kernel)) (by decide +kernel)
theorem k_1606 : Jvm.Cond.instanceMethod ({ cls := "JobTextModel", name := "read", desc := "()I" } : Jvm.MethodName) ∈ gk_tw := gk_in (List.mem_of_getElem? (i := 1606) (by decide +kernel)) (by decide +kernel)
theorem k_1607 : Jvm.Cond.selects "JobTextModel" ({ cls := "JobTextModel", name := "read", desc := "()I" } : Jvm.MethodName) ({ cls := "JobTextModel", name := "read", desc := "()I" } : Jvm.MethodName) ∈ gk_tw := gk_in (List.mem_of_getElem? (i := 1607) (by decide +kernel)) (by decide +kernel)
theorem k_1608 : Jvm.Cond.code ({ cls := "JobTextModel", name := "read", desc := "()I" } : Jvm.MethodName) prog_14_method_35_code (2 : Nat) (Option.some Jvm.ClassFile.FieldType.int) ∈ gk_tw := gk_in (List.mem_of_getElem? (i := 1608) (by decide +kernel)) (by decide +kernel)
theorem k_1609 : Jvm.Cond.methodLink "JobTextModel" (341 : Nat) ({ cls := "JobTextModel", name := "split", desc := "(I)V" } : Jvm.MethodName) ∈ gk_tw := gk_in (List.mem_of_getElem? (i := 1609) (by decide +kernel)) (by decide +kernel)
theorem k_1611 : Jvm.Cond.instanceMethod ({ cls := "JobTextModel", name := "split", desc := "(I)V" } : Jvm.MethodName) ∈ gk_tw := gk_in (List.mem_of_getElem? (i := 1611) (by decide +kernel)) (by decide +kernel)
theorem k_1612 : Jvm.Cond.code ({ cls := "JobTextModel", name := "split", desc := "(I)V" } : Jvm.MethodName) prog_14_method_4_code (4 : Nat) (Option.none : Option Jvm.ClassFile.FieldType) ∈ gk_tw := gk_in (List.mem_of_getElem? (i := 1612) (by decide +kernel)) (by decide +kernel)
theorem k_1738 : Jvm.Cond.methodLink "JobTextModel" (350 : Nat) ({ cls := "JobTextModel", name := "keep", desc := "()Z" } : Jvm.MethodName) ∈ gk_tw := gk_in (List.mem_of_getElem? (i := 1738) (by decide +kernel)) (by decide +kernel)
theorem k_1740 : Jvm.Cond.instanceMethod ({ cls := "JobTextModel", name := "keep", desc := "()Z" } : Jvm.MethodName) ∈ gk_tw := gk_in (List.mem_of_getElem? (i := 1740) (by decide +kernel)) (by decide +kernel)
theorem k_1741 : Jvm.Cond.code ({ cls := "JobTextModel", name := "keep", desc := "()Z" } : Jvm.MethodName) prog_14_method_37_code (4 : Nat) (Option.some Jvm.ClassFile.FieldType.boolean) ∈ gk_tw := gk_in (List.mem_of_getElem? (i := 1741) (by decide +kernel)) (by decide +kernel)
theorem k_1750 : Jvm.Cond.methodLink "JobTextLaw" (46 : Nat) ({ cls := "JobTextModel", name := "expand", desc := "()I" } : Jvm.MethodName) ∈ gk_tw := gk_in (List.mem_of_getElem? (i := 1750) (by decide +kernel)) (by decide +kernel)
theorem k_1751 : Jvm.Cond.instanceMethod ({ cls := "JobTextModel", name := "expand", desc := "()I" } : Jvm.MethodName) ∈ gk_tw := gk_in (List.mem_of_getElem? (i := 1751) (by decide +kernel)) (by decide +kernel)
theorem k_1752 : Jvm.Cond.selects "JobTextModel" ({ cls := "JobTextModel", name := "expand", desc := "()I" } : Jvm.MethodName) ({ cls := "JobTextModel", name := "expand", desc := "()I" } : Jvm.MethodName) ∈ gk_tw := gk_in (List.mem_of_getElem? (i := 1752) (by decide +kernel)) (by decide +kernel)
theorem k_1753 : Jvm.Cond.code ({ cls := "JobTextModel", name := "expand", desc := "()I" } : Jvm.MethodName) prog_14_method_61_code (4 : Nat) (Option.some Jvm.ClassFile.FieldType.int) ∈ gk_tw := gk_in (List.mem_of_getElem? (i := 1753) (by decide +kernel)) (by decide +kernel)
theorem k_1843 : Jvm.Cond.methodLink "JobTextLaw" (29 : Nat) ({ cls := "JobTextModel", name := "statement", desc := "(II)I" } : Jvm.MethodName) ∈ gk_tw := gk_in (List.mem_of_getElem? (i := 1843) (by decide +kernel)) (by decide +kernel)
theorem k_1844 : Jvm.Cond.instanceMethod ({ cls := "JobTextModel", name := "statement", desc := "(II)I" } : Jvm.MethodName) ∈ gk_tw := gk_in (List.mem_of_getElem? (i := 1844) (by decide +kernel)) (by decide +kernel)
theorem k_1845 : Jvm.Cond.selects "JobTextModel" ({ cls := "JobTextModel", name := "statement", desc := "(II)I" } : Jvm.MethodName) ({ cls := "JobTextModel", name := "statement", desc := "(II)I" } : Jvm.MethodName) ∈ gk_tw := gk_in (List.mem_of_getElem? (i := 1845) (by decide +kernel)) (by decide +kernel)
theorem k_1846 : Jvm.Cond.code ({ cls := "JobTextModel", name := "statement", desc := "(II)I" } : Jvm.MethodName) prog_14_method_62_code (5 : Nat) (Option.some Jvm.ClassFile.FieldType.int) ∈ gk_tw := gk_in (List.mem_of_getElem? (i := 1846) (by decide +kernel)) (by decide +kernel)
theorem k_1847 : Jvm.Cond.methodLink "JobTextLaw" (34 : Nat) ({ cls := "JobTextModel", name := "parameter", desc := "(III)I" } : Jvm.MethodName) ∈ gk_tw := gk_in (List.mem_of_getElem? (i := 1847) (by decide +kernel)) (by decide +kernel)
theorem k_1848 : Jvm.Cond.instanceMethod ({ cls := "JobTextModel", name := "parameter", desc := "(III)I" } : Jvm.MethodName) ∈ gk_tw := gk_in (List.mem_of_getElem? (i := 1848) (by decide +kernel)) (by decide +kernel)
theorem k_1849 : Jvm.Cond.selects "JobTextModel" ({ cls := "JobTextModel", name := "parameter", desc := "(III)I" } : Jvm.MethodName) ({ cls := "JobTextModel", name := "parameter", desc := "(III)I" } : Jvm.MethodName) ∈ gk_tw := gk_in (List.mem_of_getElem? (i := 1849) (by decide +kernel)) (by decide +kernel)
theorem k_1850 : Jvm.Cond.code ({ cls := "JobTextModel", name := "parameter", desc := "(III)I" } : Jvm.MethodName) prog_14_method_63_code (5 : Nat) (Option.some Jvm.ClassFile.FieldType.int) ∈ gk_tw := gk_in (List.mem_of_getElem? (i := 1850) (by decide +kernel)) (by decide +kernel)
theorem k_1851 : Jvm.Cond.methodLink "JobTextLaw" (38 : Nat) ({ cls := "JobTextModel", name := "data", desc := "(II)I" } : Jvm.MethodName) ∈ gk_tw := gk_in (List.mem_of_getElem? (i := 1851) (by decide +kernel)) (by decide +kernel)
theorem k_1852 : Jvm.Cond.instanceMethod ({ cls := "JobTextModel", name := "data", desc := "(II)I" } : Jvm.MethodName) ∈ gk_tw := gk_in (List.mem_of_getElem? (i := 1852) (by decide +kernel)) (by decide +kernel)
theorem k_1853 : Jvm.Cond.selects "JobTextModel" ({ cls := "JobTextModel", name := "data", desc := "(II)I" } : Jvm.MethodName) ({ cls := "JobTextModel", name := "data", desc := "(II)I" } : Jvm.MethodName) ∈ gk_tw := gk_in (List.mem_of_getElem? (i := 1853) (by decide +kernel)) (by decide +kernel)
theorem k_1854 : Jvm.Cond.code ({ cls := "JobTextModel", name := "data", desc := "(II)I" } : Jvm.MethodName) prog_14_method_64_code (3 : Nat) (Option.some Jvm.ClassFile.FieldType.int) ∈ gk_tw := gk_in (List.mem_of_getElem? (i := 1854) (by decide +kernel)) (by decide +kernel)
theorem k_1855 : Jvm.Cond.methodLink "JobTextLaw" (42 : Nat) ({ cls := "JobTextModel", name := "fault", desc := "(II)I" } : Jvm.MethodName) ∈ gk_tw := gk_in (List.mem_of_getElem? (i := 1855) (by decide +kernel)) (by decide +kernel)
theorem k_1856 : Jvm.Cond.instanceMethod ({ cls := "JobTextModel", name := "fault", desc := "(II)I" } : Jvm.MethodName) ∈ gk_tw := gk_in (List.mem_of_getElem? (i := 1856) (by decide +kernel)) (by decide +kernel)
theorem k_1857 : Jvm.Cond.selects "JobTextModel" ({ cls := "JobTextModel", name := "fault", desc := "(II)I" } : Jvm.MethodName) ({ cls := "JobTextModel", name := "fault", desc := "(II)I" } : Jvm.MethodName) ∈ gk_tw := gk_in (List.mem_of_getElem? (i := 1857) (by decide +kernel)) (by decide +kernel)
theorem k_1858 : Jvm.Cond.code ({ cls := "JobTextModel", name := "fault", desc := "(II)I" } : Jvm.MethodName) prog_14_method_65_code (3 : Nat) (Option.some Jvm.ClassFile.FieldType.int) ∈ gk_tw := gk_in (List.mem_of_getElem? (i := 1858) (by decide +kernel)) (by decide +kernel)
theorem k_1859 : Jvm.Cond.methodLink "JobTextLaw" (50 : Nat) ({ cls := "JobTextModel", name := "at", desc := "(II)I" } : Jvm.MethodName) ∈ gk_tw := gk_in (List.mem_of_getElem? (i := 1859) (by decide +kernel)) (by decide +kernel)
theorem k_1860 : Jvm.Cond.instanceMethod ({ cls := "JobTextModel", name := "at", desc := "(II)I" } : Jvm.MethodName) ∈ gk_tw := gk_in (List.mem_of_getElem? (i := 1860) (by decide +kernel)) (by decide +kernel)
theorem k_1861 : Jvm.Cond.selects "JobTextModel" ({ cls := "JobTextModel", name := "at", desc := "(II)I" } : Jvm.MethodName) ({ cls := "JobTextModel", name := "at", desc := "(II)I" } : Jvm.MethodName) ∈ gk_tw := gk_in (List.mem_of_getElem? (i := 1861) (by decide +kernel)) (by decide +kernel)
theorem k_1862 : Jvm.Cond.code ({ cls := "JobTextModel", name := "at", desc := "(II)I" } : Jvm.MethodName) prog_14_method_66_code (3 : Nat) (Option.some Jvm.ClassFile.FieldType.int) ∈ gk_tw := gk_in (List.mem_of_getElem? (i := 1862) (by decide +kernel)) (by decide +kernel)
theorem k_1863 : Jvm.Cond.methodLink "JobTextLaw" (54 : Nat) ({ cls := "JobTextModel", name := "letter", desc := "(II)I" } : Jvm.MethodName) ∈ gk_tw := gk_in (List.mem_of_getElem? (i := 1863) (by decide +kernel)) (by decide +kernel)
theorem k_1864 : Jvm.Cond.instanceMethod ({ cls := "JobTextModel", name := "letter", desc := "(II)I" } : Jvm.MethodName) ∈ gk_tw := gk_in (List.mem_of_getElem? (i := 1864) (by decide +kernel)) (by decide +kernel)
theorem k_1865 : Jvm.Cond.selects "JobTextModel" ({ cls := "JobTextModel", name := "letter", desc := "(II)I" } : Jvm.MethodName) ({ cls := "JobTextModel", name := "letter", desc := "(II)I" } : Jvm.MethodName) ∈ gk_tw := gk_in (List.mem_of_getElem? (i := 1865) (by decide +kernel)) (by decide +kernel)
theorem k_1866 : Jvm.Cond.code ({ cls := "JobTextModel", name := "letter", desc := "(II)I" } : Jvm.MethodName) prog_14_method_67_code (3 : Nat) (Option.some Jvm.ClassFile.FieldType.int) ∈ gk_tw := gk_in (List.mem_of_getElem? (i := 1866) (by decide +kernel)) (by decide +kernel)
theorem k_1867 : Jvm.Cond.methodLink "JobTextLaw" (59 : Nat) ({ cls := "JobTextModel", name := "ring", desc := "(I)I" } : Jvm.MethodName) ∈ gk_tw := gk_in (List.mem_of_getElem? (i := 1867) (by decide +kernel)) (by decide +kernel)
theorem k_1868 : Jvm.Cond.instanceMethod ({ cls := "JobTextModel", name := "ring", desc := "(I)I" } : Jvm.MethodName) ∈ gk_tw := gk_in (List.mem_of_getElem? (i := 1868) (by decide +kernel)) (by decide +kernel)
theorem k_1869 : Jvm.Cond.selects "JobTextModel" ({ cls := "JobTextModel", name := "ring", desc := "(I)I" } : Jvm.MethodName) ({ cls := "JobTextModel", name := "ring", desc := "(I)I" } : Jvm.MethodName) ∈ gk_tw := gk_in (List.mem_of_getElem? (i := 1869) (by decide +kernel)) (by decide +kernel)
theorem k_1870 : Jvm.Cond.code ({ cls := "JobTextModel", name := "ring", desc := "(I)I" } : Jvm.MethodName) prog_14_method_68_code (2 : Nat) (Option.some Jvm.ClassFile.FieldType.int) ∈ gk_tw := gk_in (List.mem_of_getElem? (i := 1870) (by decide +kernel)) (by decide +kernel)
theorem k_1871 : Jvm.Cond.methodLink "JobTextLaw" (63 : Nat) ({ cls := "JobTextModel", name := "count", desc := "(I)I" } : Jvm.MethodName) ∈ gk_tw := gk_in (List.mem_of_getElem? (i := 1871) (by decide +kernel)) (by decide +kernel)
theorem k_1872 : Jvm.Cond.instanceMethod ({ cls := "JobTextModel", name := "count", desc := "(I)I" } : Jvm.MethodName) ∈ gk_tw := gk_in (List.mem_of_getElem? (i := 1872) (by decide +kernel)) (by decide +kernel)
theorem k_1873 : Jvm.Cond.selects "JobTextModel" ({ cls := "JobTextModel", name := "count", desc := "(I)I" } : Jvm.MethodName) ({ cls := "JobTextModel", name := "count", desc := "(I)I" } : Jvm.MethodName) ∈ gk_tw := gk_in (List.mem_of_getElem? (i := 1873) (by decide +kernel)) (by decide +kernel)
theorem k_1874 : Jvm.Cond.code ({ cls := "JobTextModel", name := "count", desc := "(I)I" } : Jvm.MethodName) prog_14_method_69_code (2 : Nat) (Option.some Jvm.ClassFile.FieldType.int) ∈ gk_tw := gk_in (List.mem_of_getElem? (i := 1874) (by decide +kernel)) (by decide +kernel)
theorem k_1875 : Jvm.Cond.constantLong "JobTextLaw" (13 : Nat) (4294967295 : Int64) ∈ gk_tw := gk_in (List.mem_of_getElem? (i := 1875) (by decide +kernel)) (by decide +kernel)
theorem nk_0 : Jvm.Cond.methodLinkNest "JobText" (15 : Nat) ({ cls := "JobText$Faults", name := "<init>", desc := "()V" } : Jvm.MethodName) "JobText" ∈ gk_nw := List.mem_of_getElem? (i := 0) (by decide +kernel)
theorem nk_1 : Jvm.Cond.methodLinkNest "JobText" (29 : Nat) ({ cls := "JobText$Expander", name := "<init>", desc := "()V" } : Jvm.MethodName) "JobText" ∈ gk_nw := List.mem_of_getElem? (i := 1) (by decide +kernel)
theorem nk_2 : Jvm.Cond.methodLinkNest "JobText$Expander" (11 : Nat) ({ cls := "JobText$Listing", name := "<init>", desc := "()V" } : Jvm.MethodName) "JobText" ∈ gk_nw := List.mem_of_getElem? (i := 2) (by decide +kernel)
theorem nk_3 : Jvm.Cond.methodLinkNest "JobText$Expander" (20 : Nat) ({ cls := "JobText$Rows", name := "<init>", desc := "()V" } : Jvm.MethodName) "JobText" ∈ gk_nw := List.mem_of_getElem? (i := 3) (by decide +kernel)
theorem nk_4 : Jvm.Cond.methodLinkNest "JobText" (47 : Nat) ({ cls := "JobText$Text", name := "<init>", desc := "()V" } : Jvm.MethodName) "JobText" ∈ gk_nw := List.mem_of_getElem? (i := 4) (by decide +kernel)
theorem nk_5 : Jvm.Cond.methodLinkNest "JobText$Text" (11 : Nat) ({ cls := "JobText$Rows", name := "<init>", desc := "()V" } : Jvm.MethodName) "JobText" ∈ gk_nw := List.mem_of_getElem? (i := 5) (by decide +kernel)
theorem nk_64 : Jvm.Cond.methodLinkNest "JobText$Expander" (52 : Nat) ({ cls := "JobText", name := "nameSign", desc := "(JI)I" } : Jvm.MethodName) "JobText" ∈ gk_nw := List.mem_of_getElem? (i := 64) (by decide +kernel)
abbrev b_Ac_init : ByteArray := prog_25_method_1_code
def y_Ac_init : MethodName := ⟨"java/util/AbstractCollection", "<init>", "()V"⟩
abbrev b_Ab_init : ByteArray := prog_26_method_1_code
def y_Ab_init : MethodName := ⟨"java/util/AbstractList", "<init>", "()V"⟩
abbrev b_Al_init : ByteArray := prog_27_method_2_code
def y_Al_init : MethodName := ⟨"java/util/ArrayList", "<init>", "()V"⟩
abbrev b_As_init : ByteArray := prog_16_method_2_code
def y_As_init : MethodName := ⟨"java/lang/AbstractStringBuilder", "<init>", "(I)V"⟩
abbrev b_Sb_init : ByteArray := prog_21_method_1_code
def y_Sb_init : MethodName := ⟨"java/lang/StringBuilder", "<init>", "()V"⟩
abbrev b_Fa_init : ByteArray := prog_5_method_1_code
def y_Fa_init : MethodName := ⟨"JobText$Faults", "<init>", "()V"⟩
abbrev b_Ro_init : ByteArray := prog_10_method_1_code
def y_Ro_init : MethodName := ⟨"JobText$Rows", "<init>", "()V"⟩
abbrev b_Li_init : ByteArray := prog_8_method_1_code
def y_Li_init : MethodName := ⟨"JobText$Listing", "<init>", "()V"⟩
abbrev b_Ex_init : ByteArray := prog_4_method_1_code
def y_Ex_init : MethodName := ⟨"JobText$Expander", "<init>", "()V"⟩
abbrev b_Jt_init : ByteArray := prog_1_method_1_code
def y_Jt_init : MethodName := ⟨"JobText", "<init>", "()V"⟩
abbrev b_Mo_init : ByteArray := prog_14_method_1_code
def y_Mo_init : MethodName := ⟨"JobTextModel", "<init>", "()V"⟩
abbrev b_Fa_total : ByteArray := prog_5_method_3_code
def y_Fa_total : MethodName := ⟨"JobText$Faults", "total", "()I"⟩
abbrev b_Fa_clear : ByteArray := prog_5_method_2_code
def y_Fa_clear : MethodName := ⟨"JobText$Faults", "clear", "()V"⟩
abbrev b_Fa_tell : ByteArray := prog_5_method_5_code
def y_Fa_tell : MethodName := ⟨"JobText$Faults", "tell", "(II)I"⟩
abbrev b_Ex_listing : ByteArray := prog_4_method_2_code
def y_Ex_listing : MethodName := ⟨"JobText$Expander", "listing", "()LJobText$Listing;"⟩
abbrev b_Ex_missing : ByteArray := prog_4_method_3_code
def y_Ex_missing : MethodName := ⟨"JobText$Expander", "missing", "()I"⟩
abbrev b_Li_size : ByteArray := prog_8_method_3_code
def y_Li_size : MethodName := ⟨"JobText$Listing", "size", "()I"⟩
abbrev b_Li_tell : ByteArray := prog_8_method_6_code
def y_Li_tell : MethodName := ⟨"JobText$Listing", "tell", "(II)I"⟩
abbrev b_Li_letterOf : ByteArray := prog_8_method_7_code
def y_Li_letterOf : MethodName := ⟨"JobText$Listing", "letterOf", "(II)I"⟩
abbrev b_Al_size : ByteArray := prog_27_method_8_code
def y_Al_size : MethodName := ⟨"java/util/ArrayList", "size", "()I"⟩
abbrev b_Jt_nameLength : ByteArray := prog_1_method_20_code
def y_Jt_nameLength : MethodName := ⟨"JobText", "nameLength", "(J)I"⟩
abbrev b_Jt_nameSign : ByteArray := prog_1_method_21_code
def y_Jt_nameSign : MethodName := ⟨"JobText", "nameSign", "(JI)I"⟩
abbrev b_Ex_calledSign : ByteArray := prog_4_method_4_code
def y_Ex_calledSign : MethodName := ⟨"JobText$Expander", "calledSign", "(I)I"⟩
abbrev b_Jt_hasJob : ByteArray := prog_1_method_13_code
def y_Jt_hasJob : MethodName := ⟨"JobText", "hasJob", "()Z"⟩
abbrev b_Jt_statementOf : ByteArray := prog_1_method_14_code
def y_Jt_statementOf : MethodName := ⟨"JobText", "statementOf", "(I)LJobText$Statement;"⟩
abbrev b_Jt_statement : ByteArray := prog_1_method_4_code
def y_Jt_statement : MethodName := ⟨"JobText", "statement", "(II)I"⟩
abbrev b_Jt_parameter : ByteArray := prog_1_method_5_code
def y_Jt_parameter : MethodName := ⟨"JobText", "parameter", "(III)I"⟩
abbrev b_Jt_data : ByteArray := prog_1_method_6_code
def y_Jt_data : MethodName := ⟨"JobText", "data", "(II)I"⟩
abbrev b_Jt_fault : ByteArray := prog_1_method_7_code
def y_Jt_fault : MethodName := ⟨"JobText", "fault", "(II)I"⟩
abbrev b_Jt_expand : ByteArray := prog_1_method_8_code
def y_Jt_expand : MethodName := ⟨"JobText", "expand", "()I"⟩
abbrev b_Jt_at : ByteArray := prog_1_method_9_code
def y_Jt_at : MethodName := ⟨"JobText", "at", "(II)I"⟩
abbrev b_Jt_letter : ByteArray := prog_1_method_10_code
def y_Jt_letter : MethodName := ⟨"JobText", "letter", "(II)I"⟩
abbrev b_Jt_ring : ByteArray := prog_1_method_11_code
def y_Jt_ring : MethodName := ⟨"JobText", "ring", "(I)I"⟩
abbrev b_Te_init : ByteArray := prog_12_method_1_code
def y_Te_init : MethodName := ⟨"JobText$Text", "<init>", "()V"⟩
abbrev b_Ln_totalOf : ByteArray := prog_7_method_2_code
def y_Ln_totalOf : MethodName := ⟨"JobText$Lines", "totalOf", "([BI)I"⟩
abbrev b_Ln_init : ByteArray := prog_7_method_1_code
def y_Ln_init : MethodName := ⟨"JobText$Lines", "<init>", "([BI)V"⟩
abbrev b_Ln_total : ByteArray := prog_7_method_3_code
def y_Ln_total : MethodName := ⟨"JobText$Lines", "total", "()I"⟩
abbrev b_Te_rows : ByteArray := prog_12_method_2_code
def y_Te_rows : MethodName := ⟨"JobText$Text", "rows", "()LJobText$Rows;"⟩
abbrev b_Te_isOpen : ByteArray := prog_12_method_7_code
def y_Te_isOpen : MethodName := ⟨"JobText$Text", "isOpen", "()Z"⟩
abbrev b_Te_job : ByteArray := prog_12_method_3_code
def y_Te_job : MethodName := ⟨"JobText$Text", "job", "()LJobText$Body;"⟩
abbrev b_Te_procedures : ByteArray := prog_12_method_4_code
def y_Te_procedures : MethodName := ⟨"JobText$Text", "procedures", "()Ljava/util/ArrayList;"⟩
abbrev b_Te_size : ByteArray := prog_12_method_5_code
def y_Te_size : MethodName := ⟨"JobText$Text", "size", "()I"⟩
abbrev b_Re_init : ByteArray := prog_9_method_1_code
def y_Re_init : MethodName := ⟨"JobText$Reader", "<init>", "(LJobText$Lines;LJobText$Text;LJobText$Faults;)V"⟩
abbrev b_Jt_shelve : ByteArray := prog_1_method_15_code
def y_Jt_shelve : MethodName := ⟨"JobText", "shelve", "(LJobText$Text;)Z"⟩
abbrev b_Jt_read : ByteArray := prog_1_method_3_code
def y_Jt_read : MethodName := ⟨"JobText", "read", "()I"⟩
abbrev b_Jt_count : ByteArray := prog_1_method_12_code
def y_Jt_count : MethodName := ⟨"JobText", "count", "(I)I"⟩
abbrev b_Jt_isSign : ByteArray := prog_1_method_17_code
def y_Jt_isSign : MethodName := ⟨"JobText", "isSign", "(I)Z"⟩
abbrev b_Jt_sign : ByteArray := prog_1_method_2_code
def y_Jt_sign : MethodName := ⟨"JobText", "sign", "(J)V"⟩
abbrev b_Mo_sign : ByteArray := prog_14_method_3_code
def y_Mo_sign : MethodName := ⟨"JobTextModel", "sign", "(J)V"⟩
abbrev b_Mo_statement : ByteArray := prog_14_method_62_code
def y_Mo_statement : MethodName := ⟨"JobTextModel", "statement", "(II)I"⟩
abbrev b_Mo_parameter : ByteArray := prog_14_method_63_code
def y_Mo_parameter : MethodName := ⟨"JobTextModel", "parameter", "(III)I"⟩
abbrev b_Mo_data : ByteArray := prog_14_method_64_code
def y_Mo_data : MethodName := ⟨"JobTextModel", "data", "(II)I"⟩
abbrev b_Mo_fault : ByteArray := prog_14_method_65_code
def y_Mo_fault : MethodName := ⟨"JobTextModel", "fault", "(II)I"⟩
abbrev b_Mo_expand : ByteArray := prog_14_method_61_code
def y_Mo_expand : MethodName := ⟨"JobTextModel", "expand", "()I"⟩
abbrev b_Mo_at : ByteArray := prog_14_method_66_code
def y_Mo_at : MethodName := ⟨"JobTextModel", "at", "(II)I"⟩
abbrev b_Mo_letter : ByteArray := prog_14_method_67_code
def y_Mo_letter : MethodName := ⟨"JobTextModel", "letter", "(II)I"⟩
abbrev b_Mo_ring : ByteArray := prog_14_method_68_code
def y_Mo_ring : MethodName := ⟨"JobTextModel", "ring", "(I)I"⟩
abbrev b_Mo_split : ByteArray := prog_14_method_4_code
def y_Mo_split : MethodName := ⟨"JobTextModel", "split", "(I)V"⟩
abbrev b_Mo_count : ByteArray := prog_14_method_69_code
def y_Mo_count : MethodName := ⟨"JobTextModel", "count", "(I)I"⟩
abbrev b_Mo_read : ByteArray := prog_14_method_35_code
def y_Mo_read : MethodName := ⟨"JobTextModel", "read", "()I"⟩
abbrev b_Mo_keep : ByteArray := prog_14_method_37_code
def y_Mo_keep : MethodName := ⟨"JobTextModel", "keep", "()Z"⟩
abbrev b_law : ByteArray := code
def y_law : MethodName := ⟨"JobTextLaw", "law", "([I)Z"⟩
theorem ok_Ac_init : gk_ok y_Ac_init b_Ac_init 1 (none) 0 := ⟨⟨k_159, k_92⟩, by decide, by decide, by decide +kernel⟩
theorem ok_Ab_init : gk_ok y_Ab_init b_Ab_init 1 (none) 0 := ⟨⟨k_156, k_93⟩, by decide, by decide, by decide +kernel⟩
theorem ok_As_init : gk_ok y_As_init b_As_init 2 (none) 1 := ⟨⟨k_194, k_97⟩, by decide, by decide, by decide +kernel⟩
theorem ok_Sb_init : gk_ok y_Sb_init b_Sb_init 1 (none) 0 := ⟨⟨k_191, k_98⟩, by decide, by decide, by decide +kernel⟩
theorem ok_Li_init : gk_ok y_Li_init b_Li_init 1 (none) 0 := ⟨⟨k_185, k_96⟩, by decide, by decide, by decide +kernel⟩
theorem ok_Ro_init : gk_ok y_Ro_init b_Ro_init 1 (none) 0 := ⟨⟨k_247, k_101⟩, by decide, by decide, by decide +kernel⟩
theorem ok_Al_init : gk_ok y_Al_init b_Al_init 1 (none) 0 := ⟨⟨k_153, k_94⟩, by decide, by decide, by decide +kernel⟩
theorem ok_Fa_init : gk_ok y_Fa_init b_Fa_init 1 (none) 0 := ⟨⟨k_129, k_91⟩, by decide, by decide, by decide +kernel⟩
theorem ok_Ex_init : gk_ok y_Ex_init b_Ex_init 1 (none) 0 := ⟨⟨k_179, k_95⟩, by decide, by decide, by decide +kernel⟩
theorem ok_Jt_nameLength : gk_ok y_Jt_nameLength b_Jt_nameLength 4 (some .int) 1 := ⟨⟨k_949, k_90⟩, by decide, by decide, by decide +kernel⟩
theorem ok_Jt_nameSign : gk_ok y_Jt_nameSign b_Jt_nameSign 4 (some .int) 2 := ⟨⟨k_953, k_90⟩, by decide, by decide, by decide +kernel⟩
theorem ok_Jt_statementOf : gk_ok y_Jt_statementOf b_Jt_statementOf 2 (some (.object "JobText$Statement")) 1 := ⟨⟨k_932, k_90⟩, by decide, by decide, by decide +kernel⟩
theorem ok_Fa_tell : gk_ok y_Fa_tell b_Fa_tell 3 (some .int) 2 := ⟨⟨k_966, k_91⟩, by decide, by decide, by decide +kernel⟩
theorem ok_Jt_hasJob : gk_ok y_Jt_hasJob b_Jt_hasJob 1 (some .boolean) 0 := ⟨⟨k_974, k_90⟩, by decide, by decide, by decide +kernel⟩
theorem ok_Ex_listing : gk_ok y_Ex_listing b_Ex_listing 1 (some (.object "JobText$Listing")) 0 := ⟨⟨k_1305, k_95⟩, by decide, by decide, by decide +kernel⟩
theorem ok_Li_tell : gk_ok y_Li_tell b_Li_tell 3 (some .int) 2 := ⟨⟨k_1309, k_96⟩, by decide, by decide, by decide +kernel⟩
theorem ok_Li_letterOf : gk_ok y_Li_letterOf b_Li_letterOf 4 (some .int) 2 := ⟨⟨k_1317, k_96⟩, by decide, by decide, by decide +kernel⟩
theorem ok_Ex_calledSign : gk_ok y_Ex_calledSign b_Ex_calledSign 2 (some .int) 1 := ⟨⟨k_1335, k_95⟩, by decide, by decide, by decide +kernel⟩
theorem ok_Ln_totalOf : gk_ok y_Ln_totalOf b_Ln_totalOf 4 (some .int) 2 := ⟨⟨k_379, k_104⟩, by decide, by decide, by decide +kernel⟩
theorem ok_Al_size : gk_ok y_Al_size b_Al_size 1 (some .int) 0 := ⟨⟨k_734, k_94⟩, by decide, by decide, by decide +kernel⟩
theorem ok_Te_rows : gk_ok y_Te_rows b_Te_rows 1 (some (.object "JobText$Rows")) 0 := ⟨⟨k_402, k_103⟩, by decide, by decide, by decide +kernel⟩
theorem ok_Te_procedures : gk_ok y_Te_procedures b_Te_procedures 1 (some (.object "java/util/ArrayList")) 0 := ⟨⟨k_914, k_103⟩, by decide, by decide, by decide +kernel⟩
theorem ok_Fa_clear : gk_ok y_Fa_clear b_Fa_clear 1 (none) 0 := ⟨⟨k_335, k_91⟩, by decide, by decide, by decide +kernel⟩
theorem ok_Te_init : gk_ok y_Te_init b_Te_init 1 (none) 0 := ⟨⟨k_340, k_103⟩, by decide, by decide, by decide +kernel⟩
theorem ok_Ln_init : gk_ok y_Ln_init b_Ln_init 7 (none) 2 := ⟨⟨k_372, k_104⟩, by decide, by decide, by decide +kernel⟩
theorem ok_Re_init : gk_ok y_Re_init b_Re_init 4 (none) 3 := ⟨⟨k_397, k_106⟩, by decide, by decide, by decide +kernel⟩
theorem ok_Ln_total : gk_ok y_Ln_total b_Ln_total 1 (some .int) 0 := ⟨⟨k_434, k_104⟩, by decide, by decide, by decide +kernel⟩
theorem ok_Te_isOpen : gk_ok y_Te_isOpen b_Te_isOpen 1 (some .boolean) 0 := ⟨⟨k_897, k_103⟩, by decide, by decide, by decide +kernel⟩
theorem ok_Fa_total : gk_ok y_Fa_total b_Fa_total 1 (some .int) 0 := ⟨⟨k_902, k_91⟩, by decide, by decide, by decide +kernel⟩
theorem ok_Te_job : gk_ok y_Te_job b_Te_job 1 (some (.object "JobText$Body")) 0 := ⟨⟨k_906, k_103⟩, by decide, by decide, by decide +kernel⟩
theorem ok_Jt_shelve : gk_ok y_Jt_shelve b_Jt_shelve 7 (some .boolean) 1 := ⟨⟨k_910, k_90⟩, by decide, by decide, by decide +kernel⟩
theorem ok_Te_size : gk_ok y_Te_size b_Te_size 1 (some .int) 0 := ⟨⟨k_924, k_103⟩, by decide, by decide, by decide +kernel⟩
theorem ok_Li_size : gk_ok y_Li_size b_Li_size 1 (some .int) 0 := ⟨⟨k_1297, k_96⟩, by decide, by decide, by decide +kernel⟩
theorem ok_Ex_missing : gk_ok y_Ex_missing b_Ex_missing 1 (some .int) 0 := ⟨⟨k_1345, k_95⟩, by decide, by decide, by decide +kernel⟩
theorem ok_Jt_isSign : gk_ok y_Jt_isSign b_Jt_isSign 1 (some .boolean) 1 := ⟨⟨k_327, k_90⟩, by decide, by decide, by decide +kernel⟩
theorem ok_Mo_split : gk_ok y_Mo_split b_Mo_split 4 (none) 1 := ⟨⟨k_1612, k_102⟩, by decide, by decide, by decide +kernel⟩
theorem ok_Mo_keep : gk_ok y_Mo_keep b_Mo_keep 4 (some .boolean) 0 := ⟨⟨k_1741, k_102⟩, by decide, by decide, by decide +kernel⟩
theorem ok_Jt_init : gk_ok y_Jt_init b_Jt_init 1 (none) 0 := ⟨⟨k_121, k_90⟩, by decide, by decide, by decide +kernel⟩
theorem ok_Mo_init : gk_ok y_Mo_init b_Mo_init 1 (none) 0 := ⟨⟨k_1350, k_102⟩, by decide, by decide, by decide +kernel⟩
theorem ok_Jt_sign : gk_ok y_Jt_sign b_Jt_sign 5 (none) 1 := ⟨⟨k_324, k_90⟩, by decide, by decide, by decide +kernel⟩
theorem ok_Mo_sign : gk_ok y_Mo_sign b_Mo_sign 5 (none) 1 := ⟨⟨k_1603, k_102⟩, by decide, by decide, by decide +kernel⟩
theorem ok_Jt_read : gk_ok y_Jt_read b_Jt_read 6 (some .int) 0 := ⟨⟨k_331, k_90⟩, by decide, by decide, by decide +kernel⟩
theorem ok_Mo_read : gk_ok y_Mo_read b_Mo_read 2 (some .int) 0 := ⟨⟨k_1608, k_102⟩, by decide, by decide, by decide +kernel⟩
theorem ok_Jt_statement : gk_ok y_Jt_statement b_Jt_statement 4 (some .int) 2 := ⟨⟨k_928, k_90⟩, by decide, by decide, by decide +kernel⟩
theorem ok_Mo_statement : gk_ok y_Mo_statement b_Mo_statement 5 (some .int) 2 := ⟨⟨k_1846, k_102⟩, by decide, by decide, by decide +kernel⟩
theorem ok_Jt_parameter : gk_ok y_Jt_parameter b_Jt_parameter 5 (some .int) 3 := ⟨⟨k_941, k_90⟩, by decide, by decide, by decide +kernel⟩
theorem ok_Mo_parameter : gk_ok y_Mo_parameter b_Mo_parameter 5 (some .int) 3 := ⟨⟨k_1850, k_102⟩, by decide, by decide, by decide +kernel⟩
theorem ok_Jt_data : gk_ok y_Jt_data b_Jt_data 4 (some .int) 2 := ⟨⟨k_958, k_90⟩, by decide, by decide, by decide +kernel⟩
theorem ok_Mo_data : gk_ok y_Mo_data b_Mo_data 3 (some .int) 2 := ⟨⟨k_1854, k_102⟩, by decide, by decide, by decide +kernel⟩
theorem ok_Jt_fault : gk_ok y_Jt_fault b_Jt_fault 3 (some .int) 2 := ⟨⟨k_962, k_90⟩, by decide, by decide, by decide +kernel⟩
theorem ok_Mo_fault : gk_ok y_Mo_fault b_Mo_fault 3 (some .int) 2 := ⟨⟨k_1858, k_102⟩, by decide, by decide, by decide +kernel⟩
theorem ok_Jt_expand : gk_ok y_Jt_expand b_Jt_expand 2 (some .int) 0 := ⟨⟨k_970, k_90⟩, by decide, by decide, by decide +kernel⟩
theorem ok_Mo_expand : gk_ok y_Mo_expand b_Mo_expand 4 (some .int) 0 := ⟨⟨k_1753, k_102⟩, by decide, by decide, by decide +kernel⟩
theorem ok_Jt_at : gk_ok y_Jt_at b_Jt_at 3 (some .int) 2 := ⟨⟨k_1301, k_90⟩, by decide, by decide, by decide +kernel⟩
theorem ok_Mo_at : gk_ok y_Mo_at b_Mo_at 3 (some .int) 2 := ⟨⟨k_1862, k_102⟩, by decide, by decide, by decide +kernel⟩
theorem ok_Jt_letter : gk_ok y_Jt_letter b_Jt_letter 3 (some .int) 2 := ⟨⟨k_1313, k_90⟩, by decide, by decide, by decide +kernel⟩
theorem ok_Mo_letter : gk_ok y_Mo_letter b_Mo_letter 3 (some .int) 2 := ⟨⟨k_1866, k_102⟩, by decide, by decide, by decide +kernel⟩
theorem ok_Jt_ring : gk_ok y_Jt_ring b_Jt_ring 2 (some .int) 1 := ⟨⟨k_1331, k_90⟩, by decide, by decide, by decide +kernel⟩
theorem ok_Mo_ring : gk_ok y_Mo_ring b_Mo_ring 2 (some .int) 1 := ⟨⟨k_1870, k_102⟩, by decide, by decide, by decide +kernel⟩
theorem ok_Jt_count : gk_ok y_Jt_count b_Jt_count 2 (some .int) 1 := ⟨⟨k_1340, k_90⟩, by decide, by decide, by decide +kernel⟩
theorem ok_Mo_count : gk_ok y_Mo_count b_Mo_count 2 (some .int) 1 := ⟨⟨k_1874, k_102⟩, by decide, by decide, by decide +kernel⟩
theorem gk_min : Cond.code Lib.Math.min.name Lib.Math.min.code 2 (some .int) ∈ gk_tw := gk_in (List.mem_of_getElem? (i := 376) (by decide +kernel)) (by decide +kernel)
