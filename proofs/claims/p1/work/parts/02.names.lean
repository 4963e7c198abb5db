/-! NAMES: the classes whose objects the worlds hold, their fields (printed by wip/p1/names.py) -/
def R_Jt : String := "JobText"
def F_Jt : u_T := fun k => match k with
  | 0 => ("JobText", "signs", "[B", true)
  | 1 => ("JobText", "faults", "LJobText$Faults;", true)
  | 2 => ("JobText", "library", "Ljava/util/ArrayList;", true)
  | 3 => ("JobText", "expander", "LJobText$Expander;", true)
  | 4 => ("JobText", "signCount", "I", false)
  | _ => ("JobText", "text", "LJobText$Text;", false)
def t_Jt : Nat → FieldType := fun k => match k with
  | 0 => .array .byte
  | 1 => .object "JobText$Faults"
  | 2 => .object "java/util/ArrayList"
  | 3 => .object "JobText$Expander"
  | 4 => .int
  | _ => .object "JobText$Text"
abbrev df_Jt : List Value := [.null, .null, .null, .null, .int 0, .null]
theorem n_Jt : ∀ a, a < 6 → ∀ b, b < 6 → a ≠ b → (F_Jt a).2.1 ≠ (F_Jt b).2.1 := by decide +kernel
theorem t_Jt_ok : ∀ k, k < 6 → parseFieldDescriptor (F_Jt k).2.2.1 = some (t_Jt k) := by decide +kernel
theorem df_Jt_ok : ∀ k, k < 6 → defaultValue (t_Jt k) = vp_V df_Jt k := by decide +kernel
theorem in0_Jt : ∀ w ∈ u_ws R_Jt F_Jt 6, w ∈ lw_tbl := by decide +kernel
theorem ing_Jt : ∀ w ∈ u_ws R_Jt F_Jt 6, goodWord w = true := by decide +kernel
def R_Fa : String := "JobText$Faults"
def F_Fa : u_T := fun k => match k with
  | 0 => ("JobText$Faults", "lines", "[I", true)
  | 1 => ("JobText$Faults", "columns", "[I", true)
  | 2 => ("JobText$Faults", "kinds", "[I", true)
  | 3 => ("JobText$Faults", "nearest", "[I", true)
  | _ => ("JobText$Faults", "total", "I", false)
def t_Fa : Nat → FieldType := fun k => match k with
  | 0 => .array .int
  | 1 => .array .int
  | 2 => .array .int
  | 3 => .array .int
  | _ => .int
abbrev df_Fa : List Value := [.null, .null, .null, .null, .int 0]
theorem n_Fa : ∀ a, a < 5 → ∀ b, b < 5 → a ≠ b → (F_Fa a).2.1 ≠ (F_Fa b).2.1 := by decide +kernel
theorem t_Fa_ok : ∀ k, k < 5 → parseFieldDescriptor (F_Fa k).2.2.1 = some (t_Fa k) := by decide +kernel
theorem df_Fa_ok : ∀ k, k < 5 → defaultValue (t_Fa k) = vp_V df_Fa k := by decide +kernel
theorem in0_Fa : ∀ w ∈ u_ws R_Fa F_Fa 5, w ∈ lw_tbl := by decide +kernel
theorem ing_Fa : ∀ w ∈ u_ws R_Fa F_Fa 5, goodWord w = true := by decide +kernel
def R_Ex : String := "JobText$Expander"
def F_Ex : u_T := fun k => match k with
  | 0 => ("JobText$Expander", "listing", "LJobText$Listing;", true)
  | 1 => ("JobText$Expander", "rows", "LJobText$Rows;", true)
  | 2 => ("JobText$Expander", "sets", "LJobText$Rows;", true)
  | 3 => ("JobText$Expander", "frames", "Ljava/util/ArrayList;", true)
  | 4 => ("JobText$Expander", "overrides", "Ljava/util/ArrayList;", true)
  | 5 => ("JobText$Expander", "procedures", "Ljava/util/ArrayList;", false)
  | 6 => ("JobText$Expander", "library", "Ljava/util/ArrayList;", false)
  | 7 => ("JobText$Expander", "frameCount", "I", false)
  | 8 => ("JobText$Expander", "overrideCount", "I", false)
  | 9 => ("JobText$Expander", "called", "J", false)
  | 10 => ("JobText$Expander", "missing", "I", false)
  | _ => ("JobText$Expander", "outcome", "I", false)
def t_Ex : Nat → FieldType := fun k => match k with
  | 0 => .object "JobText$Listing"
  | 1 => .object "JobText$Rows"
  | 2 => .object "JobText$Rows"
  | 3 => .object "java/util/ArrayList"
  | 4 => .object "java/util/ArrayList"
  | 5 => .object "java/util/ArrayList"
  | 6 => .object "java/util/ArrayList"
  | 7 => .int
  | 8 => .int
  | 9 => .long
  | 10 => .int
  | _ => .int
abbrev df_Ex : List Value := [.null, .null, .null, .null, .null, .null, .null, .int 0, .int 0, .long 0, .int 0, .int 0]
theorem n_Ex : ∀ a, a < 12 → ∀ b, b < 12 → a ≠ b → (F_Ex a).2.1 ≠ (F_Ex b).2.1 := by decide +kernel
theorem t_Ex_ok : ∀ k, k < 12 → parseFieldDescriptor (F_Ex k).2.2.1 = some (t_Ex k) := by decide +kernel
theorem df_Ex_ok : ∀ k, k < 12 → defaultValue (t_Ex k) = vp_V df_Ex k := by decide +kernel
theorem in0_Ex : ∀ w ∈ u_ws R_Ex F_Ex 12, w ∈ lw_tbl := by decide +kernel
theorem ing_Ex : ∀ w ∈ u_ws R_Ex F_Ex 12, goodWord w = true := by decide +kernel
def R_Li : String := "JobText$Listing"
def F_Li : u_T := fun k => match k with
  | 0 => ("JobText$Listing", "lines", "[I", true)
  | 1 => ("JobText$Listing", "operations", "[I", true)
  | 2 => ("JobText$Listing", "depths", "[I", true)
  | 3 => ("JobText$Listing", "counts", "[I", true)
  | 4 => ("JobText$Listing", "changes", "[I", true)
  | 5 => ("JobText$Listing", "ends", "[I", true)
  | 6 => ("JobText$Listing", "letters", "Ljava/lang/StringBuilder;", true)
  | _ => ("JobText$Listing", "size", "I", false)
def t_Li : Nat → FieldType := fun k => match k with
  | 0 => .array .int
  | 1 => .array .int
  | 2 => .array .int
  | 3 => .array .int
  | 4 => .array .int
  | 5 => .array .int
  | 6 => .object "java/lang/StringBuilder"
  | _ => .int
abbrev df_Li : List Value := [.null, .null, .null, .null, .null, .null, .null, .int 0]
theorem n_Li : ∀ a, a < 8 → ∀ b, b < 8 → a ≠ b → (F_Li a).2.1 ≠ (F_Li b).2.1 := by decide +kernel
theorem t_Li_ok : ∀ k, k < 8 → parseFieldDescriptor (F_Li k).2.2.1 = some (t_Li k) := by decide +kernel
theorem df_Li_ok : ∀ k, k < 8 → defaultValue (t_Li k) = vp_V df_Li k := by decide +kernel
theorem in0_Li : ∀ w ∈ u_ws R_Li F_Li 8, w ∈ lw_tbl := by decide +kernel
theorem ing_Li : ∀ w ∈ u_ws R_Li F_Li 8, goodWord w = true := by decide +kernel
def R_Ro : String := "JobText$Rows"
def F_Ro : u_T := fun k => match k with
  | 0 => ("JobText$Rows", "keys", "[J", false)
  | 1 => ("JobText$Rows", "lengths", "[I", false)
  | 2 => ("JobText$Rows", "values", "[B", false)
  | _ => ("JobText$Rows", "size", "I", false)
def t_Ro : Nat → FieldType := fun k => match k with
  | 0 => .array .long
  | 1 => .array .int
  | 2 => .array .byte
  | _ => .int
abbrev df_Ro : List Value := [.null, .null, .null, .int 0]
theorem n_Ro : ∀ a, a < 4 → ∀ b, b < 4 → a ≠ b → (F_Ro a).2.1 ≠ (F_Ro b).2.1 := by decide +kernel
theorem t_Ro_ok : ∀ k, k < 4 → parseFieldDescriptor (F_Ro k).2.2.1 = some (t_Ro k) := by decide +kernel
theorem df_Ro_ok : ∀ k, k < 4 → defaultValue (t_Ro k) = vp_V df_Ro k := by decide +kernel
theorem in0_Ro : ∀ w ∈ u_ws R_Ro F_Ro 4, w ∈ lw_tbl := by decide +kernel
theorem ing_Ro : ∀ w ∈ u_ws R_Ro F_Ro 4, goodWord w = true := by decide +kernel
def R_Al : String := "java/util/ArrayList"
def F_Al : u_T := fun k => match k with
  | 0 => ("java/util/AbstractList", "modCount", "I", false)
  | 1 => ("java/util/ArrayList", "elementData", "[Ljava/lang/Object;", false)
  | _ => ("java/util/ArrayList", "size", "I", false)
def t_Al : Nat → FieldType := fun k => match k with
  | 0 => .int
  | 1 => .array (.object "java/lang/Object")
  | _ => .int
abbrev df_Al : List Value := [.int 0, .null, .int 0]
theorem n_Al : ∀ a, a < 3 → ∀ b, b < 3 → a ≠ b → (F_Al a).2.1 ≠ (F_Al b).2.1 := by decide +kernel
theorem t_Al_ok : ∀ k, k < 3 → parseFieldDescriptor (F_Al k).2.2.1 = some (t_Al k) := by decide +kernel
theorem df_Al_ok : ∀ k, k < 3 → defaultValue (t_Al k) = vp_V df_Al k := by decide +kernel
theorem in0_Al : ∀ w ∈ u_ws R_Al F_Al 3, w ∈ lw_tbl := by decide +kernel
theorem ing_Al : ∀ w ∈ u_ws R_Al F_Al 3, goodWord w = true := by decide +kernel
def R_Sb : String := "java/lang/StringBuilder"
def F_Sb : u_T := fun k => match k with
  | 0 => ("java/lang/AbstractStringBuilder", "value", "[B", false)
  | 1 => ("java/lang/AbstractStringBuilder", "coder", "B", false)
  | 2 => ("java/lang/AbstractStringBuilder", "maybeLatin1", "Z", false)
  | _ => ("java/lang/AbstractStringBuilder", "count", "I", false)
def t_Sb : Nat → FieldType := fun k => match k with
  | 0 => .array .byte
  | 1 => .byte
  | 2 => .boolean
  | _ => .int
abbrev df_Sb : List Value := [.null, .int 0, .int 0, .int 0]
theorem n_Sb : ∀ a, a < 4 → ∀ b, b < 4 → a ≠ b → (F_Sb a).2.1 ≠ (F_Sb b).2.1 := by decide +kernel
theorem t_Sb_ok : ∀ k, k < 4 → parseFieldDescriptor (F_Sb k).2.2.1 = some (t_Sb k) := by decide +kernel
theorem df_Sb_ok : ∀ k, k < 4 → defaultValue (t_Sb k) = vp_V df_Sb k := by decide +kernel
theorem in0_Sb : ∀ w ∈ u_ws R_Sb F_Sb 4, w ∈ lw_tbl := by decide +kernel
theorem ing_Sb : ∀ w ∈ u_ws R_Sb F_Sb 4, goodWord w = true := by decide +kernel
def R_Te : String := "JobText$Text"
def F_Te : u_T := fun k => match k with
  | 0 => ("JobText$Text", "rows", "LJobText$Rows;", true)
  | 1 => ("JobText$Text", "statements", "Ljava/util/ArrayList;", true)
  | 2 => ("JobText$Text", "procedures", "Ljava/util/ArrayList;", true)
  | 3 => ("JobText$Text", "job", "LJobText$Body;", false)
  | 4 => ("JobText$Text", "openProcedure", "LJobText$Body;", false)
  | 5 => ("JobText$Text", "openIfs", "I", false)
  | _ => ("JobText$Text", "elses", "I", false)
def t_Te : Nat → FieldType := fun k => match k with
  | 0 => .object "JobText$Rows"
  | 1 => .object "java/util/ArrayList"
  | 2 => .object "java/util/ArrayList"
  | 3 => .object "JobText$Body"
  | 4 => .object "JobText$Body"
  | 5 => .int
  | _ => .int
abbrev df_Te : List Value := [.null, .null, .null, .null, .null, .int 0, .int 0]
theorem n_Te : ∀ a, a < 7 → ∀ b, b < 7 → a ≠ b → (F_Te a).2.1 ≠ (F_Te b).2.1 := by decide +kernel
theorem t_Te_ok : ∀ k, k < 7 → parseFieldDescriptor (F_Te k).2.2.1 = some (t_Te k) := by decide +kernel
theorem df_Te_ok : ∀ k, k < 7 → defaultValue (t_Te k) = vp_V df_Te k := by decide +kernel
theorem in0_Te : ∀ w ∈ u_ws R_Te F_Te 7, w ∈ lw_tbl := by decide +kernel
theorem ing_Te : ∀ w ∈ u_ws R_Te F_Te 7, goodWord w = true := by decide +kernel
def R_Ln : String := "JobText$Lines"
def F_Ln : u_T := fun k => match k with
  | 0 => ("JobText$Lines", "signs", "[B", true)
  | 1 => ("JobText$Lines", "starts", "[I", true)
  | 2 => ("JobText$Lines", "lengths", "[I", true)
  | _ => ("JobText$Lines", "total", "I", true)
def t_Ln : Nat → FieldType := fun k => match k with
  | 0 => .array .byte
  | 1 => .array .int
  | 2 => .array .int
  | _ => .int
abbrev df_Ln : List Value := [.null, .null, .null, .int 0]
theorem n_Ln : ∀ a, a < 4 → ∀ b, b < 4 → a ≠ b → (F_Ln a).2.1 ≠ (F_Ln b).2.1 := by decide +kernel
theorem t_Ln_ok : ∀ k, k < 4 → parseFieldDescriptor (F_Ln k).2.2.1 = some (t_Ln k) := by decide +kernel
theorem df_Ln_ok : ∀ k, k < 4 → defaultValue (t_Ln k) = vp_V df_Ln k := by decide +kernel
theorem in0_Ln : ∀ w ∈ u_ws R_Ln F_Ln 4, w ∈ lw_tbl := by decide +kernel
theorem ing_Ln : ∀ w ∈ u_ws R_Ln F_Ln 4, goodWord w = true := by decide +kernel
def R_Re : String := "JobText$Reader"
def F_Re : u_T := fun k => match k with
  | 0 => ("JobText$Reader", "lines", "LJobText$Lines;", true)
  | 1 => ("JobText$Reader", "text", "LJobText$Text;", true)
  | 2 => ("JobText$Reader", "rows", "LJobText$Rows;", true)
  | 3 => ("JobText$Reader", "faults", "LJobText$Faults;", true)
  | 4 => ("JobText$Reader", "line", "I", false)
  | 5 => ("JobText$Reader", "column", "I", false)
  | 6 => ("JobText$Reader", "parsed", "LJobText$Statement;", false)
  | 7 => ("JobText$Reader", "dataOwner", "LJobText$Statement;", false)
  | _ => ("JobText$Reader", "slashesEndData", "Z", false)
def t_Re : Nat → FieldType := fun k => match k with
  | 0 => .object "JobText$Lines"
  | 1 => .object "JobText$Text"
  | 2 => .object "JobText$Rows"
  | 3 => .object "JobText$Faults"
  | 4 => .int
  | 5 => .int
  | 6 => .object "JobText$Statement"
  | 7 => .object "JobText$Statement"
  | _ => .boolean
abbrev df_Re : List Value := [.null, .null, .null, .null, .int 0, .int 0, .null, .null, .int 0]
theorem n_Re : ∀ a, a < 9 → ∀ b, b < 9 → a ≠ b → (F_Re a).2.1 ≠ (F_Re b).2.1 := by decide +kernel
theorem t_Re_ok : ∀ k, k < 9 → parseFieldDescriptor (F_Re k).2.2.1 = some (t_Re k) := by decide +kernel
theorem df_Re_ok : ∀ k, k < 9 → defaultValue (t_Re k) = vp_V df_Re k := by decide +kernel
theorem in0_Re : ∀ w ∈ u_ws R_Re F_Re 9, w ∈ lw_tbl := by decide +kernel
theorem ing_Re : ∀ w ∈ u_ws R_Re F_Re 9, goodWord w = true := by decide +kernel
def R_Mo : String := "JobTextModel"
def F_Mo : u_T := fun k => match k with
  | 0 => ("JobTextModel", "thrown", "I", false)
  | 1 => ("JobTextModel", "mem", "[I", true)
  | 2 => ("JobTextModel", "buffer", "[I", true)
  | 3 => ("JobTextModel", "size", "I", false)
  | 4 => ("JobTextModel", "many", "[I", true)
  | 5 => ("JobTextModel", "line", "[I", true)
  | 6 => ("JobTextModel", "op", "[I", true)
  | 7 => ("JobTextModel", "nameFrom", "[I", true)
  | 8 => ("JobTextModel", "nameLong", "[I", true)
  | 9 => ("JobTextModel", "point", "[I", true)
  | 10 => ("JobTextModel", "parFirst", "[I", true)
  | 11 => ("JobTextModel", "parMany", "[I", true)
  | 12 => ("JobTextModel", "dataFrom", "[I", true)
  | 13 => ("JobTextModel", "dataMany", "[I", true)
  | 14 => ("JobTextModel", "step", "[I", true)
  | 15 => ("JobTextModel", "body", "[I", true)
  | 16 => ("JobTextModel", "parFrom", "[I", true)
  | 17 => ("JobTextModel", "parKey", "[I", true)
  | 18 => ("JobTextModel", "parLong", "[I", true)
  | 19 => ("JobTextModel", "parameters", "I", false)
  | 20 => ("JobTextModel", "procedures", "I", false)
  | 21 => ("JobTextModel", "job", "Z", false)
  | 22 => ("JobTextModel", "faults", "I", false)
  | 23 => ("JobTextModel", "faultLine", "[I", true)
  | 24 => ("JobTextModel", "faultColumn", "[I", true)
  | 25 => ("JobTextModel", "faultKind", "[I", true)
  | 26 => ("JobTextModel", "faultNear", "[I", true)
  | 27 => ("JobTextModel", "lines", "I", false)
  | 28 => ("JobTextModel", "at", "I", false)
  | 29 => ("JobTextModel", "lineFrom", "[I", true)
  | 30 => ("JobTextModel", "lineLong", "[I", true)
  | 31 => ("JobTextModel", "drafted", "I", false)
  | 32 => ("JobTextModel", "behind", "I", false)
  | 33 => ("JobTextModel", "cursor", "I", false)
  | 34 => ("JobTextModel", "procedure", "I", false)
  | 35 => ("JobTextModel", "jobStep", "I", false)
  | 36 => ("JobTextModel", "procedureStep", "I", false)
  | 37 => ("JobTextModel", "ifs", "I", false)
  | 38 => ("JobTextModel", "isJob", "Z", false)
  | 39 => ("JobTextModel", "elses", "[Z", true)
  | 40 => ("JobTextModel", "made", "I", false)
  | 41 => ("JobTextModel", "missing", "I", false)
  | 42 => ("JobTextModel", "ringLong", "I", false)
  | 43 => ("JobTextModel", "refused", "I", false)
  | 44 => ("JobTextModel", "ringSigns", "[I", true)
  | 45 => ("JobTextModel", "madeLine", "[I", true)
  | 46 => ("JobTextModel", "madeOp", "[I", true)
  | 47 => ("JobTextModel", "madeCalls", "[I", true)
  | 48 => ("JobTextModel", "madeMany", "[I", true)
  | 49 => ("JobTextModel", "madeBy", "[I", true)
  | 50 => ("JobTextModel", "madeLong", "[I", true)
  | 51 => ("JobTextModel", "letters", "[I", true)
  | 52 => ("JobTextModel", "top", "I", false)
  | 53 => ("JobTextModel", "stored", "I", false)
  | 54 => ("JobTextModel", "heldFrom", "[I", true)
  | 55 => ("JobTextModel", "heldKey", "[I", true)
  | 56 => ("JobTextModel", "heldLong", "[I", true)
  | 57 => ("JobTextModel", "calls", "I", false)
  | 58 => ("JobTextModel", "next", "[I", true)
  | 59 => ("JobTextModel", "end", "[I", true)
  | 60 => ("JobTextModel", "of", "[I", true)
  | 61 => ("JobTextModel", "execFirst", "[I", true)
  | 62 => ("JobTextModel", "execMany", "[I", true)
  | 63 => ("JobTextModel", "overFirst", "[I", true)
  | 64 => ("JobTextModel", "topWas", "[I", true)
  | 65 => ("JobTextModel", "storedWas", "[I", true)
  | 66 => ("JobTextModel", "oversWas", "[I", true)
  | 67 => ("JobTextModel", "overs", "I", false)
  | 68 => ("JobTextModel", "over", "[I", true)
  | 69 => ("JobTextModel", "overPar", "[I", true)
  | 70 => ("JobTextModel", "overMany", "[I", true)
  | 71 => ("JobTextModel", "overStep", "[I", true)
  | 72 => ("JobTextModel", "overAdded", "[Z", true)
  | 73 => ("JobTextModel", "sets", "I", false)
  | 74 => ("JobTextModel", "setFrom", "[I", true)
  | 75 => ("JobTextModel", "setLong", "[I", true)
  | 76 => ("JobTextModel", "setValue", "[I", true)
  | 77 => ("JobTextModel", "begun", "I", false)
  | 78 => ("JobTextModel", "row", "I", false)
  | 79 => ("JobTextModel", "rowed", "[I", true)
  | _ => ("JobTextModel", "rowed2", "[I", true)
def t_Mo : Nat → FieldType := fun k => match k with
  | 0 => .int
  | 1 => .array .int
  | 2 => .array .int
  | 3 => .int
  | 4 => .array .int
  | 5 => .array .int
  | 6 => .array .int
  | 7 => .array .int
  | 8 => .array .int
  | 9 => .array .int
  | 10 => .array .int
  | 11 => .array .int
  | 12 => .array .int
  | 13 => .array .int
  | 14 => .array .int
  | 15 => .array .int
  | 16 => .array .int
  | 17 => .array .int
  | 18 => .array .int
  | 19 => .int
  | 20 => .int
  | 21 => .boolean
  | 22 => .int
  | 23 => .array .int
  | 24 => .array .int
  | 25 => .array .int
  | 26 => .array .int
  | 27 => .int
  | 28 => .int
  | 29 => .array .int
  | 30 => .array .int
  | 31 => .int
  | 32 => .int
  | 33 => .int
  | 34 => .int
  | 35 => .int
  | 36 => .int
  | 37 => .int
  | 38 => .boolean
  | 39 => .array .boolean
  | 40 => .int
  | 41 => .int
  | 42 => .int
  | 43 => .int
  | 44 => .array .int
  | 45 => .array .int
  | 46 => .array .int
  | 47 => .array .int
  | 48 => .array .int
  | 49 => .array .int
  | 50 => .array .int
  | 51 => .array .int
  | 52 => .int
  | 53 => .int
  | 54 => .array .int
  | 55 => .array .int
  | 56 => .array .int
  | 57 => .int
  | 58 => .array .int
  | 59 => .array .int
  | 60 => .array .int
  | 61 => .array .int
  | 62 => .array .int
  | 63 => .array .int
  | 64 => .array .int
  | 65 => .array .int
  | 66 => .array .int
  | 67 => .int
  | 68 => .array .int
  | 69 => .array .int
  | 70 => .array .int
  | 71 => .array .int
  | 72 => .array .boolean
  | 73 => .int
  | 74 => .array .int
  | 75 => .array .int
  | 76 => .array .int
  | 77 => .int
  | 78 => .int
  | 79 => .array .int
  | _ => .array .int
abbrev df_Mo : List Value := [.int 0, .null, .null, .int 0, .null, .null, .null, .null, .null, .null, .null, .null, .null, .null, .null, .null, .null, .null, .null, .int 0, .int 0, .int 0, .int 0, .null, .null, .null, .null, .int 0, .int 0, .null, .null, .int 0, .int 0, .int 0, .int 0, .int 0, .int 0, .int 0, .int 0, .null, .int 0, .int 0, .int 0, .int 0, .null, .null, .null, .null, .null, .null, .null, .null, .int 0, .int 0, .null, .null, .null, .int 0, .null, .null, .null, .null, .null, .null, .null, .null, .null, .int 0, .null, .null, .null, .null, .null, .int 0, .null, .null, .null, .int 0, .int 0, .null, .null]
theorem n_Mo : ∀ a, a < 81 → ∀ b, b < 81 → a ≠ b → (F_Mo a).2.1 ≠ (F_Mo b).2.1 := by decide +kernel
theorem t_Mo_ok : ∀ k, k < 81 → parseFieldDescriptor (F_Mo k).2.2.1 = some (t_Mo k) := by decide +kernel
theorem df_Mo_ok : ∀ k, k < 81 → defaultValue (t_Mo k) = vp_V df_Mo k := by decide +kernel
theorem in0_Mo : ∀ w ∈ u_ws R_Mo F_Mo 81, w ∈ lw_tbl := by decide +kernel
theorem ing_Mo : ∀ w ∈ u_ws R_Mo F_Mo 81, goodWord w = true := by decide +kernel
abbrev gk_cl : List vw_C := [(R_Jt, F_Jt, 6), (R_Fa, F_Fa, 5), (R_Ex, F_Ex, 12), (R_Li, F_Li, 8), (R_Ro, F_Ro, 4), (R_Al, F_Al, 3), (R_Sb, F_Sb, 4), (R_Te, F_Te, 7), (R_Ln, F_Ln, 4), (R_Re, F_Re, 9), (R_Mo, F_Mo, 81)]
def gk_nw : List Cond := [Jvm.Cond.methodLinkNest "JobText" (15 : Nat) ({ cls := "JobText$Faults", name := "<init>", desc := "()V" } : Jvm.MethodName) "JobText", Jvm.Cond.methodLinkNest "JobText" (29 : Nat) ({ cls := "JobText$Expander", name := "<init>", desc := "()V" } : Jvm.MethodName) "JobText", Jvm.Cond.methodLinkNest "JobText$Expander" (11 : Nat) ({ cls := "JobText$Listing", name := "<init>", desc := "()V" } : Jvm.MethodName) "JobText", Jvm.Cond.methodLinkNest "JobText$Expander" (20 : Nat) ({ cls := "JobText$Rows", name := "<init>", desc := "()V" } : Jvm.MethodName) "JobText", Jvm.Cond.methodLinkNest "JobText" (47 : Nat) ({ cls := "JobText$Text", name := "<init>", desc := "()V" } : Jvm.MethodName) "JobText", Jvm.Cond.methodLinkNest "JobText$Text" (11 : Nat) ({ cls := "JobText$Rows", name := "<init>", desc := "()V" } : Jvm.MethodName) "JobText", Jvm.Cond.fieldLinkNest "JobText$Listing" (66 : Nat) "JobText$Statement" "line" "I" "JobText", Jvm.Cond.fieldLinkNest "JobText$Reader" (193 : Nat) "JobText$Statement" "line" "I" "JobText", Jvm.Cond.fieldLinkNest "JobText" (105 : Nat) "JobText$Statement" "rows" "LJobText$Rows;" "JobText", Jvm.Cond.fieldLinkNest "JobText$Expander" (195 : Nat) "JobText$Statement" "rows" "LJobText$Rows;" "JobText", Jvm.Cond.fieldLinkNest "JobText$Reader" (114 : Nat) "JobText$Statement" "first" "I" "JobText", Jvm.Cond.fieldLinkNest "JobText" (109 : Nat) "JobText$Statement" "first" "I" "JobText", Jvm.Cond.fieldLinkNest "JobText$Expander" (189 : Nat) "JobText$Statement" "first" "I" "JobText", Jvm.Cond.fieldLinkNest "JobText$Change" (49 : Nat) "JobText$Statement" "operation" "I" "JobText", Jvm.Cond.fieldLinkNest "JobText$Body" (28 : Nat) "JobText$Statement" "operation" "I" "JobText", Jvm.Cond.fieldLinkNest "JobText$Reader" (95 : Nat) "JobText$Statement" "operation" "I" "JobText", Jvm.Cond.fieldLinkNest "JobText$Listing" (71 : Nat) "JobText$Statement" "operation" "I" "JobText", Jvm.Cond.fieldLinkNest "JobText$Expander" (110 : Nat) "JobText$Statement" "operation" "I" "JobText", Jvm.Cond.fieldLinkNest "JobText$Text" (68 : Nat) "JobText$Statement" "operation" "I" "JobText", Jvm.Cond.fieldLinkNest "JobText$Reader" (98 : Nat) "JobText$Statement" "column" "I" "JobText", Jvm.Cond.fieldLinkNest "JobText$Change" (25 : Nat) "JobText$Statement" "step" "J" "JobText", Jvm.Cond.fieldLinkNest "JobText$Reader" (102 : Nat) "JobText$Statement" "step" "J" "JobText", Jvm.Cond.fieldLinkNest "JobText$Text" (91 : Nat) "JobText$Statement" "step" "J" "JobText", Jvm.Cond.fieldLinkNest "JobText$Body" (50 : Nat) "JobText$Statement" "step" "J" "JobText", Jvm.Cond.fieldLinkNest "JobText$Body" (22 : Nat) "JobText$Statement" "name" "J" "JobText", Jvm.Cond.fieldLinkNest "JobText$Change" (55 : Nat) "JobText$Statement" "name" "J" "JobText", Jvm.Cond.fieldLinkNest "JobText$Reader" (130 : Nat) "JobText$Statement" "name" "J" "JobText", Jvm.Cond.fieldLinkNest "JobText$Text" (98 : Nat) "JobText$Statement" "name" "J" "JobText", Jvm.Cond.fieldLinkNest "JobText$Reader" (123 : Nat) "JobText$Statement" "nameSigns" "I" "JobText", Jvm.Cond.fieldLinkNest "JobText" (102 : Nat) "JobText$Statement" "count" "I" "JobText", Jvm.Cond.fieldLinkNest "JobText$Reader" (158 : Nat) "JobText$Statement" "count" "I" "JobText", Jvm.Cond.fieldLinkNest "JobText$Expander" (192 : Nat) "JobText$Statement" "count" "I" "JobText", Jvm.Cond.fieldLinkNest "JobText$Text" (125 : Nat) "JobText$Statement" "count" "I" "JobText", Jvm.Cond.fieldLinkNest "JobText$Reader" (161 : Nat) "JobText$Statement" "places" "I" "JobText", Jvm.Cond.fieldLinkNest "JobText$Text" (128 : Nat) "JobText$Statement" "places" "I" "JobText", Jvm.Cond.fieldLinkNest "JobText$Expander" (253 : Nat) "JobText$Statement" "places" "I" "JobText", Jvm.Cond.fieldLinkNest "JobText" (121 : Nat) "JobText$Statement" "dataFirst" "I" "JobText", Jvm.Cond.fieldLinkNest "JobText$Reader" (206 : Nat) "JobText$Statement" "dataFirst" "I" "JobText", Jvm.Cond.fieldLinkNest "JobText$Reader" (77 : Nat) "JobText$Statement" "dataLines" "I" "JobText", Jvm.Cond.fieldLinkNest "JobText" (118 : Nat) "JobText$Statement" "dataLines" "I" "JobText", Jvm.Cond.fieldLinkNest "JobText$Change" (52 : Nat) "JobText$Statement" "exec" "LJobText$Statement;" "JobText", Jvm.Cond.fieldLinkNest "JobText$Body" (43 : Nat) "JobText$Statement" "exec" "LJobText$Statement;" "JobText", Jvm.Cond.methodLinkNest "JobText$Lines" (39 : Nat) ({ cls := "JobText", name := "isLetter", desc := "(I)Z" } : Jvm.MethodName) "JobText", Jvm.Cond.methodLinkNest "JobText$Lines" (43 : Nat) ({ cls := "JobText", name := "isNameSign", desc := "(I)Z" } : Jvm.MethodName) "JobText", Jvm.Cond.methodLinkNest "JobText$Reader" (133 : Nat) ({ cls := "JobText", name := "operationName", desc := "(I)Ljava/lang/String;" } : Jvm.MethodName) "JobText", Jvm.Cond.methodLinkNest "JobText$Reader" (170 : Nat) ({ cls := "JobText", name := "isNameSign", desc := "(I)Z" } : Jvm.MethodName) "JobText", Jvm.Cond.methodLinkNest "JobText$Text" (101 : Nat) ({ cls := "JobText", name := "indexOf", desc := "(Ljava/util/ArrayList;J)I" } : Jvm.MethodName) "JobText", Jvm.Cond.methodLinkNest "JobText$Rows" (77 : Nat) ({ cls := "JobText", name := "isLetter", desc := "(I)Z" } : Jvm.MethodName) "JobText", Jvm.Cond.methodLinkNest "JobText$Rows" (81 : Nat) ({ cls := "JobText", name := "isNameSign", desc := "(I)Z" } : Jvm.MethodName) "JobText", Jvm.Cond.methodLinkNest "JobText$Rows" (60 : Nat) ({ cls := "JobText", name := "nameLength", desc := "(J)I" } : Jvm.MethodName) "JobText", Jvm.Cond.methodLinkNest "JobText$Rows" (64 : Nat) ({ cls := "JobText", name := "nameSign", desc := "(JI)I" } : Jvm.MethodName) "JobText", Jvm.Cond.methodLinkNest "JobText$Expander" (141 : Nat) ({ cls := "JobText$Frame", name := "<init>", desc := "()V" } : Jvm.MethodName) "JobText", Jvm.Cond.fieldLinkNest "JobText$Expander" (226 : Nat) "JobText$Frame" "body" "LJobText$Body;" "JobText", Jvm.Cond.fieldLinkNest "JobText$Expander" (106 : Nat) "JobText$Frame" "next" "I" "JobText", Jvm.Cond.fieldLinkNest "JobText$Expander" (100 : Nat) "JobText$Frame" "execFirst" "I" "JobText", Jvm.Cond.fieldLinkNest "JobText$Expander" (239 : Nat) "JobText$Frame" "execCount" "I" "JobText", Jvm.Cond.fieldLinkNest "JobText$Expander" (103 : Nat) "JobText$Frame" "overrideFirst" "I" "JobText", Jvm.Cond.fieldLinkNest "JobText$Expander" (173 : Nat) "JobText$Frame" "overrideEnd" "I" "JobText", Jvm.Cond.methodLinkNest "JobText$Expander" (212 : Nat) ({ cls := "JobText", name := "isLetter", desc := "(I)Z" } : Jvm.MethodName) "JobText", Jvm.Cond.methodLinkNest "JobText$Expander" (219 : Nat) ({ cls := "JobText", name := "isNameSign", desc := "(I)Z" } : Jvm.MethodName) "JobText", Jvm.Cond.methodLinkNest "JobText$Expander" (280 : Nat) ({ cls := "JobText$Change", name := "<init>", desc := "()V" } : Jvm.MethodName) "JobText", Jvm.Cond.fieldLinkNest "JobText$Expander" (249 : Nat) "JobText$Change" "own" "LJobText$Statement;" "JobText", Jvm.Cond.fieldLinkNest "JobText$Expander" (248 : Nat) "JobText$Change" "first" "I" "JobText", Jvm.Cond.methodLinkNest "JobText$Expander" (284 : Nat) ({ cls := "JobText", name := "indexOf", desc := "(Ljava/util/ArrayList;J)I" } : Jvm.MethodName) "JobText", Jvm.Cond.methodLinkNest "JobText$Expander" (52 : Nat) ({ cls := "JobText", name := "nameSign", desc := "(JI)I" } : Jvm.MethodName) "JobText"]
