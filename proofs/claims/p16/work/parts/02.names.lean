def R_X : String := "ObsMessages"
def T_X : u_T := fun k => match k with
  | 0 => ("ObsMessages", "tables", "LObsMessages$Tables;", true)
  | 1 => ("ObsMessages", "program", "LObsMessages$Program;", true)
  | 2 => ("ObsMessages", "walk", "LObsMessages$Walk;", true)
  | 3 => ("ObsMessages", "writer", "LObsMessages$Writer;", true)
  | 4 => ("ObsMessages", "reader", "LObsMessages$Reader;", true)
  | 5 => ("ObsMessages", "tape", "LObsMessages$Bits;", true)
  | 6 => ("ObsMessages", "grid", "LObsMessages$Grid;", true)
  | 7 => ("ObsMessages", "values", "[[J", true)
  | 8 => ("ObsMessages", "faultNumber", "I", false)
  | _ => ("ObsMessages", "faultPlace", "I", false)
def ty_X : Nat → FieldType := fun k => match k with
  | 0 => .object "ObsMessages$Tables"
  | 1 => .object "ObsMessages$Program"
  | 2 => .object "ObsMessages$Walk"
  | 3 => .object "ObsMessages$Writer"
  | 4 => .object "ObsMessages$Reader"
  | 5 => .object "ObsMessages$Bits"
  | 6 => .object "ObsMessages$Grid"
  | 7 => .array (.array (.long))
  | 8 => .int
  | _ => .int
theorem nm_X : ∀ a, a < 10 → ∀ b, b < 10 → a ≠ b → (T_X a).2.1 ≠ (T_X b).2.1 := by decide +kernel
theorem ty_X_ok : ∀ k, k < 10 → parseFieldDescriptor (T_X k).2.2.1 = some (ty_X k) := by decide +kernel
theorem in_X : ∀ w ∈ u_ws R_X T_X 10, w ∈ tb := tb_all (by decide +kernel)
def R_Tab : String := "ObsMessages$Tables"
def T_Tab : u_T := fun k => match k with
  | 0 => ("ObsMessages$Tables", "scales", "[I", true)
  | 1 => ("ObsMessages$Tables", "references", "[I", true)
  | 2 => ("ObsMessages$Tables", "widths", "[I", true)
  | 3 => ("ObsMessages$Tables", "listed", "[I", true)
  | 4 => ("ObsMessages$Tables", "sizes", "[I", true)
  | _ => ("ObsMessages$Tables", "versionInUse", "I", false)
def ty_Tab : Nat → FieldType := fun k => match k with
  | 0 => .array (.int)
  | 1 => .array (.int)
  | 2 => .array (.int)
  | 3 => .array (.int)
  | 4 => .array (.int)
  | _ => .int
theorem nm_Tab : ∀ a, a < 6 → ∀ b, b < 6 → a ≠ b → (T_Tab a).2.1 ≠ (T_Tab b).2.1 := by decide +kernel
theorem ty_Tab_ok : ∀ k, k < 6 → parseFieldDescriptor (T_Tab k).2.2.1 = some (ty_Tab k) := by decide +kernel
theorem in_Tab : ∀ w ∈ u_ws R_Tab T_Tab 6, w ∈ tb := tb_all (by decide +kernel)
def R_Prog : String := "ObsMessages$Program"
def T_Prog : u_T := fun k => match k with
  | 0 => ("ObsMessages$Program", "descriptors", "[I", true)
  | 1 => ("ObsMessages$Program", "bodyEnds", "[I", true)
  | 2 => ("ObsMessages$Program", "size", "I", false)
  | 3 => ("ObsMessages$Program", "fault", "I", false)
  | 4 => ("ObsMessages$Program", "place", "I", false)
  | 5 => ("ObsMessages$Program", "tables", "LObsMessages$Tables;", true)
  | 6 => ("ObsMessages$Program", "settings", "[I", true)
  | 7 => ("ObsMessages$Program", "openAts", "[I", true)
  | 8 => ("ObsMessages$Program", "openEnds", "[I", true)
  | 9 => ("ObsMessages$Program", "openSequences", "[I", true)
  | 10 => ("ObsMessages$Program", "openRepeats", "[I", true)
  | 11 => ("ObsMessages$Program", "foundSettings", "[I", true)
  | 12 => ("ObsMessages$Program", "open", "I", false)
  | _ => ("ObsMessages$Program", "templatePlace", "I", false)
def ty_Prog : Nat → FieldType := fun k => match k with
  | 0 => .array (.int)
  | 1 => .array (.int)
  | 2 => .int
  | 3 => .int
  | 4 => .int
  | 5 => .object "ObsMessages$Tables"
  | 6 => .array (.int)
  | 7 => .array (.int)
  | 8 => .array (.int)
  | 9 => .array (.int)
  | 10 => .array (.int)
  | 11 => .array (.int)
  | 12 => .int
  | _ => .int
theorem nm_Prog : ∀ a, a < 14 → ∀ b, b < 14 → a ≠ b → (T_Prog a).2.1 ≠ (T_Prog b).2.1 := by decide +kernel
theorem ty_Prog_ok : ∀ k, k < 14 → parseFieldDescriptor (T_Prog k).2.2.1 = some (ty_Prog k) := by decide +kernel
theorem in_Prog : ∀ w ∈ u_ws R_Prog T_Prog 14, w ∈ tb := tb_all (by decide +kernel)
def R_Walk : String := "ObsMessages$Walk"
def T_Walk : u_T := fun k => match k with
  | 0 => ("ObsMessages$Walk", "fields", "LObsMessages$Fields;", true)
  | 1 => ("ObsMessages$Walk", "fault", "I", false)
  | 2 => ("ObsMessages$Walk", "place", "I", false)
  | 3 => ("ObsMessages$Walk", "tables", "LObsMessages$Tables;", true)
  | 4 => ("ObsMessages$Walk", "program", "LObsMessages$Program;", true)
  | 5 => ("ObsMessages$Walk", "loops", "LObsMessages$Loops;", true)
  | 6 => ("ObsMessages$Walk", "settings", "[I", true)
  | 7 => ("ObsMessages$Walk", "elements", "[I", true)
  | 8 => ("ObsMessages$Walk", "elementCount", "I", false)
  | 9 => ("ObsMessages$Walk", "pointed", "[I", true)
  | 10 => ("ObsMessages$Walk", "pointedCount", "I", false)
  | 11 => ("ObsMessages$Walk", "nextPointed", "I", false)
  | 12 => ("ObsMessages$Walk", "at", "I", false)
  | 13 => ("ObsMessages$Walk", "come", "I", false)
  | 14 => ("ObsMessages$Walk", "dueKind", "I", false)
  | 15 => ("ObsMessages$Walk", "dueCode", "I", false)
  | 16 => ("ObsMessages$Walk", "dueBits", "I", false)
  | _ => ("ObsMessages$Walk", "countedEnd", "I", false)
def ty_Walk : Nat → FieldType := fun k => match k with
  | 0 => .object "ObsMessages$Fields"
  | 1 => .int
  | 2 => .int
  | 3 => .object "ObsMessages$Tables"
  | 4 => .object "ObsMessages$Program"
  | 5 => .object "ObsMessages$Loops"
  | 6 => .array (.int)
  | 7 => .array (.int)
  | 8 => .int
  | 9 => .array (.int)
  | 10 => .int
  | 11 => .int
  | 12 => .int
  | 13 => .int
  | 14 => .int
  | 15 => .int
  | 16 => .int
  | _ => .int
theorem nm_Walk : ∀ a, a < 18 → ∀ b, b < 18 → a ≠ b → (T_Walk a).2.1 ≠ (T_Walk b).2.1 := by decide +kernel
theorem ty_Walk_ok : ∀ k, k < 18 → parseFieldDescriptor (T_Walk k).2.2.1 = some (ty_Walk k) := by decide +kernel
theorem in_Walk : ∀ w ∈ u_ws R_Walk T_Walk 18, w ∈ tb := tb_all (by decide +kernel)
def R_Fld : String := "ObsMessages$Fields"
def T_Fld : u_T := fun k => match k with
  | 0 => ("ObsMessages$Fields", "kinds", "[I", true)
  | 1 => ("ObsMessages$Fields", "codes", "[I", true)
  | 2 => ("ObsMessages$Fields", "widths", "[I", true)
  | 3 => ("ObsMessages$Fields", "scales", "[I", true)
  | 4 => ("ObsMessages$Fields", "references", "[J", true)
  | 5 => ("ObsMessages$Fields", "targets", "[I", true)
  | 6 => ("ObsMessages$Fields", "repetitions", "[I", true)
  | _ => ("ObsMessages$Fields", "count", "I", false)
def ty_Fld : Nat → FieldType := fun k => match k with
  | 0 => .array (.int)
  | 1 => .array (.int)
  | 2 => .array (.int)
  | 3 => .array (.int)
  | 4 => .array (.long)
  | 5 => .array (.int)
  | 6 => .array (.int)
  | _ => .int
theorem nm_Fld : ∀ a, a < 8 → ∀ b, b < 8 → a ≠ b → (T_Fld a).2.1 ≠ (T_Fld b).2.1 := by decide +kernel
theorem ty_Fld_ok : ∀ k, k < 8 → parseFieldDescriptor (T_Fld k).2.2.1 = some (ty_Fld k) := by decide +kernel
theorem in_Fld : ∀ w ∈ u_ws R_Fld T_Fld 8, w ∈ tb := tb_all (by decide +kernel)
def R_Lps : String := "ObsMessages$Loops"
def T_Lps : u_T := fun k => match k with
  | 0 => ("ObsMessages$Loops", "starts", "[I", true)
  | 1 => ("ObsMessages$Loops", "ends", "[I", true)
  | 2 => ("ObsMessages$Loops", "times", "[I", true)
  | 3 => ("ObsMessages$Loops", "done", "[I", true)
  | _ => ("ObsMessages$Loops", "open", "I", false)
def ty_Lps : Nat → FieldType := fun k => match k with
  | 0 => .array (.int)
  | 1 => .array (.int)
  | 2 => .array (.int)
  | 3 => .array (.int)
  | _ => .int
theorem nm_Lps : ∀ a, a < 5 → ∀ b, b < 5 → a ≠ b → (T_Lps a).2.1 ≠ (T_Lps b).2.1 := by decide +kernel
theorem ty_Lps_ok : ∀ k, k < 5 → parseFieldDescriptor (T_Lps k).2.2.1 = some (ty_Lps k) := by decide +kernel
theorem in_Lps : ∀ w ∈ u_ws R_Lps T_Lps 5, w ∈ tb := tb_all (by decide +kernel)
def R_Wri : String := "ObsMessages$Writer"
def T_Wri : u_T := fun k => match k with
  | _ => ("ObsMessages$Writer", "bits", "LObsMessages$Bits;", true)
def ty_Wri : Nat → FieldType := fun k => match k with
  | _ => .object "ObsMessages$Bits"
theorem nm_Wri : ∀ a, a < 1 → ∀ b, b < 1 → a ≠ b → (T_Wri a).2.1 ≠ (T_Wri b).2.1 := by decide +kernel
theorem ty_Wri_ok : ∀ k, k < 1 → parseFieldDescriptor (T_Wri k).2.2.1 = some (ty_Wri k) := by decide +kernel
theorem in_Wri : ∀ w ∈ u_ws R_Wri T_Wri 1, w ∈ tb := tb_all (by decide +kernel)
def R_Bits : String := "ObsMessages$Bits"
def T_Bits : u_T := fun k => match k with
  | 0 => ("ObsMessages$Bits", "bytes", "[I", true)
  | _ => ("ObsMessages$Bits", "length", "I", false)
def ty_Bits : Nat → FieldType := fun k => match k with
  | 0 => .array (.int)
  | _ => .int
theorem nm_Bits : ∀ a, a < 2 → ∀ b, b < 2 → a ≠ b → (T_Bits a).2.1 ≠ (T_Bits b).2.1 := by decide +kernel
theorem ty_Bits_ok : ∀ k, k < 2 → parseFieldDescriptor (T_Bits k).2.2.1 = some (ty_Bits k) := by decide +kernel
theorem in_Bits : ∀ w ∈ u_ws R_Bits T_Bits 2, w ∈ tb := tb_all (by decide +kernel)
def R_Rea : String := "ObsMessages$Reader"
def T_Rea : u_T := fun k => match k with
  | 0 => ("ObsMessages$Reader", "rows", "[[J", true)
  | 1 => ("ObsMessages$Reader", "subsets", "I", false)
  | 2 => ("ObsMessages$Reader", "packed", "Z", false)
  | 3 => ("ObsMessages$Reader", "fault", "I", false)
  | 4 => ("ObsMessages$Reader", "place", "I", false)
  | 5 => ("ObsMessages$Reader", "tape", "LObsMessages$Bits;", true)
  | 6 => ("ObsMessages$Reader", "at", "I", false)
  | _ => ("ObsMessages$Reader", "end", "I", false)
def ty_Rea : Nat → FieldType := fun k => match k with
  | 0 => .array (.array (.long))
  | 1 => .int
  | 2 => .boolean
  | 3 => .int
  | 4 => .int
  | 5 => .object "ObsMessages$Bits"
  | 6 => .int
  | _ => .int
theorem nm_Rea : ∀ a, a < 8 → ∀ b, b < 8 → a ≠ b → (T_Rea a).2.1 ≠ (T_Rea b).2.1 := by decide +kernel
theorem ty_Rea_ok : ∀ k, k < 8 → parseFieldDescriptor (T_Rea k).2.2.1 = some (ty_Rea k) := by decide +kernel
theorem in_Rea : ∀ w ∈ u_ws R_Rea T_Rea 8, w ∈ tb := tb_all (by decide +kernel)
def R_Grd : String := "ObsMessages$Grid"
def T_Grd : u_T := fun k => match k with
  | 0 => ("ObsMessages$Grid", "points", "[J", true)
  | 1 => ("ObsMessages$Grid", "packed", "[J", true)
  | 2 => ("ObsMessages$Grid", "groupEnds", "[I", true)
  | 3 => ("ObsMessages$Grid", "groupCount", "I", false)
  | 4 => ("ObsMessages$Grid", "groupBits", "I", false)
  | 5 => ("ObsMessages$Grid", "codeCount", "I", false)
  | 6 => ("ObsMessages$Grid", "codes", "[J", true)
  | 7 => ("ObsMessages$Grid", "cheapest", "[I", true)
  | _ => ("ObsMessages$Grid", "firstEnds", "[I", true)
def ty_Grd : Nat → FieldType := fun k => match k with
  | 0 => .array (.long)
  | 1 => .array (.long)
  | 2 => .array (.int)
  | 3 => .int
  | 4 => .int
  | 5 => .int
  | 6 => .array (.long)
  | 7 => .array (.int)
  | _ => .array (.int)
theorem nm_Grd : ∀ a, a < 9 → ∀ b, b < 9 → a ≠ b → (T_Grd a).2.1 ≠ (T_Grd b).2.1 := by decide +kernel
theorem ty_Grd_ok : ∀ k, k < 9 → parseFieldDescriptor (T_Grd k).2.2.1 = some (ty_Grd k) := by decide +kernel
theorem in_Grd : ∀ w ∈ u_ws R_Grd T_Grd 9, w ∈ tb := tb_all (by decide +kernel)
def R_Mod : String := "ObsMessagesModel"
def T_Mod : u_T := fun k => match k with
  | 0 => ("ObsMessagesModel", "thrown", "I", false)
  | 1 => ("ObsMessagesModel", "there", "[Z", true)
  | 2 => ("ObsMessagesModel", "scales", "[I", true)
  | 3 => ("ObsMessagesModel", "references", "[I", true)
  | 4 => ("ObsMessagesModel", "widths", "[I", true)
  | 5 => ("ObsMessagesModel", "used", "I", false)
  | 6 => ("ObsMessagesModel", "lists", "[I", true)
  | 7 => ("ObsMessagesModel", "lengths", "[I", true)
  | 8 => ("ObsMessagesModel", "fault", "I", false)
  | 9 => ("ObsMessagesModel", "place", "I", false)
  | 10 => ("ObsMessagesModel", "values", "[J", true)
  | 11 => ("ObsMessagesModel", "read", "[J", true)
  | 12 => ("ObsMessagesModel", "open", "I", false)
  | 13 => ("ObsMessagesModel", "list", "[I", true)
  | 14 => ("ObsMessagesModel", "next", "[I", true)
  | 15 => ("ObsMessagesModel", "end", "[I", true)
  | 16 => ("ObsMessagesModel", "begin", "[I", true)
  | 17 => ("ObsMessagesModel", "left", "[I", true)
  | 18 => ("ObsMessagesModel", "turn", "[I", true)
  | 19 => ("ObsMessagesModel", "foundOps", "[I", true)
  | 20 => ("ObsMessagesModel", "ops", "[I", true)
  | 21 => ("ObsMessagesModel", "looked", "I", false)
  | 22 => ("ObsMessagesModel", "fields", "I", false)
  | 23 => ("ObsMessagesModel", "kind", "[I", true)
  | 24 => ("ObsMessagesModel", "code", "[I", true)
  | 25 => ("ObsMessagesModel", "width", "[I", true)
  | 26 => ("ObsMessagesModel", "scale", "[I", true)
  | 27 => ("ObsMessagesModel", "link", "[I", true)
  | 28 => ("ObsMessagesModel", "repeat", "[I", true)
  | 29 => ("ObsMessagesModel", "base", "[J", true)
  | 30 => ("ObsMessagesModel", "elements", "I", false)
  | 31 => ("ObsMessagesModel", "pointed", "I", false)
  | 32 => ("ObsMessagesModel", "pointer", "I", false)
  | 33 => ("ObsMessagesModel", "elementAt", "[I", true)
  | 34 => ("ObsMessagesModel", "pointAt", "[I", true)
  | 35 => ("ObsMessagesModel", "mode", "I", false)
  | 36 => ("ObsMessagesModel", "subset", "I", false)
  | 37 => ("ObsMessagesModel", "subsets", "I", false)
  | 38 => ("ObsMessagesModel", "bits", "[Z", true)
  | 39 => ("ObsMessagesModel", "made", "[Z", true)
  | 40 => ("ObsMessagesModel", "many", "I", false)
  | 41 => ("ObsMessagesModel", "at", "I", false)
  | 42 => ("ObsMessagesModel", "madeMany", "I", false)
  | 43 => ("ObsMessagesModel", "madeKind", "I", false)
  | 44 => ("ObsMessagesModel", "madeSubsets", "I", false)
  | 45 => ("ObsMessagesModel", "written", "Z", false)
  | 46 => ("ObsMessagesModel", "taped", "I", false)
  | 47 => ("ObsMessagesModel", "tape", "[I", true)
  | 48 => ("ObsMessagesModel", "firstKind", "[I", true)
  | 49 => ("ObsMessagesModel", "firstWidth", "[I", true)
  | 50 => ("ObsMessagesModel", "firstScale", "[I", true)
  | 51 => ("ObsMessagesModel", "firstBase", "[J", true)
  | 52 => ("ObsMessagesModel", "firstFields", "I", false)
  | 53 => ("ObsMessagesModel", "points", "[J", true)
  | 54 => ("ObsMessagesModel", "packed", "[J", true)
  | 55 => ("ObsMessagesModel", "codes", "I", false)
  | 56 => ("ObsMessagesModel", "groups", "I", false)
  | 57 => ("ObsMessagesModel", "codeOf", "[J", true)
  | 58 => ("ObsMessagesModel", "cost", "[J", true)
  | 59 => ("ObsMessagesModel", "cut", "[I", true)
  | _ => ("ObsMessagesModel", "ends", "[I", true)
def ty_Mod : Nat → FieldType := fun k => match k with
  | 0 => .int
  | 1 => .array (.boolean)
  | 2 => .array (.int)
  | 3 => .array (.int)
  | 4 => .array (.int)
  | 5 => .int
  | 6 => .array (.int)
  | 7 => .array (.int)
  | 8 => .int
  | 9 => .int
  | 10 => .array (.long)
  | 11 => .array (.long)
  | 12 => .int
  | 13 => .array (.int)
  | 14 => .array (.int)
  | 15 => .array (.int)
  | 16 => .array (.int)
  | 17 => .array (.int)
  | 18 => .array (.int)
  | 19 => .array (.int)
  | 20 => .array (.int)
  | 21 => .int
  | 22 => .int
  | 23 => .array (.int)
  | 24 => .array (.int)
  | 25 => .array (.int)
  | 26 => .array (.int)
  | 27 => .array (.int)
  | 28 => .array (.int)
  | 29 => .array (.long)
  | 30 => .int
  | 31 => .int
  | 32 => .int
  | 33 => .array (.int)
  | 34 => .array (.int)
  | 35 => .int
  | 36 => .int
  | 37 => .int
  | 38 => .array (.boolean)
  | 39 => .array (.boolean)
  | 40 => .int
  | 41 => .int
  | 42 => .int
  | 43 => .int
  | 44 => .int
  | 45 => .boolean
  | 46 => .int
  | 47 => .array (.int)
  | 48 => .array (.int)
  | 49 => .array (.int)
  | 50 => .array (.int)
  | 51 => .array (.long)
  | 52 => .int
  | 53 => .array (.long)
  | 54 => .array (.long)
  | 55 => .int
  | 56 => .int
  | 57 => .array (.long)
  | 58 => .array (.long)
  | 59 => .array (.int)
  | _ => .array (.int)
theorem nm_Mod : ∀ a, a < 61 → ∀ b, b < 61 → a ≠ b → (T_Mod a).2.1 ≠ (T_Mod b).2.1 := by decide +kernel
theorem ty_Mod_ok : ∀ k, k < 61 → parseFieldDescriptor (T_Mod k).2.2.1 = some (ty_Mod k) := by decide +kernel
theorem in_Mod : ∀ w ∈ u_ws R_Mod T_Mod 61, w ∈ tb := tb_all (by decide +kernel)
abbrev vwCl : List vw_C := [(R_X, T_X, 10), (R_Tab, T_Tab, 6), (R_Prog, T_Prog, 14), (R_Walk, T_Walk, 18), (R_Fld, T_Fld, 8), (R_Lps, T_Lps, 5), (R_Wri, T_Wri, 1), (R_Bits, T_Bits, 2), (R_Rea, T_Rea, 8), (R_Grd, T_Grd, 9), (R_Mod, T_Mod, 61)]
abbrev b_Tab_isScale : ByteArray := prog_10_method_4_code
abbrev y_Tab_isScale : MethodName := ⟨"ObsMessages$Tables", "isScale", "(I)Z"⟩
abbrev k_Tab_isScale : Cond := .code y_Tab_isScale b_Tab_isScale 1 (some .boolean)
abbrev ws_Tab_isScale : List Cond := k_Tab_isScale :: tb
abbrev b_Tab_isWidth : ByteArray := prog_10_method_5_code
abbrev y_Tab_isWidth : MethodName := ⟨"ObsMessages$Tables", "isWidth", "(I)Z"⟩
abbrev k_Tab_isWidth : Cond := .code y_Tab_isWidth b_Tab_isWidth 1 (some .boolean)
abbrev ws_Tab_isWidth : List Cond := k_Tab_isWidth :: tb
abbrev b_Tab_isEntry : ByteArray := prog_10_method_3_code
abbrev y_Tab_isEntry : MethodName := ⟨"ObsMessages$Tables", "isEntry", "(III)Z"⟩
abbrev k_Tab_isEntry : Cond := .code y_Tab_isEntry b_Tab_isEntry 3 (some .boolean)
abbrev ws_Tab_isEntry : List Cond := k_Tab_isEntry :: tb
abbrev b_Tab_startOf : ByteArray := prog_10_method_7_code
abbrev y_Tab_startOf : MethodName := ⟨"ObsMessages$Tables", "startOf", "(I)I"⟩
abbrev k_Tab_startOf : Cond := .code y_Tab_startOf b_Tab_startOf 1 (some .int)
abbrev ws_Tab_startOf : List Cond := k_Tab_startOf :: tb
abbrev b_Tab_entryAt : ByteArray := prog_10_method_12_code
abbrev y_Tab_entryAt : MethodName := ⟨"ObsMessages$Tables", "entryAt", "(II)I"⟩
abbrev k_Tab_entryAt : Cond := .code y_Tab_entryAt b_Tab_entryAt 2 (some .int)
abbrev ws_Tab_entryAt : List Cond := k_Tab_entryAt :: tb
abbrev b_Tab_listOf : ByteArray := prog_10_method_6_code
abbrev y_Tab_listOf : MethodName := ⟨"ObsMessages$Tables", "listOf", "(I)I"⟩
abbrev k_Tab_listOf : Cond := .code y_Tab_listOf b_Tab_listOf 1 (some .int)
abbrev ws_Tab_listOf : List Cond := k_Tab_listOf :: tb
abbrev b_Tab_endOf : ByteArray := prog_10_method_8_code
abbrev y_Tab_endOf : MethodName := ⟨"ObsMessages$Tables", "endOf", "(I)I"⟩
abbrev k_Tab_endOf : Cond := .code y_Tab_endOf b_Tab_endOf 2 (some .int)
abbrev ws_Tab_endOf : List Cond := k_Tab_endOf :: tb
abbrev b_Tab_isFull : ByteArray := prog_10_method_9_code
abbrev y_Tab_isFull : MethodName := ⟨"ObsMessages$Tables", "isFull", "(I)Z"⟩
abbrev k_Tab_isFull : Cond := .code y_Tab_isFull b_Tab_isFull 2 (some .boolean)
abbrev ws_Tab_isFull : List Cond := k_Tab_isFull :: tb
abbrev b_Tab_extend : ByteArray := prog_10_method_10_code
abbrev y_Tab_extend : MethodName := ⟨"ObsMessages$Tables", "extend", "(II)I"⟩
abbrev k_Tab_extend : Cond := .code y_Tab_extend b_Tab_extend 3 (some .int)
abbrev ws_Tab_extend : List Cond := k_Tab_extend :: tb
abbrev b_Tab_inForce : ByteArray := prog_10_method_11_code
abbrev y_Tab_inForce : MethodName := ⟨"ObsMessages$Tables", "inForce", "(I)I"⟩
abbrev k_Tab_inForce : Cond := .code y_Tab_inForce b_Tab_inForce 3 (some .int)
abbrev ws_Tab_inForce : List Cond := k_Tab_inForce :: tb
abbrev b_Lps_leaveAll : ByteArray := prog_7_method_2_code
abbrev y_Lps_leaveAll : MethodName := ⟨"ObsMessages$Loops", "leaveAll", "()V"⟩
abbrev k_Lps_leaveAll : Cond := .code y_Lps_leaveAll b_Lps_leaveAll 1 none
abbrev ws_Lps_leaveAll : List Cond := k_Lps_leaveAll :: tb
abbrev b_Lps_enter : ByteArray := prog_7_method_3_code
abbrev y_Lps_enter : MethodName := ⟨"ObsMessages$Loops", "enter", "(III)V"⟩
abbrev k_Lps_enter : Cond := .code y_Lps_enter b_Lps_enter 4 none
abbrev ws_Lps_enter : List Cond := k_Lps_enter :: tb
abbrev b_Lps_repetition : ByteArray := prog_7_method_4_code
abbrev y_Lps_repetition : MethodName := ⟨"ObsMessages$Loops", "repetition", "()I"⟩
abbrev k_Lps_repetition : Cond := .code y_Lps_repetition b_Lps_repetition 1 (some .int)
abbrev ws_Lps_repetition : List Cond := k_Lps_repetition :: tb
abbrev b_Lps_onFrom : ByteArray := prog_7_method_5_code
abbrev y_Lps_onFrom : MethodName := ⟨"ObsMessages$Loops", "onFrom", "(I)I"⟩
abbrev k_Lps_onFrom : Cond := .code y_Lps_onFrom b_Lps_onFrom 3 (some .int)
abbrev ws_Lps_onFrom : List Cond := k_Lps_onFrom :: tb
abbrev b_Bits_byteCount : ByteArray := prog_2_method_3_code
abbrev y_Bits_byteCount : MethodName := ⟨"ObsMessages$Bits", "byteCount", "()I"⟩
abbrev k_Bits_byteCount : Cond := .code y_Bits_byteCount b_Bits_byteCount 1 (some .int)
abbrev ws_Bits_byteCount : List Cond := k_Bits_byteCount :: tb
abbrev b_Bits_bitAt : ByteArray := prog_2_method_6_code
abbrev y_Bits_bitAt : MethodName := ⟨"ObsMessages$Bits", "bitAt", "(I)I"⟩
abbrev k_Bits_bitAt : Cond := .code y_Bits_bitAt b_Bits_bitAt 2 (some .int)
abbrev ws_Bits_bitAt : List Cond := k_Bits_bitAt :: tb
abbrev b_Bits_numberAt : ByteArray := prog_2_method_5_code
abbrev y_Bits_numberAt : MethodName := ⟨"ObsMessages$Bits", "numberAt", "(II)J"⟩
abbrev k_Bits_numberAt : Cond := .code y_Bits_numberAt b_Bits_numberAt 6 (some .long)
abbrev ws_Bits_numberAt : List Cond := k_Bits_numberAt :: tb
abbrev b_Bits_add : ByteArray := prog_2_method_4_code
abbrev y_Bits_add : MethodName := ⟨"ObsMessages$Bits", "add", "(JI)V"⟩
abbrev k_Bits_add : Cond := .code y_Bits_add b_Bits_add 5 none
abbrev ws_Bits_add : List Cond := k_Bits_add :: tb
abbrev b_Desc_isElement : ByteArray := prog_3_method_3_code
abbrev y_Desc_isElement : MethodName := ⟨"ObsMessages$Descriptors", "isElement", "(I)Z"⟩
abbrev k_Desc_isElement : Cond := .code y_Desc_isElement b_Desc_isElement 1 (some .boolean)
abbrev ws_Desc_isElement : List Cond := k_Desc_isElement :: tb
abbrev b_Desc_sequenceOf : ByteArray := prog_3_method_4_code
abbrev y_Desc_sequenceOf : MethodName := ⟨"ObsMessages$Descriptors", "sequenceOf", "(I)I"⟩
abbrev k_Desc_sequenceOf : Cond := .code y_Desc_sequenceOf b_Desc_sequenceOf 1 (some .int)
abbrev ws_Desc_sequenceOf : List Cond := k_Desc_sequenceOf :: tb
abbrev b_Desc_isRepeat : ByteArray := prog_3_method_5_code
abbrev y_Desc_isRepeat : MethodName := ⟨"ObsMessages$Descriptors", "isRepeat", "(I)Z"⟩
abbrev k_Desc_isRepeat : Cond := .code y_Desc_isRepeat b_Desc_isRepeat 1 (some .boolean)
abbrev ws_Desc_isRepeat : List Cond := k_Desc_isRepeat :: tb
abbrev b_Desc_lengthOf : ByteArray := prog_3_method_6_code
abbrev y_Desc_lengthOf : MethodName := ⟨"ObsMessages$Descriptors", "lengthOf", "(I)I"⟩
abbrev k_Desc_lengthOf : Cond := .code y_Desc_lengthOf b_Desc_lengthOf 1 (some .int)
abbrev ws_Desc_lengthOf : List Cond := k_Desc_lengthOf :: tb
abbrev b_Desc_timesOf : ByteArray := prog_3_method_7_code
abbrev y_Desc_timesOf : MethodName := ⟨"ObsMessages$Descriptors", "timesOf", "(I)I"⟩
abbrev k_Desc_timesOf : Cond := .code y_Desc_timesOf b_Desc_timesOf 1 (some .int)
abbrev ws_Desc_timesOf : List Cond := k_Desc_timesOf :: tb
abbrev b_Desc_operatorOf : ByteArray := prog_3_method_8_code
abbrev y_Desc_operatorOf : MethodName := ⟨"ObsMessages$Descriptors", "operatorOf", "(I)I"⟩
abbrev k_Desc_operatorOf : Cond := .code y_Desc_operatorOf b_Desc_operatorOf 2 (some .int)
abbrev ws_Desc_operatorOf : List Cond := k_Desc_operatorOf :: tb
abbrev b_Desc_settingOf : ByteArray := prog_3_method_9_code
abbrev y_Desc_settingOf : MethodName := ⟨"ObsMessages$Descriptors", "settingOf", "(II)I"⟩
abbrev k_Desc_settingOf : Cond := .code y_Desc_settingOf b_Desc_settingOf 2 (some .int)
abbrev ws_Desc_settingOf : List Cond := k_Desc_settingOf :: tb
abbrev b_Desc_addedWidth : ByteArray := prog_3_method_10_code
abbrev y_Desc_addedWidth : MethodName := ⟨"ObsMessages$Descriptors", "addedWidth", "(I)I"⟩
abbrev k_Desc_addedWidth : Cond := .code y_Desc_addedWidth b_Desc_addedWidth 1 (some .int)
abbrev ws_Desc_addedWidth : List Cond := k_Desc_addedWidth :: tb
abbrev b_Desc_addedScale : ByteArray := prog_3_method_11_code
abbrev y_Desc_addedScale : MethodName := ⟨"ObsMessages$Descriptors", "addedScale", "(I)I"⟩
abbrev k_Desc_addedScale : Cond := .code y_Desc_addedScale b_Desc_addedScale 1 (some .int)
abbrev ws_Desc_addedScale : List Cond := k_Desc_addedScale :: tb
abbrev b_Desc_bitsOf : ByteArray := prog_3_method_12_code
abbrev y_Desc_bitsOf : MethodName := ⟨"ObsMessages$Descriptors", "bitsOf", "(I)I"⟩
abbrev k_Desc_bitsOf : Cond := .code y_Desc_bitsOf b_Desc_bitsOf 1 (some .int)
abbrev ws_Desc_bitsOf : List Cond := k_Desc_bitsOf :: tb
abbrev b_Desc_isMark : ByteArray := prog_3_method_13_code
abbrev y_Desc_isMark : MethodName := ⟨"ObsMessages$Descriptors", "isMark", "(I)Z"⟩
abbrev k_Desc_isMark : Cond := .code y_Desc_isMark b_Desc_isMark 1 (some .boolean)
abbrev ws_Desc_isMark : List Cond := k_Desc_isMark :: tb
abbrev b_Desc_isKnown : ByteArray := prog_3_method_2_code
abbrev y_Desc_isKnown : MethodName := ⟨"ObsMessages$Descriptors", "isKnown", "(I)Z"⟩
abbrev k_Desc_isKnown : Cond := .code y_Desc_isKnown b_Desc_isKnown 1 (some .boolean)
abbrev ws_Desc_isKnown : List Cond := k_Desc_isKnown :: tb
abbrev b_Tab_entryOf : ByteArray := prog_10_method_2_code
abbrev y_Tab_entryOf : MethodName := ⟨"ObsMessages$Tables", "entryOf", "(II)I"⟩
abbrev k_Tab_entryOf : Cond := .code y_Tab_entryOf b_Tab_entryOf 2 (some .int)
abbrev ws_Tab_entryOf : List Cond := k_Tab_entryOf :: tb
abbrev b_Arr_fill_aII : ByteArray := prog_24_method_103_code
abbrev y_Arr_fill_aII : MethodName := ⟨"java/util/Arrays", "fill", "([II)V"⟩
abbrev k_Arr_fill_aII : Cond := .code y_Arr_fill_aII b_Arr_fill_aII 4 none
abbrev ws_Arr_fill_aII : List Cond := k_Arr_fill_aII :: tb
abbrev b_Arr_fill_aJJ : ByteArray := prog_24_method_101_code
abbrev y_Arr_fill_aJJ : MethodName := ⟨"java/util/Arrays", "fill", "([JJ)V"⟩
abbrev k_Arr_fill_aJJ : Cond := .code y_Arr_fill_aJJ b_Arr_fill_aJJ 5 none
abbrev ws_Arr_fill_aJJ : List Cond := k_Arr_fill_aJJ :: tb
abbrev b_Bits_empty : ByteArray := prog_2_method_2_code
abbrev y_Bits_empty : MethodName := ⟨"ObsMessages$Bits", "empty", "()V"⟩
abbrev k_Bits_empty : Cond := .code y_Bits_empty b_Bits_empty 1 none
abbrev ws_Bits_empty : List Cond := k_Bits_empty :: tb
abbrev b_X_isSubset : ByteArray := prog_1_method_23_code
abbrev y_X_isSubset : MethodName := ⟨"ObsMessages", "isSubset", "(I)Z"⟩
abbrev k_X_isSubset : Cond := .code y_X_isSubset b_X_isSubset 1 (some .boolean)
abbrev ws_X_isSubset : List Cond := k_X_isSubset :: tb
abbrev b_X_isValue : ByteArray := prog_1_method_24_code
abbrev y_X_isValue : MethodName := ⟨"ObsMessages", "isValue", "(II)Z"⟩
abbrev k_X_isValue : Cond := .code y_X_isValue b_X_isValue 2 (some .boolean)
abbrev ws_X_isValue : List Cond := k_X_isValue :: tb
abbrev b_X_placeOf : ByteArray := prog_1_method_25_code
abbrev y_X_placeOf : MethodName := ⟨"ObsMessages", "placeOf", "(II)I"⟩
abbrev k_X_placeOf : Cond := .code y_X_placeOf b_X_placeOf 2 (some .int)
abbrev ws_X_placeOf : List Cond := k_X_placeOf :: tb
abbrev b_X_bitLength : ByteArray := prog_1_method_26_code
abbrev y_X_bitLength : MethodName := ⟨"ObsMessages", "bitLength", "(J)I"⟩
abbrev k_X_bitLength : Cond := .code y_X_bitLength b_X_bitLength 3 (some .int)
abbrev ws_X_bitLength : List Cond := k_X_bitLength :: tb
abbrev b_X_allOnes : ByteArray := prog_1_method_27_code
abbrev y_X_allOnes : MethodName := ⟨"ObsMessages", "allOnes", "(I)J"⟩
abbrev k_X_allOnes : Cond := .code y_X_allOnes b_X_allOnes 1 (some .long)
abbrev ws_X_allOnes : List Cond := k_X_allOnes :: tb
abbrev b_Prog_fail : ByteArray := prog_8_method_3_code
abbrev y_Prog_fail : MethodName := ⟨"ObsMessages$Program", "fail", "(I)V"⟩
abbrev k_Prog_fail : Cond := .code y_Prog_fail b_Prog_fail 2 none
abbrev ws_Prog_fail : List Cond := k_Prog_fail :: tb
abbrev b_Prog_openList : ByteArray := prog_8_method_4_code
abbrev y_Prog_openList : MethodName := ⟨"ObsMessages$Program", "openList", "(IIII)V"⟩
abbrev k_Prog_openList : Cond := .code y_Prog_openList b_Prog_openList 5 none
abbrev ws_Prog_openList : List Cond := k_Prog_openList :: tb
abbrev b_Prog_closeList : ByteArray := prog_8_method_5_code
abbrev y_Prog_closeList : MethodName := ⟨"ObsMessages$Program", "closeList", "()V"⟩
abbrev k_Prog_closeList : Cond := .code y_Prog_closeList b_Prog_closeList 2 none
abbrev ws_Prog_closeList : List Cond := k_Prog_closeList :: tb
abbrev b_Prog_takeUp : ByteArray := prog_8_method_7_code
abbrev y_Prog_takeUp : MethodName := ⟨"ObsMessages$Program", "takeUp", "(II)Z"⟩
abbrev k_Prog_takeUp : Cond := .code y_Prog_takeUp b_Prog_takeUp 3 (some .boolean)
abbrev ws_Prog_takeUp : List Cond := k_Prog_takeUp :: tb
abbrev b_Prog_lookAtElement : ByteArray := prog_8_method_8_code
abbrev y_Prog_lookAtElement : MethodName := ⟨"ObsMessages$Program", "lookAtElement", "(I)V"⟩
abbrev k_Prog_lookAtElement : Cond := .code y_Prog_lookAtElement b_Prog_lookAtElement 5 none
abbrev ws_Prog_lookAtElement : List Cond := k_Prog_lookAtElement :: tb
abbrev b_Prog_isTooDeep : ByteArray := prog_8_method_10_code
abbrev y_Prog_isTooDeep : MethodName := ⟨"ObsMessages$Program", "isTooDeep", "(I)Z"⟩
abbrev k_Prog_isTooDeep : Cond := .code y_Prog_isTooDeep b_Prog_isTooDeep 4 (some .boolean)
abbrev ws_Prog_isTooDeep : List Cond := k_Prog_isTooDeep :: tb
abbrev b_Prog_lookAtSequence : ByteArray := prog_8_method_9_code
abbrev y_Prog_lookAtSequence : MethodName := ⟨"ObsMessages$Program", "lookAtSequence", "(I)V"⟩
abbrev k_Prog_lookAtSequence : Cond := .code y_Prog_lookAtSequence b_Prog_lookAtSequence 2 none
abbrev ws_Prog_lookAtSequence : List Cond := k_Prog_lookAtSequence :: tb
abbrev b_Prog_lookAtRepeat : ByteArray := prog_8_method_11_code
abbrev y_Prog_lookAtRepeat : MethodName := ⟨"ObsMessages$Program", "lookAtRepeat", "(III)V"⟩
abbrev k_Prog_lookAtRepeat : Cond := .code y_Prog_lookAtRepeat b_Prog_lookAtRepeat 8 none
abbrev ws_Prog_lookAtRepeat : List Cond := k_Prog_lookAtRepeat :: tb
abbrev b_Prog_lookAtOperator : ByteArray := prog_8_method_12_code
abbrev y_Prog_lookAtOperator : MethodName := ⟨"ObsMessages$Program", "lookAtOperator", "(II)V"⟩
abbrev k_Prog_lookAtOperator : Cond := .code y_Prog_lookAtOperator b_Prog_lookAtOperator 5 none
abbrev ws_Prog_lookAtOperator : List Cond := k_Prog_lookAtOperator :: tb
abbrev b_Prog_lookAtNext : ByteArray := prog_8_method_6_code
abbrev y_Prog_lookAtNext : MethodName := ⟨"ObsMessages$Program", "lookAtNext", "()V"⟩
abbrev k_Prog_lookAtNext : Cond := .code y_Prog_lookAtNext b_Prog_lookAtNext 5 none
abbrev ws_Prog_lookAtNext : List Cond := k_Prog_lookAtNext :: tb
abbrev b_Prog_build : ByteArray := prog_8_method_2_code
abbrev y_Prog_build : MethodName := ⟨"ObsMessages$Program", "build", "()V"⟩
abbrev k_Prog_build : Cond := .code y_Prog_build b_Prog_build 2 none
abbrev ws_Prog_build : List Cond := k_Prog_build :: tb
abbrev b_Fld_has : ByteArray := prog_4_method_2_code
abbrev y_Fld_has : MethodName := ⟨"ObsMessages$Fields", "has", "(I)Z"⟩
abbrev k_Fld_has : Cond := .code y_Fld_has b_Fld_has 2 (some .boolean)
abbrev ws_Fld_has : List Cond := k_Fld_has :: tb
abbrev b_Fld_isElementOf : ByteArray := prog_4_method_3_code
abbrev y_Fld_isElementOf : MethodName := ⟨"ObsMessages$Fields", "isElementOf", "(III)Z"⟩
abbrev k_Fld_isElementOf : Cond := .code y_Fld_isElementOf b_Fld_isElementOf 4 (some .boolean)
abbrev ws_Fld_isElementOf : List Cond := k_Fld_isElementOf :: tb
abbrev b_Fld_isCountOrBit : ByteArray := prog_4_method_4_code
abbrev y_Fld_isCountOrBit : MethodName := ⟨"ObsMessages$Fields", "isCountOrBit", "(I)Z"⟩
abbrev k_Fld_isCountOrBit : Cond := .code y_Fld_isCountOrBit b_Fld_isCountOrBit 2 (some .boolean)
abbrev ws_Fld_isCountOrBit : List Cond := k_Fld_isCountOrBit :: tb
abbrev b_Fld_firstOther : ByteArray := prog_4_method_5_code
abbrev y_Fld_firstOther : MethodName := ⟨"ObsMessages$Fields", "firstOther", "([J[J)I"⟩
abbrev k_Fld_firstOther : Cond := .code y_Fld_firstOther b_Fld_firstOther 4 (some .int)
abbrev ws_Fld_firstOther : List Cond := k_Fld_firstOther :: tb
abbrev b_Fld_hasRaw : ByteArray := prog_4_method_6_code
abbrev y_Fld_hasRaw : MethodName := ⟨"ObsMessages$Fields", "hasRaw", "(IJ)Z"⟩
abbrev k_Fld_hasRaw : Cond := .code y_Fld_hasRaw b_Fld_hasRaw 4 (some .boolean)
abbrev ws_Fld_hasRaw : List Cond := k_Fld_hasRaw :: tb
abbrev b_Fld_rawOf : ByteArray := prog_4_method_7_code
abbrev y_Fld_rawOf : MethodName := ⟨"ObsMessages$Fields", "rawOf", "(IJ)J"⟩
abbrev k_Fld_rawOf : Cond := .code y_Fld_rawOf b_Fld_rawOf 4 (some .long)
abbrev ws_Fld_rawOf : List Cond := k_Fld_rawOf :: tb
abbrev b_Fld_isMissing : ByteArray := prog_4_method_8_code
abbrev y_Fld_isMissing : MethodName := ⟨"ObsMessages$Fields", "isMissing", "(IJ)Z"⟩
abbrev k_Fld_isMissing : Cond := .code y_Fld_isMissing b_Fld_isMissing 4 (some .boolean)
abbrev ws_Fld_isMissing : List Cond := k_Fld_isMissing :: tb
abbrev b_Fld_valueOf : ByteArray := prog_4_method_9_code
abbrev y_Fld_valueOf : MethodName := ⟨"ObsMessages$Fields", "valueOf", "(IJ)J"⟩
abbrev k_Fld_valueOf : Cond := .code y_Fld_valueOf b_Fld_valueOf 4 (some .long)
abbrev ws_Fld_valueOf : List Cond := k_Fld_valueOf :: tb
abbrev b_Walk_fail : ByteArray := prog_11_method_5_code
abbrev y_Walk_fail : MethodName := ⟨"ObsMessages$Walk", "fail", "(II)V"⟩
abbrev k_Walk_fail : Cond := .code y_Walk_fail b_Walk_fail 3 none
abbrev ws_Walk_fail : List Cond := k_Walk_fail :: tb
abbrev b_Walk_begin : ByteArray := prog_11_method_4_code
abbrev y_Walk_begin : MethodName := ⟨"ObsMessages$Walk", "begin", "()V"⟩
abbrev k_Walk_begin : Cond := .code y_Walk_begin b_Walk_begin 1 none
abbrev ws_Walk_begin : List Cond := k_Walk_begin :: tb
abbrev b_Walk_give : ByteArray := prog_11_method_16_code
abbrev y_Walk_give : MethodName := ⟨"ObsMessages$Walk", "give", "(IIIIJI)V"⟩
abbrev k_Walk_give : Cond := .code y_Walk_give b_Walk_give 9 none
abbrev ws_Walk_give : List Cond := k_Walk_give :: tb
abbrev b_Walk_giveMark : ByteArray := prog_11_method_15_code
abbrev y_Walk_giveMark : MethodName := ⟨"ObsMessages$Walk", "giveMark", "()V"⟩
abbrev k_Walk_giveMark : Cond := .code y_Walk_giveMark b_Walk_giveMark 2 none
abbrev ws_Walk_giveMark : List Cond := k_Walk_giveMark :: tb
abbrev b_Walk_giveBit : ByteArray := prog_11_method_14_code
abbrev y_Walk_giveBit : MethodName := ⟨"ObsMessages$Walk", "giveBit", "()V"⟩
abbrev k_Walk_giveBit : Cond := .code y_Walk_giveBit b_Walk_giveBit 2 none
abbrev ws_Walk_giveBit : List Cond := k_Walk_giveBit :: tb
abbrev b_Walk_giveFromEntry : ByteArray := prog_11_method_13_code
abbrev y_Walk_giveFromEntry : MethodName := ⟨"ObsMessages$Walk", "giveFromEntry", "()V"⟩
abbrev k_Walk_giveFromEntry : Cond := .code y_Walk_giveFromEntry b_Walk_giveFromEntry 7 none
abbrev ws_Walk_giveFromEntry : List Cond := k_Walk_giveFromEntry :: tb
abbrev b_Walk_giveQuality : ByteArray := prog_11_method_12_code
abbrev y_Walk_giveQuality : MethodName := ⟨"ObsMessages$Walk", "giveQuality", "()V"⟩
abbrev k_Walk_giveQuality : Cond := .code y_Walk_giveQuality b_Walk_giveQuality 1 none
abbrev ws_Walk_giveQuality : List Cond := k_Walk_giveQuality :: tb
abbrev b_Walk_comeToBits : ByteArray := prog_11_method_11_code
abbrev y_Walk_comeToBits : MethodName := ⟨"ObsMessages$Walk", "comeToBits", "(I)V"⟩
abbrev k_Walk_comeToBits : Cond := .code y_Walk_comeToBits b_Walk_comeToBits 2 none
abbrev ws_Walk_comeToBits : List Cond := k_Walk_comeToBits :: tb
abbrev b_Walk_comeToRepeat : ByteArray := prog_11_method_10_code
abbrev y_Walk_comeToRepeat : MethodName := ⟨"ObsMessages$Walk", "comeToRepeat", "(II)V"⟩
abbrev k_Walk_comeToRepeat : Cond := .code y_Walk_comeToRepeat b_Walk_comeToRepeat 3 none
abbrev ws_Walk_comeToRepeat : List Cond := k_Walk_comeToRepeat :: tb
abbrev b_Walk_comeToElement : ByteArray := prog_11_method_9_code
abbrev y_Walk_comeToElement : MethodName := ⟨"ObsMessages$Walk", "comeToElement", "(I)V"⟩
abbrev k_Walk_comeToElement : Cond := .code y_Walk_comeToElement b_Walk_comeToElement 2 none
abbrev ws_Walk_comeToElement : List Cond := k_Walk_comeToElement :: tb
abbrev b_Walk_comeToNext : ByteArray := prog_11_method_8_code
abbrev y_Walk_comeToNext : MethodName := ⟨"ObsMessages$Walk", "comeToNext", "()V"⟩
abbrev k_Walk_comeToNext : Cond := .code y_Walk_comeToNext b_Walk_comeToNext 3 none
abbrev ws_Walk_comeToNext : List Cond := k_Walk_comeToNext :: tb
abbrev b_Walk_settle : ByteArray := prog_11_method_7_code
abbrev y_Walk_settle : MethodName := ⟨"ObsMessages$Walk", "settle", "(J)V"⟩
abbrev k_Walk_settle : Cond := .code y_Walk_settle b_Walk_settle 9 none
abbrev ws_Walk_settle : List Cond := k_Walk_settle :: tb
abbrev b_Walk_advance : ByteArray := prog_11_method_6_code
abbrev y_Walk_advance : MethodName := ⟨"ObsMessages$Walk", "advance", "()Z"⟩
abbrev k_Walk_advance : Cond := .code y_Walk_advance b_Walk_advance 3 (some .boolean)
abbrev ws_Walk_advance : List Cond := k_Walk_advance :: tb
abbrev b_Walk_over : ByteArray := prog_11_method_2_code
abbrev y_Walk_over : MethodName := ⟨"ObsMessages$Walk", "over", "([J)V"⟩
abbrev k_Walk_over : Cond := .code y_Walk_over b_Walk_over 3 none
abbrev ws_Walk_over : List Cond := k_Walk_over :: tb
abbrev b_Walk_overChecked : ByteArray := prog_11_method_3_code
abbrev y_Walk_overChecked : MethodName := ⟨"ObsMessages$Walk", "overChecked", "([J)V"⟩
abbrev k_Walk_overChecked : Cond := .code y_Walk_overChecked b_Walk_overChecked 3 none
abbrev ws_Walk_overChecked : List Cond := k_Walk_overChecked :: tb
abbrev b_Grd_isBare : ByteArray := prog_6_method_2_code
abbrev y_Grd_isBare : MethodName := ⟨"ObsMessages$Grid", "isBare", "()Z"⟩
abbrev k_Grd_isBare : Cond := .code y_Grd_isBare b_Grd_isBare 2 (some .boolean)
abbrev ws_Grd_isBare : List Cond := k_Grd_isBare :: tb
abbrev b_Grd_inOrder : ByteArray := prog_6_method_5_code
abbrev y_Grd_inOrder : MethodName := ⟨"ObsMessages$Grid", "inOrder", "(I)I"⟩
abbrev k_Grd_inOrder : Cond := .code y_Grd_inOrder b_Grd_inOrder 3 (some .int)
abbrev ws_Grd_inOrder : List Cond := k_Grd_inOrder :: tb
abbrev b_Grd_takeCode : ByteArray := prog_6_method_4_code
abbrev y_Grd_takeCode : MethodName := ⟨"ObsMessages$Grid", "takeCode", "(IJI)V"⟩
abbrev k_Grd_takeCode : Cond := .code y_Grd_takeCode b_Grd_takeCode 5 none
abbrev ws_Grd_takeCode : List Cond := k_Grd_takeCode :: tb
abbrev b_Grd_takeCodes : ByteArray := prog_6_method_3_code
abbrev y_Grd_takeCodes : MethodName := ⟨"ObsMessages$Grid", "takeCodes", "(I)I"⟩
abbrev k_Grd_takeCodes : Cond := .code y_Grd_takeCodes b_Grd_takeCodes 8 (some .int)
abbrev ws_Grd_takeCodes : List Cond := k_Grd_takeCodes :: tb
abbrev b_Grd_cutFrom : ByteArray := prog_6_method_7_code
abbrev y_Grd_cutFrom : MethodName := ⟨"ObsMessages$Grid", "cutFrom", "(II)V"⟩
abbrev k_Grd_cutFrom : Cond := .code y_Grd_cutFrom b_Grd_cutFrom 9 none
abbrev ws_Grd_cutFrom : List Cond := k_Grd_cutFrom :: tb
abbrev b_Grd_cut : ByteArray := prog_6_method_6_code
abbrev y_Grd_cut : MethodName := ⟨"ObsMessages$Grid", "cut", "(I)V"⟩
abbrev k_Grd_cut : Cond := .code y_Grd_cut b_Grd_cut 3 none
abbrev ws_Grd_cut : List Cond := k_Grd_cut :: tb
abbrev b_Wri_spreadOf : ByteArray := prog_12_method_7_code
abbrev y_Wri_spreadOf : MethodName := ⟨"ObsMessages$Writer", "spreadOf", "(JZ)I"⟩
abbrev k_Wri_spreadOf : Cond := .code y_Wri_spreadOf b_Wri_spreadOf 3 (some .int)
abbrev ws_Wri_spreadOf : List Cond := k_Wri_spreadOf :: tb
abbrev b_Wri_begin : ByteArray := prog_12_method_4_code
abbrev y_Wri_begin : MethodName := ⟨"ObsMessages$Writer", "begin", "(II)V"⟩
abbrev k_Wri_begin : Cond := .code y_Wri_begin b_Wri_begin 3 none
abbrev ws_Wri_begin : List Cond := k_Wri_begin :: tb
abbrev b_Wri_end : ByteArray := prog_12_method_5_code
abbrev y_Wri_end : MethodName := ⟨"ObsMessages$Writer", "end", "()V"⟩
abbrev k_Wri_end : Cond := .code y_Wri_end b_Wri_end 2 none
abbrev ws_Wri_end : List Cond := k_Wri_end :: tb
abbrev b_Wri_addPacked : ByteArray := prog_12_method_6_code
abbrev y_Wri_addPacked : MethodName := ⟨"ObsMessages$Writer", "addPacked", "(LObsMessages$Fields;I[[JI)V"⟩
abbrev k_Wri_addPacked : Cond := .code y_Wri_addPacked b_Wri_addPacked 14 none
abbrev ws_Wri_addPacked : List Cond := k_Wri_addPacked :: tb
abbrev b_Wri_takePlain : ByteArray := prog_12_method_2_code
abbrev y_Wri_takePlain : MethodName := ⟨"ObsMessages$Writer", "takePlain", "(LObsMessages$Walk;[[JI)V"⟩
abbrev k_Wri_takePlain : Cond := .code y_Wri_takePlain b_Wri_takePlain 6 none
abbrev ws_Wri_takePlain : List Cond := k_Wri_takePlain :: tb
abbrev b_Wri_takePacked : ByteArray := prog_12_method_3_code
abbrev y_Wri_takePacked : MethodName := ⟨"ObsMessages$Writer", "takePacked", "(LObsMessages$Walk;[[JI)V"⟩
abbrev k_Wri_takePacked : Cond := .code y_Wri_takePacked b_Wri_takePacked 5 none
abbrev ws_Wri_takePacked : List Cond := k_Wri_takePacked :: tb
abbrev b_Rea_take : ByteArray := prog_9_method_6_code
abbrev y_Rea_take : MethodName := ⟨"ObsMessages$Reader", "take", "(I)J"⟩
abbrev k_Rea_take : Cond := .code y_Rea_take b_Rea_take 4 (some .long)
abbrev ws_Rea_take : List Cond := k_Rea_take :: tb
abbrev b_Rea_takePlainValue : ByteArray := prog_9_method_7_code
abbrev y_Rea_takePlainValue : MethodName := ⟨"ObsMessages$Reader", "takePlainValue", "(LObsMessages$Fields;I[J)Z"⟩
abbrev k_Rea_takePlainValue : Cond := .code y_Rea_takePlainValue b_Rea_takePlainValue 5 (some .boolean)
abbrev ws_Rea_takePlainValue : List Cond := k_Rea_takePlainValue :: tb
abbrev b_Rea_takeOneForAll : ByteArray := prog_9_method_9_code
abbrev y_Rea_takeOneForAll : MethodName := ⟨"ObsMessages$Reader", "takeOneForAll", "(LObsMessages$Fields;IJ)Z"⟩
abbrev k_Rea_takeOneForAll : Cond := .code y_Rea_takeOneForAll b_Rea_takeOneForAll 6 (some .boolean)
abbrev ws_Rea_takeOneForAll : List Cond := k_Rea_takeOneForAll :: tb
abbrev b_Rea_takeDifferences : ByteArray := prog_9_method_10_code
abbrev y_Rea_takeDifferences : MethodName := ⟨"ObsMessages$Reader", "takeDifferences", "(LObsMessages$Fields;IJI)Z"⟩
abbrev k_Rea_takeDifferences : Cond := .code y_Rea_takeDifferences b_Rea_takeDifferences 10 (some .boolean)
abbrev ws_Rea_takeDifferences : List Cond := k_Rea_takeDifferences :: tb
abbrev b_Rea_takePackedValues : ByteArray := prog_9_method_8_code
abbrev y_Rea_takePackedValues : MethodName := ⟨"ObsMessages$Reader", "takePackedValues", "(LObsMessages$Fields;I)Z"⟩
abbrev k_Rea_takePackedValues : Cond := .code y_Rea_takePackedValues b_Rea_takePackedValues 7 (some .boolean)
abbrev ws_Rea_takePackedValues : List Cond := k_Rea_takePackedValues :: tb
abbrev b_Rea_endWalk : ByteArray := prog_9_method_5_code
abbrev y_Rea_endWalk : MethodName := ⟨"ObsMessages$Reader", "endWalk", "(LObsMessages$Walk;IZ)V"⟩
abbrev k_Rea_endWalk : Cond := .code y_Rea_endWalk b_Rea_endWalk 4 none
abbrev ws_Rea_endWalk : List Cond := k_Rea_endWalk :: tb
abbrev b_Rea_open : ByteArray := prog_9_method_2_code
abbrev y_Rea_open : MethodName := ⟨"ObsMessages$Reader", "open", "()Z"⟩
abbrev k_Rea_open : Cond := .code y_Rea_open b_Rea_open 3 (some .boolean)
abbrev ws_Rea_open : List Cond := k_Rea_open :: tb
abbrev b_Rea_takePlain : ByteArray := prog_9_method_3_code
abbrev y_Rea_takePlain : MethodName := ⟨"ObsMessages$Reader", "takePlain", "(LObsMessages$Walk;)V"⟩
abbrev k_Rea_takePlain : Cond := .code y_Rea_takePlain b_Rea_takePlain 4 none
abbrev ws_Rea_takePlain : List Cond := k_Rea_takePlain :: tb
abbrev b_Rea_takePacked : ByteArray := prog_9_method_4_code
abbrev y_Rea_takePacked : MethodName := ⟨"ObsMessages$Reader", "takePacked", "(LObsMessages$Walk;)V"⟩
abbrev k_Rea_takePacked : Cond := .code y_Rea_takePacked b_Rea_takePacked 3 none
abbrev ws_Rea_takePacked : List Cond := k_Rea_takePacked :: tb
abbrev b_X_drop : ByteArray := prog_1_method_3_code
abbrev y_X_drop : MethodName := ⟨"ObsMessages", "drop", "(II)Z"⟩
abbrev k_X_drop : Cond := .code y_X_drop b_X_drop 4 (some .boolean)
abbrev ws_X_drop : List Cond := k_X_drop :: tb
abbrev b_X_fault : ByteArray := prog_1_method_8_code
abbrev y_X_fault : MethodName := ⟨"ObsMessages", "fault", "(I)I"⟩
abbrev k_X_fault : Cond := .code y_X_fault b_X_fault 2 (some .int)
abbrev ws_X_fault : List Cond := k_X_fault :: tb
abbrev b_X_setFault : ByteArray := prog_1_method_28_code
abbrev y_X_setFault : MethodName := ⟨"ObsMessages", "setFault", "(II)V"⟩
abbrev k_X_setFault : Cond := .code y_X_setFault b_X_setFault 3 none
abbrev ws_X_setFault : List Cond := k_X_setFault :: tb
abbrev b_X_compileAnew : ByteArray := prog_1_method_29_code
abbrev y_X_compileAnew : MethodName := ⟨"ObsMessages", "compileAnew", "()Z"⟩
abbrev k_X_compileAnew : Cond := .code y_X_compileAnew b_X_compileAnew 1 (some .boolean)
abbrev ws_X_compileAnew : List Cond := k_X_compileAnew :: tb
abbrev b_X_walkOver : ByteArray := prog_1_method_30_code
abbrev y_X_walkOver : MethodName := ⟨"ObsMessages", "walkOver", "(I)Z"⟩
abbrev k_X_walkOver : Cond := .code y_X_walkOver b_X_walkOver 2 (some .boolean)
abbrev ws_X_walkOver : List Cond := k_X_walkOver :: tb
abbrev b_X_checkValues : ByteArray := prog_1_method_31_code
abbrev y_X_checkValues : MethodName := ⟨"ObsMessages", "checkValues", "(I)Z"⟩
abbrev k_X_checkValues : Cond := .code y_X_checkValues b_X_checkValues 3 (some .boolean)
abbrev ws_X_checkValues : List Cond := k_X_checkValues :: tb
abbrev b_X_openTape : ByteArray := prog_1_method_33_code
abbrev y_X_openTape : MethodName := ⟨"ObsMessages", "openTape", "()Z"⟩
abbrev k_X_openTape : Cond := .code y_X_openTape b_X_openTape 1 (some .boolean)
abbrev ws_X_openTape : List Cond := k_X_openTape :: tb
abbrev b_X_field : ByteArray := prog_1_method_12_code
abbrev y_X_field : MethodName := ⟨"ObsMessages", "field", "(III)I"⟩
abbrev k_X_field : Cond := .code y_X_field b_X_field 4 (some .int)
abbrev ws_X_field : List Cond := k_X_field :: tb
abbrev b_X_reference : ByteArray := prog_1_method_13_code
abbrev y_X_reference : MethodName := ⟨"ObsMessages", "reference", "(II)J"⟩
abbrev k_X_reference : Cond := .code y_X_reference b_X_reference 3 (some .long)
abbrev ws_X_reference : List Cond := k_X_reference :: tb
abbrev b_X_find : ByteArray := prog_1_method_14_code
abbrev y_X_find : MethodName := ⟨"ObsMessages", "find", "(IIII)I"⟩
abbrev k_X_find : Cond := .code y_X_find b_X_find 7 (some .int)
abbrev ws_X_find : List Cond := k_X_find :: tb
abbrev b_X_byteAt : ByteArray := prog_1_method_16_code
abbrev y_X_byteAt : MethodName := ⟨"ObsMessages", "byteAt", "(I)I"⟩
abbrev k_X_byteAt : Cond := .code y_X_byteAt b_X_byteAt 2 (some .int)
abbrev ws_X_byteAt : List Cond := k_X_byteAt :: tb
abbrev b_X_feed : ByteArray := prog_1_method_17_code
abbrev y_X_feed : MethodName := ⟨"ObsMessages", "feed", "(II)I"⟩
abbrev k_X_feed : Cond := .code y_X_feed b_X_feed 3 (some .int)
abbrev ws_X_feed : List Cond := k_X_feed :: tb
abbrev b_X_packedAt : ByteArray := prog_1_method_21_code
abbrev y_X_packedAt : MethodName := ⟨"ObsMessages", "packedAt", "(I)J"⟩
abbrev k_X_packedAt : Cond := .code y_X_packedAt b_X_packedAt 2 (some .long)
abbrev ws_X_packedAt : List Cond := k_X_packedAt :: tb
abbrev b_X_group : ByteArray := prog_1_method_22_code
abbrev y_X_group : MethodName := ⟨"ObsMessages", "group", "(I)I"⟩
abbrev k_X_group : Cond := .code y_X_group b_X_group 2 (some .int)
abbrev ws_X_group : List Cond := k_X_group :: tb
abbrev b_Mod_entry : ByteArray := prog_14_method_3_code
abbrev y_Mod_entry : MethodName := ⟨"ObsMessagesModel", "entry", "(II)I"⟩
abbrev k_Mod_entry : Cond := .code y_Mod_entry b_Mod_entry 2 (some .int)
abbrev ws_Mod_entry : List Cond := k_Mod_entry :: tb
abbrev b_Mod_isEntry : ByteArray := prog_14_method_4_code
abbrev y_Mod_isEntry : MethodName := ⟨"ObsMessagesModel", "isEntry", "(II)Z"⟩
abbrev k_Mod_isEntry : Cond := .code y_Mod_isEntry b_Mod_isEntry 2 (some .boolean)
abbrev ws_Mod_isEntry : List Cond := k_Mod_isEntry :: tb
abbrev b_Mod_element : ByteArray := prog_14_method_5_code
abbrev y_Mod_element : MethodName := ⟨"ObsMessagesModel", "element", "(IIIII)V"⟩
abbrev k_Mod_element : Cond := .code y_Mod_element b_Mod_element 8 none
abbrev ws_Mod_element : List Cond := k_Mod_element :: tb
abbrev b_Mod_drop : ByteArray := prog_14_method_6_code
abbrev y_Mod_drop : MethodName := ⟨"ObsMessagesModel", "drop", "(II)Z"⟩
abbrev k_Mod_drop : Cond := .code y_Mod_drop b_Mod_drop 4 (some .boolean)
abbrev ws_Mod_drop : List Cond := k_Mod_drop :: tb
abbrev b_Mod_version : ByteArray := prog_14_method_7_code
abbrev y_Mod_version : MethodName := ⟨"ObsMessagesModel", "version", "(I)V"⟩
abbrev k_Mod_version : Cond := .code y_Mod_version b_Mod_version 2 none
abbrev ws_Mod_version : List Cond := k_Mod_version :: tb
abbrev b_Mod_force : ByteArray := prog_14_method_8_code
abbrev y_Mod_force : MethodName := ⟨"ObsMessagesModel", "force", "(I)I"⟩
abbrev k_Mod_force : Cond := .code y_Mod_force b_Mod_force 3 (some .int)
abbrev ws_Mod_force : List Cond := k_Mod_force :: tb
abbrev b_Mod_isRepeat : ByteArray := prog_14_method_9_code
abbrev y_Mod_isRepeat : MethodName := ⟨"ObsMessagesModel", "isRepeat", "(I)Z"⟩
abbrev k_Mod_isRepeat : Cond := .code y_Mod_isRepeat b_Mod_isRepeat 1 (some .boolean)
abbrev ws_Mod_isRepeat : List Cond := k_Mod_isRepeat :: tb
abbrev b_Mod_isDescriptor : ByteArray := prog_14_method_10_code
abbrev y_Mod_isDescriptor : MethodName := ⟨"ObsMessagesModel", "isDescriptor", "(I)Z"⟩
abbrev k_Mod_isDescriptor : Cond := .code y_Mod_isDescriptor b_Mod_isDescriptor 2 (some .boolean)
abbrev ws_Mod_isDescriptor : List Cond := k_Mod_isDescriptor :: tb
abbrev b_Mod_operator : ByteArray := prog_14_method_11_code
abbrev y_Mod_operator : MethodName := ⟨"ObsMessagesModel", "operator", "(I)I"⟩
abbrev k_Mod_operator : Cond := .code y_Mod_operator b_Mod_operator 1 (some .int)
abbrev ws_Mod_operator : List Cond := k_Mod_operator :: tb
abbrev b_Mod_begins : ByteArray := prog_14_method_12_code
abbrev y_Mod_begins : MethodName := ⟨"ObsMessagesModel", "begins", "(I)I"⟩
abbrev k_Mod_begins : Cond := .code y_Mod_begins b_Mod_begins 3 (some .int)
abbrev ws_Mod_begins : List Cond := k_Mod_begins :: tb
abbrev b_Mod_append : ByteArray := prog_14_method_13_code
abbrev y_Mod_append : MethodName := ⟨"ObsMessagesModel", "append", "(II)I"⟩
abbrev k_Mod_append : Cond := .code y_Mod_append b_Mod_append 4 (some .int)
abbrev ws_Mod_append : List Cond := k_Mod_append :: tb
abbrev b_Mod_clear : ByteArray := prog_14_method_14_code
abbrev y_Mod_clear : MethodName := ⟨"ObsMessagesModel", "clear", "(I)V"⟩
abbrev k_Mod_clear : Cond := .code y_Mod_clear b_Mod_clear 2 none
abbrev ws_Mod_clear : List Cond := k_Mod_clear :: tb
abbrev b_Mod_enter : ByteArray := prog_14_method_15_code
abbrev y_Mod_enter : MethodName := ⟨"ObsMessagesModel", "enter", "(IIIII)V"⟩
abbrev k_Mod_enter : Cond := .code y_Mod_enter b_Mod_enter 7 none
abbrev ws_Mod_enter : List Cond := k_Mod_enter :: tb
abbrev b_Mod_start : ByteArray := prog_14_method_16_code
abbrev y_Mod_start : MethodName := ⟨"ObsMessagesModel", "start", "()V"⟩
abbrev k_Mod_start : Cond := .code y_Mod_start b_Mod_start 2 none
abbrev ws_Mod_start : List Cond := k_Mod_start :: tb
abbrev b_Mod_wrong : ByteArray := prog_14_method_17_code
abbrev y_Mod_wrong : MethodName := ⟨"ObsMessagesModel", "wrong", "(II)V"⟩
abbrev k_Mod_wrong : Cond := .code y_Mod_wrong b_Mod_wrong 3 none
abbrev ws_Mod_wrong : List Cond := k_Mod_wrong :: tb
abbrev b_Mod_fresh : ByteArray := prog_14_method_18_code
abbrev y_Mod_fresh : MethodName := ⟨"ObsMessagesModel", "fresh", "()V"⟩
abbrev k_Mod_fresh : Cond := .code y_Mod_fresh b_Mod_fresh 1 none
abbrev ws_Mod_fresh : List Cond := k_Mod_fresh :: tb
abbrev b_Mod_leavesOther : ByteArray := prog_14_method_19_code
abbrev y_Mod_leavesOther : MethodName := ⟨"ObsMessagesModel", "leavesOther", "(I)Z"⟩
abbrev k_Mod_leavesOther : Cond := .code y_Mod_leavesOther b_Mod_leavesOther 4 (some .boolean)
abbrev ws_Mod_leavesOther : List Cond := k_Mod_leavesOther :: tb
abbrev b_Mod_sequences : ByteArray := prog_14_method_20_code
abbrev y_Mod_sequences : MethodName := ⟨"ObsMessagesModel", "sequences", "(I)I"⟩
abbrev k_Mod_sequences : Cond := .code y_Mod_sequences b_Mod_sequences 4 (some .int)
abbrev ws_Mod_sequences : List Cond := k_Mod_sequences :: tb
abbrev b_Mod_where : ByteArray := prog_14_method_21_code
abbrev y_Mod_where : MethodName := ⟨"ObsMessagesModel", "where", "()I"⟩
abbrev k_Mod_where : Cond := .code y_Mod_where b_Mod_where 2 (some .int)
abbrev ws_Mod_where : List Cond := k_Mod_where :: tb
abbrev b_Mod_added : ByteArray := prog_14_method_24_code
abbrev y_Mod_added : MethodName := ⟨"ObsMessagesModel", "added", "(I)I"⟩
abbrev k_Mod_added : Cond := .code y_Mod_added b_Mod_added 2 (some .int)
abbrev ws_Mod_added : List Cond := k_Mod_added :: tb
abbrev b_Mod_isIn : ByteArray := prog_14_method_25_code
abbrev y_Mod_isIn : MethodName := ⟨"ObsMessagesModel", "isIn", "(III)Z"⟩
abbrev k_Mod_isIn : Cond := .code y_Mod_isIn b_Mod_isIn 3 (some .boolean)
abbrev ws_Mod_isIn : List Cond := k_Mod_isIn :: tb
abbrev b_Mod_count : ByteArray := prog_14_method_26_code
abbrev y_Mod_count : MethodName := ⟨"ObsMessagesModel", "count", "(I)Z"⟩
abbrev k_Mod_count : Cond := .code y_Mod_count b_Mod_count 2 (some .boolean)
abbrev ws_Mod_count : List Cond := k_Mod_count :: tb
abbrev b_Mod_fault : ByteArray := prog_14_method_29_code
abbrev y_Mod_fault : MethodName := ⟨"ObsMessagesModel", "fault", "(I)I"⟩
abbrev k_Mod_fault : Cond := .code y_Mod_fault b_Mod_fault 2 (some .int)
abbrev ws_Mod_fault : List Cond := k_Mod_fault :: tb
abbrev b_Mod_wrongAt : ByteArray := prog_14_method_30_code
abbrev y_Mod_wrongAt : MethodName := ⟨"ObsMessagesModel", "wrongAt", "(II)V"⟩
abbrev k_Mod_wrongAt : Cond := .code y_Mod_wrongAt b_Mod_wrongAt 3 none
abbrev ws_Mod_wrongAt : List Cond := k_Mod_wrongAt :: tb
abbrev b_Mod_most : ByteArray := prog_14_method_31_code
abbrev y_Mod_most : MethodName := ⟨"ObsMessagesModel", "most", "(I)J"⟩
abbrev k_Mod_most : Cond := .code y_Mod_most b_Mod_most 1 (some .long)
abbrev ws_Mod_most : List Cond := k_Mod_most :: tb
abbrev b_Mod_take : ByteArray := prog_14_method_32_code
abbrev y_Mod_take : MethodName := ⟨"ObsMessagesModel", "take", "(II)J"⟩
abbrev k_Mod_take : Cond := .code y_Mod_take b_Mod_take 6 (some .long)
abbrev ws_Mod_take : List Cond := k_Mod_take :: tb
abbrev b_Mod_meant : ByteArray := prog_14_method_33_code
abbrev y_Mod_meant : MethodName := ⟨"ObsMessagesModel", "meant", "(IJ)J"⟩
abbrev k_Mod_meant : Cond := .code y_Mod_meant b_Mod_meant 4 (some .long)
abbrev ws_Mod_meant : List Cond := k_Mod_meant :: tb
abbrev b_Mod_raw : ByteArray := prog_14_method_34_code
abbrev y_Mod_raw : MethodName := ⟨"ObsMessagesModel", "raw", "(IJ)J"⟩
abbrev k_Mod_raw : Cond := .code y_Mod_raw b_Mod_raw 4 (some .long)
abbrev ws_Mod_raw : List Cond := k_Mod_raw :: tb
abbrev b_Mod_takeAll : ByteArray := prog_14_method_35_code
abbrev y_Mod_takeAll : MethodName := ⟨"ObsMessagesModel", "takeAll", "(I)V"⟩
abbrev k_Mod_takeAll : Cond := .code y_Mod_takeAll b_Mod_takeAll 10 none
abbrev ws_Mod_takeAll : List Cond := k_Mod_takeAll :: tb
abbrev b_Mod_valueOf : ByteArray := prog_14_method_36_code
abbrev y_Mod_valueOf : MethodName := ⟨"ObsMessagesModel", "valueOf", "(I)J"⟩
abbrev k_Mod_valueOf : Cond := .code y_Mod_valueOf b_Mod_valueOf 2 (some .long)
abbrev ws_Mod_valueOf : List Cond := k_Mod_valueOf :: tb
abbrev b_Mod_repetition : ByteArray := prog_14_method_37_code
abbrev y_Mod_repetition : MethodName := ⟨"ObsMessagesModel", "repetition", "()I"⟩
abbrev k_Mod_repetition : Cond := .code y_Mod_repetition b_Mod_repetition 2 (some .int)
abbrev ws_Mod_repetition : List Cond := k_Mod_repetition :: tb
abbrev b_Mod_come : ByteArray := prog_14_method_38_code
abbrev y_Mod_come : MethodName := ⟨"ObsMessagesModel", "come", "(IIIIJI)J"⟩
abbrev k_Mod_come : Cond := .code y_Mod_come b_Mod_come 11 (some .long)
abbrev ws_Mod_come : List Cond := k_Mod_come :: tb
abbrev b_Mod_walkElement : ByteArray := prog_14_method_39_code
abbrev y_Mod_walkElement : MethodName := ⟨"ObsMessagesModel", "walkElement", "(I)V"⟩
abbrev k_Mod_walkElement : Cond := .code y_Mod_walkElement b_Mod_walkElement 4 none
abbrev ws_Mod_walkElement : List Cond := k_Mod_walkElement :: tb
abbrev b_Mod_walkBits : ByteArray := prog_14_method_40_code
abbrev y_Mod_walkBits : MethodName := ⟨"ObsMessagesModel", "walkBits", "(I)V"⟩
abbrev k_Mod_walkBits : Cond := .code y_Mod_walkBits b_Mod_walkBits 4 none
abbrev ws_Mod_walkBits : List Cond := k_Mod_walkBits :: tb
abbrev b_Mod_walkMark : ByteArray := prog_14_method_41_code
abbrev y_Mod_walkMark : MethodName := ⟨"ObsMessagesModel", "walkMark", "()V"⟩
abbrev k_Mod_walkMark : Cond := .code y_Mod_walkMark b_Mod_walkMark 2 none
abbrev ws_Mod_walkMark : List Cond := k_Mod_walkMark :: tb
abbrev b_Mod_comes : ByteArray := prog_14_method_42_code
abbrev y_Mod_comes : MethodName := ⟨"ObsMessagesModel", "comes", "()Z"⟩
abbrev k_Mod_comes : Cond := .code y_Mod_comes b_Mod_comes 1 (some .boolean)
abbrev ws_Mod_comes : List Cond := k_Mod_comes :: tb
abbrev b_Mod_walkOne : ByteArray := prog_14_method_43_code
abbrev y_Mod_walkOne : MethodName := ⟨"ObsMessagesModel", "walkOne", "(I)V"⟩
abbrev k_Mod_walkOne : Cond := .code y_Mod_walkOne b_Mod_walkOne 7 none
abbrev ws_Mod_walkOne : List Cond := k_Mod_walkOne :: tb
abbrev b_Mod_walk : ByteArray := prog_14_method_44_code
abbrev y_Mod_walk : MethodName := ⟨"ObsMessagesModel", "walk", "(II)V"⟩
abbrev k_Mod_walk : Cond := .code y_Mod_walk b_Mod_walk 4 none
abbrev ws_Mod_walk : List Cond := k_Mod_walk :: tb
abbrev b_Mod_isSubset : ByteArray := prog_14_method_45_code
abbrev y_Mod_isSubset : MethodName := ⟨"ObsMessagesModel", "isSubset", "(I)Z"⟩
abbrev k_Mod_isSubset : Cond := .code y_Mod_isSubset b_Mod_isSubset 1 (some .boolean)
abbrev ws_Mod_isSubset : List Cond := k_Mod_isSubset :: tb
abbrev b_Mod_put : ByteArray := prog_14_method_46_code
abbrev y_Mod_put : MethodName := ⟨"ObsMessagesModel", "put", "(IIJ)V"⟩
abbrev k_Mod_put : Cond := .code y_Mod_put b_Mod_put 5 none
abbrev ws_Mod_put : List Cond := k_Mod_put :: tb
abbrev b_Mod_get : ByteArray := prog_14_method_47_code
abbrev y_Mod_get : MethodName := ⟨"ObsMessagesModel", "get", "(II)J"⟩
abbrev k_Mod_get : Cond := .code y_Mod_get b_Mod_get 3 (some .long)
abbrev ws_Mod_get : List Cond := k_Mod_get :: tb
abbrev b_Mod_lay : ByteArray := prog_14_method_53_code
abbrev y_Mod_lay : MethodName := ⟨"ObsMessagesModel", "lay", "(JI)V"⟩
abbrev k_Mod_lay : Cond := .code y_Mod_lay b_Mod_lay 5 none
abbrev ws_Mod_lay : List Cond := k_Mod_lay :: tb
abbrev b_Mod_keepFirst : ByteArray := prog_14_method_54_code
abbrev y_Mod_keepFirst : MethodName := ⟨"ObsMessagesModel", "keepFirst", "()V"⟩
abbrev k_Mod_keepFirst : Cond := .code y_Mod_keepFirst b_Mod_keepFirst 2 none
abbrev ws_Mod_keepFirst : List Cond := k_Mod_keepFirst :: tb
abbrev b_Mod_isLike : ByteArray := prog_14_method_55_code
abbrev y_Mod_isLike : MethodName := ⟨"ObsMessagesModel", "isLike", "(I)Z"⟩
abbrev k_Mod_isLike : Cond := .code y_Mod_isLike b_Mod_isLike 3 (some .boolean)
abbrev ws_Mod_isLike : List Cond := k_Mod_isLike :: tb
abbrev b_Mod_compare : ByteArray := prog_14_method_56_code
abbrev y_Mod_compare : MethodName := ⟨"ObsMessagesModel", "compare", "(I)V"⟩
abbrev k_Mod_compare : Cond := .code y_Mod_compare b_Mod_compare 4 none
abbrev ws_Mod_compare : List Cond := k_Mod_compare :: tb
abbrev b_Mod_layPacked : ByteArray := prog_14_method_57_code
abbrev y_Mod_layPacked : MethodName := ⟨"ObsMessagesModel", "layPacked", "(II)V"⟩
abbrev k_Mod_layPacked : Cond := .code y_Mod_layPacked b_Mod_layPacked 14 none
abbrev ws_Mod_layPacked : List Cond := k_Mod_layPacked :: tb
abbrev b_Mod_byteAt : ByteArray := prog_14_method_59_code
abbrev y_Mod_byteAt : MethodName := ⟨"ObsMessagesModel", "byteAt", "(I)I"⟩
abbrev k_Mod_byteAt : Cond := .code y_Mod_byteAt b_Mod_byteAt 4 (some .int)
abbrev ws_Mod_byteAt : List Cond := k_Mod_byteAt :: tb
abbrev b_Mod_feed : ByteArray := prog_14_method_60_code
abbrev y_Mod_feed : MethodName := ⟨"ObsMessagesModel", "feed", "(II)I"⟩
abbrev k_Mod_feed : Cond := .code y_Mod_feed b_Mod_feed 4 (some .int)
abbrev ws_Mod_feed : List Cond := k_Mod_feed :: tb
abbrev b_Mod_unpack : ByteArray := prog_14_method_61_code
abbrev y_Mod_unpack : MethodName := ⟨"ObsMessagesModel", "unpack", "(I)Z"⟩
abbrev k_Mod_unpack : Cond := .code y_Mod_unpack b_Mod_unpack 5 (some .boolean)
abbrev ws_Mod_unpack : List Cond := k_Mod_unpack :: tb
abbrev b_Mod_point : ByteArray := prog_14_method_63_code
abbrev y_Mod_point : MethodName := ⟨"ObsMessagesModel", "point", "(IJ)V"⟩
abbrev k_Mod_point : Cond := .code y_Mod_point b_Mod_point 4 none
abbrev ws_Mod_point : List Cond := k_Mod_point :: tb
abbrev b_Mod_inOrder : ByteArray := prog_14_method_64_code
abbrev y_Mod_inOrder : MethodName := ⟨"ObsMessagesModel", "inOrder", "(I)I"⟩
abbrev k_Mod_inOrder : Cond := .code y_Mod_inOrder b_Mod_inOrder 1 (some .int)
abbrev ws_Mod_inOrder : List Cond := k_Mod_inOrder :: tb
abbrev b_Mod_length : ByteArray := prog_14_method_65_code
abbrev y_Mod_length : MethodName := ⟨"ObsMessagesModel", "length", "(J)I"⟩
abbrev k_Mod_length : Cond := .code y_Mod_length b_Mod_length 5 (some .int)
abbrev ws_Mod_length : List Cond := k_Mod_length :: tb
abbrev b_Mod_pack : ByteArray := prog_14_method_66_code
abbrev y_Mod_pack : MethodName := ⟨"ObsMessagesModel", "pack", "(I)I"⟩
abbrev k_Mod_pack : Cond := .code y_Mod_pack b_Mod_pack 15 (some .int)
abbrev ws_Mod_pack : List Cond := k_Mod_pack :: tb
abbrev b_Mod_packedAt : ByteArray := prog_14_method_67_code
abbrev y_Mod_packedAt : MethodName := ⟨"ObsMessagesModel", "packedAt", "(I)J"⟩
abbrev k_Mod_packedAt : Cond := .code y_Mod_packedAt b_Mod_packedAt 2 (some .long)
abbrev ws_Mod_packedAt : List Cond := k_Mod_packedAt :: tb
abbrev b_Mod_group : ByteArray := prog_14_method_68_code
abbrev y_Mod_group : MethodName := ⟨"ObsMessagesModel", "group", "(I)I"⟩
abbrev k_Mod_group : Cond := .code y_Mod_group b_Mod_group 2 (some .int)
abbrev ws_Mod_group : List Cond := k_Mod_group :: tb
abbrev b_Mod_lookElement : ByteArray := prog_14_method_23_code
abbrev y_Mod_lookElement : MethodName := ⟨"ObsMessagesModel", "lookElement", "(IIZ)V"⟩
abbrev k_Mod_lookElement : Cond := .code y_Mod_lookElement b_Mod_lookElement 5 none
abbrev ws_Mod_lookElement : List Cond := k_Mod_lookElement :: tb
abbrev b_Mod_look : ByteArray := prog_14_method_22_code
abbrev y_Mod_look : MethodName := ⟨"ObsMessagesModel", "look", "(I)V"⟩
abbrev k_Mod_look : Cond := .code y_Mod_look b_Mod_look 8 none
abbrev ws_Mod_look : List Cond := k_Mod_look :: tb
abbrev b_Mod_compileAll : ByteArray := prog_14_method_27_code
abbrev y_Mod_compileAll : MethodName := ⟨"ObsMessagesModel", "compileAll", "()V"⟩
abbrev k_Mod_compileAll : Cond := .code y_Mod_compileAll b_Mod_compileAll 2 none
abbrev ws_Mod_compileAll : List Cond := k_Mod_compileAll :: tb
abbrev b_Mod_compile : ByteArray := prog_14_method_28_code
abbrev y_Mod_compile : MethodName := ⟨"ObsMessagesModel", "compile", "()I"⟩
abbrev k_Mod_compile : Cond := .code y_Mod_compile b_Mod_compile 1 (some .int)
abbrev ws_Mod_compile : List Cond := k_Mod_compile :: tb
abbrev b_Mod_fields : ByteArray := prog_14_method_48_code
abbrev y_Mod_fields : MethodName := ⟨"ObsMessagesModel", "fields", "(I)I"⟩
abbrev k_Mod_fields : Cond := .code y_Mod_fields b_Mod_fields 2 (some .int)
abbrev ws_Mod_fields : List Cond := k_Mod_fields :: tb
abbrev b_Mod_ask : ByteArray := prog_14_method_49_code
abbrev y_Mod_ask : MethodName := ⟨"ObsMessagesModel", "ask", "(I)I"⟩
abbrev k_Mod_ask : Cond := .code y_Mod_ask b_Mod_ask 5 (some .int)
abbrev ws_Mod_ask : List Cond := k_Mod_ask :: tb
abbrev b_Mod_field : ByteArray := prog_14_method_50_code
abbrev y_Mod_field : MethodName := ⟨"ObsMessagesModel", "field", "(III)I"⟩
abbrev k_Mod_field : Cond := .code y_Mod_field b_Mod_field 4 (some .int)
abbrev ws_Mod_field : List Cond := k_Mod_field :: tb
abbrev b_Mod_reference : ByteArray := prog_14_method_51_code
abbrev y_Mod_reference : MethodName := ⟨"ObsMessagesModel", "reference", "(II)J"⟩
abbrev k_Mod_reference : Cond := .code y_Mod_reference b_Mod_reference 3 (some .long)
abbrev ws_Mod_reference : List Cond := k_Mod_reference :: tb
abbrev b_Mod_find : ByteArray := prog_14_method_52_code
abbrev y_Mod_find : MethodName := ⟨"ObsMessagesModel", "find", "(IIII)I"⟩
abbrev k_Mod_find : Cond := .code y_Mod_find b_Mod_find 8 (some .int)
abbrev ws_Mod_find : List Cond := k_Mod_find :: tb
abbrev b_Mod_write : ByteArray := prog_14_method_58_code
abbrev y_Mod_write : MethodName := ⟨"ObsMessagesModel", "write", "(IZ)I"⟩
abbrev k_Mod_write : Cond := .code y_Mod_write b_Mod_write 5 (some .int)
abbrev ws_Mod_write : List Cond := k_Mod_write :: tb
abbrev b_Mod_read : ByteArray := prog_14_method_62_code
abbrev y_Mod_read : MethodName := ⟨"ObsMessagesModel", "read", "()I"⟩
abbrev k_Mod_read : Cond := .code y_Mod_read b_Mod_read 4 (some .int)
abbrev ws_Mod_read : List Cond := k_Mod_read :: tb
def strW : List (String × Nat × String) := [("ObsMessages", 96, "no such entry"), ("ObsMessages", 111, "no such version"), ("ObsMessages", 126, "no such list or descriptor"), ("ObsMessages", 133, "no room"), ("ObsMessages", 139, "no such list"), ("ObsMessages", 148, "the template has a fault"), ("ObsMessages", 159, "no such subset or value"), ("ObsMessages", 169, "no such subset"), ("ObsMessages", 184, "the walk has a fault"), ("ObsMessages", 221, "n is not 1 .. 8"), ("ObsMessages", 229, "a fault"), ("ObsMessages", 281, "no such point"), ("ObsMessages", 287, "no such number"), ("ObsMessages", 292, "bits are not 1 .. 31"), ("ObsMessages", 297, "all points are MISSING")]
def ncW : List (String × String) := [("java/lang/IllegalArgumentException", "java/lang/IllegalStateException"), ("java/lang/IllegalArgumentException", "java/lang/IndexOutOfBoundsException"), ("java/lang/IllegalStateException", "java/lang/IllegalArgumentException"), ("java/lang/IllegalStateException", "java/lang/IndexOutOfBoundsException"), ("java/lang/IndexOutOfBoundsException", "java/lang/IllegalArgumentException"), ("java/lang/IndexOutOfBoundsException", "java/lang/IllegalStateException")]
def ckW : List Cond := [.castable "java/lang/IllegalArgumentException" "java/lang/IllegalArgumentException", .castable "java/lang/IllegalStateException" "java/lang/IllegalStateException", .castable "java/lang/IndexOutOfBoundsException" "java/lang/IndexOutOfBoundsException", .declares ⟨"java/lang/RuntimeException", "<init>", "(Ljava/lang/String;)V"⟩, .declares ⟨"java/lang/Exception", "<init>", "(Ljava/lang/String;)V"⟩, .declares ⟨"java/lang/Throwable", "<init>", "(Ljava/lang/String;)V"⟩]
theorem ck_1 : Cond.castable "java/lang/IllegalArgumentException" "java/lang/IllegalArgumentException" ∈ ckW := List.mem_of_getElem? (i := 0) rfl
theorem ck_2 : Cond.castable "java/lang/IllegalStateException" "java/lang/IllegalStateException" ∈ ckW := List.mem_of_getElem? (i := 1) rfl
theorem ck_3 : Cond.castable "java/lang/IndexOutOfBoundsException" "java/lang/IndexOutOfBoundsException" ∈ ckW := List.mem_of_getElem? (i := 2) rfl
theorem sq_96 : ("ObsMessages", 96, "no such entry") ∈ strW := List.mem_of_getElem? (i := 0) rfl
theorem sq_111 : ("ObsMessages", 111, "no such version") ∈ strW := List.mem_of_getElem? (i := 1) rfl
theorem sq_126 : ("ObsMessages", 126, "no such list or descriptor") ∈ strW := List.mem_of_getElem? (i := 2) rfl
theorem sq_133 : ("ObsMessages", 133, "no room") ∈ strW := List.mem_of_getElem? (i := 3) rfl
theorem sq_139 : ("ObsMessages", 139, "no such list") ∈ strW := List.mem_of_getElem? (i := 4) rfl
theorem sq_148 : ("ObsMessages", 148, "the template has a fault") ∈ strW := List.mem_of_getElem? (i := 5) rfl
theorem sq_159 : ("ObsMessages", 159, "no such subset or value") ∈ strW := List.mem_of_getElem? (i := 6) rfl
theorem sq_169 : ("ObsMessages", 169, "no such subset") ∈ strW := List.mem_of_getElem? (i := 7) rfl
theorem sq_184 : ("ObsMessages", 184, "the walk has a fault") ∈ strW := List.mem_of_getElem? (i := 8) rfl
theorem sq_221 : ("ObsMessages", 221, "n is not 1 .. 8") ∈ strW := List.mem_of_getElem? (i := 9) rfl
theorem sq_229 : ("ObsMessages", 229, "a fault") ∈ strW := List.mem_of_getElem? (i := 10) rfl
theorem sq_281 : ("ObsMessages", 281, "no such point") ∈ strW := List.mem_of_getElem? (i := 11) rfl
theorem sq_287 : ("ObsMessages", 287, "no such number") ∈ strW := List.mem_of_getElem? (i := 12) rfl
theorem sq_292 : ("ObsMessages", 292, "bits are not 1 .. 31") ∈ strW := List.mem_of_getElem? (i := 13) rfl
theorem sq_297 : ("ObsMessages", 297, "all points are MISSING") ∈ strW := List.mem_of_getElem? (i := 14) rfl
def nestW : List Cond := [(Cond.methodLinkNest "ObsMessages" (9 : Nat) ({ cls := "ObsMessages$Tables", name := "<init>", desc := "()V" } : MethodName) "ObsMessages"), (Cond.methodLinkNest "ObsMessages$Walk" (11 : Nat) ({ cls := "ObsMessages$Fields", name := "<init>", desc := "()V" } : MethodName) "ObsMessages"), (Cond.methodLinkNest "ObsMessages$Walk" (20 : Nat) ({ cls := "ObsMessages$Loops", name := "<init>", desc := "()V" } : MethodName) "ObsMessages"), (Cond.methodLinkNest "ObsMessages" (36 : Nat) ({ cls := "ObsMessages$Writer", name := "<init>", desc := "()V" } : MethodName) "ObsMessages"), (Cond.methodLinkNest "ObsMessages$Fields" (44 : Nat) ({ cls := "ObsMessages", name := "allOnes", desc := "(I)J" } : MethodName) "ObsMessages"), (Cond.methodLinkNest "ObsMessages$Writer" (68 : Nat) ({ cls := "ObsMessages", name := "allOnes", desc := "(I)J" } : MethodName) "ObsMessages"), (Cond.methodLinkNest "ObsMessages$Writer" (91 : Nat) ({ cls := "ObsMessages", name := "bitLength", desc := "(J)I" } : MethodName) "ObsMessages"), (Cond.methodLinkNest "ObsMessages$Reader" (141 : Nat) ({ cls := "ObsMessages", name := "allOnes", desc := "(I)J" } : MethodName) "ObsMessages"), (Cond.methodLinkNest "ObsMessages$Reader" (107 : Nat) ({ cls := "ObsMessages", name := "placeOf", desc := "(II)I" } : MethodName) "ObsMessages"), (Cond.methodLinkNest "ObsMessages$Grid" (59 : Nat) ({ cls := "ObsMessages", name := "bitLength", desc := "(J)I" } : MethodName) "ObsMessages")]
theorem nw_0 : (Cond.methodLinkNest "ObsMessages" (9 : Nat) ({ cls := "ObsMessages$Tables", name := "<init>", desc := "()V" } : MethodName) "ObsMessages") ∈ nestW := List.mem_of_getElem? (i := 0) rfl
theorem nw_1 : (Cond.methodLinkNest "ObsMessages$Walk" (11 : Nat) ({ cls := "ObsMessages$Fields", name := "<init>", desc := "()V" } : MethodName) "ObsMessages") ∈ nestW := List.mem_of_getElem? (i := 1) rfl
theorem nw_2 : (Cond.methodLinkNest "ObsMessages$Walk" (20 : Nat) ({ cls := "ObsMessages$Loops", name := "<init>", desc := "()V" } : MethodName) "ObsMessages") ∈ nestW := List.mem_of_getElem? (i := 2) rfl
theorem nw_3 : (Cond.methodLinkNest "ObsMessages" (36 : Nat) ({ cls := "ObsMessages$Writer", name := "<init>", desc := "()V" } : MethodName) "ObsMessages") ∈ nestW := List.mem_of_getElem? (i := 3) rfl
theorem nw_4 : (Cond.methodLinkNest "ObsMessages$Fields" (44 : Nat) ({ cls := "ObsMessages", name := "allOnes", desc := "(I)J" } : MethodName) "ObsMessages") ∈ nestW := List.mem_of_getElem? (i := 4) rfl
theorem nw_5 : (Cond.methodLinkNest "ObsMessages$Writer" (68 : Nat) ({ cls := "ObsMessages", name := "allOnes", desc := "(I)J" } : MethodName) "ObsMessages") ∈ nestW := List.mem_of_getElem? (i := 5) rfl
theorem nw_6 : (Cond.methodLinkNest "ObsMessages$Writer" (91 : Nat) ({ cls := "ObsMessages", name := "bitLength", desc := "(J)I" } : MethodName) "ObsMessages") ∈ nestW := List.mem_of_getElem? (i := 6) rfl
theorem nw_7 : (Cond.methodLinkNest "ObsMessages$Reader" (141 : Nat) ({ cls := "ObsMessages", name := "allOnes", desc := "(I)J" } : MethodName) "ObsMessages") ∈ nestW := List.mem_of_getElem? (i := 7) rfl
theorem nw_8 : (Cond.methodLinkNest "ObsMessages$Reader" (107 : Nat) ({ cls := "ObsMessages", name := "placeOf", desc := "(II)I" } : MethodName) "ObsMessages") ∈ nestW := List.mem_of_getElem? (i := 8) rfl
theorem nw_9 : (Cond.methodLinkNest "ObsMessages$Grid" (59 : Nat) ({ cls := "ObsMessages", name := "bitLength", desc := "(J)I" } : MethodName) "ObsMessages") ∈ nestW := List.mem_of_getElem? (i := 9) rfl
theorem nestW_tab : ∀ w ∈ nestW, w.onTables = true := by
  intro w hw
  simp only [nestW, List.mem_cons, List.not_mem_nil, or_false] at hw
  rcases hw with rfl | rfl | rfl | rfl | rfl | rfl | rfl | rfl | rfl | rfl <;> rfl
theorem nestW_warm {s U : State} (hW : s.WarmedH U.vm) : ∀ w ∈ nestW, va_Nw w s → va_Nw w U := by
  intro w hw h
  simp only [nestW, List.mem_cons, List.not_mem_nil, or_false] at hw
  rcases hw with rfl | rfl | rfl | rfl | rfl | rfl | rfl | rfl | rfl | rfl <;> exact va_Nw.warmM hW h
theorem tw_1 : (Cond.initialized "ObsMessages") ∈ tb := tb_memk tpc_1 1 rfl rfl
theorem tw_2 : (Cond.initialized "ObsMessages$Tables") ∈ tb := tb_memk tpc_1 2 rfl rfl
theorem tw_3 : (Cond.initialized "ObsMessages$Program") ∈ tb := tb_memk tpc_1 3 rfl rfl
theorem tw_4 : (Cond.initialized "ObsMessages$Walk") ∈ tb := tb_memk tpc_1 4 rfl rfl
theorem tw_5 : (Cond.initialized "ObsMessages$Fields") ∈ tb := tb_memk tpc_1 5 rfl rfl
theorem tw_6 : (Cond.initialized "ObsMessages$Loops") ∈ tb := tb_memk tpc_1 6 rfl rfl
theorem tw_7 : (Cond.initialized "ObsMessages$Writer") ∈ tb := tb_memk tpc_1 7 rfl rfl
theorem tw_8 : (Cond.initialized "ObsMessages$Bits") ∈ tb := tb_memk tpc_1 8 rfl rfl
theorem tw_9 : (Cond.initialized "ObsMessages$Reader") ∈ tb := tb_memk tpc_1 9 rfl rfl
theorem tw_10 : (Cond.initialized "ObsMessages$Grid") ∈ tb := tb_memk tpc_1 10 rfl rfl
theorem tw_11 : (Cond.initialized "java/util/Arrays") ∈ tb := tb_memk tpc_1 11 rfl rfl
theorem tw_12 : (Cond.initialized "ObsMessagesModel") ∈ tb := tb_memk tpc_1 12 rfl rfl
theorem tw_13 : (Cond.initialized "ObsMessages$Descriptors") ∈ tb := tb_memk tpc_1 13 rfl rfl
theorem tw_19 : (Cond.initialized "java/lang/System") ∈ tb := tb_memk tpc_1 19 rfl rfl
theorem tw_21 : (Cond.initialized "java/lang/Math") ∈ tb := tb_memk tpc_1 21 rfl rfl
theorem tw_38 : (Cond.fieldLink "ObsMessages$Program" (137 : Nat) "ObsMessages$Tables" "scales" "[I") ∈ tb := tb_memk tpc_1 38 rfl rfl
theorem tw_39 : (Cond.fieldLink "ObsMessages$Walk" (200 : Nat) "ObsMessages$Tables" "scales" "[I") ∈ tb := tb_memk tpc_1 39 rfl rfl
theorem tw_42 : (Cond.fieldLink "ObsMessages$Walk" (203 : Nat) "ObsMessages$Tables" "references" "[I") ∈ tb := tb_memk tpc_1 42 rfl rfl
theorem tw_43 : (Cond.fieldLink "ObsMessages$Tables" (20 : Nat) "ObsMessages$Tables" "widths" "[I") ∈ tb := tb_memk tpc_1 43 rfl rfl
theorem tw_44 : (Cond.fieldLink "ObsMessages" (108 : Nat) "ObsMessages$Tables" "widths" "[I") ∈ tb := tb_memk tpc_1 44 rfl rfl
theorem tw_45 : (Cond.fieldLink "ObsMessages$Program" (131 : Nat) "ObsMessages$Tables" "widths" "[I") ∈ tb := tb_memk tpc_1 45 rfl rfl
theorem tw_46 : (Cond.fieldLink "ObsMessages$Walk" (197 : Nat) "ObsMessages$Tables" "widths" "[I") ∈ tb := tb_memk tpc_1 46 rfl rfl
theorem tw_47 : (Cond.fieldLink "ObsMessages$Tables" (23 : Nat) "ObsMessages$Tables" "listed" "[I") ∈ tb := tb_memk tpc_1 47 rfl rfl
theorem tw_48 : (Cond.fieldLink "ObsMessages$Program" (90 : Nat) "ObsMessages$Tables" "listed" "[I") ∈ tb := tb_memk tpc_1 48 rfl rfl
theorem tw_49 : (Cond.fieldLink "ObsMessages$Tables" (26 : Nat) "ObsMessages$Tables" "sizes" "[I") ∈ tb := tb_memk tpc_1 49 rfl rfl
theorem tw_51 : (Cond.fieldLink "ObsMessages$Program" (149 : Nat) "ObsMessages$Tables" "sizes" "[I") ∈ tb := tb_memk tpc_1 51 rfl rfl
theorem tw_52 : (Cond.fieldLink "ObsMessages$Tables" (29 : Nat) "ObsMessages$Tables" "versionInUse" "I") ∈ tb := tb_memk tpc_1 52 rfl rfl
theorem tw_74 : (Cond.fieldLink "ObsMessages$Program" (11 : Nat) "ObsMessages$Program" "descriptors" "[I") ∈ tb := tb_memk tpc_1 74 rfl rfl
theorem tw_75 : (Cond.fieldLink "ObsMessages$Walk" (150 : Nat) "ObsMessages$Program" "descriptors" "[I") ∈ tb := tb_memk tpc_1 75 rfl rfl
theorem tw_76 : (Cond.fieldLink "ObsMessages$Program" (15 : Nat) "ObsMessages$Program" "bodyEnds" "[I") ∈ tb := tb_memk tpc_1 76 rfl rfl
theorem tw_77 : (Cond.fieldLink "ObsMessages$Walk" (169 : Nat) "ObsMessages$Program" "bodyEnds" "[I") ∈ tb := tb_memk tpc_1 77 rfl rfl
theorem tw_78 : (Cond.fieldLink "ObsMessages$Program" (42 : Nat) "ObsMessages$Program" "size" "I") ∈ tb := tb_memk tpc_1 78 rfl rfl
theorem tw_79 : (Cond.fieldLink "ObsMessages$Walk" (126 : Nat) "ObsMessages$Program" "size" "I") ∈ tb := tb_memk tpc_1 79 rfl rfl
theorem tw_81 : (Cond.fieldLink "ObsMessages$Program" (46 : Nat) "ObsMessages$Program" "fault" "I") ∈ tb := tb_memk tpc_1 81 rfl rfl
theorem tw_82 : (Cond.fieldLink "ObsMessages" (322 : Nat) "ObsMessages$Program" "fault" "I") ∈ tb := tb_memk tpc_1 82 rfl rfl
theorem tw_83 : (Cond.fieldLink "ObsMessages$Program" (49 : Nat) "ObsMessages$Program" "place" "I") ∈ tb := tb_memk tpc_1 83 rfl rfl
theorem tw_84 : (Cond.fieldLink "ObsMessages" (323 : Nat) "ObsMessages$Program" "place" "I") ∈ tb := tb_memk tpc_1 84 rfl rfl
theorem tw_85 : (Cond.fieldLink "ObsMessages$Program" (38 : Nat) "ObsMessages$Program" "tables" "LObsMessages$Tables;") ∈ tb := tb_memk tpc_1 85 rfl rfl
theorem tw_86 : (Cond.fieldLink "ObsMessages$Program" (20 : Nat) "ObsMessages$Program" "settings" "[I") ∈ tb := tb_memk tpc_1 86 rfl rfl
theorem tw_87 : (Cond.fieldLink "ObsMessages$Program" (23 : Nat) "ObsMessages$Program" "openAts" "[I") ∈ tb := tb_memk tpc_1 87 rfl rfl
theorem tw_88 : (Cond.fieldLink "ObsMessages$Program" (26 : Nat) "ObsMessages$Program" "openEnds" "[I") ∈ tb := tb_memk tpc_1 88 rfl rfl
theorem tw_89 : (Cond.fieldLink "ObsMessages$Program" (29 : Nat) "ObsMessages$Program" "openSequences" "[I") ∈ tb := tb_memk tpc_1 89 rfl rfl
theorem tw_90 : (Cond.fieldLink "ObsMessages$Program" (32 : Nat) "ObsMessages$Program" "openRepeats" "[I") ∈ tb := tb_memk tpc_1 90 rfl rfl
theorem tw_91 : (Cond.fieldLink "ObsMessages$Program" (35 : Nat) "ObsMessages$Program" "foundSettings" "[I") ∈ tb := tb_memk tpc_1 91 rfl rfl
theorem tw_92 : (Cond.fieldLink "ObsMessages$Program" (52 : Nat) "ObsMessages$Program" "open" "I") ∈ tb := tb_memk tpc_1 92 rfl rfl
theorem tw_93 : (Cond.fieldLink "ObsMessages$Program" (55 : Nat) "ObsMessages$Program" "templatePlace" "I") ∈ tb := tb_memk tpc_1 93 rfl rfl
theorem tw_135 : (Cond.fieldLink "ObsMessages$Fields" (9 : Nat) "ObsMessages$Fields" "kinds" "[I") ∈ tb := tb_memk tpc_1 135 rfl rfl
theorem tw_136 : (Cond.fieldLink "ObsMessages$Walk" (138 : Nat) "ObsMessages$Fields" "kinds" "[I") ∈ tb := tb_memk tpc_1 136 rfl rfl
theorem tw_137 : (Cond.fieldLink "ObsMessages$Reader" (134 : Nat) "ObsMessages$Fields" "kinds" "[I") ∈ tb := tb_memk tpc_1 137 rfl rfl
theorem tw_138 : (Cond.fieldLink "ObsMessages" (201 : Nat) "ObsMessages$Fields" "kinds" "[I") ∈ tb := tb_memk tpc_1 138 rfl rfl
theorem tw_139 : (Cond.fieldLink "ObsMessages$Fields" (15 : Nat) "ObsMessages$Fields" "codes" "[I") ∈ tb := tb_memk tpc_1 139 rfl rfl
theorem tw_140 : (Cond.fieldLink "ObsMessages" (204 : Nat) "ObsMessages$Fields" "codes" "[I") ∈ tb := tb_memk tpc_1 140 rfl rfl
theorem tw_141 : (Cond.fieldLink "ObsMessages$Walk" (212 : Nat) "ObsMessages$Fields" "codes" "[I") ∈ tb := tb_memk tpc_1 141 rfl rfl
theorem tw_142 : (Cond.fieldLink "ObsMessages$Fields" (18 : Nat) "ObsMessages$Fields" "widths" "[I") ∈ tb := tb_memk tpc_1 142 rfl rfl
theorem tw_143 : (Cond.fieldLink "ObsMessages$Writer" (44 : Nat) "ObsMessages$Fields" "widths" "[I") ∈ tb := tb_memk tpc_1 143 rfl rfl
theorem tw_144 : (Cond.fieldLink "ObsMessages$Reader" (111 : Nat) "ObsMessages$Fields" "widths" "[I") ∈ tb := tb_memk tpc_1 144 rfl rfl
theorem tw_145 : (Cond.fieldLink "ObsMessages" (207 : Nat) "ObsMessages$Fields" "widths" "[I") ∈ tb := tb_memk tpc_1 145 rfl rfl
theorem tw_146 : (Cond.fieldLink "ObsMessages$Walk" (215 : Nat) "ObsMessages$Fields" "widths" "[I") ∈ tb := tb_memk tpc_1 146 rfl rfl
theorem tw_148 : (Cond.fieldLink "ObsMessages" (208 : Nat) "ObsMessages$Fields" "scales" "[I") ∈ tb := tb_memk tpc_1 148 rfl rfl
theorem tw_149 : (Cond.fieldLink "ObsMessages$Walk" (216 : Nat) "ObsMessages$Fields" "scales" "[I") ∈ tb := tb_memk tpc_1 149 rfl rfl
theorem tw_150 : (Cond.fieldLink "ObsMessages$Fields" (24 : Nat) "ObsMessages$Fields" "references" "[J") ∈ tb := tb_memk tpc_1 150 rfl rfl
theorem tw_151 : (Cond.fieldLink "ObsMessages$Reader" (144 : Nat) "ObsMessages$Fields" "references" "[J") ∈ tb := tb_memk tpc_1 151 rfl rfl
theorem tw_152 : (Cond.fieldLink "ObsMessages" (215 : Nat) "ObsMessages$Fields" "references" "[J") ∈ tb := tb_memk tpc_1 152 rfl rfl
theorem tw_153 : (Cond.fieldLink "ObsMessages$Walk" (217 : Nat) "ObsMessages$Fields" "references" "[J") ∈ tb := tb_memk tpc_1 153 rfl rfl
theorem tw_155 : (Cond.fieldLink "ObsMessages$Walk" (147 : Nat) "ObsMessages$Fields" "targets" "[I") ∈ tb := tb_memk tpc_1 155 rfl rfl
theorem tw_156 : (Cond.fieldLink "ObsMessages" (209 : Nat) "ObsMessages$Fields" "targets" "[I") ∈ tb := tb_memk tpc_1 156 rfl rfl
theorem tw_157 : (Cond.fieldLink "ObsMessages$Fields" (31 : Nat) "ObsMessages$Fields" "repetitions" "[I") ∈ tb := tb_memk tpc_1 157 rfl rfl
theorem tw_158 : (Cond.fieldLink "ObsMessages" (212 : Nat) "ObsMessages$Fields" "repetitions" "[I") ∈ tb := tb_memk tpc_1 158 rfl rfl
theorem tw_159 : (Cond.fieldLink "ObsMessages$Walk" (220 : Nat) "ObsMessages$Fields" "repetitions" "[I") ∈ tb := tb_memk tpc_1 159 rfl rfl
theorem tw_160 : (Cond.fieldLink "ObsMessages$Fields" (34 : Nat) "ObsMessages$Fields" "count" "I") ∈ tb := tb_memk tpc_1 160 rfl rfl
theorem tw_161 : (Cond.fieldLink "ObsMessages$Writer" (34 : Nat) "ObsMessages$Fields" "count" "I") ∈ tb := tb_memk tpc_1 161 rfl rfl
theorem tw_162 : (Cond.fieldLink "ObsMessages$Walk" (68 : Nat) "ObsMessages$Fields" "count" "I") ∈ tb := tb_memk tpc_1 162 rfl rfl
theorem tw_163 : (Cond.fieldLink "ObsMessages$Reader" (101 : Nat) "ObsMessages$Fields" "count" "I") ∈ tb := tb_memk tpc_1 163 rfl rfl
theorem tw_164 : (Cond.fieldLink "ObsMessages" (190 : Nat) "ObsMessages$Fields" "count" "I") ∈ tb := tb_memk tpc_1 164 rfl rfl
theorem tw_189 : (Cond.fieldLink "ObsMessages$Loops" (11 : Nat) "ObsMessages$Loops" "starts" "[I") ∈ tb := tb_memk tpc_1 189 rfl rfl
theorem tw_190 : (Cond.fieldLink "ObsMessages$Loops" (17 : Nat) "ObsMessages$Loops" "ends" "[I") ∈ tb := tb_memk tpc_1 190 rfl rfl
theorem tw_191 : (Cond.fieldLink "ObsMessages$Loops" (20 : Nat) "ObsMessages$Loops" "times" "[I") ∈ tb := tb_memk tpc_1 191 rfl rfl
theorem tw_192 : (Cond.fieldLink "ObsMessages$Loops" (23 : Nat) "ObsMessages$Loops" "done" "[I") ∈ tb := tb_memk tpc_1 192 rfl rfl
theorem tw_193 : (Cond.fieldLink "ObsMessages$Loops" (26 : Nat) "ObsMessages$Loops" "open" "I") ∈ tb := tb_memk tpc_1 193 rfl rfl
theorem tw_205 : (Cond.fieldLink "ObsMessages$Walk" (12 : Nat) "ObsMessages$Walk" "fields" "LObsMessages$Fields;") ∈ tb := tb_memk tpc_1 205 rfl rfl
theorem tw_206 : (Cond.fieldLink "ObsMessages$Writer" (30 : Nat) "ObsMessages$Walk" "fields" "LObsMessages$Fields;") ∈ tb := tb_memk tpc_1 206 rfl rfl
theorem tw_207 : (Cond.fieldLink "ObsMessages$Reader" (76 : Nat) "ObsMessages$Walk" "fields" "LObsMessages$Fields;") ∈ tb := tb_memk tpc_1 207 rfl rfl
theorem tw_208 : (Cond.fieldLink "ObsMessages" (186 : Nat) "ObsMessages$Walk" "fields" "LObsMessages$Fields;") ∈ tb := tb_memk tpc_1 208 rfl rfl
theorem tw_209 : (Cond.fieldLink "ObsMessages$Walk" (56 : Nat) "ObsMessages$Walk" "fault" "I") ∈ tb := tb_memk tpc_1 209 rfl rfl
theorem tw_210 : (Cond.fieldLink "ObsMessages$Reader" (100 : Nat) "ObsMessages$Walk" "fault" "I") ∈ tb := tb_memk tpc_1 210 rfl rfl
theorem tw_211 : (Cond.fieldLink "ObsMessages" (175 : Nat) "ObsMessages$Walk" "fault" "I") ∈ tb := tb_memk tpc_1 211 rfl rfl
theorem tw_212 : (Cond.fieldLink "ObsMessages$Walk" (71 : Nat) "ObsMessages$Walk" "place" "I") ∈ tb := tb_memk tpc_1 212 rfl rfl
theorem tw_213 : (Cond.fieldLink "ObsMessages$Reader" (106 : Nat) "ObsMessages$Walk" "place" "I") ∈ tb := tb_memk tpc_1 213 rfl rfl
theorem tw_214 : (Cond.fieldLink "ObsMessages" (178 : Nat) "ObsMessages$Walk" "place" "I") ∈ tb := tb_memk tpc_1 214 rfl rfl
theorem tw_215 : (Cond.fieldLink "ObsMessages$Walk" (37 : Nat) "ObsMessages$Walk" "tables" "LObsMessages$Tables;") ∈ tb := tb_memk tpc_1 215 rfl rfl
theorem tw_216 : (Cond.fieldLink "ObsMessages$Walk" (41 : Nat) "ObsMessages$Walk" "program" "LObsMessages$Program;") ∈ tb := tb_memk tpc_1 216 rfl rfl
theorem tw_217 : (Cond.fieldLink "ObsMessages$Walk" (21 : Nat) "ObsMessages$Walk" "loops" "LObsMessages$Loops;") ∈ tb := tb_memk tpc_1 217 rfl rfl
theorem tw_218 : (Cond.fieldLink "ObsMessages$Walk" (27 : Nat) "ObsMessages$Walk" "settings" "[I") ∈ tb := tb_memk tpc_1 218 rfl rfl
theorem tw_219 : (Cond.fieldLink "ObsMessages$Walk" (31 : Nat) "ObsMessages$Walk" "elements" "[I") ∈ tb := tb_memk tpc_1 219 rfl rfl
theorem tw_220 : (Cond.fieldLink "ObsMessages$Walk" (83 : Nat) "ObsMessages$Walk" "elementCount" "I") ∈ tb := tb_memk tpc_1 220 rfl rfl
theorem tw_221 : (Cond.fieldLink "ObsMessages$Walk" (34 : Nat) "ObsMessages$Walk" "pointed" "[I") ∈ tb := tb_memk tpc_1 221 rfl rfl
theorem tw_222 : (Cond.fieldLink "ObsMessages$Walk" (86 : Nat) "ObsMessages$Walk" "pointedCount" "I") ∈ tb := tb_memk tpc_1 222 rfl rfl
theorem tw_223 : (Cond.fieldLink "ObsMessages$Walk" (89 : Nat) "ObsMessages$Walk" "nextPointed" "I") ∈ tb := tb_memk tpc_1 223 rfl rfl
theorem tw_224 : (Cond.fieldLink "ObsMessages$Walk" (92 : Nat) "ObsMessages$Walk" "at" "I") ∈ tb := tb_memk tpc_1 224 rfl rfl
theorem tw_225 : (Cond.fieldLink "ObsMessages$Walk" (95 : Nat) "ObsMessages$Walk" "come" "I") ∈ tb := tb_memk tpc_1 225 rfl rfl
theorem tw_226 : (Cond.fieldLink "ObsMessages$Walk" (98 : Nat) "ObsMessages$Walk" "dueKind" "I") ∈ tb := tb_memk tpc_1 226 rfl rfl
theorem tw_227 : (Cond.fieldLink "ObsMessages$Walk" (101 : Nat) "ObsMessages$Walk" "dueCode" "I") ∈ tb := tb_memk tpc_1 227 rfl rfl
theorem tw_228 : (Cond.fieldLink "ObsMessages$Walk" (104 : Nat) "ObsMessages$Walk" "dueBits" "I") ∈ tb := tb_memk tpc_1 228 rfl rfl
theorem tw_229 : (Cond.fieldLink "ObsMessages$Walk" (107 : Nat) "ObsMessages$Walk" "countedEnd" "I") ∈ tb := tb_memk tpc_1 229 rfl rfl
theorem tw_279 : (Cond.fieldLink "ObsMessages$Bits" (7 : Nat) "ObsMessages$Bits" "bytes" "[I") ∈ tb := tb_memk tpc_2 39 rfl rfl
theorem tw_280 : (Cond.fieldLink "ObsMessages$Reader" (35 : Nat) "ObsMessages$Bits" "bytes" "[I") ∈ tb := tb_memk tpc_2 40 rfl rfl
theorem tw_281 : (Cond.fieldLink "ObsMessages$Writer" (65 : Nat) "ObsMessages$Bits" "bytes" "[I") ∈ tb := tb_memk tpc_2 41 rfl rfl
theorem tw_282 : (Cond.fieldLink "ObsMessages" (245 : Nat) "ObsMessages$Bits" "bytes" "[I") ∈ tb := tb_memk tpc_2 42 rfl rfl
theorem tw_283 : (Cond.fieldLink "ObsMessages$Bits" (19 : Nat) "ObsMessages$Bits" "length" "I") ∈ tb := tb_memk tpc_2 43 rfl rfl
theorem tw_284 : (Cond.fieldLink "ObsMessages$Reader" (60 : Nat) "ObsMessages$Bits" "length" "I") ∈ tb := tb_memk tpc_2 44 rfl rfl
theorem tw_285 : (Cond.fieldLink "ObsMessages$Writer" (62 : Nat) "ObsMessages$Bits" "length" "I") ∈ tb := tb_memk tpc_2 45 rfl rfl
theorem tw_291 : (Cond.fieldLink "ObsMessages$Writer" (14 : Nat) "ObsMessages$Writer" "bits" "LObsMessages$Bits;") ∈ tb := tb_memk tpc_2 51 rfl rfl
theorem tw_292 : (Cond.fieldLink "ObsMessages" (238 : Nat) "ObsMessages$Writer" "bits" "LObsMessages$Bits;") ∈ tb := tb_memk tpc_2 52 rfl rfl
theorem tw_306 : (Cond.fieldLink "ObsMessages$Reader" (11 : Nat) "ObsMessages$Reader" "rows" "[[J") ∈ tb := tb_memk tpc_2 66 rfl rfl
theorem tw_308 : (Cond.fieldLink "ObsMessages$Reader" (39 : Nat) "ObsMessages$Reader" "subsets" "I") ∈ tb := tb_memk tpc_2 68 rfl rfl
theorem tw_310 : (Cond.fieldLink "ObsMessages$Reader" (42 : Nat) "ObsMessages$Reader" "packed" "Z") ∈ tb := tb_memk tpc_2 70 rfl rfl
theorem tw_312 : (Cond.fieldLink "ObsMessages$Reader" (20 : Nat) "ObsMessages$Reader" "fault" "I") ∈ tb := tb_memk tpc_2 72 rfl rfl
theorem tw_314 : (Cond.fieldLink "ObsMessages$Reader" (24 : Nat) "ObsMessages$Reader" "place" "I") ∈ tb := tb_memk tpc_2 74 rfl rfl
theorem tw_316 : (Cond.fieldLink "ObsMessages$Reader" (16 : Nat) "ObsMessages$Reader" "tape" "LObsMessages$Bits;") ∈ tb := tb_memk tpc_2 76 rfl rfl
theorem tw_317 : (Cond.fieldLink "ObsMessages$Reader" (46 : Nat) "ObsMessages$Reader" "at" "I") ∈ tb := tb_memk tpc_2 77 rfl rfl
theorem tw_318 : (Cond.fieldLink "ObsMessages$Reader" (49 : Nat) "ObsMessages$Reader" "end" "I") ∈ tb := tb_memk tpc_2 78 rfl rfl
theorem tw_342 : (Cond.constantLong "ObsMessages$Grid" (38 : Nat) (-9000000000000000000 : Int64)) ∈ tb := tb_memk tpc_2 102 rfl rfl
theorem tw_344 : (Cond.static ({ cls := "java/util/Arrays", name := "fill", desc := "([JJ)V" } : MethodName)) ∈ tb := tb_memk tpc_2 104 rfl rfl
theorem tw_345 : (Cond.code ({ cls := "java/util/Arrays", name := "fill", desc := "([JJ)V" } : MethodName) prog_24_method_101_code (5 : Nat) (Option.none : Option FieldType)) ∈ tb := tb_memk tpc_2 105 rfl rfl
theorem tw_346 : (Cond.fieldLink "ObsMessages$Grid" (11 : Nat) "ObsMessages$Grid" "points" "[J") ∈ tb := tb_memk tpc_2 106 rfl rfl
theorem tw_348 : (Cond.fieldLink "ObsMessages$Grid" (15 : Nat) "ObsMessages$Grid" "packed" "[J") ∈ tb := tb_memk tpc_2 108 rfl rfl
theorem tw_349 : (Cond.fieldLink "ObsMessages" (305 : Nat) "ObsMessages$Grid" "packed" "[J") ∈ tb := tb_memk tpc_2 109 rfl rfl
theorem tw_350 : (Cond.fieldLink "ObsMessages$Grid" (18 : Nat) "ObsMessages$Grid" "groupEnds" "[I") ∈ tb := tb_memk tpc_2 110 rfl rfl
theorem tw_351 : (Cond.fieldLink "ObsMessages" (316 : Nat) "ObsMessages$Grid" "groupEnds" "[I") ∈ tb := tb_memk tpc_2 111 rfl rfl
theorem tw_352 : (Cond.fieldLink "ObsMessages$Grid" (78 : Nat) "ObsMessages$Grid" "groupCount" "I") ∈ tb := tb_memk tpc_2 112 rfl rfl
theorem tw_353 : (Cond.fieldLink "ObsMessages" (313 : Nat) "ObsMessages$Grid" "groupCount" "I") ∈ tb := tb_memk tpc_2 113 rfl rfl
theorem tw_354 : (Cond.fieldLink "ObsMessages$Grid" (22 : Nat) "ObsMessages$Grid" "groupBits" "I") ∈ tb := tb_memk tpc_2 114 rfl rfl
theorem tw_355 : (Cond.fieldLink "ObsMessages" (310 : Nat) "ObsMessages$Grid" "groupBits" "I") ∈ tb := tb_memk tpc_2 115 rfl rfl
theorem tw_356 : (Cond.fieldLink "ObsMessages$Grid" (26 : Nat) "ObsMessages$Grid" "codeCount" "I") ∈ tb := tb_memk tpc_2 116 rfl rfl
theorem tw_357 : (Cond.fieldLink "ObsMessages" (307 : Nat) "ObsMessages$Grid" "codeCount" "I") ∈ tb := tb_memk tpc_2 117 rfl rfl
theorem tw_358 : (Cond.fieldLink "ObsMessages$Grid" (29 : Nat) "ObsMessages$Grid" "codes" "[J") ∈ tb := tb_memk tpc_2 118 rfl rfl
theorem tw_359 : (Cond.fieldLink "ObsMessages$Grid" (32 : Nat) "ObsMessages$Grid" "cheapest" "[I") ∈ tb := tb_memk tpc_2 119 rfl rfl
theorem tw_360 : (Cond.fieldLink "ObsMessages$Grid" (35 : Nat) "ObsMessages$Grid" "firstEnds" "[I") ∈ tb := tb_memk tpc_2 120 rfl rfl
theorem tw_381 : (Cond.constantLong "ObsMessages" (71 : Nat) (-9000000000000000000 : Int64)) ∈ tb := tb_memk tpc_2 141 rfl rfl
theorem tw_383 : (Cond.fieldLink "ObsMessages" (10 : Nat) "ObsMessages" "tables" "LObsMessages$Tables;") ∈ tb := tb_memk tpc_2 143 rfl rfl
theorem tw_384 : (Cond.fieldLink "ObsMessages" (21 : Nat) "ObsMessages" "program" "LObsMessages$Program;") ∈ tb := tb_memk tpc_2 144 rfl rfl
theorem tw_385 : (Cond.fieldLink "ObsMessages" (30 : Nat) "ObsMessages" "walk" "LObsMessages$Walk;") ∈ tb := tb_memk tpc_2 145 rfl rfl
theorem tw_386 : (Cond.fieldLink "ObsMessages" (37 : Nat) "ObsMessages" "writer" "LObsMessages$Writer;") ∈ tb := tb_memk tpc_2 146 rfl rfl
theorem tw_387 : (Cond.fieldLink "ObsMessages" (55 : Nat) "ObsMessages" "reader" "LObsMessages$Reader;") ∈ tb := tb_memk tpc_2 147 rfl rfl
theorem tw_388 : (Cond.fieldLink "ObsMessages" (46 : Nat) "ObsMessages" "tape" "LObsMessages$Bits;") ∈ tb := tb_memk tpc_2 148 rfl rfl
theorem tw_389 : (Cond.fieldLink "ObsMessages" (62 : Nat) "ObsMessages" "grid" "LObsMessages$Grid;") ∈ tb := tb_memk tpc_2 149 rfl rfl
theorem tw_390 : (Cond.fieldLink "ObsMessages" (68 : Nat) "ObsMessages" "values" "[[J") ∈ tb := tb_memk tpc_2 150 rfl rfl
theorem tw_391 : (Cond.fieldLink "ObsMessages" (79 : Nat) "ObsMessages" "faultNumber" "I") ∈ tb := tb_memk tpc_2 151 rfl rfl
theorem tw_392 : (Cond.fieldLink "ObsMessages" (83 : Nat) "ObsMessages" "faultPlace" "I") ∈ tb := tb_memk tpc_2 152 rfl rfl
theorem tw_418 : (Cond.methodLink "ObsMessages" (86 : Nat) ({ cls := "ObsMessages$Tables", name := "entryOf", desc := "(II)I" } : MethodName)) ∈ tb := tb_memk tpc_2 178 rfl rfl
theorem tw_419 : (Cond.static ({ cls := "ObsMessages$Tables", name := "entryOf", desc := "(II)I" } : MethodName)) ∈ tb := tb_memk tpc_2 179 rfl rfl
theorem tw_420 : (Cond.code ({ cls := "ObsMessages$Tables", name := "entryOf", desc := "(II)I" } : MethodName) prog_10_method_2_code (2 : Nat) (Option.some FieldType.int)) ∈ tb := tb_memk tpc_2 180 rfl rfl
theorem tw_421 : (Cond.methodLink "ObsMessages$Tables" (33 : Nat) ({ cls := "ObsMessages$Descriptors", name := "isElement", desc := "(I)Z" } : MethodName)) ∈ tb := tb_memk tpc_2 181 rfl rfl
theorem tw_422 : (Cond.static ({ cls := "ObsMessages$Descriptors", name := "isElement", desc := "(I)Z" } : MethodName)) ∈ tb := tb_memk tpc_2 182 rfl rfl
theorem tw_423 : (Cond.code ({ cls := "ObsMessages$Descriptors", name := "isElement", desc := "(I)Z" } : MethodName) prog_3_method_3_code (1 : Nat) (Option.some FieldType.boolean)) ∈ tb := tb_memk tpc_2 183 rfl rfl
theorem tw_424 : (Cond.methodLink "ObsMessages$Tables" (37 : Nat) ({ cls := "ObsMessages$Tables", name := "entryAt", desc := "(II)I" } : MethodName)) ∈ tb := tb_memk tpc_2 184 rfl rfl
theorem tw_425 : (Cond.static ({ cls := "ObsMessages$Tables", name := "entryAt", desc := "(II)I" } : MethodName)) ∈ tb := tb_memk tpc_2 185 rfl rfl
theorem tw_426 : (Cond.code ({ cls := "ObsMessages$Tables", name := "entryAt", desc := "(II)I" } : MethodName) prog_10_method_12_code (2 : Nat) (Option.some FieldType.int)) ∈ tb := tb_memk tpc_2 186 rfl rfl
theorem tw_435 : (Cond.methodLink "ObsMessages" (195 : Nat) ({ cls := "ObsMessages", name := "walkOver", desc := "(I)Z" } : MethodName)) ∈ tb := tb_memk tpc_2 195 rfl rfl
theorem tw_437 : (Cond.instanceMethod ({ cls := "ObsMessages", name := "walkOver", desc := "(I)Z" } : MethodName)) ∈ tb := tb_memk tpc_2 197 rfl rfl
theorem tw_438 : (Cond.code ({ cls := "ObsMessages", name := "walkOver", desc := "(I)Z" } : MethodName) prog_1_method_30_code (2 : Nat) (Option.some FieldType.boolean)) ∈ tb := tb_memk tpc_2 198 rfl rfl
theorem tw_439 : (Cond.methodLink "ObsMessages" (166 : Nat) ({ cls := "ObsMessages", name := "isSubset", desc := "(I)Z" } : MethodName)) ∈ tb := tb_memk tpc_2 199 rfl rfl
theorem tw_440 : (Cond.static ({ cls := "ObsMessages", name := "isSubset", desc := "(I)Z" } : MethodName)) ∈ tb := tb_memk tpc_2 200 rfl rfl
theorem tw_441 : (Cond.code ({ cls := "ObsMessages", name := "isSubset", desc := "(I)Z" } : MethodName) prog_1_method_23_code (1 : Nat) (Option.some FieldType.boolean)) ∈ tb := tb_memk tpc_2 201 rfl rfl
theorem tw_442 : (Cond.methodLink "ObsMessages" (319 : Nat) ({ cls := "ObsMessages$Program", name := "build", desc := "()V" } : MethodName)) ∈ tb := tb_memk tpc_2 202 rfl rfl
theorem tw_443 : (Cond.instanceMethod ({ cls := "ObsMessages$Program", name := "build", desc := "()V" } : MethodName)) ∈ tb := tb_memk tpc_2 203 rfl rfl
theorem tw_444 : (Cond.selects "ObsMessages$Program" ({ cls := "ObsMessages$Program", name := "build", desc := "()V" } : MethodName) ({ cls := "ObsMessages$Program", name := "build", desc := "()V" } : MethodName)) ∈ tb := tb_memk tpc_2 204 rfl rfl
theorem tw_445 : (Cond.code ({ cls := "ObsMessages$Program", name := "build", desc := "()V" } : MethodName) prog_8_method_2_code (2 : Nat) (Option.none : Option FieldType)) ∈ tb := tb_memk tpc_2 205 rfl rfl
theorem tw_446 : (Cond.methodLink "ObsMessages$Program" (58 : Nat) ({ cls := "java/util/Arrays", name := "fill", desc := "([II)V" } : MethodName)) ∈ tb := tb_memk tpc_2 206 rfl rfl
theorem tw_447 : (Cond.static ({ cls := "java/util/Arrays", name := "fill", desc := "([II)V" } : MethodName)) ∈ tb := tb_memk tpc_2 207 rfl rfl
theorem tw_448 : (Cond.code ({ cls := "java/util/Arrays", name := "fill", desc := "([II)V" } : MethodName) prog_24_method_103_code (4 : Nat) (Option.none : Option FieldType)) ∈ tb := tb_memk tpc_2 208 rfl rfl
theorem tw_449 : (Cond.methodLink "ObsMessages$Program" (66 : Nat) ({ cls := "ObsMessages$Tables", name := "endOf", desc := "(I)I" } : MethodName)) ∈ tb := tb_memk tpc_2 209 rfl rfl
theorem tw_450 : (Cond.instanceMethod ({ cls := "ObsMessages$Tables", name := "endOf", desc := "(I)I" } : MethodName)) ∈ tb := tb_memk tpc_2 210 rfl rfl
theorem tw_451 : (Cond.selects "ObsMessages$Tables" ({ cls := "ObsMessages$Tables", name := "endOf", desc := "(I)I" } : MethodName) ({ cls := "ObsMessages$Tables", name := "endOf", desc := "(I)I" } : MethodName)) ∈ tb := tb_memk tpc_2 211 rfl rfl
theorem tw_452 : (Cond.code ({ cls := "ObsMessages$Tables", name := "endOf", desc := "(I)I" } : MethodName) prog_10_method_8_code (2 : Nat) (Option.some FieldType.int)) ∈ tb := tb_memk tpc_2 212 rfl rfl
theorem tw_453 : (Cond.methodLink "ObsMessages$Tables" (49 : Nat) ({ cls := "ObsMessages$Tables", name := "startOf", desc := "(I)I" } : MethodName)) ∈ tb := tb_memk tpc_2 213 rfl rfl
theorem tw_454 : (Cond.static ({ cls := "ObsMessages$Tables", name := "startOf", desc := "(I)I" } : MethodName)) ∈ tb := tb_memk tpc_2 214 rfl rfl
theorem tw_455 : (Cond.code ({ cls := "ObsMessages$Tables", name := "startOf", desc := "(I)I" } : MethodName) prog_10_method_7_code (1 : Nat) (Option.some FieldType.int)) ∈ tb := tb_memk tpc_2 215 rfl rfl
theorem tw_456 : (Cond.methodLink "ObsMessages$Program" (70 : Nat) ({ cls := "ObsMessages$Program", name := "openList", desc := "(IIII)V" } : MethodName)) ∈ tb := tb_memk tpc_2 216 rfl rfl
theorem tw_458 : (Cond.instanceMethod ({ cls := "ObsMessages$Program", name := "openList", desc := "(IIII)V" } : MethodName)) ∈ tb := tb_memk tpc_2 218 rfl rfl
theorem tw_459 : (Cond.code ({ cls := "ObsMessages$Program", name := "openList", desc := "(IIII)V" } : MethodName) prog_8_method_4_code (5 : Nat) (Option.none : Option FieldType)) ∈ tb := tb_memk tpc_2 219 rfl rfl
theorem tw_460 : (Cond.methodLink "ObsMessages$Program" (80 : Nat) ({ cls := "ObsMessages$Program", name := "fail", desc := "(I)V" } : MethodName)) ∈ tb := tb_memk tpc_2 220 rfl rfl
theorem tw_462 : (Cond.instanceMethod ({ cls := "ObsMessages$Program", name := "fail", desc := "(I)V" } : MethodName)) ∈ tb := tb_memk tpc_2 222 rfl rfl
theorem tw_463 : (Cond.code ({ cls := "ObsMessages$Program", name := "fail", desc := "(I)V" } : MethodName) prog_8_method_3_code (2 : Nat) (Option.none : Option FieldType)) ∈ tb := tb_memk tpc_2 223 rfl rfl
theorem tw_464 : (Cond.methodLink "ObsMessages$Program" (84 : Nat) ({ cls := "java/lang/System", name := "arraycopy", desc := "(Ljava/lang/Object;ILjava/lang/Object;II)V" } : MethodName)) ∈ tb := tb_memk tpc_2 224 rfl rfl
theorem tw_465 : (Cond.static ({ cls := "java/lang/System", name := "arraycopy", desc := "(Ljava/lang/Object;ILjava/lang/Object;II)V" } : MethodName)) ∈ tb := tb_memk tpc_2 225 rfl rfl
theorem tw_466 : (Cond.native ({ cls := "java/lang/System", name := "arraycopy", desc := "(Ljava/lang/Object;ILjava/lang/Object;II)V" } : MethodName)) ∈ tb := tb_memk tpc_2 226 rfl rfl
theorem tw_467 : (Cond.methodLink "ObsMessages$Program" (74 : Nat) ({ cls := "ObsMessages$Program", name := "lookAtNext", desc := "()V" } : MethodName)) ∈ tb := tb_memk tpc_2 227 rfl rfl
theorem tw_469 : (Cond.instanceMethod ({ cls := "ObsMessages$Program", name := "lookAtNext", desc := "()V" } : MethodName)) ∈ tb := tb_memk tpc_2 229 rfl rfl
theorem tw_470 : (Cond.code ({ cls := "ObsMessages$Program", name := "lookAtNext", desc := "()V" } : MethodName) prog_8_method_6_code (5 : Nat) (Option.none : Option FieldType)) ∈ tb := tb_memk tpc_2 230 rfl rfl
theorem tw_471 : (Cond.methodLink "ObsMessages$Program" (93 : Nat) ({ cls := "ObsMessages$Program", name := "takeUp", desc := "(II)Z" } : MethodName)) ∈ tb := tb_memk tpc_2 231 rfl rfl
theorem tw_473 : (Cond.instanceMethod ({ cls := "ObsMessages$Program", name := "takeUp", desc := "(II)Z" } : MethodName)) ∈ tb := tb_memk tpc_2 233 rfl rfl
theorem tw_474 : (Cond.code ({ cls := "ObsMessages$Program", name := "takeUp", desc := "(II)Z" } : MethodName) prog_8_method_7_code (3 : Nat) (Option.some FieldType.boolean)) ∈ tb := tb_memk tpc_2 234 rfl rfl
theorem tw_475 : (Cond.methodLink "ObsMessages$Program" (97 : Nat) ({ cls := "ObsMessages$Descriptors", name := "operatorOf", desc := "(I)I" } : MethodName)) ∈ tb := tb_memk tpc_2 235 rfl rfl
theorem tw_476 : (Cond.static ({ cls := "ObsMessages$Descriptors", name := "operatorOf", desc := "(I)I" } : MethodName)) ∈ tb := tb_memk tpc_2 236 rfl rfl
theorem tw_477 : (Cond.code ({ cls := "ObsMessages$Descriptors", name := "operatorOf", desc := "(I)I" } : MethodName) prog_3_method_8_code (2 : Nat) (Option.some FieldType.int)) ∈ tb := tb_memk tpc_2 237 rfl rfl
theorem tw_478 : (Cond.fieldLink "ObsMessages$Descriptors" (31 : Nat) "ObsMessages$Descriptors" "ENDS" "[I") ∈ tb := tb_memk tpc_2 238 rfl rfl
theorem tw_480 : (Cond.fieldLink "ObsMessages$Descriptors" (35 : Nat) "ObsMessages$Descriptors" "LASTS" "[I") ∈ tb := tb_memk tpc_3 0 rfl rfl
theorem tw_482 : (Cond.methodLink "ObsMessages$Program" (100 : Nat) ({ cls := "ObsMessages$Descriptors", name := "isElement", desc := "(I)Z" } : MethodName)) ∈ tb := tb_memk tpc_3 2 rfl rfl
theorem tw_483 : (Cond.methodLink "ObsMessages$Program" (104 : Nat) ({ cls := "ObsMessages$Program", name := "lookAtElement", desc := "(I)V" } : MethodName)) ∈ tb := tb_memk tpc_3 3 rfl rfl
theorem tw_485 : (Cond.instanceMethod ({ cls := "ObsMessages$Program", name := "lookAtElement", desc := "(I)V" } : MethodName)) ∈ tb := tb_memk tpc_3 5 rfl rfl
theorem tw_486 : (Cond.code ({ cls := "ObsMessages$Program", name := "lookAtElement", desc := "(I)V" } : MethodName) prog_8_method_8_code (5 : Nat) (Option.none : Option FieldType)) ∈ tb := tb_memk tpc_3 6 rfl rfl
theorem tw_487 : (Cond.methodLink "ObsMessages$Program" (128 : Nat) ({ cls := "ObsMessages$Tables", name := "inForce", desc := "(I)I" } : MethodName)) ∈ tb := tb_memk tpc_3 7 rfl rfl
theorem tw_488 : (Cond.instanceMethod ({ cls := "ObsMessages$Tables", name := "inForce", desc := "(I)I" } : MethodName)) ∈ tb := tb_memk tpc_3 8 rfl rfl
theorem tw_489 : (Cond.selects "ObsMessages$Tables" ({ cls := "ObsMessages$Tables", name := "inForce", desc := "(I)I" } : MethodName) ({ cls := "ObsMessages$Tables", name := "inForce", desc := "(I)I" } : MethodName)) ∈ tb := tb_memk tpc_3 9 rfl rfl
theorem tw_490 : (Cond.code ({ cls := "ObsMessages$Tables", name := "inForce", desc := "(I)I" } : MethodName) prog_10_method_11_code (3 : Nat) (Option.some FieldType.int)) ∈ tb := tb_memk tpc_3 10 rfl rfl
theorem tw_491 : (Cond.methodLink "ObsMessages$Program" (134 : Nat) ({ cls := "ObsMessages$Descriptors", name := "addedWidth", desc := "(I)I" } : MethodName)) ∈ tb := tb_memk tpc_3 11 rfl rfl
theorem tw_492 : (Cond.static ({ cls := "ObsMessages$Descriptors", name := "addedWidth", desc := "(I)I" } : MethodName)) ∈ tb := tb_memk tpc_3 12 rfl rfl
theorem tw_493 : (Cond.code ({ cls := "ObsMessages$Descriptors", name := "addedWidth", desc := "(I)I" } : MethodName) prog_3_method_10_code (1 : Nat) (Option.some FieldType.int)) ∈ tb := tb_memk tpc_3 13 rfl rfl
theorem tw_494 : (Cond.methodLink "ObsMessages$Program" (140 : Nat) ({ cls := "ObsMessages$Descriptors", name := "addedScale", desc := "(I)I" } : MethodName)) ∈ tb := tb_memk tpc_3 14 rfl rfl
theorem tw_495 : (Cond.static ({ cls := "ObsMessages$Descriptors", name := "addedScale", desc := "(I)I" } : MethodName)) ∈ tb := tb_memk tpc_3 15 rfl rfl
theorem tw_496 : (Cond.code ({ cls := "ObsMessages$Descriptors", name := "addedScale", desc := "(I)I" } : MethodName) prog_3_method_11_code (1 : Nat) (Option.some FieldType.int)) ∈ tb := tb_memk tpc_3 16 rfl rfl
theorem tw_497 : (Cond.methodLink "ObsMessages$Program" (143 : Nat) ({ cls := "ObsMessages$Tables", name := "isWidth", desc := "(I)Z" } : MethodName)) ∈ tb := tb_memk tpc_3 17 rfl rfl
theorem tw_498 : (Cond.static ({ cls := "ObsMessages$Tables", name := "isWidth", desc := "(I)Z" } : MethodName)) ∈ tb := tb_memk tpc_3 18 rfl rfl
theorem tw_499 : (Cond.code ({ cls := "ObsMessages$Tables", name := "isWidth", desc := "(I)Z" } : MethodName) prog_10_method_5_code (1 : Nat) (Option.some FieldType.boolean)) ∈ tb := tb_memk tpc_3 19 rfl rfl
theorem tw_500 : (Cond.methodLink "ObsMessages$Program" (146 : Nat) ({ cls := "ObsMessages$Tables", name := "isScale", desc := "(I)Z" } : MethodName)) ∈ tb := tb_memk tpc_3 20 rfl rfl
theorem tw_501 : (Cond.static ({ cls := "ObsMessages$Tables", name := "isScale", desc := "(I)Z" } : MethodName)) ∈ tb := tb_memk tpc_3 21 rfl rfl
theorem tw_502 : (Cond.code ({ cls := "ObsMessages$Tables", name := "isScale", desc := "(I)Z" } : MethodName) prog_10_method_4_code (1 : Nat) (Option.some FieldType.boolean)) ∈ tb := tb_memk tpc_3 22 rfl rfl
theorem tw_503 : (Cond.methodLink "ObsMessages$Program" (107 : Nat) ({ cls := "ObsMessages$Descriptors", name := "sequenceOf", desc := "(I)I" } : MethodName)) ∈ tb := tb_memk tpc_3 23 rfl rfl
theorem tw_504 : (Cond.static ({ cls := "ObsMessages$Descriptors", name := "sequenceOf", desc := "(I)I" } : MethodName)) ∈ tb := tb_memk tpc_3 24 rfl rfl
theorem tw_505 : (Cond.code ({ cls := "ObsMessages$Descriptors", name := "sequenceOf", desc := "(I)I" } : MethodName) prog_3_method_4_code (1 : Nat) (Option.some FieldType.int)) ∈ tb := tb_memk tpc_3 25 rfl rfl
theorem tw_506 : (Cond.methodLink "ObsMessages$Program" (110 : Nat) ({ cls := "ObsMessages$Program", name := "lookAtSequence", desc := "(I)V" } : MethodName)) ∈ tb := tb_memk tpc_3 26 rfl rfl
theorem tw_508 : (Cond.instanceMethod ({ cls := "ObsMessages$Program", name := "lookAtSequence", desc := "(I)V" } : MethodName)) ∈ tb := tb_memk tpc_3 28 rfl rfl
theorem tw_509 : (Cond.code ({ cls := "ObsMessages$Program", name := "lookAtSequence", desc := "(I)V" } : MethodName) prog_8_method_9_code (2 : Nat) (Option.none : Option FieldType)) ∈ tb := tb_memk tpc_3 29 rfl rfl
theorem tw_510 : (Cond.methodLink "ObsMessages$Program" (152 : Nat) ({ cls := "ObsMessages$Program", name := "isTooDeep", desc := "(I)Z" } : MethodName)) ∈ tb := tb_memk tpc_3 30 rfl rfl
theorem tw_512 : (Cond.instanceMethod ({ cls := "ObsMessages$Program", name := "isTooDeep", desc := "(I)Z" } : MethodName)) ∈ tb := tb_memk tpc_3 32 rfl rfl
theorem tw_513 : (Cond.code ({ cls := "ObsMessages$Program", name := "isTooDeep", desc := "(I)Z" } : MethodName) prog_8_method_10_code (4 : Nat) (Option.some FieldType.boolean)) ∈ tb := tb_memk tpc_3 33 rfl rfl
theorem tw_514 : (Cond.methodLink "ObsMessages$Program" (155 : Nat) ({ cls := "ObsMessages$Tables", name := "startOf", desc := "(I)I" } : MethodName)) ∈ tb := tb_memk tpc_3 34 rfl rfl
theorem tw_515 : (Cond.methodLink "ObsMessages$Program" (113 : Nat) ({ cls := "ObsMessages$Descriptors", name := "isRepeat", desc := "(I)Z" } : MethodName)) ∈ tb := tb_memk tpc_3 35 rfl rfl
theorem tw_516 : (Cond.static ({ cls := "ObsMessages$Descriptors", name := "isRepeat", desc := "(I)Z" } : MethodName)) ∈ tb := tb_memk tpc_3 36 rfl rfl
theorem tw_517 : (Cond.code ({ cls := "ObsMessages$Descriptors", name := "isRepeat", desc := "(I)Z" } : MethodName) prog_3_method_5_code (1 : Nat) (Option.some FieldType.boolean)) ∈ tb := tb_memk tpc_3 37 rfl rfl
theorem tw_518 : (Cond.methodLink "ObsMessages$Program" (116 : Nat) ({ cls := "ObsMessages$Program", name := "lookAtRepeat", desc := "(III)V" } : MethodName)) ∈ tb := tb_memk tpc_3 38 rfl rfl
theorem tw_520 : (Cond.instanceMethod ({ cls := "ObsMessages$Program", name := "lookAtRepeat", desc := "(III)V" } : MethodName)) ∈ tb := tb_memk tpc_3 40 rfl rfl
theorem tw_521 : (Cond.code ({ cls := "ObsMessages$Program", name := "lookAtRepeat", desc := "(III)V" } : MethodName) prog_8_method_11_code (8 : Nat) (Option.none : Option FieldType)) ∈ tb := tb_memk tpc_3 41 rfl rfl
theorem tw_522 : (Cond.methodLink "ObsMessages$Program" (158 : Nat) ({ cls := "ObsMessages$Descriptors", name := "timesOf", desc := "(I)I" } : MethodName)) ∈ tb := tb_memk tpc_3 42 rfl rfl
theorem tw_523 : (Cond.static ({ cls := "ObsMessages$Descriptors", name := "timesOf", desc := "(I)I" } : MethodName)) ∈ tb := tb_memk tpc_3 43 rfl rfl
theorem tw_524 : (Cond.code ({ cls := "ObsMessages$Descriptors", name := "timesOf", desc := "(I)I" } : MethodName) prog_3_method_7_code (1 : Nat) (Option.some FieldType.int)) ∈ tb := tb_memk tpc_3 44 rfl rfl
theorem tw_525 : (Cond.methodLink "ObsMessages$Program" (161 : Nat) ({ cls := "ObsMessages$Descriptors", name := "lengthOf", desc := "(I)I" } : MethodName)) ∈ tb := tb_memk tpc_3 45 rfl rfl
theorem tw_526 : (Cond.static ({ cls := "ObsMessages$Descriptors", name := "lengthOf", desc := "(I)I" } : MethodName)) ∈ tb := tb_memk tpc_3 46 rfl rfl
theorem tw_527 : (Cond.code ({ cls := "ObsMessages$Descriptors", name := "lengthOf", desc := "(I)I" } : MethodName) prog_3_method_6_code (1 : Nat) (Option.some FieldType.int)) ∈ tb := tb_memk tpc_3 47 rfl rfl
theorem tw_528 : (Cond.methodLink "ObsMessages$Program" (120 : Nat) ({ cls := "ObsMessages$Descriptors", name := "settingOf", desc := "(II)I" } : MethodName)) ∈ tb := tb_memk tpc_3 48 rfl rfl
theorem tw_529 : (Cond.static ({ cls := "ObsMessages$Descriptors", name := "settingOf", desc := "(II)I" } : MethodName)) ∈ tb := tb_memk tpc_3 49 rfl rfl
theorem tw_530 : (Cond.code ({ cls := "ObsMessages$Descriptors", name := "settingOf", desc := "(II)I" } : MethodName) prog_3_method_9_code (2 : Nat) (Option.some FieldType.int)) ∈ tb := tb_memk tpc_3 50 rfl rfl
theorem tw_531 : (Cond.methodLink "ObsMessages$Program" (124 : Nat) ({ cls := "ObsMessages$Program", name := "lookAtOperator", desc := "(II)V" } : MethodName)) ∈ tb := tb_memk tpc_3 51 rfl rfl
theorem tw_533 : (Cond.instanceMethod ({ cls := "ObsMessages$Program", name := "lookAtOperator", desc := "(II)V" } : MethodName)) ∈ tb := tb_memk tpc_3 53 rfl rfl
theorem tw_534 : (Cond.code ({ cls := "ObsMessages$Program", name := "lookAtOperator", desc := "(II)V" } : MethodName) prog_8_method_12_code (5 : Nat) (Option.none : Option FieldType)) ∈ tb := tb_memk tpc_3 54 rfl rfl
theorem tw_535 : (Cond.methodLink "ObsMessages$Program" (77 : Nat) ({ cls := "ObsMessages$Program", name := "closeList", desc := "()V" } : MethodName)) ∈ tb := tb_memk tpc_3 55 rfl rfl
theorem tw_537 : (Cond.instanceMethod ({ cls := "ObsMessages$Program", name := "closeList", desc := "()V" } : MethodName)) ∈ tb := tb_memk tpc_3 57 rfl rfl
theorem tw_538 : (Cond.code ({ cls := "ObsMessages$Program", name := "closeList", desc := "()V" } : MethodName) prog_8_method_5_code (2 : Nat) (Option.none : Option FieldType)) ∈ tb := tb_memk tpc_3 58 rfl rfl
theorem tw_539 : (Cond.methodLink "ObsMessages" (171 : Nat) ({ cls := "ObsMessages$Walk", name := "over", desc := "([J)V" } : MethodName)) ∈ tb := tb_memk tpc_3 59 rfl rfl
theorem tw_540 : (Cond.instanceMethod ({ cls := "ObsMessages$Walk", name := "over", desc := "([J)V" } : MethodName)) ∈ tb := tb_memk tpc_3 60 rfl rfl
theorem tw_541 : (Cond.selects "ObsMessages$Walk" ({ cls := "ObsMessages$Walk", name := "over", desc := "([J)V" } : MethodName) ({ cls := "ObsMessages$Walk", name := "over", desc := "([J)V" } : MethodName)) ∈ tb := tb_memk tpc_3 61 rfl rfl
theorem tw_542 : (Cond.code ({ cls := "ObsMessages$Walk", name := "over", desc := "([J)V" } : MethodName) prog_11_method_2_code (3 : Nat) (Option.none : Option FieldType)) ∈ tb := tb_memk tpc_3 62 rfl rfl
theorem tw_543 : (Cond.methodLink "ObsMessages$Walk" (45 : Nat) ({ cls := "ObsMessages$Walk", name := "begin", desc := "()V" } : MethodName)) ∈ tb := tb_memk tpc_3 63 rfl rfl
theorem tw_544 : (Cond.instanceMethod ({ cls := "ObsMessages$Walk", name := "begin", desc := "()V" } : MethodName)) ∈ tb := tb_memk tpc_3 64 rfl rfl
theorem tw_545 : (Cond.selects "ObsMessages$Walk" ({ cls := "ObsMessages$Walk", name := "begin", desc := "()V" } : MethodName) ({ cls := "ObsMessages$Walk", name := "begin", desc := "()V" } : MethodName)) ∈ tb := tb_memk tpc_3 65 rfl rfl
theorem tw_546 : (Cond.code ({ cls := "ObsMessages$Walk", name := "begin", desc := "()V" } : MethodName) prog_11_method_4_code (1 : Nat) (Option.none : Option FieldType)) ∈ tb := tb_memk tpc_3 66 rfl rfl
theorem tw_547 : (Cond.methodLink "ObsMessages$Walk" (74 : Nat) ({ cls := "ObsMessages$Loops", name := "leaveAll", desc := "()V" } : MethodName)) ∈ tb := tb_memk tpc_3 67 rfl rfl
theorem tw_548 : (Cond.instanceMethod ({ cls := "ObsMessages$Loops", name := "leaveAll", desc := "()V" } : MethodName)) ∈ tb := tb_memk tpc_3 68 rfl rfl
theorem tw_549 : (Cond.selects "ObsMessages$Loops" ({ cls := "ObsMessages$Loops", name := "leaveAll", desc := "()V" } : MethodName) ({ cls := "ObsMessages$Loops", name := "leaveAll", desc := "()V" } : MethodName)) ∈ tb := tb_memk tpc_3 69 rfl rfl
theorem tw_550 : (Cond.code ({ cls := "ObsMessages$Loops", name := "leaveAll", desc := "()V" } : MethodName) prog_7_method_2_code (1 : Nat) (Option.none : Option FieldType)) ∈ tb := tb_memk tpc_3 70 rfl rfl
theorem tw_551 : (Cond.methodLink "ObsMessages$Walk" (77 : Nat) ({ cls := "java/util/Arrays", name := "fill", desc := "([II)V" } : MethodName)) ∈ tb := tb_memk tpc_3 71 rfl rfl
theorem tw_552 : (Cond.methodLink "ObsMessages$Walk" (48 : Nat) ({ cls := "ObsMessages$Walk", name := "advance", desc := "()Z" } : MethodName)) ∈ tb := tb_memk tpc_3 72 rfl rfl
theorem tw_553 : (Cond.instanceMethod ({ cls := "ObsMessages$Walk", name := "advance", desc := "()Z" } : MethodName)) ∈ tb := tb_memk tpc_3 73 rfl rfl
theorem tw_554 : (Cond.selects "ObsMessages$Walk" ({ cls := "ObsMessages$Walk", name := "advance", desc := "()Z" } : MethodName) ({ cls := "ObsMessages$Walk", name := "advance", desc := "()Z" } : MethodName)) ∈ tb := tb_memk tpc_3 74 rfl rfl
theorem tw_555 : (Cond.code ({ cls := "ObsMessages$Walk", name := "advance", desc := "()Z" } : MethodName) prog_11_method_6_code (3 : Nat) (Option.some FieldType.boolean)) ∈ tb := tb_memk tpc_3 75 rfl rfl
theorem tw_556 : (Cond.methodLink "ObsMessages$Walk" (110 : Nat) ({ cls := "ObsMessages$Walk", name := "giveQuality", desc := "()V" } : MethodName)) ∈ tb := tb_memk tpc_3 76 rfl rfl
theorem tw_558 : (Cond.instanceMethod ({ cls := "ObsMessages$Walk", name := "giveQuality", desc := "()V" } : MethodName)) ∈ tb := tb_memk tpc_3 78 rfl rfl
theorem tw_559 : (Cond.code ({ cls := "ObsMessages$Walk", name := "giveQuality", desc := "()V" } : MethodName) prog_11_method_12_code (1 : Nat) (Option.none : Option FieldType)) ∈ tb := tb_memk tpc_3 79 rfl rfl
theorem tw_560 : (Cond.methodLink "ObsMessages$Walk" (188 : Nat) ({ cls := "ObsMessages$Walk", name := "give", desc := "(IIIIJI)V" } : MethodName)) ∈ tb := tb_memk tpc_3 80 rfl rfl
theorem tw_562 : (Cond.instanceMethod ({ cls := "ObsMessages$Walk", name := "give", desc := "(IIIIJI)V" } : MethodName)) ∈ tb := tb_memk tpc_3 82 rfl rfl
theorem tw_563 : (Cond.code ({ cls := "ObsMessages$Walk", name := "give", desc := "(IIIIJI)V" } : MethodName) prog_11_method_16_code (9 : Nat) (Option.none : Option FieldType)) ∈ tb := tb_memk tpc_3 83 rfl rfl
theorem tw_564 : (Cond.methodLink "ObsMessages$Walk" (64 : Nat) ({ cls := "ObsMessages$Walk", name := "fail", desc := "(II)V" } : MethodName)) ∈ tb := tb_memk tpc_3 84 rfl rfl
theorem tw_565 : (Cond.instanceMethod ({ cls := "ObsMessages$Walk", name := "fail", desc := "(II)V" } : MethodName)) ∈ tb := tb_memk tpc_3 85 rfl rfl
theorem tw_566 : (Cond.selects "ObsMessages$Walk" ({ cls := "ObsMessages$Walk", name := "fail", desc := "(II)V" } : MethodName) ({ cls := "ObsMessages$Walk", name := "fail", desc := "(II)V" } : MethodName)) ∈ tb := tb_memk tpc_3 86 rfl rfl
theorem tw_567 : (Cond.code ({ cls := "ObsMessages$Walk", name := "fail", desc := "(II)V" } : MethodName) prog_11_method_5_code (3 : Nat) (Option.none : Option FieldType)) ∈ tb := tb_memk tpc_3 87 rfl rfl
theorem tw_568 : (Cond.methodLink "ObsMessages$Walk" (223 : Nat) ({ cls := "ObsMessages$Loops", name := "repetition", desc := "()I" } : MethodName)) ∈ tb := tb_memk tpc_3 88 rfl rfl
theorem tw_569 : (Cond.instanceMethod ({ cls := "ObsMessages$Loops", name := "repetition", desc := "()I" } : MethodName)) ∈ tb := tb_memk tpc_3 89 rfl rfl
theorem tw_570 : (Cond.selects "ObsMessages$Loops" ({ cls := "ObsMessages$Loops", name := "repetition", desc := "()I" } : MethodName) ({ cls := "ObsMessages$Loops", name := "repetition", desc := "()I" } : MethodName)) ∈ tb := tb_memk tpc_3 90 rfl rfl
theorem tw_571 : (Cond.code ({ cls := "ObsMessages$Loops", name := "repetition", desc := "()I" } : MethodName) prog_7_method_4_code (1 : Nat) (Option.some FieldType.int)) ∈ tb := tb_memk tpc_3 91 rfl rfl
theorem tw_572 : (Cond.methodLink "ObsMessages$Walk" (113 : Nat) ({ cls := "ObsMessages$Walk", name := "giveFromEntry", desc := "()V" } : MethodName)) ∈ tb := tb_memk tpc_3 92 rfl rfl
theorem tw_574 : (Cond.instanceMethod ({ cls := "ObsMessages$Walk", name := "giveFromEntry", desc := "()V" } : MethodName)) ∈ tb := tb_memk tpc_3 94 rfl rfl
theorem tw_575 : (Cond.code ({ cls := "ObsMessages$Walk", name := "giveFromEntry", desc := "()V" } : MethodName) prog_11_method_13_code (7 : Nat) (Option.none : Option FieldType)) ∈ tb := tb_memk tpc_3 95 rfl rfl
theorem tw_576 : (Cond.methodLink "ObsMessages$Walk" (192 : Nat) ({ cls := "ObsMessages$Tables", name := "inForce", desc := "(I)I" } : MethodName)) ∈ tb := tb_memk tpc_3 96 rfl rfl
theorem tw_577 : (Cond.methodLink "ObsMessages$Walk" (206 : Nat) ({ cls := "ObsMessages$Descriptors", name := "addedWidth", desc := "(I)I" } : MethodName)) ∈ tb := tb_memk tpc_3 97 rfl rfl
theorem tw_578 : (Cond.methodLink "ObsMessages$Walk" (209 : Nat) ({ cls := "ObsMessages$Descriptors", name := "addedScale", desc := "(I)I" } : MethodName)) ∈ tb := tb_memk tpc_3 98 rfl rfl
theorem tw_579 : (Cond.methodLink "ObsMessages$Walk" (116 : Nat) ({ cls := "ObsMessages$Walk", name := "giveBit", desc := "()V" } : MethodName)) ∈ tb := tb_memk tpc_3 99 rfl rfl
theorem tw_581 : (Cond.instanceMethod ({ cls := "ObsMessages$Walk", name := "giveBit", desc := "()V" } : MethodName)) ∈ tb := tb_memk tpc_3 101 rfl rfl
theorem tw_582 : (Cond.code ({ cls := "ObsMessages$Walk", name := "giveBit", desc := "()V" } : MethodName) prog_11_method_14_code (2 : Nat) (Option.none : Option FieldType)) ∈ tb := tb_memk tpc_3 102 rfl rfl
theorem tw_583 : (Cond.methodLink "ObsMessages$Walk" (119 : Nat) ({ cls := "ObsMessages$Walk", name := "giveMark", desc := "()V" } : MethodName)) ∈ tb := tb_memk tpc_3 103 rfl rfl
theorem tw_585 : (Cond.instanceMethod ({ cls := "ObsMessages$Walk", name := "giveMark", desc := "()V" } : MethodName)) ∈ tb := tb_memk tpc_3 105 rfl rfl
theorem tw_586 : (Cond.code ({ cls := "ObsMessages$Walk", name := "giveMark", desc := "()V" } : MethodName) prog_11_method_15_code (2 : Nat) (Option.none : Option FieldType)) ∈ tb := tb_memk tpc_3 106 rfl rfl
theorem tw_587 : (Cond.methodLink "ObsMessages$Walk" (122 : Nat) ({ cls := "ObsMessages$Loops", name := "onFrom", desc := "(I)I" } : MethodName)) ∈ tb := tb_memk tpc_3 107 rfl rfl
theorem tw_588 : (Cond.instanceMethod ({ cls := "ObsMessages$Loops", name := "onFrom", desc := "(I)I" } : MethodName)) ∈ tb := tb_memk tpc_3 108 rfl rfl
theorem tw_589 : (Cond.selects "ObsMessages$Loops" ({ cls := "ObsMessages$Loops", name := "onFrom", desc := "(I)I" } : MethodName) ({ cls := "ObsMessages$Loops", name := "onFrom", desc := "(I)I" } : MethodName)) ∈ tb := tb_memk tpc_3 109 rfl rfl
theorem tw_590 : (Cond.code ({ cls := "ObsMessages$Loops", name := "onFrom", desc := "(I)I" } : MethodName) prog_7_method_5_code (3 : Nat) (Option.some FieldType.int)) ∈ tb := tb_memk tpc_3 110 rfl rfl
theorem tw_591 : (Cond.methodLink "ObsMessages$Walk" (131 : Nat) ({ cls := "ObsMessages$Walk", name := "comeToNext", desc := "()V" } : MethodName)) ∈ tb := tb_memk tpc_3 111 rfl rfl
theorem tw_593 : (Cond.instanceMethod ({ cls := "ObsMessages$Walk", name := "comeToNext", desc := "()V" } : MethodName)) ∈ tb := tb_memk tpc_3 113 rfl rfl
theorem tw_594 : (Cond.code ({ cls := "ObsMessages$Walk", name := "comeToNext", desc := "()V" } : MethodName) prog_11_method_8_code (3 : Nat) (Option.none : Option FieldType)) ∈ tb := tb_memk tpc_3 114 rfl rfl
theorem tw_595 : (Cond.methodLink "ObsMessages$Walk" (153 : Nat) ({ cls := "ObsMessages$Descriptors", name := "operatorOf", desc := "(I)I" } : MethodName)) ∈ tb := tb_memk tpc_3 115 rfl rfl
theorem tw_596 : (Cond.methodLink "ObsMessages$Walk" (156 : Nat) ({ cls := "ObsMessages$Descriptors", name := "isElement", desc := "(I)Z" } : MethodName)) ∈ tb := tb_memk tpc_3 116 rfl rfl
theorem tw_597 : (Cond.methodLink "ObsMessages$Walk" (159 : Nat) ({ cls := "ObsMessages$Walk", name := "comeToElement", desc := "(I)V" } : MethodName)) ∈ tb := tb_memk tpc_3 117 rfl rfl
theorem tw_599 : (Cond.instanceMethod ({ cls := "ObsMessages$Walk", name := "comeToElement", desc := "(I)V" } : MethodName)) ∈ tb := tb_memk tpc_3 119 rfl rfl
theorem tw_600 : (Cond.code ({ cls := "ObsMessages$Walk", name := "comeToElement", desc := "(I)V" } : MethodName) prog_11_method_9_code (2 : Nat) (Option.none : Option FieldType)) ∈ tb := tb_memk tpc_3 120 rfl rfl
theorem tw_601 : (Cond.methodLink "ObsMessages$Walk" (163 : Nat) ({ cls := "ObsMessages$Descriptors", name := "isRepeat", desc := "(I)Z" } : MethodName)) ∈ tb := tb_memk tpc_3 121 rfl rfl
theorem tw_602 : (Cond.methodLink "ObsMessages$Walk" (166 : Nat) ({ cls := "ObsMessages$Descriptors", name := "timesOf", desc := "(I)I" } : MethodName)) ∈ tb := tb_memk tpc_3 122 rfl rfl
theorem tw_603 : (Cond.methodLink "ObsMessages$Walk" (172 : Nat) ({ cls := "ObsMessages$Walk", name := "comeToRepeat", desc := "(II)V" } : MethodName)) ∈ tb := tb_memk tpc_3 123 rfl rfl
theorem tw_605 : (Cond.instanceMethod ({ cls := "ObsMessages$Walk", name := "comeToRepeat", desc := "(II)V" } : MethodName)) ∈ tb := tb_memk tpc_3 125 rfl rfl
theorem tw_606 : (Cond.code ({ cls := "ObsMessages$Walk", name := "comeToRepeat", desc := "(II)V" } : MethodName) prog_11_method_10_code (3 : Nat) (Option.none : Option FieldType)) ∈ tb := tb_memk tpc_3 126 rfl rfl
theorem tw_607 : (Cond.methodLink "ObsMessages$Walk" (143 : Nat) ({ cls := "ObsMessages$Loops", name := "enter", desc := "(III)V" } : MethodName)) ∈ tb := tb_memk tpc_3 127 rfl rfl
theorem tw_608 : (Cond.instanceMethod ({ cls := "ObsMessages$Loops", name := "enter", desc := "(III)V" } : MethodName)) ∈ tb := tb_memk tpc_3 128 rfl rfl
theorem tw_609 : (Cond.selects "ObsMessages$Loops" ({ cls := "ObsMessages$Loops", name := "enter", desc := "(III)V" } : MethodName) ({ cls := "ObsMessages$Loops", name := "enter", desc := "(III)V" } : MethodName)) ∈ tb := tb_memk tpc_3 129 rfl rfl
theorem tw_610 : (Cond.code ({ cls := "ObsMessages$Loops", name := "enter", desc := "(III)V" } : MethodName) prog_7_method_3_code (4 : Nat) (Option.none : Option FieldType)) ∈ tb := tb_memk tpc_3 130 rfl rfl
theorem tw_611 : (Cond.methodLink "ObsMessages$Walk" (175 : Nat) ({ cls := "ObsMessages$Descriptors", name := "settingOf", desc := "(II)I" } : MethodName)) ∈ tb := tb_memk tpc_3 131 rfl rfl
theorem tw_612 : (Cond.methodLink "ObsMessages$Walk" (179 : Nat) ({ cls := "ObsMessages$Descriptors", name := "bitsOf", desc := "(I)I" } : MethodName)) ∈ tb := tb_memk tpc_3 132 rfl rfl
theorem tw_613 : (Cond.static ({ cls := "ObsMessages$Descriptors", name := "bitsOf", desc := "(I)I" } : MethodName)) ∈ tb := tb_memk tpc_3 133 rfl rfl
theorem tw_614 : (Cond.code ({ cls := "ObsMessages$Descriptors", name := "bitsOf", desc := "(I)I" } : MethodName) prog_3_method_12_code (1 : Nat) (Option.some FieldType.int)) ∈ tb := tb_memk tpc_3 134 rfl rfl
theorem tw_615 : (Cond.methodLink "ObsMessages$Walk" (182 : Nat) ({ cls := "ObsMessages$Walk", name := "comeToBits", desc := "(I)V" } : MethodName)) ∈ tb := tb_memk tpc_3 135 rfl rfl
theorem tw_617 : (Cond.instanceMethod ({ cls := "ObsMessages$Walk", name := "comeToBits", desc := "(I)V" } : MethodName)) ∈ tb := tb_memk tpc_3 137 rfl rfl
theorem tw_618 : (Cond.code ({ cls := "ObsMessages$Walk", name := "comeToBits", desc := "(I)V" } : MethodName) prog_11_method_11_code (2 : Nat) (Option.none : Option FieldType)) ∈ tb := tb_memk tpc_3 138 rfl rfl
theorem tw_619 : (Cond.methodLink "ObsMessages$Walk" (185 : Nat) ({ cls := "ObsMessages$Descriptors", name := "isMark", desc := "(I)Z" } : MethodName)) ∈ tb := tb_memk tpc_3 139 rfl rfl
theorem tw_620 : (Cond.static ({ cls := "ObsMessages$Descriptors", name := "isMark", desc := "(I)Z" } : MethodName)) ∈ tb := tb_memk tpc_3 140 rfl rfl
theorem tw_621 : (Cond.code ({ cls := "ObsMessages$Descriptors", name := "isMark", desc := "(I)Z" } : MethodName) prog_3_method_13_code (1 : Nat) (Option.some FieldType.boolean)) ∈ tb := tb_memk tpc_3 141 rfl rfl
theorem tw_622 : (Cond.methodLink "ObsMessages$Walk" (52 : Nat) ({ cls := "ObsMessages$Walk", name := "settle", desc := "(J)V" } : MethodName)) ∈ tb := tb_memk tpc_3 142 rfl rfl
theorem tw_623 : (Cond.instanceMethod ({ cls := "ObsMessages$Walk", name := "settle", desc := "(J)V" } : MethodName)) ∈ tb := tb_memk tpc_3 143 rfl rfl
theorem tw_624 : (Cond.selects "ObsMessages$Walk" ({ cls := "ObsMessages$Walk", name := "settle", desc := "(J)V" } : MethodName) ({ cls := "ObsMessages$Walk", name := "settle", desc := "(J)V" } : MethodName)) ∈ tb := tb_memk tpc_3 144 rfl rfl
theorem tw_625 : (Cond.code ({ cls := "ObsMessages$Walk", name := "settle", desc := "(J)V" } : MethodName) prog_11_method_7_code (9 : Nat) (Option.none : Option FieldType)) ∈ tb := tb_memk tpc_3 145 rfl rfl
theorem tw_626 : (Cond.methodLink "ObsMessages$Walk" (134 : Nat) ({ cls := "ObsMessages$Fields", name := "isCountOrBit", desc := "(I)Z" } : MethodName)) ∈ tb := tb_memk tpc_3 146 rfl rfl
theorem tw_627 : (Cond.instanceMethod ({ cls := "ObsMessages$Fields", name := "isCountOrBit", desc := "(I)Z" } : MethodName)) ∈ tb := tb_memk tpc_3 147 rfl rfl
theorem tw_628 : (Cond.selects "ObsMessages$Fields" ({ cls := "ObsMessages$Fields", name := "isCountOrBit", desc := "(I)Z" } : MethodName) ({ cls := "ObsMessages$Fields", name := "isCountOrBit", desc := "(I)Z" } : MethodName)) ∈ tb := tb_memk tpc_3 148 rfl rfl
theorem tw_629 : (Cond.code ({ cls := "ObsMessages$Fields", name := "isCountOrBit", desc := "(I)Z" } : MethodName) prog_4_method_4_code (2 : Nat) (Option.some FieldType.boolean)) ∈ tb := tb_memk tpc_3 149 rfl rfl
theorem tw_630 : (Cond.constantLong "ObsMessages$Walk" (141 : Nat) (30 : Int64)) ∈ tb := tb_memk tpc_3 150 rfl rfl
theorem tw_631 : (Cond.methodLink "ObsMessages" (198 : Nat) ({ cls := "ObsMessages$Fields", name := "has", desc := "(I)Z" } : MethodName)) ∈ tb := tb_memk tpc_3 151 rfl rfl
theorem tw_632 : (Cond.instanceMethod ({ cls := "ObsMessages$Fields", name := "has", desc := "(I)Z" } : MethodName)) ∈ tb := tb_memk tpc_3 152 rfl rfl
theorem tw_633 : (Cond.selects "ObsMessages$Fields" ({ cls := "ObsMessages$Fields", name := "has", desc := "(I)Z" } : MethodName) ({ cls := "ObsMessages$Fields", name := "has", desc := "(I)Z" } : MethodName)) ∈ tb := tb_memk tpc_3 153 rfl rfl
theorem tw_634 : (Cond.code ({ cls := "ObsMessages$Fields", name := "has", desc := "(I)Z" } : MethodName) prog_4_method_2_code (2 : Nat) (Option.some FieldType.boolean)) ∈ tb := tb_memk tpc_3 154 rfl rfl
theorem tw_643 : (Cond.methodLink "ObsMessages" (218 : Nat) ({ cls := "ObsMessages$Fields", name := "isElementOf", desc := "(III)Z" } : MethodName)) ∈ tb := tb_memk tpc_3 163 rfl rfl
theorem tw_644 : (Cond.instanceMethod ({ cls := "ObsMessages$Fields", name := "isElementOf", desc := "(III)Z" } : MethodName)) ∈ tb := tb_memk tpc_3 164 rfl rfl
theorem tw_645 : (Cond.selects "ObsMessages$Fields" ({ cls := "ObsMessages$Fields", name := "isElementOf", desc := "(III)Z" } : MethodName) ({ cls := "ObsMessages$Fields", name := "isElementOf", desc := "(III)Z" } : MethodName)) ∈ tb := tb_memk tpc_3 165 rfl rfl
theorem tw_646 : (Cond.code ({ cls := "ObsMessages$Fields", name := "isElementOf", desc := "(III)Z" } : MethodName) prog_4_method_3_code (4 : Nat) (Option.some FieldType.boolean)) ∈ tb := tb_memk tpc_3 166 rfl rfl
theorem tw_651 : (Cond.methodLink "ObsMessages" (241 : Nat) ({ cls := "ObsMessages$Bits", name := "byteCount", desc := "()I" } : MethodName)) ∈ tb := tb_memk tpc_3 171 rfl rfl
theorem tw_652 : (Cond.instanceMethod ({ cls := "ObsMessages$Bits", name := "byteCount", desc := "()I" } : MethodName)) ∈ tb := tb_memk tpc_3 172 rfl rfl
theorem tw_653 : (Cond.selects "ObsMessages$Bits" ({ cls := "ObsMessages$Bits", name := "byteCount", desc := "()I" } : MethodName) ({ cls := "ObsMessages$Bits", name := "byteCount", desc := "()I" } : MethodName)) ∈ tb := tb_memk tpc_3 173 rfl rfl
theorem tw_654 : (Cond.code ({ cls := "ObsMessages$Bits", name := "byteCount", desc := "()I" } : MethodName) prog_2_method_3_code (1 : Nat) (Option.some FieldType.int)) ∈ tb := tb_memk tpc_3 174 rfl rfl
theorem tw_659 : (Cond.methodLink "ObsMessages" (248 : Nat) ({ cls := "ObsMessages$Bits", name := "add", desc := "(JI)V" } : MethodName)) ∈ tb := tb_memk tpc_3 179 rfl rfl
theorem tw_660 : (Cond.instanceMethod ({ cls := "ObsMessages$Bits", name := "add", desc := "(JI)V" } : MethodName)) ∈ tb := tb_memk tpc_3 180 rfl rfl
theorem tw_661 : (Cond.selects "ObsMessages$Bits" ({ cls := "ObsMessages$Bits", name := "add", desc := "(JI)V" } : MethodName) ({ cls := "ObsMessages$Bits", name := "add", desc := "(JI)V" } : MethodName)) ∈ tb := tb_memk tpc_3 181 rfl rfl
theorem tw_662 : (Cond.code ({ cls := "ObsMessages$Bits", name := "add", desc := "(JI)V" } : MethodName) prog_2_method_4_code (5 : Nat) (Option.none : Option FieldType)) ∈ tb := tb_memk tpc_3 182 rfl rfl
theorem tw_682 : (Cond.methodLink "ObsMessages$Tables" (41 : Nat) ({ cls := "ObsMessages$Tables", name := "isScale", desc := "(I)Z" } : MethodName)) ∈ tb := tb_memk tpc_3 202 rfl rfl
theorem tw_683 : (Cond.methodLink "ObsMessages$Tables" (44 : Nat) ({ cls := "ObsMessages$Tables", name := "isWidth", desc := "(I)Z" } : MethodName)) ∈ tb := tb_memk tpc_3 203 rfl rfl
theorem tw_684 : (Cond.constant "ObsMessages$Tables" (47 : Nat) (-1000000000 : Int32)) ∈ tb := tb_memk tpc_3 204 rfl rfl
theorem tw_685 : (Cond.constant "ObsMessages$Tables" (48 : Nat) (1000000000 : Int32)) ∈ tb := tb_memk tpc_3 205 rfl rfl
theorem tw_776 : (Cond.methodLink "ObsMessages$Descriptors" (9 : Nat) ({ cls := "ObsMessages$Descriptors", name := "isElement", desc := "(I)Z" } : MethodName)) ∈ tb := tb_memk tpc_4 56 rfl rfl
theorem tw_777 : (Cond.methodLink "ObsMessages$Descriptors" (15 : Nat) ({ cls := "ObsMessages$Descriptors", name := "sequenceOf", desc := "(I)I" } : MethodName)) ∈ tb := tb_memk tpc_4 57 rfl rfl
theorem tw_778 : (Cond.methodLink "ObsMessages$Descriptors" (19 : Nat) ({ cls := "ObsMessages$Descriptors", name := "isRepeat", desc := "(I)Z" } : MethodName)) ∈ tb := tb_memk tpc_4 58 rfl rfl
theorem tw_779 : (Cond.methodLink "ObsMessages$Descriptors" (22 : Nat) ({ cls := "ObsMessages$Descriptors", name := "operatorOf", desc := "(I)I" } : MethodName)) ∈ tb := tb_memk tpc_4 59 rfl rfl
theorem tw_780 : (Cond.methodLink "ObsMessages$Descriptors" (25 : Nat) ({ cls := "ObsMessages$Descriptors", name := "bitsOf", desc := "(I)I" } : MethodName)) ∈ tb := tb_memk tpc_4 60 rfl rfl
theorem tw_781 : (Cond.methodLink "ObsMessages$Descriptors" (28 : Nat) ({ cls := "ObsMessages$Descriptors", name := "isMark", desc := "(I)Z" } : MethodName)) ∈ tb := tb_memk tpc_4 61 rfl rfl
theorem tw_807 : (Cond.methodLink "ObsMessages$Tables" (53 : Nat) ({ cls := "ObsMessages$Tables", name := "endOf", desc := "(I)I" } : MethodName)) ∈ tb := tb_memk tpc_4 87 rfl rfl
theorem tw_827 : (Cond.methodLink "ObsMessages" (162 : Nat) ({ cls := "ObsMessages", name := "setFault", desc := "(II)V" } : MethodName)) ∈ tb := tb_memk tpc_4 107 rfl rfl
theorem tw_829 : (Cond.instanceMethod ({ cls := "ObsMessages", name := "setFault", desc := "(II)V" } : MethodName)) ∈ tb := tb_memk tpc_4 109 rfl rfl
theorem tw_830 : (Cond.code ({ cls := "ObsMessages", name := "setFault", desc := "(II)V" } : MethodName) prog_1_method_28_code (3 : Nat) (Option.none : Option FieldType)) ∈ tb := tb_memk tpc_4 110 rfl rfl
theorem tw_874 : (Cond.methodLink "ObsMessages" (181 : Nat) ({ cls := "ObsMessages", name := "placeOf", desc := "(II)I" } : MethodName)) ∈ tb := tb_memk tpc_4 154 rfl rfl
theorem tw_875 : (Cond.static ({ cls := "ObsMessages", name := "placeOf", desc := "(II)I" } : MethodName)) ∈ tb := tb_memk tpc_4 155 rfl rfl
theorem tw_876 : (Cond.code ({ cls := "ObsMessages", name := "placeOf", desc := "(II)I" } : MethodName) prog_1_method_25_code (2 : Nat) (Option.some FieldType.int)) ∈ tb := tb_memk tpc_4 156 rfl rfl
theorem tw_890 : (Cond.methodLink "ObsMessages" (324 : Nat) ({ cls := "ObsMessages$Walk", name := "overChecked", desc := "([J)V" } : MethodName)) ∈ tb := tb_memk tpc_4 170 rfl rfl
theorem tw_891 : (Cond.instanceMethod ({ cls := "ObsMessages$Walk", name := "overChecked", desc := "([J)V" } : MethodName)) ∈ tb := tb_memk tpc_4 171 rfl rfl
theorem tw_892 : (Cond.selects "ObsMessages$Walk" ({ cls := "ObsMessages$Walk", name := "overChecked", desc := "([J)V" } : MethodName) ({ cls := "ObsMessages$Walk", name := "overChecked", desc := "([J)V" } : MethodName)) ∈ tb := tb_memk tpc_4 172 rfl rfl
theorem tw_893 : (Cond.code ({ cls := "ObsMessages$Walk", name := "overChecked", desc := "([J)V" } : MethodName) prog_11_method_3_code (3 : Nat) (Option.none : Option FieldType)) ∈ tb := tb_memk tpc_4 173 rfl rfl
theorem tw_894 : (Cond.methodLink "ObsMessages$Walk" (60 : Nat) ({ cls := "ObsMessages$Fields", name := "hasRaw", desc := "(IJ)Z" } : MethodName)) ∈ tb := tb_memk tpc_4 174 rfl rfl
theorem tw_895 : (Cond.instanceMethod ({ cls := "ObsMessages$Fields", name := "hasRaw", desc := "(IJ)Z" } : MethodName)) ∈ tb := tb_memk tpc_4 175 rfl rfl
theorem tw_896 : (Cond.selects "ObsMessages$Fields" ({ cls := "ObsMessages$Fields", name := "hasRaw", desc := "(IJ)Z" } : MethodName) ({ cls := "ObsMessages$Fields", name := "hasRaw", desc := "(IJ)Z" } : MethodName)) ∈ tb := tb_memk tpc_4 176 rfl rfl
theorem tw_897 : (Cond.code ({ cls := "ObsMessages$Fields", name := "hasRaw", desc := "(IJ)Z" } : MethodName) prog_4_method_6_code (4 : Nat) (Option.some FieldType.boolean)) ∈ tb := tb_memk tpc_4 177 rfl rfl
theorem tw_898 : (Cond.constantLong "ObsMessages$Fields" (42 : Nat) (-9000000000000000000 : Int64)) ∈ tb := tb_memk tpc_4 178 rfl rfl
theorem tw_900 : (Cond.static ({ cls := "ObsMessages", name := "allOnes", desc := "(I)J" } : MethodName)) ∈ tb := tb_memk tpc_4 180 rfl rfl
theorem tw_901 : (Cond.code ({ cls := "ObsMessages", name := "allOnes", desc := "(I)J" } : MethodName) prog_1_method_27_code (1 : Nat) (Option.some FieldType.long)) ∈ tb := tb_memk tpc_4 181 rfl rfl
theorem tw_910 : (Cond.methodLink "ObsMessages$Fields" (38 : Nat) ({ cls := "ObsMessages$Fields", name := "isCountOrBit", desc := "(I)Z" } : MethodName)) ∈ tb := tb_memk tpc_4 190 rfl rfl
theorem tw_916 : (Cond.methodLink "ObsMessages$Writer" (20 : Nat) ({ cls := "ObsMessages$Writer", name := "begin", desc := "(II)V" } : MethodName)) ∈ tb := tb_memk tpc_4 196 rfl rfl
theorem tw_918 : (Cond.instanceMethod ({ cls := "ObsMessages$Writer", name := "begin", desc := "(II)V" } : MethodName)) ∈ tb := tb_memk tpc_4 198 rfl rfl
theorem tw_919 : (Cond.code ({ cls := "ObsMessages$Writer", name := "begin", desc := "(II)V" } : MethodName) prog_12_method_4_code (3 : Nat) (Option.none : Option FieldType)) ∈ tb := tb_memk tpc_4 199 rfl rfl
theorem tw_920 : (Cond.methodLink "ObsMessages$Writer" (59 : Nat) ({ cls := "ObsMessages$Bits", name := "empty", desc := "()V" } : MethodName)) ∈ tb := tb_memk tpc_4 200 rfl rfl
theorem tw_921 : (Cond.instanceMethod ({ cls := "ObsMessages$Bits", name := "empty", desc := "()V" } : MethodName)) ∈ tb := tb_memk tpc_4 201 rfl rfl
theorem tw_922 : (Cond.selects "ObsMessages$Bits" ({ cls := "ObsMessages$Bits", name := "empty", desc := "()V" } : MethodName) ({ cls := "ObsMessages$Bits", name := "empty", desc := "()V" } : MethodName)) ∈ tb := tb_memk tpc_4 202 rfl rfl
theorem tw_923 : (Cond.code ({ cls := "ObsMessages$Bits", name := "empty", desc := "()V" } : MethodName) prog_2_method_2_code (1 : Nat) (Option.none : Option FieldType)) ∈ tb := tb_memk tpc_4 203 rfl rfl
theorem tw_924 : (Cond.methodLink "ObsMessages$Bits" (13 : Nat) ({ cls := "java/util/Arrays", name := "fill", desc := "([II)V" } : MethodName)) ∈ tb := tb_memk tpc_4 204 rfl rfl
theorem tw_925 : (Cond.methodLink "ObsMessages$Writer" (48 : Nat) ({ cls := "ObsMessages$Bits", name := "add", desc := "(JI)V" } : MethodName)) ∈ tb := tb_memk tpc_4 205 rfl rfl
theorem tw_926 : (Cond.methodLink "ObsMessages$Writer" (24 : Nat) ({ cls := "ObsMessages$Walk", name := "over", desc := "([J)V" } : MethodName)) ∈ tb := tb_memk tpc_4 206 rfl rfl
theorem tw_927 : (Cond.methodLink "ObsMessages$Writer" (55 : Nat) ({ cls := "ObsMessages$Writer", name := "addPacked", desc := "(LObsMessages$Fields;I[[JI)V" } : MethodName)) ∈ tb := tb_memk tpc_4 207 rfl rfl
theorem tw_929 : (Cond.instanceMethod ({ cls := "ObsMessages$Writer", name := "addPacked", desc := "(LObsMessages$Fields;I[[JI)V" } : MethodName)) ∈ tb := tb_memk tpc_4 209 rfl rfl
theorem tw_930 : (Cond.code ({ cls := "ObsMessages$Writer", name := "addPacked", desc := "(LObsMessages$Fields;I[[JI)V" } : MethodName) prog_12_method_6_code (14 : Nat) (Option.none : Option FieldType)) ∈ tb := tb_memk tpc_4 210 rfl rfl
theorem tw_932 : (Cond.methodLink "ObsMessages$Writer" (40 : Nat) ({ cls := "ObsMessages$Fields", name := "rawOf", desc := "(IJ)J" } : MethodName)) ∈ tb := tb_memk tpc_4 212 rfl rfl
theorem tw_933 : (Cond.instanceMethod ({ cls := "ObsMessages$Fields", name := "rawOf", desc := "(IJ)J" } : MethodName)) ∈ tb := tb_memk tpc_4 213 rfl rfl
theorem tw_934 : (Cond.selects "ObsMessages$Fields" ({ cls := "ObsMessages$Fields", name := "rawOf", desc := "(IJ)J" } : MethodName) ({ cls := "ObsMessages$Fields", name := "rawOf", desc := "(IJ)J" } : MethodName)) ∈ tb := tb_memk tpc_4 214 rfl rfl
theorem tw_935 : (Cond.code ({ cls := "ObsMessages$Fields", name := "rawOf", desc := "(IJ)J" } : MethodName) prog_4_method_7_code (4 : Nat) (Option.some FieldType.long)) ∈ tb := tb_memk tpc_4 215 rfl rfl
theorem tw_936 : (Cond.methodLink "ObsMessages$Writer" (74 : Nat) ({ cls := "ObsMessages$Fields", name := "isMissing", desc := "(IJ)Z" } : MethodName)) ∈ tb := tb_memk tpc_4 216 rfl rfl
theorem tw_937 : (Cond.instanceMethod ({ cls := "ObsMessages$Fields", name := "isMissing", desc := "(IJ)Z" } : MethodName)) ∈ tb := tb_memk tpc_4 217 rfl rfl
theorem tw_938 : (Cond.selects "ObsMessages$Fields" ({ cls := "ObsMessages$Fields", name := "isMissing", desc := "(IJ)Z" } : MethodName) ({ cls := "ObsMessages$Fields", name := "isMissing", desc := "(IJ)Z" } : MethodName)) ∈ tb := tb_memk tpc_4 218 rfl rfl
theorem tw_939 : (Cond.code ({ cls := "ObsMessages$Fields", name := "isMissing", desc := "(IJ)Z" } : MethodName) prog_4_method_8_code (4 : Nat) (Option.some FieldType.boolean)) ∈ tb := tb_memk tpc_4 219 rfl rfl
theorem tw_940 : (Cond.methodLink "ObsMessages$Writer" (78 : Nat) ({ cls := "java/lang/Math", name := "min", desc := "(JJ)J" } : MethodName)) ∈ tb := tb_memk tpc_4 220 rfl rfl
theorem tw_941 : (Cond.static ({ cls := "java/lang/Math", name := "min", desc := "(JJ)J" } : MethodName)) ∈ tb := tb_memk tpc_4 221 rfl rfl
theorem tw_942 : (Cond.code ({ cls := "java/lang/Math", name := "min", desc := "(JJ)J" } : MethodName) prog_19_method_70_code (4 : Nat) (Option.some FieldType.long)) ∈ tb := tb_memk tpc_4 222 rfl rfl
theorem tw_943 : (Cond.methodLink "ObsMessages$Writer" (84 : Nat) ({ cls := "java/lang/Math", name := "max", desc := "(JJ)J" } : MethodName)) ∈ tb := tb_memk tpc_4 223 rfl rfl
theorem tw_944 : (Cond.static ({ cls := "java/lang/Math", name := "max", desc := "(JJ)J" } : MethodName)) ∈ tb := tb_memk tpc_4 224 rfl rfl
theorem tw_945 : (Cond.code ({ cls := "java/lang/Math", name := "max", desc := "(JJ)J" } : MethodName) prog_19_method_66_code (4 : Nat) (Option.some FieldType.long)) ∈ tb := tb_memk tpc_4 225 rfl rfl
theorem tw_946 : (Cond.methodLink "ObsMessages$Writer" (87 : Nat) ({ cls := "ObsMessages$Writer", name := "spreadOf", desc := "(JZ)I" } : MethodName)) ∈ tb := tb_memk tpc_4 226 rfl rfl
theorem tw_947 : (Cond.static ({ cls := "ObsMessages$Writer", name := "spreadOf", desc := "(JZ)I" } : MethodName)) ∈ tb := tb_memk tpc_4 227 rfl rfl
theorem tw_948 : (Cond.code ({ cls := "ObsMessages$Writer", name := "spreadOf", desc := "(JZ)I" } : MethodName) prog_12_method_7_code (3 : Nat) (Option.some FieldType.int)) ∈ tb := tb_memk tpc_4 228 rfl rfl
theorem tw_950 : (Cond.static ({ cls := "ObsMessages", name := "bitLength", desc := "(J)I" } : MethodName)) ∈ tb := tb_memk tpc_4 230 rfl rfl
theorem tw_951 : (Cond.code ({ cls := "ObsMessages", name := "bitLength", desc := "(J)I" } : MethodName) prog_1_method_26_code (3 : Nat) (Option.some FieldType.int)) ∈ tb := tb_memk tpc_4 231 rfl rfl
theorem tw_952 : (Cond.methodLink "ObsMessages$Writer" (52 : Nat) ({ cls := "ObsMessages$Writer", name := "end", desc := "()V" } : MethodName)) ∈ tb := tb_memk tpc_4 232 rfl rfl
theorem tw_954 : (Cond.instanceMethod ({ cls := "ObsMessages$Writer", name := "end", desc := "()V" } : MethodName)) ∈ tb := tb_memk tpc_4 234 rfl rfl
theorem tw_955 : (Cond.code ({ cls := "ObsMessages$Writer", name := "end", desc := "()V" } : MethodName) prog_12_method_5_code (2 : Nat) (Option.none : Option FieldType)) ∈ tb := tb_memk tpc_4 235 rfl rfl
theorem tw_971 : (Cond.methodLink "ObsMessages" (331 : Nat) ({ cls := "ObsMessages$Reader", name := "open", desc := "()Z" } : MethodName)) ∈ tb := tb_memk tpc_5 11 rfl rfl
theorem tw_972 : (Cond.instanceMethod ({ cls := "ObsMessages$Reader", name := "open", desc := "()Z" } : MethodName)) ∈ tb := tb_memk tpc_5 12 rfl rfl
theorem tw_973 : (Cond.selects "ObsMessages$Reader" ({ cls := "ObsMessages$Reader", name := "open", desc := "()Z" } : MethodName) ({ cls := "ObsMessages$Reader", name := "open", desc := "()Z" } : MethodName)) ∈ tb := tb_memk tpc_5 13 rfl rfl
theorem tw_974 : (Cond.code ({ cls := "ObsMessages$Reader", name := "open", desc := "()Z" } : MethodName) prog_9_method_2_code (3 : Nat) (Option.some FieldType.boolean)) ∈ tb := tb_memk tpc_5 14 rfl rfl
theorem tw_975 : (Cond.methodLink "ObsMessages$Reader" (27 : Nat) ({ cls := "ObsMessages$Bits", name := "byteCount", desc := "()I" } : MethodName)) ∈ tb := tb_memk tpc_5 15 rfl rfl
theorem tw_976 : (Cond.constantLong "ObsMessages$Reader" (52 : Nat) (-9000000000000000000 : Int64)) ∈ tb := tb_memk tpc_5 16 rfl rfl
theorem tw_977 : (Cond.methodLink "ObsMessages$Reader" (54 : Nat) ({ cls := "java/util/Arrays", name := "fill", desc := "([JJ)V" } : MethodName)) ∈ tb := tb_memk tpc_5 17 rfl rfl
theorem tw_978 : (Cond.methodLink "ObsMessages$Reader" (63 : Nat) ({ cls := "ObsMessages$Bits", name := "numberAt", desc := "(II)J" } : MethodName)) ∈ tb := tb_memk tpc_5 18 rfl rfl
theorem tw_979 : (Cond.instanceMethod ({ cls := "ObsMessages$Bits", name := "numberAt", desc := "(II)J" } : MethodName)) ∈ tb := tb_memk tpc_5 19 rfl rfl
theorem tw_980 : (Cond.selects "ObsMessages$Bits" ({ cls := "ObsMessages$Bits", name := "numberAt", desc := "(II)J" } : MethodName) ({ cls := "ObsMessages$Bits", name := "numberAt", desc := "(II)J" } : MethodName)) ∈ tb := tb_memk tpc_5 20 rfl rfl
theorem tw_981 : (Cond.code ({ cls := "ObsMessages$Bits", name := "numberAt", desc := "(II)J" } : MethodName) prog_2_method_5_code (6 : Nat) (Option.some FieldType.long)) ∈ tb := tb_memk tpc_5 21 rfl rfl
theorem tw_982 : (Cond.methodLink "ObsMessages$Bits" (23 : Nat) ({ cls := "ObsMessages$Bits", name := "bitAt", desc := "(I)I" } : MethodName)) ∈ tb := tb_memk tpc_5 22 rfl rfl
theorem tw_984 : (Cond.instanceMethod ({ cls := "ObsMessages$Bits", name := "bitAt", desc := "(I)I" } : MethodName)) ∈ tb := tb_memk tpc_5 24 rfl rfl
theorem tw_985 : (Cond.code ({ cls := "ObsMessages$Bits", name := "bitAt", desc := "(I)I" } : MethodName) prog_2_method_6_code (2 : Nat) (Option.some FieldType.int)) ∈ tb := tb_memk tpc_5 25 rfl rfl
theorem tw_990 : (Cond.methodLink "ObsMessages$Reader" (67 : Nat) ({ cls := "ObsMessages$Walk", name := "begin", desc := "()V" } : MethodName)) ∈ tb := tb_memk tpc_5 30 rfl rfl
theorem tw_991 : (Cond.methodLink "ObsMessages$Reader" (72 : Nat) ({ cls := "ObsMessages$Walk", name := "advance", desc := "()Z" } : MethodName)) ∈ tb := tb_memk tpc_5 31 rfl rfl
theorem tw_992 : (Cond.methodLink "ObsMessages$Reader" (96 : Nat) ({ cls := "ObsMessages$Reader", name := "takePackedValues", desc := "(LObsMessages$Fields;I)Z" } : MethodName)) ∈ tb := tb_memk tpc_5 32 rfl rfl
theorem tw_994 : (Cond.instanceMethod ({ cls := "ObsMessages$Reader", name := "takePackedValues", desc := "(LObsMessages$Fields;I)Z" } : MethodName)) ∈ tb := tb_memk tpc_5 34 rfl rfl
theorem tw_995 : (Cond.code ({ cls := "ObsMessages$Reader", name := "takePackedValues", desc := "(LObsMessages$Fields;I)Z" } : MethodName) prog_9_method_8_code (7 : Nat) (Option.some FieldType.boolean)) ∈ tb := tb_memk tpc_5 35 rfl rfl
theorem tw_996 : (Cond.methodLink "ObsMessages$Reader" (114 : Nat) ({ cls := "ObsMessages$Reader", name := "take", desc := "(I)J" } : MethodName)) ∈ tb := tb_memk tpc_5 36 rfl rfl
theorem tw_998 : (Cond.instanceMethod ({ cls := "ObsMessages$Reader", name := "take", desc := "(I)J" } : MethodName)) ∈ tb := tb_memk tpc_5 38 rfl rfl
theorem tw_999 : (Cond.code ({ cls := "ObsMessages$Reader", name := "take", desc := "(I)J" } : MethodName) prog_9_method_6_code (4 : Nat) (Option.some FieldType.long)) ∈ tb := tb_memk tpc_5 39 rfl rfl
theorem tw_1000 : (Cond.methodLink "ObsMessages$Reader" (122 : Nat) ({ cls := "ObsMessages$Reader", name := "takeOneForAll", desc := "(LObsMessages$Fields;IJ)Z" } : MethodName)) ∈ tb := tb_memk tpc_5 40 rfl rfl
theorem tw_1002 : (Cond.instanceMethod ({ cls := "ObsMessages$Reader", name := "takeOneForAll", desc := "(LObsMessages$Fields;IJ)Z" } : MethodName)) ∈ tb := tb_memk tpc_5 42 rfl rfl
theorem tw_1003 : (Cond.code ({ cls := "ObsMessages$Reader", name := "takeOneForAll", desc := "(LObsMessages$Fields;IJ)Z" } : MethodName) prog_9_method_9_code (6 : Nat) (Option.some FieldType.boolean)) ∈ tb := tb_memk tpc_5 43 rfl rfl
theorem tw_1004 : (Cond.methodLink "ObsMessages$Reader" (118 : Nat) ({ cls := "ObsMessages$Fields", name := "valueOf", desc := "(IJ)J" } : MethodName)) ∈ tb := tb_memk tpc_5 44 rfl rfl
theorem tw_1005 : (Cond.instanceMethod ({ cls := "ObsMessages$Fields", name := "valueOf", desc := "(IJ)J" } : MethodName)) ∈ tb := tb_memk tpc_5 45 rfl rfl
theorem tw_1006 : (Cond.selects "ObsMessages$Fields" ({ cls := "ObsMessages$Fields", name := "valueOf", desc := "(IJ)J" } : MethodName) ({ cls := "ObsMessages$Fields", name := "valueOf", desc := "(IJ)J" } : MethodName)) ∈ tb := tb_memk tpc_5 46 rfl rfl
theorem tw_1007 : (Cond.code ({ cls := "ObsMessages$Fields", name := "valueOf", desc := "(IJ)J" } : MethodName) prog_4_method_9_code (4 : Nat) (Option.some FieldType.long)) ∈ tb := tb_memk tpc_5 47 rfl rfl
theorem tw_1008 : (Cond.methodLink "ObsMessages$Fields" (48 : Nat) ({ cls := "ObsMessages$Fields", name := "isMissing", desc := "(IJ)Z" } : MethodName)) ∈ tb := tb_memk tpc_5 48 rfl rfl
theorem tw_1009 : (Cond.methodLink "ObsMessages$Reader" (137 : Nat) ({ cls := "ObsMessages$Fields", name := "isMissing", desc := "(IJ)Z" } : MethodName)) ∈ tb := tb_memk tpc_5 49 rfl rfl
theorem tw_1010 : (Cond.methodLink "ObsMessages$Reader" (126 : Nat) ({ cls := "ObsMessages$Fields", name := "isCountOrBit", desc := "(I)Z" } : MethodName)) ∈ tb := tb_memk tpc_5 50 rfl rfl
theorem tw_1011 : (Cond.methodLink "ObsMessages$Reader" (130 : Nat) ({ cls := "ObsMessages$Reader", name := "takeDifferences", desc := "(LObsMessages$Fields;IJI)Z" } : MethodName)) ∈ tb := tb_memk tpc_5 51 rfl rfl
theorem tw_1013 : (Cond.instanceMethod ({ cls := "ObsMessages$Reader", name := "takeDifferences", desc := "(LObsMessages$Fields;IJI)Z" } : MethodName)) ∈ tb := tb_memk tpc_5 53 rfl rfl
theorem tw_1014 : (Cond.code ({ cls := "ObsMessages$Reader", name := "takeDifferences", desc := "(LObsMessages$Fields;IJI)Z" } : MethodName) prog_9_method_10_code (10 : Nat) (Option.some FieldType.boolean)) ∈ tb := tb_memk tpc_5 54 rfl rfl
theorem tw_1016 : (Cond.methodLink "ObsMessages$Reader" (84 : Nat) ({ cls := "ObsMessages$Walk", name := "settle", desc := "(J)V" } : MethodName)) ∈ tb := tb_memk tpc_5 56 rfl rfl
theorem tw_1017 : (Cond.methodLink "ObsMessages$Reader" (88 : Nat) ({ cls := "ObsMessages$Walk", name := "fail", desc := "(II)V" } : MethodName)) ∈ tb := tb_memk tpc_5 57 rfl rfl
theorem tw_1018 : (Cond.methodLink "ObsMessages$Reader" (92 : Nat) ({ cls := "ObsMessages$Reader", name := "endWalk", desc := "(LObsMessages$Walk;IZ)V" } : MethodName)) ∈ tb := tb_memk tpc_5 58 rfl rfl
theorem tw_1020 : (Cond.instanceMethod ({ cls := "ObsMessages$Reader", name := "endWalk", desc := "(LObsMessages$Walk;IZ)V" } : MethodName)) ∈ tb := tb_memk tpc_5 60 rfl rfl
theorem tw_1021 : (Cond.code ({ cls := "ObsMessages$Reader", name := "endWalk", desc := "(LObsMessages$Walk;IZ)V" } : MethodName) prog_9_method_5_code (4 : Nat) (Option.none : Option FieldType)) ∈ tb := tb_memk tpc_5 61 rfl rfl
theorem tw_1027 : (Cond.methodLink "ObsMessages$Reader" (80 : Nat) ({ cls := "ObsMessages$Reader", name := "takePlainValue", desc := "(LObsMessages$Fields;I[J)Z" } : MethodName)) ∈ tb := tb_memk tpc_5 67 rfl rfl
theorem tw_1029 : (Cond.instanceMethod ({ cls := "ObsMessages$Reader", name := "takePlainValue", desc := "(LObsMessages$Fields;I[J)Z" } : MethodName)) ∈ tb := tb_memk tpc_5 69 rfl rfl
theorem tw_1030 : (Cond.code ({ cls := "ObsMessages$Reader", name := "takePlainValue", desc := "(LObsMessages$Fields;I[J)Z" } : MethodName) prog_9_method_7_code (5 : Nat) (Option.some FieldType.boolean)) ∈ tb := tb_memk tpc_5 70 rfl rfl
theorem tw_1061 : (Cond.constantLong "ObsMessages$Grid" (46 : Nat) (2000000000 : Int64)) ∈ tb := tb_memk tpc_5 101 rfl rfl
theorem tw_1062 : (Cond.constantLong "ObsMessages$Grid" (48 : Nat) (-2000000000 : Int64)) ∈ tb := tb_memk tpc_5 102 rfl rfl
theorem tw_1063 : (Cond.methodLink "ObsMessages$Grid" (50 : Nat) ({ cls := "java/lang/Math", name := "min", desc := "(JJ)J" } : MethodName)) ∈ tb := tb_memk tpc_5 103 rfl rfl
theorem tw_1064 : (Cond.methodLink "ObsMessages$Grid" (56 : Nat) ({ cls := "java/lang/Math", name := "max", desc := "(JJ)J" } : MethodName)) ∈ tb := tb_memk tpc_5 104 rfl rfl
theorem tw_1066 : (Cond.methodLink "ObsMessages$Grid" (63 : Nat) ({ cls := "java/lang/Math", name := "max", desc := "(II)I" } : MethodName)) ∈ tb := tb_memk tpc_5 106 rfl rfl
theorem tw_1067 : (Cond.static ({ cls := "java/lang/Math", name := "max", desc := "(II)I" } : MethodName)) ∈ tb := tb_memk tpc_5 107 rfl rfl
theorem tw_1068 : (Cond.code ({ cls := "java/lang/Math", name := "max", desc := "(II)I" } : MethodName) prog_19_method_65_code (2 : Nat) (Option.some FieldType.int)) ∈ tb := tb_memk tpc_5 108 rfl rfl
theorem tw_1069 : (Cond.methodLink "ObsMessages$Grid" (66 : Nat) ({ cls := "ObsMessages$Grid", name := "inOrder", desc := "(I)I" } : MethodName)) ∈ tb := tb_memk tpc_5 109 rfl rfl
theorem tw_1070 : (Cond.static ({ cls := "ObsMessages$Grid", name := "inOrder", desc := "(I)I" } : MethodName)) ∈ tb := tb_memk tpc_5 110 rfl rfl
theorem tw_1071 : (Cond.code ({ cls := "ObsMessages$Grid", name := "inOrder", desc := "(I)I" } : MethodName) prog_6_method_5_code (3 : Nat) (Option.some FieldType.int)) ∈ tb := tb_memk tpc_5 111 rfl rfl
theorem tw_1072 : (Cond.methodLink "ObsMessages$Grid" (70 : Nat) ({ cls := "ObsMessages$Grid", name := "takeCode", desc := "(IJI)V" } : MethodName)) ∈ tb := tb_memk tpc_5 112 rfl rfl
theorem tw_1074 : (Cond.instanceMethod ({ cls := "ObsMessages$Grid", name := "takeCode", desc := "(IJI)V" } : MethodName)) ∈ tb := tb_memk tpc_5 114 rfl rfl
theorem tw_1075 : (Cond.code ({ cls := "ObsMessages$Grid", name := "takeCode", desc := "(IJI)V" } : MethodName) prog_6_method_4_code (5 : Nat) (Option.none : Option FieldType)) ∈ tb := tb_memk tpc_5 115 rfl rfl
theorem tw_1080 : (Cond.methodLink "ObsMessages$Grid" (74 : Nat) ({ cls := "ObsMessages$Grid", name := "cutFrom", desc := "(II)V" } : MethodName)) ∈ tb := tb_memk tpc_5 120 rfl rfl
theorem tw_1082 : (Cond.instanceMethod ({ cls := "ObsMessages$Grid", name := "cutFrom", desc := "(II)V" } : MethodName)) ∈ tb := tb_memk tpc_5 122 rfl rfl
theorem tw_1083 : (Cond.code ({ cls := "ObsMessages$Grid", name := "cutFrom", desc := "(II)V" } : MethodName) prog_6_method_7_code (9 : Nat) (Option.none : Option FieldType)) ∈ tb := tb_memk tpc_5 123 rfl rfl
theorem tw_1084 : (Cond.constant "ObsMessages$Grid" (81 : Nat) (1000000 : Int32)) ∈ tb := tb_memk tpc_5 124 rfl rfl
theorem tw_1092 : (Cond.constantLong "ObsMessagesModel" (137 : Nat) (-9000000000000000000 : Int64)) ∈ tb := tb_memk tpc_5 132 rfl rfl
theorem tw_1093 : (Cond.fieldLink "ObsMessagesModel" (139 : Nat) "ObsMessagesModel" "thrown" "I") ∈ tb := tb_memk tpc_5 133 rfl rfl
theorem tw_1094 : (Cond.fieldLink "ObsMessagesModel" (7 : Nat) "ObsMessagesModel" "there" "[Z") ∈ tb := tb_memk tpc_5 134 rfl rfl
theorem tw_1095 : (Cond.fieldLink "ObsMessagesModel" (13 : Nat) "ObsMessagesModel" "scales" "[I") ∈ tb := tb_memk tpc_5 135 rfl rfl
theorem tw_1096 : (Cond.fieldLink "ObsMessagesModel" (17 : Nat) "ObsMessagesModel" "references" "[I") ∈ tb := tb_memk tpc_5 136 rfl rfl
theorem tw_1097 : (Cond.fieldLink "ObsMessagesModel" (20 : Nat) "ObsMessagesModel" "widths" "[I") ∈ tb := tb_memk tpc_5 137 rfl rfl
theorem tw_1098 : (Cond.fieldLink "ObsMessagesModel" (23 : Nat) "ObsMessagesModel" "used" "I") ∈ tb := tb_memk tpc_5 138 rfl rfl
theorem tw_1099 : (Cond.fieldLink "ObsMessagesModel" (27 : Nat) "ObsMessagesModel" "lists" "[I") ∈ tb := tb_memk tpc_5 139 rfl rfl
theorem tw_1100 : (Cond.fieldLink "ObsMessagesModel" (30 : Nat) "ObsMessagesModel" "lengths" "[I") ∈ tb := tb_memk tpc_5 140 rfl rfl
theorem tw_1101 : (Cond.fieldLink "ObsMessagesModel" (173 : Nat) "ObsMessagesModel" "fault" "I") ∈ tb := tb_memk tpc_5 141 rfl rfl
theorem tw_1102 : (Cond.fieldLink "ObsMessagesModel" (33 : Nat) "ObsMessagesModel" "place" "I") ∈ tb := tb_memk tpc_5 142 rfl rfl
theorem tw_1103 : (Cond.fieldLink "ObsMessagesModel" (36 : Nat) "ObsMessagesModel" "values" "[J") ∈ tb := tb_memk tpc_5 143 rfl rfl
theorem tw_1104 : (Cond.fieldLink "ObsMessagesModel" (40 : Nat) "ObsMessagesModel" "read" "[J") ∈ tb := tb_memk tpc_5 144 rfl rfl
theorem tw_1105 : (Cond.fieldLink "ObsMessagesModel" (163 : Nat) "ObsMessagesModel" "open" "I") ∈ tb := tb_memk tpc_5 145 rfl rfl
theorem tw_1106 : (Cond.fieldLink "ObsMessagesModel" (43 : Nat) "ObsMessagesModel" "list" "[I") ∈ tb := tb_memk tpc_5 146 rfl rfl
theorem tw_1107 : (Cond.fieldLink "ObsMessagesModel" (46 : Nat) "ObsMessagesModel" "next" "[I") ∈ tb := tb_memk tpc_5 147 rfl rfl
theorem tw_1108 : (Cond.fieldLink "ObsMessagesModel" (49 : Nat) "ObsMessagesModel" "end" "[I") ∈ tb := tb_memk tpc_5 148 rfl rfl
theorem tw_1109 : (Cond.fieldLink "ObsMessagesModel" (52 : Nat) "ObsMessagesModel" "begin" "[I") ∈ tb := tb_memk tpc_5 149 rfl rfl
theorem tw_1110 : (Cond.fieldLink "ObsMessagesModel" (55 : Nat) "ObsMessagesModel" "left" "[I") ∈ tb := tb_memk tpc_5 150 rfl rfl
theorem tw_1111 : (Cond.fieldLink "ObsMessagesModel" (58 : Nat) "ObsMessagesModel" "turn" "[I") ∈ tb := tb_memk tpc_5 151 rfl rfl
theorem tw_1112 : (Cond.fieldLink "ObsMessagesModel" (61 : Nat) "ObsMessagesModel" "foundOps" "[I") ∈ tb := tb_memk tpc_5 152 rfl rfl
theorem tw_1113 : (Cond.fieldLink "ObsMessagesModel" (64 : Nat) "ObsMessagesModel" "ops" "[I") ∈ tb := tb_memk tpc_5 153 rfl rfl
theorem tw_1114 : (Cond.fieldLink "ObsMessagesModel" (166 : Nat) "ObsMessagesModel" "looked" "I") ∈ tb := tb_memk tpc_5 154 rfl rfl
theorem tw_1115 : (Cond.fieldLink "ObsMessagesModel" (258 : Nat) "ObsMessagesModel" "fields" "I") ∈ tb := tb_memk tpc_5 155 rfl rfl
theorem tw_1116 : (Cond.fieldLink "ObsMessagesModel" (67 : Nat) "ObsMessagesModel" "kind" "[I") ∈ tb := tb_memk tpc_5 156 rfl rfl
theorem tw_1117 : (Cond.fieldLink "ObsMessagesModel" (70 : Nat) "ObsMessagesModel" "code" "[I") ∈ tb := tb_memk tpc_5 157 rfl rfl
theorem tw_1118 : (Cond.fieldLink "ObsMessagesModel" (73 : Nat) "ObsMessagesModel" "width" "[I") ∈ tb := tb_memk tpc_5 158 rfl rfl
theorem tw_1119 : (Cond.fieldLink "ObsMessagesModel" (76 : Nat) "ObsMessagesModel" "scale" "[I") ∈ tb := tb_memk tpc_5 159 rfl rfl
theorem tw_1120 : (Cond.fieldLink "ObsMessagesModel" (79 : Nat) "ObsMessagesModel" "link" "[I") ∈ tb := tb_memk tpc_5 160 rfl rfl
theorem tw_1121 : (Cond.fieldLink "ObsMessagesModel" (82 : Nat) "ObsMessagesModel" "repeat" "[I") ∈ tb := tb_memk tpc_5 161 rfl rfl
theorem tw_1122 : (Cond.fieldLink "ObsMessagesModel" (85 : Nat) "ObsMessagesModel" "base" "[J") ∈ tb := tb_memk tpc_5 162 rfl rfl
theorem tw_1123 : (Cond.fieldLink "ObsMessagesModel" (273 : Nat) "ObsMessagesModel" "elements" "I") ∈ tb := tb_memk tpc_5 163 rfl rfl
theorem tw_1124 : (Cond.fieldLink "ObsMessagesModel" (276 : Nat) "ObsMessagesModel" "pointed" "I") ∈ tb := tb_memk tpc_5 164 rfl rfl
theorem tw_1125 : (Cond.fieldLink "ObsMessagesModel" (279 : Nat) "ObsMessagesModel" "pointer" "I") ∈ tb := tb_memk tpc_5 165 rfl rfl
theorem tw_1126 : (Cond.fieldLink "ObsMessagesModel" (88 : Nat) "ObsMessagesModel" "elementAt" "[I") ∈ tb := tb_memk tpc_5 166 rfl rfl
theorem tw_1127 : (Cond.fieldLink "ObsMessagesModel" (91 : Nat) "ObsMessagesModel" "pointAt" "[I") ∈ tb := tb_memk tpc_5 167 rfl rfl
theorem tw_1128 : (Cond.fieldLink "ObsMessagesModel" (223 : Nat) "ObsMessagesModel" "mode" "I") ∈ tb := tb_memk tpc_5 168 rfl rfl
theorem tw_1129 : (Cond.fieldLink "ObsMessagesModel" (226 : Nat) "ObsMessagesModel" "subset" "I") ∈ tb := tb_memk tpc_5 169 rfl rfl
theorem tw_1130 : (Cond.fieldLink "ObsMessagesModel" (248 : Nat) "ObsMessagesModel" "subsets" "I") ∈ tb := tb_memk tpc_5 170 rfl rfl
theorem tw_1131 : (Cond.fieldLink "ObsMessagesModel" (95 : Nat) "ObsMessagesModel" "bits" "[Z") ∈ tb := tb_memk tpc_5 171 rfl rfl
theorem tw_1132 : (Cond.fieldLink "ObsMessagesModel" (98 : Nat) "ObsMessagesModel" "made" "[Z") ∈ tb := tb_memk tpc_5 172 rfl rfl
theorem tw_1133 : (Cond.fieldLink "ObsMessagesModel" (232 : Nat) "ObsMessagesModel" "many" "I") ∈ tb := tb_memk tpc_5 173 rfl rfl
theorem tw_1134 : (Cond.fieldLink "ObsMessagesModel" (229 : Nat) "ObsMessagesModel" "at" "I") ∈ tb := tb_memk tpc_5 174 rfl rfl
theorem tw_1135 : (Cond.fieldLink "ObsMessagesModel" (329 : Nat) "ObsMessagesModel" "madeMany" "I") ∈ tb := tb_memk tpc_5 175 rfl rfl
theorem tw_1136 : (Cond.fieldLink "ObsMessagesModel" (332 : Nat) "ObsMessagesModel" "madeKind" "I") ∈ tb := tb_memk tpc_5 176 rfl rfl
theorem tw_1137 : (Cond.fieldLink "ObsMessagesModel" (335 : Nat) "ObsMessagesModel" "madeSubsets" "I") ∈ tb := tb_memk tpc_5 177 rfl rfl
theorem tw_1138 : (Cond.fieldLink "ObsMessagesModel" (338 : Nat) "ObsMessagesModel" "written" "Z") ∈ tb := tb_memk tpc_5 178 rfl rfl
theorem tw_1139 : (Cond.fieldLink "ObsMessagesModel" (342 : Nat) "ObsMessagesModel" "taped" "I") ∈ tb := tb_memk tpc_5 179 rfl rfl
theorem tw_1140 : (Cond.fieldLink "ObsMessagesModel" (101 : Nat) "ObsMessagesModel" "tape" "[I") ∈ tb := tb_memk tpc_5 180 rfl rfl
theorem tw_1141 : (Cond.fieldLink "ObsMessagesModel" (104 : Nat) "ObsMessagesModel" "firstKind" "[I") ∈ tb := tb_memk tpc_5 181 rfl rfl
theorem tw_1142 : (Cond.fieldLink "ObsMessagesModel" (107 : Nat) "ObsMessagesModel" "firstWidth" "[I") ∈ tb := tb_memk tpc_5 182 rfl rfl
theorem tw_1143 : (Cond.fieldLink "ObsMessagesModel" (110 : Nat) "ObsMessagesModel" "firstScale" "[I") ∈ tb := tb_memk tpc_5 183 rfl rfl
theorem tw_1144 : (Cond.fieldLink "ObsMessagesModel" (113 : Nat) "ObsMessagesModel" "firstBase" "[J") ∈ tb := tb_memk tpc_5 184 rfl rfl
theorem tw_1145 : (Cond.fieldLink "ObsMessagesModel" (307 : Nat) "ObsMessagesModel" "firstFields" "I") ∈ tb := tb_memk tpc_5 185 rfl rfl
theorem tw_1146 : (Cond.fieldLink "ObsMessagesModel" (116 : Nat) "ObsMessagesModel" "points" "[J") ∈ tb := tb_memk tpc_5 186 rfl rfl
theorem tw_1147 : (Cond.fieldLink "ObsMessagesModel" (119 : Nat) "ObsMessagesModel" "packed" "[J") ∈ tb := tb_memk tpc_5 187 rfl rfl
theorem tw_1148 : (Cond.fieldLink "ObsMessagesModel" (122 : Nat) "ObsMessagesModel" "codes" "I") ∈ tb := tb_memk tpc_5 188 rfl rfl
theorem tw_1149 : (Cond.fieldLink "ObsMessagesModel" (361 : Nat) "ObsMessagesModel" "groups" "I") ∈ tb := tb_memk tpc_5 189 rfl rfl
theorem tw_1150 : (Cond.fieldLink "ObsMessagesModel" (125 : Nat) "ObsMessagesModel" "codeOf" "[J") ∈ tb := tb_memk tpc_5 190 rfl rfl
theorem tw_1151 : (Cond.fieldLink "ObsMessagesModel" (128 : Nat) "ObsMessagesModel" "cost" "[J") ∈ tb := tb_memk tpc_5 191 rfl rfl
theorem tw_1152 : (Cond.fieldLink "ObsMessagesModel" (131 : Nat) "ObsMessagesModel" "cut" "[I") ∈ tb := tb_memk tpc_5 192 rfl rfl
theorem tw_1153 : (Cond.fieldLink "ObsMessagesModel" (134 : Nat) "ObsMessagesModel" "ends" "[I") ∈ tb := tb_memk tpc_5 193 rfl rfl
theorem tw_1282 : (Cond.methodLink "ObsMessagesModel" (142 : Nat) ({ cls := "ObsMessagesModel", name := "isEntry", desc := "(II)Z" } : MethodName)) ∈ tb := tb_memk tpc_6 82 rfl rfl
theorem tw_1283 : (Cond.static ({ cls := "ObsMessagesModel", name := "isEntry", desc := "(II)Z" } : MethodName)) ∈ tb := tb_memk tpc_6 83 rfl rfl
theorem tw_1284 : (Cond.code ({ cls := "ObsMessagesModel", name := "isEntry", desc := "(II)Z" } : MethodName) prog_14_method_4_code (2 : Nat) (Option.some FieldType.boolean)) ∈ tb := tb_memk tpc_6 84 rfl rfl
theorem tw_1285 : (Cond.constant "ObsMessagesModel" (146 : Nat) (-1000000000 : Int32)) ∈ tb := tb_memk tpc_6 85 rfl rfl
theorem tw_1286 : (Cond.constant "ObsMessagesModel" (147 : Nat) (1000000000 : Int32)) ∈ tb := tb_memk tpc_6 86 rfl rfl
theorem tw_1287 : (Cond.methodLink "ObsMessagesModel" (148 : Nat) ({ cls := "ObsMessagesModel", name := "entry", desc := "(II)I" } : MethodName)) ∈ tb := tb_memk tpc_6 87 rfl rfl
theorem tw_1288 : (Cond.static ({ cls := "ObsMessagesModel", name := "entry", desc := "(II)I" } : MethodName)) ∈ tb := tb_memk tpc_6 88 rfl rfl
theorem tw_1289 : (Cond.code ({ cls := "ObsMessagesModel", name := "entry", desc := "(II)I" } : MethodName) prog_14_method_3_code (2 : Nat) (Option.some FieldType.int)) ∈ tb := tb_memk tpc_6 89 rfl rfl
theorem tw_1302 : (Cond.methodLink "ObsMessagesModel" (160 : Nat) ({ cls := "ObsMessagesModel", name := "isDescriptor", desc := "(I)Z" } : MethodName)) ∈ tb := tb_memk tpc_6 102 rfl rfl
theorem tw_1303 : (Cond.static ({ cls := "ObsMessagesModel", name := "isDescriptor", desc := "(I)Z" } : MethodName)) ∈ tb := tb_memk tpc_6 103 rfl rfl
theorem tw_1304 : (Cond.code ({ cls := "ObsMessagesModel", name := "isDescriptor", desc := "(I)Z" } : MethodName) prog_14_method_10_code (2 : Nat) (Option.some FieldType.boolean)) ∈ tb := tb_memk tpc_6 104 rfl rfl
theorem tw_1305 : (Cond.methodLink "ObsMessagesModel" (152 : Nat) ({ cls := "ObsMessagesModel", name := "isRepeat", desc := "(I)Z" } : MethodName)) ∈ tb := tb_memk tpc_6 105 rfl rfl
theorem tw_1306 : (Cond.static ({ cls := "ObsMessagesModel", name := "isRepeat", desc := "(I)Z" } : MethodName)) ∈ tb := tb_memk tpc_6 106 rfl rfl
theorem tw_1307 : (Cond.code ({ cls := "ObsMessagesModel", name := "isRepeat", desc := "(I)Z" } : MethodName) prog_14_method_9_code (1 : Nat) (Option.some FieldType.boolean)) ∈ tb := tb_memk tpc_6 107 rfl rfl
theorem tw_1316 : (Cond.methodLink "ObsMessagesModel" (220 : Nat) ({ cls := "ObsMessagesModel", name := "compileAll", desc := "()V" } : MethodName)) ∈ tb := tb_memk tpc_6 116 rfl rfl
theorem tw_1318 : (Cond.instanceMethod ({ cls := "ObsMessagesModel", name := "compileAll", desc := "()V" } : MethodName)) ∈ tb := tb_memk tpc_6 118 rfl rfl
theorem tw_1319 : (Cond.code ({ cls := "ObsMessagesModel", name := "compileAll", desc := "()V" } : MethodName) prog_14_method_27_code (2 : Nat) (Option.none : Option FieldType)) ∈ tb := tb_memk tpc_6 119 rfl rfl
theorem tw_1320 : (Cond.methodLink "ObsMessagesModel" (207 : Nat) ({ cls := "ObsMessagesModel", name := "fresh", desc := "()V" } : MethodName)) ∈ tb := tb_memk tpc_6 120 rfl rfl
theorem tw_1322 : (Cond.instanceMethod ({ cls := "ObsMessagesModel", name := "fresh", desc := "()V" } : MethodName)) ∈ tb := tb_memk tpc_6 122 rfl rfl
theorem tw_1323 : (Cond.code ({ cls := "ObsMessagesModel", name := "fresh", desc := "()V" } : MethodName) prog_14_method_18_code (1 : Nat) (Option.none : Option FieldType)) ∈ tb := tb_memk tpc_6 123 rfl rfl
theorem tw_1324 : (Cond.methodLink "ObsMessagesModel" (210 : Nat) ({ cls := "ObsMessagesModel", name := "start", desc := "()V" } : MethodName)) ∈ tb := tb_memk tpc_6 124 rfl rfl
theorem tw_1326 : (Cond.instanceMethod ({ cls := "ObsMessagesModel", name := "start", desc := "()V" } : MethodName)) ∈ tb := tb_memk tpc_6 126 rfl rfl
theorem tw_1327 : (Cond.code ({ cls := "ObsMessagesModel", name := "start", desc := "()V" } : MethodName) prog_14_method_16_code (2 : Nat) (Option.none : Option FieldType)) ∈ tb := tb_memk tpc_6 127 rfl rfl
theorem tw_1328 : (Cond.methodLink "ObsMessagesModel" (169 : Nat) ({ cls := "ObsMessagesModel", name := "enter", desc := "(IIIII)V" } : MethodName)) ∈ tb := tb_memk tpc_6 128 rfl rfl
theorem tw_1330 : (Cond.instanceMethod ({ cls := "ObsMessagesModel", name := "enter", desc := "(IIIII)V" } : MethodName)) ∈ tb := tb_memk tpc_6 130 rfl rfl
theorem tw_1331 : (Cond.code ({ cls := "ObsMessagesModel", name := "enter", desc := "(IIIII)V" } : MethodName) prog_14_method_15_code (7 : Nat) (Option.none : Option FieldType)) ∈ tb := tb_memk tpc_6 131 rfl rfl
theorem tw_1332 : (Cond.methodLink "ObsMessagesModel" (213 : Nat) ({ cls := "ObsMessagesModel", name := "leavesOther", desc := "(I)Z" } : MethodName)) ∈ tb := tb_memk tpc_6 132 rfl rfl
theorem tw_1334 : (Cond.instanceMethod ({ cls := "ObsMessagesModel", name := "leavesOther", desc := "(I)Z" } : MethodName)) ∈ tb := tb_memk tpc_6 134 rfl rfl
theorem tw_1335 : (Cond.code ({ cls := "ObsMessagesModel", name := "leavesOther", desc := "(I)Z" } : MethodName) prog_14_method_19_code (4 : Nat) (Option.some FieldType.boolean)) ∈ tb := tb_memk tpc_6 135 rfl rfl
theorem tw_1336 : (Cond.methodLink "ObsMessagesModel" (176 : Nat) ({ cls := "ObsMessagesModel", name := "where", desc := "()I" } : MethodName)) ∈ tb := tb_memk tpc_6 136 rfl rfl
theorem tw_1338 : (Cond.instanceMethod ({ cls := "ObsMessagesModel", name := "where", desc := "()I" } : MethodName)) ∈ tb := tb_memk tpc_6 138 rfl rfl
theorem tw_1339 : (Cond.code ({ cls := "ObsMessagesModel", name := "where", desc := "()I" } : MethodName) prog_14_method_21_code (2 : Nat) (Option.some FieldType.int)) ∈ tb := tb_memk tpc_6 139 rfl rfl
theorem tw_1340 : (Cond.methodLink "ObsMessagesModel" (184 : Nat) ({ cls := "ObsMessagesModel", name := "wrong", desc := "(II)V" } : MethodName)) ∈ tb := tb_memk tpc_6 140 rfl rfl
theorem tw_1342 : (Cond.instanceMethod ({ cls := "ObsMessagesModel", name := "wrong", desc := "(II)V" } : MethodName)) ∈ tb := tb_memk tpc_6 142 rfl rfl
theorem tw_1343 : (Cond.code ({ cls := "ObsMessagesModel", name := "wrong", desc := "(II)V" } : MethodName) prog_14_method_17_code (3 : Nat) (Option.none : Option FieldType)) ∈ tb := tb_memk tpc_6 143 rfl rfl
theorem tw_1344 : (Cond.methodLink "ObsMessagesModel" (191 : Nat) ({ cls := "ObsMessagesModel", name := "count", desc := "(I)Z" } : MethodName)) ∈ tb := tb_memk tpc_6 144 rfl rfl
theorem tw_1346 : (Cond.instanceMethod ({ cls := "ObsMessagesModel", name := "count", desc := "(I)Z" } : MethodName)) ∈ tb := tb_memk tpc_6 146 rfl rfl
theorem tw_1347 : (Cond.code ({ cls := "ObsMessagesModel", name := "count", desc := "(I)Z" } : MethodName) prog_14_method_26_code (2 : Nat) (Option.some FieldType.boolean)) ∈ tb := tb_memk tpc_6 147 rfl rfl
theorem tw_1348 : (Cond.methodLink "ObsMessagesModel" (216 : Nat) ({ cls := "ObsMessagesModel", name := "look", desc := "(I)V" } : MethodName)) ∈ tb := tb_memk tpc_6 148 rfl rfl
theorem tw_1350 : (Cond.instanceMethod ({ cls := "ObsMessagesModel", name := "look", desc := "(I)V" } : MethodName)) ∈ tb := tb_memk tpc_6 150 rfl rfl
theorem tw_1351 : (Cond.code ({ cls := "ObsMessagesModel", name := "look", desc := "(I)V" } : MethodName) prog_14_method_22_code (8 : Nat) (Option.none : Option FieldType)) ∈ tb := tb_memk tpc_6 151 rfl rfl
theorem tw_1352 : (Cond.methodLink "ObsMessagesModel" (156 : Nat) ({ cls := "ObsMessagesModel", name := "operator", desc := "(I)I" } : MethodName)) ∈ tb := tb_memk tpc_6 152 rfl rfl
theorem tw_1353 : (Cond.static ({ cls := "ObsMessagesModel", name := "operator", desc := "(I)I" } : MethodName)) ∈ tb := tb_memk tpc_6 153 rfl rfl
theorem tw_1354 : (Cond.code ({ cls := "ObsMessagesModel", name := "operator", desc := "(I)I" } : MethodName) prog_14_method_11_code (1 : Nat) (Option.some FieldType.int)) ∈ tb := tb_memk tpc_6 154 rfl rfl
theorem tw_1355 : (Cond.methodLink "ObsMessagesModel" (180 : Nat) ({ cls := "ObsMessagesModel", name := "lookElement", desc := "(IIZ)V" } : MethodName)) ∈ tb := tb_memk tpc_6 155 rfl rfl
theorem tw_1357 : (Cond.instanceMethod ({ cls := "ObsMessagesModel", name := "lookElement", desc := "(IIZ)V" } : MethodName)) ∈ tb := tb_memk tpc_6 157 rfl rfl
theorem tw_1358 : (Cond.code ({ cls := "ObsMessagesModel", name := "lookElement", desc := "(IIZ)V" } : MethodName) prog_14_method_23_code (5 : Nat) (Option.none : Option FieldType)) ∈ tb := tb_memk tpc_6 158 rfl rfl
theorem tw_1359 : (Cond.methodLink "ObsMessagesModel" (197 : Nat) ({ cls := "ObsMessagesModel", name := "force", desc := "(I)I" } : MethodName)) ∈ tb := tb_memk tpc_6 159 rfl rfl
theorem tw_1361 : (Cond.instanceMethod ({ cls := "ObsMessagesModel", name := "force", desc := "(I)I" } : MethodName)) ∈ tb := tb_memk tpc_6 161 rfl rfl
theorem tw_1362 : (Cond.code ({ cls := "ObsMessagesModel", name := "force", desc := "(I)I" } : MethodName) prog_14_method_8_code (3 : Nat) (Option.some FieldType.int)) ∈ tb := tb_memk tpc_6 162 rfl rfl
theorem tw_1363 : (Cond.methodLink "ObsMessagesModel" (200 : Nat) ({ cls := "ObsMessagesModel", name := "added", desc := "(I)I" } : MethodName)) ∈ tb := tb_memk tpc_6 163 rfl rfl
theorem tw_1365 : (Cond.instanceMethod ({ cls := "ObsMessagesModel", name := "added", desc := "(I)I" } : MethodName)) ∈ tb := tb_memk tpc_6 165 rfl rfl
theorem tw_1366 : (Cond.code ({ cls := "ObsMessagesModel", name := "added", desc := "(I)I" } : MethodName) prog_14_method_24_code (2 : Nat) (Option.some FieldType.int)) ∈ tb := tb_memk tpc_6 166 rfl rfl
theorem tw_1367 : (Cond.methodLink "ObsMessagesModel" (203 : Nat) ({ cls := "ObsMessagesModel", name := "isIn", desc := "(III)Z" } : MethodName)) ∈ tb := tb_memk tpc_6 167 rfl rfl
theorem tw_1368 : (Cond.static ({ cls := "ObsMessagesModel", name := "isIn", desc := "(III)Z" } : MethodName)) ∈ tb := tb_memk tpc_6 168 rfl rfl
theorem tw_1369 : (Cond.code ({ cls := "ObsMessagesModel", name := "isIn", desc := "(III)Z" } : MethodName) prog_14_method_25_code (3 : Nat) (Option.some FieldType.boolean)) ∈ tb := tb_memk tpc_6 169 rfl rfl
theorem tw_1370 : (Cond.methodLink "ObsMessagesModel" (188 : Nat) ({ cls := "ObsMessagesModel", name := "sequences", desc := "(I)I" } : MethodName)) ∈ tb := tb_memk tpc_6 170 rfl rfl
theorem tw_1372 : (Cond.instanceMethod ({ cls := "ObsMessagesModel", name := "sequences", desc := "(I)I" } : MethodName)) ∈ tb := tb_memk tpc_6 172 rfl rfl
theorem tw_1373 : (Cond.code ({ cls := "ObsMessagesModel", name := "sequences", desc := "(I)I" } : MethodName) prog_14_method_20_code (4 : Nat) (Option.some FieldType.int)) ∈ tb := tb_memk tpc_6 173 rfl rfl
theorem tw_1374 : (Cond.methodLink "ObsMessagesModel" (194 : Nat) ({ cls := "ObsMessagesModel", name := "begins", desc := "(I)I" } : MethodName)) ∈ tb := tb_memk tpc_6 174 rfl rfl
theorem tw_1375 : (Cond.static ({ cls := "ObsMessagesModel", name := "begins", desc := "(I)I" } : MethodName)) ∈ tb := tb_memk tpc_6 175 rfl rfl
theorem tw_1376 : (Cond.code ({ cls := "ObsMessagesModel", name := "begins", desc := "(I)I" } : MethodName) prog_14_method_12_code (3 : Nat) (Option.some FieldType.int)) ∈ tb := tb_memk tpc_6 176 rfl rfl
theorem tw_1385 : (Cond.methodLink "ObsMessagesModel" (298 : Nat) ({ cls := "ObsMessagesModel", name := "isSubset", desc := "(I)Z" } : MethodName)) ∈ tb := tb_memk tpc_6 185 rfl rfl
theorem tw_1386 : (Cond.static ({ cls := "ObsMessagesModel", name := "isSubset", desc := "(I)Z" } : MethodName)) ∈ tb := tb_memk tpc_6 186 rfl rfl
theorem tw_1387 : (Cond.code ({ cls := "ObsMessagesModel", name := "isSubset", desc := "(I)Z" } : MethodName) prog_14_method_45_code (1 : Nat) (Option.some FieldType.boolean)) ∈ tb := tb_memk tpc_6 187 rfl rfl
theorem tw_1396 : (Cond.methodLink "ObsMessagesModel" (301 : Nat) ({ cls := "ObsMessagesModel", name := "walk", desc := "(II)V" } : MethodName)) ∈ tb := tb_memk tpc_6 196 rfl rfl
theorem tw_1398 : (Cond.instanceMethod ({ cls := "ObsMessagesModel", name := "walk", desc := "(II)V" } : MethodName)) ∈ tb := tb_memk tpc_6 198 rfl rfl
theorem tw_1399 : (Cond.code ({ cls := "ObsMessagesModel", name := "walk", desc := "(II)V" } : MethodName) prog_14_method_44_code (4 : Nat) (Option.none : Option FieldType)) ∈ tb := tb_memk tpc_6 199 rfl rfl
theorem tw_1400 : (Cond.methodLink "ObsMessagesModel" (285 : Nat) ({ cls := "ObsMessagesModel", name := "comes", desc := "()Z" } : MethodName)) ∈ tb := tb_memk tpc_6 200 rfl rfl
theorem tw_1402 : (Cond.instanceMethod ({ cls := "ObsMessagesModel", name := "comes", desc := "()Z" } : MethodName)) ∈ tb := tb_memk tpc_6 202 rfl rfl
theorem tw_1403 : (Cond.code ({ cls := "ObsMessagesModel", name := "comes", desc := "()Z" } : MethodName) prog_14_method_42_code (1 : Nat) (Option.some FieldType.boolean)) ∈ tb := tb_memk tpc_6 203 rfl rfl
theorem tw_1404 : (Cond.methodLink "ObsMessagesModel" (235 : Nat) ({ cls := "ObsMessagesModel", name := "wrongAt", desc := "(II)V" } : MethodName)) ∈ tb := tb_memk tpc_6 204 rfl rfl
theorem tw_1406 : (Cond.instanceMethod ({ cls := "ObsMessagesModel", name := "wrongAt", desc := "(II)V" } : MethodName)) ∈ tb := tb_memk tpc_6 206 rfl rfl
theorem tw_1407 : (Cond.code ({ cls := "ObsMessagesModel", name := "wrongAt", desc := "(II)V" } : MethodName) prog_14_method_30_code (3 : Nat) (Option.none : Option FieldType)) ∈ tb := tb_memk tpc_6 207 rfl rfl
theorem tw_1408 : (Cond.methodLink "ObsMessagesModel" (295 : Nat) ({ cls := "ObsMessagesModel", name := "walkOne", desc := "(I)V" } : MethodName)) ∈ tb := tb_memk tpc_6 208 rfl rfl
theorem tw_1410 : (Cond.instanceMethod ({ cls := "ObsMessagesModel", name := "walkOne", desc := "(I)V" } : MethodName)) ∈ tb := tb_memk tpc_6 210 rfl rfl
theorem tw_1411 : (Cond.code ({ cls := "ObsMessagesModel", name := "walkOne", desc := "(I)V" } : MethodName) prog_14_method_43_code (7 : Nat) (Option.none : Option FieldType)) ∈ tb := tb_memk tpc_6 211 rfl rfl
theorem tw_1412 : (Cond.methodLink "ObsMessagesModel" (282 : Nat) ({ cls := "ObsMessagesModel", name := "walkElement", desc := "(I)V" } : MethodName)) ∈ tb := tb_memk tpc_6 212 rfl rfl
theorem tw_1414 : (Cond.instanceMethod ({ cls := "ObsMessagesModel", name := "walkElement", desc := "(I)V" } : MethodName)) ∈ tb := tb_memk tpc_6 214 rfl rfl
theorem tw_1415 : (Cond.code ({ cls := "ObsMessagesModel", name := "walkElement", desc := "(I)V" } : MethodName) prog_14_method_39_code (4 : Nat) (Option.none : Option FieldType)) ∈ tb := tb_memk tpc_6 215 rfl rfl
theorem tw_1416 : (Cond.methodLink "ObsMessagesModel" (269 : Nat) ({ cls := "ObsMessagesModel", name := "come", desc := "(IIIIJI)J" } : MethodName)) ∈ tb := tb_memk tpc_6 216 rfl rfl
theorem tw_1418 : (Cond.instanceMethod ({ cls := "ObsMessagesModel", name := "come", desc := "(IIIIJI)J" } : MethodName)) ∈ tb := tb_memk tpc_6 218 rfl rfl
theorem tw_1419 : (Cond.code ({ cls := "ObsMessagesModel", name := "come", desc := "(IIIIJI)J" } : MethodName) prog_14_method_38_code (11 : Nat) (Option.some FieldType.long)) ∈ tb := tb_memk tpc_6 219 rfl rfl
theorem tw_1420 : (Cond.methodLink "ObsMessagesModel" (261 : Nat) ({ cls := "ObsMessagesModel", name := "repetition", desc := "()I" } : MethodName)) ∈ tb := tb_memk tpc_6 220 rfl rfl
theorem tw_1422 : (Cond.instanceMethod ({ cls := "ObsMessagesModel", name := "repetition", desc := "()I" } : MethodName)) ∈ tb := tb_memk tpc_6 222 rfl rfl
theorem tw_1423 : (Cond.code ({ cls := "ObsMessagesModel", name := "repetition", desc := "()I" } : MethodName) prog_14_method_37_code (2 : Nat) (Option.some FieldType.int)) ∈ tb := tb_memk tpc_6 223 rfl rfl
theorem tw_1424 : (Cond.methodLink "ObsMessagesModel" (264 : Nat) ({ cls := "ObsMessagesModel", name := "valueOf", desc := "(I)J" } : MethodName)) ∈ tb := tb_memk tpc_6 224 rfl rfl
theorem tw_1426 : (Cond.instanceMethod ({ cls := "ObsMessagesModel", name := "valueOf", desc := "(I)J" } : MethodName)) ∈ tb := tb_memk tpc_6 226 rfl rfl
theorem tw_1427 : (Cond.code ({ cls := "ObsMessagesModel", name := "valueOf", desc := "(I)J" } : MethodName) prog_14_method_36_code (2 : Nat) (Option.some FieldType.long)) ∈ tb := tb_memk tpc_6 227 rfl rfl
theorem tw_1428 : (Cond.methodLink "ObsMessagesModel" (255 : Nat) ({ cls := "ObsMessagesModel", name := "takeAll", desc := "(I)V" } : MethodName)) ∈ tb := tb_memk tpc_6 228 rfl rfl
theorem tw_1430 : (Cond.instanceMethod ({ cls := "ObsMessagesModel", name := "takeAll", desc := "(I)V" } : MethodName)) ∈ tb := tb_memk tpc_6 230 rfl rfl
theorem tw_1431 : (Cond.code ({ cls := "ObsMessagesModel", name := "takeAll", desc := "(I)V" } : MethodName) prog_14_method_35_code (10 : Nat) (Option.none : Option FieldType)) ∈ tb := tb_memk tpc_6 231 rfl rfl
theorem tw_1432 : (Cond.methodLink "ObsMessagesModel" (244 : Nat) ({ cls := "ObsMessagesModel", name := "take", desc := "(II)J" } : MethodName)) ∈ tb := tb_memk tpc_6 232 rfl rfl
theorem tw_1434 : (Cond.instanceMethod ({ cls := "ObsMessagesModel", name := "take", desc := "(II)J" } : MethodName)) ∈ tb := tb_memk tpc_6 234 rfl rfl
theorem tw_1435 : (Cond.code ({ cls := "ObsMessagesModel", name := "take", desc := "(II)J" } : MethodName) prog_14_method_32_code (6 : Nat) (Option.some FieldType.long)) ∈ tb := tb_memk tpc_6 235 rfl rfl
theorem tw_1436 : (Cond.constantLong "ObsMessagesModel" (238 : Nat) (2 : Int64)) ∈ tb := tb_memk tpc_6 236 rfl rfl
theorem tw_1437 : (Cond.methodLink "ObsMessagesModel" (240 : Nat) ({ cls := "ObsMessagesModel", name := "most", desc := "(I)J" } : MethodName)) ∈ tb := tb_memk tpc_6 237 rfl rfl
theorem tw_1438 : (Cond.static ({ cls := "ObsMessagesModel", name := "most", desc := "(I)J" } : MethodName)) ∈ tb := tb_memk tpc_6 238 rfl rfl
theorem tw_1439 : (Cond.code ({ cls := "ObsMessagesModel", name := "most", desc := "(I)J" } : MethodName) prog_14_method_31_code (1 : Nat) (Option.some FieldType.long)) ∈ tb := tb_memk tpc_6 239 rfl rfl
theorem tw_1440 : (Cond.methodLink "ObsMessagesModel" (251 : Nat) ({ cls := "ObsMessagesModel", name := "meant", desc := "(IJ)J" } : MethodName)) ∈ tb := tb_memk tpc_7 0 rfl rfl
theorem tw_1442 : (Cond.instanceMethod ({ cls := "ObsMessagesModel", name := "meant", desc := "(IJ)J" } : MethodName)) ∈ tb := tb_memk tpc_7 2 rfl rfl
theorem tw_1443 : (Cond.code ({ cls := "ObsMessagesModel", name := "meant", desc := "(IJ)J" } : MethodName) prog_14_method_33_code (4 : Nat) (Option.some FieldType.long)) ∈ tb := tb_memk tpc_7 3 rfl rfl
theorem tw_1444 : (Cond.constantLong "ObsMessagesModel" (267 : Nat) (30 : Int64)) ∈ tb := tb_memk tpc_7 4 rfl rfl
theorem tw_1445 : (Cond.methodLink "ObsMessagesModel" (289 : Nat) ({ cls := "ObsMessagesModel", name := "walkBits", desc := "(I)V" } : MethodName)) ∈ tb := tb_memk tpc_7 5 rfl rfl
theorem tw_1447 : (Cond.instanceMethod ({ cls := "ObsMessagesModel", name := "walkBits", desc := "(I)V" } : MethodName)) ∈ tb := tb_memk tpc_7 7 rfl rfl
theorem tw_1448 : (Cond.code ({ cls := "ObsMessagesModel", name := "walkBits", desc := "(I)V" } : MethodName) prog_14_method_40_code (4 : Nat) (Option.none : Option FieldType)) ∈ tb := tb_memk tpc_7 8 rfl rfl
theorem tw_1449 : (Cond.methodLink "ObsMessagesModel" (292 : Nat) ({ cls := "ObsMessagesModel", name := "walkMark", desc := "()V" } : MethodName)) ∈ tb := tb_memk tpc_7 9 rfl rfl
theorem tw_1451 : (Cond.instanceMethod ({ cls := "ObsMessagesModel", name := "walkMark", desc := "()V" } : MethodName)) ∈ tb := tb_memk tpc_7 11 rfl rfl
theorem tw_1452 : (Cond.code ({ cls := "ObsMessagesModel", name := "walkMark", desc := "()V" } : MethodName) prog_14_method_41_code (2 : Nat) (Option.none : Option FieldType)) ∈ tb := tb_memk tpc_7 12 rfl rfl
theorem tw_1457 : (Cond.methodLink "ObsMessagesModel" (304 : Nat) ({ cls := "ObsMessagesModel", name := "ask", desc := "(I)I" } : MethodName)) ∈ tb := tb_memk tpc_7 17 rfl rfl
theorem tw_1459 : (Cond.instanceMethod ({ cls := "ObsMessagesModel", name := "ask", desc := "(I)I" } : MethodName)) ∈ tb := tb_memk tpc_7 19 rfl rfl
theorem tw_1460 : (Cond.code ({ cls := "ObsMessagesModel", name := "ask", desc := "(I)I" } : MethodName) prog_14_method_49_code (5 : Nat) (Option.some FieldType.int)) ∈ tb := tb_memk tpc_7 20 rfl rfl
theorem tw_1473 : (Cond.methodLink "ObsMessagesModel" (320 : Nat) ({ cls := "ObsMessagesModel", name := "keepFirst", desc := "()V" } : MethodName)) ∈ tb := tb_memk tpc_7 33 rfl rfl
theorem tw_1475 : (Cond.instanceMethod ({ cls := "ObsMessagesModel", name := "keepFirst", desc := "()V" } : MethodName)) ∈ tb := tb_memk tpc_7 35 rfl rfl
theorem tw_1476 : (Cond.code ({ cls := "ObsMessagesModel", name := "keepFirst", desc := "()V" } : MethodName) prog_14_method_54_code (2 : Nat) (Option.none : Option FieldType)) ∈ tb := tb_memk tpc_7 36 rfl rfl
theorem tw_1477 : (Cond.methodLink "ObsMessagesModel" (313 : Nat) ({ cls := "ObsMessagesModel", name := "raw", desc := "(IJ)J" } : MethodName)) ∈ tb := tb_memk tpc_7 37 rfl rfl
theorem tw_1479 : (Cond.instanceMethod ({ cls := "ObsMessagesModel", name := "raw", desc := "(IJ)J" } : MethodName)) ∈ tb := tb_memk tpc_7 39 rfl rfl
theorem tw_1480 : (Cond.code ({ cls := "ObsMessagesModel", name := "raw", desc := "(IJ)J" } : MethodName) prog_14_method_34_code (4 : Nat) (Option.some FieldType.long)) ∈ tb := tb_memk tpc_7 40 rfl rfl
theorem tw_1481 : (Cond.methodLink "ObsMessagesModel" (316 : Nat) ({ cls := "ObsMessagesModel", name := "lay", desc := "(JI)V" } : MethodName)) ∈ tb := tb_memk tpc_7 41 rfl rfl
theorem tw_1483 : (Cond.instanceMethod ({ cls := "ObsMessagesModel", name := "lay", desc := "(JI)V" } : MethodName)) ∈ tb := tb_memk tpc_7 43 rfl rfl
theorem tw_1484 : (Cond.code ({ cls := "ObsMessagesModel", name := "lay", desc := "(JI)V" } : MethodName) prog_14_method_53_code (5 : Nat) (Option.none : Option FieldType)) ∈ tb := tb_memk tpc_7 44 rfl rfl
theorem tw_1485 : (Cond.methodLink "ObsMessagesModel" (323 : Nat) ({ cls := "ObsMessagesModel", name := "compare", desc := "(I)V" } : MethodName)) ∈ tb := tb_memk tpc_7 45 rfl rfl
theorem tw_1487 : (Cond.instanceMethod ({ cls := "ObsMessagesModel", name := "compare", desc := "(I)V" } : MethodName)) ∈ tb := tb_memk tpc_7 47 rfl rfl
theorem tw_1488 : (Cond.code ({ cls := "ObsMessagesModel", name := "compare", desc := "(I)V" } : MethodName) prog_14_method_56_code (4 : Nat) (Option.none : Option FieldType)) ∈ tb := tb_memk tpc_7 48 rfl rfl
theorem tw_1489 : (Cond.methodLink "ObsMessagesModel" (310 : Nat) ({ cls := "ObsMessagesModel", name := "isLike", desc := "(I)Z" } : MethodName)) ∈ tb := tb_memk tpc_7 49 rfl rfl
theorem tw_1491 : (Cond.instanceMethod ({ cls := "ObsMessagesModel", name := "isLike", desc := "(I)Z" } : MethodName)) ∈ tb := tb_memk tpc_7 51 rfl rfl
theorem tw_1492 : (Cond.code ({ cls := "ObsMessagesModel", name := "isLike", desc := "(I)Z" } : MethodName) prog_14_method_55_code (3 : Nat) (Option.some FieldType.boolean)) ∈ tb := tb_memk tpc_7 52 rfl rfl
theorem tw_1493 : (Cond.methodLink "ObsMessagesModel" (326 : Nat) ({ cls := "ObsMessagesModel", name := "layPacked", desc := "(II)V" } : MethodName)) ∈ tb := tb_memk tpc_7 53 rfl rfl
theorem tw_1495 : (Cond.instanceMethod ({ cls := "ObsMessagesModel", name := "layPacked", desc := "(II)V" } : MethodName)) ∈ tb := tb_memk tpc_7 55 rfl rfl
theorem tw_1496 : (Cond.code ({ cls := "ObsMessagesModel", name := "layPacked", desc := "(II)V" } : MethodName) prog_14_method_57_code (14 : Nat) (Option.none : Option FieldType)) ∈ tb := tb_memk tpc_7 56 rfl rfl
theorem tw_1509 : (Cond.methodLink "ObsMessagesModel" (345 : Nat) ({ cls := "ObsMessagesModel", name := "unpack", desc := "(I)Z" } : MethodName)) ∈ tb := tb_memk tpc_7 69 rfl rfl
theorem tw_1511 : (Cond.instanceMethod ({ cls := "ObsMessagesModel", name := "unpack", desc := "(I)Z" } : MethodName)) ∈ tb := tb_memk tpc_7 71 rfl rfl
theorem tw_1512 : (Cond.code ({ cls := "ObsMessagesModel", name := "unpack", desc := "(I)Z" } : MethodName) prog_14_method_61_code (5 : Nat) (Option.some FieldType.boolean)) ∈ tb := tb_memk tpc_7 72 rfl rfl
theorem tw_1517 : (Cond.constantLong "ObsMessagesModel" (348 : Nat) (-2000000000 : Int64)) ∈ tb := tb_memk tpc_7 77 rfl rfl
theorem tw_1518 : (Cond.constantLong "ObsMessagesModel" (350 : Nat) (2000000000 : Int64)) ∈ tb := tb_memk tpc_7 78 rfl rfl
theorem tw_1523 : (Cond.methodLink "ObsMessagesModel" (352 : Nat) ({ cls := "ObsMessagesModel", name := "inOrder", desc := "(I)I" } : MethodName)) ∈ tb := tb_memk tpc_7 83 rfl rfl
theorem tw_1524 : (Cond.static ({ cls := "ObsMessagesModel", name := "inOrder", desc := "(I)I" } : MethodName)) ∈ tb := tb_memk tpc_7 84 rfl rfl
theorem tw_1525 : (Cond.code ({ cls := "ObsMessagesModel", name := "inOrder", desc := "(I)I" } : MethodName) prog_14_method_64_code (1 : Nat) (Option.some FieldType.int)) ∈ tb := tb_memk tpc_7 85 rfl rfl
theorem tw_1526 : (Cond.constantLong "ObsMessagesModel" (355 : Nat) (11 : Int64)) ∈ tb := tb_memk tpc_7 86 rfl rfl
theorem tw_1527 : (Cond.methodLink "ObsMessagesModel" (357 : Nat) ({ cls := "ObsMessagesModel", name := "length", desc := "(J)I" } : MethodName)) ∈ tb := tb_memk tpc_7 87 rfl rfl
theorem tw_1528 : (Cond.static ({ cls := "ObsMessagesModel", name := "length", desc := "(J)I" } : MethodName)) ∈ tb := tb_memk tpc_7 88 rfl rfl
theorem tw_1529 : (Cond.code ({ cls := "ObsMessagesModel", name := "length", desc := "(J)I" } : MethodName) prog_14_method_65_code (5 : Nat) (Option.some FieldType.int)) ∈ tb := tb_memk tpc_7 89 rfl rfl
theorem tp_0 : Cond.selects "ObsMessages" ⟨"ObsMessages", "walkOver", "(I)Z"⟩ ⟨"ObsMessages", "walkOver", "(I)Z"⟩ ∈ tb := tb_mem 0 (by decide +kernel) rfl
theorem tp_1 : Cond.selects "ObsMessages$Program" ⟨"ObsMessages$Program", "openList", "(IIII)V"⟩ ⟨"ObsMessages$Program", "openList", "(IIII)V"⟩ ∈ tb := tb_mem 1 (by decide +kernel) rfl
theorem tp_2 : Cond.selects "ObsMessages$Program" ⟨"ObsMessages$Program", "fail", "(I)V"⟩ ⟨"ObsMessages$Program", "fail", "(I)V"⟩ ∈ tb := tb_mem 2 (by decide +kernel) rfl
theorem tp_3 : Cond.selects "ObsMessages$Program" ⟨"ObsMessages$Program", "lookAtNext", "()V"⟩ ⟨"ObsMessages$Program", "lookAtNext", "()V"⟩ ∈ tb := tb_mem 3 (by decide +kernel) rfl
theorem tp_4 : Cond.selects "ObsMessages$Program" ⟨"ObsMessages$Program", "takeUp", "(II)Z"⟩ ⟨"ObsMessages$Program", "takeUp", "(II)Z"⟩ ∈ tb := tb_mem 4 (by decide +kernel) rfl
theorem tp_5 : Cond.selects "ObsMessages$Program" ⟨"ObsMessages$Program", "lookAtElement", "(I)V"⟩ ⟨"ObsMessages$Program", "lookAtElement", "(I)V"⟩ ∈ tb := tb_mem 5 (by decide +kernel) rfl
theorem tp_6 : Cond.selects "ObsMessages$Program" ⟨"ObsMessages$Program", "lookAtSequence", "(I)V"⟩ ⟨"ObsMessages$Program", "lookAtSequence", "(I)V"⟩ ∈ tb := tb_mem 6 (by decide +kernel) rfl
theorem tp_7 : Cond.selects "ObsMessages$Program" ⟨"ObsMessages$Program", "isTooDeep", "(I)Z"⟩ ⟨"ObsMessages$Program", "isTooDeep", "(I)Z"⟩ ∈ tb := tb_mem 7 (by decide +kernel) rfl
theorem tp_8 : Cond.selects "ObsMessages$Program" ⟨"ObsMessages$Program", "lookAtRepeat", "(III)V"⟩ ⟨"ObsMessages$Program", "lookAtRepeat", "(III)V"⟩ ∈ tb := tb_mem 8 (by decide +kernel) rfl
theorem tp_9 : Cond.selects "ObsMessages$Program" ⟨"ObsMessages$Program", "lookAtOperator", "(II)V"⟩ ⟨"ObsMessages$Program", "lookAtOperator", "(II)V"⟩ ∈ tb := tb_mem 9 (by decide +kernel) rfl
theorem tp_10 : Cond.selects "ObsMessages$Program" ⟨"ObsMessages$Program", "closeList", "()V"⟩ ⟨"ObsMessages$Program", "closeList", "()V"⟩ ∈ tb := tb_mem 10 (by decide +kernel) rfl
theorem tp_11 : Cond.selects "ObsMessages$Walk" ⟨"ObsMessages$Walk", "giveQuality", "()V"⟩ ⟨"ObsMessages$Walk", "giveQuality", "()V"⟩ ∈ tb := tb_mem 11 (by decide +kernel) rfl
theorem tp_12 : Cond.selects "ObsMessages$Walk" ⟨"ObsMessages$Walk", "give", "(IIIIJI)V"⟩ ⟨"ObsMessages$Walk", "give", "(IIIIJI)V"⟩ ∈ tb := tb_mem 12 (by decide +kernel) rfl
theorem tp_13 : Cond.selects "ObsMessages$Walk" ⟨"ObsMessages$Walk", "giveFromEntry", "()V"⟩ ⟨"ObsMessages$Walk", "giveFromEntry", "()V"⟩ ∈ tb := tb_mem 13 (by decide +kernel) rfl
theorem tp_14 : Cond.selects "ObsMessages$Walk" ⟨"ObsMessages$Walk", "giveBit", "()V"⟩ ⟨"ObsMessages$Walk", "giveBit", "()V"⟩ ∈ tb := tb_mem 14 (by decide +kernel) rfl
theorem tp_15 : Cond.selects "ObsMessages$Walk" ⟨"ObsMessages$Walk", "giveMark", "()V"⟩ ⟨"ObsMessages$Walk", "giveMark", "()V"⟩ ∈ tb := tb_mem 15 (by decide +kernel) rfl
theorem tp_16 : Cond.selects "ObsMessages$Walk" ⟨"ObsMessages$Walk", "comeToNext", "()V"⟩ ⟨"ObsMessages$Walk", "comeToNext", "()V"⟩ ∈ tb := tb_mem 16 (by decide +kernel) rfl
theorem tp_17 : Cond.selects "ObsMessages$Walk" ⟨"ObsMessages$Walk", "comeToElement", "(I)V"⟩ ⟨"ObsMessages$Walk", "comeToElement", "(I)V"⟩ ∈ tb := tb_mem 17 (by decide +kernel) rfl
theorem tp_18 : Cond.selects "ObsMessages$Walk" ⟨"ObsMessages$Walk", "comeToRepeat", "(II)V"⟩ ⟨"ObsMessages$Walk", "comeToRepeat", "(II)V"⟩ ∈ tb := tb_mem 18 (by decide +kernel) rfl
theorem tp_19 : Cond.selects "ObsMessages$Walk" ⟨"ObsMessages$Walk", "comeToBits", "(I)V"⟩ ⟨"ObsMessages$Walk", "comeToBits", "(I)V"⟩ ∈ tb := tb_mem 19 (by decide +kernel) rfl
theorem tp_22 : Cond.selects "ObsMessages" ⟨"ObsMessages", "setFault", "(II)V"⟩ ⟨"ObsMessages", "setFault", "(II)V"⟩ ∈ tb := tb_mem 22 (by decide +kernel) rfl
theorem tp_25 : Cond.selects "ObsMessages$Writer" ⟨"ObsMessages$Writer", "begin", "(II)V"⟩ ⟨"ObsMessages$Writer", "begin", "(II)V"⟩ ∈ tb := tb_mem 25 (by decide +kernel) rfl
theorem tp_26 : Cond.selects "ObsMessages$Writer" ⟨"ObsMessages$Writer", "addPacked", "(LObsMessages$Fields;I[[JI)V"⟩ ⟨"ObsMessages$Writer", "addPacked", "(LObsMessages$Fields;I[[JI)V"⟩ ∈ tb := tb_mem 26 (by decide +kernel) rfl
theorem tp_27 : Cond.selects "ObsMessages$Writer" ⟨"ObsMessages$Writer", "end", "()V"⟩ ⟨"ObsMessages$Writer", "end", "()V"⟩ ∈ tb := tb_mem 27 (by decide +kernel) rfl
theorem tp_29 : Cond.selects "ObsMessages$Bits" ⟨"ObsMessages$Bits", "bitAt", "(I)I"⟩ ⟨"ObsMessages$Bits", "bitAt", "(I)I"⟩ ∈ tb := tb_mem 29 (by decide +kernel) rfl
theorem tp_30 : Cond.selects "ObsMessages$Reader" ⟨"ObsMessages$Reader", "takePackedValues", "(LObsMessages$Fields;I)Z"⟩ ⟨"ObsMessages$Reader", "takePackedValues", "(LObsMessages$Fields;I)Z"⟩ ∈ tb := tb_mem 30 (by decide +kernel) rfl
theorem tp_31 : Cond.selects "ObsMessages$Reader" ⟨"ObsMessages$Reader", "take", "(I)J"⟩ ⟨"ObsMessages$Reader", "take", "(I)J"⟩ ∈ tb := tb_mem 31 (by decide +kernel) rfl
theorem tp_32 : Cond.selects "ObsMessages$Reader" ⟨"ObsMessages$Reader", "takeOneForAll", "(LObsMessages$Fields;IJ)Z"⟩ ⟨"ObsMessages$Reader", "takeOneForAll", "(LObsMessages$Fields;IJ)Z"⟩ ∈ tb := tb_mem 32 (by decide +kernel) rfl
theorem tp_33 : Cond.selects "ObsMessages$Reader" ⟨"ObsMessages$Reader", "takeDifferences", "(LObsMessages$Fields;IJI)Z"⟩ ⟨"ObsMessages$Reader", "takeDifferences", "(LObsMessages$Fields;IJI)Z"⟩ ∈ tb := tb_mem 33 (by decide +kernel) rfl
theorem tp_34 : Cond.selects "ObsMessages$Reader" ⟨"ObsMessages$Reader", "endWalk", "(LObsMessages$Walk;IZ)V"⟩ ⟨"ObsMessages$Reader", "endWalk", "(LObsMessages$Walk;IZ)V"⟩ ∈ tb := tb_mem 34 (by decide +kernel) rfl
theorem tp_35 : Cond.selects "ObsMessages$Reader" ⟨"ObsMessages$Reader", "takePlainValue", "(LObsMessages$Fields;I[J)Z"⟩ ⟨"ObsMessages$Reader", "takePlainValue", "(LObsMessages$Fields;I[J)Z"⟩ ∈ tb := tb_mem 35 (by decide +kernel) rfl
theorem tp_36 : Cond.selects "ObsMessages$Grid" ⟨"ObsMessages$Grid", "takeCode", "(IJI)V"⟩ ⟨"ObsMessages$Grid", "takeCode", "(IJI)V"⟩ ∈ tb := tb_mem 36 (by decide +kernel) rfl
theorem tp_37 : Cond.selects "ObsMessages$Grid" ⟨"ObsMessages$Grid", "cutFrom", "(II)V"⟩ ⟨"ObsMessages$Grid", "cutFrom", "(II)V"⟩ ∈ tb := tb_mem 37 (by decide +kernel) rfl
theorem tp_38 : Cond.selects "ObsMessagesModel" ⟨"ObsMessagesModel", "compileAll", "()V"⟩ ⟨"ObsMessagesModel", "compileAll", "()V"⟩ ∈ tb := tb_mem 38 (by decide +kernel) rfl
theorem tp_39 : Cond.selects "ObsMessagesModel" ⟨"ObsMessagesModel", "fresh", "()V"⟩ ⟨"ObsMessagesModel", "fresh", "()V"⟩ ∈ tb := tb_mem 39 (by decide +kernel) rfl
theorem tp_40 : Cond.selects "ObsMessagesModel" ⟨"ObsMessagesModel", "start", "()V"⟩ ⟨"ObsMessagesModel", "start", "()V"⟩ ∈ tb := tb_mem 40 (by decide +kernel) rfl
theorem tp_41 : Cond.selects "ObsMessagesModel" ⟨"ObsMessagesModel", "enter", "(IIIII)V"⟩ ⟨"ObsMessagesModel", "enter", "(IIIII)V"⟩ ∈ tb := tb_mem 41 (by decide +kernel) rfl
theorem tp_42 : Cond.selects "ObsMessagesModel" ⟨"ObsMessagesModel", "leavesOther", "(I)Z"⟩ ⟨"ObsMessagesModel", "leavesOther", "(I)Z"⟩ ∈ tb := tb_mem 42 (by decide +kernel) rfl
theorem tp_43 : Cond.selects "ObsMessagesModel" ⟨"ObsMessagesModel", "where", "()I"⟩ ⟨"ObsMessagesModel", "where", "()I"⟩ ∈ tb := tb_mem 43 (by decide +kernel) rfl
theorem tp_44 : Cond.selects "ObsMessagesModel" ⟨"ObsMessagesModel", "wrong", "(II)V"⟩ ⟨"ObsMessagesModel", "wrong", "(II)V"⟩ ∈ tb := tb_mem 44 (by decide +kernel) rfl
theorem tp_45 : Cond.selects "ObsMessagesModel" ⟨"ObsMessagesModel", "count", "(I)Z"⟩ ⟨"ObsMessagesModel", "count", "(I)Z"⟩ ∈ tb := tb_mem 45 (by decide +kernel) rfl
theorem tp_46 : Cond.selects "ObsMessagesModel" ⟨"ObsMessagesModel", "look", "(I)V"⟩ ⟨"ObsMessagesModel", "look", "(I)V"⟩ ∈ tb := tb_mem 46 (by decide +kernel) rfl
theorem tp_47 : Cond.selects "ObsMessagesModel" ⟨"ObsMessagesModel", "lookElement", "(IIZ)V"⟩ ⟨"ObsMessagesModel", "lookElement", "(IIZ)V"⟩ ∈ tb := tb_mem 47 (by decide +kernel) rfl
theorem tp_48 : Cond.selects "ObsMessagesModel" ⟨"ObsMessagesModel", "force", "(I)I"⟩ ⟨"ObsMessagesModel", "force", "(I)I"⟩ ∈ tb := tb_mem 48 (by decide +kernel) rfl
theorem tp_49 : Cond.selects "ObsMessagesModel" ⟨"ObsMessagesModel", "added", "(I)I"⟩ ⟨"ObsMessagesModel", "added", "(I)I"⟩ ∈ tb := tb_mem 49 (by decide +kernel) rfl
theorem tp_50 : Cond.selects "ObsMessagesModel" ⟨"ObsMessagesModel", "sequences", "(I)I"⟩ ⟨"ObsMessagesModel", "sequences", "(I)I"⟩ ∈ tb := tb_mem 50 (by decide +kernel) rfl
theorem tp_51 : Cond.selects "ObsMessagesModel" ⟨"ObsMessagesModel", "walk", "(II)V"⟩ ⟨"ObsMessagesModel", "walk", "(II)V"⟩ ∈ tb := tb_mem 51 (by decide +kernel) rfl
theorem tp_52 : Cond.selects "ObsMessagesModel" ⟨"ObsMessagesModel", "comes", "()Z"⟩ ⟨"ObsMessagesModel", "comes", "()Z"⟩ ∈ tb := tb_mem 52 (by decide +kernel) rfl
theorem tp_53 : Cond.selects "ObsMessagesModel" ⟨"ObsMessagesModel", "wrongAt", "(II)V"⟩ ⟨"ObsMessagesModel", "wrongAt", "(II)V"⟩ ∈ tb := tb_mem 53 (by decide +kernel) rfl
theorem tp_54 : Cond.selects "ObsMessagesModel" ⟨"ObsMessagesModel", "walkOne", "(I)V"⟩ ⟨"ObsMessagesModel", "walkOne", "(I)V"⟩ ∈ tb := tb_mem 54 (by decide +kernel) rfl
theorem tp_55 : Cond.selects "ObsMessagesModel" ⟨"ObsMessagesModel", "walkElement", "(I)V"⟩ ⟨"ObsMessagesModel", "walkElement", "(I)V"⟩ ∈ tb := tb_mem 55 (by decide +kernel) rfl
theorem tp_56 : Cond.selects "ObsMessagesModel" ⟨"ObsMessagesModel", "come", "(IIIIJI)J"⟩ ⟨"ObsMessagesModel", "come", "(IIIIJI)J"⟩ ∈ tb := tb_mem 56 (by decide +kernel) rfl
theorem tp_57 : Cond.selects "ObsMessagesModel" ⟨"ObsMessagesModel", "repetition", "()I"⟩ ⟨"ObsMessagesModel", "repetition", "()I"⟩ ∈ tb := tb_mem 57 (by decide +kernel) rfl
theorem tp_58 : Cond.selects "ObsMessagesModel" ⟨"ObsMessagesModel", "valueOf", "(I)J"⟩ ⟨"ObsMessagesModel", "valueOf", "(I)J"⟩ ∈ tb := tb_mem 58 (by decide +kernel) rfl
theorem tp_59 : Cond.selects "ObsMessagesModel" ⟨"ObsMessagesModel", "takeAll", "(I)V"⟩ ⟨"ObsMessagesModel", "takeAll", "(I)V"⟩ ∈ tb := tb_mem 59 (by decide +kernel) rfl
theorem tp_60 : Cond.selects "ObsMessagesModel" ⟨"ObsMessagesModel", "take", "(II)J"⟩ ⟨"ObsMessagesModel", "take", "(II)J"⟩ ∈ tb := tb_mem 60 (by decide +kernel) rfl
theorem tp_61 : Cond.selects "ObsMessagesModel" ⟨"ObsMessagesModel", "meant", "(IJ)J"⟩ ⟨"ObsMessagesModel", "meant", "(IJ)J"⟩ ∈ tb := tb_mem 61 (by decide +kernel) rfl
theorem tp_62 : Cond.selects "ObsMessagesModel" ⟨"ObsMessagesModel", "walkBits", "(I)V"⟩ ⟨"ObsMessagesModel", "walkBits", "(I)V"⟩ ∈ tb := tb_mem 62 (by decide +kernel) rfl
theorem tp_63 : Cond.selects "ObsMessagesModel" ⟨"ObsMessagesModel", "walkMark", "()V"⟩ ⟨"ObsMessagesModel", "walkMark", "()V"⟩ ∈ tb := tb_mem 63 (by decide +kernel) rfl
theorem tp_64 : Cond.selects "ObsMessagesModel" ⟨"ObsMessagesModel", "ask", "(I)I"⟩ ⟨"ObsMessagesModel", "ask", "(I)I"⟩ ∈ tb := tb_mem 64 (by decide +kernel) rfl
theorem tp_65 : Cond.selects "ObsMessagesModel" ⟨"ObsMessagesModel", "keepFirst", "()V"⟩ ⟨"ObsMessagesModel", "keepFirst", "()V"⟩ ∈ tb := tb_mem 65 (by decide +kernel) rfl
theorem tp_66 : Cond.selects "ObsMessagesModel" ⟨"ObsMessagesModel", "raw", "(IJ)J"⟩ ⟨"ObsMessagesModel", "raw", "(IJ)J"⟩ ∈ tb := tb_mem 66 (by decide +kernel) rfl
theorem tp_67 : Cond.selects "ObsMessagesModel" ⟨"ObsMessagesModel", "lay", "(JI)V"⟩ ⟨"ObsMessagesModel", "lay", "(JI)V"⟩ ∈ tb := tb_mem 67 (by decide +kernel) rfl
theorem tp_68 : Cond.selects "ObsMessagesModel" ⟨"ObsMessagesModel", "compare", "(I)V"⟩ ⟨"ObsMessagesModel", "compare", "(I)V"⟩ ∈ tb := tb_mem 68 (by decide +kernel) rfl
theorem tp_69 : Cond.selects "ObsMessagesModel" ⟨"ObsMessagesModel", "isLike", "(I)Z"⟩ ⟨"ObsMessagesModel", "isLike", "(I)Z"⟩ ∈ tb := tb_mem 69 (by decide +kernel) rfl
theorem tp_70 : Cond.selects "ObsMessagesModel" ⟨"ObsMessagesModel", "layPacked", "(II)V"⟩ ⟨"ObsMessagesModel", "layPacked", "(II)V"⟩ ∈ tb := tb_mem 70 (by decide +kernel) rfl
theorem tp_71 : Cond.selects "ObsMessagesModel" ⟨"ObsMessagesModel", "unpack", "(I)Z"⟩ ⟨"ObsMessagesModel", "unpack", "(I)Z"⟩ ∈ tb := tb_mem 71 (by decide +kernel) rfl
