abbrev R_Ck : String := "ClauseSearch$Check"
def F_Ck : u_T := fun k => match k with
  | 0 => ("ClauseSearch$Check", "rows", "LClauseSearch$Rows;", true)
  | _ => ("ClauseSearch$Check", "trail", "LClauseSearch$Trail;", true)
def t_Ck : Nat → FieldType := fun k => match k with
  | 0 => .object "ClauseSearch$Rows"
  | _ => .object "ClauseSearch$Trail"
theorem n_Ck : ∀ a, a < 2 → ∀ b, b < 2 → a ≠ b → (F_Ck a).2.1 ≠ (F_Ck b).2.1 := by decide +kernel
theorem t_Ck_ok : ∀ k, k < 2 → parseFieldDescriptor (F_Ck k).2.2.1 = some (t_Ck k) := by decide +kernel
theorem in_Ck : ∀ w ∈ u_ws R_Ck F_Ck 2, w ∈ bg_W := by decide +kernel
abbrev R_Ls : String := "ClauseSearch$Lesson"
def F_Ls : u_T := fun k => match k with
  | 0 => ("ClauseSearch$Lesson", "rows", "LClauseSearch$Rows;", true)
  | 1 => ("ClauseSearch$Lesson", "trail", "LClauseSearch$Trail;", true)
  | 2 => ("ClauseSearch$Lesson", "seen", "[Z", true)
  | 3 => ("ClauseSearch$Lesson", "codes", "[I", true)
  | 4 => ("ClauseSearch$Lesson", "used", "[I", true)
  | 5 => ("ClauseSearch$Lesson", "size", "I", false)
  | 6 => ("ClauseSearch$Lesson", "usedSize", "I", false)
  | _ => ("ClauseSearch$Lesson", "open", "I", false)
def t_Ls : Nat → FieldType := fun k => match k with
  | 0 => .object "ClauseSearch$Rows"
  | 1 => .object "ClauseSearch$Trail"
  | 2 => .array .boolean
  | 3 => .array .int
  | 4 => .array .int
  | 5 => .int
  | 6 => .int
  | _ => .int
theorem n_Ls : ∀ a, a < 8 → ∀ b, b < 8 → a ≠ b → (F_Ls a).2.1 ≠ (F_Ls b).2.1 := by decide +kernel
theorem t_Ls_ok : ∀ k, k < 8 → parseFieldDescriptor (F_Ls k).2.2.1 = some (t_Ls k) := by decide +kernel
theorem in_Ls : ∀ w ∈ u_ws R_Ls F_Ls 8, w ∈ bg_W := by decide +kernel
abbrev R_Rw : String := "ClauseSearch$Rows"
def F_Rw : u_T := fun k => match k with
  | 0 => ("ClauseSearch$Rows", "start", "[I", false)
  | 1 => ("ClauseSearch$Rows", "kind", "[I", false)
  | 2 => ("ClauseSearch$Rows", "codes", "[I", false)
  | _ => ("ClauseSearch$Rows", "size", "I", false)
def t_Rw : Nat → FieldType := fun k => match k with
  | 0 => .array .int
  | 1 => .array .int
  | 2 => .array .int
  | _ => .int
theorem n_Rw : ∀ a, a < 4 → ∀ b, b < 4 → a ≠ b → (F_Rw a).2.1 ≠ (F_Rw b).2.1 := by decide +kernel
theorem t_Rw_ok : ∀ k, k < 4 → parseFieldDescriptor (F_Rw k).2.2.1 = some (t_Rw k) := by decide +kernel
theorem in_Rw : ∀ w ∈ u_ws R_Rw F_Rw 4, w ∈ bg_W := by decide +kernel
abbrev R_Sr : String := "ClauseSearch$Search"
def F_Sr : u_T := fun k => match k with
  | 0 => ("ClauseSearch$Search", "rows", "LClauseSearch$Rows;", true)
  | 1 => ("ClauseSearch$Search", "trail", "LClauseSearch$Trail;", true)
  | 2 => ("ClauseSearch$Search", "watch", "LClauseSearch$Watch;", true)
  | 3 => ("ClauseSearch$Search", "lesson", "LClauseSearch$Lesson;", true)
  | 4 => ("ClauseSearch$Search", "check", "LClauseSearch$Check;", true)
  | 5 => ("ClauseSearch$Search", "plain", "[I", true)
  | 6 => ("ClauseSearch$Search", "facts", "[I", true)
  | 7 => ("ClauseSearch$Search", "isFact", "[Z", true)
  | 8 => ("ClauseSearch$Search", "factCount", "I", false)
  | 9 => ("ClauseSearch$Search", "lessonCount", "I", false)
  | 10 => ("ClauseSearch$Search", "badLessons", "I", false)
  | _ => ("ClauseSearch$Search", "hopeless", "Z", false)
def t_Sr : Nat → FieldType := fun k => match k with
  | 0 => .object "ClauseSearch$Rows"
  | 1 => .object "ClauseSearch$Trail"
  | 2 => .object "ClauseSearch$Watch"
  | 3 => .object "ClauseSearch$Lesson"
  | 4 => .object "ClauseSearch$Check"
  | 5 => .array .int
  | 6 => .array .int
  | 7 => .array .boolean
  | 8 => .int
  | 9 => .int
  | 10 => .int
  | _ => .boolean
theorem n_Sr : ∀ a, a < 12 → ∀ b, b < 12 → a ≠ b → (F_Sr a).2.1 ≠ (F_Sr b).2.1 := by decide +kernel
theorem t_Sr_ok : ∀ k, k < 12 → parseFieldDescriptor (F_Sr k).2.2.1 = some (t_Sr k) := by decide +kernel
theorem in_Sr : ∀ w ∈ u_ws R_Sr F_Sr 12, w ∈ bg_W := by decide +kernel
abbrev R_Tr : String := "ClauseSearch$Trail"
def F_Tr : u_T := fun k => match k with
  | 0 => ("ClauseSearch$Trail", "truth", "[B", true)
  | 1 => ("ClauseSearch$Trail", "order", "[I", true)
  | 2 => ("ClauseSearch$Trail", "levelOf", "[I", true)
  | 3 => ("ClauseSearch$Trail", "reason", "[I", true)
  | 4 => ("ClauseSearch$Trail", "levelStart", "[I", true)
  | 5 => ("ClauseSearch$Trail", "size", "I", false)
  | 6 => ("ClauseSearch$Trail", "followed", "I", false)
  | 7 => ("ClauseSearch$Trail", "level", "I", false)
  | _ => ("ClauseSearch$Trail", "lowest", "I", false)
def t_Tr : Nat → FieldType := fun k => match k with
  | 0 => .array .byte
  | 1 => .array .int
  | 2 => .array .int
  | 3 => .array .int
  | 4 => .array .int
  | 5 => .int
  | 6 => .int
  | 7 => .int
  | _ => .int
theorem n_Tr : ∀ a, a < 9 → ∀ b, b < 9 → a ≠ b → (F_Tr a).2.1 ≠ (F_Tr b).2.1 := by decide +kernel
theorem t_Tr_ok : ∀ k, k < 9 → parseFieldDescriptor (F_Tr k).2.2.1 = some (t_Tr k) := by decide +kernel
theorem in_Tr : ∀ w ∈ u_ws R_Tr F_Tr 9, w ∈ bg_W := by decide +kernel
abbrev R_Wt : String := "ClauseSearch$Watch"
def F_Wt : u_T := fun k => match k with
  | 0 => ("ClauseSearch$Watch", "rows", "LClauseSearch$Rows;", true)
  | 1 => ("ClauseSearch$Watch", "trail", "LClauseSearch$Trail;", true)
  | 2 => ("ClauseSearch$Watch", "head", "[I", true)
  | _ => ("ClauseSearch$Watch", "next", "[I", false)
def t_Wt : Nat → FieldType := fun k => match k with
  | 0 => .object "ClauseSearch$Rows"
  | 1 => .object "ClauseSearch$Trail"
  | 2 => .array .int
  | _ => .array .int
theorem n_Wt : ∀ a, a < 4 → ∀ b, b < 4 → a ≠ b → (F_Wt a).2.1 ≠ (F_Wt b).2.1 := by decide +kernel
theorem t_Wt_ok : ∀ k, k < 4 → parseFieldDescriptor (F_Wt k).2.2.1 = some (t_Wt k) := by decide +kernel
theorem in_Wt : ∀ w ∈ u_ws R_Wt F_Wt 4, w ∈ bg_W := by decide +kernel
abbrev R_Cs : String := "ClauseSearch"
def F_Cs : u_T := fun k => match k with
  | 0 => ("ClauseSearch", "row", "[I", true)
  | 1 => ("ClauseSearch", "clauses", "LClauseSearch$Rows;", true)
  | 2 => ("ClauseSearch", "search", "LClauseSearch$Search;", true)
  | 3 => ("ClauseSearch", "way", "[Z", true)
  | 4 => ("ClauseSearch", "rowSize", "I", false)
  | 5 => ("ClauseSearch", "variableCount", "I", false)
  | 6 => ("ClauseSearch", "wayStands", "Z", false)
  | _ => ("ClauseSearch", "badWays", "I", false)
def t_Cs : Nat → FieldType := fun k => match k with
  | 0 => .array .int
  | 1 => .object "ClauseSearch$Rows"
  | 2 => .object "ClauseSearch$Search"
  | 3 => .array .boolean
  | 4 => .int
  | 5 => .int
  | 6 => .boolean
  | _ => .int
theorem n_Cs : ∀ a, a < 8 → ∀ b, b < 8 → a ≠ b → (F_Cs a).2.1 ≠ (F_Cs b).2.1 := by decide +kernel
theorem t_Cs_ok : ∀ k, k < 8 → parseFieldDescriptor (F_Cs k).2.2.1 = some (t_Cs k) := by decide +kernel
theorem in_Cs : ∀ w ∈ u_ws R_Cs F_Cs 8, w ∈ bg_W := by decide +kernel
abbrev R_Md : String := "ClauseSearchModel"
def F_Md : u_T := fun k => match k with
  | 0 => ("ClauseSearchModel", "literal", "[I", true)
  | 1 => ("ClauseSearchModel", "first", "[I", true)
  | 2 => ("ClauseSearchModel", "row", "[I", true)
  | 3 => ("ClauseSearchModel", "assumed", "[I", true)
  | 4 => ("ClauseSearchModel", "way", "[I", true)
  | 5 => ("ClauseSearchModel", "variables", "I", false)
  | 6 => ("ClauseSearchModel", "clauses", "I", false)
  | 7 => ("ClauseSearchModel", "given", "I", false)
  | 8 => ("ClauseSearchModel", "assumptions", "I", false)
  | 9 => ("ClauseSearchModel", "stands", "Z", false)
  | 10 => ("ClauseSearchModel", "code", "I", false)
  | 11 => ("ClauseSearchModel", "trail", "[I", true)
  | 12 => ("ClauseSearchModel", "length", "I", false)
  | 13 => ("ClauseSearchModel", "chosen", "[I", true)
  | _ => ("ClauseSearchModel", "mark", "[I", true)
def t_Md : Nat → FieldType := fun k => match k with
  | 0 => .array .int
  | 1 => .array .int
  | 2 => .array .int
  | 3 => .array .int
  | 4 => .array .int
  | 5 => .int
  | 6 => .int
  | 7 => .int
  | 8 => .int
  | 9 => .boolean
  | 10 => .int
  | 11 => .array .int
  | 12 => .int
  | 13 => .array .int
  | _ => .array .int
theorem n_Md : ∀ a, a < 15 → ∀ b, b < 15 → a ≠ b → (F_Md a).2.1 ≠ (F_Md b).2.1 := by decide +kernel
theorem t_Md_ok : ∀ k, k < 15 → parseFieldDescriptor (F_Md k).2.2.1 = some (t_Md k) := by decide +kernel
theorem in_Md : ∀ w ∈ u_ws R_Md F_Md 15, w ∈ bg_W := by decide +kernel
abbrev R_Lw : String := "ClauseSearchLaw"
abbrev R_Ar : String := "java/util/Arrays"
abbrev vwCl : List vw_C := [(R_Ck, F_Ck, 2), (R_Ls, F_Ls, 8), (R_Rw, F_Rw, 4), (R_Sr, F_Sr, 12), (R_Tr, F_Tr, 9), (R_Wt, F_Wt, 4), (R_Cs, F_Cs, 8), (R_Md, F_Md, 15)]
