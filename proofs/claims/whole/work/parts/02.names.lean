def R_Bk : String := "WindBrides$Book"
def F_Bk : u_T := fun k => match k with
  | 0 => ("WindBrides$Book", "count", "I", false)
  | 1 => ("WindBrides$Book", "kinds", "[I", true)
  | 2 => ("WindBrides$Book", "deeds", "[I", true)
  | 3 => ("WindBrides$Book", "begins", "[I", true)
  | 4 => ("WindBrides$Book", "code", "[I", true)
  | _ => ("WindBrides$Book", "size", "I", false)
def t_Bk : Nat → FieldType := fun k => match k with
  | 0 => .int
  | 1 => .array .int
  | 2 => .array .int
  | 3 => .array .int
  | 4 => .array .int
  | _ => .int
theorem n_Bk : ∀ a, a < 6 → ∀ b, b < 6 → a ≠ b → (F_Bk a).2.1 ≠ (F_Bk b).2.1 := by decide +kernel
theorem t_Bk_ok : ∀ k, k < 6 → parseFieldDescriptor (F_Bk k).2.2.1 = some (t_Bk k) := by decide +kernel
def R_Br : String := "WindBrides$Bred"
def F_Br : u_T := fun k => match k with
  | 0 => ("WindBrides$Girl", "n", "I", true)
  | 1 => ("WindBrides$Girl", "a", "I", true)
  | 2 => ("WindBrides$Girl", "traced", "[I", true)
  | 3 => ("WindBrides$Girl", "begun", "I", false)
  | _ => ("WindBrides$Girl", "parted", "Z", false)
def t_Br : Nat → FieldType := fun k => match k with
  | 0 => .int
  | 1 => .int
  | 2 => .array .int
  | 3 => .int
  | _ => .boolean
theorem n_Br : ∀ a, a < 5 → ∀ b, b < 5 → a ≠ b → (F_Br a).2.1 ≠ (F_Br b).2.1 := by decide +kernel
theorem t_Br_ok : ∀ k, k < 5 → parseFieldDescriptor (F_Br k).2.2.1 = some (t_Br k) := by decide +kernel
def R_Ca : String := "WindBrides$Calm"
def F_Ca : u_T := fun k => match k with
  | 0 => ("WindBrides$Girl", "n", "I", true)
  | 1 => ("WindBrides$Girl", "a", "I", true)
  | 2 => ("WindBrides$Girl", "traced", "[I", true)
  | 3 => ("WindBrides$Girl", "begun", "I", false)
  | _ => ("WindBrides$Girl", "parted", "Z", false)
def t_Ca : Nat → FieldType := fun k => match k with
  | 0 => .int
  | 1 => .int
  | 2 => .array .int
  | 3 => .int
  | _ => .boolean
theorem n_Ca : ∀ a, a < 5 → ∀ b, b < 5 → a ≠ b → (F_Ca a).2.1 ≠ (F_Ca b).2.1 := by decide +kernel
theorem t_Ca_ok : ∀ k, k < 5 → parseFieldDescriptor (F_Ca k).2.2.1 = some (t_Ca k) := by decide +kernel
def R_Co : String := "WindBrides$Coast"
def F_Co : u_T := fun k => match k with
  | 0 => ("WindBrides$Coast", "girls", "I", false)
  | 1 => ("WindBrides$Coast", "kind", "[I", true)
  | 2 => ("WindBrides$Coast", "house", "[I", true)
  | 3 => ("WindBrides$Coast", "dowry", "[I", true)
  | 4 => ("WindBrides$Coast", "winds", "I", false)
  | 5 => ("WindBrides$Coast", "point", "[I", true)
  | 6 => ("WindBrides$Coast", "force", "[I", true)
  | 7 => ("WindBrides$Coast", "from", "[I", true)
  | 8 => ("WindBrides$Coast", "to", "[I", true)
  | 9 => ("WindBrides$Coast", "end", "I", false)
  | 10 => ("WindBrides$Coast", "score", "I", false)
  | 11 => ("WindBrides$Coast", "chance", "I", false)
  | 12 => ("WindBrides$Coast", "now", "LWindBrides$Course;", true)
  | 13 => ("WindBrides$Coast", "book", "LWindBrides$Book;", true)
  | 14 => ("WindBrides$Coast", "reports", "I", false)
  | 15 => ("WindBrides$Coast", "reported", "[I", true)
  | _ => ("WindBrides$Coast", "choice", "[I", true)
def t_Co : Nat → FieldType := fun k => match k with
  | 0 => .int
  | 1 => .array .int
  | 2 => .array .int
  | 3 => .array .int
  | 4 => .int
  | 5 => .array .int
  | 6 => .array .int
  | 7 => .array .int
  | 8 => .array .int
  | 9 => .int
  | 10 => .int
  | 11 => .int
  | 12 => .object "WindBrides$Course"
  | 13 => .object "WindBrides$Book"
  | 14 => .int
  | 15 => .array .int
  | _ => .array .int
theorem n_Co : ∀ a, a < 17 → ∀ b, b < 17 → a ≠ b → (F_Co a).2.1 ≠ (F_Co b).2.1 := by decide +kernel
theorem t_Co_ok : ∀ k, k < 17 → parseFieldDescriptor (F_Co k).2.2.1 = some (t_Co k) := by decide +kernel
def R_Cr : String := "WindBrides$Course"
def F_Cr : u_T := fun k => match k with
  | 0 => ("WindBrides$Course", "month", "I", false)
  | 1 => ("WindBrides$Course", "promised", "[I", true)
  | 2 => ("WindBrides$Course", "faith", "[I", true)
  | 3 => ("WindBrides$Course", "courtedSet", "I", false)
  | _ => ("WindBrides$Course", "facts", "[I", true)
def t_Cr : Nat → FieldType := fun k => match k with
  | 0 => .int
  | 1 => .array .int
  | 2 => .array .int
  | 3 => .int
  | _ => .array .int
theorem n_Cr : ∀ a, a < 5 → ∀ b, b < 5 → a ≠ b → (F_Cr a).2.1 ≠ (F_Cr b).2.1 := by decide +kernel
theorem t_Cr_ok : ∀ k, k < 5 → parseFieldDescriptor (F_Cr k).2.2.1 = some (t_Cr k) := by decide +kernel
def R_Gi : String := "WindBrides$Girl"
def F_Gi : u_T := fun k => match k with
  | 0 => ("WindBrides$Girl", "n", "I", true)
  | 1 => ("WindBrides$Girl", "a", "I", true)
  | 2 => ("WindBrides$Girl", "traced", "[I", true)
  | 3 => ("WindBrides$Girl", "begun", "I", false)
  | _ => ("WindBrides$Girl", "parted", "Z", false)
def t_Gi : Nat → FieldType := fun k => match k with
  | 0 => .int
  | 1 => .int
  | 2 => .array .int
  | 3 => .int
  | _ => .boolean
theorem n_Gi : ∀ a, a < 5 → ∀ b, b < 5 → a ≠ b → (F_Gi a).2.1 ≠ (F_Gi b).2.1 := by decide +kernel
theorem t_Gi_ok : ∀ k, k < 5 → parseFieldDescriptor (F_Gi k).2.2.1 = some (t_Gi k) := by decide +kernel
def R_La : String := "WindBrides$Late"
def F_La : u_T := fun k => match k with
  | 0 => ("WindBrides$Girl", "n", "I", true)
  | 1 => ("WindBrides$Girl", "a", "I", true)
  | 2 => ("WindBrides$Girl", "traced", "[I", true)
  | 3 => ("WindBrides$Girl", "begun", "I", false)
  | _ => ("WindBrides$Girl", "parted", "Z", false)
def t_La : Nat → FieldType := fun k => match k with
  | 0 => .int
  | 1 => .int
  | 2 => .array .int
  | 3 => .int
  | _ => .boolean
theorem n_La : ∀ a, a < 5 → ∀ b, b < 5 → a ≠ b → (F_La a).2.1 ≠ (F_La b).2.1 := by decide +kernel
theorem t_La_ok : ∀ k, k < 5 → parseFieldDescriptor (F_La k).2.2.1 = some (t_La k) := by decide +kernel
def R_Pl : String := "WindBrides$Plans"
def F_Pl : u_T := fun k => match k with
  | 0 => ("WindBrides$Plans", "months", "I", false)
  | 1 => ("WindBrides$Plans", "most", "I", false)
  | 2 => ("WindBrides$Plans", "bestOnes", "I", false)
  | 3 => ("WindBrides$Plans", "bestActs", "[I", true)
  | 4 => ("WindBrides$Plans", "fewest", "I", false)
  | 5 => ("WindBrides$Plans", "everPromised", "I", false)
  | 6 => ("WindBrides$Plans", "opening", "I", false)
  | 7 => ("WindBrides$Plans", "rowCount", "I", false)
  | 8 => ("WindBrides$Plans", "rows", "[I", true)
  | 9 => ("WindBrides$Plans", "coast", "LWindBrides$Coast;", false)
  | 10 => ("WindBrides$Plans", "wanted", "I", false)
  | 11 => ("WindBrides$Plans", "acts", "[I", true)
  | _ => ("WindBrides$Plans", "behind", "[LWindBrides$Course;", true)
def t_Pl : Nat → FieldType := fun k => match k with
  | 0 => .int
  | 1 => .int
  | 2 => .int
  | 3 => .array .int
  | 4 => .int
  | 5 => .int
  | 6 => .int
  | 7 => .int
  | 8 => .array .int
  | 9 => .object "WindBrides$Coast"
  | 10 => .int
  | 11 => .array .int
  | _ => .array (.object "WindBrides$Course")
theorem n_Pl : ∀ a, a < 13 → ∀ b, b < 13 → a ≠ b → (F_Pl a).2.1 ≠ (F_Pl b).2.1 := by decide +kernel
theorem t_Pl_ok : ∀ k, k < 13 → parseFieldDescriptor (F_Pl k).2.2.1 = some (t_Pl k) := by decide +kernel
def R_Sh : String := "WindBrides$Shared"
def F_Sh : u_T := fun k => match k with
  | 0 => ("WindBrides$Girl", "n", "I", true)
  | 1 => ("WindBrides$Girl", "a", "I", true)
  | 2 => ("WindBrides$Girl", "traced", "[I", true)
  | 3 => ("WindBrides$Girl", "begun", "I", false)
  | _ => ("WindBrides$Girl", "parted", "Z", false)
def t_Sh : Nat → FieldType := fun k => match k with
  | 0 => .int
  | 1 => .int
  | 2 => .array .int
  | 3 => .int
  | _ => .boolean
theorem n_Sh : ∀ a, a < 5 → ∀ b, b < 5 → a ≠ b → (F_Sh a).2.1 ≠ (F_Sh b).2.1 := by decide +kernel
theorem t_Sh_ok : ∀ k, k < 5 → parseFieldDescriptor (F_Sh k).2.2.1 = some (t_Sh k) := by decide +kernel
def R_Ta : String := "WindBrides$Tape"
def F_Ta : u_T := fun k => match k with
  | 0 => ("WindBrides$Tape", "length", "I", false)
  | 1 => ("WindBrides$Tape", "bytes", "[I", true)
  | 2 => ("WindBrides$Tape", "tokens", "[I", true)
  | 3 => ("WindBrides$Tape", "places", "[I", true)
  | _ => ("WindBrides$Tape", "at", "I", false)
def t_Ta : Nat → FieldType := fun k => match k with
  | 0 => .int
  | 1 => .array .int
  | 2 => .array .int
  | 3 => .array .int
  | _ => .int
theorem n_Ta : ∀ a, a < 5 → ∀ b, b < 5 → a ≠ b → (F_Ta a).2.1 ≠ (F_Ta b).2.1 := by decide +kernel
theorem t_Ta_ok : ∀ k, k < 5 → parseFieldDescriptor (F_Ta k).2.2.1 = some (t_Ta k) := by decide +kernel
def R_Tw : String := "WindBrides$Twice"
def F_Tw : u_T := fun k => match k with
  | 0 => ("WindBrides$Girl", "n", "I", true)
  | 1 => ("WindBrides$Girl", "a", "I", true)
  | 2 => ("WindBrides$Girl", "traced", "[I", true)
  | 3 => ("WindBrides$Girl", "begun", "I", false)
  | _ => ("WindBrides$Girl", "parted", "Z", false)
def t_Tw : Nat → FieldType := fun k => match k with
  | 0 => .int
  | 1 => .int
  | 2 => .array .int
  | 3 => .int
  | _ => .boolean
theorem n_Tw : ∀ a, a < 5 → ∀ b, b < 5 → a ≠ b → (F_Tw a).2.1 ≠ (F_Tw b).2.1 := by decide +kernel
theorem t_Tw_ok : ∀ k, k < 5 → parseFieldDescriptor (F_Tw k).2.2.1 = some (t_Tw k) := by decide +kernel
def R_Wb : String := "WindBrides"
def F_Wb : u_T := fun k => match k with
  | 0 => ("WindBrides", "coast", "LWindBrides$Coast;", true)
  | 1 => ("WindBrides", "keptCoast", "LWindBrides$Coast;", true)
  | 2 => ("WindBrides", "hasKept", "Z", false)
  | 3 => ("WindBrides", "trial", "LWindBrides$Course;", true)
  | 4 => ("WindBrides", "tape", "LWindBrides$Tape;", true)
  | 5 => ("WindBrides", "draft", "LWindBrides$Book;", true)
  | 6 => ("WindBrides", "plans", "LWindBrides$Plans;", true)
  | 7 => ("WindBrides", "sheetSort", "[I", true)
  | 8 => ("WindBrides", "sheetSize", "[I", true)
  | 9 => ("WindBrides", "sheetItems", "[I", true)
  | 10 => ("WindBrides", "shelfHolds", "[I", true)
  | 11 => ("WindBrides", "shelfNumber", "[I", true)
  | 12 => ("WindBrides", "shelfSort", "[I", true)
  | 13 => ("WindBrides", "traced", "[I", true)
  | _ => ("WindBrides", "actor", "LWindBrides$Girl;", false)
def t_Wb : Nat → FieldType := fun k => match k with
  | 0 => .object "WindBrides$Coast"
  | 1 => .object "WindBrides$Coast"
  | 2 => .boolean
  | 3 => .object "WindBrides$Course"
  | 4 => .object "WindBrides$Tape"
  | 5 => .object "WindBrides$Book"
  | 6 => .object "WindBrides$Plans"
  | 7 => .array .int
  | 8 => .array .int
  | 9 => .array .int
  | 10 => .array .int
  | 11 => .array .int
  | 12 => .array .int
  | 13 => .array .int
  | _ => .object "WindBrides$Girl"
theorem n_Wb : ∀ a, a < 15 → ∀ b, b < 15 → a ≠ b → (F_Wb a).2.1 ≠ (F_Wb b).2.1 := by decide +kernel
theorem t_Wb_ok : ∀ k, k < 15 → parseFieldDescriptor (F_Wb k).2.2.1 = some (t_Wb k) := by decide +kernel
def R_Mo : String := "WindBridesModel"
def F_Mo : u_T := fun k => match k with
  | 0 => ("WindBridesModel", "m", "[I", true)
  | 1 => ("WindBridesModel", "kept", "[I", true)
  | 2 => ("WindBridesModel", "was", "[I", true)
  | 3 => ("WindBridesModel", "isKept", "Z", false)
  | 4 => ("WindBridesModel", "tape", "[I", true)
  | 5 => ("WindBridesModel", "taped", "I", false)
  | 6 => ("WindBridesModel", "token", "I", false)
  | 7 => ("WindBridesModel", "begin", "I", false)
  | 8 => ("WindBridesModel", "at", "I", false)
  | 9 => ("WindBridesModel", "value", "I", false)
  | 10 => ("WindBridesModel", "bad", "Z", false)
  | 11 => ("WindBridesModel", "opened", "I", false)
  | 12 => ("WindBridesModel", "laid", "I", false)
  | 13 => ("WindBridesModel", "pile", "[Z", true)
  | 14 => ("WindBridesModel", "who", "I", false)
  | 15 => ("WindBridesModel", "mate", "[I", true)
  | 16 => ("WindBridesModel", "asked", "[I", true)
  | 17 => ("WindBridesModel", "promisedBehind", "I", false)
  | 18 => ("WindBridesModel", "bestPlan", "I", false)
  | 19 => ("WindBridesModel", "bestWorth", "I", false)
  | 20 => ("WindBridesModel", "bestMany", "I", false)
  | 21 => ("WindBridesModel", "turn", "[I", true)
  | 22 => ("WindBridesModel", "ahead", "[I", true)
  | 23 => ("WindBridesModel", "rows", "I", false)
  | 24 => ("WindBridesModel", "row", "[I", true)
  | 25 => ("WindBridesModel", "sorts", "[I", true)
  | 26 => ("WindBridesModel", "sizes", "[I", true)
  | 27 => ("WindBridesModel", "cells", "[J", true)
  | 28 => ("WindBridesModel", "holds", "[I", true)
  | 29 => ("WindBridesModel", "held", "[I", true)
  | 30 => ("WindBridesModel", "heldSize", "[I", true)
  | 31 => ("WindBridesModel", "trace", "[I", true)
  | 32 => ("WindBridesModel", "traced", "I", false)
  | _ => ("WindBridesModel", "isParted", "Z", false)
def t_Mo : Nat → FieldType := fun k => match k with
  | 0 => .array .int
  | 1 => .array .int
  | 2 => .array .int
  | 3 => .boolean
  | 4 => .array .int
  | 5 => .int
  | 6 => .int
  | 7 => .int
  | 8 => .int
  | 9 => .int
  | 10 => .boolean
  | 11 => .int
  | 12 => .int
  | 13 => .array .boolean
  | 14 => .int
  | 15 => .array .int
  | 16 => .array .int
  | 17 => .int
  | 18 => .int
  | 19 => .int
  | 20 => .int
  | 21 => .array .int
  | 22 => .array .int
  | 23 => .int
  | 24 => .array .int
  | 25 => .array .int
  | 26 => .array .int
  | 27 => .array .long
  | 28 => .array .int
  | 29 => .array .int
  | 30 => .array .int
  | 31 => .array .int
  | 32 => .int
  | _ => .boolean
theorem n_Mo : ∀ a, a < 34 → ∀ b, b < 34 → a ≠ b → (F_Mo a).2.1 ≠ (F_Mo b).2.1 := by decide +kernel
theorem t_Mo_ok : ∀ k, k < 34 → parseFieldDescriptor (F_Mo k).2.2.1 = some (t_Mo k) := by decide +kernel
abbrev zCl : List vw_C := [(R_Bk, F_Bk, 6), (R_Br, F_Br, 5), (R_Ca, F_Ca, 5), (R_Co, F_Co, 17), (R_Cr, F_Cr, 5), (R_Gi, F_Gi, 5), (R_La, F_La, 5), (R_Pl, F_Pl, 13), (R_Sh, F_Sh, 5), (R_Ta, F_Ta, 5), (R_Tw, F_Tw, 5), (R_Wb, F_Wb, 15), (R_Mo, F_Mo, 34)]
def R_Lw : String := "WindBridesLaw"
/-- the words that are kept by every call -/
def zT : List Cond := lw_tbl.filter goodWord
theorem i_Bk : ∀ w ∈ u_ws R_Bk F_Bk 6, w ∈ zT := by decide +kernel
theorem i_Br : ∀ w ∈ u_ws R_Br F_Br 5, w ∈ zT := by decide +kernel
theorem i_Ca : ∀ w ∈ u_ws R_Ca F_Ca 5, w ∈ zT := by decide +kernel
theorem i_Co : ∀ w ∈ u_ws R_Co F_Co 17, w ∈ zT := by decide +kernel
theorem i_Cr : ∀ w ∈ u_ws R_Cr F_Cr 5, w ∈ zT := by decide +kernel
theorem i_Gi : ∀ w ∈ u_ws R_Gi F_Gi 5, w ∈ zT := by decide +kernel
theorem i_La : ∀ w ∈ u_ws R_La F_La 5, w ∈ zT := by decide +kernel
theorem i_Pl : ∀ w ∈ u_ws R_Pl F_Pl 13, w ∈ zT := by decide +kernel
theorem i_Sh : ∀ w ∈ u_ws R_Sh F_Sh 5, w ∈ zT := by decide +kernel
theorem i_Ta : ∀ w ∈ u_ws R_Ta F_Ta 5, w ∈ zT := by decide +kernel
theorem i_Tw : ∀ w ∈ u_ws R_Tw F_Tw 5, w ∈ zT := by decide +kernel
theorem i_Wb : ∀ w ∈ u_ws R_Wb F_Wb 15, w ∈ zT := by decide +kernel
theorem i_Mo : ∀ w ∈ u_ws R_Mo F_Mo 34, w ∈ zT := by decide +kernel
/-- a method: its class, its name, its code, its locals, its answer, its instructions -/
abbrev zM : Type := String × MethodName × ByteArray × Nat × Option FieldType × List (Nat × Instr × Nat)
abbrev mO (M : zM) : String := M.1
abbrev mY (M : zM) : MethodName := M.2.1
abbrev mC (M : zM) : ByteArray := M.2.2.1
abbrev mL (M : zM) : Nat := M.2.2.2.1
abbrev mR (M : zM) : Option FieldType := M.2.2.2.2.1
abbrev mI (M : zM) : List (Nat × Instr × Nat) := M.2.2.2.2.2
abbrev mOk (M : zM) : Prop := (mI M).all (fun e => decide (decode (mC M) e.1 = .ok e.2)) = true
