/-- the words of the tables that every state of the run keeps -/
def aWs : List Cond := lw_tbl.filter goodWord
/-! the fields of the classes, by their places (written by tools/gen_tab.py) -/
def aN0 : String := "GallopDispatch$Acts"
def aT0 : u_T := fun k => match k with
  | 0 => ("GallopDispatch$Acts", "before", "[LGallopDispatch$State;", true)
  | 1 => ("GallopDispatch$Acts", "next", "I", false)
  | _ => ("GallopDispatch$Acts", "count", "I", false)
def aY0 : Nat → FieldType := fun k => match k with
  | 0 => .array (.object "GallopDispatch$State")
  | 1 => .int
  | _ => .int
theorem aT0_nm : ∀ a, a < 3 → ∀ b, b < 3 → a ≠ b → (aT0 a).2.1 ≠ (aT0 b).2.1 := by decide +kernel
theorem aT0_ty : ∀ k, k < 3 → parseFieldDescriptor (aT0 k).2.2.1 = some (aY0 k) := by decide +kernel
theorem aT0_in : ∀ w ∈ u_ws aN0 aT0 3, w ∈ aWs := by decide +kernel
def aN1 : String := "GallopDispatch$Course"
def aT1 : u_T := fun k => match k with
  | 0 => ("GallopDispatch$Course", "named", "[I", true)
  | 1 => ("GallopDispatch$Course", "size", "I", false)
  | 2 => ("GallopDispatch$Course", "slips", "I", false)
  | 3 => ("GallopDispatch$Course", "written", "[I", true)
  | 4 => ("GallopDispatch$Course", "writtenAt", "[I", true)
  | 5 => ("GallopDispatch$Course", "stands", "[I", true)
  | 6 => ("GallopDispatch$Course", "voices", "[I", true)
  | 7 => ("GallopDispatch$Course", "ranks", "[I", true)
  | 8 => ("GallopDispatch$Course", "wet", "[Z", true)
  | 9 => ("GallopDispatch$Course", "loud", "[[I", true)
  | 10 => ("GallopDispatch$Course", "parts", "[J", true)
  | 11 => ("GallopDispatch$Course", "men", "I", false)
  | 12 => ("GallopDispatch$Course", "length", "I", false)
  | 13 => ("GallopDispatch$Course", "pace", "I", false)
  | 14 => ("GallopDispatch$Course", "mud", "I", false)
  | _ => ("GallopDispatch$Course", "law", "LGallopDispatch$Law;", false)
def aY1 : Nat → FieldType := fun k => match k with
  | 0 => .array .int
  | 1 => .int
  | 2 => .int
  | 3 => .array .int
  | 4 => .array .int
  | 5 => .array .int
  | 6 => .array .int
  | 7 => .array .int
  | 8 => .array .boolean
  | 9 => .array (.array .int)
  | 10 => .array .long
  | 11 => .int
  | 12 => .int
  | 13 => .int
  | 14 => .int
  | _ => .object "GallopDispatch$Law"
theorem aT1_nm : ∀ a, a < 16 → ∀ b, b < 16 → a ≠ b → (aT1 a).2.1 ≠ (aT1 b).2.1 := by decide +kernel
theorem aT1_ty : ∀ k, k < 16 → parseFieldDescriptor (aT1 k).2.2.1 = some (aY1 k) := by decide +kernel
theorem aT1_in : ∀ w ∈ u_ws aN1 aT1 16, w ∈ aWs := by decide +kernel
def aN2 : String := "GallopDispatch$Diary"
def aT2 : u_T := fun k => match k with
  | 0 => ("GallopDispatch$Diary", "words", "[I", true)
  | 1 => ("GallopDispatch$Diary", "slips", "[I", true)
  | _ => ("GallopDispatch$Diary", "names", "[I", true)
def aY2 : Nat → FieldType := fun k => match k with
  | 0 => .array .int
  | 1 => .array .int
  | _ => .array .int
theorem aT2_nm : ∀ a, a < 3 → ∀ b, b < 3 → a ≠ b → (aT2 a).2.1 ≠ (aT2 b).2.1 := by decide +kernel
theorem aT2_ty : ∀ k, k < 3 → parseFieldDescriptor (aT2 k).2.2.1 = some (aY2 k) := by decide +kernel
theorem aT2_in : ∀ w ∈ u_ws aN2 aT2 3, w ∈ aWs := by decide +kernel
def aN3 : String := "GallopDispatch$Law"
def aT3 : u_T := fun k => match k with
  | 0 => ("GallopDispatch$Law", "code", "[I", true)
  | 1 => ("GallopDispatch$Law", "clauseAt", "[I", true)
  | 2 => ("GallopDispatch$Law", "sumAt", "[I", true)
  | 3 => ("GallopDispatch$Law", "size", "I", false)
  | 4 => ("GallopDispatch$Law", "clauses", "I", false)
  | 5 => ("GallopDispatch$Law", "values", "[I", true)
  | _ => ("GallopDispatch$Law", "stack", "[I", true)
def aY3 : Nat → FieldType := fun k => match k with
  | 0 => .array .int
  | 1 => .array .int
  | 2 => .array .int
  | 3 => .int
  | 4 => .int
  | 5 => .array .int
  | _ => .array .int
theorem aT3_nm : ∀ a, a < 7 → ∀ b, b < 7 → a ≠ b → (aT3 a).2.1 ≠ (aT3 b).2.1 := by decide +kernel
theorem aT3_ty : ∀ k, k < 7 → parseFieldDescriptor (aT3 k).2.2.1 = some (aY3 k) := by decide +kernel
theorem aT3_in : ∀ w ∈ u_ws aN3 aT3 7, w ∈ aWs := by decide +kernel
def aN4 : String := "GallopDispatch$LawReader"
def aT4 : u_T := fun k => match k with
  | 0 => ("GallopDispatch$LawReader", "draft", "LGallopDispatch$Law;", true)
  | _ => ("GallopDispatch$LawReader", "tape", "LGallopDispatch$Tape;", true)
def aY4 : Nat → FieldType := fun k => match k with
  | 0 => .object "GallopDispatch$Law"
  | _ => .object "GallopDispatch$Tape"
theorem aT4_nm : ∀ a, a < 2 → ∀ b, b < 2 → a ≠ b → (aT4 a).2.1 ≠ (aT4 b).2.1 := by decide +kernel
theorem aT4_ty : ∀ k, k < 2 → parseFieldDescriptor (aT4 k).2.2.1 = some (aY4 k) := by decide +kernel
theorem aT4_in : ∀ w ∈ u_ws aN4 aT4 2, w ∈ aWs := by decide +kernel
def aN5 : String := "GallopDispatch$RideReader"
def aT5 : u_T := fun k => match k with
  | 0 => ("GallopDispatch$RideReader", "draft", "LGallopDispatch$Told;", true)
  | 1 => ("GallopDispatch$RideReader", "tape", "LGallopDispatch$Tape;", true)
  | _ => ("GallopDispatch$RideReader", "rulesTold", "Z", false)
def aY5 : Nat → FieldType := fun k => match k with
  | 0 => .object "GallopDispatch$Told"
  | 1 => .object "GallopDispatch$Tape"
  | _ => .boolean
theorem aT5_nm : ∀ a, a < 3 → ∀ b, b < 3 → a ≠ b → (aT5 a).2.1 ≠ (aT5 b).2.1 := by decide +kernel
theorem aT5_ty : ∀ k, k < 3 → parseFieldDescriptor (aT5 k).2.2.1 = some (aY5 k) := by decide +kernel
theorem aT5_in : ∀ w ∈ u_ws aN5 aT5 3, w ∈ aWs := by decide +kernel
def aN6 : String := "GallopDispatch$Sightings"
def aT6 : u_T := fun k => match k with
  | 0 => ("GallopDispatch$Sightings", "at", "[I", true)
  | 1 => ("GallopDispatch$Sightings", "men", "[I", true)
  | 2 => ("GallopDispatch$Sightings", "are", "[Z", true)
  | 3 => ("GallopDispatch$Sightings", "count", "I", false)
  | 4 => ("GallopDispatch$Sightings", "fits", "[I", true)
  | 5 => ("GallopDispatch$Sightings", "tellings", "[[I", true)
  | _ => ("GallopDispatch$Sightings", "fitting", "I", false)
def aY6 : Nat → FieldType := fun k => match k with
  | 0 => .array .int
  | 1 => .array .int
  | 2 => .array .boolean
  | 3 => .int
  | 4 => .array .int
  | 5 => .array (.array .int)
  | _ => .int
theorem aT6_nm : ∀ a, a < 7 → ∀ b, b < 7 → a ≠ b → (aT6 a).2.1 ≠ (aT6 b).2.1 := by decide +kernel
theorem aT6_ty : ∀ k, k < 7 → parseFieldDescriptor (aT6 k).2.2.1 = some (aY6 k) := by decide +kernel
theorem aT6_in : ∀ w ∈ u_ws aN6 aT6 7, w ∈ aWs := by decide +kernel
def aN7 : String := "GallopDispatch$State"
def aT7 : u_T := fun k => match k with
  | 0 => ("GallopDispatch$State", "stands", "[I", true)
  | 1 => ("GallopDispatch$State", "voices", "[I", true)
  | 2 => ("GallopDispatch$State", "deeds", "[I", true)
  | 3 => ("GallopDispatch$State", "glory", "[I", true)
  | 4 => ("GallopDispatch$State", "depths", "[I", true)
  | 5 => ("GallopDispatch$State", "pace", "I", false)
  | 6 => ("GallopDispatch$State", "mud", "I", false)
  | 7 => ("GallopDispatch$State", "coins", "I", false)
  | _ => ("GallopDispatch$State", "day", "I", false)
def aY7 : Nat → FieldType := fun k => match k with
  | 0 => .array .int
  | 1 => .array .int
  | 2 => .array .int
  | 3 => .array .int
  | 4 => .array .int
  | 5 => .int
  | 6 => .int
  | 7 => .int
  | _ => .int
theorem aT7_nm : ∀ a, a < 9 → ∀ b, b < 9 → a ≠ b → (aT7 a).2.1 ≠ (aT7 b).2.1 := by decide +kernel
theorem aT7_ty : ∀ k, k < 9 → parseFieldDescriptor (aT7 k).2.2.1 = some (aY7 k) := by decide +kernel
theorem aT7_in : ∀ w ∈ u_ws aN7 aT7 9, w ∈ aWs := by decide +kernel
def aN8 : String := "GallopDispatch$Tape"
def aT8 : u_T := fun k => match k with
  | 0 => ("GallopDispatch$Tape", "bytes", "[I", true)
  | 1 => ("GallopDispatch$Tape", "length", "I", false)
  | 2 => ("GallopDispatch$Tape", "at", "I", false)
  | _ => ("GallopDispatch$Tape", "faultAt", "I", false)
def aY8 : Nat → FieldType := fun k => match k with
  | 0 => .array .int
  | 1 => .int
  | 2 => .int
  | _ => .int
theorem aT8_nm : ∀ a, a < 4 → ∀ b, b < 4 → a ≠ b → (aT8 a).2.1 ≠ (aT8 b).2.1 := by decide +kernel
theorem aT8_ty : ∀ k, k < 4 → parseFieldDescriptor (aT8 k).2.2.1 = some (aY8 k) := by decide +kernel
theorem aT8_in : ∀ w ∈ u_ws aN8 aT8 4, w ∈ aWs := by decide +kernel
def aN9 : String := "GallopDispatch$Told"
def aT9 : u_T := fun k => match k with
  | 0 => ("GallopDispatch$Told", "rules", "[I", true)
  | 1 => ("GallopDispatch$Told", "men", "[[I", true)
  | 2 => ("GallopDispatch$Told", "fords", "[[I", true)
  | 3 => ("GallopDispatch$Told", "menCount", "I", false)
  | _ => ("GallopDispatch$Told", "fordCount", "I", false)
def aY9 : Nat → FieldType := fun k => match k with
  | 0 => .array .int
  | 1 => .array (.array .int)
  | 2 => .array (.array .int)
  | 3 => .int
  | _ => .int
theorem aT9_nm : ∀ a, a < 5 → ∀ b, b < 5 → a ≠ b → (aT9 a).2.1 ≠ (aT9 b).2.1 := by decide +kernel
theorem aT9_ty : ∀ k, k < 5 → parseFieldDescriptor (aT9 k).2.2.1 = some (aY9 k) := by decide +kernel
theorem aT9_in : ∀ w ∈ u_ws aN9 aT9 5, w ∈ aWs := by decide +kernel
def aN10 : String := "GallopDispatch"
def aT10 : u_T := fun k => match k with
  | 0 => ("GallopDispatch", "tape", "LGallopDispatch$Tape;", true)
  | 1 => ("GallopDispatch", "rideReader", "LGallopDispatch$RideReader;", true)
  | 2 => ("GallopDispatch", "lawReader", "LGallopDispatch$LawReader;", true)
  | 3 => ("GallopDispatch", "told", "LGallopDispatch$Told;", true)
  | 4 => ("GallopDispatch", "atFirst", "LGallopDispatch$State;", true)
  | 5 => ("GallopDispatch", "now", "LGallopDispatch$State;", true)
  | 6 => ("GallopDispatch", "diary", "LGallopDispatch$Diary;", true)
  | 7 => ("GallopDispatch", "acts", "LGallopDispatch$Acts;", true)
  | 8 => ("GallopDispatch", "imageState", "LGallopDispatch$State;", true)
  | 9 => ("GallopDispatch", "imageDiary", "LGallopDispatch$Diary;", true)
  | 10 => ("GallopDispatch", "laws", "[LGallopDispatch$Law;", true)
  | 11 => ("GallopDispatch", "course", "LGallopDispatch$Course;", true)
  | 12 => ("GallopDispatch", "sightings", "LGallopDispatch$Sightings;", true)
  | 13 => ("GallopDispatch", "refused", "[I", true)
  | 14 => ("GallopDispatch", "pays", "[[I", true)
  | 15 => ("GallopDispatch", "imageKept", "Z", false)
  | 16 => ("GallopDispatch", "lawCount", "I", false)
  | 17 => ("GallopDispatch", "holding", "I", false)
  | _ => ("GallopDispatch", "stormLevel", "I", false)
def aY10 : Nat → FieldType := fun k => match k with
  | 0 => .object "GallopDispatch$Tape"
  | 1 => .object "GallopDispatch$RideReader"
  | 2 => .object "GallopDispatch$LawReader"
  | 3 => .object "GallopDispatch$Told"
  | 4 => .object "GallopDispatch$State"
  | 5 => .object "GallopDispatch$State"
  | 6 => .object "GallopDispatch$Diary"
  | 7 => .object "GallopDispatch$Acts"
  | 8 => .object "GallopDispatch$State"
  | 9 => .object "GallopDispatch$Diary"
  | 10 => .array (.object "GallopDispatch$Law")
  | 11 => .object "GallopDispatch$Course"
  | 12 => .object "GallopDispatch$Sightings"
  | 13 => .array .int
  | 14 => .array (.array .int)
  | 15 => .boolean
  | 16 => .int
  | 17 => .int
  | _ => .int
theorem aT10_nm : ∀ a, a < 19 → ∀ b, b < 19 → a ≠ b → (aT10 a).2.1 ≠ (aT10 b).2.1 := by decide +kernel
theorem aT10_ty : ∀ k, k < 19 → parseFieldDescriptor (aT10 k).2.2.1 = some (aY10 k) := by decide +kernel
theorem aT10_in : ∀ w ∈ u_ws aN10 aT10 19, w ∈ aWs := by decide +kernel
def aN11 : String := "GallopDispatchModel"
def aT11 : u_T := fun k => match k with
  | 0 => ("GallopDispatchModel", "thrown", "I", false)
  | 1 => ("GallopDispatchModel", "tape", "[I", true)
  | 2 => ("GallopDispatchModel", "size", "I", false)
  | 3 => ("GallopDispatchModel", "at", "I", false)
  | 4 => ("GallopDispatchModel", "wrong", "I", false)
  | 5 => ("GallopDispatchModel", "deep", "I", false)
  | 6 => ("GallopDispatchModel", "code", "[I", true)
  | 7 => ("GallopDispatchModel", "value", "[I", true)
  | 8 => ("GallopDispatchModel", "codes", "[I", true)
  | 9 => ("GallopDispatchModel", "clauses", "[I", true)
  | 10 => ("GallopDispatchModel", "testFrom", "[I", true)
  | 11 => ("GallopDispatchModel", "sumFrom", "[I", true)
  | 12 => ("GallopDispatchModel", "sumTo", "[I", true)
  | 13 => ("GallopDispatchModel", "laws", "I", false)
  | 14 => ("GallopDispatchModel", "text", "I", false)
  | 15 => ("GallopDispatchModel", "letters", "[I", true)
  | 16 => ("GallopDispatchModel", "stack", "[I", true)
  | 17 => ("GallopDispatchModel", "readRule", "[I", true)
  | 18 => ("GallopDispatchModel", "readMan", "[I", true)
  | 19 => ("GallopDispatchModel", "readFord", "[I", true)
  | 20 => ("GallopDispatchModel", "readMen", "I", false)
  | 21 => ("GallopDispatchModel", "readFords", "I", false)
  | 22 => ("GallopDispatchModel", "rule", "[I", true)
  | 23 => ("GallopDispatchModel", "man", "[I", true)
  | 24 => ("GallopDispatchModel", "ford", "[I", true)
  | 25 => ("GallopDispatchModel", "men", "I", false)
  | 26 => ("GallopDispatchModel", "fords", "I", false)
  | 27 => ("GallopDispatchModel", "now", "[I", true)
  | 28 => ("GallopDispatchModel", "refused", "[I", true)
  | 29 => ("GallopDispatchModel", "holding", "I", false)
  | 30 => ("GallopDispatchModel", "storms", "I", false)
  | 31 => ("GallopDispatchModel", "wordOf", "[I", true)
  | 32 => ("GallopDispatchModel", "wordAt", "[I", true)
  | 33 => ("GallopDispatchModel", "mentionsOf", "[I", true)
  | 34 => ("GallopDispatchModel", "wordMany", "I", false)
  | 35 => ("GallopDispatchModel", "slips", "I", false)
  | 36 => ("GallopDispatchModel", "mentioned", "I", false)
  | 37 => ("GallopDispatchModel", "kept", "[I", true)
  | 38 => ("GallopDispatchModel", "acts", "I", false)
  | 39 => ("GallopDispatchModel", "draws", "J", false)
  | 40 => ("GallopDispatchModel", "bestMany", "I", false)
  | 41 => ("GallopDispatchModel", "noteAt", "[I", true)
  | 42 => ("GallopDispatchModel", "noteMan", "[I", true)
  | 43 => ("GallopDispatchModel", "noteIs", "[Z", true)
  | 44 => ("GallopDispatchModel", "noted", "I", false)
  | 45 => ("GallopDispatchModel", "aside", "[I", true)
  | 46 => ("GallopDispatchModel", "rows", "[I", true)
  | 47 => ("GallopDispatchModel", "partBy", "[J", true)
  | 48 => ("GallopDispatchModel", "image", "[I", true)
  | _ => ("GallopDispatchModel", "hasImage", "Z", false)
def aY11 : Nat → FieldType := fun k => match k with
  | 0 => .int
  | 1 => .array .int
  | 2 => .int
  | 3 => .int
  | 4 => .int
  | 5 => .int
  | 6 => .array .int
  | 7 => .array .int
  | 8 => .array .int
  | 9 => .array .int
  | 10 => .array .int
  | 11 => .array .int
  | 12 => .array .int
  | 13 => .int
  | 14 => .int
  | 15 => .array .int
  | 16 => .array .int
  | 17 => .array .int
  | 18 => .array .int
  | 19 => .array .int
  | 20 => .int
  | 21 => .int
  | 22 => .array .int
  | 23 => .array .int
  | 24 => .array .int
  | 25 => .int
  | 26 => .int
  | 27 => .array .int
  | 28 => .array .int
  | 29 => .int
  | 30 => .int
  | 31 => .array .int
  | 32 => .array .int
  | 33 => .array .int
  | 34 => .int
  | 35 => .int
  | 36 => .int
  | 37 => .array .int
  | 38 => .int
  | 39 => .long
  | 40 => .int
  | 41 => .array .int
  | 42 => .array .int
  | 43 => .array .boolean
  | 44 => .int
  | 45 => .array .int
  | 46 => .array .int
  | 47 => .array .long
  | 48 => .array .int
  | _ => .boolean
theorem aT11_nm : ∀ a, a < 50 → ∀ b, b < 50 → a ≠ b → (aT11 a).2.1 ≠ (aT11 b).2.1 := by decide +kernel
theorem aT11_ty : ∀ k, k < 50 → parseFieldDescriptor (aT11 k).2.2.1 = some (aY11 k) := by decide +kernel
theorem aT11_in : ∀ w ∈ u_ws aN11 aT11 50, w ∈ aWs := by decide +kernel
abbrev aCl : List vw_C := [(aN0, aT0, 3), (aN1, aT1, 16), (aN2, aT2, 3), (aN3, aT3, 7), (aN4, aT4, 2), (aN5, aT5, 3), (aN6, aT6, 7), (aN7, aT7, 9), (aN8, aT8, 4), (aN9, aT9, 5), (aN10, aT10, 19), (aN11, aT11, 50)]
/-- kinds of the fields, class by class; the last is String (value, coder) -/
def aKinds : List (List Nat) := [[2, 0, 0], [2, 0, 0, 2, 2, 2, 2, 2, 2, 2, 2, 0, 0, 0, 0, 2], [2, 2, 2], [2, 2, 2, 0, 0, 2, 2], [2, 2], [2, 2, 3], [2, 2, 2, 0, 2, 2, 0], [2, 2, 2, 2, 2, 0, 0, 0, 0], [2, 0, 0, 0], [2, 2, 2, 0, 0], [2, 2, 2, 2, 2, 2, 2, 2, 2, 2, 2, 2, 2, 2, 2, 3, 0, 0, 0], [0, 2, 0, 0, 0, 0, 2, 2, 2, 2, 2, 2, 2, 0, 0, 2, 2, 2, 2, 2, 0, 0, 2, 2, 2, 0, 0, 2, 2, 0, 0, 2, 2, 2, 0, 0, 0, 2, 0, 1, 0, 2, 2, 2, 0, 2, 2, 2, 2, 3], [2, 0]]
def aNs : List Nat := [3, 16, 3, 7, 2, 3, 7, 9, 4, 5, 19, 50, 2]
def aNf (c : Nat) : Nat := aNs.getD c 0
def aKt (t : FieldType) : Nat := match t with
  | .long => 1
  | .boolean => 3
  | .int => 0
  | .object _ => 2
  | .array _ => 2
  | _ => 9
def aFk (c k : Nat) : Nat := ((aKinds.getD c []).getD k 0)
/-- what the tables say of each class -/
def aTOk (c : Nat) (r : vw_C) : Prop := (∀ w ∈ u_ws r.1 r.2.1 r.2.2, w ∈ aWs) ∧ (∀ a, a < r.2.2 → ∀ b, b < r.2.2 → a ≠ b → (r.2.1 a).2.1 ≠ (r.2.1 b).2.1) ∧ r.2.2 = aNf c ∧ ∃ ty : Nat → FieldType, (∀ k, k < r.2.2 → parseFieldDescriptor (r.2.1 k).2.2.1 = some (ty k)) ∧ ∀ k, k < r.2.2 → aKt (ty k) = aFk c k
theorem aT0_ok : aTOk 0 (aN0, aT0, 3) := ⟨aT0_in, aT0_nm, by decide +kernel, aY0, aT0_ty, by decide +kernel⟩
theorem aT1_ok : aTOk 1 (aN1, aT1, 16) := ⟨aT1_in, aT1_nm, by decide +kernel, aY1, aT1_ty, by decide +kernel⟩
theorem aT2_ok : aTOk 2 (aN2, aT2, 3) := ⟨aT2_in, aT2_nm, by decide +kernel, aY2, aT2_ty, by decide +kernel⟩
theorem aT3_ok : aTOk 3 (aN3, aT3, 7) := ⟨aT3_in, aT3_nm, by decide +kernel, aY3, aT3_ty, by decide +kernel⟩
theorem aT4_ok : aTOk 4 (aN4, aT4, 2) := ⟨aT4_in, aT4_nm, by decide +kernel, aY4, aT4_ty, by decide +kernel⟩
theorem aT5_ok : aTOk 5 (aN5, aT5, 3) := ⟨aT5_in, aT5_nm, by decide +kernel, aY5, aT5_ty, by decide +kernel⟩
theorem aT6_ok : aTOk 6 (aN6, aT6, 7) := ⟨aT6_in, aT6_nm, by decide +kernel, aY6, aT6_ty, by decide +kernel⟩
theorem aT7_ok : aTOk 7 (aN7, aT7, 9) := ⟨aT7_in, aT7_nm, by decide +kernel, aY7, aT7_ty, by decide +kernel⟩
theorem aT8_ok : aTOk 8 (aN8, aT8, 4) := ⟨aT8_in, aT8_nm, by decide +kernel, aY8, aT8_ty, by decide +kernel⟩
theorem aT9_ok : aTOk 9 (aN9, aT9, 5) := ⟨aT9_in, aT9_nm, by decide +kernel, aY9, aT9_ty, by decide +kernel⟩
theorem aT10_ok : aTOk 10 (aN10, aT10, 19) := ⟨aT10_in, aT10_nm, by decide +kernel, aY10, aT10_ty, by decide +kernel⟩
theorem aT11_ok : aTOk 11 (aN11, aT11, 50) := ⟨aT11_in, aT11_nm, by decide +kernel, aY11, aT11_ty, by decide +kernel⟩
theorem aCl_ok : ∀ (c : Nat) (r : vw_C), aCl[c]? = some r → aTOk c r
  | 0, _, h => by cases h; exact aT0_ok
  | 1, _, h => by cases h; exact aT1_ok
  | 2, _, h => by cases h; exact aT2_ok
  | 3, _, h => by cases h; exact aT3_ok
  | 4, _, h => by cases h; exact aT4_ok
  | 5, _, h => by cases h; exact aT5_ok
  | 6, _, h => by cases h; exact aT6_ok
  | 7, _, h => by cases h; exact aT7_ok
  | 8, _, h => by cases h; exact aT8_ok
  | 9, _, h => by cases h; exact aT9_ok
  | 10, _, h => by cases h; exact aT10_ok
  | 11, _, h => by cases h; exact aT11_ok
  | n + 12, _, h => by simp [aCl] at h
