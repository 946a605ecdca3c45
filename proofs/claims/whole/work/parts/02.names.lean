/-! names of classes, their fields, methods; links -/
def tX0 : u_T := fun k => match k with
  | 0 => ("BoatNames$Best", "which", "I", false)
  | _ => ("BoatNames$Best", "score", "I", false)
def yX0 : Nat → FieldType := fun k => match k with
  | 0 => .int
  | _ => .int
theorem nX0 : ∀ a, a < 2 → ∀ b, b < 2 → a ≠ b → (tX0 a).2.1 ≠ (tX0 b).2.1 := by decide +kernel
theorem yX0_ok : ∀ k, k < 2 → parseFieldDescriptor (tX0 k).2.2.1 = some (yX0 k) := by decide +kernel
theorem iX0 : ∀ w ∈ u_ws "BoatNames$Best" tX0 2, w ∈ tables_1 := by decide +kernel
def tX1 : u_T := fun k => match k with
  | 0 => ("BoatNames$Sheet", "items", "[I", true)
  | 1 => ("BoatNames$Sheet", "form", "I", false)
  | 2 => ("BoatNames$Sheet", "size", "I", false)
  | _ => ("BoatNames$Sheet", "lost", "Z", false)
def yX1 : Nat → FieldType := fun k => match k with
  | 0 => .array .int
  | 1 => .int
  | 2 => .int
  | _ => .boolean
theorem nX1 : ∀ a, a < 4 → ∀ b, b < 4 → a ≠ b → (tX1 a).2.1 ≠ (tX1 b).2.1 := by decide +kernel
theorem yX1_ok : ∀ k, k < 4 → parseFieldDescriptor (tX1 k).2.2.1 = some (yX1 k) := by decide +kernel
theorem iX1 : ∀ w ∈ u_ws "BoatNames$Sheet" tX1 4, w ∈ tables_1 := by decide +kernel
def tX2 : u_T := fun k => match k with
  | 0 => ("BoatNames$Sightings", "weeks", "[I", true)
  | 1 => ("BoatNames$Sightings", "boats", "[I", true)
  | 2 => ("BoatNames$Sightings", "people", "[I", true)
  | _ => ("BoatNames$Sightings", "size", "I", false)
def yX2 : Nat → FieldType := fun k => match k with
  | 0 => .array .int
  | 1 => .array .int
  | 2 => .array .int
  | _ => .int
theorem nX2 : ∀ a, a < 4 → ∀ b, b < 4 → a ≠ b → (tX2 a).2.1 ≠ (tX2 b).2.1 := by decide +kernel
theorem yX2_ok : ∀ k, k < 4 → parseFieldDescriptor (tX2 k).2.2.1 = some (yX2 k) := by decide +kernel
theorem iX2 : ∀ w ∈ u_ws "BoatNames$Sightings" tX2 4, w ∈ tables_1 := by decide +kernel
def tX3 : u_T := fun k => match k with
  | 0 => ("BoatNames$Telling", "hate", "[I", true)
  | 1 => ("BoatNames$Telling", "hates", "I", false)
  | 2 => ("BoatNames$Telling", "sorts", "[I", true)
  | 3 => ("BoatNames$Telling", "builders", "[I", true)
  | 4 => ("BoatNames$Telling", "launches", "[I", true)
  | 5 => ("BoatNames$Telling", "strengths", "[I", true)
  | 6 => ("BoatNames$Telling", "boats", "I", false)
  | 7 => ("BoatNames$Telling", "kinds", "[I", true)
  | 8 => ("BoatNames$Telling", "weeks", "[I", true)
  | 9 => ("BoatNames$Telling", "eventBoats", "[I", true)
  | 10 => ("BoatNames$Telling", "events", "I", false)
  | _ => ("BoatNames$Telling", "leftOut", "I", false)
def yX3 : Nat → FieldType := fun k => match k with
  | 0 => .array .int
  | 1 => .int
  | 2 => .array .int
  | 3 => .array .int
  | 4 => .array .int
  | 5 => .array .int
  | 6 => .int
  | 7 => .array .int
  | 8 => .array .int
  | 9 => .array .int
  | 10 => .int
  | _ => .int
theorem nX3 : ∀ a, a < 12 → ∀ b, b < 12 → a ≠ b → (tX3 a).2.1 ≠ (tX3 b).2.1 := by decide +kernel
theorem yX3_ok : ∀ k, k < 12 → parseFieldDescriptor (tX3 k).2.2.1 = some (yX3 k) := by decide +kernel
theorem iX3 : ∀ w ∈ u_ws "BoatNames$Telling" tX3 12, w ∈ tables_1 := by decide +kernel
def tX4 : u_T := fun k => match k with
  | 0 => ("BoatNames$Text", "bytes", "[I", true)
  | 1 => ("BoatNames$Text", "size", "I", false)
  | _ => ("BoatNames$Text", "fault", "I", false)
def yX4 : Nat → FieldType := fun k => match k with
  | 0 => .array .int
  | 1 => .int
  | _ => .int
theorem nX4 : ∀ a, a < 3 → ∀ b, b < 3 → a ≠ b → (tX4 a).2.1 ≠ (tX4 b).2.1 := by decide +kernel
theorem yX4_ok : ∀ k, k < 3 → parseFieldDescriptor (tX4 k).2.2.1 = some (yX4 k) := by decide +kernel
theorem iX4 : ∀ w ∈ u_ws "BoatNames$Text" tX4 3, w ∈ tables_1 := by decide +kernel
def tX5 : u_T := fun k => match k with
  | 0 => ("BoatNames$Voyage", "telling", "LBoatNames$Telling;", false)
  | 1 => ("BoatNames$Voyage", "hate", "[I", true)
  | 2 => ("BoatNames$Voyage", "states", "[I", true)
  | 3 => ("BoatNames$Voyage", "names", "[I", true)
  | 4 => ("BoatNames$Voyage", "grudges", "[I", true)
  | 5 => ("BoatNames$Voyage", "strengths", "[I", true)
  | 6 => ("BoatNames$Voyage", "weeksAtSea", "[I", true)
  | 7 => ("BoatNames$Voyage", "spites", "[I", true)
  | 8 => ("BoatNames$Voyage", "returns", "[I", true)
  | 9 => ("BoatNames$Voyage", "boatsLeft", "I", false)
  | 10 => ("BoatNames$Voyage", "firstWeek", "I", false)
  | _ => ("BoatNames$Voyage", "firstBoat", "I", false)
def yX5 : Nat → FieldType := fun k => match k with
  | 0 => .object "BoatNames$Telling"
  | 1 => .array .int
  | 2 => .array .int
  | 3 => .array .int
  | 4 => .array .int
  | 5 => .array .int
  | 6 => .array .int
  | 7 => .array .int
  | 8 => .array .int
  | 9 => .int
  | 10 => .int
  | _ => .int
theorem nX5 : ∀ a, a < 12 → ∀ b, b < 12 → a ≠ b → (tX5 a).2.1 ≠ (tX5 b).2.1 := by decide +kernel
theorem yX5_ok : ∀ k, k < 12 → parseFieldDescriptor (tX5 k).2.2.1 = some (yX5 k) := by decide +kernel
theorem iX5 : ∀ w ∈ u_ws "BoatNames$Voyage" tX5 12, w ∈ tables_1 := by decide +kernel
def tX6 : u_T := fun k => match k with
  | 0 => ("BoatNames", "hatesText", "LBoatNames$Text;", true)
  | 1 => ("BoatNames", "boatsText", "LBoatNames$Text;", true)
  | 2 => ("BoatNames", "told", "LBoatNames$Telling;", true)
  | 3 => ("BoatNames", "trial", "LBoatNames$Telling;", true)
  | 4 => ("BoatNames", "voyage", "LBoatNames$Voyage;", true)
  | 5 => ("BoatNames", "sightings", "LBoatNames$Sightings;", true)
  | 6 => ("BoatNames", "best", "LBoatNames$Best;", true)
  | 7 => ("BoatNames", "sheets", "[LBoatNames$Sheet;", true)
  | 8 => ("BoatNames", "sunkWeights", "[J", true)
  | 9 => ("BoatNames", "nameRows", "[I", true)
  | _ => ("BoatNames", "finding", "I", false)
def yX6 : Nat → FieldType := fun k => match k with
  | 0 => .object "BoatNames$Text"
  | 1 => .object "BoatNames$Text"
  | 2 => .object "BoatNames$Telling"
  | 3 => .object "BoatNames$Telling"
  | 4 => .object "BoatNames$Voyage"
  | 5 => .object "BoatNames$Sightings"
  | 6 => .object "BoatNames$Best"
  | 7 => .array (.object "BoatNames$Sheet")
  | 8 => .array .long
  | 9 => .array .int
  | _ => .int
theorem nX6 : ∀ a, a < 11 → ∀ b, b < 11 → a ≠ b → (tX6 a).2.1 ≠ (tX6 b).2.1 := by decide +kernel
theorem yX6_ok : ∀ k, k < 11 → parseFieldDescriptor (tX6 k).2.2.1 = some (yX6 k) := by decide +kernel
theorem iX6 : ∀ w ∈ u_ws "BoatNames" tX6 11, w ∈ tables_1 := by decide +kernel
def tX7 : u_T := fun k => match k with
  | 0 => ("BoatNamesModel", "typed", "[I", true)
  | 1 => ("BoatNamesModel", "texts", "[I", true)
  | 2 => ("BoatNamesModel", "hatesTold", "I", false)
  | 3 => ("BoatNamesModel", "hateRow", "[I", true)
  | 4 => ("BoatNamesModel", "hateTold", "[I", true)
  | 5 => ("BoatNamesModel", "boats", "I", false)
  | 6 => ("BoatNamesModel", "sorts", "[I", true)
  | 7 => ("BoatNamesModel", "builders", "[I", true)
  | 8 => ("BoatNamesModel", "weeks", "[I", true)
  | 9 => ("BoatNamesModel", "strengths", "[I", true)
  | 10 => ("BoatNamesModel", "events", "I", false)
  | 11 => ("BoatNamesModel", "eventKind", "[I", true)
  | 12 => ("BoatNamesModel", "eventWeek", "[I", true)
  | 13 => ("BoatNamesModel", "eventBoat", "[I", true)
  | 14 => ("BoatNamesModel", "eventsNow", "I", false)
  | 15 => ("BoatNamesModel", "kindNow", "[I", true)
  | 16 => ("BoatNamesModel", "weekNow", "[I", true)
  | 17 => ("BoatNamesModel", "boatNow", "[I", true)
  | 18 => ("BoatNamesModel", "notEvents", "I", false)
  | 19 => ("BoatNamesModel", "hate", "[I", true)
  | 20 => ("BoatNamesModel", "is", "[I", true)
  | 21 => ("BoatNamesModel", "names", "[I", true)
  | 22 => ("BoatNamesModel", "grudges", "[I", true)
  | 23 => ("BoatNamesModel", "holds", "[I", true)
  | 24 => ("BoatNamesModel", "firstWeek", "I", false)
  | 25 => ("BoatNamesModel", "firstBoat", "I", false)
  | 26 => ("BoatNamesModel", "isAt", "[I", true)
  | 27 => ("BoatNamesModel", "nameAt", "[I", true)
  | 28 => ("BoatNamesModel", "grudgeAt", "[I", true)
  | 29 => ("BoatNamesModel", "holdAt", "[I", true)
  | 30 => ("BoatNamesModel", "hateAt", "[I", true)
  | 31 => ("BoatNamesModel", "planRow", "[I", true)
  | 32 => ("BoatNamesModel", "seens", "I", false)
  | 33 => ("BoatNamesModel", "seenWeek", "[I", true)
  | 34 => ("BoatNamesModel", "seenBoat", "[I", true)
  | 35 => ("BoatNamesModel", "seenName", "[I", true)
  | 36 => ("BoatNamesModel", "namesBy", "[I", true)
  | 37 => ("BoatNamesModel", "isThere", "[Z", true)
  | 38 => ("BoatNamesModel", "forms", "[I", true)
  | 39 => ("BoatNamesModel", "sizes", "[I", true)
  | 40 => ("BoatNamesModel", "items", "[I", true)
  | 41 => ("BoatNamesModel", "moved", "[I", true)
  | _ => ("BoatNamesModel", "finding", "I", false)
def yX7 : Nat → FieldType := fun k => match k with
  | 0 => .array .int
  | 1 => .array .int
  | 2 => .int
  | 3 => .array .int
  | 4 => .array .int
  | 5 => .int
  | 6 => .array .int
  | 7 => .array .int
  | 8 => .array .int
  | 9 => .array .int
  | 10 => .int
  | 11 => .array .int
  | 12 => .array .int
  | 13 => .array .int
  | 14 => .int
  | 15 => .array .int
  | 16 => .array .int
  | 17 => .array .int
  | 18 => .int
  | 19 => .array .int
  | 20 => .array .int
  | 21 => .array .int
  | 22 => .array .int
  | 23 => .array .int
  | 24 => .int
  | 25 => .int
  | 26 => .array .int
  | 27 => .array .int
  | 28 => .array .int
  | 29 => .array .int
  | 30 => .array .int
  | 31 => .array .int
  | 32 => .int
  | 33 => .array .int
  | 34 => .array .int
  | 35 => .array .int
  | 36 => .array .int
  | 37 => .array .boolean
  | 38 => .array .int
  | 39 => .array .int
  | 40 => .array .int
  | 41 => .array .int
  | _ => .int
theorem nX7 : ∀ a, a < 43 → ∀ b, b < 43 → a ≠ b → (tX7 a).2.1 ≠ (tX7 b).2.1 := by decide +kernel
theorem yX7_ok : ∀ k, k < 43 → parseFieldDescriptor (tX7 k).2.2.1 = some (yX7 k) := by decide +kernel
theorem iX7 : ∀ w ∈ u_ws "BoatNamesModel" tX7 43, w ∈ tables_1 := by decide +kernel
abbrev clss : List vw_C := [("BoatNames$Best", tX0, 2), ("BoatNames$Sheet", tX1, 4), ("BoatNames$Sightings", tX2, 4), ("BoatNames$Telling", tX3, 12), ("BoatNames$Text", tX4, 3), ("BoatNames$Voyage", tX5, 12), ("BoatNames", tX6, 11), ("BoatNamesModel", tX7, 43)]
def cnm : List String := ["BoatNames$Best", "BoatNames$Sheet", "BoatNames$Sightings", "BoatNames$Telling", "BoatNames$Text", "BoatNames$Voyage", "BoatNames", "BoatNamesModel", "BoatNamesLaw", "java/lang/Integer", "java/lang/Math", "java/util/Arrays"]
/-- field links: per class (index, class, slot) -/
def ftb : List (List (Nat × Nat × Nat)) := [
  [(9, 0, 0), (15, 0, 1)],
  [(9, 1, 0), (15, 1, 1), (19, 1, 2), (22, 1, 3)],
  [(31, 3, 6), (25, 5, 0), (9, 2, 0), (15, 2, 1), (18, 2, 2), (21, 2, 3)],
  [(83, 4, 0), (69, 4, 1), (66, 4, 2), (9, 3, 0), (15, 3, 1), (19, 3, 2), (22, 3, 3), (25, 3, 4), (28, 3, 5), (31, 3, 6), (34, 3, 7), (37, 3, 8), (40, 3, 9), (43, 3, 10), (46, 3, 11)],
  [(9, 4, 0), (15, 4, 1), (19, 4, 2)],
  [(58, 3, 0), (106, 3, 2), (115, 3, 3), (97, 3, 4), (67, 3, 5), (74, 3, 6), (84, 3, 7), (90, 3, 9), (77, 3, 10), (9, 5, 0), (15, 5, 1), (19, 5, 2), (22, 5, 3), (25, 5, 4), (28, 5, 5), (31, 5, 6), (34, 5, 7), (37, 5, 8), (40, 5, 9), (44, 5, 10), (47, 5, 11)],
  [(91, 4, 1), (94, 4, 2), (100, 3, 0), (285, 3, 1), (111, 3, 2), (114, 3, 3), (117, 3, 4), (120, 3, 5), (288, 3, 6), (123, 3, 10), (223, 3, 11), (150, 5, 1), (151, 5, 2), (154, 5, 3), (157, 5, 4), (160, 5, 5), (190, 5, 6), (168, 5, 10), (171, 5, 11), (217, 2, 3), (187, 0, 0), (196, 0, 1), (139, 1, 0), (262, 1, 1), (138, 1, 2), (130, 1, 3), (14, 6, 0), (18, 6, 1), (24, 6, 2), (28, 6, 3), (36, 6, 4), (43, 6, 5), (50, 6, 6), (56, 6, 7), (61, 6, 8), (65, 6, 9), (69, 6, 10)],
  [(7, 7, 0), (13, 7, 1), (133, 7, 2), (16, 7, 3), (19, 7, 4), (137, 7, 5), (22, 7, 6), (25, 7, 7), (28, 7, 8), (31, 7, 9), (169, 7, 10), (34, 7, 11), (37, 7, 12), (40, 7, 13), (182, 7, 14), (43, 7, 15), (46, 7, 16), (49, 7, 17), (185, 7, 18), (52, 7, 19), (55, 7, 20), (58, 7, 21), (61, 7, 22), (64, 7, 23), (198, 7, 24), (201, 7, 25), (67, 7, 26), (70, 7, 27), (73, 7, 28), (76, 7, 29), (79, 7, 30), (82, 7, 31), (284, 7, 32), (85, 7, 33), (88, 7, 34), (91, 7, 35), (94, 7, 36), (97, 7, 37), (101, 7, 38), (104, 7, 39), (107, 7, 40), (110, 7, 41), (322, 7, 42)],
  [],
  [],
  [],
  []
  ]
def fld (o i : Nat) : Option (Nat × Nat) := match ftb[o]? with
  | some l => l.lookup i
  | none => none
def fpl : List (List Nat) := [[183, 185], [199, 201, 203, 205], [67, 112, 163, 164, 165, 166], [28, 31, 33, 49, 52, 54, 57, 60, 63, 66, 70, 72, 73, 75, 78], [27, 29, 32], [50, 55, 58, 61, 64, 68, 71, 74, 76, 111, 113, 115, 117, 119, 121, 123, 125, 126, 127, 128, 130], [30, 34, 51, 53, 56, 59, 62, 65, 69, 77, 79, 114, 116, 118, 120, 122, 124, 129, 131, 167, 184, 186, 200, 202, 204, 206, 216, 217, 218, 219, 220, 221, 222, 223, 224, 225, 226], [724, 725, 726, 727, 728, 729, 730, 731, 732, 733, 734, 735, 736, 737, 738, 739, 740, 741, 742, 743, 744, 745, 746, 747, 748, 749, 750, 751, 752, 753, 754, 755, 756, 757, 758, 759, 760, 761, 762, 763, 764, 765, 766], [], [], [], []]
def fchk (own : String) (e : Nat × Nat × Nat) (n : Nat) : Bool := match clss[e.2.1]? with
  | some q => decide (e.2.2 < q.2.2) && decide (tables_1[n]? = some (Cond.fieldLink own e.1 (q.2.1 e.2.2).1 (q.2.1 e.2.2).2.1 (q.2.1 e.2.2).2.2.1))
  | none => false
def fchl (own : String) : List (Nat × Nat × Nat) → List Nat → Bool
  | [], [] => true
  | e :: l, n :: r => fchk own e n && fchl own l r
  | _, _ => false
theorem fck0 : fchl "BoatNames$Best" [(9, 0, 0), (15, 0, 1)] [183, 185] = true := by decide +kernel
theorem fck1 : fchl "BoatNames$Sheet" [(9, 1, 0), (15, 1, 1), (19, 1, 2), (22, 1, 3)] [199, 201, 203, 205] = true := by decide +kernel
theorem fck2 : fchl "BoatNames$Sightings" [(31, 3, 6), (25, 5, 0), (9, 2, 0), (15, 2, 1), (18, 2, 2), (21, 2, 3)] [67, 112, 163, 164, 165, 166] = true := by decide +kernel
theorem fck3 : fchl "BoatNames$Telling" [(83, 4, 0), (69, 4, 1), (66, 4, 2), (9, 3, 0), (15, 3, 1), (19, 3, 2), (22, 3, 3), (25, 3, 4), (28, 3, 5), (31, 3, 6), (34, 3, 7), (37, 3, 8), (40, 3, 9), (43, 3, 10), (46, 3, 11)] [28, 31, 33, 49, 52, 54, 57, 60, 63, 66, 70, 72, 73, 75, 78] = true := by decide +kernel
theorem fck4 : fchl "BoatNames$Text" [(9, 4, 0), (15, 4, 1), (19, 4, 2)] [27, 29, 32] = true := by decide +kernel
theorem fck5 : fchl "BoatNames$Voyage" [(58, 3, 0), (106, 3, 2), (115, 3, 3), (97, 3, 4), (67, 3, 5), (74, 3, 6), (84, 3, 7), (90, 3, 9), (77, 3, 10), (9, 5, 0), (15, 5, 1), (19, 5, 2), (22, 5, 3), (25, 5, 4), (28, 5, 5), (31, 5, 6), (34, 5, 7), (37, 5, 8), (40, 5, 9), (44, 5, 10), (47, 5, 11)] [50, 55, 58, 61, 64, 68, 71, 74, 76, 111, 113, 115, 117, 119, 121, 123, 125, 126, 127, 128, 130] = true := by decide +kernel
theorem fck6 : fchl "BoatNames" [(91, 4, 1), (94, 4, 2), (100, 3, 0), (285, 3, 1), (111, 3, 2), (114, 3, 3), (117, 3, 4), (120, 3, 5), (288, 3, 6), (123, 3, 10), (223, 3, 11), (150, 5, 1), (151, 5, 2), (154, 5, 3), (157, 5, 4), (160, 5, 5), (190, 5, 6), (168, 5, 10), (171, 5, 11), (217, 2, 3), (187, 0, 0), (196, 0, 1), (139, 1, 0), (262, 1, 1), (138, 1, 2), (130, 1, 3), (14, 6, 0), (18, 6, 1), (24, 6, 2), (28, 6, 3), (36, 6, 4), (43, 6, 5), (50, 6, 6), (56, 6, 7), (61, 6, 8), (65, 6, 9), (69, 6, 10)] [30, 34, 51, 53, 56, 59, 62, 65, 69, 77, 79, 114, 116, 118, 120, 122, 124, 129, 131, 167, 184, 186, 200, 202, 204, 206, 216, 217, 218, 219, 220, 221, 222, 223, 224, 225, 226] = true := by decide +kernel
theorem fck7 : fchl "BoatNamesModel" [(7, 7, 0), (13, 7, 1), (133, 7, 2), (16, 7, 3), (19, 7, 4), (137, 7, 5), (22, 7, 6), (25, 7, 7), (28, 7, 8), (31, 7, 9), (169, 7, 10), (34, 7, 11), (37, 7, 12), (40, 7, 13), (182, 7, 14), (43, 7, 15), (46, 7, 16), (49, 7, 17), (185, 7, 18), (52, 7, 19), (55, 7, 20), (58, 7, 21), (61, 7, 22), (64, 7, 23), (198, 7, 24), (201, 7, 25), (67, 7, 26), (70, 7, 27), (73, 7, 28), (76, 7, 29), (79, 7, 30), (82, 7, 31), (284, 7, 32), (85, 7, 33), (88, 7, 34), (91, 7, 35), (94, 7, 36), (97, 7, 37), (101, 7, 38), (104, 7, 39), (107, 7, 40), (110, 7, 41), (322, 7, 42)] [724, 725, 726, 727, 728, 729, 730, 731, 732, 733, 734, 735, 736, 737, 738, 739, 740, 741, 742, 743, 744, 745, 746, 747, 748, 749, 750, 751, 752, 753, 754, 755, 756, 757, 758, 759, 760, 761, 762, 763, 764, 765, 766] = true := by decide +kernel
def kon (o i : Nat) : Option Int32 := List.lookup (1000 * o + i) [(9265, 1431655765), (9266, 858993459), (9267, 252645135), (3096, 1103515245), (6261, (-2147483648)), (7318, 1103515245), (7332, (-2147483648))]
def kol (o i : Nat) : Option Int64 := List.lookup (1000 * o + i) [(6237, (-9223372036854775806)), (6294, 17), (6296, 31), (7113, (-9223372036854775808)), (7342, 17), (7336, 31)]
theorem kck_9_265 : Cond.constant "java/lang/Integer" 265 1431655765 ∈ tables_1 := List.mem_of_getElem? (i := 514) (by decide +kernel)
theorem kck_9_266 : Cond.constant "java/lang/Integer" 266 858993459 ∈ tables_1 := List.mem_of_getElem? (i := 515) (by decide +kernel)
theorem kck_9_267 : Cond.constant "java/lang/Integer" 267 252645135 ∈ tables_1 := List.mem_of_getElem? (i := 516) (by decide +kernel)
theorem kck_3_96 : Cond.constant "BoatNames$Telling" 96 1103515245 ∈ tables_1 := List.mem_of_getElem? (i := 625) (by decide +kernel)
theorem kck_6_261 : Cond.constant "BoatNames" 261 (-2147483648) ∈ tables_1 := List.mem_of_getElem? (i := 657) (by decide +kernel)
theorem kck_7_318 : Cond.constant "BoatNamesModel" 318 1103515245 ∈ tables_1 := List.mem_of_getElem? (i := 1183) (by decide +kernel)
theorem kck_7_332 : Cond.constant "BoatNamesModel" 332 (-2147483648) ∈ tables_1 := List.mem_of_getElem? (i := 1208) (by decide +kernel)
theorem kcl_6_237 : Cond.constantLong "BoatNames" 237 (-9223372036854775806) ∈ tables_1 := List.mem_of_getElem? (i := 586) (by decide +kernel)
theorem kcl_6_294 : Cond.constantLong "BoatNames" 294 17 ∈ tables_1 := List.mem_of_getElem? (i := 689) (by decide +kernel)
theorem kcl_6_296 : Cond.constantLong "BoatNames" 296 31 ∈ tables_1 := List.mem_of_getElem? (i := 690) (by decide +kernel)
theorem kcl_7_113 : Cond.constantLong "BoatNamesModel" 113 (-9223372036854775808) ∈ tables_1 := List.mem_of_getElem? (i := 1174) (by decide +kernel)
theorem kcl_7_342 : Cond.constantLong "BoatNamesModel" 342 17 ∈ tables_1 := List.mem_of_getElem? (i := 1229) (by decide +kernel)
theorem kcl_7_336 : Cond.constantLong "BoatNamesModel" 336 31 ∈ tables_1 := List.mem_of_getElem? (i := 1230) (by decide +kernel)
