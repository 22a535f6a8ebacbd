/-! NAMES of classes and fields (printed by the claim) -/
def RX0 : String := "SaltRooms$Act"
def TX0 : u_T := fun k => match k with
  | 0 => ("SaltRooms$Act", "number", "I", false)
  | 1 => ("SaltRooms$Act", "shape", "LSaltRooms$Shape;", true)
  | 2 => ("SaltRooms$Act", "stock", "LSaltRooms$Stock;", true)
  | 3 => ("SaltRooms$Act", "state", "I", false)
  | _ => ("SaltRooms$Act", "drawn", "[I", true)
def tyX0 : Nat → FieldType := fun k => match k with
  | 0 => .int
  | 1 => .object "SaltRooms$Shape"
  | 2 => .object "SaltRooms$Stock"
  | 3 => .int
  | _ => .array .int
abbrev wsX00 : List Cond := u_ws RX0 TX0 5
theorem nmX0 : ∀ a, a < 5 → ∀ b, b < 5 → a ≠ b → (TX0 a).2.1 ≠ (TX0 b).2.1 := by decide +kernel
theorem tyX0_ok : ∀ k, k < 5 → parseFieldDescriptor (TX0 k).2.2.1 = some (tyX0 k) := by decide +kernel
def RX1 : String := "SaltRooms$Acts"
def TX1 : u_T := fun k => match k with
  | 0 => ("SaltRooms$Acts", "kept", "[LSaltRooms$Act;", true)
  | 1 => ("SaltRooms$Acts", "first", "I", false)
  | _ => ("SaltRooms$Acts", "count", "I", false)
def tyX1 : Nat → FieldType := fun k => match k with
  | 0 => .array (.object "SaltRooms$Act")
  | 1 => .int
  | _ => .int
abbrev wsX10 : List Cond := u_ws RX1 TX1 3
theorem nmX1 : ∀ a, a < 3 → ∀ b, b < 3 → a ≠ b → (TX1 a).2.1 ≠ (TX1 b).2.1 := by decide +kernel
theorem tyX1_ok : ∀ k, k < 3 → parseFieldDescriptor (TX1 k).2.2.1 = some (tyX1 k) := by decide +kernel
def RX2 : String := "SaltRooms$BedText"
def TX2 : u_T := fun k => match k with
  | 0 => ("SaltRooms$BedText", "bytes", "[I", true)
  | 1 => ("SaltRooms$BedText", "length", "I", false)
  | 2 => ("SaltRooms$BedText", "kinds", "[I", true)
  | 3 => ("SaltRooms$BedText", "toldLevels", "I", false)
  | 4 => ("SaltRooms$BedText", "starts", "[I", true)
  | 5 => ("SaltRooms$BedText", "depth", "I", false)
  | 6 => ("SaltRooms$BedText", "at", "I", false)
  | _ => ("SaltRooms$BedText", "fault", "I", false)
def tyX2 : Nat → FieldType := fun k => match k with
  | 0 => .array .int
  | 1 => .int
  | 2 => .array .int
  | 3 => .int
  | 4 => .array .int
  | 5 => .int
  | 6 => .int
  | _ => .int
abbrev wsX20 : List Cond := u_ws RX2 TX2 8
theorem nmX2 : ∀ a, a < 8 → ∀ b, b < 8 → a ≠ b → (TX2 a).2.1 ≠ (TX2 b).2.1 := by decide +kernel
theorem tyX2_ok : ∀ k, k < 8 → parseFieldDescriptor (TX2 k).2.2.1 = some (tyX2 k) := by decide +kernel
def RX3 : String := "SaltRooms$Cavern"
def TX3 : u_T := fun k => match k with
  | 0 => ("SaltRooms$Cavern", "shape", "LSaltRooms$Shape;", true)
  | 1 => ("SaltRooms$Cavern", "stock", "LSaltRooms$Stock;", true)
  | 2 => ("SaltRooms$Cavern", "tests", "LSaltRooms$LeakTests;", true)
  | 3 => ("SaltRooms$Cavern", "fell", "[Z", true)
  | 4 => ("SaltRooms$Cavern", "reaches", "[I", true)
  | 5 => ("SaltRooms$Cavern", "place", "I", false)
  | 6 => ("SaltRooms$Cavern", "state", "I", false)
  | 7 => ("SaltRooms$Cavern", "cut", "Z", false)
  | 8 => ("SaltRooms$Cavern", "lost", "I", false)
  | _ => ("SaltRooms$Cavern", "aDay", "I", false)
def tyX3 : Nat → FieldType := fun k => match k with
  | 0 => .object "SaltRooms$Shape"
  | 1 => .object "SaltRooms$Stock"
  | 2 => .object "SaltRooms$LeakTests"
  | 3 => .array .boolean
  | 4 => .array .int
  | 5 => .int
  | 6 => .int
  | 7 => .boolean
  | 8 => .int
  | _ => .int
abbrev wsX30 : List Cond := u_ws RX3 TX3 10
theorem nmX3 : ∀ a, a < 10 → ∀ b, b < 10 → a ≠ b → (TX3 a).2.1 ≠ (TX3 b).2.1 := by decide +kernel
theorem tyX3_ok : ∀ k, k < 10 → parseFieldDescriptor (TX3 k).2.2.1 = some (tyX3 k) := by decide +kernel
def RX4 : String := "SaltRooms$LeakTests"
def TX4 : u_T := fun k => match k with
  | 0 => ("SaltRooms$LeakTests", "days", "[I", true)
  | 1 => ("SaltRooms$LeakTests", "falls", "[I", true)
  | 2 => ("SaltRooms$LeakTests", "doubts", "[I", true)
  | 3 => ("SaltRooms$LeakTests", "leasts", "[I", true)
  | 4 => ("SaltRooms$LeakTests", "mosts", "[I", true)
  | _ => ("SaltRooms$LeakTests", "count", "I", false)
def tyX4 : Nat → FieldType := fun k => match k with
  | 0 => .array .int
  | 1 => .array .int
  | 2 => .array .int
  | 3 => .array .int
  | 4 => .array .int
  | _ => .int
abbrev wsX40 : List Cond := u_ws RX4 TX4 6
theorem nmX4 : ∀ a, a < 6 → ∀ b, b < 6 → a ≠ b → (TX4 a).2.1 ≠ (TX4 b).2.1 := by decide +kernel
theorem tyX4_ok : ∀ k, k < 6 → parseFieldDescriptor (TX4 k).2.2.1 = some (tyX4 k) := by decide +kernel
def RX5 : String := "SaltRooms$Planner"
def TX5 : u_T := fun k => match k with
  | 0 => ("SaltRooms$Planner", "aims", "[I", true)
  | 1 => ("SaltRooms$Planner", "waters", "[I", true)
  | 2 => ("SaltRooms$Planner", "brines", "[I", true)
  | 3 => ("SaltRooms$Planner", "amounts", "[I", true)
  | 4 => ("SaltRooms$Planner", "choices", "I", false)
  | 5 => ("SaltRooms$Planner", "shapes", "[LSaltRooms$Shape;", true)
  | 6 => ("SaltRooms$Planner", "way", "[I", true)
  | 7 => ("SaltRooms$Planner", "best", "[I", true)
  | _ => ("SaltRooms$Planner", "leastSum", "I", false)
def tyX5 : Nat → FieldType := fun k => match k with
  | 0 => .array .int
  | 1 => .array .int
  | 2 => .array .int
  | 3 => .array .int
  | 4 => .int
  | 5 => .array (.object "SaltRooms$Shape")
  | 6 => .array .int
  | 7 => .array .int
  | _ => .int
abbrev wsX50 : List Cond := u_ws RX5 TX5 9
theorem nmX5 : ∀ a, a < 9 → ∀ b, b < 9 → a ≠ b → (TX5 a).2.1 ≠ (TX5 b).2.1 := by decide +kernel
theorem tyX5_ok : ∀ k, k < 9 → parseFieldDescriptor (TX5 k).2.2.1 = some (tyX5 k) := by decide +kernel
def RX6 : String := "SaltRooms$Readings"
def TX6 : u_T := fun k => match k with
  | 0 => ("SaltRooms$Readings", "numbers", "[I", true)
  | 1 => ("SaltRooms$Readings", "levels", "[I", true)
  | 2 => ("SaltRooms$Readings", "reaches", "[I", true)
  | 3 => ("SaltRooms$Readings", "doubts", "[I", true)
  | 4 => ("SaltRooms$Readings", "count", "I", false)
  | 5 => ("SaltRooms$Readings", "lower", "I", false)
  | _ => ("SaltRooms$Readings", "upper", "I", false)
def tyX6 : Nat → FieldType := fun k => match k with
  | 0 => .array .int
  | 1 => .array .int
  | 2 => .array .int
  | 3 => .array .int
  | 4 => .int
  | 5 => .int
  | _ => .int
abbrev wsX60 : List Cond := u_ws RX6 TX6 7
theorem nmX6 : ∀ a, a < 7 → ∀ b, b < 7 → a ≠ b → (TX6 a).2.1 ≠ (TX6 b).2.1 := by decide +kernel
theorem tyX6_ok : ∀ k, k < 7 → parseFieldDescriptor (TX6 k).2.2.1 = some (tyX6 k) := by decide +kernel
def RX7 : String := "SaltRooms$Rock"
def TX7 : u_T := fun k => match k with
  | 0 => ("SaltRooms$Rock", "kinds", "[I", true)
  | _ => ("SaltRooms$Rock", "laws", "[I", true)
def tyX7 : Nat → FieldType := fun k => match k with
  | 0 => .array .int
  | _ => .array .int
abbrev wsX70 : List Cond := u_ws RX7 TX7 2
theorem nmX7 : ∀ a, a < 2 → ∀ b, b < 2 → a ≠ b → (TX7 a).2.1 ≠ (TX7 b).2.1 := by decide +kernel
theorem tyX7_ok : ∀ k, k < 2 → parseFieldDescriptor (TX7 k).2.2.1 = some (tyX7 k) := by decide +kernel
def RX8 : String := "SaltRooms$Shape"
def TX8 : u_T := fun k => match k with
  | 0 => ("SaltRooms$Shape", "sizes", "[I", true)
  | 1 => ("SaltRooms$Shape", "roof", "I", false)
  | 2 => ("SaltRooms$Shape", "bottom", "I", false)
  | 3 => ("SaltRooms$Shape", "lowest", "I", false)
  | 4 => ("SaltRooms$Shape", "floor", "I", false)
  | 5 => ("SaltRooms$Shape", "out", "I", false)
  | 6 => ("SaltRooms$Shape", "fallen", "I", false)
  | 7 => ("SaltRooms$Shape", "water", "I", false)
  | 8 => ("SaltRooms$Shape", "brine", "I", false)
  | _ => ("SaltRooms$Shape", "shield", "I", false)
def tyX8 : Nat → FieldType := fun k => match k with
  | 0 => .array .int
  | 1 => .int
  | 2 => .int
  | 3 => .int
  | 4 => .int
  | 5 => .int
  | 6 => .int
  | 7 => .int
  | 8 => .int
  | _ => .int
abbrev wsX80 : List Cond := u_ws RX8 TX8 10
theorem nmX8 : ∀ a, a < 10 → ∀ b, b < 10 → a ≠ b → (TX8 a).2.1 ≠ (TX8 b).2.1 := by decide +kernel
theorem tyX8_ok : ∀ k, k < 10 → parseFieldDescriptor (TX8 k).2.2.1 = some (tyX8 k) := by decide +kernel
def RX9 : String := "SaltRooms$Stock"
def TX9 : u_T := fun k => match k with
  | 0 => ("SaltRooms$Stock", "owners", "[I", true)
  | 1 => ("SaltRooms$Stock", "amounts", "[I", true)
  | 2 => ("SaltRooms$Stock", "lots", "I", false)
  | 3 => ("SaltRooms$Stock", "oil", "I", false)
  | _ => ("SaltRooms$Stock", "gas", "I", false)
def tyX9 : Nat → FieldType := fun k => match k with
  | 0 => .array .int
  | 1 => .array .int
  | 2 => .int
  | 3 => .int
  | _ => .int
abbrev wsX90 : List Cond := u_ws RX9 TX9 5
theorem nmX9 : ∀ a, a < 5 → ∀ b, b < 5 → a ≠ b → (TX9 a).2.1 ≠ (TX9 b).2.1 := by decide +kernel
theorem tyX9_ok : ∀ k, k < 5 → parseFieldDescriptor (TX9 k).2.2.1 = some (tyX9 k) := by decide +kernel
def RX10 : String := "SaltRooms$Winter"
def TX10 : u_T := fun k => match k with
  | 0 => ("SaltRooms$Winter", "needs", "[I", true)
  | _ => ("SaltRooms$Winter", "leastSet", "I", false)
def tyX10 : Nat → FieldType := fun k => match k with
  | 0 => .array .int
  | _ => .int
abbrev wsX100 : List Cond := u_ws RX10 TX10 2
theorem nmX10 : ∀ a, a < 2 → ∀ b, b < 2 → a ≠ b → (TX10 a).2.1 ≠ (TX10 b).2.1 := by decide +kernel
theorem tyX10_ok : ∀ k, k < 2 → parseFieldDescriptor (TX10 k).2.2.1 = some (tyX10 k) := by decide +kernel
def RX11 : String := "SaltRooms"
def TX11 : u_T := fun k => match k with
  | 0 => ("SaltRooms", "text", "LSaltRooms$BedText;", true)
  | 1 => ("SaltRooms", "rock", "LSaltRooms$Rock;", true)
  | 2 => ("SaltRooms", "caverns", "[LSaltRooms$Cavern;", true)
  | 3 => ("SaltRooms", "cavernCount", "I", false)
  | 4 => ("SaltRooms", "year", "I", false)
  | 5 => ("SaltRooms", "settings", "[I", true)
  | 6 => ("SaltRooms", "ownerNow", "I", false)
  | 7 => ("SaltRooms", "drawnByOwner", "[I", true)
  | 8 => ("SaltRooms", "spreadNow", "I", false)
  | 9 => ("SaltRooms", "readings", "LSaltRooms$Readings;", true)
  | 10 => ("SaltRooms", "winter", "LSaltRooms$Winter;", true)
  | 11 => ("SaltRooms", "planner", "LSaltRooms$Planner;", true)
  | 12 => ("SaltRooms", "acts", "LSaltRooms$Acts;", true)
  | 13 => ("SaltRooms", "refusals", "[I", true)
  | 14 => ("SaltRooms", "trial", "LSaltRooms$Shape;", true)
  | _ => ("SaltRooms", "limits", "[I", true)
def tyX11 : Nat → FieldType := fun k => match k with
  | 0 => .object "SaltRooms$BedText"
  | 1 => .object "SaltRooms$Rock"
  | 2 => .array (.object "SaltRooms$Cavern")
  | 3 => .int
  | 4 => .int
  | 5 => .array .int
  | 6 => .int
  | 7 => .array .int
  | 8 => .int
  | 9 => .object "SaltRooms$Readings"
  | 10 => .object "SaltRooms$Winter"
  | 11 => .object "SaltRooms$Planner"
  | 12 => .object "SaltRooms$Acts"
  | 13 => .array .int
  | 14 => .object "SaltRooms$Shape"
  | _ => .array .int
abbrev wsX110 : List Cond := u_ws RX11 TX11 16
theorem nmX11 : ∀ a, a < 16 → ∀ b, b < 16 → a ≠ b → (TX11 a).2.1 ≠ (TX11 b).2.1 := by decide +kernel
theorem tyX11_ok : ∀ k, k < 16 → parseFieldDescriptor (TX11 k).2.2.1 = some (tyX11 k) := by decide +kernel
def RX12 : String := "SaltRoomsModel"
def TX12 : u_T := fun k => match k with
  | 0 => ("SaltRoomsModel", "refused", "[I", true)
  | 1 => ("SaltRoomsModel", "tape", "[I", true)
  | 2 => ("SaltRoomsModel", "bed", "[I", true)
  | 3 => ("SaltRoomsModel", "told", "[I", true)
  | 4 => ("SaltRoomsModel", "open", "[I", true)
  | 5 => ("SaltRoomsModel", "taped", "I", false)
  | 6 => ("SaltRoomsModel", "at", "I", false)
  | 7 => ("SaltRoomsModel", "tellings", "I", false)
  | 8 => ("SaltRoomsModel", "deep", "I", false)
  | 9 => ("SaltRoomsModel", "place", "[I", true)
  | 10 => ("SaltRoomsModel", "top", "[I", true)
  | 11 => ("SaltRoomsModel", "low", "[I", true)
  | 12 => ("SaltRoomsModel", "row", "[I", true)
  | 13 => ("SaltRoomsModel", "caverns", "I", false)
  | 14 => ("SaltRoomsModel", "law", "[I", true)
  | 15 => ("SaltRoomsModel", "kept", "[I", true)
  | 16 => ("SaltRoomsModel", "set", "[I", true)
  | 17 => ("SaltRoomsModel", "year", "I", false)
  | 18 => ("SaltRoomsModel", "spread", "I", false)
  | 19 => ("SaltRoomsModel", "drawn", "[I", true)
  | 20 => ("SaltRoomsModel", "owner", "I", false)
  | 21 => ("SaltRoomsModel", "readOf", "[I", true)
  | 22 => ("SaltRoomsModel", "readAt", "[I", true)
  | 23 => ("SaltRoomsModel", "readAs", "[I", true)
  | 24 => ("SaltRoomsModel", "readBy", "[I", true)
  | 25 => ("SaltRoomsModel", "readings", "I", false)
  | 26 => ("SaltRoomsModel", "lowBound", "I", false)
  | 27 => ("SaltRoomsModel", "highBound", "I", false)
  | 28 => ("SaltRoomsModel", "tests", "[I", true)
  | 29 => ("SaltRoomsModel", "days", "[I", true)
  | 30 => ("SaltRoomsModel", "fell", "[I", true)
  | 31 => ("SaltRoomsModel", "doubt", "[I", true)
  | 32 => ("SaltRoomsModel", "leastMade", "[I", true)
  | 33 => ("SaltRoomsModel", "mostMade", "[I", true)
  | 34 => ("SaltRoomsModel", "need", "[I", true)
  | 35 => ("SaltRoomsModel", "gives", "[I", true)
  | 36 => ("SaltRoomsModel", "aim", "[I", true)
  | 37 => ("SaltRoomsModel", "choiceWater", "[I", true)
  | 38 => ("SaltRoomsModel", "choiceBrine", "[I", true)
  | 39 => ("SaltRoomsModel", "choiceN", "[I", true)
  | 40 => ("SaltRoomsModel", "bestPlan", "[I", true)
  | 41 => ("SaltRoomsModel", "own", "[I", true)
  | 42 => ("SaltRoomsModel", "choices", "I", false)
  | 43 => ("SaltRoomsModel", "actOf", "[I", true)
  | 44 => ("SaltRoomsModel", "actRow", "[I", true)
  | 45 => ("SaltRoomsModel", "actDrawn", "[I", true)
  | _ => ("SaltRoomsModel", "acts", "I", false)
def tyX12 : Nat → FieldType := fun k => match k with
  | 0 => .array .int
  | 1 => .array .int
  | 2 => .array .int
  | 3 => .array .int
  | 4 => .array .int
  | 5 => .int
  | 6 => .int
  | 7 => .int
  | 8 => .int
  | 9 => .array .int
  | 10 => .array .int
  | 11 => .array .int
  | 12 => .array .int
  | 13 => .int
  | 14 => .array .int
  | 15 => .array .int
  | 16 => .array .int
  | 17 => .int
  | 18 => .int
  | 19 => .array .int
  | 20 => .int
  | 21 => .array .int
  | 22 => .array .int
  | 23 => .array .int
  | 24 => .array .int
  | 25 => .int
  | 26 => .int
  | 27 => .int
  | 28 => .array .int
  | 29 => .array .int
  | 30 => .array .int
  | 31 => .array .int
  | 32 => .array .int
  | 33 => .array .int
  | 34 => .array .int
  | 35 => .array .int
  | 36 => .array .int
  | 37 => .array .int
  | 38 => .array .int
  | 39 => .array .int
  | 40 => .array .int
  | 41 => .array .int
  | 42 => .int
  | 43 => .array .int
  | 44 => .array .int
  | 45 => .array .int
  | _ => .int
abbrev wsX120 : List Cond := u_ws RX12 TX12 47
theorem nmX12 : ∀ a, a < 47 → ∀ b, b < 47 → a ≠ b → (TX12 a).2.1 ≠ (TX12 b).2.1 := by decide +kernel
theorem tyX12_ok : ∀ k, k < 47 → parseFieldDescriptor (TX12 k).2.2.1 = some (tyX12 k) := by decide +kernel
abbrev vwCl : List vw_C := [(RX0, TX0, 5), (RX1, TX1, 3), (RX2, TX2, 8), (RX3, TX3, 10), (RX4, TX4, 6), (RX5, TX5, 9), (RX6, TX6, 7), (RX7, TX7, 2), (RX8, TX8, 10), (RX9, TX9, 5), (RX10, TX10, 2), (RX11, TX11, 16), (RX12, TX12, 47)]
