def RX0 : String := "NamesAgain$Draw"
def TX0 : u_T := fun k => match k with
  | _ => ("NamesAgain$Draw", "seed", "I", false)
def tyX0 : Nat → FieldType := fun k => match k with
  | _ => .int
theorem nmX0 : ∀ a, a < 1 → ∀ b, b < 1 → a ≠ b → (TX0 a).2.1 ≠ (TX0 b).2.1 := by decide +kernel
theorem tyX0_ok : ∀ k, k < 1 → parseFieldDescriptor (TX0 k).2.2.1 = some (tyX0 k) := by decide +kernel
def RX1 : String := "NamesAgain$Image"
def TX1 : u_T := fun k => match k with
  | 0 => ("NamesAgain$Image", "told", "LNamesAgain$Told;", true)
  | 1 => ("NamesAgain$Image", "life", "LNamesAgain$Life;", true)
  | 2 => ("NamesAgain$Image", "saying", "LNamesAgain$Sentence;", true)
  | _ => ("NamesAgain$Image", "isKept", "Z", false)
def tyX1 : Nat → FieldType := fun k => match k with
  | 0 => .object "NamesAgain$Told"
  | 1 => .object "NamesAgain$Life"
  | 2 => .object "NamesAgain$Sentence"
  | _ => .boolean
theorem nmX1 : ∀ a, a < 4 → ∀ b, b < 4 → a ≠ b → (TX1 a).2.1 ≠ (TX1 b).2.1 := by decide +kernel
theorem tyX1_ok : ∀ k, k < 4 → parseFieldDescriptor (TX1 k).2.2.1 = some (tyX1 k) := by decide +kernel
def RX2 : String := "NamesAgain$Life"
def TX2 : u_T := fun k => match k with
  | 0 => ("NamesAgain$Life", "told", "LNamesAgain$Told;", true)
  | 1 => ("NamesAgain$Life", "monday", "I", false)
  | 2 => ("NamesAgain$Life", "living", "I", false)
  | 3 => ("NamesAgain$Life", "changed", "I", false)
  | 4 => ("NamesAgain$Life", "fugitives", "I", false)
  | 5 => ("NamesAgain$Life", "sour", "I", false)
  | 6 => ("NamesAgain$Life", "waitCount", "I", false)
  | 7 => ("NamesAgain$Life", "bearer", "[I", true)
  | 8 => ("NamesAgain$Life", "debt", "[I", true)
  | 9 => ("NamesAgain$Life", "hangedTill", "[I", true)
  | 10 => ("NamesAgain$Life", "nameOf", "[I", true)
  | 11 => ("NamesAgain$Life", "purse", "[I", true)
  | 12 => ("NamesAgain$Life", "feasted", "[I", true)
  | 13 => ("NamesAgain$Life", "waiting", "[I", true)
  | _ => ("NamesAgain$Life", "past", "[J", true)
def tyX2 : Nat → FieldType := fun k => match k with
  | 0 => .object "NamesAgain$Told"
  | 1 => .int
  | 2 => .int
  | 3 => .int
  | 4 => .int
  | 5 => .int
  | 6 => .int
  | 7 => .array .int
  | 8 => .array .int
  | 9 => .array .int
  | 10 => .array .int
  | 11 => .array .int
  | 12 => .array .int
  | 13 => .array .int
  | _ => .array .long
theorem nmX2 : ∀ a, a < 15 → ∀ b, b < 15 → a ≠ b → (TX2 a).2.1 ≠ (TX2 b).2.1 := by decide +kernel
theorem tyX2_ok : ∀ k, k < 15 → parseFieldDescriptor (TX2 k).2.2.1 = some (tyX2 k) := by decide +kernel
def RX3 : String := "NamesAgain$Market"
def TX3 : u_T := fun k => match k with
  | 0 => ("NamesAgain$Market", "told", "LNamesAgain$Told;", true)
  | 1 => ("NamesAgain$Market", "life", "LNamesAgain$Life;", true)
  | 2 => ("NamesAgain$Market", "secondBid", "I", false)
  | 3 => ("NamesAgain$Market", "leastCoin", "I", false)
  | _ => ("NamesAgain$Market", "cheapestName", "I", false)
def tyX3 : Nat → FieldType := fun k => match k with
  | 0 => .object "NamesAgain$Told"
  | 1 => .object "NamesAgain$Life"
  | 2 => .int
  | 3 => .int
  | _ => .int
theorem nmX3 : ∀ a, a < 5 → ∀ b, b < 5 → a ≠ b → (TX3 a).2.1 ≠ (TX3 b).2.1 := by decide +kernel
theorem tyX3_ok : ∀ k, k < 5 → parseFieldDescriptor (TX3 k).2.2.1 = some (tyX3 k) := by decide +kernel
def RX4 : String := "NamesAgain$Roll"
def TX4 : u_T := fun k => match k with
  | 0 => ("NamesAgain$Roll", "tape", "LNamesAgain$Tape;", true)
  | 1 => ("NamesAgain$Roll", "told", "LNamesAgain$Told;", true)
  | 2 => ("NamesAgain$Roll", "sort", "[I", true)
  | 3 => ("NamesAgain$Roll", "who", "[I", true)
  | 4 => ("NamesAgain$Roll", "whom", "[I", true)
  | 5 => ("NamesAgain$Roll", "lineCount", "I", false)
  | 6 => ("NamesAgain$Roll", "judged", "Z", false)
  | 7 => ("NamesAgain$Roll", "reason", "I", false)
  | 8 => ("NamesAgain$Roll", "goodLines", "I", false)
  | 9 => ("NamesAgain$Roll", "mondayThen", "I", false)
  | _ => ("NamesAgain$Roll", "waitingThen", "I", false)
def tyX4 : Nat → FieldType := fun k => match k with
  | 0 => .object "NamesAgain$Tape"
  | 1 => .object "NamesAgain$Told"
  | 2 => .array .int
  | 3 => .array .int
  | 4 => .array .int
  | 5 => .int
  | 6 => .boolean
  | 7 => .int
  | 8 => .int
  | 9 => .int
  | _ => .int
theorem nmX4 : ∀ a, a < 11 → ∀ b, b < 11 → a ≠ b → (TX4 a).2.1 ≠ (TX4 b).2.1 := by decide +kernel
theorem tyX4_ok : ∀ k, k < 11 → parseFieldDescriptor (TX4 k).2.2.1 = some (tyX4 k) := by decide +kernel
def RX5 : String := "NamesAgain$Sentence"
def TX5 : u_T := fun k => match k with
  | 0 => ("NamesAgain$Sentence", "tape", "LNamesAgain$Tape;", true)
  | 1 => ("NamesAgain$Sentence", "told", "LNamesAgain$Told;", true)
  | 2 => ("NamesAgain$Sentence", "step", "[I", true)
  | 3 => ("NamesAgain$Sentence", "sign", "[I", true)
  | 4 => ("NamesAgain$Sentence", "value", "[I", true)
  | 5 => ("NamesAgain$Sentence", "sets", "[I", true)
  | 6 => ("NamesAgain$Sentence", "steps", "I", false)
  | _ => ("NamesAgain$Sentence", "ones", "I", false)
def tyX5 : Nat → FieldType := fun k => match k with
  | 0 => .object "NamesAgain$Tape"
  | 1 => .object "NamesAgain$Told"
  | 2 => .array .int
  | 3 => .array .int
  | 4 => .array .int
  | 5 => .array .int
  | 6 => .int
  | _ => .int
theorem nmX5 : ∀ a, a < 8 → ∀ b, b < 8 → a ≠ b → (TX5 a).2.1 ≠ (TX5 b).2.1 := by decide +kernel
theorem tyX5_ok : ∀ k, k < 8 → parseFieldDescriptor (TX5 k).2.2.1 = some (tyX5 k) := by decide +kernel
def RX6 : String := "NamesAgain$Tape"
def TX6 : u_T := fun k => match k with
  | 0 => ("NamesAgain$Tape", "bytes", "[B", true)
  | 1 => ("NamesAgain$Tape", "ownWords", "[J", true)
  | 2 => ("NamesAgain$Tape", "ownCount", "I", false)
  | 3 => ("NamesAgain$Tape", "length", "I", false)
  | 4 => ("NamesAgain$Tape", "most", "I", false)
  | 5 => ("NamesAgain$Tape", "at", "I", false)
  | 6 => ("NamesAgain$Tape", "kind", "I", false)
  | 7 => ("NamesAgain$Tape", "place", "I", false)
  | 8 => ("NamesAgain$Tape", "word", "J", false)
  | 9 => ("NamesAgain$Tape", "number", "I", false)
  | 10 => ("NamesAgain$Tape", "sign", "I", false)
  | 11 => ("NamesAgain$Tape", "got", "I", false)
  | 12 => ("NamesAgain$Tape", "faultKind", "I", false)
  | _ => ("NamesAgain$Tape", "faultPlace", "I", false)
def tyX6 : Nat → FieldType := fun k => match k with
  | 0 => .array .byte
  | 1 => .array .long
  | 2 => .int
  | 3 => .int
  | 4 => .int
  | 5 => .int
  | 6 => .int
  | 7 => .int
  | 8 => .long
  | 9 => .int
  | 10 => .int
  | 11 => .int
  | 12 => .int
  | _ => .int
theorem nmX6 : ∀ a, a < 14 → ∀ b, b < 14 → a ≠ b → (TX6 a).2.1 ≠ (TX6 b).2.1 := by decide +kernel
theorem tyX6_ok : ∀ k, k < 14 → parseFieldDescriptor (TX6 k).2.2.1 = some (tyX6 k) := by decide +kernel
def RX7 : String := "NamesAgain$Told"
def TX7 : u_T := fun k => match k with
  | 0 => ("NamesAgain$Told", "names", "I", false)
  | 1 => ("NamesAgain$Told", "souls", "I", false)
  | 2 => ("NamesAgain$Told", "nameWord", "[J", true)
  | 3 => ("NamesAgain$Told", "price", "[I", true)
  | 4 => ("NamesAgain$Told", "firstDebt", "[I", true)
  | 5 => ("NamesAgain$Told", "every", "[I", true)
  | 6 => ("NamesAgain$Told", "soulWord", "[J", true)
  | 7 => ("NamesAgain$Told", "firstPurse", "[I", true)
  | 8 => ("NamesAgain$Told", "firstName", "[I", true)
  | 9 => ("NamesAgain$Told", "wish", "[I", true)
  | 10 => ("NamesAgain$Told", "old", "[I", true)
  | _ => ("NamesAgain$Told", "worthRow", "[I", true)
def tyX7 : Nat → FieldType := fun k => match k with
  | 0 => .int
  | 1 => .int
  | 2 => .array .long
  | 3 => .array .int
  | 4 => .array .int
  | 5 => .array .int
  | 6 => .array .long
  | 7 => .array .int
  | 8 => .array .int
  | 9 => .array .int
  | 10 => .array .int
  | _ => .array .int
theorem nmX7 : ∀ a, a < 12 → ∀ b, b < 12 → a ≠ b → (TX7 a).2.1 ≠ (TX7 b).2.1 := by decide +kernel
theorem tyX7_ok : ∀ k, k < 12 → parseFieldDescriptor (TX7 k).2.2.1 = some (tyX7 k) := by decide +kernel
def RX8 : String := "NamesAgain$TownReader"
def TX8 : u_T := fun k => match k with
  | 0 => ("NamesAgain$TownReader", "tape", "LNamesAgain$Tape;", true)
  | 1 => ("NamesAgain$TownReader", "draft", "LNamesAgain$Told;", true)
  | _ => ("NamesAgain$TownReader", "lineCount", "I", false)
def tyX8 : Nat → FieldType := fun k => match k with
  | 0 => .object "NamesAgain$Tape"
  | 1 => .object "NamesAgain$Told"
  | _ => .int
theorem nmX8 : ∀ a, a < 3 → ∀ b, b < 3 → a ≠ b → (TX8 a).2.1 ≠ (TX8 b).2.1 := by decide +kernel
theorem tyX8_ok : ∀ k, k < 3 → parseFieldDescriptor (TX8 k).2.2.1 = some (tyX8 k) := by decide +kernel
def RX9 : String := "NamesAgain$Undo"
def TX9 : u_T := fun k => match k with
  | 0 => ("NamesAgain$Undo", "kept", "[LNamesAgain$Life;", true)
  | 1 => ("NamesAgain$Undo", "next", "I", false)
  | _ => ("NamesAgain$Undo", "size", "I", false)
def tyX9 : Nat → FieldType := fun k => match k with
  | 0 => .array (.object "NamesAgain$Life")
  | 1 => .int
  | _ => .int
theorem nmX9 : ∀ a, a < 3 → ∀ b, b < 3 → a ≠ b → (TX9 a).2.1 ≠ (TX9 b).2.1 := by decide +kernel
theorem tyX9_ok : ∀ k, k < 3 → parseFieldDescriptor (TX9 k).2.2.1 = some (tyX9 k) := by decide +kernel
def RX10 : String := "NamesAgain$Wishes"
def TX10 : u_T := fun k => match k with
  | 0 => ("NamesAgain$Wishes", "told", "LNamesAgain$Told;", true)
  | 1 => ("NamesAgain$Wishes", "life", "LNamesAgain$Life;", true)
  | 2 => ("NamesAgain$Wishes", "pointsAt", "[I", true)
  | 3 => ("NamesAgain$Wishes", "partners", "[I", true)
  | _ => ("NamesAgain$Wishes", "hasPartners", "Z", false)
def tyX10 : Nat → FieldType := fun k => match k with
  | 0 => .object "NamesAgain$Told"
  | 1 => .object "NamesAgain$Life"
  | 2 => .array .int
  | 3 => .array .int
  | _ => .boolean
theorem nmX10 : ∀ a, a < 5 → ∀ b, b < 5 → a ≠ b → (TX10 a).2.1 ≠ (TX10 b).2.1 := by decide +kernel
theorem tyX10_ok : ∀ k, k < 5 → parseFieldDescriptor (TX10 k).2.2.1 = some (tyX10 k) := by decide +kernel
def RX11 : String := "NamesAgain"
def TX11 : u_T := fun k => match k with
  | 0 => ("NamesAgain", "tape", "LNamesAgain$Tape;", true)
  | 1 => ("NamesAgain", "told", "LNamesAgain$Told;", true)
  | 2 => ("NamesAgain", "draft", "LNamesAgain$Told;", true)
  | 3 => ("NamesAgain", "townReader", "LNamesAgain$TownReader;", true)
  | 4 => ("NamesAgain", "life", "LNamesAgain$Life;", true)
  | 5 => ("NamesAgain", "spare", "LNamesAgain$Life;", true)
  | 6 => ("NamesAgain", "undos", "LNamesAgain$Undo;", true)
  | 7 => ("NamesAgain", "lines", "LNamesAgain$Roll;", true)
  | 8 => ("NamesAgain", "saying", "LNamesAgain$Sentence;", true)
  | 9 => ("NamesAgain", "newSaying", "LNamesAgain$Sentence;", true)
  | 10 => ("NamesAgain", "wishing", "LNamesAgain$Wishes;", true)
  | 11 => ("NamesAgain", "market", "LNamesAgain$Market;", true)
  | 12 => ("NamesAgain", "draw", "LNamesAgain$Draw;", true)
  | 13 => ("NamesAgain", "images", "[LNamesAgain$Image;", true)
  | _ => ("NamesAgain", "latestFault", "I", false)
def tyX11 : Nat → FieldType := fun k => match k with
  | 0 => .object "NamesAgain$Tape"
  | 1 => .object "NamesAgain$Told"
  | 2 => .object "NamesAgain$Told"
  | 3 => .object "NamesAgain$TownReader"
  | 4 => .object "NamesAgain$Life"
  | 5 => .object "NamesAgain$Life"
  | 6 => .object "NamesAgain$Undo"
  | 7 => .object "NamesAgain$Roll"
  | 8 => .object "NamesAgain$Sentence"
  | 9 => .object "NamesAgain$Sentence"
  | 10 => .object "NamesAgain$Wishes"
  | 11 => .object "NamesAgain$Market"
  | 12 => .object "NamesAgain$Draw"
  | 13 => .array (.object "NamesAgain$Image")
  | _ => .int
theorem nmX11 : ∀ a, a < 15 → ∀ b, b < 15 → a ≠ b → (TX11 a).2.1 ≠ (TX11 b).2.1 := by decide +kernel
theorem tyX11_ok : ∀ k, k < 15 → parseFieldDescriptor (TX11 k).2.2.1 = some (tyX11 k) := by decide +kernel
def RX12 : String := "NamesAgainModel"
def TX12 : u_T := fun k => match k with
  | 0 => ("NamesAgainModel", "thrown", "I", false)
  | 1 => ("NamesAgainModel", "tape", "[B", true)
  | 2 => ("NamesAgainModel", "length", "I", false)
  | 3 => ("NamesAgainModel", "size", "I", false)
  | 4 => ("NamesAgainModel", "p", "I", false)
  | 5 => ("NamesAgainModel", "limit", "I", false)
  | 6 => ("NamesAgainModel", "s", "[I", true)
  | 7 => ("NamesAgainModel", "h", "[I", true)
  | 8 => ("NamesAgainModel", "read", "[I", true)
  | 9 => ("NamesAgainModel", "names", "[J", true)
  | 10 => ("NamesAgainModel", "reserved", "[J", true)
  | 11 => ("NamesAgainModel", "token", "I", false)
  | 12 => ("NamesAgainModel", "at", "I", false)
  | 13 => ("NamesAgainModel", "span", "I", false)
  | 14 => ("NamesAgainModel", "number", "I", false)
  | 15 => ("NamesAgainModel", "fault", "I", false)
  | 16 => ("NamesAgainModel", "faultAt", "I", false)
  | 17 => ("NamesAgainModel", "word", "J", false)
  | 18 => ("NamesAgainModel", "got", "I", false)
  | 19 => ("NamesAgainModel", "lines", "I", false)
  | 20 => ("NamesAgainModel", "onces", "I", false)
  | 21 => ("NamesAgainModel", "undone", "[I", true)
  | 22 => ("NamesAgainModel", "before", "[I", true)
  | 23 => ("NamesAgainModel", "undoMany", "I", false)
  | 24 => ("NamesAgainModel", "with", "[I", true)
  | 25 => ("NamesAgainModel", "withSouls", "I", false)
  | 26 => ("NamesAgainModel", "bidBy", "I", false)
  | 27 => ("NamesAgainModel", "bidFor", "I", false)
  | 28 => ("NamesAgainModel", "cheapestName", "I", false)
  | 29 => ("NamesAgainModel", "hasCheapest", "Z", false)
  | 30 => ("NamesAgainModel", "seed", "I", false)
  | 31 => ("NamesAgainModel", "told", "I", false)
  | 32 => ("NamesAgainModel", "rolledAt", "[I", true)
  | 33 => ("NamesAgainModel", "hasRolled", "Z", false)
  | 34 => ("NamesAgainModel", "stack", "[I", true)
  | 35 => ("NamesAgainModel", "codes", "I", false)
  | 36 => ("NamesAgainModel", "ones", "I", false)
  | 37 => ("NamesAgainModel", "top", "I", false)
  | 38 => ("NamesAgainModel", "deep", "I", false)
  | 39 => ("NamesAgainModel", "isWhole", "Z", false)
  | 40 => ("NamesAgainModel", "truths", "[Z", true)
  | 41 => ("NamesAgainModel", "kept", "[I", true)
  | 42 => ("NamesAgainModel", "namesKept", "[J", true)
  | _ => ("NamesAgainModel", "areKept", "[Z", true)
def tyX12 : Nat → FieldType := fun k => match k with
  | 0 => .int
  | 1 => .array .byte
  | 2 => .int
  | 3 => .int
  | 4 => .int
  | 5 => .int
  | 6 => .array .int
  | 7 => .array .int
  | 8 => .array .int
  | 9 => .array .long
  | 10 => .array .long
  | 11 => .int
  | 12 => .int
  | 13 => .int
  | 14 => .int
  | 15 => .int
  | 16 => .int
  | 17 => .long
  | 18 => .int
  | 19 => .int
  | 20 => .int
  | 21 => .array .int
  | 22 => .array .int
  | 23 => .int
  | 24 => .array .int
  | 25 => .int
  | 26 => .int
  | 27 => .int
  | 28 => .int
  | 29 => .boolean
  | 30 => .int
  | 31 => .int
  | 32 => .array .int
  | 33 => .boolean
  | 34 => .array .int
  | 35 => .int
  | 36 => .int
  | 37 => .int
  | 38 => .int
  | 39 => .boolean
  | 40 => .array .boolean
  | 41 => .array .int
  | 42 => .array .long
  | _ => .array .boolean
theorem nmX12 : ∀ a, a < 44 → ∀ b, b < 44 → a ≠ b → (TX12 a).2.1 ≠ (TX12 b).2.1 := by decide +kernel
theorem tyX12_ok : ∀ k, k < 44 → parseFieldDescriptor (TX12 k).2.2.1 = some (tyX12 k) := by decide +kernel
abbrev vwCl : List vw_C := [(RX0, TX0, 1), (RX1, TX1, 4), (RX2, TX2, 15), (RX3, TX3, 5), (RX4, TX4, 11), (RX5, TX5, 8), (RX6, TX6, 14), (RX7, TX7, 12), (RX8, TX8, 3), (RX9, TX9, 3), (RX10, TX10, 5), (RX11, TX11, 15), (RX12, TX12, 44)]
def RL : String := "NamesAgainLaw"
