/-! the classes of this claim: names, fields in the order of the slots, types (rows of NAMES.whole) -/
def RX0 : String := "LeaningWheel$Ball"
def TX0 : u_T := fun k => match k with
  | 0 => ("LeaningWheel$Ball", "wheels", "LLeaningWheel$Wheels;", true)
  | 1 => ("LeaningWheel$Ball", "texts", "LLeaningWheel$Texts;", true)
  | 2 => ("LeaningWheel$Ball", "machine", "LLeaningWheel$Machine;", true)
  | 3 => ("LeaningWheel$Ball", "pockets", "I", true)
  | 4 => ("LeaningWheel$Ball", "odds", "[I", true)
  | 5 => ("LeaningWheel$Ball", "offAt", "I", false)
  | 6 => ("LeaningWheel$Ball", "struck", "I", false)
  | _ => ("LeaningWheel$Ball", "reached", "I", false)
def tyX0 : Nat → FieldType := fun k => match k with
  | 0 => .object "LeaningWheel$Wheels"
  | 1 => .object "LeaningWheel$Texts"
  | 2 => .object "LeaningWheel$Machine"
  | 3 => .int
  | 4 => .array .int
  | 5 => .int
  | 6 => .int
  | _ => .int
theorem nmX0 : ∀ a, a < 8 → ∀ b, b < 8 → a ≠ b → (TX0 a).2.1 ≠ (TX0 b).2.1 := by decide +kernel
theorem tyX0_ok : ∀ k, k < 8 → parseFieldDescriptor (TX0 k).2.2.1 = some (tyX0 k) := by decide +kernel
def RX1 : String := "LeaningWheel$Big"
def TX1 : u_T := fun k => match k with
  | 0 => ("LeaningWheel$Big", "limbs", "[I", true)
  | _ => ("LeaningWheel$Big", "size", "I", false)
def tyX1 : Nat → FieldType := fun k => match k with
  | 0 => .array .int
  | _ => .int
theorem nmX1 : ∀ a, a < 2 → ∀ b, b < 2 → a ≠ b → (TX1 a).2.1 ≠ (TX1 b).2.1 := by decide +kernel
theorem tyX1_ok : ∀ k, k < 2 → parseFieldDescriptor (TX1 k).2.2.1 = some (tyX1 k) := by decide +kernel
def RX2 : String := "LeaningWheel$Book"
def TX2 : u_T := fun k => match k with
  | 0 => ("LeaningWheel$Book", "evening", "[I", true)
  | 1 => ("LeaningWheel$Book", "table", "[I", true)
  | 2 => ("LeaningWheel$Book", "hand", "[I", true)
  | 3 => ("LeaningWheel$Book", "fell", "[I", true)
  | 4 => ("LeaningWheel$Book", "spinCount", "I", false)
  | 5 => ("LeaningWheel$Book", "scratches", "[I", true)
  | 6 => ("LeaningWheel$Book", "starts", "[I", true)
  | 7 => ("LeaningWheel$Book", "startCounts", "[I", true)
  | 8 => ("LeaningWheel$Book", "bettor", "[I", true)
  | 9 => ("LeaningWheel$Book", "betSpin", "[I", true)
  | 10 => ("LeaningWheel$Book", "betPocket", "[I", true)
  | 11 => ("LeaningWheel$Book", "betCount", "I", false)
  | 12 => ("LeaningWheel$Book", "sightSpeed", "[I", true)
  | 13 => ("LeaningWheel$Book", "sightTenth", "[I", true)
  | 14 => ("LeaningWheel$Book", "sightCount", "I", false)
  | 15 => ("LeaningWheel$Book", "late", "[I", true)
  | _ => ("LeaningWheel$Book", "pay", "I", false)
def tyX2 : Nat → FieldType := fun k => match k with
  | 0 => .array .int
  | 1 => .array .int
  | 2 => .array .int
  | 3 => .array .int
  | 4 => .int
  | 5 => .array .int
  | 6 => .array .int
  | 7 => .array .int
  | 8 => .array .int
  | 9 => .array .int
  | 10 => .array .int
  | 11 => .int
  | 12 => .array .int
  | 13 => .array .int
  | 14 => .int
  | 15 => .array .int
  | _ => .int
theorem nmX2 : ∀ a, a < 17 → ∀ b, b < 17 → a ≠ b → (TX2 a).2.1 ≠ (TX2 b).2.1 := by decide +kernel
theorem tyX2_ok : ∀ k, k < 17 → parseFieldDescriptor (TX2 k).2.2.1 = some (tyX2 k) := by decide +kernel
def RX3 : String := "LeaningWheel$Chances"
def TX3 : u_T := fun k => match k with
  | 0 => ("LeaningWheel$Chances", "pockets", "I", true)
  | 1 => ("LeaningWheel$Chances", "sum", "LLeaningWheel$Big;", true)
  | 2 => ("LeaningWheel$Chances", "term", "LLeaningWheel$Big;", true)
  | 3 => ("LeaningWheel$Chances", "whole", "LLeaningWheel$Big;", true)
  | 4 => ("LeaningWheel$Chances", "thousands", "LLeaningWheel$Big;", true)
  | 5 => ("LeaningWheel$Chances", "room", "LLeaningWheel$Big;", true)
  | 6 => ("LeaningWheel$Chances", "won", "LLeaningWheel$Big;", true)
  | 7 => ("LeaningWheel$Chances", "lost", "LLeaningWheel$Big;", true)
  | 8 => ("LeaningWheel$Chances", "days", "LLeaningWheel$Big;", true)
  | 9 => ("LeaningWheel$Chances", "needed", "I", false)
  | _ => ("LeaningWheel$Chances", "neededOf", "I", false)
def tyX3 : Nat → FieldType := fun k => match k with
  | 0 => .int
  | 1 => .object "LeaningWheel$Big"
  | 2 => .object "LeaningWheel$Big"
  | 3 => .object "LeaningWheel$Big"
  | 4 => .object "LeaningWheel$Big"
  | 5 => .object "LeaningWheel$Big"
  | 6 => .object "LeaningWheel$Big"
  | 7 => .object "LeaningWheel$Big"
  | 8 => .object "LeaningWheel$Big"
  | 9 => .int
  | _ => .int
theorem nmX3 : ∀ a, a < 11 → ∀ b, b < 11 → a ≠ b → (TX3 a).2.1 ≠ (TX3 b).2.1 := by decide +kernel
theorem tyX3_ok : ∀ k, k < 11 → parseFieldDescriptor (TX3 k).2.2.1 = some (tyX3 k) := by decide +kernel
def RX4 : String := "LeaningWheel$Machine"
def TX4 : u_T := fun k => match k with
  | 0 => ("LeaningWheel$Machine", "names", "[I", true)
  | 1 => ("LeaningWheel$Machine", "stack", "[I", true)
  | _ => ("LeaningWheel$Machine", "height", "I", false)
def tyX4 : Nat → FieldType := fun k => match k with
  | 0 => .array .int
  | 1 => .array .int
  | _ => .int
theorem nmX4 : ∀ a, a < 3 → ∀ b, b < 3 → a ≠ b → (TX4 a).2.1 ≠ (TX4 b).2.1 := by decide +kernel
theorem tyX4_ok : ∀ k, k < 3 → parseFieldDescriptor (TX4 k).2.2.1 = some (tyX4 k) := by decide +kernel
def RX5 : String := "LeaningWheel$Planner"
def TX5 : u_T := fun k => match k with
  | 0 => ("LeaningWheel$Planner", "high", "[J", true)
  | 1 => ("LeaningWheel$Planner", "low", "[J", true)
  | 2 => ("LeaningWheel$Planner", "highThen", "[J", true)
  | 3 => ("LeaningWheel$Planner", "lowThen", "[J", true)
  | 4 => ("LeaningWheel$Planner", "bestHigh", "J", false)
  | 5 => ("LeaningWheel$Planner", "bestLow", "J", false)
  | 6 => ("LeaningWheel$Planner", "bestStake", "I", false)
  | 7 => ("LeaningWheel$Planner", "played", "[J", true)
  | 8 => ("LeaningWheel$Planner", "millionths", "I", false)
  | 9 => ("LeaningWheel$Planner", "firstStake", "I", false)
  | 10 => ("LeaningWheel$Planner", "cost", "I", false)
  | 11 => ("LeaningWheel$Planner", "moves", "I", false)
  | 12 => ("LeaningWheel$Planner", "learnt", "Z", false)
  | 13 => ("LeaningWheel$Planner", "least", "I", false)
  | 14 => ("LeaningWheel$Planner", "a", "I", false)
  | 15 => ("LeaningWheel$Planner", "b", "I", false)
  | _ => ("LeaningWheel$Planner", "c", "I", false)
def tyX5 : Nat → FieldType := fun k => match k with
  | 0 => .array .long
  | 1 => .array .long
  | 2 => .array .long
  | 3 => .array .long
  | 4 => .long
  | 5 => .long
  | 6 => .int
  | 7 => .array .long
  | 8 => .int
  | 9 => .int
  | 10 => .int
  | 11 => .int
  | 12 => .boolean
  | 13 => .int
  | 14 => .int
  | 15 => .int
  | _ => .int
theorem nmX5 : ∀ a, a < 17 → ∀ b, b < 17 → a ≠ b → (TX5 a).2.1 ≠ (TX5 b).2.1 := by decide +kernel
theorem tyX5_ok : ∀ k, k < 17 → parseFieldDescriptor (TX5 k).2.2.1 = some (tyX5 k) := by decide +kernel
def RX6 : String := "LeaningWheel$Player"
def TX6 : u_T := fun k => match k with
  | 0 => ("LeaningWheel$Player", "pockets", "I", true)
  | 1 => ("LeaningWheel$Player", "texts", "LLeaningWheel$Texts;", true)
  | 2 => ("LeaningWheel$Player", "machine", "LLeaningWheel$Machine;", true)
  | 3 => ("LeaningWheel$Player", "came", "[I", true)
  | 4 => ("LeaningWheel$Player", "text", "I", false)
  | 5 => ("LeaningWheel$Player", "pay", "I", false)
  | 6 => ("LeaningWheel$Player", "ahead", "I", false)
  | 7 => ("LeaningWheel$Player", "last", "I", false)
  | 8 => ("LeaningWheel$Player", "lost", "I", false)
  | 9 => ("LeaningWheel$Player", "purse", "I", false)
  | 10 => ("LeaningWheel$Player", "least", "I", false)
  | _ => ("LeaningWheel$Player", "won", "I", false)
def tyX6 : Nat → FieldType := fun k => match k with
  | 0 => .int
  | 1 => .object "LeaningWheel$Texts"
  | 2 => .object "LeaningWheel$Machine"
  | 3 => .array .int
  | 4 => .int
  | 5 => .int
  | 6 => .int
  | 7 => .int
  | 8 => .int
  | 9 => .int
  | 10 => .int
  | _ => .int
theorem nmX6 : ∀ a, a < 12 → ∀ b, b < 12 → a ≠ b → (TX6 a).2.1 ≠ (TX6 b).2.1 := by decide +kernel
theorem tyX6_ok : ∀ k, k < 12 → parseFieldDescriptor (TX6 k).2.2.1 = some (tyX6 k) := by decide +kernel
def RX7 : String := "LeaningWheel$Reader"
def TX7 : u_T := fun k => match k with
  | 0 => ("LeaningWheel$Reader", "tape", "[I", true)
  | 1 => ("LeaningWheel$Reader", "length", "I", false)
  | 2 => ("LeaningWheel$Reader", "fault", "I", false)
  | 3 => ("LeaningWheel$Reader", "place", "I", false)
  | 4 => ("LeaningWheel$Reader", "into", "LLeaningWheel$Texts;", false)
  | 5 => ("LeaningWheel$Reader", "text", "I", false)
  | 6 => ("LeaningWheel$Reader", "clause", "I", false)
  | 7 => ("LeaningWheel$Reader", "filled", "I", false)
  | 8 => ("LeaningWheel$Reader", "at", "I", false)
  | 9 => ("LeaningWheel$Reader", "kind", "I", false)
  | 10 => ("LeaningWheel$Reader", "first", "I", false)
  | _ => ("LeaningWheel$Reader", "value", "I", false)
def tyX7 : Nat → FieldType := fun k => match k with
  | 0 => .array .int
  | 1 => .int
  | 2 => .int
  | 3 => .int
  | 4 => .object "LeaningWheel$Texts"
  | 5 => .int
  | 6 => .int
  | 7 => .int
  | 8 => .int
  | 9 => .int
  | 10 => .int
  | _ => .int
theorem nmX7 : ∀ a, a < 12 → ∀ b, b < 12 → a ≠ b → (TX7 a).2.1 ≠ (TX7 b).2.1 := by decide +kernel
theorem tyX7_ok : ∀ k, k < 12 → parseFieldDescriptor (TX7 k).2.2.1 = some (tyX7 k) := by decide +kernel
def RX8 : String := "LeaningWheel$Texts"
def TX8 : u_T := fun k => match k with
  | 0 => ("LeaningWheel$Texts", "codes", "[I", true)
  | 1 => ("LeaningWheel$Texts", "from", "[I", true)
  | 2 => ("LeaningWheel$Texts", "until", "[I", true)
  | 3 => ("LeaningWheel$Texts", "count", "I", false)
  | _ => ("LeaningWheel$Texts", "law", "I", false)
def tyX8 : Nat → FieldType := fun k => match k with
  | 0 => .array .int
  | 1 => .array .int
  | 2 => .array .int
  | 3 => .int
  | _ => .int
theorem nmX8 : ∀ a, a < 5 → ∀ b, b < 5 → a ≠ b → (TX8 a).2.1 ≠ (TX8 b).2.1 := by decide +kernel
theorem tyX8_ok : ∀ k, k < 5 → parseFieldDescriptor (TX8 k).2.2.1 = some (tyX8 k) := by decide +kernel
def RX9 : String := "LeaningWheel$Wheels"
def TX9 : u_T := fun k => match k with
  | 0 => ("LeaningWheel$Wheels", "pockets", "I", true)
  | 1 => ("LeaningWheel$Wheels", "hold", "[I", true)
  | 2 => ("LeaningWheel$Wheels", "lean", "[I", true)
  | 3 => ("LeaningWheel$Wheels", "skips", "[I", true)
  | _ => ("LeaningWheel$Wheels", "tilts", "[I", true)
def tyX9 : Nat → FieldType := fun k => match k with
  | 0 => .int
  | 1 => .array .int
  | 2 => .array .int
  | 3 => .array .int
  | _ => .array .int
theorem nmX9 : ∀ a, a < 5 → ∀ b, b < 5 → a ≠ b → (TX9 a).2.1 ≠ (TX9 b).2.1 := by decide +kernel
theorem tyX9_ok : ∀ k, k < 5 → parseFieldDescriptor (TX9 k).2.2.1 = some (tyX9 k) := by decide +kernel
def RX10 : String := "LeaningWheel$Where"
def TX10 : u_T := fun k => match k with
  | 0 => ("LeaningWheel$Where", "wheels", "LLeaningWheel$Wheels;", true)
  | 1 => ("LeaningWheel$Where", "book", "LLeaningWheel$Book;", true)
  | 2 => ("LeaningWheel$Where", "settled", "I", false)
  | 3 => ("LeaningWheel$Where", "ways", "[I", true)
  | 4 => ("LeaningWheel$Where", "sure", "[I", true)
  | 5 => ("LeaningWheel$Where", "standing", "[I", true)
  | 6 => ("LeaningWheel$Where", "spins", "[I", true)
  | 7 => ("LeaningWheel$Where", "trial", "[I", true)
  | 8 => ("LeaningWheel$Where", "sums", "[I", true)
  | 9 => ("LeaningWheel$Where", "chances", "[LLeaningWheel$Big;", true)
  | 10 => ("LeaningWheel$Where", "products", "[LLeaningWheel$Big;", true)
  | 11 => ("LeaningWheel$Where", "best", "LLeaningWheel$Big;", true)
  | 12 => ("LeaningWheel$Where", "all", "LLeaningWheel$Big;", true)
  | _ => ("LeaningWheel$Where", "room", "LLeaningWheel$Big;", true)
def tyX10 : Nat → FieldType := fun k => match k with
  | 0 => .object "LeaningWheel$Wheels"
  | 1 => .object "LeaningWheel$Book"
  | 2 => .int
  | 3 => .array .int
  | 4 => .array .int
  | 5 => .array .int
  | 6 => .array .int
  | 7 => .array .int
  | 8 => .array .int
  | 9 => .array (.object "LeaningWheel$Big")
  | 10 => .array (.object "LeaningWheel$Big")
  | 11 => .object "LeaningWheel$Big"
  | 12 => .object "LeaningWheel$Big"
  | _ => .object "LeaningWheel$Big"
theorem nmX10 : ∀ a, a < 14 → ∀ b, b < 14 → a ≠ b → (TX10 a).2.1 ≠ (TX10 b).2.1 := by decide +kernel
theorem tyX10_ok : ∀ k, k < 14 → parseFieldDescriptor (TX10 k).2.2.1 = some (tyX10 k) := by decide +kernel
def RX11 : String := "LeaningWheel"
def TX11 : u_T := fun k => match k with
  | 0 => ("LeaningWheel", "pockets", "I", true)
  | 1 => ("LeaningWheel", "wheels", "LLeaningWheel$Wheels;", true)
  | 2 => ("LeaningWheel", "texts", "LLeaningWheel$Texts;", true)
  | 3 => ("LeaningWheel", "book", "LLeaningWheel$Book;", true)
  | 4 => ("LeaningWheel", "wheelsThen", "LLeaningWheel$Wheels;", true)
  | 5 => ("LeaningWheel", "textsThen", "LLeaningWheel$Texts;", true)
  | 6 => ("LeaningWheel", "bookThen", "LLeaningWheel$Book;", true)
  | 7 => ("LeaningWheel", "reader", "LLeaningWheel$Reader;", true)
  | 8 => ("LeaningWheel", "ball", "LLeaningWheel$Ball;", true)
  | 9 => ("LeaningWheel", "player", "LLeaningWheel$Player;", true)
  | 10 => ("LeaningWheel", "where", "LLeaningWheel$Where;", true)
  | 11 => ("LeaningWheel", "chances", "LLeaningWheel$Chances;", true)
  | 12 => ("LeaningWheel", "planner", "LLeaningWheel$Planner;", true)
  | 13 => ("LeaningWheel", "tally", "[I", true)
  | _ => ("LeaningWheel", "chosen", "J", false)
def tyX11 : Nat → FieldType := fun k => match k with
  | 0 => .int
  | 1 => .object "LeaningWheel$Wheels"
  | 2 => .object "LeaningWheel$Texts"
  | 3 => .object "LeaningWheel$Book"
  | 4 => .object "LeaningWheel$Wheels"
  | 5 => .object "LeaningWheel$Texts"
  | 6 => .object "LeaningWheel$Book"
  | 7 => .object "LeaningWheel$Reader"
  | 8 => .object "LeaningWheel$Ball"
  | 9 => .object "LeaningWheel$Player"
  | 10 => .object "LeaningWheel$Where"
  | 11 => .object "LeaningWheel$Chances"
  | 12 => .object "LeaningWheel$Planner"
  | 13 => .array .int
  | _ => .long
theorem nmX11 : ∀ a, a < 15 → ∀ b, b < 15 → a ≠ b → (TX11 a).2.1 ≠ (TX11 b).2.1 := by decide +kernel
theorem tyX11_ok : ∀ k, k < 15 → parseFieldDescriptor (TX11 k).2.2.1 = some (tyX11 k) := by decide +kernel
def RX12 : String := "LeaningWheelModel"
def TX12 : u_T := fun k => match k with
  | 0 => ("LeaningWheelModel", "n", "I", true)
  | 1 => ("LeaningWheelModel", "a", "[I", true)
  | 2 => ("LeaningWheelModel", "image", "[I", true)
  | 3 => ("LeaningWheelModel", "texts", "[I", true)
  | 4 => ("LeaningWheelModel", "tape", "[I", true)
  | 5 => ("LeaningWheelModel", "taped", "I", false)
  | 6 => ("LeaningWheelModel", "sort", "I", false)
  | 7 => ("LeaningWheelModel", "fault", "I", false)
  | 8 => ("LeaningWheelModel", "faultPlace", "I", false)
  | 9 => ("LeaningWheelModel", "at", "I", false)
  | 10 => ("LeaningWheelModel", "place", "I", false)
  | 11 => ("LeaningWheelModel", "token", "I", false)
  | 12 => ("LeaningWheelModel", "number", "I", false)
  | 13 => ("LeaningWheelModel", "word", "J", false)
  | 14 => ("LeaningWheelModel", "text0", "I", false)
  | 15 => ("LeaningWheelModel", "clauses", "I", false)
  | 16 => ("LeaningWheelModel", "written", "I", false)
  | 17 => ("LeaningWheelModel", "came", "I", false)
  | 18 => ("LeaningWheelModel", "pile", "[I", true)
  | 19 => ("LeaningWheelModel", "piled", "I", false)
  | 20 => ("LeaningWheelModel", "opens", "I", false)
  | 21 => ("LeaningWheelModel", "isWhole", "Z", false)
  | 22 => ("LeaningWheelModel", "named", "[I", true)
  | 23 => ("LeaningWheelModel", "values", "[J", true)
  | 24 => ("LeaningWheelModel", "offTenth", "I", false)
  | 25 => ("LeaningWheelModel", "offStud", "I", false)
  | 26 => ("LeaningWheelModel", "offPocket", "I", false)
  | 27 => ("LeaningWheelModel", "odds", "[I", true)
  | 28 => ("LeaningWheelModel", "limbs", "[I", true)
  | 29 => ("LeaningWheelModel", "way", "[I", true)
  | 30 => ("LeaningWheelModel", "likely", "[I", true)
  | 31 => ("LeaningWheelModel", "ways", "I", false)
  | 32 => ("LeaningWheelModel", "fallen", "[I", true)
  | 33 => ("LeaningWheelModel", "allFallen", "I", false)
  | 34 => ("LeaningWheelModel", "isOne", "[Z", true)
  | 35 => ("LeaningWheelModel", "far", "[I", true)
  | 36 => ("LeaningWheelModel", "firstStake", "[I", true)
  | _ => ("LeaningWheelModel", "came2", "[I", true)
def tyX12 : Nat → FieldType := fun k => match k with
  | 0 => .int
  | 1 => .array .int
  | 2 => .array .int
  | 3 => .array .int
  | 4 => .array .int
  | 5 => .int
  | 6 => .int
  | 7 => .int
  | 8 => .int
  | 9 => .int
  | 10 => .int
  | 11 => .int
  | 12 => .int
  | 13 => .long
  | 14 => .int
  | 15 => .int
  | 16 => .int
  | 17 => .int
  | 18 => .array .int
  | 19 => .int
  | 20 => .int
  | 21 => .boolean
  | 22 => .array .int
  | 23 => .array .long
  | 24 => .int
  | 25 => .int
  | 26 => .int
  | 27 => .array .int
  | 28 => .array .int
  | 29 => .array .int
  | 30 => .array .int
  | 31 => .int
  | 32 => .array .int
  | 33 => .int
  | 34 => .array .boolean
  | 35 => .array .int
  | 36 => .array .int
  | _ => .array .int
theorem nmX12 : ∀ a, a < 38 → ∀ b, b < 38 → a ≠ b → (TX12 a).2.1 ≠ (TX12 b).2.1 := by decide +kernel
theorem tyX12_ok : ∀ k, k < 38 → parseFieldDescriptor (TX12 k).2.2.1 = some (tyX12 k) := by decide +kernel
abbrev vwCl : List vw_C := [(RX0, TX0, 8), (RX1, TX1, 2), (RX2, TX2, 17), (RX3, TX3, 11), (RX4, TX4, 3), (RX5, TX5, 17), (RX6, TX6, 12), (RX7, TX7, 12), (RX8, TX8, 5), (RX9, TX9, 5), (RX10, TX10, 14), (RX11, TX11, 15), (RX12, TX12, 38)]
def am_cls : List (List Nat) := [[2, 2, 2, 0, 2, 0, 0, 0], [2, 0], [2, 2, 2, 2, 0, 2, 2, 2, 2, 2, 2, 0, 2, 2, 0, 2, 0], [0, 2, 2, 2, 2, 2, 2, 2, 2, 0, 0], [2, 2, 0], [2, 2, 2, 2, 1, 1, 0, 2, 0, 0, 0, 0, 3, 0, 0, 0, 0], [0, 2, 2, 2, 0, 0, 0, 0, 0, 0, 0, 0], [2, 0, 0, 0, 2, 0, 0, 0, 0, 0, 0, 0], [2, 2, 2, 0, 0], [0, 2, 2, 2, 2], [2, 2, 0, 2, 2, 2, 2, 2, 2, 2, 2, 2, 2, 2], [0, 2, 2, 2, 2, 2, 2, 2, 2, 2, 2, 2, 2, 2, 1], [0, 2, 2, 2, 2, 0, 0, 0, 0, 0, 0, 0, 0, 1, 0, 0, 0, 0, 2, 0, 0, 3, 2, 2, 0, 0, 0, 2, 2, 2, 2, 0, 2, 0, 2, 2, 2, 2]]
def am_ty : Nat → Nat → FieldType := fun ci => match ci with
  | 0 => tyX0
  | 1 => tyX1
  | 2 => tyX2
  | 3 => tyX3
  | 4 => tyX4
  | 5 => tyX5
  | 6 => tyX6
  | 7 => tyX7
  | 8 => tyX8
  | 9 => tyX9
  | 10 => tyX10
  | 11 => tyX11
  | _ => tyX12
/-- the words that a callee can be given -/
def am_good : List Cond := lw_tbl.filter goodWord
theorem am_gin {w : Cond} (h : w ∈ lw_tbl) (g : goodWord w = true) : w ∈ am_good := List.mem_filter.mpr ⟨h, g⟩
theorem am_gd : ∀ w ∈ am_good, goodWord w = true := fun w h => (List.mem_filter.mp h).2
theorem am_gt : ∀ w ∈ am_good, w ∈ lw_tbl := fun w h => (List.mem_filter.mp h).1
def am_tyOK (t : Nat) (ty : FieldType) : Bool := match ty with
  | .int => t == 0
  | .long => t == 1
  | .boolean => t == 3
  | .object _ => t == 2
  | .array _ => t == 2
  | _ => false
/-- what the tables say of a class -/
def am_clOK (ci : Nat) (q : vw_C) : Prop := (∀ w ∈ u_ws q.1 q.2.1 q.2.2, w ∈ am_good) ∧ (∀ k, k < q.2.2 → parseFieldDescriptor (q.2.1 k).2.2.1 = some (am_ty ci k)) ∧ (∀ a, a < q.2.2 → ∀ b, b < q.2.2 → a ≠ b → (q.2.1 a).2.1 ≠ (q.2.1 b).2.1) ∧ (am_cls.getD ci []).length = q.2.2 ∧ ∀ k, k < q.2.2 → am_tyOK ((am_cls.getD ci []).getD k 9) (am_ty ci k) = true
set_option maxRecDepth 100000 in
theorem am_u0 : ∀ w ∈ u_ws RX0 TX0 8, w ∈ am_good := by
  have h : (u_ws RX0 TX0 8) = [376, 378, 380, 382, 384, 386, 388, 390].filterMap (fun i => lw_tbl[i]?) := by decide +kernel
  have hg : (u_ws RX0 TX0 8).all goodWord = true := by decide +kernel
  intro w hw
  refine am_gin ?_ (List.all_eq_true.mp hg w hw)
  rw [h] at hw
  obtain ⟨i, -, hi⟩ := List.mem_filterMap.mp hw
  exact List.mem_of_getElem? hi
theorem am_o0 : am_clOK 0 (RX0, TX0, 8) := ⟨am_u0, tyX0_ok, nmX0, by decide +kernel, by decide +kernel⟩
set_option maxRecDepth 100000 in
theorem am_u1 : ∀ w ∈ u_ws RX1 TX1 2, w ∈ am_good := by
  have h : (u_ws RX1 TX1 2) = [455, 457].filterMap (fun i => lw_tbl[i]?) := by decide +kernel
  have hg : (u_ws RX1 TX1 2).all goodWord = true := by decide +kernel
  intro w hw
  refine am_gin ?_ (List.all_eq_true.mp hg w hw)
  rw [h] at hw
  obtain ⟨i, -, hi⟩ := List.mem_filterMap.mp hw
  exact List.mem_of_getElem? hi
theorem am_o1 : am_clOK 1 (RX1, TX1, 2) := ⟨am_u1, tyX1_ok, nmX1, by decide +kernel, by decide +kernel⟩
set_option maxRecDepth 100000 in
theorem am_u2 : ∀ w ∈ u_ws RX2 TX2 17, w ∈ am_good := by
  have h : (u_ws RX2 TX2 17) = [258, 260, 262, 264, 266, 268, 270, 272, 274, 276, 278, 280, 282, 284, 286, 288, 290].filterMap (fun i => lw_tbl[i]?) := by decide +kernel
  have hg : (u_ws RX2 TX2 17).all goodWord = true := by decide +kernel
  intro w hw
  refine am_gin ?_ (List.all_eq_true.mp hg w hw)
  rw [h] at hw
  obtain ⟨i, -, hi⟩ := List.mem_filterMap.mp hw
  exact List.mem_of_getElem? hi
theorem am_o2 : am_clOK 2 (RX2, TX2, 17) := ⟨am_u2, tyX2_ok, nmX2, by decide +kernel, by decide +kernel⟩
set_option maxRecDepth 100000 in
theorem am_u3 : ∀ w ∈ u_ws RX3 TX3 11, w ∈ am_good := by
  have h : (u_ws RX3 TX3 11) = [527, 529, 531, 533, 535, 537, 539, 541, 543, 545, 547].filterMap (fun i => lw_tbl[i]?) := by decide +kernel
  have hg : (u_ws RX3 TX3 11).all goodWord = true := by decide +kernel
  intro w hw
  refine am_gin ?_ (List.all_eq_true.mp hg w hw)
  rw [h] at hw
  obtain ⟨i, -, hi⟩ := List.mem_filterMap.mp hw
  exact List.mem_of_getElem? hi
theorem am_o3 : am_clOK 3 (RX3, TX3, 11) := ⟨am_u3, tyX3_ok, nmX3, by decide +kernel, by decide +kernel⟩
set_option maxRecDepth 100000 in
theorem am_u4 : ∀ w ∈ u_ws RX4 TX4 3, w ∈ am_good := by
  have h : (u_ws RX4 TX4 3) = [350, 352, 354].filterMap (fun i => lw_tbl[i]?) := by decide +kernel
  have hg : (u_ws RX4 TX4 3).all goodWord = true := by decide +kernel
  intro w hw
  refine am_gin ?_ (List.all_eq_true.mp hg w hw)
  rw [h] at hw
  obtain ⟨i, -, hi⟩ := List.mem_filterMap.mp hw
  exact List.mem_of_getElem? hi
theorem am_o4 : am_clOK 4 (RX4, TX4, 3) := ⟨am_u4, tyX4_ok, nmX4, by decide +kernel, by decide +kernel⟩
set_option maxRecDepth 100000 in
theorem am_u5 : ∀ w ∈ u_ws RX5 TX5 17, w ∈ am_good := by
  have h : (u_ws RX5 TX5 17) = [582, 584, 586, 588, 590, 592, 594, 596, 598, 600, 602, 604, 606, 608, 610, 612, 614].filterMap (fun i => lw_tbl[i]?) := by decide +kernel
  have hg : (u_ws RX5 TX5 17).all goodWord = true := by decide +kernel
  intro w hw
  refine am_gin ?_ (List.all_eq_true.mp hg w hw)
  rw [h] at hw
  obtain ⟨i, -, hi⟩ := List.mem_filterMap.mp hw
  exact List.mem_of_getElem? hi
theorem am_o5 : am_clOK 5 (RX5, TX5, 17) := ⟨am_u5, tyX5_ok, nmX5, by decide +kernel, by decide +kernel⟩
set_option maxRecDepth 100000 in
theorem am_u6 : ∀ w ∈ u_ws RX6 TX6 12, w ∈ am_good := by
  have h : (u_ws RX6 TX6 12) = [415, 417, 419, 421, 423, 425, 427, 429, 431, 433, 435, 437].filterMap (fun i => lw_tbl[i]?) := by decide +kernel
  have hg : (u_ws RX6 TX6 12).all goodWord = true := by decide +kernel
  intro w hw
  refine am_gin ?_ (List.all_eq_true.mp hg w hw)
  rw [h] at hw
  obtain ⟨i, -, hi⟩ := List.mem_filterMap.mp hw
  exact List.mem_of_getElem? hi
theorem am_o6 : am_clOK 6 (RX6, TX6, 12) := ⟨am_u6, tyX6_ok, nmX6, by decide +kernel, by decide +kernel⟩
set_option maxRecDepth 100000 in
theorem am_u7 : ∀ w ∈ u_ws RX7 TX7 12, w ∈ am_good := by
  have h : (u_ws RX7 TX7 12) = [314, 316, 318, 320, 322, 324, 326, 328, 330, 332, 334, 336].filterMap (fun i => lw_tbl[i]?) := by decide +kernel
  have hg : (u_ws RX7 TX7 12).all goodWord = true := by decide +kernel
  intro w hw
  refine am_gin ?_ (List.all_eq_true.mp hg w hw)
  rw [h] at hw
  obtain ⟨i, -, hi⟩ := List.mem_filterMap.mp hw
  exact List.mem_of_getElem? hi
theorem am_o7 : am_clOK 7 (RX7, TX7, 12) := ⟨am_u7, tyX7_ok, nmX7, by decide +kernel, by decide +kernel⟩
set_option maxRecDepth 100000 in
theorem am_u8 : ∀ w ∈ u_ws RX8 TX8 5, w ∈ am_good := by
  have h : (u_ws RX8 TX8 5) = [195, 197, 199, 201, 203].filterMap (fun i => lw_tbl[i]?) := by decide +kernel
  have hg : (u_ws RX8 TX8 5).all goodWord = true := by decide +kernel
  intro w hw
  refine am_gin ?_ (List.all_eq_true.mp hg w hw)
  rw [h] at hw
  obtain ⟨i, -, hi⟩ := List.mem_filterMap.mp hw
  exact List.mem_of_getElem? hi
theorem am_o8 : am_clOK 8 (RX8, TX8, 5) := ⟨am_u8, tyX8_ok, nmX8, by decide +kernel, by decide +kernel⟩
set_option maxRecDepth 100000 in
theorem am_u9 : ∀ w ∈ u_ws RX9 TX9 5, w ∈ am_good := by
  have h : (u_ws RX9 TX9 5) = [161, 163, 165, 167, 169].filterMap (fun i => lw_tbl[i]?) := by decide +kernel
  have hg : (u_ws RX9 TX9 5).all goodWord = true := by decide +kernel
  intro w hw
  refine am_gin ?_ (List.all_eq_true.mp hg w hw)
  rw [h] at hw
  obtain ⟨i, -, hi⟩ := List.mem_filterMap.mp hw
  exact List.mem_of_getElem? hi
theorem am_o9 : am_clOK 9 (RX9, TX9, 5) := ⟨am_u9, tyX9_ok, nmX9, by decide +kernel, by decide +kernel⟩
set_option maxRecDepth 100000 in
theorem am_u10 : ∀ w ∈ u_ws RX10 TX10 14, w ∈ am_good := by
  have h : (u_ws RX10 TX10 14) = [477, 479, 481, 483, 485, 487, 489, 491, 493, 495, 497, 499, 501, 503].filterMap (fun i => lw_tbl[i]?) := by decide +kernel
  have hg : (u_ws RX10 TX10 14).all goodWord = true := by decide +kernel
  intro w hw
  refine am_gin ?_ (List.all_eq_true.mp hg w hw)
  rw [h] at hw
  obtain ⟨i, -, hi⟩ := List.mem_filterMap.mp hw
  exact List.mem_of_getElem? hi
theorem am_o10 : am_clOK 10 (RX10, TX10, 14) := ⟨am_u10, tyX10_ok, nmX10, by decide +kernel, by decide +kernel⟩
set_option maxRecDepth 100000 in
theorem am_u11 : ∀ w ∈ u_ws RX11 TX11 15, w ∈ am_good := by
  have h : (u_ws RX11 TX11 15) = [633, 635, 637, 639, 641, 643, 645, 647, 649, 651, 653, 655, 657, 659, 661].filterMap (fun i => lw_tbl[i]?) := by decide +kernel
  have hg : (u_ws RX11 TX11 15).all goodWord = true := by decide +kernel
  intro w hw
  refine am_gin ?_ (List.all_eq_true.mp hg w hw)
  rw [h] at hw
  obtain ⟨i, -, hi⟩ := List.mem_filterMap.mp hw
  exact List.mem_of_getElem? hi
theorem am_o11 : am_clOK 11 (RX11, TX11, 15) := ⟨am_u11, tyX11_ok, nmX11, by decide +kernel, by decide +kernel⟩
set_option maxRecDepth 100000 in
theorem am_u12 : ∀ w ∈ u_ws RX12 TX12 38, w ∈ am_good := by
  have h : (u_ws RX12 TX12 38) = [1380, 1382, 1384, 1386, 1388, 1390, 1392, 1394, 1396, 1398, 1400, 1402, 1404, 1406, 1408, 1410, 1412, 1414, 1416, 1418, 1420, 1422, 1424, 1426, 1428, 1430, 1432, 1434, 1436, 1438, 1440, 1442, 1444, 1446, 1448, 1450, 1452, 1454].filterMap (fun i => lw_tbl[i]?) := by decide +kernel
  have hg : (u_ws RX12 TX12 38).all goodWord = true := by decide +kernel
  intro w hw
  refine am_gin ?_ (List.all_eq_true.mp hg w hw)
  rw [h] at hw
  obtain ⟨i, -, hi⟩ := List.mem_filterMap.mp hw
  exact List.mem_of_getElem? hi
theorem am_o12 : am_clOK 12 (RX12, TX12, 38) := ⟨am_u12, tyX12_ok, nmX12, by decide +kernel, by decide +kernel⟩
theorem am_cl_ok {ci : Nat} {q : vw_C} (h : vwCl[ci]? = some q) : am_clOK ci q := by
  match ci, h with
  | 0, h => cases h; exact am_o0
  | 1, h => cases h; exact am_o1
  | 2, h => cases h; exact am_o2
  | 3, h => cases h; exact am_o3
  | 4, h => cases h; exact am_o4
  | 5, h => cases h; exact am_o5
  | 6, h => cases h; exact am_o6
  | 7, h => cases h; exact am_o7
  | 8, h => cases h; exact am_o8
  | 9, h => cases h; exact am_o9
  | 10, h => cases h; exact am_o10
  | 11, h => cases h; exact am_o11
  | 12, h => cases h; exact am_o12
  | k + 13, h => simp [vwCl] at h
