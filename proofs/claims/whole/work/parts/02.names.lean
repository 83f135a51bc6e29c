/-! ===== names of the program, by wip/whole/gen02.py out of the printed names ===== -/
def RJ0 : String := "java/lang/String"
def RJ1 : String := "java/lang/StringLatin1"
def RJ2 : String := "java/lang/StringUTF16"
def RJ3 : String := "jdk/internal/util/Preconditions"
def RJ6 : String := "java/lang/Integer"
def RJ9 : String := "java/lang/Math"
def RJ10 : String := "java/lang/System"
def RL : String := "ElderTurnLaw"
def RX0 : String := "ElderTurn$Almanac"
def RX1 : String := "ElderTurn$Annals"
def RX2 : String := "ElderTurn$Family"
def RX3 : String := "ElderTurn$Notes"
def RX4 : String := "ElderTurn$Now"
def RX5 : String := "ElderTurn$Past"
def RX6 : String := "ElderTurn$Reader"
def RX7 : String := "ElderTurn$Rows"
def RX8 : String := "ElderTurn$Run"
def RX9 : String := "ElderTurn$World"
def RX10 : String := "ElderTurn"
def RX11 : String := "ElderTurnModel$Family"
def RX12 : String := "ElderTurnModel"
def TX0 : u_T := fun k => match k with
  | 0 => ("ElderTurn$Almanac", "there", "[I", true)
  | 1 => ("ElderTurn$Almanac", "can", "[I", true)
  | 2 => ("ElderTurn$Almanac", "harm", "[I", true)
  | _ => ("ElderTurn$Almanac", "branch", "[I", true)
def tyX0 : Nat → FieldType := fun k => match k with
  | 0 => .array .int
  | 1 => .array .int
  | 2 => .array .int
  | _ => .array .int
theorem nmX0 : ∀ a, a < 4 → ∀ b, b < 4 → a ≠ b → (TX0 a).2.1 ≠ (TX0 b).2.1 := by decide +kernel
theorem tyX0_ok : ∀ k, k < 4 → parseFieldDescriptor (TX0 k).2.2.1 = some (tyX0 k) := by decide +kernel
def TX1 : u_T := fun k => match k with
  | 0 => ("ElderTurn$Annals", "world", "LElderTurn$World;", true)
  | 1 => ("ElderTurn$Annals", "run", "LElderTurn$Run;", true)
  | 2 => ("ElderTurn$Annals", "notes", "LElderTurn$Notes;", true)
  | 3 => ("ElderTurn$Annals", "there", "[I", true)
  | 4 => ("ElderTurn$Annals", "can", "[I", true)
  | 5 => ("ElderTurn$Annals", "empty", "[I", true)
  | 6 => ("ElderTurn$Annals", "harm", "[I", true)
  | 7 => ("ElderTurn$Annals", "box", "[I", true)
  | 8 => ("ElderTurn$Annals", "knows", "[I", true)
  | _ => ("ElderTurn$Annals", "kept", "[I", true)
def tyX1 : Nat → FieldType := fun k => match k with
  | 0 => .object "ElderTurn$World"
  | 1 => .object "ElderTurn$Run"
  | 2 => .object "ElderTurn$Notes"
  | 3 => .array .int
  | 4 => .array .int
  | 5 => .array .int
  | 6 => .array .int
  | 7 => .array .int
  | 8 => .array .int
  | _ => .array .int
theorem nmX1 : ∀ a, a < 10 → ∀ b, b < 10 → a ≠ b → (TX1 a).2.1 ≠ (TX1 b).2.1 := by decide +kernel
theorem tyX1_ok : ∀ k, k < 10 → parseFieldDescriptor (TX1 k).2.2.1 = some (tyX1 k) := by decide +kernel
def TX2 : u_T := fun k => match k with
  | 0 => ("ElderTurn$Family", "years", "I", false)
  | 1 => ("ElderTurn$Family", "law", "I", false)
  | 2 => ("ElderTurn$Family", "fare", "I", false)
  | 3 => ("ElderTurn$Family", "people", "I", false)
  | 4 => ("ElderTurn$Family", "plans", "I", false)
  | 5 => ("ElderTurn$Family", "buys", "I", false)
  | 6 => ("ElderTurn$Family", "secrets", "I", false)
  | 7 => ("ElderTurn$Family", "hides", "I", false)
  | 8 => ("ElderTurn$Family", "diaries", "I", false)
  | 9 => ("ElderTurn$Family", "person", "[[I", true)
  | 10 => ("ElderTurn$Family", "plan", "[[I", true)
  | 11 => ("ElderTurn$Family", "buy", "[[I", true)
  | 12 => ("ElderTurn$Family", "diary", "[[I", true)
  | 13 => ("ElderTurn$Family", "knower", "[I", true)
  | _ => ("ElderTurn$Family", "hidden", "[I", true)
def tyX2 : Nat → FieldType := fun k => match k with
  | 0 => .int
  | 1 => .int
  | 2 => .int
  | 3 => .int
  | 4 => .int
  | 5 => .int
  | 6 => .int
  | 7 => .int
  | 8 => .int
  | 9 => .array (.array .int)
  | 10 => .array (.array .int)
  | 11 => .array (.array .int)
  | 12 => .array (.array .int)
  | 13 => .array .int
  | _ => .array .int
theorem nmX2 : ∀ a, a < 15 → ∀ b, b < 15 → a ≠ b → (TX2 a).2.1 ≠ (TX2 b).2.1 := by decide +kernel
theorem tyX2_ok : ∀ k, k < 15 → parseFieldDescriptor (TX2 k).2.2.1 = some (tyX2 k) := by decide +kernel
def TX3 : u_T := fun k => match k with
  | 0 => ("ElderTurn$Notes", "world", "LElderTurn$World;", true)
  | 1 => ("ElderTurn$Notes", "lying", "I", false)
  | 2 => ("ElderTurn$Notes", "known", "[I", true)
  | _ => ("ElderTurn$Notes", "keptFrom", "[I", true)
def tyX3 : Nat → FieldType := fun k => match k with
  | 0 => .object "ElderTurn$World"
  | 1 => .int
  | 2 => .array .int
  | _ => .array .int
theorem nmX3 : ∀ a, a < 4 → ∀ b, b < 4 → a ≠ b → (TX3 a).2.1 ≠ (TX3 b).2.1 := by decide +kernel
theorem tyX3_ok : ∀ k, k < 4 → parseFieldDescriptor (TX3 k).2.2.1 = some (tyX3 k) := by decide +kernel
def TX4 : u_T := fun k => match k with
  | 0 => ("ElderTurn$Now", "law", "I", false)
  | 1 => ("ElderTurn$Now", "seed", "I", false)
  | 2 => ("ElderTurn$Now", "bought", "I", false)
  | 3 => ("ElderTurn$Now", "dies", "[I", true)
  | _ => ("ElderTurn$Now", "buys", "[I", true)
def tyX4 : Nat → FieldType := fun k => match k with
  | 0 => .int
  | 1 => .int
  | 2 => .int
  | 3 => .array .int
  | _ => .array .int
theorem nmX4 : ∀ a, a < 5 → ∀ b, b < 5 → a ≠ b → (TX4 a).2.1 ≠ (TX4 b).2.1 := by decide +kernel
theorem tyX4_ok : ∀ k, k < 5 → parseFieldDescriptor (TX4 k).2.2.1 = some (tyX4 k) := by decide +kernel
def TX5 : u_T := fun k => match k with
  | 0 => ("ElderTurn$Past", "acts", "I", false)
  | 1 => ("ElderTurn$Past", "marks", "I", false)
  | 2 => ("ElderTurn$Past", "ahead", "[LElderTurn$Now;", true)
  | _ => ("ElderTurn$Past", "marked", "[LElderTurn$Now;", true)
def tyX5 : Nat → FieldType := fun k => match k with
  | 0 => .int
  | 1 => .int
  | 2 => .array (.object "ElderTurn$Now")
  | _ => .array (.object "ElderTurn$Now")
theorem nmX5 : ∀ a, a < 4 → ∀ b, b < 4 → a ≠ b → (TX5 a).2.1 ≠ (TX5 b).2.1 := by decide +kernel
theorem tyX5_ok : ∀ k, k < 4 → parseFieldDescriptor (TX5 k).2.2.1 = some (tyX5 k) := by decide +kernel
def TX6 : u_T := fun k => match k with
  | 0 => ("ElderTurn$Reader", "told", "LElderTurn$Family;", false)
  | 1 => ("ElderTurn$Reader", "wrong", "I", false)
  | 2 => ("ElderTurn$Reader", "place", "I", false)
  | 3 => ("ElderTurn$Reader", "text", "[B", true)
  | 4 => ("ElderTurn$Reader", "taped", "I", false)
  | 5 => ("ElderTurn$Reader", "end", "I", false)
  | 6 => ("ElderTurn$Reader", "at", "I", false)
  | 7 => ("ElderTurn$Reader", "kind", "I", false)
  | 8 => ("ElderTurn$Reader", "start", "I", false)
  | 9 => ("ElderTurn$Reader", "length", "I", false)
  | 10 => ("ElderTurn$Reader", "value", "I", false)
  | 11 => ("ElderTurn$Reader", "latestName", "I", false)
  | 12 => ("ElderTurn$Reader", "names", "I", false)
  | 13 => ("ElderTurn$Reader", "nameStart", "[I", true)
  | 14 => ("ElderTurn$Reader", "nameLength", "[I", true)
  | 15 => ("ElderTurn$Reader", "nameNumber", "[I", true)
  | 16 => ("ElderTurn$Reader", "isSecretName", "[Z", true)
  | _ => ("ElderTurn$Reader", "heads", "[I", true)
def tyX6 : Nat → FieldType := fun k => match k with
  | 0 => .object "ElderTurn$Family"
  | 1 => .int
  | 2 => .int
  | 3 => .array .byte
  | 4 => .int
  | 5 => .int
  | 6 => .int
  | 7 => .int
  | 8 => .int
  | 9 => .int
  | 10 => .int
  | 11 => .int
  | 12 => .int
  | 13 => .array .int
  | 14 => .array .int
  | 15 => .array .int
  | 16 => .array .boolean
  | _ => .array .int
theorem nmX6 : ∀ a, a < 18 → ∀ b, b < 18 → a ≠ b → (TX6 a).2.1 ≠ (TX6 b).2.1 := by decide +kernel
theorem tyX6_ok : ∀ k, k < 18 → parseFieldDescriptor (TX6 k).2.2.1 = some (tyX6 k) := by decide +kernel
def TX7 : u_T := fun k => match k with
  | 0 => ("ElderTurn$Rows", "world", "LElderTurn$World;", true)
  | 1 => ("ElderTurn$Rows", "run", "LElderTurn$Run;", true)
  | 2 => ("ElderTurn$Rows", "notes", "LElderTurn$Notes;", true)
  | 3 => ("ElderTurn$Rows", "wishes", "[I", true)
  | 4 => ("ElderTurn$Rows", "isFound", "[Z", true)
  | 5 => ("ElderTurn$Rows", "leastHarms", "[I", true)
  | 6 => ("ElderTurn$Rows", "bestRows", "[I", true)
  | 7 => ("ElderTurn$Rows", "areChainsFound", "Z", false)
  | _ => ("ElderTurn$Rows", "chains", "[I", true)
def tyX7 : Nat → FieldType := fun k => match k with
  | 0 => .object "ElderTurn$World"
  | 1 => .object "ElderTurn$Run"
  | 2 => .object "ElderTurn$Notes"
  | 3 => .array .int
  | 4 => .array .boolean
  | 5 => .array .int
  | 6 => .array .int
  | 7 => .boolean
  | _ => .array .int
theorem nmX7 : ∀ a, a < 9 → ∀ b, b < 9 → a ≠ b → (TX7 a).2.1 ≠ (TX7 b).2.1 := by decide +kernel
theorem tyX7_ok : ∀ k, k < 9 → parseFieldDescriptor (TX7 k).2.2.1 = some (tyX7 k) := by decide +kernel
def TX8 : u_T := fun k => match k with
  | 0 => ("ElderTurn$Run", "world", "LElderTurn$World;", true)
  | 1 => ("ElderTurn$Run", "law", "I", false)
  | 2 => ("ElderTurn$Run", "seed", "I", false)
  | 3 => ("ElderTurn$Run", "one", "I", false)
  | 4 => ("ElderTurn$Run", "two", "I", false)
  | 5 => ("ElderTurn$Run", "died", "I", false)
  | 6 => ("ElderTurn$Run", "diedLately", "Z", false)
  | 7 => ("ElderTurn$Run", "latest", "I", false)
  | 8 => ("ElderTurn$Run", "harm", "I", false)
  | 9 => ("ElderTurn$Run", "deaths", "I", false)
  | 10 => ("ElderTurn$Run", "empties", "I", false)
  | 11 => ("ElderTurn$Run", "turns", "[I", true)
  | 12 => ("ElderTurn$Run", "strength", "[I", true)
  | 13 => ("ElderTurn$Run", "purse", "[I", true)
  | _ => ("ElderTurn$Run", "elders", "[I", true)
def tyX8 : Nat → FieldType := fun k => match k with
  | 0 => .object "ElderTurn$World"
  | 1 => .int
  | 2 => .int
  | 3 => .int
  | 4 => .int
  | 5 => .int
  | 6 => .boolean
  | 7 => .int
  | 8 => .int
  | 9 => .int
  | 10 => .int
  | 11 => .array .int
  | 12 => .array .int
  | 13 => .array .int
  | _ => .array .int
theorem nmX8 : ∀ a, a < 15 → ∀ b, b < 15 → a ≠ b → (TX8 a).2.1 ≠ (TX8 b).2.1 := by decide +kernel
theorem tyX8_ok : ∀ k, k < 15 → parseFieldDescriptor (TX8 k).2.2.1 = some (tyX8 k) := by decide +kernel
def TX9 : u_T := fun k => match k with
  | 0 => ("ElderTurn$World", "told", "LElderTurn$Family;", false)
  | 1 => ("ElderTurn$World", "now", "LElderTurn$Now;", true)
  | _ => ("ElderTurn$World", "almanac", "LElderTurn$Almanac;", true)
def tyX9 : Nat → FieldType := fun k => match k with
  | 0 => .object "ElderTurn$Family"
  | 1 => .object "ElderTurn$Now"
  | _ => .object "ElderTurn$Almanac"
theorem nmX9 : ∀ a, a < 3 → ∀ b, b < 3 → a ≠ b → (TX9 a).2.1 ≠ (TX9 b).2.1 := by decide +kernel
theorem tyX9_ok : ∀ k, k < 3 → parseFieldDescriptor (TX9 k).2.2.1 = some (tyX9 k) := by decide +kernel
def TX10 : u_T := fun k => match k with
  | 0 => ("ElderTurn", "reader", "LElderTurn$Reader;", true)
  | 1 => ("ElderTurn", "world", "LElderTurn$World;", true)
  | 2 => ("ElderTurn", "past", "LElderTurn$Past;", true)
  | 3 => ("ElderTurn", "annals", "LElderTurn$Annals;", true)
  | 4 => ("ElderTurn", "trial", "LElderTurn$Run;", true)
  | 5 => ("ElderTurn", "rows", "LElderTurn$Rows;", true)
  | 6 => ("ElderTurn", "hasFamily", "Z", false)
  | _ => ("ElderTurn", "trouble", "I", false)
def tyX10 : Nat → FieldType := fun k => match k with
  | 0 => .object "ElderTurn$Reader"
  | 1 => .object "ElderTurn$World"
  | 2 => .object "ElderTurn$Past"
  | 3 => .object "ElderTurn$Annals"
  | 4 => .object "ElderTurn$Run"
  | 5 => .object "ElderTurn$Rows"
  | 6 => .boolean
  | _ => .int
theorem nmX10 : ∀ a, a < 8 → ∀ b, b < 8 → a ≠ b → (TX10 a).2.1 ≠ (TX10 b).2.1 := by decide +kernel
theorem tyX10_ok : ∀ k, k < 8 → parseFieldDescriptor (TX10 k).2.2.1 = some (tyX10 k) := by decide +kernel
def TX11 : u_T := fun k => match k with
  | 0 => ("ElderTurnModel$Family", "years", "I", false)
  | 1 => ("ElderTurnModel$Family", "law", "I", false)
  | 2 => ("ElderTurnModel$Family", "fare", "I", false)
  | 3 => ("ElderTurnModel$Family", "people", "I", false)
  | 4 => ("ElderTurnModel$Family", "plans", "I", false)
  | 5 => ("ElderTurnModel$Family", "buys", "I", false)
  | 6 => ("ElderTurnModel$Family", "secrets", "I", false)
  | 7 => ("ElderTurnModel$Family", "hides", "I", false)
  | 8 => ("ElderTurnModel$Family", "diaries", "I", false)
  | 9 => ("ElderTurnModel$Family", "names", "I", false)
  | 10 => ("ElderTurnModel$Family", "kind", "[I", true)
  | 11 => ("ElderTurnModel$Family", "branch", "[I", true)
  | 12 => ("ElderTurnModel$Family", "born", "[I", true)
  | 13 => ("ElderTurnModel$Family", "strong", "[I", true)
  | 14 => ("ElderTurnModel$Family", "weighs", "[I", true)
  | 15 => ("ElderTurnModel$Family", "frail", "[I", true)
  | 16 => ("ElderTurnModel$Family", "dies", "[I", true)
  | 17 => ("ElderTurnModel$Family", "planOf", "[I", true)
  | 18 => ("ElderTurnModel$Family", "planFrom", "[I", true)
  | 19 => ("ElderTurnModel$Family", "planTo", "[I", true)
  | 20 => ("ElderTurnModel$Family", "planHarm", "[I", true)
  | 21 => ("ElderTurnModel$Family", "buyYear", "[I", true)
  | 22 => ("ElderTurnModel$Family", "buyOne", "[I", true)
  | 23 => ("ElderTurnModel$Family", "buyTwo", "[I", true)
  | 24 => ("ElderTurnModel$Family", "buyPrice", "[I", true)
  | 25 => ("ElderTurnModel$Family", "knows", "[I", true)
  | 26 => ("ElderTurnModel$Family", "hidden", "[I", true)
  | 27 => ("ElderTurnModel$Family", "diaryYear", "[I", true)
  | 28 => ("ElderTurnModel$Family", "diaryWho", "[I", true)
  | 29 => ("ElderTurnModel$Family", "diaryIs", "[Z", true)
  | 30 => ("ElderTurnModel$Family", "name", "[J", true)
  | 31 => ("ElderTurnModel$Family", "isSecret", "[Z", true)
  | _ => ("ElderTurnModel$Family", "numberOf", "[I", true)
def tyX11 : Nat → FieldType := fun k => match k with
  | 0 => .int
  | 1 => .int
  | 2 => .int
  | 3 => .int
  | 4 => .int
  | 5 => .int
  | 6 => .int
  | 7 => .int
  | 8 => .int
  | 9 => .int
  | 10 => .array .int
  | 11 => .array .int
  | 12 => .array .int
  | 13 => .array .int
  | 14 => .array .int
  | 15 => .array .int
  | 16 => .array .int
  | 17 => .array .int
  | 18 => .array .int
  | 19 => .array .int
  | 20 => .array .int
  | 21 => .array .int
  | 22 => .array .int
  | 23 => .array .int
  | 24 => .array .int
  | 25 => .array .int
  | 26 => .array .int
  | 27 => .array .int
  | 28 => .array .int
  | 29 => .array .boolean
  | 30 => .array .long
  | 31 => .array .boolean
  | _ => .array .int
theorem nmX11 : ∀ a, a < 33 → ∀ b, b < 33 → a ≠ b → (TX11 a).2.1 ≠ (TX11 b).2.1 := by decide +kernel
theorem tyX11_ok : ∀ k, k < 33 → parseFieldDescriptor (TX11 k).2.2.1 = some (tyX11 k) := by decide +kernel
def TX12 : u_T := fun k => match k with
  | 0 => ("ElderTurnModel", "thrown", "I", false)
  | 1 => ("ElderTurnModel", "trouble", "I", false)
  | 2 => ("ElderTurnModel", "where", "I", false)
  | 3 => ("ElderTurnModel", "family", "LElderTurnModel$Family;", false)
  | 4 => ("ElderTurnModel", "read", "LElderTurnModel$Family;", false)
  | 5 => ("ElderTurnModel", "tape", "[B", true)
  | 6 => ("ElderTurnModel", "taped", "I", false)
  | 7 => ("ElderTurnModel", "size", "I", false)
  | 8 => ("ElderTurnModel", "spot", "I", false)
  | 9 => ("ElderTurnModel", "sort", "I", false)
  | 10 => ("ElderTurnModel", "place", "I", false)
  | 11 => ("ElderTurnModel", "number", "I", false)
  | 12 => ("ElderTurnModel", "fault", "I", false)
  | 13 => ("ElderTurnModel", "wrongAt", "I", false)
  | 14 => ("ElderTurnModel", "word", "J", false)
  | 15 => ("ElderTurnModel", "v", "[I", true)
  | 16 => ("ElderTurnModel", "past", "[I", true)
  | 17 => ("ElderTurnModel", "kept", "[I", true)
  | 18 => ("ElderTurnModel", "acts", "I", false)
  | 19 => ("ElderTurnModel", "marks", "I", false)
  | 20 => ("ElderTurnModel", "elder", "[I", true)
  | 21 => ("ElderTurnModel", "there", "[I", true)
  | 22 => ("ElderTurnModel", "can", "[I", true)
  | 23 => ("ElderTurnModel", "box", "[I", true)
  | 24 => ("ElderTurnModel", "harmIn", "[I", true)
  | 25 => ("ElderTurnModel", "empty", "[Z", true)
  | 26 => ("ElderTurnModel", "turnsBy", "[I", true)
  | 27 => ("ElderTurnModel", "strongBy", "[I", true)
  | 28 => ("ElderTurnModel", "knowsBy", "[I", true)
  | 29 => ("ElderTurnModel", "keptBy", "[I", true)
  | 30 => ("ElderTurnModel", "turn", "[I", true)
  | 31 => ("ElderTurnModel", "strong", "[I", true)
  | 32 => ("ElderTurnModel", "knowing", "[I", true)
  | 33 => ("ElderTurnModel", "money", "[I", true)
  | 34 => ("ElderTurnModel", "harmed", "[I", true)
  | 35 => ("ElderTurnModel", "dead", "[I", true)
  | 36 => ("ElderTurnModel", "from", "[I", true)
  | 37 => ("ElderTurnModel", "chosen", "[I", true)
  | 38 => ("ElderTurnModel", "lying", "I", false)
  | 39 => ("ElderTurnModel", "seed", "I", false)
  | 40 => ("ElderTurnModel", "law", "I", false)
  | 41 => ("ElderTurnModel", "rows", "I", false)
  | 42 => ("ElderTurnModel", "tradeOne", "I", false)
  | 43 => ("ElderTurnModel", "tradeTwo", "I", false)
  | 44 => ("ElderTurnModel", "died", "I", false)
  | 45 => ("ElderTurnModel", "latest", "I", false)
  | 46 => ("ElderTurnModel", "harms", "I", false)
  | 47 => ("ElderTurnModel", "bestRow", "[I", true)
  | 48 => ("ElderTurnModel", "bestHarm", "I", false)
  | 49 => ("ElderTurnModel", "wantedSecret", "I", false)
  | 50 => ("ElderTurnModel", "wantedOne", "I", false)
  | 51 => ("ElderTurnModel", "found", "Z", false)
  | _ => ("ElderTurnModel", "firstFit", "I", false)
def tyX12 : Nat → FieldType := fun k => match k with
  | 0 => .int
  | 1 => .int
  | 2 => .int
  | 3 => .object "ElderTurnModel$Family"
  | 4 => .object "ElderTurnModel$Family"
  | 5 => .array .byte
  | 6 => .int
  | 7 => .int
  | 8 => .int
  | 9 => .int
  | 10 => .int
  | 11 => .int
  | 12 => .int
  | 13 => .int
  | 14 => .long
  | 15 => .array .int
  | 16 => .array .int
  | 17 => .array .int
  | 18 => .int
  | 19 => .int
  | 20 => .array .int
  | 21 => .array .int
  | 22 => .array .int
  | 23 => .array .int
  | 24 => .array .int
  | 25 => .array .boolean
  | 26 => .array .int
  | 27 => .array .int
  | 28 => .array .int
  | 29 => .array .int
  | 30 => .array .int
  | 31 => .array .int
  | 32 => .array .int
  | 33 => .array .int
  | 34 => .array .int
  | 35 => .array .int
  | 36 => .array .int
  | 37 => .array .int
  | 38 => .int
  | 39 => .int
  | 40 => .int
  | 41 => .int
  | 42 => .int
  | 43 => .int
  | 44 => .int
  | 45 => .int
  | 46 => .int
  | 47 => .array .int
  | 48 => .int
  | 49 => .int
  | 50 => .int
  | 51 => .boolean
  | _ => .int
theorem nmX12 : ∀ a, a < 53 → ∀ b, b < 53 → a ≠ b → (TX12 a).2.1 ≠ (TX12 b).2.1 := by decide +kernel
theorem tyX12_ok : ∀ k, k < 53 → parseFieldDescriptor (TX12 k).2.2.1 = some (tyX12 k) := by decide +kernel
abbrev vwCl : List vw_C := [(RX0, TX0, 4), (RX1, TX1, 10), (RX2, TX2, 15), (RX3, TX3, 4), (RX4, TX4, 5), (RX5, TX5, 4), (RX6, TX6, 18), (RX7, TX7, 9), (RX8, TX8, 15), (RX9, TX9, 3), (RX10, TX10, 8), (RX11, TX11, 33), (RX12, TX12, 53)]
def tyC : Nat → Nat → FieldType := fun ci => match ci with
  | 0 => tyX0
  | 1 => tyX1
  | 2 => tyX2
  | 3 => tyX3
  | 4 => tyX4
  | 5 => tyX5
  | 6 => tyX6
  | 7 => tyX7
  | 8 => tyX8
  | 9 => tyX9
  | 10 => tyX10
  | 11 => tyX11
  | _ => tyX12
def nStr : Nat := 33
def txtStr : List String := ["age", "born", "branch", "buys", "cousin", "diary", "dies", "eldest", "family", "fare", "frail", "harm", "hides", "keen", "law", "left", "lot", "not", "person", "plain", "plan", "price", "right", "round", "secret", "soldier", "strong", "to", "twin", "vote", "weighs", "years", "youngest"]
def lenStr : List Nat := [3, 4, 6, 4, 6, 5, 4, 6, 6, 4, 5, 4, 5, 4, 3, 4, 3, 3, 6, 5, 4, 5, 5, 5, 6, 7, 6, 2, 4, 4, 6, 5, 8]
def bytStr : List (List Int32) := [[97, 103, 101], [98, 111, 114, 110], [98, 114, 97, 110, 99, 104], [98, 117, 121, 115], [99, 111, 117, 115, 105, 110], [100, 105, 97, 114, 121], [100, 105, 101, 115], [101, 108, 100, 101, 115, 116], [102, 97, 109, 105, 108, 121], [102, 97, 114, 101], [102, 114, 97, 105, 108], [104, 97, 114, 109], [104, 105, 100, 101, 115], [107, 101, 101, 110], [108, 97, 119], [108, 101, 102, 116], [108, 111, 116], [110, 111, 116], [112, 101, 114, 115, 111, 110], [112, 108, 97, 105, 110], [112, 108, 97, 110], [112, 114, 105, 99, 101], [114, 105, 103, 104, 116], [114, 111, 117, 110, 100], [115, 101, 99, 114, 101, 116], [115, 111, 108, 100, 105, 101, 114], [115, 116, 114, 111, 110, 103], [116, 111], [116, 119, 105, 110], [118, 111, 116, 101], [119, 101, 105, 103, 104, 115], [121, 101, 97, 114, 115], [121, 111, 117, 110, 103, 101, 115, 116]]
/-- the links of literals: class, entry, text, its place -/
def strL : List (String × Nat × String × Nat) := [("ElderTurn$Reader", 125, "family", 8), ("ElderTurn$Reader", 127, "person", 18), ("ElderTurn$Reader", 129, "plan", 20), ("ElderTurn$Reader", 131, "dies", 6), ("ElderTurn$Reader", 133, "buys", 3), ("ElderTurn$Reader", 135, "secret", 24), ("ElderTurn$Reader", 137, "hides", 12), ("ElderTurn$Reader", 139, "diary", 5), ("ElderTurn$Reader", 141, "not", 17), ("ElderTurn$Reader", 198, "years", 31), ("ElderTurn$Reader", 206, "law", 14), ("ElderTurn$Reader", 215, "fare", 9), ("ElderTurn$Reader", 221, "round", 23), ("ElderTurn$Reader", 223, "eldest", 7), ("ElderTurn$Reader", 225, "youngest", 32), ("ElderTurn$Reader", 227, "lot", 16), ("ElderTurn$Reader", 229, "vote", 29), ("ElderTurn$Reader", 238, "branch", 2), ("ElderTurn$Reader", 246, "strong", 26), ("ElderTurn$Reader", 248, "weighs", 30), ("ElderTurn$Reader", 250, "frail", 10), ("ElderTurn$Reader", 252, "plain", 19), ("ElderTurn$Reader", 254, "soldier", 25), ("ElderTurn$Reader", 256, "cousin", 4), ("ElderTurn$Reader", 258, "twin", 28), ("ElderTurn$Reader", 260, "keen", 13), ("ElderTurn$Reader", 262, "left", 15), ("ElderTurn$Reader", 264, "right", 22), ("ElderTurn$Reader", 266, "age", 0), ("ElderTurn$Reader", 268, "born", 1), ("ElderTurn$Reader", 274, "to", 27), ("ElderTurn$Reader", 276, "harm", 11), ("ElderTurn$Reader", 281, "price", 21), ("ElderTurnModel", 181, "family", 8), ("ElderTurnModel", 183, "person", 18), ("ElderTurnModel", 185, "plan", 20), ("ElderTurnModel", 187, "dies", 6), ("ElderTurnModel", 189, "buys", 3), ("ElderTurnModel", 191, "secret", 24), ("ElderTurnModel", 193, "hides", 12), ("ElderTurnModel", 195, "diary", 5), ("ElderTurnModel", 197, "not", 17), ("ElderTurnModel", 258, "years", 31), ("ElderTurnModel", 263, "law", 14), ("ElderTurnModel", 265, "round", 23), ("ElderTurnModel", 267, "eldest", 7), ("ElderTurnModel", 269, "youngest", 32), ("ElderTurnModel", 271, "lot", 16), ("ElderTurnModel", 273, "vote", 29), ("ElderTurnModel", 275, "fare", 9), ("ElderTurnModel", 281, "plain", 19), ("ElderTurnModel", 283, "soldier", 25), ("ElderTurnModel", 285, "cousin", 4), ("ElderTurnModel", 287, "twin", 28), ("ElderTurnModel", 289, "keen", 13), ("ElderTurnModel", 302, "branch", 2), ("ElderTurnModel", 304, "right", 22), ("ElderTurnModel", 306, "left", 15), ("ElderTurnModel", 308, "born", 1), ("ElderTurnModel", 310, "age", 0), ("ElderTurnModel", 315, "strong", 26), ("ElderTurnModel", 316, "weighs", 30), ("ElderTurnModel", 318, "frail", 10), ("ElderTurnModel", 343, "to", 27), ("ElderTurnModel", 345, "harm", 11), ("ElderTurnModel", 361, "price", 21)]
def nwF : List (String × Nat × String × String × String × String) := [("ElderTurnModel", 176, "ElderTurnModel$Family", "years", "I", "ElderTurnModel"), ("ElderTurnModel", 207, "ElderTurnModel$Family", "name", "[J", "ElderTurnModel"), ("ElderTurnModel", 211, "ElderTurnModel$Family", "names", "I", "ElderTurnModel"), ("ElderTurnModel", 214, "ElderTurnModel$Family", "isSecret", "[Z", "ElderTurnModel"), ("ElderTurnModel", 217, "ElderTurnModel$Family", "numberOf", "[I", "ElderTurnModel"), ("ElderTurnModel", 230, "ElderTurnModel$Family", "people", "I", "ElderTurnModel"), ("ElderTurnModel", 277, "ElderTurnModel$Family", "law", "I", "ElderTurnModel"), ("ElderTurnModel", 279, "ElderTurnModel$Family", "fare", "I", "ElderTurnModel"), ("ElderTurnModel", 323, "ElderTurnModel$Family", "kind", "[I", "ElderTurnModel"), ("ElderTurnModel", 326, "ElderTurnModel$Family", "branch", "[I", "ElderTurnModel"), ("ElderTurnModel", 328, "ElderTurnModel$Family", "born", "[I", "ElderTurnModel"), ("ElderTurnModel", 330, "ElderTurnModel$Family", "strong", "[I", "ElderTurnModel"), ("ElderTurnModel", 331, "ElderTurnModel$Family", "weighs", "[I", "ElderTurnModel"), ("ElderTurnModel", 333, "ElderTurnModel$Family", "frail", "[I", "ElderTurnModel"), ("ElderTurnModel", 335, "ElderTurnModel$Family", "dies", "[I", "ElderTurnModel"), ("ElderTurnModel", 337, "ElderTurnModel$Family", "plans", "I", "ElderTurnModel"), ("ElderTurnModel", 347, "ElderTurnModel$Family", "planOf", "[I", "ElderTurnModel"), ("ElderTurnModel", 350, "ElderTurnModel$Family", "planFrom", "[I", "ElderTurnModel"), ("ElderTurnModel", 353, "ElderTurnModel$Family", "planTo", "[I", "ElderTurnModel"), ("ElderTurnModel", 356, "ElderTurnModel$Family", "planHarm", "[I", "ElderTurnModel"), ("ElderTurnModel", 359, "ElderTurnModel$Family", "buys", "I", "ElderTurnModel"), ("ElderTurnModel", 363, "ElderTurnModel$Family", "buyYear", "[I", "ElderTurnModel"), ("ElderTurnModel", 366, "ElderTurnModel$Family", "buyOne", "[I", "ElderTurnModel"), ("ElderTurnModel", 369, "ElderTurnModel$Family", "buyTwo", "[I", "ElderTurnModel"), ("ElderTurnModel", 372, "ElderTurnModel$Family", "buyPrice", "[I", "ElderTurnModel"), ("ElderTurnModel", 375, "ElderTurnModel$Family", "secrets", "I", "ElderTurnModel"), ("ElderTurnModel", 378, "ElderTurnModel$Family", "knows", "[I", "ElderTurnModel"), ("ElderTurnModel", 381, "ElderTurnModel$Family", "hides", "I", "ElderTurnModel"), ("ElderTurnModel", 383, "ElderTurnModel$Family", "hidden", "[I", "ElderTurnModel"), ("ElderTurnModel", 390, "ElderTurnModel$Family", "diaries", "I", "ElderTurnModel"), ("ElderTurnModel", 393, "ElderTurnModel$Family", "diaryYear", "[I", "ElderTurnModel"), ("ElderTurnModel", 396, "ElderTurnModel$Family", "diaryWho", "[I", "ElderTurnModel"), ("ElderTurnModel", 399, "ElderTurnModel$Family", "diaryIs", "[Z", "ElderTurnModel")]
def nwM : List (String × Nat × MethodName × String) := [("ElderTurn", 11, ⟨"ElderTurn$Reader", "<init>", "()V"⟩, "ElderTurn"), ("ElderTurn", 18, ⟨"ElderTurn$World", "<init>", "()V"⟩, "ElderTurn"), ("ElderTurn$Annals", 125, ⟨"ElderTurn", "has", "(II)Z"⟩, "ElderTurn"), ("ElderTurn$Notes", 47, ⟨"ElderTurn", "has", "(II)Z"⟩, "ElderTurn"), ("ElderTurn$Past", 27, ⟨"ElderTurn$Now", "<init>", "()V"⟩, "ElderTurn"), ("ElderTurn$Reader", 11, ⟨"ElderTurn$Family", "<init>", "()V"⟩, "ElderTurn"), ("ElderTurn$Reader", 289, ⟨"ElderTurn", "has", "(II)Z"⟩, "ElderTurn"), ("ElderTurn$Rows", 126, ⟨"ElderTurn", "has", "(II)Z"⟩, "ElderTurn"), ("ElderTurn$Run", 115, ⟨"ElderTurn", "has", "(II)Z"⟩, "ElderTurn"), ("ElderTurn$World", 9, ⟨"ElderTurn$Family", "<init>", "()V"⟩, "ElderTurn"), ("ElderTurn$World", 18, ⟨"ElderTurn$Now", "<init>", "()V"⟩, "ElderTurn"), ("ElderTurn$World", 25, ⟨"ElderTurn$Almanac", "<init>", "()V"⟩, "ElderTurn"), ("ElderTurnModel", 405, ⟨"ElderTurnModel$Family", "<init>", "()V"⟩, "ElderTurnModel")]
/-- the words that every method has: those of the tables that a call keeps -/
def tb : List Cond := lw_tbl.filter goodWord
theorem tb_in {w : Cond} (h : w ∈ tb) : w ∈ lw_tbl := (List.mem_filter.mp h).1
theorem tb_good {w : Cond} (h : w ∈ tb) : goodWord w = true := (List.mem_filter.mp h).2
theorem tb_at {w : Cond} (i : Nat) (h : lw_tbl[i]? = some w) (hg : goodWord w = true) : w ∈ tb := List.mem_filter.mpr ⟨List.mem_of_getElem? h, hg⟩
theorem tb_us {ws : List Cond} (ps : List Nat) (h : ws = ps.filterMap (fun i => lw_tbl[i]?)) (hg : ws.all goodWord = true) : ∀ w ∈ ws, w ∈ tb := by
  intro w hw
  have h1 := List.all_eq_true.mp hg w hw
  rw [h] at hw
  obtain ⟨i, -, hi⟩ := List.mem_filterMap.mp hw
  exact tb_at i hi h1
set_option maxRecDepth 100000 in
theorem inX0 : ∀ w ∈ u_ws RX0 TX0 4, w ∈ tb := tb_us [394, 396, 398, 400] (by decide +kernel) (by decide +kernel)
set_option maxRecDepth 100000 in
theorem inX1 : ∀ w ∈ u_ws RX1 TX1 10, w ∈ tb := tb_us [562, 564, 566, 568, 570, 572, 574, 576, 578, 580] (by decide +kernel) (by decide +kernel)
set_option maxRecDepth 100000 in
theorem inX2 : ∀ w ∈ u_ws RX2 TX2 15, w ∈ tb := tb_us [245, 247, 249, 251, 253, 255, 257, 259, 261, 263, 265, 267, 269, 271, 273] (by decide +kernel) (by decide +kernel)
set_option maxRecDepth 100000 in
theorem inX3 : ∀ w ∈ u_ws RX3 TX3 4, w ∈ tb := tb_us [535, 537, 539, 541] (by decide +kernel) (by decide +kernel)
set_option maxRecDepth 100000 in
theorem inX4 : ∀ w ∈ u_ws RX4 TX4 5, w ∈ tb := tb_us [368, 370, 372, 374, 376] (by decide +kernel) (by decide +kernel)
set_option maxRecDepth 100000 in
theorem inX5 : ∀ w ∈ u_ws RX5 TX5 4, w ∈ tb := tb_us [439, 441, 443, 445] (by decide +kernel) (by decide +kernel)
set_option maxRecDepth 100000 in
theorem inX6 : ∀ w ∈ u_ws RX6 TX6 18, w ∈ tb := tb_us [299, 301, 303, 305, 307, 309, 311, 313, 315, 317, 319, 321, 323, 325, 327, 329, 331, 333] (by decide +kernel) (by decide +kernel)
set_option maxRecDepth 100000 in
theorem inX7 : ∀ w ∈ u_ws RX7 TX7 9, w ∈ tb := tb_us [606, 608, 610, 612, 614, 616, 618, 620, 622] (by decide +kernel) (by decide +kernel)
set_option maxRecDepth 100000 in
theorem inX8 : ∀ w ∈ u_ws RX8 TX8 15, w ∈ tb := tb_us [490, 492, 494, 496, 498, 500, 502, 504, 506, 508, 510, 512, 514, 516, 518] (by decide +kernel) (by decide +kernel)
set_option maxRecDepth 100000 in
theorem inX9 : ∀ w ∈ u_ws RX9 TX9 3, w ∈ tb := tb_us [417, 419, 421] (by decide +kernel) (by decide +kernel)
set_option maxRecDepth 100000 in
theorem inX10 : ∀ w ∈ u_ws RX10 TX10 8, w ∈ tb := tb_us [633, 635, 637, 639, 641, 643, 645, 647] (by decide +kernel) (by decide +kernel)
set_option maxRecDepth 100000 in
theorem inX11 : ∀ w ∈ u_ws RX11 TX11 33, w ∈ tb := tb_us [1695, 1697, 1699, 1701, 1703, 1705, 1707, 1709, 1711, 1713, 1715, 1717, 1719, 1721, 1723, 1725, 1727, 1729, 1731, 1733, 1735, 1737, 1739, 1741, 1743, 1745, 1747, 1749, 1751, 1753, 1755, 1757, 1759] (by decide +kernel) (by decide +kernel)
set_option maxRecDepth 100000 in
theorem inX12 : ∀ w ∈ u_ws RX12 TX12 53, w ∈ tb := tb_us [1509, 1511, 1513, 1515, 1517, 1519, 1521, 1523, 1525, 1527, 1529, 1531, 1533, 1535, 1537, 1539, 1541, 1543, 1545, 1547, 1549, 1551, 1553, 1555, 1557, 1559, 1561, 1563, 1565, 1567, 1569, 1571, 1573, 1575, 1577, 1579, 1581, 1583, 1585, 1587, 1589, 1591, 1593, 1595, 1597, 1599, 1601, 1603, 1605, 1607, 1609, 1611, 1613] (by decide +kernel) (by decide +kernel)
/-- a class of the list: its fields' words, types and names -/
def clOk (ci : Nat) (q : vw_C) : Prop := (∀ w ∈ u_ws q.1 q.2.1 q.2.2, w ∈ tb) ∧ (∀ k, k < q.2.2 → parseFieldDescriptor (q.2.1 k).2.2.1 = some (tyC ci k)) ∧ (∀ a, a < q.2.2 → ∀ b, b < q.2.2 → a ≠ b → (q.2.1 a).2.1 ≠ (q.2.1 b).2.1)
theorem clOk_all : ∀ (ci : Nat) (q : vw_C), vwCl[ci]? = some q → clOk ci q := by
  intro ci q h
  match ci, h with
  | 0, h => cases h; exact ⟨inX0, tyX0_ok, nmX0⟩
  | 1, h => cases h; exact ⟨inX1, tyX1_ok, nmX1⟩
  | 2, h => cases h; exact ⟨inX2, tyX2_ok, nmX2⟩
  | 3, h => cases h; exact ⟨inX3, tyX3_ok, nmX3⟩
  | 4, h => cases h; exact ⟨inX4, tyX4_ok, nmX4⟩
  | 5, h => cases h; exact ⟨inX5, tyX5_ok, nmX5⟩
  | 6, h => cases h; exact ⟨inX6, tyX6_ok, nmX6⟩
  | 7, h => cases h; exact ⟨inX7, tyX7_ok, nmX7⟩
  | 8, h => cases h; exact ⟨inX8, tyX8_ok, nmX8⟩
  | 9, h => cases h; exact ⟨inX9, tyX9_ok, nmX9⟩
  | 10, h => cases h; exact ⟨inX10, tyX10_ok, nmX10⟩
  | 11, h => cases h; exact ⟨inX11, tyX11_ok, nmX11⟩
  | 12, h => cases h; exact ⟨inX12, tyX12_ok, nmX12⟩
  | n + 13, h => simp [vwCl] at h
