def RX0 : String := "EarTown$Book"
def TX0 : u_T := fun k => match k with
  | 0 => ("EarTown$Book", "acts", "[I", true)
  | 1 => ("EarTown$Book", "firsts", "[I", true)
  | 2 => ("EarTown$Book", "seconds", "[I", true)
  | 3 => ("EarTown$Book", "thirds", "[I", true)
  | 4 => ("EarTown$Book", "lines", "I", false)
  | 5 => ("EarTown$Book", "lived", "Z", false)
  | 6 => ("EarTown$Book", "wrongWhy", "I", false)
  | 7 => ("EarTown$Book", "ahead", "I", false)
  | 8 => ("EarTown$Book", "hoursHeard", "I", false)
  | _ => ("EarTown$Book", "ringsStruck", "I", false)
def tyX0 : Nat → FieldType := fun k => match k with
  | 0 => .array .int
  | 1 => .array .int
  | 2 => .array .int
  | 3 => .array .int
  | 4 => .int
  | 5 => .boolean
  | 6 => .int
  | 7 => .int
  | 8 => .int
  | _ => .int
theorem nmX0 : ∀ a, a < 10 → ∀ b, b < 10 → a ≠ b → (TX0 a).2.1 ≠ (TX0 b).2.1 := by decide +kernel
theorem tyX0_ok : ∀ k, k < 10 → parseFieldDescriptor (TX0 k).2.2.1 = some (tyX0 k) := by decide +kernel
def RX1 : String := "EarTown$Charter"
def TX1 : u_T := fun k => match k with
  | 0 => ("EarTown$Charter", "names", "[J", true)
  | 1 => ("EarTown$Charter", "ears", "[I", true)
  | 2 => ("EarTown$Charter", "grows", "[I", true)
  | 3 => ("EarTown$Charter", "titles", "[J", true)
  | 4 => ("EarTown$Charter", "owners", "[I", true)
  | 5 => ("EarTown$Charter", "worths", "[I", true)
  | 6 => ("EarTown$Charter", "falls", "[I", true)
  | 7 => ("EarTown$Charter", "persons", "I", false)
  | 8 => ("EarTown$Charter", "stories", "I", false)
  | 9 => ("EarTown$Charter", "free", "I", false)
  | 10 => ("EarTown$Charter", "fake", "I", false)
  | 11 => ("EarTown$Charter", "gift", "I", false)
  | _ => ("EarTown$Charter", "ruin", "I", false)
def tyX1 : Nat → FieldType := fun k => match k with
  | 0 => .array .long
  | 1 => .array .int
  | 2 => .array .int
  | 3 => .array .long
  | 4 => .array .int
  | 5 => .array .int
  | 6 => .array .int
  | 7 => .int
  | 8 => .int
  | 9 => .int
  | 10 => .int
  | 11 => .int
  | _ => .int
theorem nmX1 : ∀ a, a < 13 → ∀ b, b < 13 → a ≠ b → (TX1 a).2.1 ≠ (TX1 b).2.1 := by decide +kernel
theorem tyX1_ok : ∀ k, k < 13 → parseFieldDescriptor (TX1 k).2.2.1 = some (tyX1 k) := by decide +kernel
def RX2 : String := "EarTown$Hours"
def TX2 : u_T := fun k => match k with
  | 0 => ("EarTown$Hours", "pairs", "[I", true)
  | 1 => ("EarTown$Hours", "best", "[I", true)
  | 2 => ("EarTown$Hours", "most", "I", false)
  | _ => ("EarTown$Hours", "persons", "I", false)
def tyX2 : Nat → FieldType := fun k => match k with
  | 0 => .array .int
  | 1 => .array .int
  | 2 => .int
  | _ => .int
theorem nmX2 : ∀ a, a < 4 → ∀ b, b < 4 → a ≠ b → (TX2 a).2.1 ≠ (TX2 b).2.1 := by decide +kernel
theorem tyX2_ok : ∀ k, k < 4 → parseFieldDescriptor (TX2 k).2.2.1 = some (tyX2 k) := by decide +kernel
def RX3 : String := "EarTown$Life"
def TX3 : u_T := fun k => match k with
  | 0 => ("EarTown$Life", "charter", "LEarTown$Charter;", true)
  | 1 => ("EarTown$Life", "needs", "[I", true)
  | 2 => ("EarTown$Life", "left", "[I", true)
  | 3 => ("EarTown$Life", "heard", "[I", true)
  | 4 => ("EarTown$Life", "beenHeard", "[I", true)
  | 5 => ("EarTown$Life", "notes", "[I", true)
  | 6 => ("EarTown$Life", "times", "[I", true)
  | 7 => ("EarTown$Life", "knowers", "[I", true)
  | 8 => ("EarTown$Life", "row", "[I", true)
  | 9 => ("EarTown$Life", "ruined", "I", false)
  | 10 => ("EarTown$Life", "day", "I", false)
  | 11 => ("EarTown$Life", "counterfeit", "I", false)
  | 12 => ("EarTown$Life", "struckOut", "I", false)
  | _ => ("EarTown$Life", "hearings", "I", false)
def tyX3 : Nat → FieldType := fun k => match k with
  | 0 => .object "EarTown$Charter"
  | 1 => .array .int
  | 2 => .array .int
  | 3 => .array .int
  | 4 => .array .int
  | 5 => .array .int
  | 6 => .array .int
  | 7 => .array .int
  | 8 => .array .int
  | 9 => .int
  | 10 => .int
  | 11 => .int
  | 12 => .int
  | _ => .int
theorem nmX3 : ∀ a, a < 14 → ∀ b, b < 14 → a ≠ b → (TX3 a).2.1 ≠ (TX3 b).2.1 := by decide +kernel
theorem tyX3_ok : ∀ k, k < 14 → parseFieldDescriptor (TX3 k).2.2.1 = some (tyX3 k) := by decide +kernel
def RX4 : String := "EarTown$Market"
def TX4 : u_T := fun k => match k with
  | 0 => ("EarTown$Market", "asked", "[I", true)
  | 1 => ("EarTown$Market", "wanted", "[I", true)
  | 2 => ("EarTown$Market", "hours", "[I", true)
  | _ => ("EarTown$Market", "persons", "I", false)
def tyX4 : Nat → FieldType := fun k => match k with
  | 0 => .array .int
  | 1 => .array .int
  | 2 => .array .int
  | _ => .int
theorem nmX4 : ∀ a, a < 4 → ∀ b, b < 4 → a ≠ b → (TX4 a).2.1 ≠ (TX4 b).2.1 := by decide +kernel
theorem tyX4_ok : ∀ k, k < 4 → parseFieldDescriptor (TX4 k).2.2.1 = some (tyX4 k) := by decide +kernel
def RX5 : String := "EarTown$Past"
def TX5 : u_T := fun k => match k with
  | 0 => ("EarTown$Past", "lives", "[LEarTown$Life;", true)
  | 1 => ("EarTown$Past", "oldest", "I", false)
  | _ => ("EarTown$Past", "size", "I", false)
def tyX5 : Nat → FieldType := fun k => match k with
  | 0 => .array (.object "EarTown$Life")
  | 1 => .int
  | _ => .int
theorem nmX5 : ∀ a, a < 3 → ∀ b, b < 3 → a ≠ b → (TX5 a).2.1 ≠ (TX5 b).2.1 := by decide +kernel
theorem tyX5_ok : ∀ k, k < 3 → parseFieldDescriptor (TX5 k).2.2.1 = some (tyX5 k) := by decide +kernel
def RX6 : String := "EarTown$Place"
def TX6 : u_T := fun k => match k with
  | 0 => ("EarTown$Place", "charter", "LEarTown$Charter;", true)
  | 1 => ("EarTown$Place", "life", "LEarTown$Life;", true)
  | _ => ("EarTown$Place", "sentence", "LEarTown$Sentence;", true)
def tyX6 : Nat → FieldType := fun k => match k with
  | 0 => .object "EarTown$Charter"
  | 1 => .object "EarTown$Life"
  | _ => .object "EarTown$Sentence"
theorem nmX6 : ∀ a, a < 3 → ∀ b, b < 3 → a ≠ b → (TX6 a).2.1 ≠ (TX6 b).2.1 := by decide +kernel
theorem tyX6_ok : ∀ k, k < 3 → parseFieldDescriptor (TX6 k).2.2.1 = some (tyX6 k) := by decide +kernel
def RX7 : String := "EarTown$Reader"
def TX7 : u_T := fun k => match k with
  | 0 => ("EarTown$Reader", "text", "[B", false)
  | 1 => ("EarTown$Reader", "size", "I", false)
  | 2 => ("EarTown$Reader", "limit", "I", false)
  | 3 => ("EarTown$Reader", "after", "I", false)
  | 4 => ("EarTown$Reader", "kind", "I", false)
  | 5 => ("EarTown$Reader", "place", "I", false)
  | 6 => ("EarTown$Reader", "number", "I", false)
  | 7 => ("EarTown$Reader", "word", "J", false)
  | 8 => ("EarTown$Reader", "key", "I", false)
  | _ => ("EarTown$Reader", "fault", "I", false)
def tyX7 : Nat → FieldType := fun k => match k with
  | 0 => .array .byte
  | 1 => .int
  | 2 => .int
  | 3 => .int
  | 4 => .int
  | 5 => .int
  | 6 => .int
  | 7 => .long
  | 8 => .int
  | _ => .int
theorem nmX7 : ∀ a, a < 10 → ∀ b, b < 10 → a ≠ b → (TX7 a).2.1 ≠ (TX7 b).2.1 := by decide +kernel
theorem tyX7_ok : ∀ k, k < 10 → parseFieldDescriptor (TX7 k).2.2.1 = some (tyX7 k) := by decide +kernel
def RX8 : String := "EarTown$Sentence"
def TX8 : u_T := fun k => match k with
  | 0 => ("EarTown$Sentence", "keys", "[I", true)
  | 1 => ("EarTown$Sentence", "signs", "[I", true)
  | 2 => ("EarTown$Sentence", "numbers", "[I", true)
  | 3 => ("EarTown$Sentence", "sets", "[I", true)
  | 4 => ("EarTown$Sentence", "steps", "I", false)
  | _ => ("EarTown$Sentence", "ones", "I", false)
def tyX8 : Nat → FieldType := fun k => match k with
  | 0 => .array .int
  | 1 => .array .int
  | 2 => .array .int
  | 3 => .array .int
  | 4 => .int
  | _ => .int
theorem nmX8 : ∀ a, a < 6 → ∀ b, b < 6 → a ≠ b → (TX8 a).2.1 ≠ (TX8 b).2.1 := by decide +kernel
theorem tyX8_ok : ∀ k, k < 6 → parseFieldDescriptor (TX8 k).2.2.1 = some (tyX8 k) := by decide +kernel
def RX9 : String := "EarTown$TalkSets"
def TX9 : u_T := fun k => match k with
  | 0 => ("EarTown$TalkSets", "rest", "[I", true)
  | 1 => ("EarTown$TalkSets", "chosen", "[I", true)
  | 2 => ("EarTown$TalkSets", "first", "[I", true)
  | 3 => ("EarTown$TalkSets", "firstSize", "I", false)
  | 4 => ("EarTown$TalkSets", "firstPersons", "I", false)
  | 5 => ("EarTown$TalkSets", "persons", "I", false)
  | _ => ("EarTown$TalkSets", "found", "I", false)
def tyX9 : Nat → FieldType := fun k => match k with
  | 0 => .array .int
  | 1 => .array .int
  | 2 => .array .int
  | 3 => .int
  | 4 => .int
  | 5 => .int
  | _ => .int
theorem nmX9 : ∀ a, a < 7 → ∀ b, b < 7 → a ≠ b → (TX9 a).2.1 ≠ (TX9 b).2.1 := by decide +kernel
theorem tyX9_ok : ∀ k, k < 7 → parseFieldDescriptor (TX9 k).2.2.1 = some (tyX9 k) := by decide +kernel
def RX10 : String := "EarTown$TownReader"
def TX10 : u_T := fun k => match k with
  | 0 => ("EarTown$TownReader", "giftTold", "Z", false)
  | _ => ("EarTown$TownReader", "ruinTold", "Z", false)
def tyX10 : Nat → FieldType := fun k => match k with
  | 0 => .boolean
  | _ => .boolean
theorem nmX10 : ∀ a, a < 2 → ∀ b, b < 2 → a ≠ b → (TX10 a).2.1 ≠ (TX10 b).2.1 := by decide +kernel
theorem tyX10_ok : ∀ k, k < 2 → parseFieldDescriptor (TX10 k).2.2.1 = some (tyX10 k) := by decide +kernel
def RX11 : String := "EarTown"
def TX11 : u_T := fun k => match k with
  | 0 => ("EarTown", "tape", "[B", true)
  | 1 => ("EarTown", "reader", "LEarTown$Reader;", true)
  | 2 => ("EarTown", "townReader", "LEarTown$TownReader;", true)
  | 3 => ("EarTown", "here", "LEarTown$Place;", true)
  | 4 => ("EarTown", "draft", "LEarTown$Place;", true)
  | 5 => ("EarTown", "images", "[LEarTown$Place;", true)
  | 6 => ("EarTown", "kept", "[Z", true)
  | 7 => ("EarTown", "trial", "LEarTown$Life;", true)
  | 8 => ("EarTown", "past", "LEarTown$Past;", true)
  | 9 => ("EarTown", "latestBook", "LEarTown$Book;", true)
  | 10 => ("EarTown", "hours", "LEarTown$Hours;", true)
  | 11 => ("EarTown", "market", "LEarTown$Market;", true)
  | 12 => ("EarTown", "talkSets", "LEarTown$TalkSets;", true)
  | 13 => ("EarTown", "ringRow", "[I", true)
  | 14 => ("EarTown", "ringSize", "I", false)
  | 15 => ("EarTown", "tapeSize", "I", false)
  | 16 => ("EarTown", "lastFault", "I", false)
  | _ => ("EarTown", "lastStruck", "I", false)
def tyX11 : Nat → FieldType := fun k => match k with
  | 0 => .array .byte
  | 1 => .object "EarTown$Reader"
  | 2 => .object "EarTown$TownReader"
  | 3 => .object "EarTown$Place"
  | 4 => .object "EarTown$Place"
  | 5 => .array (.object "EarTown$Place")
  | 6 => .array .boolean
  | 7 => .object "EarTown$Life"
  | 8 => .object "EarTown$Past"
  | 9 => .object "EarTown$Book"
  | 10 => .object "EarTown$Hours"
  | 11 => .object "EarTown$Market"
  | 12 => .object "EarTown$TalkSets"
  | 13 => .array .int
  | 14 => .int
  | 15 => .int
  | 16 => .int
  | _ => .int
theorem nmX11 : ∀ a, a < 18 → ∀ b, b < 18 → a ≠ b → (TX11 a).2.1 ≠ (TX11 b).2.1 := by decide +kernel
theorem tyX11_ok : ∀ k, k < 18 → parseFieldDescriptor (TX11 k).2.2.1 = some (tyX11 k) := by decide +kernel
def RX12 : String := "EarTownModel"
def TX12 : u_T := fun k => match k with
  | 0 => ("EarTownModel", "thrown", "I", false)
  | 1 => ("EarTownModel", "tape", "[B", true)
  | 2 => ("EarTownModel", "length", "I", false)
  | 3 => ("EarTownModel", "size", "I", false)
  | 4 => ("EarTownModel", "p", "I", false)
  | 5 => ("EarTownModel", "limit", "I", false)
  | 6 => ("EarTownModel", "s", "[I", true)
  | 7 => ("EarTownModel", "h", "[I", true)
  | 8 => ("EarTownModel", "read", "[I", true)
  | 9 => ("EarTownModel", "names", "[J", true)
  | 10 => ("EarTownModel", "reserved", "[J", true)
  | 11 => ("EarTownModel", "token", "I", false)
  | 12 => ("EarTownModel", "at", "I", false)
  | 13 => ("EarTownModel", "span", "I", false)
  | 14 => ("EarTownModel", "number", "I", false)
  | 15 => ("EarTownModel", "fault", "I", false)
  | 16 => ("EarTownModel", "faultAt", "I", false)
  | 17 => ("EarTownModel", "word", "J", false)
  | 18 => ("EarTownModel", "got", "I", false)
  | 19 => ("EarTownModel", "lines", "I", false)
  | 20 => ("EarTownModel", "hasGift", "Z", false)
  | 21 => ("EarTownModel", "hasRuin", "Z", false)
  | 22 => ("EarTownModel", "row", "[I", true)
  | 23 => ("EarTownModel", "ringRow", "[I", true)
  | 24 => ("EarTownModel", "ringMany", "I", false)
  | 25 => ("EarTownModel", "struckHours", "I", false)
  | 26 => ("EarTownModel", "undone", "[I", true)
  | 27 => ("EarTownModel", "before", "[I", true)
  | 28 => ("EarTownModel", "undoMany", "I", false)
  | 29 => ("EarTownModel", "hasStruck", "Z", false)
  | 30 => ("EarTownModel", "struckLast", "I", false)
  | 31 => ("EarTownModel", "how", "[I", true)
  | 32 => ("EarTownModel", "mate", "[I", true)
  | 33 => ("EarTownModel", "hourBest", "[I", true)
  | 34 => ("EarTownModel", "hourPeople", "I", false)
  | 35 => ("EarTownModel", "price", "[I", true)
  | 36 => ("EarTownModel", "wants", "[I", true)
  | 37 => ("EarTownModel", "asked", "[I", true)
  | 38 => ("EarTownModel", "pricePeople", "I", false)
  | 39 => ("EarTownModel", "hearer", "[I", true)
  | 40 => ("EarTownModel", "whom", "[I", true)
  | 41 => ("EarTownModel", "hours", "[I", true)
  | 42 => ("EarTownModel", "balance", "[I", true)
  | 43 => ("EarTownModel", "talkRow", "[I", true)
  | 44 => ("EarTownModel", "talkMany", "I", false)
  | 45 => ("EarTownModel", "tellings", "I", false)
  | 46 => ("EarTownModel", "found", "I", false)
  | 47 => ("EarTownModel", "talkHears", "[I", true)
  | 48 => ("EarTownModel", "talkWhom", "[I", true)
  | 49 => ("EarTownModel", "talkHours", "[I", true)
  | 50 => ("EarTownModel", "seed", "I", false)
  | 51 => ("EarTownModel", "told", "I", false)
  | 52 => ("EarTownModel", "rings", "I", false)
  | 53 => ("EarTownModel", "bookedAt", "[I", true)
  | 54 => ("EarTownModel", "hasBooked", "Z", false)
  | 55 => ("EarTownModel", "stack", "[I", true)
  | 56 => ("EarTownModel", "codes", "I", false)
  | 57 => ("EarTownModel", "ones", "I", false)
  | 58 => ("EarTownModel", "top", "I", false)
  | 59 => ("EarTownModel", "deep", "I", false)
  | 60 => ("EarTownModel", "isWhole", "Z", false)
  | 61 => ("EarTownModel", "truths", "[Z", true)
  | 62 => ("EarTownModel", "kept", "[I", true)
  | 63 => ("EarTownModel", "namesKept", "[J", true)
  | _ => ("EarTownModel", "isKept", "[Z", true)
def tyX12 : Nat → FieldType := fun k => match k with
  | 0 => .int
  | 1 => .array .byte
  | 2 => .int
  | 3 => .int
  | 4 => .int
  | 5 => .int
  | 6 => .array .int
  | 7 => .array .int
  | 8 => .array .int
  | 9 => .array .long
  | 10 => .array .long
  | 11 => .int
  | 12 => .int
  | 13 => .int
  | 14 => .int
  | 15 => .int
  | 16 => .int
  | 17 => .long
  | 18 => .int
  | 19 => .int
  | 20 => .boolean
  | 21 => .boolean
  | 22 => .array .int
  | 23 => .array .int
  | 24 => .int
  | 25 => .int
  | 26 => .array .int
  | 27 => .array .int
  | 28 => .int
  | 29 => .boolean
  | 30 => .int
  | 31 => .array .int
  | 32 => .array .int
  | 33 => .array .int
  | 34 => .int
  | 35 => .array .int
  | 36 => .array .int
  | 37 => .array .int
  | 38 => .int
  | 39 => .array .int
  | 40 => .array .int
  | 41 => .array .int
  | 42 => .array .int
  | 43 => .array .int
  | 44 => .int
  | 45 => .int
  | 46 => .int
  | 47 => .array .int
  | 48 => .array .int
  | 49 => .array .int
  | 50 => .int
  | 51 => .int
  | 52 => .int
  | 53 => .array .int
  | 54 => .boolean
  | 55 => .array .int
  | 56 => .int
  | 57 => .int
  | 58 => .int
  | 59 => .int
  | 60 => .boolean
  | 61 => .array .boolean
  | 62 => .array .int
  | 63 => .array .long
  | _ => .array .boolean
theorem nmX12 : ∀ a, a < 65 → ∀ b, b < 65 → a ≠ b → (TX12 a).2.1 ≠ (TX12 b).2.1 := by decide +kernel
theorem tyX12_ok : ∀ k, k < 65 → parseFieldDescriptor (TX12 k).2.2.1 = some (tyX12 k) := by decide +kernel
abbrev vwCl : List vw_C := [(RX0, TX0, 10), (RX1, TX1, 13), (RX2, TX2, 4), (RX3, TX3, 14), (RX4, TX4, 4), (RX5, TX5, 3), (RX6, TX6, 3), (RX7, TX7, 10), (RX8, TX8, 6), (RX9, TX9, 7), (RX10, TX10, 2), (RX11, TX11, 18), (RX12, TX12, 65)]
