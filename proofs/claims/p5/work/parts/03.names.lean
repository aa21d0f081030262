def RX0 : String := "LentNames$Accounts"
def TX0 : u_T := fun k => match k with
  | 0 => ("LentNames$Accounts", "rest", "[I", true)
  | _ => ("LentNames$Accounts", "open", "I", false)
def tyX0 : Nat → FieldType := fun k => match k with
  | 0 => .array .int
  | _ => .int
abbrev wsX00 : List Cond := u_ws RX0 TX0 2
theorem nmX0 : ∀ a, a < 2 → ∀ b, b < 2 → a ≠ b → (TX0 a).2.1 ≠ (TX0 b).2.1 := by decide +kernel
theorem tyX0_ok : ∀ k, k < 2 → parseFieldDescriptor (TX0 k).2.2.1 = some (tyX0 k) := by decide +kernel
def RX1 : String := "LentNames$Calendar"
def TX1 : u_T := fun k => match k with
  | 0 => ("LentNames$Calendar", "alive", "[I", true)
  | 1 => ("LentNames$Calendar", "borneDays", "[I", true)
  | 2 => ("LentNames$Calendar", "lender", "[I", true)
  | 3 => ("LentNames$Calendar", "endedOn", "[I", true)
  | 4 => ("LentNames$Calendar", "owed", "[I", true)
  | 5 => ("LentNames$Calendar", "town", "LLentNames$Town;", false)
  | 6 => ("LentNames$Calendar", "bearers", "[I", true)
  | 7 => ("LentNames$Calendar", "states", "[I", true)
  | 8 => ("LentNames$Calendar", "rows", "[I", true)
  | 9 => ("LentNames$Calendar", "rightDays", "[I", true)
  | 10 => ("LentNames$Calendar", "lastDays", "[I", true)
  | 11 => ("LentNames$Calendar", "chain", "[I", true)
  | 12 => ("LentNames$Calendar", "deep", "[I", true)
  | _ => ("LentNames$Calendar", "asked", "[I", true)
def tyX1 : Nat → FieldType := fun k => match k with
  | 0 => .array .int
  | 1 => .array .int
  | 2 => .array .int
  | 3 => .array .int
  | 4 => .array .int
  | 5 => .object "LentNames$Town"
  | 6 => .array .int
  | 7 => .array .int
  | 8 => .array .int
  | 9 => .array .int
  | 10 => .array .int
  | 11 => .array .int
  | 12 => .array .int
  | _ => .array .int
abbrev wsX10 : List Cond := u_ws RX1 TX1 14
theorem nmX1 : ∀ a, a < 14 → ∀ b, b < 14 → a ≠ b → (TX1 a).2.1 ≠ (TX1 b).2.1 := by decide +kernel
theorem tyX1_ok : ∀ k, k < 14 → parseFieldDescriptor (TX1 k).2.2.1 = some (tyX1 k) := by decide +kernel
def RX2 : String := "LentNames$Custom"
def TX2 : u_T := fun k => match k with
  | 0 => ("LentNames$Custom", "code", "[I", true)
  | 1 => ("LentNames$Custom", "stack", "[I", true)
  | 2 => ("LentNames$Custom", "length", "I", false)
  | 3 => ("LentNames$Custom", "lines", "I", false)
  | _ => ("LentNames$Custom", "top", "I", false)
def tyX2 : Nat → FieldType := fun k => match k with
  | 0 => .array .int
  | 1 => .array .int
  | 2 => .int
  | 3 => .int
  | _ => .int
abbrev wsX20 : List Cond := u_ws RX2 TX2 5
theorem nmX2 : ∀ a, a < 5 → ∀ b, b < 5 → a ≠ b → (TX2 a).2.1 ≠ (TX2 b).2.1 := by decide +kernel
theorem tyX2_ok : ∀ k, k < 5 → parseFieldDescriptor (TX2 k).2.2.1 = some (tyX2 k) := by decide +kernel
def RX3 : String := "LentNames$CustomReader"
def TX3 : u_T := fun k => match k with
  | 0 => ("LentNames$CustomReader", "tape", "LLentNames$Tape;", true)
  | _ => ("LentNames$CustomReader", "custom", "LLentNames$Custom;", false)
def tyX3 : Nat → FieldType := fun k => match k with
  | 0 => .object "LentNames$Tape"
  | _ => .object "LentNames$Custom"
abbrev wsX30 : List Cond := u_ws RX3 TX3 2
theorem nmX3 : ∀ a, a < 2 → ∀ b, b < 2 → a ≠ b → (TX3 a).2.1 ≠ (TX3 b).2.1 := by decide +kernel
theorem tyX3_ok : ∀ k, k < 2 → parseFieldDescriptor (TX3 k).2.2.1 = some (tyX3 k) := by decide +kernel
def RX4 : String := "LentNames$PlanSearch"
def TX4 : u_T := fun k => match k with
  | 0 => ("LentNames$Search", "holds", "[I", true)
  | 1 => ("LentNames$Search", "ends", "[I", true)
  | 2 => ("LentNames$Search", "taken", "[I", true)
  | 3 => ("LentNames$Search", "chosen", "[I", true)
  | 4 => ("LentNames$Search", "found", "[I", true)
  | 5 => ("LentNames$Search", "calendar", "LLentNames$Calendar;", true)
  | 6 => ("LentNames$Search", "town", "LLentNames$Town;", false)
  | 7 => ("LentNames$Search", "question", "I", false)
  | 8 => ("LentNames$Search", "sets", "I", false)
  | 9 => ("LentNames$Search", "spent", "Z", false)
  | 10 => ("LentNames$Search", "lackNames", "I", false)
  | 11 => ("LentNames$Search", "lackBodies", "I", false)
  | 12 => ("LentNames$Search", "lackFrom", "I", false)
  | 13 => ("LentNames$Search", "lackTo", "I", false)
  | 14 => ("LentNames$Search", "answered", "Z", false)
  | 15 => ("LentNames$Search", "size", "I", false)
  | 16 => ("LentNames$Search", "limit", "I", false)
  | _ => ("LentNames$Search", "steps", "I", false)
def tyX4 : Nat → FieldType := fun k => match k with
  | 0 => .array .int
  | 1 => .array .int
  | 2 => .array .int
  | 3 => .array .int
  | 4 => .array .int
  | 5 => .object "LentNames$Calendar"
  | 6 => .object "LentNames$Town"
  | 7 => .int
  | 8 => .int
  | 9 => .boolean
  | 10 => .int
  | 11 => .int
  | 12 => .int
  | 13 => .int
  | 14 => .boolean
  | 15 => .int
  | 16 => .int
  | _ => .int
abbrev wsX40 : List Cond := u_ws RX4 TX4 18
theorem nmX4 : ∀ a, a < 18 → ∀ b, b < 18 → a ≠ b → (TX4 a).2.1 ≠ (TX4 b).2.1 := by decide +kernel
theorem tyX4_ok : ∀ k, k < 18 → parseFieldDescriptor (TX4 k).2.2.1 = some (tyX4 k) := by decide +kernel
def RX6 : String := "LentNames$SecretSearch"
def TX6 : u_T := fun k => match k with
  | 0 => ("LentNames$Search", "holds", "[I", true)
  | 1 => ("LentNames$Search", "ends", "[I", true)
  | 2 => ("LentNames$Search", "taken", "[I", true)
  | 3 => ("LentNames$Search", "chosen", "[I", true)
  | 4 => ("LentNames$Search", "found", "[I", true)
  | 5 => ("LentNames$Search", "calendar", "LLentNames$Calendar;", true)
  | 6 => ("LentNames$Search", "town", "LLentNames$Town;", false)
  | 7 => ("LentNames$Search", "question", "I", false)
  | 8 => ("LentNames$Search", "sets", "I", false)
  | 9 => ("LentNames$Search", "spent", "Z", false)
  | 10 => ("LentNames$Search", "lackNames", "I", false)
  | 11 => ("LentNames$Search", "lackBodies", "I", false)
  | 12 => ("LentNames$Search", "lackFrom", "I", false)
  | 13 => ("LentNames$Search", "lackTo", "I", false)
  | 14 => ("LentNames$Search", "answered", "Z", false)
  | 15 => ("LentNames$Search", "size", "I", false)
  | 16 => ("LentNames$Search", "limit", "I", false)
  | 17 => ("LentNames$Search", "steps", "I", false)
  | _ => ("LentNames$SecretSearch", "known", "I", false)
def tyX6 : Nat → FieldType := fun k => match k with
  | 0 => .array .int
  | 1 => .array .int
  | 2 => .array .int
  | 3 => .array .int
  | 4 => .array .int
  | 5 => .object "LentNames$Calendar"
  | 6 => .object "LentNames$Town"
  | 7 => .int
  | 8 => .int
  | 9 => .boolean
  | 10 => .int
  | 11 => .int
  | 12 => .int
  | 13 => .int
  | 14 => .boolean
  | 15 => .int
  | 16 => .int
  | 17 => .int
  | _ => .int
abbrev wsX60 : List Cond := u_ws RX6 TX6 19
theorem nmX6 : ∀ a, a < 19 → ∀ b, b < 19 → a ≠ b → (TX6 a).2.1 ≠ (TX6 b).2.1 := by decide +kernel
theorem tyX6_ok : ∀ k, k < 19 → parseFieldDescriptor (TX6 k).2.2.1 = some (tyX6 k) := by decide +kernel
def RX7 : String := "LentNames$Table"
def TX7 : u_T := fun k => match k with
  | 0 => ("LentNames$Table", "columns", "I", true)
  | 1 => ("LentNames$Table", "cells", "[I", true)
  | _ => ("LentNames$Table", "count", "I", false)
def tyX7 : Nat → FieldType := fun k => match k with
  | 0 => .int
  | 1 => .array .int
  | _ => .int
abbrev wsX70 : List Cond := u_ws RX7 TX7 3
theorem nmX7 : ∀ a, a < 3 → ∀ b, b < 3 → a ≠ b → (TX7 a).2.1 ≠ (TX7 b).2.1 := by decide +kernel
theorem tyX7_ok : ∀ k, k < 3 → parseFieldDescriptor (TX7 k).2.2.1 = some (tyX7 k) := by decide +kernel
def RX8 : String := "LentNames$Tape"
def TX8 : u_T := fun k => match k with
  | 0 => ("LentNames$Tape", "bytes", "[I", true)
  | 1 => ("LentNames$Tape", "size", "I", false)
  | _ => ("LentNames$Tape", "place", "I", false)
def tyX8 : Nat → FieldType := fun k => match k with
  | 0 => .array .int
  | 1 => .int
  | _ => .int
abbrev wsX80 : List Cond := u_ws RX8 TX8 3
theorem nmX8 : ∀ a, a < 3 → ∀ b, b < 3 → a ≠ b → (TX8 a).2.1 ≠ (TX8 b).2.1 := by decide +kernel
theorem tyX8_ok : ∀ k, k < 3 → parseFieldDescriptor (TX8 k).2.2.1 = some (tyX8 k) := by decide +kernel
def RX9 : String := "LentNames$Town"
def TX9 : u_T := fun k => match k with
  | 0 => ("LentNames$Town", "loans", "LLentNames$Table;", true)
  | 1 => ("LentNames$Town", "letters", "LLentNames$Table;", true)
  | 2 => ("LentNames$Town", "debts", "LLentNames$Table;", true)
  | 3 => ("LentNames$Town", "sightings", "LLentNames$Table;", true)
  | 4 => ("LentNames$Town", "diesOn", "[I", true)
  | 5 => ("LentNames$Town", "purses", "[I", true)
  | 6 => ("LentNames$Town", "custom", "LLentNames$Custom;", true)
  | 7 => ("LentNames$Town", "people", "I", false)
  | 8 => ("LentNames$Town", "texts", "I", false)
  | _ => ("LentNames$Town", "courts", "I", false)
def tyX9 : Nat → FieldType := fun k => match k with
  | 0 => .object "LentNames$Table"
  | 1 => .object "LentNames$Table"
  | 2 => .object "LentNames$Table"
  | 3 => .object "LentNames$Table"
  | 4 => .array .int
  | 5 => .array .int
  | 6 => .object "LentNames$Custom"
  | 7 => .int
  | 8 => .int
  | _ => .int
abbrev wsX90 : List Cond := u_ws RX9 TX9 10
theorem nmX9 : ∀ a, a < 10 → ∀ b, b < 10 → a ≠ b → (TX9 a).2.1 ≠ (TX9 b).2.1 := by decide +kernel
theorem tyX9_ok : ∀ k, k < 10 → parseFieldDescriptor (TX9 k).2.2.1 = some (tyX9 k) := by decide +kernel
def RX10 : String := "LentNames$TownReader"
def TX10 : u_T := fun k => match k with
  | 0 => ("LentNames$TownReader", "tape", "LLentNames$Tape;", true)
  | _ => ("LentNames$TownReader", "town", "LLentNames$Town;", false)
def tyX10 : Nat → FieldType := fun k => match k with
  | 0 => .object "LentNames$Tape"
  | _ => .object "LentNames$Town"
abbrev wsX100 : List Cond := u_ws RX10 TX10 2
theorem nmX10 : ∀ a, a < 2 → ∀ b, b < 2 → a ≠ b → (TX10 a).2.1 ≠ (TX10 b).2.1 := by decide +kernel
theorem tyX10_ok : ∀ k, k < 2 → parseFieldDescriptor (TX10 k).2.2.1 = some (tyX10 k) := by decide +kernel
def RX11 : String := "LentNames"
def TX11 : u_T := fun k => match k with
  | 0 => ("LentNames", "tape", "LLentNames$Tape;", true)
  | 1 => ("LentNames", "calendar", "LLentNames$Calendar;", true)
  | 2 => ("LentNames", "accounts", "LLentNames$Accounts;", true)
  | 3 => ("LentNames", "townReader", "LLentNames$TownReader;", true)
  | 4 => ("LentNames", "customReader", "LLentNames$CustomReader;", true)
  | 5 => ("LentNames", "planSearch", "LLentNames$PlanSearch;", true)
  | 6 => ("LentNames", "secretSearch", "LLentNames$SecretSearch;", true)
  | 7 => ("LentNames", "kept", "LLentNames$Town;", true)
  | 8 => ("LentNames", "town", "LLentNames$Town;", false)
  | 9 => ("LentNames", "draft", "LLentNames$Town;", false)
  | 10 => ("LentNames", "hasImage", "Z", false)
  | _ => ("LentNames", "faultAt", "I", false)
def tyX11 : Nat → FieldType := fun k => match k with
  | 0 => .object "LentNames$Tape"
  | 1 => .object "LentNames$Calendar"
  | 2 => .object "LentNames$Accounts"
  | 3 => .object "LentNames$TownReader"
  | 4 => .object "LentNames$CustomReader"
  | 5 => .object "LentNames$PlanSearch"
  | 6 => .object "LentNames$SecretSearch"
  | 7 => .object "LentNames$Town"
  | 8 => .object "LentNames$Town"
  | 9 => .object "LentNames$Town"
  | 10 => .boolean
  | _ => .int
abbrev wsX110 : List Cond := u_ws RX11 TX11 12
theorem nmX11 : ∀ a, a < 12 → ∀ b, b < 12 → a ≠ b → (TX11 a).2.1 ≠ (TX11 b).2.1 := by decide +kernel
theorem tyX11_ok : ∀ k, k < 12 → parseFieldDescriptor (TX11 k).2.2.1 = some (tyX11 k) := by decide +kernel
def RX12 : String := "LentNamesModel"
def TX12 : u_T := fun k => match k with
  | 0 => ("LentNamesModel", "thrown", "I", false)
  | 1 => ("LentNamesModel", "world", "[I", true)
  | 2 => ("LentNamesModel", "image", "[I", true)
  | 3 => ("LentNamesModel", "draft", "[I", true)
  | 4 => ("LentNamesModel", "hasImage", "Z", false)
  | 5 => ("LentNamesModel", "tape", "[B", true)
  | 6 => ("LentNamesModel", "taped", "I", false)
  | 7 => ("LentNamesModel", "point", "I", false)
  | 8 => ("LentNamesModel", "end", "I", false)
  | 9 => ("LentNamesModel", "begin", "I", false)
  | 10 => ("LentNamesModel", "deep", "I", false)
  | 11 => ("LentNamesModel", "faultAt", "I", false)
  | 12 => ("LentNamesModel", "five", "[I", true)
  | 13 => ("LentNamesModel", "steps", "I", false)
  | 14 => ("LentNamesModel", "facts", "[I", true)
  | 15 => ("LentNamesModel", "value", "[I", true)
  | 16 => ("LentNamesModel", "many", "[I", true)
  | 17 => ("LentNamesModel", "row", "[I", true)
  | 18 => ("LentNamesModel", "manyOn", "[I", true)
  | 19 => ("LentNamesModel", "rowOn", "[I", true)
  | 20 => ("LentNamesModel", "bearer", "[I", true)
  | 21 => ("LentNamesModel", "lender", "[I", true)
  | 22 => ("LentNamesModel", "endedOn", "[I", true)
  | 23 => ("LentNamesModel", "owed", "[I", true)
  | 24 => ("LentNamesModel", "over", "[I", true)
  | 25 => ("LentNamesModel", "purse", "[I", true)
  | 26 => ("LentNamesModel", "unpaidBits", "I", false)
  | 27 => ("LentNamesModel", "chosen", "[I", true)
  | 28 => ("LentNamesModel", "asks", "[I", true)
  | 29 => ("LentNamesModel", "upTo", "[I", true)
  | 30 => ("LentNamesModel", "tried", "I", false)
  | 31 => ("LentNamesModel", "bound", "I", false)
  | 32 => ("LentNamesModel", "knownBy", "I", false)
  | 33 => ("LentNamesModel", "isPlan", "Z", false)
  | 34 => ("LentNamesModel", "sets", "I", false)
  | _ => ("LentNamesModel", "firstSet", "[I", true)
def tyX12 : Nat → FieldType := fun k => match k with
  | 0 => .int
  | 1 => .array .int
  | 2 => .array .int
  | 3 => .array .int
  | 4 => .boolean
  | 5 => .array .byte
  | 6 => .int
  | 7 => .int
  | 8 => .int
  | 9 => .int
  | 10 => .int
  | 11 => .int
  | 12 => .array .int
  | 13 => .int
  | 14 => .array .int
  | 15 => .array .int
  | 16 => .array .int
  | 17 => .array .int
  | 18 => .array .int
  | 19 => .array .int
  | 20 => .array .int
  | 21 => .array .int
  | 22 => .array .int
  | 23 => .array .int
  | 24 => .array .int
  | 25 => .array .int
  | 26 => .int
  | 27 => .array .int
  | 28 => .array .int
  | 29 => .array .int
  | 30 => .int
  | 31 => .int
  | 32 => .int
  | 33 => .boolean
  | 34 => .int
  | _ => .array .int
abbrev wsX120 : List Cond := u_ws RX12 TX12 36
theorem nmX12 : ∀ a, a < 36 → ∀ b, b < 36 → a ≠ b → (TX12 a).2.1 ≠ (TX12 b).2.1 := by decide +kernel
theorem tyX12_ok : ∀ k, k < 36 → parseFieldDescriptor (TX12 k).2.2.1 = some (tyX12 k) := by decide +kernel
abbrev vwCl : List vw_C := [(RX0, TX0, 2), (RX1, TX1, 14), (RX2, TX2, 5), (RX3, TX3, 2), (RX4, TX4, 18), (RX6, TX6, 19), (RX7, TX7, 3), (RX8, TX8, 3), (RX9, TX9, 10), (RX10, TX10, 2), (RX11, TX11, 12), (RX12, TX12, 36)]
