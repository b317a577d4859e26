def RX0 : String := "SpokenBooks$Copies"
def TX0 : u_T := fun k => match k with
  | 0 => ("SpokenBooks$Copies", "title", "[I", true)
  | 1 => ("SpokenBooks$Copies", "where", "[I", true)
  | 2 => ("SpokenBooks$Copies", "listener", "[I", true)
  | 3 => ("SpokenBooks$Copies", "plays", "[I", true)
  | 4 => ("SpokenBooks$Copies", "since", "[I", true)
  | _ => ("SpokenBooks$Copies", "number", "I", false)
def tyX0 : Nat → FieldType := fun k => match k with
  | 0 => .array .int
  | 1 => .array .int
  | 2 => .array .int
  | 3 => .array .int
  | 4 => .array .int
  | _ => .int
theorem nmX0 : ∀ a, a < 6 → ∀ b, b < 6 → a ≠ b → (TX0 a).2.1 ≠ (TX0 b).2.1 := by decide +kernel
theorem tyX0_ok : ∀ k, k < 6 → parseFieldDescriptor (TX0 k).2.2.1 = some (tyX0 k) := by decide +kernel
def RX1 : String := "SpokenBooks$Errors"
def TX1 : u_T := fun k => match k with
  | 0 => ("SpokenBooks$Errors", "title", "[I", true)
  | 1 => ("SpokenBooks$Errors", "side", "[I", true)
  | 2 => ("SpokenBooks$Errors", "minute", "[I", true)
  | 3 => ("SpokenBooks$Errors", "ears", "[I", true)
  | 4 => ("SpokenBooks$Errors", "came", "[I", true)
  | _ => ("SpokenBooks$Errors", "number", "I", false)
def tyX1 : Nat → FieldType := fun k => match k with
  | 0 => .array .int
  | 1 => .array .int
  | 2 => .array .int
  | 3 => .array .int
  | 4 => .array .int
  | _ => .int
theorem nmX1 : ∀ a, a < 6 → ∀ b, b < 6 → a ≠ b → (TX1 a).2.1 ≠ (TX1 b).2.1 := by decide +kernel
theorem tyX1_ok : ∀ k, k < 6 → parseFieldDescriptor (TX1 k).2.2.1 = some (tyX1 k) := by decide +kernel
def RX2 : String := "SpokenBooks$House"
def TX2 : u_T := fun k => match k with
  | 0 => ("SpokenBooks$House", "titles", "LSpokenBooks$Titles;", true)
  | 1 => ("SpokenBooks$House", "copies", "LSpokenBooks$Copies;", true)
  | 2 => ("SpokenBooks$House", "listeners", "LSpokenBooks$Listeners;", true)
  | 3 => ("SpokenBooks$House", "requests", "LSpokenBooks$Requests;", true)
  | 4 => ("SpokenBooks$House", "line", "[I", true)
  | 5 => ("SpokenBooks$House", "withBits", "[I", true)
  | 6 => ("SpokenBooks$House", "rules", "LSpokenBooks$Rules;", false)
  | _ => ("SpokenBooks$House", "today", "I", false)
def tyX2 : Nat → FieldType := fun k => match k with
  | 0 => .object "SpokenBooks$Titles"
  | 1 => .object "SpokenBooks$Copies"
  | 2 => .object "SpokenBooks$Listeners"
  | 3 => .object "SpokenBooks$Requests"
  | 4 => .array .int
  | 5 => .array .int
  | 6 => .object "SpokenBooks$Rules"
  | _ => .int
theorem nmX2 : ∀ a, a < 8 → ∀ b, b < 8 → a ≠ b → (TX2 a).2.1 ≠ (TX2 b).2.1 := by decide +kernel
theorem tyX2_ok : ∀ k, k < 8 → parseFieldDescriptor (TX2 k).2.2.1 = some (tyX2 k) := by decide +kernel
def RX3 : String := "SpokenBooks$Listeners"
def TX3 : u_T := fun k => match k with
  | 0 => ("SpokenBooks$Listeners", "tongues", "[I", true)
  | 1 => ("SpokenBooks$Listeners", "likes", "[I", true)
  | 2 => ("SpokenBooks$Listeners", "cameSoFar", "[I", true)
  | 3 => ("SpokenBooks$Listeners", "latest", "[I", true)
  | _ => ("SpokenBooks$Listeners", "number", "I", false)
def tyX3 : Nat → FieldType := fun k => match k with
  | 0 => .array .int
  | 1 => .array .int
  | 2 => .array .int
  | 3 => .array .int
  | _ => .int
theorem nmX3 : ∀ a, a < 5 → ∀ b, b < 5 → a ≠ b → (TX3 a).2.1 ≠ (TX3 b).2.1 := by decide +kernel
theorem tyX3_ok : ∀ k, k < 5 → parseFieldDescriptor (TX3 k).2.2.1 = some (tyX3 k) := by decide +kernel
def RX4 : String := "SpokenBooks$Parcels"
def TX4 : u_T := fun k => match k with
  | 0 => ("SpokenBooks$Parcels", "titleSpare", "[I", true)
  | 1 => ("SpokenBooks$Parcels", "titleGain", "[I", true)
  | 2 => ("SpokenBooks$Parcels", "titleFrom", "[I", true)
  | 3 => ("SpokenBooks$Parcels", "listenerSpare", "[I", true)
  | 4 => ("SpokenBooks$Parcels", "listenerGain", "[I", true)
  | 5 => ("SpokenBooks$Parcels", "listenerFrom", "[I", true)
  | 6 => ("SpokenBooks$Parcels", "can", "[Z", true)
  | 7 => ("SpokenBooks$Parcels", "chosen", "[Z", true)
  | 8 => ("SpokenBooks$Parcels", "worth", "[I", true)
  | 9 => ("SpokenBooks$Parcels", "pairs", "I", false)
  | _ => ("SpokenBooks$Parcels", "liked", "I", false)
def tyX4 : Nat → FieldType := fun k => match k with
  | 0 => .array .int
  | 1 => .array .int
  | 2 => .array .int
  | 3 => .array .int
  | 4 => .array .int
  | 5 => .array .int
  | 6 => .array .boolean
  | 7 => .array .boolean
  | 8 => .array .int
  | 9 => .int
  | _ => .int
theorem nmX4 : ∀ a, a < 11 → ∀ b, b < 11 → a ≠ b → (TX4 a).2.1 ≠ (TX4 b).2.1 := by decide +kernel
theorem tyX4_ok : ∀ k, k < 11 → parseFieldDescriptor (TX4 k).2.2.1 = some (tyX4 k) := by decide +kernel
def RX5 : String := "SpokenBooks$Program"
def TX5 : u_T := fun k => match k with
  | 0 => ("SpokenBooks$Program", "who", "[I", true)
  | 1 => ("SpokenBooks$Program", "row", "[I", true)
  | 2 => ("SpokenBooks$Program", "chosen", "[Z", true)
  | 3 => ("SpokenBooks$Program", "wanted", "[I", true)
  | 4 => ("SpokenBooks$Program", "minutes", "[I", true)
  | 5 => ("SpokenBooks$Program", "voices", "[I", true)
  | 6 => ("SpokenBooks$Program", "byRate", "[I", true)
  | 7 => ("SpokenBooks$Program", "rated", "I", false)
  | 8 => ("SpokenBooks$Program", "roomA", "I", false)
  | 9 => ("SpokenBooks$Program", "roomB", "I", false)
  | 10 => ("SpokenBooks$Program", "best", "I", false)
  | _ => ("SpokenBooks$Program", "solved", "Z", false)
def tyX5 : Nat → FieldType := fun k => match k with
  | 0 => .array .int
  | 1 => .array .int
  | 2 => .array .boolean
  | 3 => .array .int
  | 4 => .array .int
  | 5 => .array .int
  | 6 => .array .int
  | 7 => .int
  | 8 => .int
  | 9 => .int
  | 10 => .int
  | _ => .boolean
theorem nmX5 : ∀ a, a < 12 → ∀ b, b < 12 → a ≠ b → (TX5 a).2.1 ≠ (TX5 b).2.1 := by decide +kernel
theorem tyX5_ok : ∀ k, k < 12 → parseFieldDescriptor (TX5 k).2.2.1 = some (tyX5 k) := by decide +kernel
def RX6 : String := "SpokenBooks$Requests"
def TX6 : u_T := fun k => match k with
  | 0 => ("SpokenBooks$Requests", "listener", "[I", true)
  | 1 => ("SpokenBooks$Requests", "title", "[I", true)
  | 2 => ("SpokenBooks$Requests", "came", "[I", true)
  | 3 => ("SpokenBooks$Requests", "state", "[I", true)
  | 4 => ("SpokenBooks$Requests", "copy", "[I", true)
  | _ => ("SpokenBooks$Requests", "number", "I", false)
def tyX6 : Nat → FieldType := fun k => match k with
  | 0 => .array .int
  | 1 => .array .int
  | 2 => .array .int
  | 3 => .array .int
  | 4 => .array .int
  | _ => .int
theorem nmX6 : ∀ a, a < 6 → ∀ b, b < 6 → a ≠ b → (TX6 a).2.1 ≠ (TX6 b).2.1 := by decide +kernel
theorem tyX6_ok : ∀ k, k < 6 → parseFieldDescriptor (TX6 k).2.2.1 = some (tyX6 k) := by decide +kernel
def RX7 : String := "SpokenBooks$Rules"
def TX7 : u_T := fun k => match k with
  | 0 => ("SpokenBooks$Rules", "numbers", "[I", true)
  | 1 => ("SpokenBooks$Rules", "keys", "[I", true)
  | 2 => ("SpokenBooks$Rules", "rightFrom", "[I", true)
  | 3 => ("SpokenBooks$Rules", "rightTo", "[I", true)
  | _ => ("SpokenBooks$Rules", "keyCount", "I", false)
def tyX7 : Nat → FieldType := fun k => match k with
  | 0 => .array .int
  | 1 => .array .int
  | 2 => .array .int
  | 3 => .array .int
  | _ => .int
theorem nmX7 : ∀ a, a < 5 → ∀ b, b < 5 → a ≠ b → (TX7 a).2.1 ≠ (TX7 b).2.1 := by decide +kernel
theorem tyX7_ok : ∀ k, k < 5 → parseFieldDescriptor (TX7 k).2.2.1 = some (tyX7 k) := by decide +kernel
def RX8 : String := "SpokenBooks$Sheets"
def TX8 : u_T := fun k => match k with
  | 0 => ("SpokenBooks$Sheets", "size", "[I", true)
  | 1 => ("SpokenBooks$Sheets", "lane", "[I", true)
  | _ => ("SpokenBooks$Sheets", "cells", "[I", true)
def tyX8 : Nat → FieldType := fun k => match k with
  | 0 => .array .int
  | 1 => .array .int
  | _ => .array .int
theorem nmX8 : ∀ a, a < 3 → ∀ b, b < 3 → a ≠ b → (TX8 a).2.1 ≠ (TX8 b).2.1 := by decide +kernel
theorem tyX8_ok : ∀ k, k < 3 → parseFieldDescriptor (TX8 k).2.2.1 = some (tyX8 k) := by decide +kernel
def RX9 : String := "SpokenBooks$Tape"
def TX9 : u_T := fun k => match k with
  | 0 => ("SpokenBooks$Tape", "bytes", "[B", true)
  | 1 => ("SpokenBooks$Tape", "length", "I", false)
  | 2 => ("SpokenBooks$Tape", "fault", "I", false)
  | 3 => ("SpokenBooks$Tape", "rules", "LSpokenBooks$Rules;", false)
  | 4 => ("SpokenBooks$Tape", "toldLines", "I", false)
  | 5 => ("SpokenBooks$Tape", "at", "I", false)
  | 6 => ("SpokenBooks$Tape", "kind", "I", false)
  | 7 => ("SpokenBooks$Tape", "place", "I", false)
  | _ => ("SpokenBooks$Tape", "value", "I", false)
def tyX9 : Nat → FieldType := fun k => match k with
  | 0 => .array .byte
  | 1 => .int
  | 2 => .int
  | 3 => .object "SpokenBooks$Rules"
  | 4 => .int
  | 5 => .int
  | 6 => .int
  | 7 => .int
  | _ => .int
theorem nmX9 : ∀ a, a < 9 → ∀ b, b < 9 → a ≠ b → (TX9 a).2.1 ≠ (TX9 b).2.1 := by decide +kernel
theorem tyX9_ok : ∀ k, k < 9 → parseFieldDescriptor (TX9 k).2.2.1 = some (tyX9 k) := by decide +kernel
def RX10 : String := "SpokenBooks$Titles"
def TX10 : u_T := fun k => match k with
  | 0 => ("SpokenBooks$Titles", "readerTongue", "[I", true)
  | 1 => ("SpokenBooks$Titles", "tongue", "[I", true)
  | 2 => ("SpokenBooks$Titles", "kin", "[I", true)
  | 3 => ("SpokenBooks$Titles", "reader", "[I", true)
  | 4 => ("SpokenBooks$Titles", "sideCount", "[I", true)
  | 5 => ("SpokenBooks$Titles", "minutes", "[I", true)
  | 6 => ("SpokenBooks$Titles", "readers", "I", false)
  | _ => ("SpokenBooks$Titles", "number", "I", false)
def tyX10 : Nat → FieldType := fun k => match k with
  | 0 => .array .int
  | 1 => .array .int
  | 2 => .array .int
  | 3 => .array .int
  | 4 => .array .int
  | 5 => .array .int
  | 6 => .int
  | _ => .int
theorem nmX10 : ∀ a, a < 8 → ∀ b, b < 8 → a ≠ b → (TX10 a).2.1 ≠ (TX10 b).2.1 := by decide +kernel
theorem tyX10_ok : ∀ k, k < 8 → parseFieldDescriptor (TX10 k).2.2.1 = some (tyX10 k) := by decide +kernel
def RX11 : String := "SpokenBooks"
def TX11 : u_T := fun k => match k with
  | 0 => ("SpokenBooks", "tape", "LSpokenBooks$Tape;", true)
  | 1 => ("SpokenBooks", "house", "LSpokenBooks$House;", true)
  | 2 => ("SpokenBooks", "titles", "LSpokenBooks$Titles;", true)
  | 3 => ("SpokenBooks", "copies", "LSpokenBooks$Copies;", true)
  | 4 => ("SpokenBooks", "listeners", "LSpokenBooks$Listeners;", true)
  | 5 => ("SpokenBooks", "requests", "LSpokenBooks$Requests;", true)
  | 6 => ("SpokenBooks", "errors", "LSpokenBooks$Errors;", true)
  | 7 => ("SpokenBooks", "pairing", "LSpokenBooks$Parcels;", true)
  | 8 => ("SpokenBooks", "reading", "LSpokenBooks$Program;", true)
  | 9 => ("SpokenBooks", "papers", "LSpokenBooks$Sheets;", true)
  | _ => ("SpokenBooks", "draft", "LSpokenBooks$Rules;", false)
def tyX11 : Nat → FieldType := fun k => match k with
  | 0 => .object "SpokenBooks$Tape"
  | 1 => .object "SpokenBooks$House"
  | 2 => .object "SpokenBooks$Titles"
  | 3 => .object "SpokenBooks$Copies"
  | 4 => .object "SpokenBooks$Listeners"
  | 5 => .object "SpokenBooks$Requests"
  | 6 => .object "SpokenBooks$Errors"
  | 7 => .object "SpokenBooks$Parcels"
  | 8 => .object "SpokenBooks$Program"
  | 9 => .object "SpokenBooks$Sheets"
  | _ => .object "SpokenBooks$Rules"
theorem nmX11 : ∀ a, a < 11 → ∀ b, b < 11 → a ≠ b → (TX11 a).2.1 ≠ (TX11 b).2.1 := by decide +kernel
theorem tyX11_ok : ∀ k, k < 11 → parseFieldDescriptor (TX11 k).2.2.1 = some (tyX11 k) := by decide +kernel
def RX12 : String := "SpokenBooksModel"
def TX12 : u_T := fun k => match k with
  | 0 => ("SpokenBooksModel", "today", "I", false)
  | 1 => ("SpokenBooksModel", "rules", "[I", true)
  | 2 => ("SpokenBooksModel", "draft", "[I", true)
  | 3 => ("SpokenBooksModel", "isTold", "[Z", true)
  | 4 => ("SpokenBooksModel", "tape", "[I", true)
  | 5 => ("SpokenBooksModel", "taped", "I", false)
  | 6 => ("SpokenBooksModel", "pos", "I", false)
  | 7 => ("SpokenBooksModel", "from", "I", false)
  | 8 => ("SpokenBooksModel", "sort", "I", false)
  | 9 => ("SpokenBooksModel", "value", "I", false)
  | 10 => ("SpokenBooksModel", "fault", "I", false)
  | 11 => ("SpokenBooksModel", "wrongAt", "I", false)
  | 12 => ("SpokenBooksModel", "readers", "I", false)
  | 13 => ("SpokenBooksModel", "rTongue", "[I", true)
  | 14 => ("SpokenBooksModel", "titles", "I", false)
  | 15 => ("SpokenBooksModel", "tTongue", "[I", true)
  | 16 => ("SpokenBooksModel", "tKin", "[I", true)
  | 17 => ("SpokenBooksModel", "tReader", "[I", true)
  | 18 => ("SpokenBooksModel", "tSides", "[I", true)
  | 19 => ("SpokenBooksModel", "tMinutes", "[I", true)
  | 20 => ("SpokenBooksModel", "copies", "I", false)
  | 21 => ("SpokenBooksModel", "cTitle", "[I", true)
  | 22 => ("SpokenBooksModel", "cWhere", "[I", true)
  | 23 => ("SpokenBooksModel", "cListener", "[I", true)
  | 24 => ("SpokenBooksModel", "cPlays", "[I", true)
  | 25 => ("SpokenBooksModel", "cSince", "[I", true)
  | 26 => ("SpokenBooksModel", "withOn", "[I", true)
  | 27 => ("SpokenBooksModel", "listeners", "I", false)
  | 28 => ("SpokenBooksModel", "tongues", "[I", true)
  | 29 => ("SpokenBooksModel", "likes", "[I", true)
  | 30 => ("SpokenBooksModel", "came", "[I", true)
  | 31 => ("SpokenBooksModel", "latest", "[I", true)
  | 32 => ("SpokenBooksModel", "requests", "I", false)
  | 33 => ("SpokenBooksModel", "qListener", "[I", true)
  | 34 => ("SpokenBooksModel", "qTitle", "[I", true)
  | 35 => ("SpokenBooksModel", "qDay", "[I", true)
  | 36 => ("SpokenBooksModel", "qState", "[I", true)
  | 37 => ("SpokenBooksModel", "qCopy", "[I", true)
  | 38 => ("SpokenBooksModel", "room", "[I", true)
  | 39 => ("SpokenBooksModel", "cost", "[I", true)
  | 40 => ("SpokenBooksModel", "far", "[I", true)
  | 41 => ("SpokenBooksModel", "cameFrom", "[I", true)
  | 42 => ("SpokenBooksModel", "choice", "[I", true)
  | 43 => ("SpokenBooksModel", "bestChoice", "[I", true)
  | 44 => ("SpokenBooksModel", "asks", "[I", true)
  | 45 => ("SpokenBooksModel", "bestAsked", "I", false)
  | 46 => ("SpokenBooksModel", "bestMinutes", "I", false)
  | 47 => ("SpokenBooksModel", "errors", "I", false)
  | 48 => ("SpokenBooksModel", "eTitle", "[I", true)
  | 49 => ("SpokenBooksModel", "eSide", "[I", true)
  | 50 => ("SpokenBooksModel", "eMinute", "[I", true)
  | 51 => ("SpokenBooksModel", "eEars", "[I", true)
  | 52 => ("SpokenBooksModel", "eDay", "[I", true)
  | 53 => ("SpokenBooksModel", "lanes", "[I", true)
  | 54 => ("SpokenBooksModel", "sizes", "[I", true)
  | _ => ("SpokenBooksModel", "cells", "[I", true)
def tyX12 : Nat → FieldType := fun k => match k with
  | 0 => .int
  | 1 => .array .int
  | 2 => .array .int
  | 3 => .array .boolean
  | 4 => .array .int
  | 5 => .int
  | 6 => .int
  | 7 => .int
  | 8 => .int
  | 9 => .int
  | 10 => .int
  | 11 => .int
  | 12 => .int
  | 13 => .array .int
  | 14 => .int
  | 15 => .array .int
  | 16 => .array .int
  | 17 => .array .int
  | 18 => .array .int
  | 19 => .array .int
  | 20 => .int
  | 21 => .array .int
  | 22 => .array .int
  | 23 => .array .int
  | 24 => .array .int
  | 25 => .array .int
  | 26 => .array .int
  | 27 => .int
  | 28 => .array .int
  | 29 => .array .int
  | 30 => .array .int
  | 31 => .array .int
  | 32 => .int
  | 33 => .array .int
  | 34 => .array .int
  | 35 => .array .int
  | 36 => .array .int
  | 37 => .array .int
  | 38 => .array .int
  | 39 => .array .int
  | 40 => .array .int
  | 41 => .array .int
  | 42 => .array .int
  | 43 => .array .int
  | 44 => .array .int
  | 45 => .int
  | 46 => .int
  | 47 => .int
  | 48 => .array .int
  | 49 => .array .int
  | 50 => .array .int
  | 51 => .array .int
  | 52 => .array .int
  | 53 => .array .int
  | 54 => .array .int
  | _ => .array .int
theorem nmX12 : ∀ a, a < 56 → ∀ b, b < 56 → a ≠ b → (TX12 a).2.1 ≠ (TX12 b).2.1 := by decide +kernel
theorem tyX12_ok : ∀ k, k < 56 → parseFieldDescriptor (TX12 k).2.2.1 = some (tyX12 k) := by decide +kernel
abbrev vwCl : List vw_C := [(RX0, TX0, 6), (RX1, TX1, 6), (RX2, TX2, 8), (RX3, TX3, 5), (RX4, TX4, 11), (RX5, TX5, 12), (RX6, TX6, 6), (RX7, TX7, 5), (RX8, TX8, 3), (RX9, TX9, 9), (RX10, TX10, 8), (RX11, TX11, 11), (RX12, TX12, 56)]
