def RX0 : String := "EarwigPost$Findings"
def TX0 : u_T := fun k => match k with
  | 0 => ("EarwigPost$Findings", "office", "LEarwigPost$Office;", true)
  | 1 => ("EarwigPost$Findings", "fits", "[I", true)
  | 2 => ("EarwigPost$Findings", "believed", "[I", true)
  | _ => ("EarwigPost$Findings", "tally", "LEarwigPost$Tally;", true)
def tyX0 : Nat → FieldType := fun k => match k with
  | 0 => .object "EarwigPost$Office"
  | 1 => .array .int
  | 2 => .array .int
  | _ => .object "EarwigPost$Tally"
theorem nmX0 : ∀ a, a < 4 → ∀ b, b < 4 → a ≠ b → (TX0 a).2.1 ≠ (TX0 b).2.1 := by decide +kernel
theorem tyX0_ok : ∀ k, k < 4 → parseFieldDescriptor (TX0 k).2.2.1 = some (tyX0 k) := by decide +kernel
abbrev cX0_init : ByteArray := prog_2_method_1_code
def yX0_init : MethodName := ⟨RX0, "<init>", "(LEarwigPost$Office;)V"⟩
def RX1 : String := "EarwigPost$Foresight"
def TX1 : u_T := fun k => match k with
  | 0 => ("EarwigPost$Foresight", "office", "LEarwigPost$Office;", true)
  | 1 => ("EarwigPost$Foresight", "trial", "LEarwigPost$Office;", true)
  | 2 => ("EarwigPost$Foresight", "gains", "[I", true)
  | 3 => ("EarwigPost$Foresight", "bestBehind", "[I", true)
  | 4 => ("EarwigPost$Foresight", "firstGets", "[I", true)
  | _ => ("EarwigPost$Foresight", "secondGets", "[I", true)
def tyX1 : Nat → FieldType := fun k => match k with
  | 0 => .object "EarwigPost$Office"
  | 1 => .object "EarwigPost$Office"
  | 2 => .array .int
  | 3 => .array .int
  | 4 => .array .int
  | _ => .array .int
theorem nmX1 : ∀ a, a < 6 → ∀ b, b < 6 → a ≠ b → (TX1 a).2.1 ≠ (TX1 b).2.1 := by decide +kernel
theorem tyX1_ok : ∀ k, k < 6 → parseFieldDescriptor (TX1 k).2.2.1 = some (tyX1 k) := by decide +kernel
abbrev cX1_init : ByteArray := prog_3_method_1_code
def yX1_init : MethodName := ⟨RX1, "<init>", "(LEarwigPost$Office;)V"⟩
def RX2 : String := "EarwigPost$Image"
def TX2 : u_T := fun k => match k with
  | 0 => ("EarwigPost$Image", "kept", "LEarwigPost$Office;", true)
  | _ => ("EarwigPost$Image", "wasKept", "Z", false)
def tyX2 : Nat → FieldType := fun k => match k with
  | 0 => .object "EarwigPost$Office"
  | _ => .boolean
theorem nmX2 : ∀ a, a < 2 → ∀ b, b < 2 → a ≠ b → (TX2 a).2.1 ≠ (TX2 b).2.1 := by decide +kernel
theorem tyX2_ok : ∀ k, k < 2 → parseFieldDescriptor (TX2 k).2.2.1 = some (tyX2 k) := by decide +kernel
abbrev cX2_init : ByteArray := prog_4_method_1_code
def yX2_init : MethodName := ⟨RX2, "<init>", "()V"⟩
def RX3 : String := "EarwigPost$Ledger"
def TX3 : u_T := fun k => match k with
  | 0 => ("EarwigPost$Ledger", "wide", "I", true)
  | 1 => ("EarwigPost$Ledger", "cells", "[I", true)
  | _ => ("EarwigPost$Ledger", "rows", "I", false)
def tyX3 : Nat → FieldType := fun k => match k with
  | 0 => .int
  | 1 => .array .int
  | _ => .int
theorem nmX3 : ∀ a, a < 3 → ∀ b, b < 3 → a ≠ b → (TX3 a).2.1 ≠ (TX3 b).2.1 := by decide +kernel
theorem tyX3_ok : ∀ k, k < 3 → parseFieldDescriptor (TX3 k).2.2.1 = some (tyX3 k) := by decide +kernel
abbrev cX3_init : ByteArray := prog_5_method_1_code
def yX3_init : MethodName := ⟨RX3, "<init>", "(II)V"⟩
def RX4 : String := "EarwigPost$Office"
def TX4 : u_T := fun k => match k with
  | 0 => ("EarwigPost$Office", "sleepers", "LEarwigPost$Ledger;", true)
  | 1 => ("EarwigPost$Office", "flowers", "LEarwigPost$Ledger;", true)
  | 2 => ("EarwigPost$Office", "roses", "LEarwigPost$Ledger;", true)
  | 3 => ("EarwigPost$Office", "notes", "LEarwigPost$Ledger;", true)
  | 4 => ("EarwigPost$Office", "marks", "LEarwigPost$Ledger;", true)
  | 5 => ("EarwigPost$Office", "moments", "LEarwigPost$Ledger;", true)
  | _ => ("EarwigPost$Office", "night", "I", false)
def tyX4 : Nat → FieldType := fun k => match k with
  | 0 => .object "EarwigPost$Ledger"
  | 1 => .object "EarwigPost$Ledger"
  | 2 => .object "EarwigPost$Ledger"
  | 3 => .object "EarwigPost$Ledger"
  | 4 => .object "EarwigPost$Ledger"
  | 5 => .object "EarwigPost$Ledger"
  | _ => .int
theorem nmX4 : ∀ a, a < 7 → ∀ b, b < 7 → a ≠ b → (TX4 a).2.1 ≠ (TX4 b).2.1 := by decide +kernel
theorem tyX4_ok : ∀ k, k < 7 → parseFieldDescriptor (TX4 k).2.2.1 = some (tyX4 k) := by decide +kernel
abbrev cX4_init : ByteArray := prog_6_method_1_code
def yX4_init : MethodName := ⟨RX4, "<init>", "()V"⟩
def RX5 : String := "EarwigPost$Reader"
def TX5 : u_T := fun k => match k with
  | 0 => ("EarwigPost$Reader", "text", "LEarwigPost$Ledger;", true)
  | 1 => ("EarwigPost$Reader", "tokens", "LEarwigPost$Ledger;", true)
  | 2 => ("EarwigPost$Reader", "items", "LEarwigPost$Ledger;", true)
  | 3 => ("EarwigPost$Reader", "place", "I", false)
  | 4 => ("EarwigPost$Reader", "now", "I", false)
  | 5 => ("EarwigPost$Reader", "toldSleepers", "I", false)
  | _ => ("EarwigPost$Reader", "toldFlowers", "I", false)
def tyX5 : Nat → FieldType := fun k => match k with
  | 0 => .object "EarwigPost$Ledger"
  | 1 => .object "EarwigPost$Ledger"
  | 2 => .object "EarwigPost$Ledger"
  | 3 => .int
  | 4 => .int
  | 5 => .int
  | _ => .int
theorem nmX5 : ∀ a, a < 7 → ∀ b, b < 7 → a ≠ b → (TX5 a).2.1 ≠ (TX5 b).2.1 := by decide +kernel
theorem tyX5_ok : ∀ k, k < 7 → parseFieldDescriptor (TX5 k).2.2.1 = some (tyX5 k) := by decide +kernel
abbrev cX5_init : ByteArray := prog_7_method_1_code
def yX5_init : MethodName := ⟨RX5, "<init>", "(LEarwigPost$Ledger;)V"⟩
def RX6 : String := "EarwigPost$Tally"
def TX6 : u_T := fun k => match k with
  | 0 => ("EarwigPost$Tally", "seen", "[I", true)
  | 1 => ("EarwigPost$Tally", "highest", "I", false)
  | 2 => ("EarwigPost$Tally", "most", "I", false)
  | 3 => ("EarwigPost$Tally", "bestLook", "I", false)
  | _ => ("EarwigPost$Tally", "fewest", "I", false)
def tyX6 : Nat → FieldType := fun k => match k with
  | 0 => .array .int
  | 1 => .int
  | 2 => .int
  | 3 => .int
  | _ => .int
theorem nmX6 : ∀ a, a < 5 → ∀ b, b < 5 → a ≠ b → (TX6 a).2.1 ≠ (TX6 b).2.1 := by decide +kernel
theorem tyX6_ok : ∀ k, k < 5 → parseFieldDescriptor (TX6 k).2.2.1 = some (tyX6 k) := by decide +kernel
abbrev cX6_init : ByteArray := prog_8_method_1_code
def yX6_init : MethodName := ⟨RX6, "<init>", "()V"⟩
def RX7 : String := "EarwigPost"
def TX7 : u_T := fun k => match k with
  | 0 => ("EarwigPost", "here", "LEarwigPost$Office;", true)
  | 1 => ("EarwigPost", "imageZero", "LEarwigPost$Image;", true)
  | 2 => ("EarwigPost", "imageOne", "LEarwigPost$Image;", true)
  | 3 => ("EarwigPost", "text", "LEarwigPost$Ledger;", true)
  | 4 => ("EarwigPost", "reader", "LEarwigPost$Reader;", true)
  | 5 => ("EarwigPost", "foresight", "LEarwigPost$Foresight;", true)
  | 6 => ("EarwigPost", "findings", "LEarwigPost$Findings;", true)
  | 7 => ("EarwigPost", "above", "I", false)
  | 8 => ("EarwigPost", "below", "I", false)
  | 9 => ("EarwigPost", "badOnes", "I", false)
  | 10 => ("EarwigPost", "noOnes", "I", false)
  | _ => ("EarwigPost", "fullOnes", "I", false)
def tyX7 : Nat → FieldType := fun k => match k with
  | 0 => .object "EarwigPost$Office"
  | 1 => .object "EarwigPost$Image"
  | 2 => .object "EarwigPost$Image"
  | 3 => .object "EarwigPost$Ledger"
  | 4 => .object "EarwigPost$Reader"
  | 5 => .object "EarwigPost$Foresight"
  | 6 => .object "EarwigPost$Findings"
  | 7 => .int
  | 8 => .int
  | 9 => .int
  | 10 => .int
  | _ => .int
theorem nmX7 : ∀ a, a < 12 → ∀ b, b < 12 → a ≠ b → (TX7 a).2.1 ≠ (TX7 b).2.1 := by decide +kernel
theorem tyX7_ok : ∀ k, k < 12 → parseFieldDescriptor (TX7 k).2.2.1 = some (tyX7 k) := by decide +kernel
abbrev cX7_init : ByteArray := prog_1_method_1_code
def yX7_init : MethodName := ⟨RX7, "<init>", "()V"⟩
def yX7_within : MethodName := ⟨RX7, "within", "(III)Z"⟩
def yX7_at : MethodName := ⟨RX7, "at", "([II)I"⟩
def yX7_put : MethodName := ⟨RX7, "put", "([III)V"⟩
def yX7_holds : MethodName := ⟨RX7, "holds", "(II)Z"⟩
def yX7_loudness : MethodName := ⟨RX7, "loudness", "(III)I"⟩
def yX7_belief : MethodName := ⟨RX7, "belief", "(III)I"⟩
def RX8 : String := "EarwigPostModel"
def TX8 : u_T := fun k => match k with
  | 0 => ("EarwigPostModel", "all", "[I", true)
  | 1 => ("EarwigPostModel", "kept", "[I", true)
  | 2 => ("EarwigPostModel", "isKept", "[Z", true)
  | 3 => ("EarwigPostModel", "refused", "[I", true)
  | 4 => ("EarwigPostModel", "above", "J", false)
  | 5 => ("EarwigPostModel", "below", "J", false)
  | 6 => ("EarwigPostModel", "hand", "[I", true)
  | 7 => ("EarwigPostModel", "bestLies", "[I", true)
  | 8 => ("EarwigPostModel", "sets", "[I", true)
  | 9 => ("EarwigPostModel", "beliefs", "[I", true)
  | 10 => ("EarwigPostModel", "tells", "[I", true)
  | 11 => ("EarwigPostModel", "bytes", "[I", true)
  | 12 => ("EarwigPostModel", "bytesLong", "I", false)
  | 13 => ("EarwigPostModel", "tokenAt", "I", false)
  | 14 => ("EarwigPostModel", "tokenLong", "I", false)
  | 15 => ("EarwigPostModel", "token", "I", false)
  | 16 => ("EarwigPostModel", "value", "I", false)
  | 17 => ("EarwigPostModel", "anew", "[I", true)
  | _ => ("EarwigPostModel", "values", "[I", true)
def tyX8 : Nat → FieldType := fun k => match k with
  | 0 => .array .int
  | 1 => .array .int
  | 2 => .array .boolean
  | 3 => .array .int
  | 4 => .long
  | 5 => .long
  | 6 => .array .int
  | 7 => .array .int
  | 8 => .array .int
  | 9 => .array .int
  | 10 => .array .int
  | 11 => .array .int
  | 12 => .int
  | 13 => .int
  | 14 => .int
  | 15 => .int
  | 16 => .int
  | 17 => .array .int
  | _ => .array .int
theorem nmX8 : ∀ a, a < 19 → ∀ b, b < 19 → a ≠ b → (TX8 a).2.1 ≠ (TX8 b).2.1 := by decide +kernel
theorem tyX8_ok : ∀ k, k < 19 → parseFieldDescriptor (TX8 k).2.2.1 = some (tyX8 k) := by decide +kernel
abbrev cX8_init : ByteArray := prog_10_method_1_code
def yX8_init : MethodName := ⟨RX8, "<init>", "()V"⟩
abbrev cX8_begin : ByteArray := prog_10_method_8_code
def yX8_begin : MethodName := ⟨RX8, "begin", "([I)V"⟩
def RL : String := "EarwigPostLaw"
abbrev cL_law : ByteArray := code
abbrev vwCl : List vw_C := [(RX0, TX0, 4), (RX1, TX1, 6), (RX2, TX2, 2), (RX3, TX3, 3), (RX4, TX4, 7), (RX5, TX5, 7), (RX6, TX6, 5), (RX7, TX7, 12), (RX8, TX8, 19)]
