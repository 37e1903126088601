def RX0 : String := "CubicBench$Big"
def TX0 : u_T := fun k => match k with
  | 0 => ("CubicBench$Big", "parts", "[I", true)
  | 1 => ("CubicBench$Big", "length", "I", false)
  | _ => ("CubicBench$Big", "below", "Z", false)
def tyX0 : Nat → FieldType := fun k => match k with
  | 0 => .array .int
  | 1 => .int
  | _ => .boolean
abbrev wsX00 : List Cond := u_ws RX0 TX0 3
theorem nmX0 : ∀ a, a < 3 → ∀ b, b < 3 → a ≠ b → (TX0 a).2.1 ≠ (TX0 b).2.1 := by decide +kernel
theorem tyX0_ok : ∀ k, k < 3 → parseFieldDescriptor (TX0 k).2.2.1 = some (tyX0 k) := by decide +kernel
def dfX0 : List Value := [.null, .int 0, .int 0]
theorem dfX0_ok : ∀ j, j < 3 → defaultValue (tyX0 j) = vp_V dfX0 j := by decide +kernel
def RX1 : String := "CubicBench$Chain"
def TX1 : u_T := fun k => match k with
  | 0 => ("CubicBench$Chain", "squared", "[Z", true)
  | 1 => ("CubicBench$Chain", "kinds", "[I", true)
  | 2 => ("CubicBench$Chain", "places", "[J", true)
  | 3 => ("CubicBench$Chain", "slopes", "[J", true)
  | 4 => ("CubicBench$Chain", "ends", "[J", true)
  | _ => ("CubicBench$Chain", "held", "I", false)
def tyX1 : Nat → FieldType := fun k => match k with
  | 0 => .array .boolean
  | 1 => .array .int
  | 2 => .array .long
  | 3 => .array .long
  | 4 => .array .long
  | _ => .int
abbrev wsX10 : List Cond := u_ws RX1 TX1 6
theorem nmX1 : ∀ a, a < 6 → ∀ b, b < 6 → a ≠ b → (TX1 a).2.1 ≠ (TX1 b).2.1 := by decide +kernel
theorem tyX1_ok : ∀ k, k < 6 → parseFieldDescriptor (TX1 k).2.2.1 = some (tyX1 k) := by decide +kernel
def dfX1 : List Value := [.null, .null, .null, .null, .null, .int 0]
theorem dfX1_ok : ∀ j, j < 6 → defaultValue (tyX1 j) = vp_V dfX1 j := by decide +kernel
def RX2 : String := "CubicBench$Curve"
def TX2 : u_T := fun k => match k with
  | 0 => ("CubicBench$Curve", "a", "I", true)
  | 1 => ("CubicBench$Curve", "b", "I", true)
  | 2 => ("CubicBench$Curve", "p", "I", true)
  | _ => ("CubicBench$Curve", "points", "I", false)
def tyX2 : Nat → FieldType := fun k => match k with
  | 0 => .int
  | 1 => .int
  | 2 => .int
  | _ => .int
abbrev wsX20 : List Cond := u_ws RX2 TX2 4
theorem nmX2 : ∀ a, a < 4 → ∀ b, b < 4 → a ≠ b → (TX2 a).2.1 ≠ (TX2 b).2.1 := by decide +kernel
theorem tyX2_ok : ∀ k, k < 4 → parseFieldDescriptor (TX2 k).2.2.1 = some (tyX2 k) := by decide +kernel
def dfX2 : List Value := [.int 0, .int 0, .int 0, .int 0]
theorem dfX2_ok : ∀ j, j < 4 → defaultValue (tyX2 j) = vp_V dfX2 j := by decide +kernel
def RX3 : String := "CubicBench$Division"
def TX3 : u_T := fun k => match k with
  | 0 => ("CubicBench$Division", "rows", "[[J", true)
  | 1 => ("CubicBench$Division", "cubicSquare", "[J", true)
  | 2 => ("CubicBench$Division", "left", "[J", true)
  | 3 => ("CubicBench$Division", "right", "[J", true)
  | 4 => ("CubicBench$Division", "spare", "[J", true)
  | 5 => ("CubicBench$Division", "roots", "[I", true)
  | 6 => ("CubicBench$Division", "rootsHeld", "I", false)
  | 7 => ("CubicBench$Division", "rootsKnown", "Z", false)
  | 8 => ("CubicBench$Division", "of", "LCubicBench$Curve;", false)
  | 9 => ("CubicBench$Division", "known", "I", false)
  | 10 => ("CubicBench$Division", "latest", "I", false)
  | 11 => ("CubicBench$Division", "p", "I", false)
  | _ => ("CubicBench$Division", "degree", "I", false)
def tyX3 : Nat → FieldType := fun k => match k with
  | 0 => .array (.array .long)
  | 1 => .array .long
  | 2 => .array .long
  | 3 => .array .long
  | 4 => .array .long
  | 5 => .array .int
  | 6 => .int
  | 7 => .boolean
  | 8 => .object "CubicBench$Curve"
  | 9 => .int
  | 10 => .int
  | 11 => .int
  | _ => .int
abbrev wsX30 : List Cond := u_ws RX3 TX3 13
theorem nmX3 : ∀ a, a < 13 → ∀ b, b < 13 → a ≠ b → (TX3 a).2.1 ≠ (TX3 b).2.1 := by decide +kernel
theorem tyX3_ok : ∀ k, k < 13 → parseFieldDescriptor (TX3 k).2.2.1 = some (tyX3 k) := by decide +kernel
def dfX3 : List Value := [.null, .null, .null, .null, .null, .null, .int 0, .int 0, .null, .int 0, .int 0, .int 0, .int 0]
theorem dfX3_ok : ∀ j, j < 13 → defaultValue (tyX3 j) = vp_V dfX3 j := by decide +kernel
def RX4 : String := "CubicBench$Fractions"
def TX4 : u_T := fun k => match k with
  | 0 => ("CubicBench$Fractions", "result", "LCubicBench$Spot;", false)
  | 1 => ("CubicBench$Fractions", "next", "LCubicBench$Spot;", false)
  | 2 => ("CubicBench$Fractions", "base", "LCubicBench$Spot;", true)
  | 3 => ("CubicBench$Fractions", "firstSquare", "LCubicBench$Big;", true)
  | 4 => ("CubicBench$Fractions", "secondSquare", "LCubicBench$Big;", true)
  | 5 => ("CubicBench$Fractions", "newSquare", "LCubicBench$Big;", true)
  | 6 => ("CubicBench$Fractions", "rise", "LCubicBench$Big;", true)
  | 7 => ("CubicBench$Fractions", "run", "LCubicBench$Big;", true)
  | 8 => ("CubicBench$Fractions", "cut", "LCubicBench$Big;", true)
  | 9 => ("CubicBench$Fractions", "top", "LCubicBench$Big;", true)
  | 10 => ("CubicBench$Fractions", "bottom", "LCubicBench$Big;", true)
  | 11 => ("CubicBench$Fractions", "common", "LCubicBench$Big;", true)
  | 12 => ("CubicBench$Fractions", "one", "LCubicBench$Big;", true)
  | 13 => ("CubicBench$Fractions", "two", "LCubicBench$Big;", true)
  | 14 => ("CubicBench$Fractions", "three", "LCubicBench$Big;", true)
  | 15 => ("CubicBench$Fractions", "four", "LCubicBench$Big;", true)
  | _ => ("CubicBench$Fractions", "factor", "LCubicBench$Big;", true)
def tyX4 : Nat → FieldType := fun k => match k with
  | 0 => .object "CubicBench$Spot"
  | 1 => .object "CubicBench$Spot"
  | 2 => .object "CubicBench$Spot"
  | 3 => .object "CubicBench$Big"
  | 4 => .object "CubicBench$Big"
  | 5 => .object "CubicBench$Big"
  | 6 => .object "CubicBench$Big"
  | 7 => .object "CubicBench$Big"
  | 8 => .object "CubicBench$Big"
  | 9 => .object "CubicBench$Big"
  | 10 => .object "CubicBench$Big"
  | 11 => .object "CubicBench$Big"
  | 12 => .object "CubicBench$Big"
  | 13 => .object "CubicBench$Big"
  | 14 => .object "CubicBench$Big"
  | 15 => .object "CubicBench$Big"
  | _ => .object "CubicBench$Big"
abbrev wsX40 : List Cond := u_ws RX4 TX4 17
theorem nmX4 : ∀ a, a < 17 → ∀ b, b < 17 → a ≠ b → (TX4 a).2.1 ≠ (TX4 b).2.1 := by decide +kernel
theorem tyX4_ok : ∀ k, k < 17 → parseFieldDescriptor (TX4 k).2.2.1 = some (tyX4 k) := by decide +kernel
def dfX4 : List Value := [.null, .null, .null, .null, .null, .null, .null, .null, .null, .null, .null, .null, .null, .null, .null, .null, .null]
theorem dfX4_ok : ∀ j, j < 17 → defaultValue (tyX4 j) = vp_V dfX4 j := by decide +kernel
def RX5 : String := "CubicBench$Lead"
def TX5 : u_T := fun k => match k with
  | 0 => ("CubicBench$Lead", "a", "J", false)
  | 1 => ("CubicBench$Lead", "b", "J", false)
  | 2 => ("CubicBench$Lead", "x", "J", false)
  | 3 => ("CubicBench$Lead", "v", "J", false)
  | _ => ("CubicBench$Lead", "u", "J", false)
def tyX5 : Nat → FieldType := fun k => match k with
  | 0 => .long
  | 1 => .long
  | 2 => .long
  | 3 => .long
  | _ => .long
abbrev wsX50 : List Cond := u_ws RX5 TX5 5
theorem nmX5 : ∀ a, a < 5 → ∀ b, b < 5 → a ≠ b → (TX5 a).2.1 ≠ (TX5 b).2.1 := by decide +kernel
theorem tyX5_ok : ∀ k, k < 5 → parseFieldDescriptor (TX5 k).2.2.1 = some (tyX5 k) := by decide +kernel
def dfX5 : List Value := [.long 0, .long 0, .long 0, .long 0, .long 0]
theorem dfX5_ok : ∀ j, j < 5 → defaultValue (tyX5 j) = vp_V dfX5 j := by decide +kernel
def RX6 : String := "CubicBench$Listing"
def TX6 : u_T := fun k => match k with
  | 0 => ("CubicBench$Listing", "roots", "[I", true)
  | 1 => ("CubicBench$Listing", "codes", "[J", true)
  | 2 => ("CubicBench$Listing", "reached", "[B", true)
  | 3 => ("CubicBench$Listing", "held", "I", false)
  | 4 => ("CubicBench$Listing", "listed", "LCubicBench$Curve;", false)
  | 5 => ("CubicBench$Listing", "grouped", "LCubicBench$Curve;", false)
  | 6 => ("CubicBench$Listing", "longest", "I", false)
  | 7 => ("CubicBench$Listing", "across", "I", false)
  | 8 => ("CubicBench$Listing", "firstMaker", "J", false)
  | 9 => ("CubicBench$Listing", "secondMaker", "J", false)
  | _ => ("CubicBench$Listing", "hasSecond", "Z", false)
def tyX6 : Nat → FieldType := fun k => match k with
  | 0 => .array .int
  | 1 => .array .long
  | 2 => .array .byte
  | 3 => .int
  | 4 => .object "CubicBench$Curve"
  | 5 => .object "CubicBench$Curve"
  | 6 => .int
  | 7 => .int
  | 8 => .long
  | 9 => .long
  | _ => .boolean
abbrev wsX60 : List Cond := u_ws RX6 TX6 11
theorem nmX6 : ∀ a, a < 11 → ∀ b, b < 11 → a ≠ b → (TX6 a).2.1 ≠ (TX6 b).2.1 := by decide +kernel
theorem tyX6_ok : ∀ k, k < 11 → parseFieldDescriptor (TX6 k).2.2.1 = some (tyX6 k) := by decide +kernel
def dfX6 : List Value := [.null, .null, .null, .int 0, .null, .null, .int 0, .int 0, .long 0, .long 0, .int 0]
theorem dfX6_ok : ∀ j, j < 11 → defaultValue (tyX6 j) = vp_V dfX6 j := by decide +kernel
def RX7 : String := "CubicBench$Rests"
def TX7 : u_T := fun k => match k with
  | _ => ("CubicBench$Rests", "steps", "[J", true)
def tyX7 : Nat → FieldType := fun k => match k with
  | _ => .array .long
abbrev wsX70 : List Cond := u_ws RX7 TX7 1
theorem nmX7 : ∀ a, a < 1 → ∀ b, b < 1 → a ≠ b → (TX7 a).2.1 ≠ (TX7 b).2.1 := by decide +kernel
theorem tyX7_ok : ∀ k, k < 1 → parseFieldDescriptor (TX7 k).2.2.1 = some (tyX7 k) := by decide +kernel
def dfX7 : List Value := [.null]
theorem dfX7_ok : ∀ j, j < 1 → defaultValue (tyX7 j) = vp_V dfX7 j := by decide +kernel
def RX8 : String := "CubicBench$Searching"
def TX8 : u_T := fun k => match k with
  | 0 => ("CubicBench$Searching", "rs", "[I", false)
  | 1 => ("CubicBench$Searching", "ss", "[I", false)
  | 2 => ("CubicBench$Searching", "ts", "[J", false)
  | _ => ("CubicBench$Searching", "held", "I", false)
def tyX8 : Nat → FieldType := fun k => match k with
  | 0 => .array .int
  | 1 => .array .int
  | 2 => .array .long
  | _ => .int
abbrev wsX80 : List Cond := u_ws RX8 TX8 4
theorem nmX8 : ∀ a, a < 4 → ∀ b, b < 4 → a ≠ b → (TX8 a).2.1 ≠ (TX8 b).2.1 := by decide +kernel
theorem tyX8_ok : ∀ k, k < 4 → parseFieldDescriptor (TX8 k).2.2.1 = some (tyX8 k) := by decide +kernel
def dfX8 : List Value := [.null, .null, .null, .int 0]
theorem dfX8_ok : ∀ j, j < 4 → defaultValue (tyX8 j) = vp_V dfX8 j := by decide +kernel
def RX9 : String := "CubicBench$Spot"
def TX9 : u_T := fun k => match k with
  | 0 => ("CubicBench$Spot", "curve", "I", false)
  | 1 => ("CubicBench$Spot", "far", "Z", false)
  | 2 => ("CubicBench$Spot", "code", "J", false)
  | 3 => ("CubicBench$Spot", "\x72", "LCubicBench$Big;", true)
  | 4 => ("CubicBench$Spot", "t", "LCubicBench$Big;", true)
  | _ => ("CubicBench$Spot", "e", "LCubicBench$Big;", true)
def tyX9 : Nat → FieldType := fun k => match k with
  | 0 => .int
  | 1 => .boolean
  | 2 => .long
  | 3 => .object "CubicBench$Big"
  | 4 => .object "CubicBench$Big"
  | _ => .object "CubicBench$Big"
abbrev wsX90 : List Cond := u_ws RX9 TX9 6
theorem nmX9 : ∀ a, a < 6 → ∀ b, b < 6 → a ≠ b → (TX9 a).2.1 ≠ (TX9 b).2.1 := by decide +kernel
theorem tyX9_ok : ∀ k, k < 6 → parseFieldDescriptor (TX9 k).2.2.1 = some (tyX9 k) := by decide +kernel
def dfX9 : List Value := [.int 0, .int 0, .long 0, .null, .null, .null]
theorem dfX9_ok : ∀ j, j < 6 → defaultValue (tyX9 j) = vp_V dfX9 j := by decide +kernel
def RX10 : String := "CubicBench$Torsion"
def TX10 : u_T := fun k => match k with
  | 0 => ("CubicBench$Torsion", "xs", "[J", true)
  | 1 => ("CubicBench$Torsion", "ys", "[J", true)
  | 2 => ("CubicBench$Torsion", "held", "I", false)
  | _ => ("CubicBench$Torsion", "of", "LCubicBench$Curve;", false)
def tyX10 : Nat → FieldType := fun k => match k with
  | 0 => .array .long
  | 1 => .array .long
  | 2 => .int
  | _ => .object "CubicBench$Curve"
abbrev wsX100 : List Cond := u_ws RX10 TX10 4
theorem nmX10 : ∀ a, a < 4 → ∀ b, b < 4 → a ≠ b → (TX10 a).2.1 ≠ (TX10 b).2.1 := by decide +kernel
theorem tyX10_ok : ∀ k, k < 4 → parseFieldDescriptor (TX10 k).2.2.1 = some (tyX10 k) := by decide +kernel
def dfX10 : List Value := [.null, .null, .int 0, .null]
theorem dfX10_ok : ∀ j, j < 4 → defaultValue (tyX10 j) = vp_V dfX10 j := by decide +kernel
def RX11 : String := "CubicBench"
def TX11 : u_T := fun k => match k with
  | 0 => ("CubicBench", "curves", "[LCubicBench$Curve;", true)
  | 1 => ("CubicBench", "curvesHeld", "I", false)
  | 2 => ("CubicBench", "spots", "[LCubicBench$Spot;", true)
  | 3 => ("CubicBench", "spotsHeld", "I", false)
  | 4 => ("CubicBench", "page", "[B", true)
  | 5 => ("CubicBench", "pageLength", "I", false)
  | 6 => ("CubicBench", "asked", "LCubicBench$Spot;", true)
  | 7 => ("CubicBench", "fractions", "LCubicBench$Fractions;", true)
  | 8 => ("CubicBench", "rests", "LCubicBench$Rests;", true)
  | 9 => ("CubicBench", "torsion", "LCubicBench$Torsion;", true)
  | 10 => ("CubicBench", "searching", "LCubicBench$Searching;", true)
  | 11 => ("CubicBench", "listing", "LCubicBench$Listing;", true)
  | 12 => ("CubicBench", "firstChain", "LCubicBench$Chain;", true)
  | 13 => ("CubicBench", "secondChain", "LCubicBench$Chain;", true)
  | 14 => ("CubicBench", "division", "LCubicBench$Division;", true)
  | _ => ("CubicBench", "lead", "LCubicBench$Lead;", true)
def tyX11 : Nat → FieldType := fun k => match k with
  | 0 => .array (.object "CubicBench$Curve")
  | 1 => .int
  | 2 => .array (.object "CubicBench$Spot")
  | 3 => .int
  | 4 => .array .byte
  | 5 => .int
  | 6 => .object "CubicBench$Spot"
  | 7 => .object "CubicBench$Fractions"
  | 8 => .object "CubicBench$Rests"
  | 9 => .object "CubicBench$Torsion"
  | 10 => .object "CubicBench$Searching"
  | 11 => .object "CubicBench$Listing"
  | 12 => .object "CubicBench$Chain"
  | 13 => .object "CubicBench$Chain"
  | 14 => .object "CubicBench$Division"
  | _ => .object "CubicBench$Lead"
abbrev wsX110 : List Cond := u_ws RX11 TX11 16
theorem nmX11 : ∀ a, a < 16 → ∀ b, b < 16 → a ≠ b → (TX11 a).2.1 ≠ (TX11 b).2.1 := by decide +kernel
theorem tyX11_ok : ∀ k, k < 16 → parseFieldDescriptor (TX11 k).2.2.1 = some (tyX11 k) := by decide +kernel
def dfX11 : List Value := [.null, .int 0, .null, .int 0, .null, .int 0, .null, .null, .null, .null, .null, .null, .null, .null, .null, .null]
theorem dfX11_ok : ∀ j, j < 16 → defaultValue (tyX11 j) = vp_V dfX11 j := by decide +kernel
def RX12 : String := "CubicBenchModel$Frac"
def TX12 : u_T := fun k => match k with
  | 0 => ("CubicBenchModel$Frac", "u", "LCubicBenchModel$Num;", true)
  | _ => ("CubicBenchModel$Frac", "l", "LCubicBenchModel$Num;", true)
def tyX12 : Nat → FieldType := fun k => match k with
  | 0 => .object "CubicBenchModel$Num"
  | _ => .object "CubicBenchModel$Num"
abbrev wsX120 : List Cond := u_ws RX12 TX12 2
theorem nmX12 : ∀ a, a < 2 → ∀ b, b < 2 → a ≠ b → (TX12 a).2.1 ≠ (TX12 b).2.1 := by decide +kernel
theorem tyX12_ok : ∀ k, k < 2 → parseFieldDescriptor (TX12 k).2.2.1 = some (tyX12 k) := by decide +kernel
def dfX12 : List Value := [.null, .null]
theorem dfX12_ok : ∀ j, j < 2 → defaultValue (tyX12 j) = vp_V dfX12 j := by decide +kernel
def RX13 : String := "CubicBenchModel$Num"
def TX13 : u_T := fun k => match k with
  | 0 => ("CubicBenchModel$Num", "d", "[I", true)
  | 1 => ("CubicBenchModel$Num", "n", "I", false)
  | _ => ("CubicBenchModel$Num", "less", "Z", false)
def tyX13 : Nat → FieldType := fun k => match k with
  | 0 => .array .int
  | 1 => .int
  | _ => .boolean
abbrev wsX130 : List Cond := u_ws RX13 TX13 3
theorem nmX13 : ∀ a, a < 3 → ∀ b, b < 3 → a ≠ b → (TX13 a).2.1 ≠ (TX13 b).2.1 := by decide +kernel
theorem tyX13_ok : ∀ k, k < 3 → parseFieldDescriptor (TX13 k).2.2.1 = some (tyX13 k) := by decide +kernel
def dfX13 : List Value := [.null, .int 0, .int 0]
theorem dfX13_ok : ∀ j, j < 3 → defaultValue (tyX13 j) = vp_V dfX13 j := by decide +kernel
def RX14 : String := "CubicBenchModel$Pt"
def TX14 : u_T := fun k => match k with
  | 0 => ("CubicBenchModel$Pt", "far", "Z", false)
  | 1 => ("CubicBenchModel$Pt", "x", "LCubicBenchModel$Frac;", true)
  | 2 => ("CubicBenchModel$Pt", "y", "LCubicBenchModel$Frac;", true)
  | 3 => ("CubicBenchModel$Pt", "rx", "J", false)
  | _ => ("CubicBenchModel$Pt", "ry", "J", false)
def tyX14 : Nat → FieldType := fun k => match k with
  | 0 => .boolean
  | 1 => .object "CubicBenchModel$Frac"
  | 2 => .object "CubicBenchModel$Frac"
  | 3 => .long
  | _ => .long
abbrev wsX140 : List Cond := u_ws RX14 TX14 5
theorem nmX14 : ∀ a, a < 5 → ∀ b, b < 5 → a ≠ b → (TX14 a).2.1 ≠ (TX14 b).2.1 := by decide +kernel
theorem tyX14_ok : ∀ k, k < 5 → parseFieldDescriptor (TX14 k).2.2.1 = some (tyX14 k) := by decide +kernel
def dfX14 : List Value := [.int 0, .null, .null, .long 0, .long 0]
theorem dfX14_ok : ∀ j, j < 5 → defaultValue (tyX14 j) = vp_V dfX14 j := by decide +kernel
def RX15 : String := "CubicBenchModel"
def TX15 : u_T := fun k => match k with
  | 0 => ("CubicBenchModel", "thrown", "I", false)
  | 1 => ("CubicBenchModel", "n0", "LCubicBenchModel$Num;", true)
  | 2 => ("CubicBenchModel", "n1", "LCubicBenchModel$Num;", true)
  | 3 => ("CubicBenchModel", "g0", "LCubicBenchModel$Num;", true)
  | 4 => ("CubicBenchModel", "g1", "LCubicBenchModel$Num;", true)
  | 5 => ("CubicBenchModel", "g2", "LCubicBenchModel$Num;", true)
  | 6 => ("CubicBenchModel", "g3", "LCubicBenchModel$Num;", true)
  | 7 => ("CubicBenchModel", "ten", "LCubicBenchModel$Num;", true)
  | 8 => ("CubicBenchModel", "ca", "[J", true)
  | 9 => ("CubicBenchModel", "cb", "[J", true)
  | 10 => ("CubicBenchModel", "cp", "[I", true)
  | 11 => ("CubicBenchModel", "cMany", "[I", true)
  | 12 => ("CubicBenchModel", "cubics", "I", false)
  | 13 => ("CubicBenchModel", "squares", "[Z", false)
  | 14 => ("CubicBenchModel", "squaresOf", "I", false)
  | 15 => ("CubicBenchModel", "pc", "[I", true)
  | 16 => ("CubicBenchModel", "pFar", "[Z", true)
  | 17 => ("CubicBenchModel", "px", "[I", true)
  | 18 => ("CubicBenchModel", "py", "[I", true)
  | 19 => ("CubicBenchModel", "digits", "[I", true)
  | 20 => ("CubicBenchModel", "digitMany", "[I", true)
  | 21 => ("CubicBenchModel", "digitLess", "[Z", true)
  | 22 => ("CubicBenchModel", "points", "I", false)
  | 23 => ("CubicBenchModel", "same", "LCubicBenchModel$Pt;", true)
  | 24 => ("CubicBenchModel", "s0", "LCubicBenchModel$Frac;", true)
  | 25 => ("CubicBenchModel", "s1", "LCubicBenchModel$Frac;", true)
  | 26 => ("CubicBenchModel", "s2", "LCubicBenchModel$Frac;", true)
  | 27 => ("CubicBenchModel", "s3", "LCubicBenchModel$Frac;", true)
  | 28 => ("CubicBenchModel", "sum", "LCubicBenchModel$Pt;", true)
  | 29 => ("CubicBenchModel", "acc", "LCubicBenchModel$Pt;", true)
  | 30 => ("CubicBenchModel", "one", "LCubicBenchModel$Pt;", true)
  | 31 => ("CubicBenchModel", "wa", "LCubicBenchModel$Pt;", true)
  | 32 => ("CubicBenchModel", "wb", "LCubicBenchModel$Pt;", true)
  | 33 => ("CubicBenchModel", "page", "[B", true)
  | 34 => ("CubicBenchModel", "paged", "I", false)
  | 35 => ("CubicBenchModel", "isBacked", "[Z", true)
  | 36 => ("CubicBenchModel", "backMany", "[I", true)
  | 37 => ("CubicBenchModel", "backX", "[[I", true)
  | 38 => ("CubicBenchModel", "backY", "[[I", true)
  | 39 => ("CubicBenchModel", "fr", "[I", true)
  | 40 => ("CubicBenchModel", "fs", "[I", true)
  | 41 => ("CubicBenchModel", "ft", "[J", true)
  | 42 => ("CubicBenchModel", "founds", "I", false)
  | 43 => ("CubicBenchModel", "lx", "[I", true)
  | 44 => ("CubicBenchModel", "ly", "[I", true)
  | 45 => ("CubicBenchModel", "listed", "I", false)
  | 46 => ("CubicBenchModel", "listedOf", "I", false)
  | 47 => ("CubicBenchModel", "isGrouped", "[Z", true)
  | 48 => ("CubicBenchModel", "groupN", "[I", true)
  | 49 => ("CubicBenchModel", "makerOne", "[I", true)
  | 50 => ("CubicBenchModel", "makerTwo", "[I", true)
  | 51 => ("CubicBenchModel", "isOf", "[Z", true)
  | 52 => ("CubicBenchModel", "lineSum", "LCubicBenchModel$Pt;", true)
  | 53 => ("CubicBenchModel", "run", "LCubicBenchModel$Pt;", true)
  | 54 => ("CubicBenchModel", "next", "LCubicBenchModel$Pt;", true)
  | 55 => ("CubicBenchModel", "pp", "LCubicBenchModel$Pt;", true)
  | 56 => ("CubicBenchModel", "pq", "LCubicBenchModel$Pt;", true)
  | 57 => ("CubicBenchModel", "ps", "LCubicBenchModel$Pt;", true)
  | 58 => ("CubicBenchModel", "pr", "LCubicBenchModel$Pt;", true)
  | 59 => ("CubicBenchModel", "pt", "LCubicBenchModel$Pt;", true)
  | 60 => ("CubicBenchModel", "poly", "[J", true)
  | 61 => ("CubicBenchModel", "pa", "[J", true)
  | 62 => ("CubicBenchModel", "pb", "[J", true)
  | 63 => ("CubicBenchModel", "pd", "[J", true)
  | 64 => ("CubicBenchModel", "cube", "[J", true)
  | 65 => ("CubicBenchModel", "polyOf", "I", false)
  | 66 => ("CubicBenchModel", "polyBy", "I", false)
  | 67 => ("CubicBenchModel", "work", "[J", true)
  | 68 => ("CubicBenchModel", "ledA", "J", false)
  | 69 => ("CubicBenchModel", "ledB", "J", false)
  | 70 => ("CubicBenchModel", "ledV", "J", false)
  | 71 => ("CubicBenchModel", "ledU", "J", false)
  | 72 => ("CubicBenchModel", "ledOrder", "I", false)
  | _ => ("CubicBenchModel", "th", "LCubicBenchModel$Pt;", true)
def tyX15 : Nat → FieldType := fun k => match k with
  | 0 => .int
  | 1 => .object "CubicBenchModel$Num"
  | 2 => .object "CubicBenchModel$Num"
  | 3 => .object "CubicBenchModel$Num"
  | 4 => .object "CubicBenchModel$Num"
  | 5 => .object "CubicBenchModel$Num"
  | 6 => .object "CubicBenchModel$Num"
  | 7 => .object "CubicBenchModel$Num"
  | 8 => .array .long
  | 9 => .array .long
  | 10 => .array .int
  | 11 => .array .int
  | 12 => .int
  | 13 => .array .boolean
  | 14 => .int
  | 15 => .array .int
  | 16 => .array .boolean
  | 17 => .array .int
  | 18 => .array .int
  | 19 => .array .int
  | 20 => .array .int
  | 21 => .array .boolean
  | 22 => .int
  | 23 => .object "CubicBenchModel$Pt"
  | 24 => .object "CubicBenchModel$Frac"
  | 25 => .object "CubicBenchModel$Frac"
  | 26 => .object "CubicBenchModel$Frac"
  | 27 => .object "CubicBenchModel$Frac"
  | 28 => .object "CubicBenchModel$Pt"
  | 29 => .object "CubicBenchModel$Pt"
  | 30 => .object "CubicBenchModel$Pt"
  | 31 => .object "CubicBenchModel$Pt"
  | 32 => .object "CubicBenchModel$Pt"
  | 33 => .array .byte
  | 34 => .int
  | 35 => .array .boolean
  | 36 => .array .int
  | 37 => .array (.array .int)
  | 38 => .array (.array .int)
  | 39 => .array .int
  | 40 => .array .int
  | 41 => .array .long
  | 42 => .int
  | 43 => .array .int
  | 44 => .array .int
  | 45 => .int
  | 46 => .int
  | 47 => .array .boolean
  | 48 => .array .int
  | 49 => .array .int
  | 50 => .array .int
  | 51 => .array .boolean
  | 52 => .object "CubicBenchModel$Pt"
  | 53 => .object "CubicBenchModel$Pt"
  | 54 => .object "CubicBenchModel$Pt"
  | 55 => .object "CubicBenchModel$Pt"
  | 56 => .object "CubicBenchModel$Pt"
  | 57 => .object "CubicBenchModel$Pt"
  | 58 => .object "CubicBenchModel$Pt"
  | 59 => .object "CubicBenchModel$Pt"
  | 60 => .array .long
  | 61 => .array .long
  | 62 => .array .long
  | 63 => .array .long
  | 64 => .array .long
  | 65 => .int
  | 66 => .int
  | 67 => .array .long
  | 68 => .long
  | 69 => .long
  | 70 => .long
  | 71 => .long
  | 72 => .int
  | _ => .object "CubicBenchModel$Pt"
abbrev wsX150 : List Cond := u_ws RX15 TX15 74
theorem nmX15 : ∀ a, a < 74 → ∀ b, b < 74 → a ≠ b → (TX15 a).2.1 ≠ (TX15 b).2.1 := by decide +kernel
theorem tyX15_ok : ∀ k, k < 74 → parseFieldDescriptor (TX15 k).2.2.1 = some (tyX15 k) := by decide +kernel
def dfX15 : List Value := [.int 0, .null, .null, .null, .null, .null, .null, .null, .null, .null, .null, .null, .int 0, .null, .int 0, .null, .null, .null, .null, .null, .null, .null, .int 0, .null, .null, .null, .null, .null, .null, .null, .null, .null, .null, .null, .int 0, .null, .null, .null, .null, .null, .null, .null, .int 0, .null, .null, .int 0, .int 0, .null, .null, .null, .null, .null, .null, .null, .null, .null, .null, .null, .null, .null, .null, .null, .null, .null, .null, .int 0, .int 0, .null, .long 0, .long 0, .long 0, .long 0, .int 0, .null]
theorem dfX15_ok : ∀ j, j < 74 → defaultValue (tyX15 j) = vp_V dfX15 j := by decide +kernel
def RL : String := "CubicBenchLaw"
abbrev cX0_init : ByteArray := prog_2_method_1_code
def yX0_init : MethodName := ⟨RX0, "<init>", "(I)V"⟩
abbrev cX9_init : ByteArray := prog_11_method_1_code
def yX9_init : MethodName := ⟨RX9, "<init>", "(I)V"⟩
abbrev cX1_init : ByteArray := prog_3_method_1_code
def yX1_init : MethodName := ⟨RX1, "<init>", "()V"⟩
abbrev cX5_init : ByteArray := prog_7_method_1_code
def yX5_init : MethodName := ⟨RX5, "<init>", "()V"⟩
abbrev cX6_init : ByteArray := prog_8_method_1_code
def yX6_init : MethodName := ⟨RX6, "<init>", "()V"⟩
abbrev cX7_init : ByteArray := prog_9_method_1_code
def yX7_init : MethodName := ⟨RX7, "<init>", "()V"⟩
abbrev cX10_init : ByteArray := prog_12_method_1_code
def yX10_init : MethodName := ⟨RX10, "<init>", "()V"⟩
abbrev cX3_init : ByteArray := prog_5_method_1_code
def yX3_init : MethodName := ⟨RX3, "<init>", "()V"⟩
abbrev cX8_init : ByteArray := prog_10_method_1_code
def yX8_init : MethodName := ⟨RX8, "<init>", "()V"⟩
abbrev cX4_init : ByteArray := prog_6_method_1_code
def yX4_init : MethodName := ⟨RX4, "<init>", "()V"⟩
abbrev cX13_init : ByteArray := prog_16_method_1_code
def yX13_init : MethodName := ⟨RX13, "<init>", "()V"⟩
abbrev cX12_init : ByteArray := prog_15_method_1_code
def yX12_init : MethodName := ⟨RX12, "<init>", "()V"⟩
abbrev cX14_init : ByteArray := prog_17_method_1_code
def yX14_init : MethodName := ⟨RX14, "<init>", "()V"⟩
abbrev cX2_init : ByteArray := prog_4_method_1_code
def yX2_init : MethodName := ⟨RX2, "<init>", "(III)V"⟩
abbrev cX11_init : ByteArray := prog_1_method_1_code
def yX11_init : MethodName := ⟨RX11, "<init>", "()V"⟩
abbrev cX15_init : ByteArray := prog_14_method_1_code
def yX15_init : MethodName := ⟨RX15, "<init>", "()V"⟩
abbrev cX15_isCubic : ByteArray := prog_14_method_18_code
def yX15_isCubic : MethodName := ⟨RX15, "isCubic", "(I)Z"⟩
abbrev cX15_isPoint : ByteArray := prog_14_method_35_code
def yX15_isPoint : MethodName := ⟨RX15, "isPoint", "(I)Z"⟩
abbrev cX15_isRest : ByteArray := prog_14_method_62_code
def yX15_isRest : MethodName := ⟨RX15, "isRest", "(IIZ)Z"⟩
abbrev cX15_rest : ByteArray := prog_14_method_21_code
def yX15_rest : MethodName := ⟨RX15, "rest", "(II)I"⟩
abbrev cX15_turned : ByteArray := prog_14_method_23_code
def yX15_turned : MethodName := ⟨RX15, "turned", "(I)I"⟩
abbrev cX15_about : ByteArray := prog_14_method_24_code
def yX15_about : MethodName := ⟨RX15, "about", "(II)J"⟩
abbrev cX15_far : ByteArray := prog_14_method_36_code
def yX15_far : MethodName := ⟨RX15, "far", "(I)I"⟩
abbrev cX15_point : ByteArray := prog_14_method_37_code
def yX15_point : MethodName := ⟨RX15, "point", "(III)I"⟩
abbrev cX15_add : ByteArray := prog_14_method_40_code
def yX15_add : MethodName := ⟨RX15, "add", "(II)I"⟩
abbrev cX15_mirror : ByteArray := prog_14_method_41_code
def yX15_mirror : MethodName := ⟨RX15, "mirror", "(I)I"⟩
abbrev cX15_times : ByteArray := prog_14_method_42_code
def yX15_times : MethodName := ⟨RX15, "times", "(II)I"⟩
abbrev cX15_order : ByteArray := prog_14_method_44_code
def yX15_order : MethodName := ⟨RX15, "order", "(I)I"⟩
abbrev cX15_told : ByteArray := prog_14_method_45_code
def yX15_told : MethodName := ⟨RX15, "told", "(II)I"⟩
abbrev cX15_print : ByteArray := prog_14_method_48_code
def yX15_print : MethodName := ⟨RX15, "print", "(II)I"⟩
abbrev cX15_back : ByteArray := prog_14_method_55_code
def yX15_back : MethodName := ⟨RX15, "back", "(I)I"⟩
abbrev cX15_backAt : ByteArray := prog_14_method_56_code
def yX15_backAt : MethodName := ⟨RX15, "backAt", "(II)I"⟩
abbrev cX15_search : ByteArray := prog_14_method_59_code
def yX15_search : MethodName := ⟨RX15, "search", "(II)I"⟩
abbrev cX15_count : ByteArray := prog_14_method_63_code
def yX15_count : MethodName := ⟨RX15, "count", "(I)I"⟩
abbrev cX15_over : ByteArray := prog_14_method_64_code
def yX15_over : MethodName := ⟨RX15, "over", "(II)J"⟩
abbrev cX15_list : ByteArray := prog_14_method_67_code
def yX15_list : MethodName := ⟨RX15, "list", "(II)I"⟩
abbrev cX15_group : ByteArray := prog_14_method_72_code
def yX15_group : MethodName := ⟨RX15, "group", "(II)I"⟩
abbrev cX15_pair : ByteArray := prog_14_method_76_code
def yX15_pair : MethodName := ⟨RX15, "pair", "(III)I"⟩
abbrev cX15_polynomial : ByteArray := prog_14_method_84_code
def yX15_polynomial : MethodName := ⟨RX15, "polynomial", "(II)I"⟩
abbrev cX15_led : ByteArray := prog_14_method_91_code
def yX15_led : MethodName := ⟨RX15, "led", "(I)I"⟩
abbrev cX15_through : ByteArray := prog_14_method_92_code
def yX15_through : MethodName := ⟨RX15, "through", "(II)I"⟩
abbrev cX15_found : ByteArray := prog_14_method_60_code
def yX15_found : MethodName := ⟨RX15, "found", "(II)J"⟩
abbrev cX15_coefficient : ByteArray := prog_14_method_86_code
def yX15_coefficient : MethodName := ⟨RX15, "coefficient", "(I)I"⟩
abbrev cX15_root : ByteArray := prog_14_method_87_code
def yX15_root : MethodName := ⟨RX15, "root", "(I)I"⟩
abbrev cX15_octet : ByteArray := prog_14_method_49_code
def yX15_octet : MethodName := ⟨RX15, "octet", "(I)I"⟩
abbrev cX15_counted : ByteArray := prog_14_method_50_code
def yX15_counted : MethodName := ⟨RX15, "counted", "(I)I"⟩
