/-! printed by my own program (wip/gen): classes, fields, cells -/
def xF0 : u_T := fun k => match k with
  | 0 => ("CentrifugeUnit$Control", "rotors", "LCentrifugeUnit$Rotors;", true)
  | 1 => ("CentrifugeUnit$Control", "program", "LCentrifugeUnit$Program;", true)
  | 2 => ("CentrifugeUnit$Control", "sensors", "LCentrifugeUnit$Sensors;", true)
  | 3 => ("CentrifugeUnit$Control", "lid", "LCentrifugeUnit$Lid;", true)
  | 4 => ("CentrifugeUnit$Control", "records", "LCentrifugeUnit$Records;", true)
  | 5 => ("CentrifugeUnit$Control", "watch", "LCentrifugeUnit$Watch;", true)
  | 6 => ("CentrifugeUnit$Control", "run", "LCentrifugeUnit$Run;", true)
  | 7 => ("CentrifugeUnit$Control", "powered", "Z", false)
  | 8 => ("CentrifugeUnit$Control", "chamberCenti", "I", false)
  | 9 => ("CentrifugeUnit$Control", "state", "I", false)
  | 10 => ("CentrifugeUnit$Control", "reason", "I", false)
  | 11 => ("CentrifugeUnit$Control", "drive", "I", false)
  | 12 => ("CentrifugeUnit$Control", "brake", "I", false)
  | _ => ("CentrifugeUnit$Control", "coilFed", "Z", false)
def xT0 : Nat → FieldType := fun k => match k with
  | 0 => .object "CentrifugeUnit$Rotors"
  | 1 => .object "CentrifugeUnit$Program"
  | 2 => .object "CentrifugeUnit$Sensors"
  | 3 => .object "CentrifugeUnit$Lid"
  | 4 => .object "CentrifugeUnit$Records"
  | 5 => .object "CentrifugeUnit$Watch"
  | 6 => .object "CentrifugeUnit$Run"
  | 7 => .boolean
  | 8 => .int
  | 9 => .int
  | 10 => .int
  | 11 => .int
  | 12 => .int
  | _ => .boolean
set_option maxRecDepth 20000 in
theorem xNm0 : ∀ a, a < 14 → ∀ b, b < 14 → a ≠ b → (xF0 a).2.1 ≠ (xF0 b).2.1 := by decide +kernel
set_option maxRecDepth 20000 in
theorem xTo0 : ∀ k, k < 14 → parseFieldDescriptor (xF0 k).2.2.1 = some (xT0 k) := by decide +kernel
def xF1 : u_T := fun k => match k with
  | 0 => ("CentrifugeUnit$Lid", "contactA", "Z", false)
  | 1 => ("CentrifugeUnit$Lid", "contactB", "Z", false)
  | _ => ("CentrifugeUnit$Lid", "coilTicksLeft", "I", false)
def xT1 : Nat → FieldType := fun k => match k with
  | 0 => .boolean
  | 1 => .boolean
  | _ => .int
set_option maxRecDepth 20000 in
theorem xNm1 : ∀ a, a < 3 → ∀ b, b < 3 → a ≠ b → (xF1 a).2.1 ≠ (xF1 b).2.1 := by decide +kernel
set_option maxRecDepth 20000 in
theorem xTo1 : ∀ k, k < 3 → parseFieldDescriptor (xF1 k).2.2.1 = some (xT1 k) := by decide +kernel
def xF2 : u_T := fun k => match k with
  | _ => ("CentrifugeUnit$Model", "speed", "J", false)
def xT2 : Nat → FieldType := fun k => match k with
  | _ => .long
set_option maxRecDepth 20000 in
theorem xNm2 : ∀ a, a < 1 → ∀ b, b < 1 → a ≠ b → (xF2 a).2.1 ≠ (xF2 b).2.1 := by decide +kernel
set_option maxRecDepth 20000 in
theorem xTo2 : ∀ k, k < 1 → parseFieldDescriptor (xF2 k).2.2.1 = some (xT2 k) := by decide +kernel
def xF3 : u_T := fun k => match k with
  | 0 => ("CentrifugeUnit$Program", "kinds", "[I", true)
  | 1 => ("CentrifugeUnit$Program", "firsts", "[I", true)
  | 2 => ("CentrifugeUnit$Program", "seconds", "[I", true)
  | _ => ("CentrifugeUnit$Program", "count", "I", false)
def xT3 : Nat → FieldType := fun k => match k with
  | 0 => .array .int
  | 1 => .array .int
  | 2 => .array .int
  | _ => .int
set_option maxRecDepth 20000 in
theorem xNm3 : ∀ a, a < 4 → ∀ b, b < 4 → a ≠ b → (xF3 a).2.1 ≠ (xF3 b).2.1 := by decide +kernel
set_option maxRecDepth 20000 in
theorem xTo3 : ∀ k, k < 4 → parseFieldDescriptor (xF3 k).2.2.1 = some (xT3 k) := by decide +kernel
def xF4 : u_T := fun k => match k with
  | 0 => ("CentrifugeUnit$Records", "reasons", "[I", true)
  | 1 => ("CentrifugeUnit$Records", "doses", "[J", true)
  | 2 => ("CentrifugeUnit$Records", "speeds", "[I", true)
  | _ => ("CentrifugeUnit$Records", "total", "I", false)
def xT4 : Nat → FieldType := fun k => match k with
  | 0 => .array .int
  | 1 => .array .long
  | 2 => .array .int
  | _ => .int
set_option maxRecDepth 20000 in
theorem xNm4 : ∀ a, a < 4 → ∀ b, b < 4 → a ≠ b → (xF4 a).2.1 ≠ (xF4 b).2.1 := by decide +kernel
set_option maxRecDepth 20000 in
theorem xTo4 : ∀ k, k < 4 → parseFieldDescriptor (xF4 k).2.2.1 = some (xT4 k) := by decide +kernel
def xF5 : u_T := fun k => match k with
  | 0 => ("CentrifugeUnit$Rotors", "patterns", "[I", true)
  | 1 => ("CentrifugeUnit$Rotors", "radii", "[I", true)
  | 2 => ("CentrifugeUnit$Rotors", "limits", "[I", true)
  | 3 => ("CentrifugeUnit$Rotors", "inertias", "[I", true)
  | _ => ("CentrifugeUnit$Rotors", "in", "I", false)
def xT5 : Nat → FieldType := fun k => match k with
  | 0 => .array .int
  | 1 => .array .int
  | 2 => .array .int
  | 3 => .array .int
  | _ => .int
set_option maxRecDepth 20000 in
theorem xNm5 : ∀ a, a < 5 → ∀ b, b < 5 → a ≠ b → (xF5 a).2.1 ≠ (xF5 b).2.1 := by decide +kernel
set_option maxRecDepth 20000 in
theorem xTo5 : ∀ k, k < 5 → parseFieldDescriptor (xF5 k).2.2.1 = some (xT5 k) := by decide +kernel
def xF6 : u_T := fun k => match k with
  | 0 => ("CentrifugeUnit$Run", "dose", "J", false)
  | 1 => ("CentrifugeUnit$Run", "turns", "J", false)
  | 2 => ("CentrifugeUnit$Run", "rotorRead", "I", false)
  | 3 => ("CentrifugeUnit$Run", "wrongPattern", "Z", false)
  | 4 => ("CentrifugeUnit$Run", "greatest", "I", false)
  | 5 => ("CentrifugeUnit$Run", "at", "I", false)
  | 6 => ("CentrifugeUnit$Run", "ticksInSegment", "I", false)
  | _ => ("CentrifugeUnit$Run", "goal", "I", false)
def xT6 : Nat → FieldType := fun k => match k with
  | 0 => .long
  | 1 => .long
  | 2 => .int
  | 3 => .boolean
  | 4 => .int
  | 5 => .int
  | 6 => .int
  | _ => .int
set_option maxRecDepth 20000 in
theorem xNm6 : ∀ a, a < 8 → ∀ b, b < 8 → a ≠ b → (xF6 a).2.1 ≠ (xF6 b).2.1 := by decide +kernel
set_option maxRecDepth 20000 in
theorem xTo6 : ∀ k, k < 8 → parseFieldDescriptor (xF6 k).2.2.1 = some (xT6 k) := by decide +kernel
def xF7 : u_T := fun k => match k with
  | 0 => ("CentrifugeUnit$Sensors", "tachoTells", "I", false)
  | 1 => ("CentrifugeUnit$Sensors", "commutatorTells", "I", false)
  | 2 => ("CentrifugeUnit$Sensors", "tachoSpeed", "I", false)
  | 3 => ("CentrifugeUnit$Sensors", "commutatorSpeed", "I", false)
  | 4 => ("CentrifugeUnit$Sensors", "used", "I", false)
  | _ => ("CentrifugeUnit$Sensors", "lesser", "I", false)
def xT7 : Nat → FieldType := fun k => match k with
  | 0 => .int
  | 1 => .int
  | 2 => .int
  | 3 => .int
  | 4 => .int
  | _ => .int
set_option maxRecDepth 20000 in
theorem xNm7 : ∀ a, a < 6 → ∀ b, b < 6 → a ≠ b → (xF7 a).2.1 ≠ (xF7 b).2.1 := by decide +kernel
set_option maxRecDepth 20000 in
theorem xTo7 : ∀ k, k < 6 → parseFieldDescriptor (xF7 k).2.2.1 = some (xT7 k) := by decide +kernel
def xF8 : u_T := fun k => match k with
  | 0 => ("CentrifugeUnit$Watch", "shaking", "I", false)
  | 1 => ("CentrifugeUnit$Watch", "restRow", "I", false)
  | 2 => ("CentrifugeUnit$Watch", "shakingRow", "I", false)
  | _ => ("CentrifugeUnit$Watch", "differingRow", "I", false)
def xT8 : Nat → FieldType := fun k => match k with
  | 0 => .int
  | 1 => .int
  | 2 => .int
  | _ => .int
set_option maxRecDepth 20000 in
theorem xNm8 : ∀ a, a < 4 → ∀ b, b < 4 → a ≠ b → (xF8 a).2.1 ≠ (xF8 b).2.1 := by decide +kernel
set_option maxRecDepth 20000 in
theorem xTo8 : ∀ k, k < 4 → parseFieldDescriptor (xF8 k).2.2.1 = some (xT8 k) := by decide +kernel
def xF9 : u_T := fun k => match k with
  | 0 => ("CentrifugeUnit", "rotors", "LCentrifugeUnit$Rotors;", true)
  | 1 => ("CentrifugeUnit", "program", "LCentrifugeUnit$Program;", true)
  | 2 => ("CentrifugeUnit", "model", "LCentrifugeUnit$Model;", true)
  | 3 => ("CentrifugeUnit", "sensors", "LCentrifugeUnit$Sensors;", true)
  | 4 => ("CentrifugeUnit", "lid", "LCentrifugeUnit$Lid;", true)
  | 5 => ("CentrifugeUnit", "records", "LCentrifugeUnit$Records;", true)
  | _ => ("CentrifugeUnit", "control", "LCentrifugeUnit$Control;", true)
def xT9 : Nat → FieldType := fun k => match k with
  | 0 => .object "CentrifugeUnit$Rotors"
  | 1 => .object "CentrifugeUnit$Program"
  | 2 => .object "CentrifugeUnit$Model"
  | 3 => .object "CentrifugeUnit$Sensors"
  | 4 => .object "CentrifugeUnit$Lid"
  | 5 => .object "CentrifugeUnit$Records"
  | _ => .object "CentrifugeUnit$Control"
set_option maxRecDepth 20000 in
theorem xNm9 : ∀ a, a < 7 → ∀ b, b < 7 → a ≠ b → (xF9 a).2.1 ≠ (xF9 b).2.1 := by decide +kernel
set_option maxRecDepth 20000 in
theorem xTo9 : ∀ k, k < 7 → parseFieldDescriptor (xF9 k).2.2.1 = some (xT9 k) := by decide +kernel
def xF10 : u_T := fun k => match k with
  | 0 => ("CentrifugeUnitModel", "thrown", "I", false)
  | 1 => ("CentrifugeUnitModel", "told", "[Z", true)
  | 2 => ("CentrifugeUnitModel", "pattern", "[I", true)
  | 3 => ("CentrifugeUnitModel", "radius", "[I", true)
  | 4 => ("CentrifugeUnitModel", "limit", "[I", true)
  | 5 => ("CentrifugeUnitModel", "inertia", "[I", true)
  | 6 => ("CentrifugeUnitModel", "inside", "I", false)
  | 7 => ("CentrifugeUnitModel", "kind", "[I", true)
  | 8 => ("CentrifugeUnitModel", "goalOf", "[I", true)
  | 9 => ("CentrifugeUnitModel", "slope", "[I", true)
  | 10 => ("CentrifugeUnitModel", "segments", "I", false)
  | 11 => ("CentrifugeUnitModel", "speed", "J", false)
  | 12 => ("CentrifugeUnitModel", "drive", "I", false)
  | 13 => ("CentrifugeUnitModel", "brake", "I", false)
  | 14 => ("CentrifugeUnitModel", "fed", "Z", false)
  | 15 => ("CentrifugeUnitModel", "coil", "I", false)
  | 16 => ("CentrifugeUnitModel", "tacho", "I", false)
  | 17 => ("CentrifugeUnitModel", "counter", "I", false)
  | 18 => ("CentrifugeUnitModel", "first", "J", false)
  | 19 => ("CentrifugeUnitModel", "second", "J", false)
  | 20 => ("CentrifugeUnitModel", "used", "J", false)
  | 21 => ("CentrifugeUnitModel", "power", "Z", false)
  | 22 => ("CentrifugeUnitModel", "state", "I", false)
  | 23 => ("CentrifugeUnitModel", "reason", "I", false)
  | 24 => ("CentrifugeUnitModel", "segment", "I", false)
  | 25 => ("CentrifugeUnitModel", "passed", "I", false)
  | 26 => ("CentrifugeUnitModel", "goal", "J", false)
  | 27 => ("CentrifugeUnitModel", "dose", "J", false)
  | 28 => ("CentrifugeUnitModel", "sum", "J", false)
  | 29 => ("CentrifugeUnitModel", "any", "Z", false)
  | 30 => ("CentrifugeUnitModel", "firstPattern", "I", false)
  | 31 => ("CentrifugeUnitModel", "rotor", "I", false)
  | 32 => ("CentrifugeUnitModel", "wrongPattern", "Z", false)
  | 33 => ("CentrifugeUnitModel", "resting", "I", false)
  | 34 => ("CentrifugeUnitModel", "shaking", "I", false)
  | 35 => ("CentrifugeUnitModel", "apart", "I", false)
  | 36 => ("CentrifugeUnitModel", "contactA", "Z", false)
  | 37 => ("CentrifugeUnitModel", "contactB", "Z", false)
  | 38 => ("CentrifugeUnitModel", "level", "I", false)
  | 39 => ("CentrifugeUnitModel", "chamber", "I", false)
  | 40 => ("CentrifugeUnitModel", "greatest", "J", false)
  | 41 => ("CentrifugeUnitModel", "records", "I", false)
  | 42 => ("CentrifugeUnitModel", "reasonOf", "[J", true)
  | 43 => ("CentrifugeUnitModel", "doseOf", "[J", true)
  | _ => ("CentrifugeUnitModel", "greatestOf", "[J", true)
def xT10 : Nat → FieldType := fun k => match k with
  | 0 => .int
  | 1 => .array .boolean
  | 2 => .array .int
  | 3 => .array .int
  | 4 => .array .int
  | 5 => .array .int
  | 6 => .int
  | 7 => .array .int
  | 8 => .array .int
  | 9 => .array .int
  | 10 => .int
  | 11 => .long
  | 12 => .int
  | 13 => .int
  | 14 => .boolean
  | 15 => .int
  | 16 => .int
  | 17 => .int
  | 18 => .long
  | 19 => .long
  | 20 => .long
  | 21 => .boolean
  | 22 => .int
  | 23 => .int
  | 24 => .int
  | 25 => .int
  | 26 => .long
  | 27 => .long
  | 28 => .long
  | 29 => .boolean
  | 30 => .int
  | 31 => .int
  | 32 => .boolean
  | 33 => .int
  | 34 => .int
  | 35 => .int
  | 36 => .boolean
  | 37 => .boolean
  | 38 => .int
  | 39 => .int
  | 40 => .long
  | 41 => .int
  | 42 => .array .long
  | 43 => .array .long
  | _ => .array .long
set_option maxRecDepth 20000 in
theorem xNm10 : ∀ a, a < 45 → ∀ b, b < 45 → a ≠ b → (xF10 a).2.1 ≠ (xF10 b).2.1 := by decide +kernel
set_option maxRecDepth 20000 in
theorem xTo10 : ∀ k, k < 45 → parseFieldDescriptor (xF10 k).2.2.1 = some (xT10 k) := by decide +kernel
abbrev xcl : List vw_C := [("CentrifugeUnit$Control", xF0, 14), ("CentrifugeUnit$Lid", xF1, 3), ("CentrifugeUnit$Model", xF2, 1), ("CentrifugeUnit$Program", xF3, 4), ("CentrifugeUnit$Records", xF4, 4), ("CentrifugeUnit$Rotors", xF5, 5), ("CentrifugeUnit$Run", xF6, 8), ("CentrifugeUnit$Sensors", xF7, 6), ("CentrifugeUnit$Watch", xF8, 4), ("CentrifugeUnit", xF9, 7), ("CentrifugeUnitModel", xF10, 45)]
abbrev xc0 (Z : Nat → ClassId) (A : Nat → Nat) (M : XM) : va_E := .inr (9, [.ref (A 1), .ref (A 6), .ref (A 10), .ref (A 11), .ref (A 12), .ref (A 13), .ref (A 17)])
abbrev xc1 (Z : Nat → ClassId) (A : Nat → Nat) (M : XM) : va_E := .inr (5, [.ref (A 2), .ref (A 3), .ref (A 4), .ref (A 5), .int (M.1 0)])
abbrev xc2 (Z : Nat → ClassId) (A : Nat → Nat) (M : XM) : va_E := .inl (Z 0, 4, .inl (M.2.2.1 2))
abbrev xc3 (Z : Nat → ClassId) (A : Nat → Nat) (M : XM) : va_E := .inl (Z 0, 4, .inl (M.2.2.1 3))
abbrev xc4 (Z : Nat → ClassId) (A : Nat → Nat) (M : XM) : va_E := .inl (Z 0, 4, .inl (M.2.2.1 4))
abbrev xc5 (Z : Nat → ClassId) (A : Nat → Nat) (M : XM) : va_E := .inl (Z 0, 4, .inl (M.2.2.1 5))
abbrev xc6 (Z : Nat → ClassId) (A : Nat → Nat) (M : XM) : va_E := .inr (3, [.ref (A 7), .ref (A 8), .ref (A 9), .int (M.1 1)])
abbrev xc7 (Z : Nat → ClassId) (A : Nat → Nat) (M : XM) : va_E := .inl (Z 0, 12, .inl (M.2.2.1 7))
abbrev xc8 (Z : Nat → ClassId) (A : Nat → Nat) (M : XM) : va_E := .inl (Z 0, 12, .inl (M.2.2.1 8))
abbrev xc9 (Z : Nat → ClassId) (A : Nat → Nat) (M : XM) : va_E := .inl (Z 0, 12, .inl (M.2.2.1 9))
abbrev xc10 (Z : Nat → ClassId) (A : Nat → Nat) (M : XM) : va_E := .inr (2, [.long (M.2.1 0)])
abbrev xc11 (Z : Nat → ClassId) (A : Nat → Nat) (M : XM) : va_E := .inr (7, [.int (M.1 2), .int (M.1 3), .int (M.1 4), .int (M.1 5), .int (M.1 6), .int (M.1 7)])
abbrev xc12 (Z : Nat → ClassId) (A : Nat → Nat) (M : XM) : va_E := .inr (1, [.int (M.1 8), .int (M.1 9), .int (M.1 10)])
abbrev xc13 (Z : Nat → ClassId) (A : Nat → Nat) (M : XM) : va_E := .inr (4, [.ref (A 14), .ref (A 15), .ref (A 16), .int (M.1 11)])
abbrev xc14 (Z : Nat → ClassId) (A : Nat → Nat) (M : XM) : va_E := .inl (Z 0, 16, .inl (M.2.2.1 14))
abbrev xc15 (Z : Nat → ClassId) (A : Nat → Nat) (M : XM) : va_E := .inl (Z 1, 16, .inr (.inl (M.2.2.2 15)))
abbrev xc16 (Z : Nat → ClassId) (A : Nat → Nat) (M : XM) : va_E := .inl (Z 0, 16, .inl (M.2.2.1 16))
abbrev xc17 (Z : Nat → ClassId) (A : Nat → Nat) (M : XM) : va_E := .inr (0, [.ref (A 1), .ref (A 6), .ref (A 11), .ref (A 12), .ref (A 13), .ref (A 18), .ref (A 19), .int (M.1 12), .int (M.1 13), .int (M.1 14), .int (M.1 15), .int (M.1 16), .int (M.1 17), .int (M.1 18)])
abbrev xc18 (Z : Nat → ClassId) (A : Nat → Nat) (M : XM) : va_E := .inr (8, [.int (M.1 19), .int (M.1 20), .int (M.1 21), .int (M.1 22)])
abbrev xc19 (Z : Nat → ClassId) (A : Nat → Nat) (M : XM) : va_E := .inr (6, [.long (M.2.1 1), .long (M.2.1 2), .int (M.1 23), .int (M.1 24), .int (M.1 25), .int (M.1 26), .int (M.1 27), .int (M.1 28)])
abbrev xc20 (Z : Nat → ClassId) (A : Nat → Nat) (M : XM) : va_E := .inr (10, [.int (M.1 100), .ref (A 21), .ref (A 22), .ref (A 23), .ref (A 24), .ref (A 25), .int (M.1 101), .ref (A 26), .ref (A 27), .ref (A 28), .int (M.1 102), .long (M.2.1 100), .int (M.1 103), .int (M.1 104), .int (M.1 105), .int (M.1 106), .int (M.1 107), .int (M.1 108), .long (M.2.1 101), .long (M.2.1 102), .long (M.2.1 103), .int (M.1 109), .int (M.1 110), .int (M.1 111), .int (M.1 112), .int (M.1 113), .long (M.2.1 104), .long (M.2.1 105), .long (M.2.1 106), .int (M.1 114), .int (M.1 115), .int (M.1 116), .int (M.1 117), .int (M.1 118), .int (M.1 119), .int (M.1 120), .int (M.1 121), .int (M.1 122), .int (M.1 123), .int (M.1 124), .long (M.2.1 107), .int (M.1 125), .ref (A 29), .ref (A 30), .ref (A 31)])
abbrev xc21 (Z : Nat → ClassId) (A : Nat → Nat) (M : XM) : va_E := .inl (Z 2, 4, .inl (M.2.2.1 21))
abbrev xc22 (Z : Nat → ClassId) (A : Nat → Nat) (M : XM) : va_E := .inl (Z 0, 4, .inl (M.2.2.1 22))
abbrev xc23 (Z : Nat → ClassId) (A : Nat → Nat) (M : XM) : va_E := .inl (Z 0, 4, .inl (M.2.2.1 23))
abbrev xc24 (Z : Nat → ClassId) (A : Nat → Nat) (M : XM) : va_E := .inl (Z 0, 4, .inl (M.2.2.1 24))
abbrev xc25 (Z : Nat → ClassId) (A : Nat → Nat) (M : XM) : va_E := .inl (Z 0, 4, .inl (M.2.2.1 25))
abbrev xc26 (Z : Nat → ClassId) (A : Nat → Nat) (M : XM) : va_E := .inl (Z 0, 12, .inl (M.2.2.1 26))
abbrev xc27 (Z : Nat → ClassId) (A : Nat → Nat) (M : XM) : va_E := .inl (Z 0, 12, .inl (M.2.2.1 27))
abbrev xc28 (Z : Nat → ClassId) (A : Nat → Nat) (M : XM) : va_E := .inl (Z 0, 12, .inl (M.2.2.1 28))
abbrev xc29 (Z : Nat → ClassId) (A : Nat → Nat) (M : XM) : va_E := .inl (Z 1, 16, .inr (.inl (M.2.2.2 29)))
abbrev xc30 (Z : Nat → ClassId) (A : Nat → Nat) (M : XM) : va_E := .inl (Z 1, 16, .inr (.inl (M.2.2.2 30)))
abbrev xc31 (Z : Nat → ClassId) (A : Nat → Nat) (M : XM) : va_E := .inl (Z 1, 16, .inr (.inl (M.2.2.2 31)))
abbrev xc32 (Z : Nat → ClassId) (A : Nat → Nat) (M : XM) : va_E := .inl (Z 1, 1, .inr (.inl (M.2.2.2 32)))
set_option maxRecDepth 20000 in
theorem tw_1 : Cond.initialized "CentrifugeUnit" ∈ xw := xw_of (List.mem_append_right _ (List.mem_of_getElem? (i := 1) (by decide +kernel))) rfl
set_option maxRecDepth 20000 in
theorem tw_43 : Cond.laysFinal "CentrifugeUnit$Rotors" "CentrifugeUnit$Rotors" "patterns" "[I" ∈ xw := xw_of (List.mem_append_right _ (List.mem_of_getElem? (i := 43) (by decide +kernel))) rfl
set_option maxRecDepth 20000 in
theorem tw_45 : Cond.laysFinal "CentrifugeUnit$Rotors" "CentrifugeUnit$Rotors" "radii" "[I" ∈ xw := xw_of (List.mem_append_right _ (List.mem_of_getElem? (i := 45) (by decide +kernel))) rfl
set_option maxRecDepth 20000 in
theorem tw_47 : Cond.laysFinal "CentrifugeUnit$Rotors" "CentrifugeUnit$Rotors" "limits" "[I" ∈ xw := xw_of (List.mem_append_right _ (List.mem_of_getElem? (i := 47) (by decide +kernel))) rfl
set_option maxRecDepth 20000 in
theorem tw_49 : Cond.laysFinal "CentrifugeUnit$Rotors" "CentrifugeUnit$Rotors" "inertias" "[I" ∈ xw := xw_of (List.mem_append_right _ (List.mem_of_getElem? (i := 49) (by decide +kernel))) rfl
set_option maxRecDepth 20000 in
theorem tw_51 : Cond.lays "CentrifugeUnit$Rotors" "CentrifugeUnit$Rotors" "in" "I" ∈ xw := xw_of (List.mem_append_right _ (List.mem_of_getElem? (i := 51) (by decide +kernel))) rfl
set_option maxRecDepth 20000 in
theorem tw_69 : Cond.laysFinal "CentrifugeUnit$Program" "CentrifugeUnit$Program" "kinds" "[I" ∈ xw := xw_of (List.mem_append_right _ (List.mem_of_getElem? (i := 69) (by decide +kernel))) rfl
set_option maxRecDepth 20000 in
theorem tw_71 : Cond.laysFinal "CentrifugeUnit$Program" "CentrifugeUnit$Program" "firsts" "[I" ∈ xw := xw_of (List.mem_append_right _ (List.mem_of_getElem? (i := 71) (by decide +kernel))) rfl
set_option maxRecDepth 20000 in
theorem tw_73 : Cond.laysFinal "CentrifugeUnit$Program" "CentrifugeUnit$Program" "seconds" "[I" ∈ xw := xw_of (List.mem_append_right _ (List.mem_of_getElem? (i := 73) (by decide +kernel))) rfl
set_option maxRecDepth 20000 in
theorem tw_75 : Cond.lays "CentrifugeUnit$Program" "CentrifugeUnit$Program" "count" "I" ∈ xw := xw_of (List.mem_append_right _ (List.mem_of_getElem? (i := 75) (by decide +kernel))) rfl
set_option maxRecDepth 20000 in
theorem tw_86 : Cond.lays "CentrifugeUnit$Model" "CentrifugeUnit$Model" "speed" "J" ∈ xw := xw_of (List.mem_append_right _ (List.mem_of_getElem? (i := 86) (by decide +kernel))) rfl
set_option maxRecDepth 20000 in
theorem tw_103 : Cond.fieldLink "CentrifugeUnit$Watch" 7 "CentrifugeUnit$Sensors" "used" "I" ∈ xw := xw_of (List.mem_append_right _ (List.mem_of_getElem? (i := 103) (by decide +kernel))) rfl
set_option maxRecDepth 20000 in
theorem tw_107 : Cond.fieldLink "CentrifugeUnit$Watch" 13 "CentrifugeUnit$Sensors" "lesser" "I" ∈ xw := xw_of (List.mem_append_right _ (List.mem_of_getElem? (i := 107) (by decide +kernel))) rfl
set_option maxRecDepth 20000 in
theorem tw_110 : Cond.lays "CentrifugeUnit$Sensors" "CentrifugeUnit$Sensors" "tachoTells" "I" ∈ xw := xw_of (List.mem_append_right _ (List.mem_of_getElem? (i := 110) (by decide +kernel))) rfl
set_option maxRecDepth 20000 in
theorem tw_112 : Cond.lays "CentrifugeUnit$Sensors" "CentrifugeUnit$Sensors" "commutatorTells" "I" ∈ xw := xw_of (List.mem_append_right _ (List.mem_of_getElem? (i := 112) (by decide +kernel))) rfl
set_option maxRecDepth 20000 in
theorem tw_114 : Cond.lays "CentrifugeUnit$Sensors" "CentrifugeUnit$Sensors" "tachoSpeed" "I" ∈ xw := xw_of (List.mem_append_right _ (List.mem_of_getElem? (i := 114) (by decide +kernel))) rfl
set_option maxRecDepth 20000 in
theorem tw_116 : Cond.lays "CentrifugeUnit$Sensors" "CentrifugeUnit$Sensors" "commutatorSpeed" "I" ∈ xw := xw_of (List.mem_append_right _ (List.mem_of_getElem? (i := 116) (by decide +kernel))) rfl
set_option maxRecDepth 20000 in
theorem tw_118 : Cond.lays "CentrifugeUnit$Sensors" "CentrifugeUnit$Sensors" "used" "I" ∈ xw := xw_of (List.mem_append_right _ (List.mem_of_getElem? (i := 118) (by decide +kernel))) rfl
set_option maxRecDepth 20000 in
theorem tw_120 : Cond.lays "CentrifugeUnit$Sensors" "CentrifugeUnit$Sensors" "lesser" "I" ∈ xw := xw_of (List.mem_append_right _ (List.mem_of_getElem? (i := 120) (by decide +kernel))) rfl
set_option maxRecDepth 20000 in
theorem tw_134 : Cond.lays "CentrifugeUnit$Lid" "CentrifugeUnit$Lid" "contactA" "Z" ∈ xw := xw_of (List.mem_append_right _ (List.mem_of_getElem? (i := 134) (by decide +kernel))) rfl
set_option maxRecDepth 20000 in
theorem tw_136 : Cond.lays "CentrifugeUnit$Lid" "CentrifugeUnit$Lid" "contactB" "Z" ∈ xw := xw_of (List.mem_append_right _ (List.mem_of_getElem? (i := 136) (by decide +kernel))) rfl
set_option maxRecDepth 20000 in
theorem tw_138 : Cond.lays "CentrifugeUnit$Lid" "CentrifugeUnit$Lid" "coilTicksLeft" "I" ∈ xw := xw_of (List.mem_append_right _ (List.mem_of_getElem? (i := 138) (by decide +kernel))) rfl
set_option maxRecDepth 20000 in
theorem tw_152 : Cond.laysFinal "CentrifugeUnit$Records" "CentrifugeUnit$Records" "reasons" "[I" ∈ xw := xw_of (List.mem_append_right _ (List.mem_of_getElem? (i := 152) (by decide +kernel))) rfl
set_option maxRecDepth 20000 in
theorem tw_154 : Cond.laysFinal "CentrifugeUnit$Records" "CentrifugeUnit$Records" "doses" "[J" ∈ xw := xw_of (List.mem_append_right _ (List.mem_of_getElem? (i := 154) (by decide +kernel))) rfl
set_option maxRecDepth 20000 in
theorem tw_156 : Cond.laysFinal "CentrifugeUnit$Records" "CentrifugeUnit$Records" "speeds" "[I" ∈ xw := xw_of (List.mem_append_right _ (List.mem_of_getElem? (i := 156) (by decide +kernel))) rfl
set_option maxRecDepth 20000 in
theorem tw_158 : Cond.lays "CentrifugeUnit$Records" "CentrifugeUnit$Records" "total" "I" ∈ xw := xw_of (List.mem_append_right _ (List.mem_of_getElem? (i := 158) (by decide +kernel))) rfl
set_option maxRecDepth 20000 in
theorem tw_174 : Cond.fieldLink "CentrifugeUnit$Watch" 21 "CentrifugeUnit$Watch" "shaking" "I" ∈ xw := xw_of (List.mem_append_right _ (List.mem_of_getElem? (i := 174) (by decide +kernel))) rfl
set_option maxRecDepth 20000 in
theorem tw_176 : Cond.fieldLink "CentrifugeUnit$Watch" 16 "CentrifugeUnit$Watch" "restRow" "I" ∈ xw := xw_of (List.mem_append_right _ (List.mem_of_getElem? (i := 176) (by decide +kernel))) rfl
set_option maxRecDepth 20000 in
theorem tw_177 : Cond.fieldLink "CentrifugeUnit$Watch" 24 "CentrifugeUnit$Watch" "shakingRow" "I" ∈ xw := xw_of (List.mem_append_right _ (List.mem_of_getElem? (i := 177) (by decide +kernel))) rfl
set_option maxRecDepth 20000 in
theorem tw_178 : Cond.fieldLink "CentrifugeUnit$Watch" 27 "CentrifugeUnit$Watch" "differingRow" "I" ∈ xw := xw_of (List.mem_append_right _ (List.mem_of_getElem? (i := 178) (by decide +kernel))) rfl
set_option maxRecDepth 20000 in
theorem tw_179 : Cond.lays "CentrifugeUnit$Watch" "CentrifugeUnit$Watch" "shaking" "I" ∈ xw := xw_of (List.mem_append_right _ (List.mem_of_getElem? (i := 179) (by decide +kernel))) rfl
set_option maxRecDepth 20000 in
theorem tw_181 : Cond.lays "CentrifugeUnit$Watch" "CentrifugeUnit$Watch" "restRow" "I" ∈ xw := xw_of (List.mem_append_right _ (List.mem_of_getElem? (i := 181) (by decide +kernel))) rfl
set_option maxRecDepth 20000 in
theorem tw_183 : Cond.lays "CentrifugeUnit$Watch" "CentrifugeUnit$Watch" "shakingRow" "I" ∈ xw := xw_of (List.mem_append_right _ (List.mem_of_getElem? (i := 183) (by decide +kernel))) rfl
set_option maxRecDepth 20000 in
theorem tw_185 : Cond.lays "CentrifugeUnit$Watch" "CentrifugeUnit$Watch" "differingRow" "I" ∈ xw := xw_of (List.mem_append_right _ (List.mem_of_getElem? (i := 185) (by decide +kernel))) rfl
set_option maxRecDepth 20000 in
theorem tw_214 : Cond.lays "CentrifugeUnit$Run" "CentrifugeUnit$Run" "dose" "J" ∈ xw := xw_of (List.mem_append_right _ (List.mem_of_getElem? (i := 214) (by decide +kernel))) rfl
set_option maxRecDepth 20000 in
theorem tw_216 : Cond.lays "CentrifugeUnit$Run" "CentrifugeUnit$Run" "turns" "J" ∈ xw := xw_of (List.mem_append_right _ (List.mem_of_getElem? (i := 216) (by decide +kernel))) rfl
set_option maxRecDepth 20000 in
theorem tw_218 : Cond.lays "CentrifugeUnit$Run" "CentrifugeUnit$Run" "rotorRead" "I" ∈ xw := xw_of (List.mem_append_right _ (List.mem_of_getElem? (i := 218) (by decide +kernel))) rfl
set_option maxRecDepth 20000 in
theorem tw_220 : Cond.lays "CentrifugeUnit$Run" "CentrifugeUnit$Run" "wrongPattern" "Z" ∈ xw := xw_of (List.mem_append_right _ (List.mem_of_getElem? (i := 220) (by decide +kernel))) rfl
set_option maxRecDepth 20000 in
theorem tw_222 : Cond.lays "CentrifugeUnit$Run" "CentrifugeUnit$Run" "greatest" "I" ∈ xw := xw_of (List.mem_append_right _ (List.mem_of_getElem? (i := 222) (by decide +kernel))) rfl
set_option maxRecDepth 20000 in
theorem tw_224 : Cond.lays "CentrifugeUnit$Run" "CentrifugeUnit$Run" "at" "I" ∈ xw := xw_of (List.mem_append_right _ (List.mem_of_getElem? (i := 224) (by decide +kernel))) rfl
set_option maxRecDepth 20000 in
theorem tw_226 : Cond.lays "CentrifugeUnit$Run" "CentrifugeUnit$Run" "ticksInSegment" "I" ∈ xw := xw_of (List.mem_append_right _ (List.mem_of_getElem? (i := 226) (by decide +kernel))) rfl
set_option maxRecDepth 20000 in
theorem tw_228 : Cond.lays "CentrifugeUnit$Run" "CentrifugeUnit$Run" "goal" "I" ∈ xw := xw_of (List.mem_append_right _ (List.mem_of_getElem? (i := 228) (by decide +kernel))) rfl
set_option maxRecDepth 20000 in
theorem tw_254 : Cond.laysFinal "CentrifugeUnit$Control" "CentrifugeUnit$Control" "rotors" "LCentrifugeUnit$Rotors;" ∈ xw := xw_of (List.mem_append_right _ (List.mem_of_getElem? (i := 254) (by decide +kernel))) rfl
set_option maxRecDepth 20000 in
theorem tw_256 : Cond.laysFinal "CentrifugeUnit$Control" "CentrifugeUnit$Control" "program" "LCentrifugeUnit$Program;" ∈ xw := xw_of (List.mem_append_right _ (List.mem_of_getElem? (i := 256) (by decide +kernel))) rfl
set_option maxRecDepth 20000 in
theorem tw_258 : Cond.laysFinal "CentrifugeUnit$Control" "CentrifugeUnit$Control" "sensors" "LCentrifugeUnit$Sensors;" ∈ xw := xw_of (List.mem_append_right _ (List.mem_of_getElem? (i := 258) (by decide +kernel))) rfl
set_option maxRecDepth 20000 in
theorem tw_260 : Cond.laysFinal "CentrifugeUnit$Control" "CentrifugeUnit$Control" "lid" "LCentrifugeUnit$Lid;" ∈ xw := xw_of (List.mem_append_right _ (List.mem_of_getElem? (i := 260) (by decide +kernel))) rfl
set_option maxRecDepth 20000 in
theorem tw_262 : Cond.laysFinal "CentrifugeUnit$Control" "CentrifugeUnit$Control" "records" "LCentrifugeUnit$Records;" ∈ xw := xw_of (List.mem_append_right _ (List.mem_of_getElem? (i := 262) (by decide +kernel))) rfl
set_option maxRecDepth 20000 in
theorem tw_264 : Cond.laysFinal "CentrifugeUnit$Control" "CentrifugeUnit$Control" "watch" "LCentrifugeUnit$Watch;" ∈ xw := xw_of (List.mem_append_right _ (List.mem_of_getElem? (i := 264) (by decide +kernel))) rfl
set_option maxRecDepth 20000 in
theorem tw_266 : Cond.laysFinal "CentrifugeUnit$Control" "CentrifugeUnit$Control" "run" "LCentrifugeUnit$Run;" ∈ xw := xw_of (List.mem_append_right _ (List.mem_of_getElem? (i := 266) (by decide +kernel))) rfl
set_option maxRecDepth 20000 in
theorem tw_268 : Cond.lays "CentrifugeUnit$Control" "CentrifugeUnit$Control" "powered" "Z" ∈ xw := xw_of (List.mem_append_right _ (List.mem_of_getElem? (i := 268) (by decide +kernel))) rfl
set_option maxRecDepth 20000 in
theorem tw_270 : Cond.lays "CentrifugeUnit$Control" "CentrifugeUnit$Control" "chamberCenti" "I" ∈ xw := xw_of (List.mem_append_right _ (List.mem_of_getElem? (i := 270) (by decide +kernel))) rfl
set_option maxRecDepth 20000 in
theorem tw_272 : Cond.lays "CentrifugeUnit$Control" "CentrifugeUnit$Control" "state" "I" ∈ xw := xw_of (List.mem_append_right _ (List.mem_of_getElem? (i := 272) (by decide +kernel))) rfl
set_option maxRecDepth 20000 in
theorem tw_274 : Cond.lays "CentrifugeUnit$Control" "CentrifugeUnit$Control" "reason" "I" ∈ xw := xw_of (List.mem_append_right _ (List.mem_of_getElem? (i := 274) (by decide +kernel))) rfl
set_option maxRecDepth 20000 in
theorem tw_276 : Cond.lays "CentrifugeUnit$Control" "CentrifugeUnit$Control" "drive" "I" ∈ xw := xw_of (List.mem_append_right _ (List.mem_of_getElem? (i := 276) (by decide +kernel))) rfl
set_option maxRecDepth 20000 in
theorem tw_278 : Cond.lays "CentrifugeUnit$Control" "CentrifugeUnit$Control" "brake" "I" ∈ xw := xw_of (List.mem_append_right _ (List.mem_of_getElem? (i := 278) (by decide +kernel))) rfl
set_option maxRecDepth 20000 in
theorem tw_280 : Cond.lays "CentrifugeUnit$Control" "CentrifugeUnit$Control" "coilFed" "Z" ∈ xw := xw_of (List.mem_append_right _ (List.mem_of_getElem? (i := 280) (by decide +kernel))) rfl
set_option maxRecDepth 20000 in
theorem tw_290 : Cond.laysFinal "CentrifugeUnit" "CentrifugeUnit" "rotors" "LCentrifugeUnit$Rotors;" ∈ xw := xw_of (List.mem_append_right _ (List.mem_of_getElem? (i := 290) (by decide +kernel))) rfl
set_option maxRecDepth 20000 in
theorem tw_292 : Cond.laysFinal "CentrifugeUnit" "CentrifugeUnit" "program" "LCentrifugeUnit$Program;" ∈ xw := xw_of (List.mem_append_right _ (List.mem_of_getElem? (i := 292) (by decide +kernel))) rfl
set_option maxRecDepth 20000 in
theorem tw_294 : Cond.laysFinal "CentrifugeUnit" "CentrifugeUnit" "model" "LCentrifugeUnit$Model;" ∈ xw := xw_of (List.mem_append_right _ (List.mem_of_getElem? (i := 294) (by decide +kernel))) rfl
set_option maxRecDepth 20000 in
theorem tw_296 : Cond.laysFinal "CentrifugeUnit" "CentrifugeUnit" "sensors" "LCentrifugeUnit$Sensors;" ∈ xw := xw_of (List.mem_append_right _ (List.mem_of_getElem? (i := 296) (by decide +kernel))) rfl
set_option maxRecDepth 20000 in
theorem tw_298 : Cond.laysFinal "CentrifugeUnit" "CentrifugeUnit" "lid" "LCentrifugeUnit$Lid;" ∈ xw := xw_of (List.mem_append_right _ (List.mem_of_getElem? (i := 298) (by decide +kernel))) rfl
set_option maxRecDepth 20000 in
theorem tw_300 : Cond.laysFinal "CentrifugeUnit" "CentrifugeUnit" "records" "LCentrifugeUnit$Records;" ∈ xw := xw_of (List.mem_append_right _ (List.mem_of_getElem? (i := 300) (by decide +kernel))) rfl
set_option maxRecDepth 20000 in
theorem tw_302 : Cond.laysFinal "CentrifugeUnit" "CentrifugeUnit" "control" "LCentrifugeUnit$Control;" ∈ xw := xw_of (List.mem_append_right _ (List.mem_of_getElem? (i := 302) (by decide +kernel))) rfl
set_option maxRecDepth 20000 in
theorem tw_326 : Cond.static ⟨"CentrifugeUnit", "within", "(III)Z"⟩ ∈ xw := xw_of (List.mem_append_right _ (List.mem_of_getElem? (i := 326) (by decide +kernel))) rfl
set_option maxRecDepth 20000 in
theorem tw_327 : Cond.code ⟨"CentrifugeUnit", "within", "(III)Z"⟩ prog_1_method_19_code 3 (Option.some Jvm.ClassFile.FieldType.boolean) ∈ xw := xw_of (List.mem_append_right _ (List.mem_of_getElem? (i := 327) (by decide +kernel))) rfl
set_option maxRecDepth 20000 in
theorem tw_824 : Cond.lays "CentrifugeUnitModel" "CentrifugeUnitModel" "thrown" "I" ∈ xw := xw_of (List.mem_append_right _ (List.mem_of_getElem? (i := 824) (by decide +kernel))) rfl
set_option maxRecDepth 20000 in
theorem tw_826 : Cond.laysFinal "CentrifugeUnitModel" "CentrifugeUnitModel" "told" "[Z" ∈ xw := xw_of (List.mem_append_right _ (List.mem_of_getElem? (i := 826) (by decide +kernel))) rfl
set_option maxRecDepth 20000 in
theorem tw_828 : Cond.laysFinal "CentrifugeUnitModel" "CentrifugeUnitModel" "pattern" "[I" ∈ xw := xw_of (List.mem_append_right _ (List.mem_of_getElem? (i := 828) (by decide +kernel))) rfl
set_option maxRecDepth 20000 in
theorem tw_830 : Cond.laysFinal "CentrifugeUnitModel" "CentrifugeUnitModel" "radius" "[I" ∈ xw := xw_of (List.mem_append_right _ (List.mem_of_getElem? (i := 830) (by decide +kernel))) rfl
set_option maxRecDepth 20000 in
theorem tw_832 : Cond.laysFinal "CentrifugeUnitModel" "CentrifugeUnitModel" "limit" "[I" ∈ xw := xw_of (List.mem_append_right _ (List.mem_of_getElem? (i := 832) (by decide +kernel))) rfl
set_option maxRecDepth 20000 in
theorem tw_834 : Cond.laysFinal "CentrifugeUnitModel" "CentrifugeUnitModel" "inertia" "[I" ∈ xw := xw_of (List.mem_append_right _ (List.mem_of_getElem? (i := 834) (by decide +kernel))) rfl
set_option maxRecDepth 20000 in
theorem tw_836 : Cond.lays "CentrifugeUnitModel" "CentrifugeUnitModel" "inside" "I" ∈ xw := xw_of (List.mem_append_right _ (List.mem_of_getElem? (i := 836) (by decide +kernel))) rfl
set_option maxRecDepth 20000 in
theorem tw_838 : Cond.laysFinal "CentrifugeUnitModel" "CentrifugeUnitModel" "kind" "[I" ∈ xw := xw_of (List.mem_append_right _ (List.mem_of_getElem? (i := 838) (by decide +kernel))) rfl
set_option maxRecDepth 20000 in
theorem tw_840 : Cond.laysFinal "CentrifugeUnitModel" "CentrifugeUnitModel" "goalOf" "[I" ∈ xw := xw_of (List.mem_append_right _ (List.mem_of_getElem? (i := 840) (by decide +kernel))) rfl
set_option maxRecDepth 20000 in
theorem tw_842 : Cond.laysFinal "CentrifugeUnitModel" "CentrifugeUnitModel" "slope" "[I" ∈ xw := xw_of (List.mem_append_right _ (List.mem_of_getElem? (i := 842) (by decide +kernel))) rfl
set_option maxRecDepth 20000 in
theorem tw_844 : Cond.lays "CentrifugeUnitModel" "CentrifugeUnitModel" "segments" "I" ∈ xw := xw_of (List.mem_append_right _ (List.mem_of_getElem? (i := 844) (by decide +kernel))) rfl
set_option maxRecDepth 20000 in
theorem tw_846 : Cond.lays "CentrifugeUnitModel" "CentrifugeUnitModel" "speed" "J" ∈ xw := xw_of (List.mem_append_right _ (List.mem_of_getElem? (i := 846) (by decide +kernel))) rfl
set_option maxRecDepth 20000 in
theorem tw_848 : Cond.lays "CentrifugeUnitModel" "CentrifugeUnitModel" "drive" "I" ∈ xw := xw_of (List.mem_append_right _ (List.mem_of_getElem? (i := 848) (by decide +kernel))) rfl
set_option maxRecDepth 20000 in
theorem tw_850 : Cond.lays "CentrifugeUnitModel" "CentrifugeUnitModel" "brake" "I" ∈ xw := xw_of (List.mem_append_right _ (List.mem_of_getElem? (i := 850) (by decide +kernel))) rfl
set_option maxRecDepth 20000 in
theorem tw_852 : Cond.lays "CentrifugeUnitModel" "CentrifugeUnitModel" "fed" "Z" ∈ xw := xw_of (List.mem_append_right _ (List.mem_of_getElem? (i := 852) (by decide +kernel))) rfl
set_option maxRecDepth 20000 in
theorem tw_854 : Cond.lays "CentrifugeUnitModel" "CentrifugeUnitModel" "coil" "I" ∈ xw := xw_of (List.mem_append_right _ (List.mem_of_getElem? (i := 854) (by decide +kernel))) rfl
set_option maxRecDepth 20000 in
theorem tw_856 : Cond.lays "CentrifugeUnitModel" "CentrifugeUnitModel" "tacho" "I" ∈ xw := xw_of (List.mem_append_right _ (List.mem_of_getElem? (i := 856) (by decide +kernel))) rfl
set_option maxRecDepth 20000 in
theorem tw_858 : Cond.lays "CentrifugeUnitModel" "CentrifugeUnitModel" "counter" "I" ∈ xw := xw_of (List.mem_append_right _ (List.mem_of_getElem? (i := 858) (by decide +kernel))) rfl
set_option maxRecDepth 20000 in
theorem tw_860 : Cond.lays "CentrifugeUnitModel" "CentrifugeUnitModel" "first" "J" ∈ xw := xw_of (List.mem_append_right _ (List.mem_of_getElem? (i := 860) (by decide +kernel))) rfl
set_option maxRecDepth 20000 in
theorem tw_862 : Cond.lays "CentrifugeUnitModel" "CentrifugeUnitModel" "second" "J" ∈ xw := xw_of (List.mem_append_right _ (List.mem_of_getElem? (i := 862) (by decide +kernel))) rfl
set_option maxRecDepth 20000 in
theorem tw_864 : Cond.lays "CentrifugeUnitModel" "CentrifugeUnitModel" "used" "J" ∈ xw := xw_of (List.mem_append_right _ (List.mem_of_getElem? (i := 864) (by decide +kernel))) rfl
set_option maxRecDepth 20000 in
theorem tw_866 : Cond.lays "CentrifugeUnitModel" "CentrifugeUnitModel" "power" "Z" ∈ xw := xw_of (List.mem_append_right _ (List.mem_of_getElem? (i := 866) (by decide +kernel))) rfl
set_option maxRecDepth 20000 in
theorem tw_868 : Cond.lays "CentrifugeUnitModel" "CentrifugeUnitModel" "state" "I" ∈ xw := xw_of (List.mem_append_right _ (List.mem_of_getElem? (i := 868) (by decide +kernel))) rfl
set_option maxRecDepth 20000 in
theorem tw_870 : Cond.lays "CentrifugeUnitModel" "CentrifugeUnitModel" "reason" "I" ∈ xw := xw_of (List.mem_append_right _ (List.mem_of_getElem? (i := 870) (by decide +kernel))) rfl
set_option maxRecDepth 20000 in
theorem tw_872 : Cond.lays "CentrifugeUnitModel" "CentrifugeUnitModel" "segment" "I" ∈ xw := xw_of (List.mem_append_right _ (List.mem_of_getElem? (i := 872) (by decide +kernel))) rfl
set_option maxRecDepth 20000 in
theorem tw_874 : Cond.lays "CentrifugeUnitModel" "CentrifugeUnitModel" "passed" "I" ∈ xw := xw_of (List.mem_append_right _ (List.mem_of_getElem? (i := 874) (by decide +kernel))) rfl
set_option maxRecDepth 20000 in
theorem tw_876 : Cond.lays "CentrifugeUnitModel" "CentrifugeUnitModel" "goal" "J" ∈ xw := xw_of (List.mem_append_right _ (List.mem_of_getElem? (i := 876) (by decide +kernel))) rfl
set_option maxRecDepth 20000 in
theorem tw_878 : Cond.lays "CentrifugeUnitModel" "CentrifugeUnitModel" "dose" "J" ∈ xw := xw_of (List.mem_append_right _ (List.mem_of_getElem? (i := 878) (by decide +kernel))) rfl
set_option maxRecDepth 20000 in
theorem tw_880 : Cond.lays "CentrifugeUnitModel" "CentrifugeUnitModel" "sum" "J" ∈ xw := xw_of (List.mem_append_right _ (List.mem_of_getElem? (i := 880) (by decide +kernel))) rfl
set_option maxRecDepth 20000 in
theorem tw_882 : Cond.lays "CentrifugeUnitModel" "CentrifugeUnitModel" "any" "Z" ∈ xw := xw_of (List.mem_append_right _ (List.mem_of_getElem? (i := 882) (by decide +kernel))) rfl
set_option maxRecDepth 20000 in
theorem tw_884 : Cond.lays "CentrifugeUnitModel" "CentrifugeUnitModel" "firstPattern" "I" ∈ xw := xw_of (List.mem_append_right _ (List.mem_of_getElem? (i := 884) (by decide +kernel))) rfl
set_option maxRecDepth 20000 in
theorem tw_886 : Cond.lays "CentrifugeUnitModel" "CentrifugeUnitModel" "rotor" "I" ∈ xw := xw_of (List.mem_append_right _ (List.mem_of_getElem? (i := 886) (by decide +kernel))) rfl
set_option maxRecDepth 20000 in
theorem tw_888 : Cond.lays "CentrifugeUnitModel" "CentrifugeUnitModel" "wrongPattern" "Z" ∈ xw := xw_of (List.mem_append_right _ (List.mem_of_getElem? (i := 888) (by decide +kernel))) rfl
set_option maxRecDepth 20000 in
theorem tw_890 : Cond.lays "CentrifugeUnitModel" "CentrifugeUnitModel" "resting" "I" ∈ xw := xw_of (List.mem_append_right _ (List.mem_of_getElem? (i := 890) (by decide +kernel))) rfl
set_option maxRecDepth 20000 in
theorem tw_892 : Cond.lays "CentrifugeUnitModel" "CentrifugeUnitModel" "shaking" "I" ∈ xw := xw_of (List.mem_append_right _ (List.mem_of_getElem? (i := 892) (by decide +kernel))) rfl
set_option maxRecDepth 20000 in
theorem tw_894 : Cond.lays "CentrifugeUnitModel" "CentrifugeUnitModel" "apart" "I" ∈ xw := xw_of (List.mem_append_right _ (List.mem_of_getElem? (i := 894) (by decide +kernel))) rfl
set_option maxRecDepth 20000 in
theorem tw_896 : Cond.lays "CentrifugeUnitModel" "CentrifugeUnitModel" "contactA" "Z" ∈ xw := xw_of (List.mem_append_right _ (List.mem_of_getElem? (i := 896) (by decide +kernel))) rfl
set_option maxRecDepth 20000 in
theorem tw_898 : Cond.lays "CentrifugeUnitModel" "CentrifugeUnitModel" "contactB" "Z" ∈ xw := xw_of (List.mem_append_right _ (List.mem_of_getElem? (i := 898) (by decide +kernel))) rfl
set_option maxRecDepth 20000 in
theorem tw_900 : Cond.lays "CentrifugeUnitModel" "CentrifugeUnitModel" "level" "I" ∈ xw := xw_of (List.mem_append_right _ (List.mem_of_getElem? (i := 900) (by decide +kernel))) rfl
set_option maxRecDepth 20000 in
theorem tw_902 : Cond.lays "CentrifugeUnitModel" "CentrifugeUnitModel" "chamber" "I" ∈ xw := xw_of (List.mem_append_right _ (List.mem_of_getElem? (i := 902) (by decide +kernel))) rfl
set_option maxRecDepth 20000 in
theorem tw_904 : Cond.lays "CentrifugeUnitModel" "CentrifugeUnitModel" "greatest" "J" ∈ xw := xw_of (List.mem_append_right _ (List.mem_of_getElem? (i := 904) (by decide +kernel))) rfl
set_option maxRecDepth 20000 in
theorem tw_906 : Cond.lays "CentrifugeUnitModel" "CentrifugeUnitModel" "records" "I" ∈ xw := xw_of (List.mem_append_right _ (List.mem_of_getElem? (i := 906) (by decide +kernel))) rfl
set_option maxRecDepth 20000 in
theorem tw_908 : Cond.laysFinal "CentrifugeUnitModel" "CentrifugeUnitModel" "reasonOf" "[J" ∈ xw := xw_of (List.mem_append_right _ (List.mem_of_getElem? (i := 908) (by decide +kernel))) rfl
set_option maxRecDepth 20000 in
theorem tw_910 : Cond.laysFinal "CentrifugeUnitModel" "CentrifugeUnitModel" "doseOf" "[J" ∈ xw := xw_of (List.mem_append_right _ (List.mem_of_getElem? (i := 910) (by decide +kernel))) rfl
set_option maxRecDepth 20000 in
theorem tw_912 : Cond.laysFinal "CentrifugeUnitModel" "CentrifugeUnitModel" "greatestOf" "[J" ∈ xw := xw_of (List.mem_append_right _ (List.mem_of_getElem? (i := 912) (by decide +kernel))) rfl
theorem xin0 : ∀ w ∈ u_ws "CentrifugeUnit$Control" xF0 14, w ∈ xw := List.forall_mem_cons.mpr ⟨tw_254, List.forall_mem_cons.mpr ⟨tw_256, List.forall_mem_cons.mpr ⟨tw_258, List.forall_mem_cons.mpr ⟨tw_260, List.forall_mem_cons.mpr ⟨tw_262, List.forall_mem_cons.mpr ⟨tw_264, List.forall_mem_cons.mpr ⟨tw_266, List.forall_mem_cons.mpr ⟨tw_268, List.forall_mem_cons.mpr ⟨tw_270, List.forall_mem_cons.mpr ⟨tw_272, List.forall_mem_cons.mpr ⟨tw_274, List.forall_mem_cons.mpr ⟨tw_276, List.forall_mem_cons.mpr ⟨tw_278, List.forall_mem_cons.mpr ⟨tw_280, fun _ h => absurd h List.not_mem_nil⟩⟩⟩⟩⟩⟩⟩⟩⟩⟩⟩⟩⟩⟩
theorem xin1 : ∀ w ∈ u_ws "CentrifugeUnit$Lid" xF1 3, w ∈ xw := List.forall_mem_cons.mpr ⟨tw_134, List.forall_mem_cons.mpr ⟨tw_136, List.forall_mem_cons.mpr ⟨tw_138, fun _ h => absurd h List.not_mem_nil⟩⟩⟩
theorem xin2 : ∀ w ∈ u_ws "CentrifugeUnit$Model" xF2 1, w ∈ xw := List.forall_mem_cons.mpr ⟨tw_86, fun _ h => absurd h List.not_mem_nil⟩
theorem xin3 : ∀ w ∈ u_ws "CentrifugeUnit$Program" xF3 4, w ∈ xw := List.forall_mem_cons.mpr ⟨tw_69, List.forall_mem_cons.mpr ⟨tw_71, List.forall_mem_cons.mpr ⟨tw_73, List.forall_mem_cons.mpr ⟨tw_75, fun _ h => absurd h List.not_mem_nil⟩⟩⟩⟩
theorem xin4 : ∀ w ∈ u_ws "CentrifugeUnit$Records" xF4 4, w ∈ xw := List.forall_mem_cons.mpr ⟨tw_152, List.forall_mem_cons.mpr ⟨tw_154, List.forall_mem_cons.mpr ⟨tw_156, List.forall_mem_cons.mpr ⟨tw_158, fun _ h => absurd h List.not_mem_nil⟩⟩⟩⟩
theorem xin5 : ∀ w ∈ u_ws "CentrifugeUnit$Rotors" xF5 5, w ∈ xw := List.forall_mem_cons.mpr ⟨tw_43, List.forall_mem_cons.mpr ⟨tw_45, List.forall_mem_cons.mpr ⟨tw_47, List.forall_mem_cons.mpr ⟨tw_49, List.forall_mem_cons.mpr ⟨tw_51, fun _ h => absurd h List.not_mem_nil⟩⟩⟩⟩⟩
theorem xin6 : ∀ w ∈ u_ws "CentrifugeUnit$Run" xF6 8, w ∈ xw := List.forall_mem_cons.mpr ⟨tw_214, List.forall_mem_cons.mpr ⟨tw_216, List.forall_mem_cons.mpr ⟨tw_218, List.forall_mem_cons.mpr ⟨tw_220, List.forall_mem_cons.mpr ⟨tw_222, List.forall_mem_cons.mpr ⟨tw_224, List.forall_mem_cons.mpr ⟨tw_226, List.forall_mem_cons.mpr ⟨tw_228, fun _ h => absurd h List.not_mem_nil⟩⟩⟩⟩⟩⟩⟩⟩
theorem xin7 : ∀ w ∈ u_ws "CentrifugeUnit$Sensors" xF7 6, w ∈ xw := List.forall_mem_cons.mpr ⟨tw_110, List.forall_mem_cons.mpr ⟨tw_112, List.forall_mem_cons.mpr ⟨tw_114, List.forall_mem_cons.mpr ⟨tw_116, List.forall_mem_cons.mpr ⟨tw_118, List.forall_mem_cons.mpr ⟨tw_120, fun _ h => absurd h List.not_mem_nil⟩⟩⟩⟩⟩⟩
theorem xin8 : ∀ w ∈ u_ws "CentrifugeUnit$Watch" xF8 4, w ∈ xw := List.forall_mem_cons.mpr ⟨tw_179, List.forall_mem_cons.mpr ⟨tw_181, List.forall_mem_cons.mpr ⟨tw_183, List.forall_mem_cons.mpr ⟨tw_185, fun _ h => absurd h List.not_mem_nil⟩⟩⟩⟩
theorem xin9 : ∀ w ∈ u_ws "CentrifugeUnit" xF9 7, w ∈ xw := List.forall_mem_cons.mpr ⟨tw_290, List.forall_mem_cons.mpr ⟨tw_292, List.forall_mem_cons.mpr ⟨tw_294, List.forall_mem_cons.mpr ⟨tw_296, List.forall_mem_cons.mpr ⟨tw_298, List.forall_mem_cons.mpr ⟨tw_300, List.forall_mem_cons.mpr ⟨tw_302, fun _ h => absurd h List.not_mem_nil⟩⟩⟩⟩⟩⟩⟩
theorem xin10 : ∀ w ∈ u_ws "CentrifugeUnitModel" xF10 45, w ∈ xw := List.forall_mem_cons.mpr ⟨tw_824, List.forall_mem_cons.mpr ⟨tw_826, List.forall_mem_cons.mpr ⟨tw_828, List.forall_mem_cons.mpr ⟨tw_830, List.forall_mem_cons.mpr ⟨tw_832, List.forall_mem_cons.mpr ⟨tw_834, List.forall_mem_cons.mpr ⟨tw_836, List.forall_mem_cons.mpr ⟨tw_838, List.forall_mem_cons.mpr ⟨tw_840, List.forall_mem_cons.mpr ⟨tw_842, List.forall_mem_cons.mpr ⟨tw_844, List.forall_mem_cons.mpr ⟨tw_846, List.forall_mem_cons.mpr ⟨tw_848, List.forall_mem_cons.mpr ⟨tw_850, List.forall_mem_cons.mpr ⟨tw_852, List.forall_mem_cons.mpr ⟨tw_854, List.forall_mem_cons.mpr ⟨tw_856, List.forall_mem_cons.mpr ⟨tw_858, List.forall_mem_cons.mpr ⟨tw_860, List.forall_mem_cons.mpr ⟨tw_862, List.forall_mem_cons.mpr ⟨tw_864, List.forall_mem_cons.mpr ⟨tw_866, List.forall_mem_cons.mpr ⟨tw_868, List.forall_mem_cons.mpr ⟨tw_870, List.forall_mem_cons.mpr ⟨tw_872, List.forall_mem_cons.mpr ⟨tw_874, List.forall_mem_cons.mpr ⟨tw_876, List.forall_mem_cons.mpr ⟨tw_878, List.forall_mem_cons.mpr ⟨tw_880, List.forall_mem_cons.mpr ⟨tw_882, List.forall_mem_cons.mpr ⟨tw_884, List.forall_mem_cons.mpr ⟨tw_886, List.forall_mem_cons.mpr ⟨tw_888, List.forall_mem_cons.mpr ⟨tw_890, List.forall_mem_cons.mpr ⟨tw_892, List.forall_mem_cons.mpr ⟨tw_894, List.forall_mem_cons.mpr ⟨tw_896, List.forall_mem_cons.mpr ⟨tw_898, List.forall_mem_cons.mpr ⟨tw_900, List.forall_mem_cons.mpr ⟨tw_902, List.forall_mem_cons.mpr ⟨tw_904, List.forall_mem_cons.mpr ⟨tw_906, List.forall_mem_cons.mpr ⟨tw_908, List.forall_mem_cons.mpr ⟨tw_910, List.forall_mem_cons.mpr ⟨tw_912, fun _ h => absurd h List.not_mem_nil⟩⟩⟩⟩⟩⟩⟩⟩⟩⟩⟩⟩⟩⟩⟩⟩⟩⟩⟩⟩⟩⟩⟩⟩⟩⟩⟩⟩⟩⟩⟩⟩⟩⟩⟩⟩⟩⟩⟩⟩⟩⟩⟩⟩⟩
