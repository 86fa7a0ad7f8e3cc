/-! printed by my own program (wip/gen): classes, fields, cells -/
def xF0 : u_T := fun k => match k with
  | 0 => ("CentrifugeUnit$Control", "rotors", "LCentrifugeUnit$Rotors;", true)
  | 1 => ("CentrifugeUnit$Control", "program", "LCentrifugeUnit$Program;", true)
  | 2 => ("CentrifugeUnit$Control", "sensors", "LCentrifugeUnit$Sensors;", true)
  | 3 => ("CentrifugeUnit$Control", "lid", "LCentrifugeUnit$Lid;", true)
  | 4 => ("CentrifugeUnit$Control", "records", "LCentrifugeUnit$Records;", true)
  | 5 => ("CentrifugeUnit$Control", "watch", "LCentrifugeUnit$Watch;", true)
  | 6 => ("CentrifugeUnit$Control", "run", "LCentrifugeUnit$Run;", true)
  | 7 => ("CentrifugeUnit$Control", "powered", "Z", false)
  | 8 => ("CentrifugeUnit$Control", "chamberCenti", "I", false)
  | 9 => ("CentrifugeUnit$Control", "state", "I", false)
  | 10 => ("CentrifugeUnit$Control", "reason", "I", false)
  | 11 => ("CentrifugeUnit$Control", "drive", "I", false)
  | 12 => ("CentrifugeUnit$Control", "brake", "I", false)
  | _ => ("CentrifugeUnit$Control", "coilFed", "Z", false)
def xT0 : Nat → FieldType := fun k => match k with
  | 0 => .object "CentrifugeUnit$Rotors"
  | 1 => .object "CentrifugeUnit$Program"
  | 2 => .object "CentrifugeUnit$Sensors"
  | 3 => .object "CentrifugeUnit$Lid"
  | 4 => .object "CentrifugeUnit$Records"
  | 5 => .object "CentrifugeUnit$Watch"
  | 6 => .object "CentrifugeUnit$Run"
  | 7 => .boolean
  | 8 => .int
  | 9 => .int
  | 10 => .int
  | 11 => .int
  | 12 => .int
  | _ => .boolean
set_option maxRecDepth 20000 in
theorem xNm0 : ∀ a, a < 14 → ∀ b, b < 14 → a ≠ b → (xF0 a).2.1 ≠ (xF0 b).2.1 := by decide +kernel
set_option maxRecDepth 20000 in
theorem xTo0 : ∀ k, k < 14 → parseFieldDescriptor (xF0 k).2.2.1 = some (xT0 k) := by decide +kernel
def xF1 : u_T := fun k => match k with
  | 0 => ("CentrifugeUnit$Lid", "contactA", "Z", false)
  | 1 => ("CentrifugeUnit$Lid", "contactB", "Z", false)
  | _ => ("CentrifugeUnit$Lid", "coilTicksLeft", "I", false)
def xT1 : Nat → FieldType := fun k => match k with
  | 0 => .boolean
  | 1 => .boolean
  | _ => .int
set_option maxRecDepth 20000 in
theorem xNm1 : ∀ a, a < 3 → ∀ b, b < 3 → a ≠ b → (xF1 a).2.1 ≠ (xF1 b).2.1 := by decide +kernel
set_option maxRecDepth 20000 in
theorem xTo1 : ∀ k, k < 3 → parseFieldDescriptor (xF1 k).2.2.1 = some (xT1 k) := by decide +kernel
def xF2 : u_T := fun k => match k with
  | _ => ("CentrifugeUnit$Model", "speed", "J", false)
def xT2 : Nat → FieldType := fun k => match k with
  | _ => .long
set_option maxRecDepth 20000 in
theorem xNm2 : ∀ a, a < 1 → ∀ b, b < 1 → a ≠ b → (xF2 a).2.1 ≠ (xF2 b).2.1 := by decide +kernel
set_option maxRecDepth 20000 in
theorem xTo2 : ∀ k, k < 1 → parseFieldDescriptor (xF2 k).2.2.1 = some (xT2 k) := by decide +kernel
def xF3 : u_T := fun k => match k with
  | 0 => ("CentrifugeUnit$Program", "kinds", "[I", true)
  | 1 => ("CentrifugeUnit$Program", "firsts", "[I", true)
  | 2 => ("CentrifugeUnit$Program", "seconds", "[I", true)
  | _ => ("CentrifugeUnit$Program", "count", "I", false)
def xT3 : Nat → FieldType := fun k => match k with
  | 0 => .array .int
  | 1 => .array .int
  | 2 => .array .int
  | _ => .int
set_option maxRecDepth 20000 in
theorem xNm3 : ∀ a, a < 4 → ∀ b, b < 4 → a ≠ b → (xF3 a).2.1 ≠ (xF3 b).2.1 := by decide +kernel
set_option maxRecDepth 20000 in
theorem xTo3 : ∀ k, k < 4 → parseFieldDescriptor (xF3 k).2.2.1 = some (xT3 k) := by decide +kernel
def xF4 : u_T := fun k => match k with
  | 0 => ("CentrifugeUnit$Records", "reasons", "[I", true)
  | 1 => ("CentrifugeUnit$Records", "doses", "[J", true)
  | 2 => ("CentrifugeUnit$Records", "speeds", "[I", true)
  | _ => ("CentrifugeUnit$Records", "total", "I", false)
def xT4 : Nat → FieldType := fun k => match k with
  | 0 => .array .int
  | 1 => .array .long
  | 2 => .array .int
  | _ => .int
set_option maxRecDepth 20000 in
theorem xNm4 : ∀ a, a < 4 → ∀ b, b < 4 → a ≠ b → (xF4 a).2.1 ≠ (xF4 b).2.1 := by decide +kernel
set_option maxRecDepth 20000 in
theorem xTo4 : ∀ k, k < 4 → parseFieldDescriptor (xF4 k).2.2.1 = some (xT4 k) := by decide +kernel
def xF5 : u_T := fun k => match k with
  | 0 => ("CentrifugeUnit$Rotors", "patterns", "[I", true)
  | 1 => ("CentrifugeUnit$Rotors", "radii", "[I", true)
  | 2 => ("CentrifugeUnit$Rotors", "limits", "[I", true)
  | 3 => ("CentrifugeUnit$Rotors", "inertias", "[I", true)
  | _ => ("CentrifugeUnit$Rotors", "in", "I", false)
def xT5 : Nat → FieldType := fun k => match k with
  | 0 => .array .int
  | 1 => .array .int
  | 2 => .array .int
  | 3 => .array .int
  | _ => .int
set_option maxRecDepth 20000 in
theorem xNm5 : ∀ a, a < 5 → ∀ b, b < 5 → a ≠ b → (xF5 a).2.1 ≠ (xF5 b).2.1 := by decide +kernel
set_option maxRecDepth 20000 in
theorem xTo5 : ∀ k, k < 5 → parseFieldDescriptor (xF5 k).2.2.1 = some (xT5 k) := by decide +kernel
def xF6 : u_T := fun k => match k with
  | 0 => ("CentrifugeUnit$Run", "dose", "J", false)
  | 1 => ("CentrifugeUnit$Run", "turns", "J", false)
  | 2 => ("CentrifugeUnit$Run", "rotorRead", "I", false)
  | 3 => ("CentrifugeUnit$Run", "wrongPattern", "Z", false)
  | 4 => ("CentrifugeUnit$Run", "greatest", "I", false)
  | 5 => ("CentrifugeUnit$Run", "at", "I", false)
  | 6 => ("CentrifugeUnit$Run", "ticksInSegment", "I", false)
  | _ => ("CentrifugeUnit$Run", "goal", "I", false)
def xT6 : Nat → FieldType := fun k => match k with
  | 0 => .long
  | 1 => .long
  | 2 => .int
  | 3 => .boolean
  | 4 => .int
  | 5 => .int
  | 6 => .int
  | _ => .int
set_option maxRecDepth 20000 in
theorem xNm6 : ∀ a, a < 8 → ∀ b, b < 8 → a ≠ b → (xF6 a).2.1 ≠ (xF6 b).2.1 := by decide +kernel
set_option maxRecDepth 20000 in
theorem xTo6 : ∀ k, k < 8 → parseFieldDescriptor (xF6 k).2.2.1 = some (xT6 k) := by decide +kernel
def xF7 : u_T := fun k => match k with
  | 0 => ("CentrifugeUnit$Sensors", "tachoTells", "I", false)
  | 1 => ("CentrifugeUnit$Sensors", "commutatorTells", "I", false)
  | 2 => ("CentrifugeUnit$Sensors", "tachoSpeed", "I", false)
  | 3 => ("CentrifugeUnit$Sensors", "commutatorSpeed", "I", false)
  | 4 => ("CentrifugeUnit$Sensors", "used", "I", false)
  | _ => ("CentrifugeUnit$Sensors", "lesser", "I", false)
def xT7 : Nat → FieldType := fun k => match k with
  | 0 => .int
  | 1 => .int
  | 2 => .int
  | 3 => .int
  | 4 => .int
  | _ => .int
set_option maxRecDepth 20000 in
theorem xNm7 : ∀ a, a < 6 → ∀ b, b < 6 → a ≠ b → (xF7 a).2.1 ≠ (xF7 b).2.1 := by decide +kernel
set_option maxRecDepth 20000 in
theorem xTo7 : ∀ k, k < 6 → parseFieldDescriptor (xF7 k).2.2.1 = some (xT7 k) := by decide +kernel
def xF8 : u_T := fun k => match k with
  | 0 => ("CentrifugeUnit$Watch", "shaking", "I", false)
  | 1 => ("CentrifugeUnit$Watch", "restRow", "I", false)
  | 2 => ("CentrifugeUnit$Watch", "shakingRow", "I", false)
  | _ => ("CentrifugeUnit$Watch", "differingRow", "I", false)
def xT8 : Nat → FieldType := fun k => match k with
  | 0 => .int
  | 1 => .int
  | 2 => .int
  | _ => .int
set_option maxRecDepth 20000 in
theorem xNm8 : ∀ a, a < 4 → ∀ b, b < 4 → a ≠ b → (xF8 a).2.1 ≠ (xF8 b).2.1 := by decide +kernel
set_option maxRecDepth 20000 in
theorem xTo8 : ∀ k, k < 4 → parseFieldDescriptor (xF8 k).2.2.1 = some (xT8 k) := by decide +kernel
def xF9 : u_T := fun k => match k with
  | 0 => ("CentrifugeUnit", "rotors", "LCentrifugeUnit$Rotors;", true)
  | 1 => ("CentrifugeUnit", "program", "LCentrifugeUnit$Program;", true)
  | 2 => ("CentrifugeUnit", "model", "LCentrifugeUnit$Model;", true)
  | 3 => ("CentrifugeUnit", "sensors", "LCentrifugeUnit$Sensors;", true)
  | 4 => ("CentrifugeUnit", "lid", "LCentrifugeUnit$Lid;", true)
  | 5 => ("CentrifugeUnit", "records", "LCentrifugeUnit$Records;", true)
  | _ => ("CentrifugeUnit", "control", "LCentrifugeUnit$Control;", true)
def xT9 : Nat → FieldType := fun k => match k with
  | 0 => .object "CentrifugeUnit$Rotors"
  | 1 => .object "CentrifugeUnit$Program"
  | 2 => .object "CentrifugeUnit$Model"
  | 3 => .object "CentrifugeUnit$Sensors"
  | 4 => .object "CentrifugeUnit$Lid"
  | 5 => .object "CentrifugeUnit$Records"
  | _ => .object "CentrifugeUnit$Control"
set_option maxRecDepth 20000 in
theorem xNm9 : ∀ a, a < 7 → ∀ b, b < 7 → a ≠ b → (xF9 a).2.1 ≠ (xF9 b).2.1 := by decide +kernel
set_option maxRecDepth 20000 in
theorem xTo9 : ∀ k, k < 7 → parseFieldDescriptor (xF9 k).2.2.1 = some (xT9 k) := by decide +kernel
def xF10 : u_T := fun k => match k with
  | 0 => ("CentrifugeUnitModel", "thrown", "I", false)
  | 1 => ("CentrifugeUnitModel", "told", "[Z", true)
  | 2 => ("CentrifugeUnitModel", "pattern", "[I", true)
  | 3 => ("CentrifugeUnitModel", "radius", "[I", true)
  | 4 => ("CentrifugeUnitModel", "limit", "[I", true)
  | 5 => ("CentrifugeUnitModel", "inertia", "[I", true)
  | 6 => ("CentrifugeUnitModel", "inside", "I", false)
  | 7 => ("CentrifugeUnitModel", "kind", "[I", true)
  | 8 => ("CentrifugeUnitModel", "goalOf", "[I", true)
  | 9 => ("CentrifugeUnitModel", "slope", "[I", true)
  | 10 => ("CentrifugeUnitModel", "segments", "I", false)
  | 11 => ("CentrifugeUnitModel", "speed", "J", false)
  | 12 => ("CentrifugeUnitModel", "drive", "I", false)
  | 13 => ("CentrifugeUnitModel", "brake", "I", false)
  | 14 => ("CentrifugeUnitModel", "fed", "Z", false)
  | 15 => ("CentrifugeUnitModel", "coil", "I", false)
  | 16 => ("CentrifugeUnitModel", "tacho", "I", false)
  | 17 => ("CentrifugeUnitModel", "counter", "I", false)
  | 18 => ("CentrifugeUnitModel", "first", "J", false)
  | 19 => ("CentrifugeUnitModel", "second", "J", false)
  | 20 => ("CentrifugeUnitModel", "used", "J", false)
  | 21 => ("CentrifugeUnitModel", "power", "Z", false)
  | 22 => ("CentrifugeUnitModel", "state", "I", false)
  | 23 => ("CentrifugeUnitModel", "reason", "I", false)
  | 24 => ("CentrifugeUnitModel", "segment", "I", false)
  | 25 => ("CentrifugeUnitModel", "passed", "I", false)
  | 26 => ("CentrifugeUnitModel", "goal", "J", false)
  | 27 => ("CentrifugeUnitModel", "dose", "J", false)
  | 28 => ("CentrifugeUnitModel", "sum", "J", false)
  | 29 => ("CentrifugeUnitModel", "any", "Z", false)
  | 30 => ("CentrifugeUnitModel", "firstPattern", "I", false)
  | 31 => ("CentrifugeUnitModel", "rotor", "I", false)
  | 32 => ("CentrifugeUnitModel", "wrongPattern", "Z", false)
  | 33 => ("CentrifugeUnitModel", "resting", "I", false)
  | 34 => ("CentrifugeUnitModel", "shaking", "I", false)
  | 35 => ("CentrifugeUnitModel", "apart", "I", false)
  | 36 => ("CentrifugeUnitModel", "contactA", "Z", false)
  | 37 => ("CentrifugeUnitModel", "contactB", "Z", false)
  | 38 => ("CentrifugeUnitModel", "level", "I", false)
  | 39 => ("CentrifugeUnitModel", "chamber", "I", false)
  | 40 => ("CentrifugeUnitModel", "greatest", "J", false)
  | 41 => ("CentrifugeUnitModel", "records", "I", false)
  | 42 => ("CentrifugeUnitModel", "reasonOf", "[J", true)
  | 43 => ("CentrifugeUnitModel", "doseOf", "[J", true)
  | _ => ("CentrifugeUnitModel", "greatestOf", "[J", true)
def xT10 : Nat → FieldType := fun k => match k with
  | 0 => .int
  | 1 => .array .boolean
  | 2 => .array .int
  | 3 => .array .int
  | 4 => .array .int
  | 5 => .array .int
  | 6 => .int
  | 7 => .array .int
  | 8 => .array .int
  | 9 => .array .int
  | 10 => .int
  | 11 => .long
  | 12 => .int
  | 13 => .int
  | 14 => .boolean
  | 15 => .int
  | 16 => .int
  | 17 => .int
  | 18 => .long
  | 19 => .long
  | 20 => .long
  | 21 => .boolean
  | 22 => .int
  | 23 => .int
  | 24 => .int
  | 25 => .int
  | 26 => .long
  | 27 => .long
  | 28 => .long
  | 29 => .boolean
  | 30 => .int
  | 31 => .int
  | 32 => .boolean
  | 33 => .int
  | 34 => .int
  | 35 => .int
  | 36 => .boolean
  | 37 => .boolean
  | 38 => .int
  | 39 => .int
  | 40 => .long
  | 41 => .int
  | 42 => .array .long
  | 43 => .array .long
  | _ => .array .long
set_option maxRecDepth 20000 in
theorem xNm10 : ∀ a, a < 45 → ∀ b, b < 45 → a ≠ b → (xF10 a).2.1 ≠ (xF10 b).2.1 := by decide +kernel
set_option maxRecDepth 20000 in
theorem xTo10 : ∀ k, k < 45 → parseFieldDescriptor (xF10 k).2.2.1 = some (xT10 k) := by decide +kernel
abbrev xcl : List vw_C := [("CentrifugeUnit$Control", xF0, 14), ("CentrifugeUnit$Lid", xF1, 3), ("CentrifugeUnit$Model", xF2, 1), ("CentrifugeUnit$Program", xF3, 4), ("CentrifugeUnit$Records", xF4, 4), ("CentrifugeUnit$Rotors", xF5, 5), ("CentrifugeUnit$Run", xF6, 8), ("CentrifugeUnit$Sensors", xF7, 6), ("CentrifugeUnit$Watch", xF8, 4), ("CentrifugeUnit", xF9, 7), ("CentrifugeUnitModel", xF10, 45)]
abbrev xc0 (Z : Nat → ClassId) (A : Nat → Nat) (M : XM) : va_E := .inr (9, [.ref (A 1), .ref (A 6), .ref (A 10), .ref (A 11), .ref (A 12), .ref (A 13), .ref (A 17)])
abbrev xc1 (Z : Nat → ClassId) (A : Nat → Nat) (M : XM) : va_E := .inr (5, [.ref (A 2), .ref (A 3), .ref (A 4), .ref (A 5), .int (M.1 0)])
abbrev xc2 (Z : Nat → ClassId) (A : Nat → Nat) (M : XM) : va_E := .inl (Z 0, 4, .inl (M.2.2.1 2))
abbrev xc3 (Z : Nat → ClassId) (A : Nat → Nat) (M : XM) : va_E := .inl (Z 0, 4, .inl (M.2.2.1 3))
abbrev xc4 (Z : Nat → ClassId) (A : Nat → Nat) (M : XM) : va_E := .inl (Z 0, 4, .inl (M.2.2.1 4))
abbrev xc5 (Z : Nat → ClassId) (A : Nat → Nat) (M : XM) : va_E := .inl (Z 0, 4, .inl (M.2.2.1 5))
abbrev xc6 (Z : Nat → ClassId) (A : Nat → Nat) (M : XM) : va_E := .inr (3, [.ref (A 7), .ref (A 8), .ref (A 9), .int (M.1 1)])
abbrev xc7 (Z : Nat → ClassId) (A : Nat → Nat) (M : XM) : va_E := .inl (Z 0, 12, .inl (M.2.2.1 7))
abbrev xc8 (Z : Nat → ClassId) (A : Nat → Nat) (M : XM) : va_E := .inl (Z 0, 12, .inl (M.2.2.1 8))
abbrev xc9 (Z : Nat → ClassId) (A : Nat → Nat) (M : XM) : va_E := .inl (Z 0, 12, .inl (M.2.2.1 9))
abbrev xc10 (Z : Nat → ClassId) (A : Nat → Nat) (M : XM) : va_E := .inr (2, [.long (M.2.1 0)])
abbrev xc11 (Z : Nat → ClassId) (A : Nat → Nat) (M : XM) : va_E := .inr (7, [.int (M.1 2), .int (M.1 3), .int (M.1 4), .int (M.1 5), .int (M.1 6), .int (M.1 7)])
abbrev xc12 (Z : Nat → ClassId) (A : Nat → Nat) (M : XM) : va_E := .inr (1, [.int (M.1 8), .int (M.1 9), .int (M.1 10)])
abbrev xc13 (Z : Nat → ClassId) (A : Nat → Nat) (M : XM) : va_E := .inr (4, [.ref (A 14), .ref (A 15), .ref (A 16), .int (M.1 11)])
abbrev xc14 (Z : Nat → ClassId) (A : Nat → Nat) (M : XM) : va_E := .inl (Z 0, 16, .inl (M.2.2.1 14))
abbrev xc15 (Z : Nat → ClassId) (A : Nat → Nat) (M : XM) : va_E := .inl (Z 1, 16, .inr (.inl (M.2.2.2 15)))
abbrev xc16 (Z : Nat → ClassId) (A : Nat → Nat) (M : XM) : va_E := .inl (Z 0, 16, .inl (M.2.2.1 16))
abbrev xc17 (Z : Nat → ClassId) (A : Nat → Nat) (M : XM) : va_E := .inr (0, [.ref (A 1), .ref (A 6), .ref (A 11), .ref (A 12), .ref (A 13), .ref (A 18), .ref (A 19), .int (M.1 12), .int (M.1 13), .int (M.1 14), .int (M.1 15), .int (M.1 16), .int (M.1 17), .int (M.1 18)])
abbrev xc18 (Z : Nat → ClassId) (A : Nat → Nat) (M : XM) : va_E := .inr (8, [.int (M.1 19), .int (M.1 20), .int (M.1 21), .int (M.1 22)])
abbrev xc19 (Z : Nat → ClassId) (A : Nat → Nat) (M : XM) : va_E := .inr (6, [.long (M.2.1 1), .long (M.2.1 2), .int (M.1 23), .int (M.1 24), .int (M.1 25), .int (M.1 26), .int (M.1 27), .int (M.1 28)])
abbrev xc20 (Z : Nat → ClassId) (A : Nat → Nat) (M : XM) : va_E := .inr (10, [.int (M.1 100), .ref (A 21), .ref (A 22), .ref (A 23), .ref (A 24), .ref (A 25), .int (M.1 101), .ref (A 26), .ref (A 27), .ref (A 28), .int (M.1 102), .long (M.2.1 100), .int (M.1 103), .int (M.1 104), .int (M.1 105), .int (M.1 106), .int (M.1 107), .int (M.1 108), .long (M.2.1 101), .long (M.2.1 102), .long (M.2.1 103), .int (M.1 109), .int (M.1 110), .int (M.1 111), .int (M.1 112), .int (M.1 113), .long (M.2.1 104), .long (M.2.1 105), .long (M.2.1 106), .int (M.1 114), .int (M.1 115), .int (M.1 116), .int (M.1 117), .int (M.1 118), .int (M.1 119), .int (M.1 120), .int (M.1 121), .int (M.1 122), .int (M.1 123), .int (M.1 124), .long (M.2.1 107), .int (M.1 125), .ref (A 29), .ref (A 30), .ref (A 31)])
abbrev xc21 (Z : Nat → ClassId) (A : Nat → Nat) (M : XM) : va_E := .inl (Z 2, 4, .inl (M.2.2.1 21))
abbrev xc22 (Z : Nat → ClassId) (A : Nat → Nat) (M : XM) : va_E := .inl (Z 0, 4, .inl (M.2.2.1 22))
abbrev xc23 (Z : Nat → ClassId) (A : Nat → Nat) (M : XM) : va_E := .inl (Z 0, 4, .inl (M.2.2.1 23))
abbrev xc24 (Z : Nat → ClassId) (A : Nat → Nat) (M : XM) : va_E := .inl (Z 0, 4, .inl (M.2.2.1 24))
abbrev xc25 (Z : Nat → ClassId) (A : Nat → Nat) (M : XM) : va_E := .inl (Z 0, 4, .inl (M.2.2.1 25))
abbrev xc26 (Z : Nat → ClassId) (A : Nat → Nat) (M : XM) : va_E := .inl (Z 0, 12, .inl (M.2.2.1 26))
abbrev xc27 (Z : Nat → ClassId) (A : Nat → Nat) (M : XM) : va_E := .inl (Z 0, 12, .inl (M.2.2.1 27))
abbrev xc28 (Z : Nat → ClassId) (A : Nat → Nat) (M : XM) : va_E := .inl (Z 0, 12, .inl (M.2.2.1 28))
abbrev xc29 (Z : Nat → ClassId) (A : Nat → Nat) (M : XM) : va_E := .inl (Z 1, 16, .inr (.inl (M.2.2.2 29)))
abbrev xc30 (Z : Nat → ClassId) (A : Nat → Nat) (M : XM) : va_E := .inl (Z 1, 16, .inr (.inl (M.2.2.2 30)))
abbrev xc31 (Z : Nat → ClassId) (A : Nat → Nat) (M : XM) : va_E := .inl (Z 1, 16, .inr (.inl (M.2.2.2 31)))
abbrev xc32 (Z : Nat → ClassId) (A : Nat → Nat) (M : XM) : va_E := .inl (Z 1, 1, .inr (.inl (M.2.2.2 32)))
set_option maxRecDepth 20000 in
theorem tp_1 : Cond.selects "CentrifugeUnit$Control" ⟨"CentrifugeUnit$Control", "readSensors", "(LCentrifugeUnit$Model;)V"⟩ ⟨"CentrifugeUnit$Control", "readSensors", "(LCentrifugeUnit$Model;)V"⟩ ∈ xw := xw_of (List.mem_append_left _ (List.mem_of_getElem? (i := 1) (by decide +kernel))) rfl
set_option maxRecDepth 20000 in
theorem tp_2 : Cond.selects "CentrifugeUnit$Control" ⟨"CentrifugeUnit$Control", "turning", "()Z"⟩ ⟨"CentrifugeUnit$Control", "turning", "()Z"⟩ ∈ xw := xw_of (List.mem_append_left _ (List.mem_of_getElem? (i := 2) (by decide +kernel))) rfl
set_option maxRecDepth 20000 in
theorem tp_3 : Cond.selects "CentrifugeUnit$Control" ⟨"CentrifugeUnit$Control", "lookForFault", "()V"⟩ ⟨"CentrifugeUnit$Control", "lookForFault", "()V"⟩ ∈ xw := xw_of (List.mem_append_left _ (List.mem_of_getElem? (i := 3) (by decide +kernel))) rfl
set_option maxRecDepth 20000 in
theorem tp_4 : Cond.selects "CentrifugeUnit$Control" ⟨"CentrifugeUnit$Control", "faultReason", "()I"⟩ ⟨"CentrifugeUnit$Control", "faultReason", "()I"⟩ ∈ xw := xw_of (List.mem_append_left _ (List.mem_of_getElem? (i := 4) (by decide +kernel))) rfl
set_option maxRecDepth 20000 in
theorem tp_5 : Cond.selects "CentrifugeUnit$Control" ⟨"CentrifugeUnit$Control", "addDose", "()V"⟩ ⟨"CentrifugeUnit$Control", "addDose", "()V"⟩ ∈ xw := xw_of (List.mem_append_left _ (List.mem_of_getElem? (i := 5) (by decide +kernel))) rfl
set_option maxRecDepth 20000 in
theorem tp_6 : Cond.selects "CentrifugeUnit$Control" ⟨"CentrifugeUnit$Control", "followProgram", "()V"⟩ ⟨"CentrifugeUnit$Control", "followProgram", "()V"⟩ ∈ xw := xw_of (List.mem_append_left _ (List.mem_of_getElem? (i := 6) (by decide +kernel))) rfl
set_option maxRecDepth 20000 in
theorem tp_7 : Cond.selects "CentrifugeUnit$Control" ⟨"CentrifugeUnit$Control", "segmentIsThrough", "(I)Z"⟩ ⟨"CentrifugeUnit$Control", "segmentIsThrough", "(I)Z"⟩ ∈ xw := xw_of (List.mem_append_left _ (List.mem_of_getElem? (i := 7) (by decide +kernel))) rfl
set_option maxRecDepth 20000 in
theorem tp_8 : Cond.selects "CentrifugeUnit$Control" ⟨"CentrifugeUnit$Control", "ramp", "(II)Z"⟩ ⟨"CentrifugeUnit$Control", "ramp", "(II)Z"⟩ ∈ xw := xw_of (List.mem_append_left _ (List.mem_of_getElem? (i := 8) (by decide +kernel))) rfl
set_option maxRecDepth 20000 in
theorem tp_9 : Cond.selects "CentrifugeUnit$Control" ⟨"CentrifugeUnit$Control", "keepToGoal", "()V"⟩ ⟨"CentrifugeUnit$Control", "keepToGoal", "()V"⟩ ∈ xw := xw_of (List.mem_append_left _ (List.mem_of_getElem? (i := 9) (by decide +kernel))) rfl
set_option maxRecDepth 20000 in
theorem tp_10 : Cond.selects "CentrifugeUnit$Control" ⟨"CentrifugeUnit$Control", "slowDown", "(II)Z"⟩ ⟨"CentrifugeUnit$Control", "slowDown", "(II)Z"⟩ ∈ xw := xw_of (List.mem_append_left _ (List.mem_of_getElem? (i := 10) (by decide +kernel))) rfl
set_option maxRecDepth 20000 in
theorem tp_11 : Cond.selects "CentrifugeUnit$Control" ⟨"CentrifugeUnit$Control", "comeToRest", "()V"⟩ ⟨"CentrifugeUnit$Control", "comeToRest", "()V"⟩ ∈ xw := xw_of (List.mem_append_left _ (List.mem_of_getElem? (i := 11) (by decide +kernel))) rfl
set_option maxRecDepth 20000 in
theorem tw_1 : Cond.initialized "CentrifugeUnit" ∈ xw := xw_of (List.mem_append_right _ (List.mem_of_getElem? (i := 1) (by decide +kernel))) rfl
set_option maxRecDepth 20000 in
theorem tw_2 : Cond.initialized "CentrifugeUnit$Rotors" ∈ xw := xw_of (List.mem_append_right _ (List.mem_of_getElem? (i := 2) (by decide +kernel))) rfl
set_option maxRecDepth 20000 in
theorem tw_4 : Cond.initialized "CentrifugeUnit$Program" ∈ xw := xw_of (List.mem_append_right _ (List.mem_of_getElem? (i := 4) (by decide +kernel))) rfl
set_option maxRecDepth 20000 in
theorem tw_5 : Cond.initialized "CentrifugeUnit$Model" ∈ xw := xw_of (List.mem_append_right _ (List.mem_of_getElem? (i := 5) (by decide +kernel))) rfl
set_option maxRecDepth 20000 in
theorem tw_6 : Cond.initialized "CentrifugeUnit$Sensors" ∈ xw := xw_of (List.mem_append_right _ (List.mem_of_getElem? (i := 6) (by decide +kernel))) rfl
set_option maxRecDepth 20000 in
theorem tw_7 : Cond.initialized "CentrifugeUnit$Lid" ∈ xw := xw_of (List.mem_append_right _ (List.mem_of_getElem? (i := 7) (by decide +kernel))) rfl
set_option maxRecDepth 20000 in
theorem tw_8 : Cond.initialized "CentrifugeUnit$Records" ∈ xw := xw_of (List.mem_append_right _ (List.mem_of_getElem? (i := 8) (by decide +kernel))) rfl
set_option maxRecDepth 20000 in
theorem tw_9 : Cond.initialized "CentrifugeUnit$Control" ∈ xw := xw_of (List.mem_append_right _ (List.mem_of_getElem? (i := 9) (by decide +kernel))) rfl
set_option maxRecDepth 20000 in
theorem tw_10 : Cond.initialized "CentrifugeUnit$Watch" ∈ xw := xw_of (List.mem_append_right _ (List.mem_of_getElem? (i := 10) (by decide +kernel))) rfl
set_option maxRecDepth 20000 in
theorem tw_11 : Cond.initialized "CentrifugeUnit$Run" ∈ xw := xw_of (List.mem_append_right _ (List.mem_of_getElem? (i := 11) (by decide +kernel))) rfl
set_option maxRecDepth 20000 in
theorem tw_16 : Cond.initialized "java/lang/IllegalArgumentException" ∈ xw := xw_of (List.mem_append_right _ (List.mem_of_getElem? (i := 16) (by decide +kernel))) rfl
set_option maxRecDepth 20000 in
theorem tw_17 : Cond.initialized "java/lang/IllegalStateException" ∈ xw := xw_of (List.mem_append_right _ (List.mem_of_getElem? (i := 17) (by decide +kernel))) rfl
set_option maxRecDepth 20000 in
theorem tw_18 : Cond.initialized "java/lang/Math" ∈ xw := xw_of (List.mem_append_right _ (List.mem_of_getElem? (i := 18) (by decide +kernel))) rfl
set_option maxRecDepth 20000 in
theorem tw_19 : Cond.initialized "java/lang/IndexOutOfBoundsException" ∈ xw := xw_of (List.mem_append_right _ (List.mem_of_getElem? (i := 19) (by decide +kernel))) rfl
set_option maxRecDepth 20000 in
theorem tw_37 : Cond.fieldLink "CentrifugeUnit$Rotors" 11 "CentrifugeUnit$Rotors" "patterns" "[I" ∈ xw := xw_of (List.mem_append_right _ (List.mem_of_getElem? (i := 37) (by decide +kernel))) rfl
set_option maxRecDepth 20000 in
theorem tw_38 : Cond.fieldLink "CentrifugeUnit$Rotors" 15 "CentrifugeUnit$Rotors" "radii" "[I" ∈ xw := xw_of (List.mem_append_right _ (List.mem_of_getElem? (i := 38) (by decide +kernel))) rfl
set_option maxRecDepth 20000 in
theorem tw_39 : Cond.fieldLink "CentrifugeUnit$Rotors" 18 "CentrifugeUnit$Rotors" "limits" "[I" ∈ xw := xw_of (List.mem_append_right _ (List.mem_of_getElem? (i := 39) (by decide +kernel))) rfl
set_option maxRecDepth 20000 in
theorem tw_40 : Cond.fieldLink "CentrifugeUnit$Rotors" 21 "CentrifugeUnit$Rotors" "inertias" "[I" ∈ xw := xw_of (List.mem_append_right _ (List.mem_of_getElem? (i := 40) (by decide +kernel))) rfl
set_option maxRecDepth 20000 in
theorem tw_41 : Cond.fieldLink "CentrifugeUnit$Rotors" 24 "CentrifugeUnit$Rotors" "in" "I" ∈ xw := xw_of (List.mem_append_right _ (List.mem_of_getElem? (i := 41) (by decide +kernel))) rfl
set_option maxRecDepth 20000 in
theorem tw_42 : Cond.fieldLink "CentrifugeUnit" 93 "CentrifugeUnit$Rotors" "in" "I" ∈ xw := xw_of (List.mem_append_right _ (List.mem_of_getElem? (i := 42) (by decide +kernel))) rfl
set_option maxRecDepth 20000 in
theorem tw_43 : Cond.laysFinal "CentrifugeUnit$Rotors" "CentrifugeUnit$Rotors" "patterns" "[I" ∈ xw := xw_of (List.mem_append_right _ (List.mem_of_getElem? (i := 43) (by decide +kernel))) rfl
set_option maxRecDepth 20000 in
theorem tw_45 : Cond.laysFinal "CentrifugeUnit$Rotors" "CentrifugeUnit$Rotors" "radii" "[I" ∈ xw := xw_of (List.mem_append_right _ (List.mem_of_getElem? (i := 45) (by decide +kernel))) rfl
set_option maxRecDepth 20000 in
theorem tw_47 : Cond.laysFinal "CentrifugeUnit$Rotors" "CentrifugeUnit$Rotors" "limits" "[I" ∈ xw := xw_of (List.mem_append_right _ (List.mem_of_getElem? (i := 47) (by decide +kernel))) rfl
set_option maxRecDepth 20000 in
theorem tw_49 : Cond.laysFinal "CentrifugeUnit$Rotors" "CentrifugeUnit$Rotors" "inertias" "[I" ∈ xw := xw_of (List.mem_append_right _ (List.mem_of_getElem? (i := 49) (by decide +kernel))) rfl
set_option maxRecDepth 20000 in
theorem tw_51 : Cond.lays "CentrifugeUnit$Rotors" "CentrifugeUnit$Rotors" "in" "I" ∈ xw := xw_of (List.mem_append_right _ (List.mem_of_getElem? (i := 51) (by decide +kernel))) rfl
set_option maxRecDepth 20000 in
theorem tw_61 : Cond.fieldLink "CentrifugeUnit$Program" 9 "CentrifugeUnit$Program" "kinds" "[I" ∈ xw := xw_of (List.mem_append_right _ (List.mem_of_getElem? (i := 61) (by decide +kernel))) rfl
set_option maxRecDepth 20000 in
theorem tw_62 : Cond.fieldLink "CentrifugeUnit$Control" 193 "CentrifugeUnit$Program" "kinds" "[I" ∈ xw := xw_of (List.mem_append_right _ (List.mem_of_getElem? (i := 62) (by decide +kernel))) rfl
set_option maxRecDepth 20000 in
theorem tw_63 : Cond.fieldLink "CentrifugeUnit$Program" 13 "CentrifugeUnit$Program" "firsts" "[I" ∈ xw := xw_of (List.mem_append_right _ (List.mem_of_getElem? (i := 63) (by decide +kernel))) rfl
set_option maxRecDepth 20000 in
theorem tw_64 : Cond.fieldLink "CentrifugeUnit$Control" 183 "CentrifugeUnit$Program" "firsts" "[I" ∈ xw := xw_of (List.mem_append_right _ (List.mem_of_getElem? (i := 64) (by decide +kernel))) rfl
set_option maxRecDepth 20000 in
theorem tw_65 : Cond.fieldLink "CentrifugeUnit$Program" 16 "CentrifugeUnit$Program" "seconds" "[I" ∈ xw := xw_of (List.mem_append_right _ (List.mem_of_getElem? (i := 65) (by decide +kernel))) rfl
set_option maxRecDepth 20000 in
theorem tw_66 : Cond.fieldLink "CentrifugeUnit$Control" 187 "CentrifugeUnit$Program" "seconds" "[I" ∈ xw := xw_of (List.mem_append_right _ (List.mem_of_getElem? (i := 66) (by decide +kernel))) rfl
set_option maxRecDepth 20000 in
theorem tw_67 : Cond.fieldLink "CentrifugeUnit$Program" 27 "CentrifugeUnit$Program" "count" "I" ∈ xw := xw_of (List.mem_append_right _ (List.mem_of_getElem? (i := 67) (by decide +kernel))) rfl
set_option maxRecDepth 20000 in
theorem tw_68 : Cond.fieldLink "CentrifugeUnit" 108 "CentrifugeUnit$Program" "count" "I" ∈ xw := xw_of (List.mem_append_right _ (List.mem_of_getElem? (i := 68) (by decide +kernel))) rfl
set_option maxRecDepth 20000 in
theorem tw_69 : Cond.laysFinal "CentrifugeUnit$Program" "CentrifugeUnit$Program" "kinds" "[I" ∈ xw := xw_of (List.mem_append_right _ (List.mem_of_getElem? (i := 69) (by decide +kernel))) rfl
set_option maxRecDepth 20000 in
theorem tw_71 : Cond.laysFinal "CentrifugeUnit$Program" "CentrifugeUnit$Program" "firsts" "[I" ∈ xw := xw_of (List.mem_append_right _ (List.mem_of_getElem? (i := 71) (by decide +kernel))) rfl
set_option maxRecDepth 20000 in
theorem tw_73 : Cond.laysFinal "CentrifugeUnit$Program" "CentrifugeUnit$Program" "seconds" "[I" ∈ xw := xw_of (List.mem_append_right _ (List.mem_of_getElem? (i := 73) (by decide +kernel))) rfl
set_option maxRecDepth 20000 in
theorem tw_75 : Cond.lays "CentrifugeUnit$Program" "CentrifugeUnit$Program" "count" "I" ∈ xw := xw_of (List.mem_append_right _ (List.mem_of_getElem? (i := 75) (by decide +kernel))) rfl
set_option maxRecDepth 20000 in
theorem tw_84 : Cond.fieldLink "CentrifugeUnit$Model" 13 "CentrifugeUnit$Model" "speed" "J" ∈ xw := xw_of (List.mem_append_right _ (List.mem_of_getElem? (i := 84) (by decide +kernel))) rfl
set_option maxRecDepth 20000 in
theorem tw_85 : Cond.fieldLink "CentrifugeUnit" 250 "CentrifugeUnit$Model" "speed" "J" ∈ xw := xw_of (List.mem_append_right _ (List.mem_of_getElem? (i := 85) (by decide +kernel))) rfl
set_option maxRecDepth 20000 in
theorem tw_86 : Cond.lays "CentrifugeUnit$Model" "CentrifugeUnit$Model" "speed" "J" ∈ xw := xw_of (List.mem_append_right _ (List.mem_of_getElem? (i := 86) (by decide +kernel))) rfl
set_option maxRecDepth 20000 in
theorem tw_95 : Cond.fieldLink "CentrifugeUnit$Sensors" 9 "CentrifugeUnit$Sensors" "tachoTells" "I" ∈ xw := xw_of (List.mem_append_right _ (List.mem_of_getElem? (i := 95) (by decide +kernel))) rfl
set_option maxRecDepth 20000 in
theorem tw_96 : Cond.fieldLink "CentrifugeUnit" 167 "CentrifugeUnit$Sensors" "tachoTells" "I" ∈ xw := xw_of (List.mem_append_right _ (List.mem_of_getElem? (i := 96) (by decide +kernel))) rfl
set_option maxRecDepth 20000 in
theorem tw_97 : Cond.fieldLink "CentrifugeUnit$Sensors" 13 "CentrifugeUnit$Sensors" "commutatorTells" "I" ∈ xw := xw_of (List.mem_append_right _ (List.mem_of_getElem? (i := 97) (by decide +kernel))) rfl
set_option maxRecDepth 20000 in
theorem tw_98 : Cond.fieldLink "CentrifugeUnit" 170 "CentrifugeUnit$Sensors" "commutatorTells" "I" ∈ xw := xw_of (List.mem_append_right _ (List.mem_of_getElem? (i := 98) (by decide +kernel))) rfl
set_option maxRecDepth 20000 in
theorem tw_99 : Cond.fieldLink "CentrifugeUnit$Sensors" 35 "CentrifugeUnit$Sensors" "tachoSpeed" "I" ∈ xw := xw_of (List.mem_append_right _ (List.mem_of_getElem? (i := 99) (by decide +kernel))) rfl
set_option maxRecDepth 20000 in
theorem tw_100 : Cond.fieldLink "CentrifugeUnit" 221 "CentrifugeUnit$Sensors" "tachoSpeed" "I" ∈ xw := xw_of (List.mem_append_right _ (List.mem_of_getElem? (i := 100) (by decide +kernel))) rfl
set_option maxRecDepth 20000 in
theorem tw_101 : Cond.fieldLink "CentrifugeUnit$Sensors" 40 "CentrifugeUnit$Sensors" "commutatorSpeed" "I" ∈ xw := xw_of (List.mem_append_right _ (List.mem_of_getElem? (i := 101) (by decide +kernel))) rfl
set_option maxRecDepth 20000 in
theorem tw_102 : Cond.fieldLink "CentrifugeUnit" 224 "CentrifugeUnit$Sensors" "commutatorSpeed" "I" ∈ xw := xw_of (List.mem_append_right _ (List.mem_of_getElem? (i := 102) (by decide +kernel))) rfl
set_option maxRecDepth 20000 in
theorem tw_103 : Cond.fieldLink "CentrifugeUnit$Watch" 7 "CentrifugeUnit$Sensors" "used" "I" ∈ xw := xw_of (List.mem_append_right _ (List.mem_of_getElem? (i := 103) (by decide +kernel))) rfl
set_option maxRecDepth 20000 in
theorem tw_104 : Cond.fieldLink "CentrifugeUnit$Sensors" 47 "CentrifugeUnit$Sensors" "used" "I" ∈ xw := xw_of (List.mem_append_right _ (List.mem_of_getElem? (i := 104) (by decide +kernel))) rfl
set_option maxRecDepth 20000 in
theorem tw_105 : Cond.fieldLink "CentrifugeUnit$Control" 105 "CentrifugeUnit$Sensors" "used" "I" ∈ xw := xw_of (List.mem_append_right _ (List.mem_of_getElem? (i := 105) (by decide +kernel))) rfl
set_option maxRecDepth 20000 in
theorem tw_106 : Cond.fieldLink "CentrifugeUnit" 239 "CentrifugeUnit$Sensors" "used" "I" ∈ xw := xw_of (List.mem_append_right _ (List.mem_of_getElem? (i := 106) (by decide +kernel))) rfl
set_option maxRecDepth 20000 in
theorem tw_107 : Cond.fieldLink "CentrifugeUnit$Watch" 13 "CentrifugeUnit$Sensors" "lesser" "I" ∈ xw := xw_of (List.mem_append_right _ (List.mem_of_getElem? (i := 107) (by decide +kernel))) rfl
set_option maxRecDepth 20000 in
theorem tw_108 : Cond.fieldLink "CentrifugeUnit$Sensors" 52 "CentrifugeUnit$Sensors" "lesser" "I" ∈ xw := xw_of (List.mem_append_right _ (List.mem_of_getElem? (i := 108) (by decide +kernel))) rfl
set_option maxRecDepth 20000 in
theorem tw_109 : Cond.fieldLink "CentrifugeUnit$Control" 155 "CentrifugeUnit$Sensors" "lesser" "I" ∈ xw := xw_of (List.mem_append_right _ (List.mem_of_getElem? (i := 109) (by decide +kernel))) rfl
set_option maxRecDepth 20000 in
theorem tw_110 : Cond.lays "CentrifugeUnit$Sensors" "CentrifugeUnit$Sensors" "tachoTells" "I" ∈ xw := xw_of (List.mem_append_right _ (List.mem_of_getElem? (i := 110) (by decide +kernel))) rfl
set_option maxRecDepth 20000 in
theorem tw_112 : Cond.lays "CentrifugeUnit$Sensors" "CentrifugeUnit$Sensors" "commutatorTells" "I" ∈ xw := xw_of (List.mem_append_right _ (List.mem_of_getElem? (i := 112) (by decide +kernel))) rfl
set_option maxRecDepth 20000 in
theorem tw_114 : Cond.lays "CentrifugeUnit$Sensors" "CentrifugeUnit$Sensors" "tachoSpeed" "I" ∈ xw := xw_of (List.mem_append_right _ (List.mem_of_getElem? (i := 114) (by decide +kernel))) rfl
set_option maxRecDepth 20000 in
theorem tw_116 : Cond.lays "CentrifugeUnit$Sensors" "CentrifugeUnit$Sensors" "commutatorSpeed" "I" ∈ xw := xw_of (List.mem_append_right _ (List.mem_of_getElem? (i := 116) (by decide +kernel))) rfl
set_option maxRecDepth 20000 in
theorem tw_118 : Cond.lays "CentrifugeUnit$Sensors" "CentrifugeUnit$Sensors" "used" "I" ∈ xw := xw_of (List.mem_append_right _ (List.mem_of_getElem? (i := 118) (by decide +kernel))) rfl
set_option maxRecDepth 20000 in
theorem tw_120 : Cond.lays "CentrifugeUnit$Sensors" "CentrifugeUnit$Sensors" "lesser" "I" ∈ xw := xw_of (List.mem_append_right _ (List.mem_of_getElem? (i := 120) (by decide +kernel))) rfl
set_option maxRecDepth 20000 in
theorem tw_129 : Cond.fieldLink "CentrifugeUnit$Lid" 7 "CentrifugeUnit$Lid" "contactA" "Z" ∈ xw := xw_of (List.mem_append_right _ (List.mem_of_getElem? (i := 129) (by decide +kernel))) rfl
set_option maxRecDepth 20000 in
theorem tw_130 : Cond.fieldLink "CentrifugeUnit" 143 "CentrifugeUnit$Lid" "contactA" "Z" ∈ xw := xw_of (List.mem_append_right _ (List.mem_of_getElem? (i := 130) (by decide +kernel))) rfl
set_option maxRecDepth 20000 in
theorem tw_131 : Cond.fieldLink "CentrifugeUnit$Lid" 13 "CentrifugeUnit$Lid" "contactB" "Z" ∈ xw := xw_of (List.mem_append_right _ (List.mem_of_getElem? (i := 131) (by decide +kernel))) rfl
set_option maxRecDepth 20000 in
theorem tw_132 : Cond.fieldLink "CentrifugeUnit" 147 "CentrifugeUnit$Lid" "contactB" "Z" ∈ xw := xw_of (List.mem_append_right _ (List.mem_of_getElem? (i := 132) (by decide +kernel))) rfl
set_option maxRecDepth 20000 in
theorem tw_133 : Cond.fieldLink "CentrifugeUnit$Lid" 16 "CentrifugeUnit$Lid" "coilTicksLeft" "I" ∈ xw := xw_of (List.mem_append_right _ (List.mem_of_getElem? (i := 133) (by decide +kernel))) rfl
set_option maxRecDepth 20000 in
theorem tw_134 : Cond.lays "CentrifugeUnit$Lid" "CentrifugeUnit$Lid" "contactA" "Z" ∈ xw := xw_of (List.mem_append_right _ (List.mem_of_getElem? (i := 134) (by decide +kernel))) rfl
set_option maxRecDepth 20000 in
theorem tw_136 : Cond.lays "CentrifugeUnit$Lid" "CentrifugeUnit$Lid" "contactB" "Z" ∈ xw := xw_of (List.mem_append_right _ (List.mem_of_getElem? (i := 136) (by decide +kernel))) rfl
set_option maxRecDepth 20000 in
theorem tw_138 : Cond.lays "CentrifugeUnit$Lid" "CentrifugeUnit$Lid" "coilTicksLeft" "I" ∈ xw := xw_of (List.mem_append_right _ (List.mem_of_getElem? (i := 138) (by decide +kernel))) rfl
set_option maxRecDepth 20000 in
theorem tw_147 : Cond.fieldLink "CentrifugeUnit$Records" 9 "CentrifugeUnit$Records" "reasons" "[I" ∈ xw := xw_of (List.mem_append_right _ (List.mem_of_getElem? (i := 147) (by decide +kernel))) rfl
set_option maxRecDepth 20000 in
theorem tw_148 : Cond.fieldLink "CentrifugeUnit$Records" 13 "CentrifugeUnit$Records" "doses" "[J" ∈ xw := xw_of (List.mem_append_right _ (List.mem_of_getElem? (i := 148) (by decide +kernel))) rfl
set_option maxRecDepth 20000 in
theorem tw_149 : Cond.fieldLink "CentrifugeUnit$Records" 17 "CentrifugeUnit$Records" "speeds" "[I" ∈ xw := xw_of (List.mem_append_right _ (List.mem_of_getElem? (i := 149) (by decide +kernel))) rfl
set_option maxRecDepth 20000 in
theorem tw_150 : Cond.fieldLink "CentrifugeUnit$Records" 20 "CentrifugeUnit$Records" "total" "I" ∈ xw := xw_of (List.mem_append_right _ (List.mem_of_getElem? (i := 150) (by decide +kernel))) rfl
set_option maxRecDepth 20000 in
theorem tw_151 : Cond.fieldLink "CentrifugeUnit" 255 "CentrifugeUnit$Records" "total" "I" ∈ xw := xw_of (List.mem_append_right _ (List.mem_of_getElem? (i := 151) (by decide +kernel))) rfl
set_option maxRecDepth 20000 in
theorem tw_152 : Cond.laysFinal "CentrifugeUnit$Records" "CentrifugeUnit$Records" "reasons" "[I" ∈ xw := xw_of (List.mem_append_right _ (List.mem_of_getElem? (i := 152) (by decide +kernel))) rfl
set_option maxRecDepth 20000 in
theorem tw_154 : Cond.laysFinal "CentrifugeUnit$Records" "CentrifugeUnit$Records" "doses" "[J" ∈ xw := xw_of (List.mem_append_right _ (List.mem_of_getElem? (i := 154) (by decide +kernel))) rfl
set_option maxRecDepth 20000 in
theorem tw_156 : Cond.laysFinal "CentrifugeUnit$Records" "CentrifugeUnit$Records" "speeds" "[I" ∈ xw := xw_of (List.mem_append_right _ (List.mem_of_getElem? (i := 156) (by decide +kernel))) rfl
set_option maxRecDepth 20000 in
theorem tw_158 : Cond.lays "CentrifugeUnit$Records" "CentrifugeUnit$Records" "total" "I" ∈ xw := xw_of (List.mem_append_right _ (List.mem_of_getElem? (i := 158) (by decide +kernel))) rfl
set_option maxRecDepth 20000 in
theorem tw_174 : Cond.fieldLink "CentrifugeUnit$Watch" 21 "CentrifugeUnit$Watch" "shaking" "I" ∈ xw := xw_of (List.mem_append_right _ (List.mem_of_getElem? (i := 174) (by decide +kernel))) rfl
set_option maxRecDepth 20000 in
theorem tw_175 : Cond.fieldLink "CentrifugeUnit" 156 "CentrifugeUnit$Watch" "shaking" "I" ∈ xw := xw_of (List.mem_append_right _ (List.mem_of_getElem? (i := 175) (by decide +kernel))) rfl
set_option maxRecDepth 20000 in
theorem tw_176 : Cond.fieldLink "CentrifugeUnit$Watch" 16 "CentrifugeUnit$Watch" "restRow" "I" ∈ xw := xw_of (List.mem_append_right _ (List.mem_of_getElem? (i := 176) (by decide +kernel))) rfl
set_option maxRecDepth 20000 in
theorem tw_177 : Cond.fieldLink "CentrifugeUnit$Watch" 24 "CentrifugeUnit$Watch" "shakingRow" "I" ∈ xw := xw_of (List.mem_append_right _ (List.mem_of_getElem? (i := 177) (by decide +kernel))) rfl
set_option maxRecDepth 20000 in
theorem tw_178 : Cond.fieldLink "CentrifugeUnit$Watch" 27 "CentrifugeUnit$Watch" "differingRow" "I" ∈ xw := xw_of (List.mem_append_right _ (List.mem_of_getElem? (i := 178) (by decide +kernel))) rfl
set_option maxRecDepth 20000 in
theorem tw_179 : Cond.lays "CentrifugeUnit$Watch" "CentrifugeUnit$Watch" "shaking" "I" ∈ xw := xw_of (List.mem_append_right _ (List.mem_of_getElem? (i := 179) (by decide +kernel))) rfl
set_option maxRecDepth 20000 in
theorem tw_181 : Cond.lays "CentrifugeUnit$Watch" "CentrifugeUnit$Watch" "restRow" "I" ∈ xw := xw_of (List.mem_append_right _ (List.mem_of_getElem? (i := 181) (by decide +kernel))) rfl
set_option maxRecDepth 20000 in
theorem tw_183 : Cond.lays "CentrifugeUnit$Watch" "CentrifugeUnit$Watch" "shakingRow" "I" ∈ xw := xw_of (List.mem_append_right _ (List.mem_of_getElem? (i := 183) (by decide +kernel))) rfl
set_option maxRecDepth 20000 in
theorem tw_185 : Cond.lays "CentrifugeUnit$Watch" "CentrifugeUnit$Watch" "differingRow" "I" ∈ xw := xw_of (List.mem_append_right _ (List.mem_of_getElem? (i := 185) (by decide +kernel))) rfl
set_option maxRecDepth 20000 in
theorem tw_194 : Cond.fieldLink "CentrifugeUnit$Run" 15 "CentrifugeUnit$Run" "dose" "J" ∈ xw := xw_of (List.mem_append_right _ (List.mem_of_getElem? (i := 194) (by decide +kernel))) rfl
set_option maxRecDepth 20000 in
theorem tw_195 : Cond.fieldLink "CentrifugeUnit$Control" 158 "CentrifugeUnit$Run" "dose" "J" ∈ xw := xw_of (List.mem_append_right _ (List.mem_of_getElem? (i := 195) (by decide +kernel))) rfl
set_option maxRecDepth 20000 in
theorem tw_196 : Cond.fieldLink "CentrifugeUnit" 235 "CentrifugeUnit$Run" "dose" "J" ∈ xw := xw_of (List.mem_append_right _ (List.mem_of_getElem? (i := 196) (by decide +kernel))) rfl
set_option maxRecDepth 20000 in
theorem tw_197 : Cond.fieldLink "CentrifugeUnit$Run" 19 "CentrifugeUnit$Run" "turns" "J" ∈ xw := xw_of (List.mem_append_right _ (List.mem_of_getElem? (i := 197) (by decide +kernel))) rfl
set_option maxRecDepth 20000 in
theorem tw_198 : Cond.fieldLink "CentrifugeUnit$Control" 108 "CentrifugeUnit$Run" "turns" "J" ∈ xw := xw_of (List.mem_append_right _ (List.mem_of_getElem? (i := 198) (by decide +kernel))) rfl
set_option maxRecDepth 20000 in
theorem tw_199 : Cond.fieldLink "CentrifugeUnit$Run" 9 "CentrifugeUnit$Run" "rotorRead" "I" ∈ xw := xw_of (List.mem_append_right _ (List.mem_of_getElem? (i := 199) (by decide +kernel))) rfl
set_option maxRecDepth 20000 in
theorem tw_200 : Cond.fieldLink "CentrifugeUnit$Control" 140 "CentrifugeUnit$Run" "rotorRead" "I" ∈ xw := xw_of (List.mem_append_right _ (List.mem_of_getElem? (i := 200) (by decide +kernel))) rfl
set_option maxRecDepth 20000 in
theorem tw_201 : Cond.fieldLink "CentrifugeUnit" 227 "CentrifugeUnit$Run" "rotorRead" "I" ∈ xw := xw_of (List.mem_append_right _ (List.mem_of_getElem? (i := 201) (by decide +kernel))) rfl
set_option maxRecDepth 20000 in
theorem tw_202 : Cond.fieldLink "CentrifugeUnit$Run" 22 "CentrifugeUnit$Run" "wrongPattern" "Z" ∈ xw := xw_of (List.mem_append_right _ (List.mem_of_getElem? (i := 202) (by decide +kernel))) rfl
set_option maxRecDepth 20000 in
theorem tw_203 : Cond.fieldLink "CentrifugeUnit$Control" 137 "CentrifugeUnit$Run" "wrongPattern" "Z" ∈ xw := xw_of (List.mem_append_right _ (List.mem_of_getElem? (i := 203) (by decide +kernel))) rfl
set_option maxRecDepth 20000 in
theorem tw_204 : Cond.fieldLink "CentrifugeUnit$Run" 26 "CentrifugeUnit$Run" "greatest" "I" ∈ xw := xw_of (List.mem_append_right _ (List.mem_of_getElem? (i := 204) (by decide +kernel))) rfl
set_option maxRecDepth 20000 in
theorem tw_205 : Cond.fieldLink "CentrifugeUnit$Control" 121 "CentrifugeUnit$Run" "greatest" "I" ∈ xw := xw_of (List.mem_append_right _ (List.mem_of_getElem? (i := 205) (by decide +kernel))) rfl
set_option maxRecDepth 20000 in
theorem tw_206 : Cond.fieldLink "CentrifugeUnit$Run" 29 "CentrifugeUnit$Run" "at" "I" ∈ xw := xw_of (List.mem_append_right _ (List.mem_of_getElem? (i := 206) (by decide +kernel))) rfl
set_option maxRecDepth 20000 in
theorem tw_207 : Cond.fieldLink "CentrifugeUnit$Control" 164 "CentrifugeUnit$Run" "at" "I" ∈ xw := xw_of (List.mem_append_right _ (List.mem_of_getElem? (i := 207) (by decide +kernel))) rfl
set_option maxRecDepth 20000 in
theorem tw_208 : Cond.fieldLink "CentrifugeUnit" 213 "CentrifugeUnit$Run" "at" "I" ∈ xw := xw_of (List.mem_append_right _ (List.mem_of_getElem? (i := 208) (by decide +kernel))) rfl
set_option maxRecDepth 20000 in
theorem tw_209 : Cond.fieldLink "CentrifugeUnit$Run" 32 "CentrifugeUnit$Run" "ticksInSegment" "I" ∈ xw := xw_of (List.mem_append_right _ (List.mem_of_getElem? (i := 209) (by decide +kernel))) rfl
set_option maxRecDepth 20000 in
theorem tw_210 : Cond.fieldLink "CentrifugeUnit$Control" 190 "CentrifugeUnit$Run" "ticksInSegment" "I" ∈ xw := xw_of (List.mem_append_right _ (List.mem_of_getElem? (i := 210) (by decide +kernel))) rfl
set_option maxRecDepth 20000 in
theorem tw_211 : Cond.fieldLink "CentrifugeUnit$Run" 35 "CentrifugeUnit$Run" "goal" "I" ∈ xw := xw_of (List.mem_append_right _ (List.mem_of_getElem? (i := 211) (by decide +kernel))) rfl
set_option maxRecDepth 20000 in
theorem tw_212 : Cond.fieldLink "CentrifugeUnit" 230 "CentrifugeUnit$Run" "goal" "I" ∈ xw := xw_of (List.mem_append_right _ (List.mem_of_getElem? (i := 212) (by decide +kernel))) rfl
set_option maxRecDepth 20000 in
theorem tw_213 : Cond.fieldLink "CentrifugeUnit$Control" 208 "CentrifugeUnit$Run" "goal" "I" ∈ xw := xw_of (List.mem_append_right _ (List.mem_of_getElem? (i := 213) (by decide +kernel))) rfl
set_option maxRecDepth 20000 in
theorem tw_214 : Cond.lays "CentrifugeUnit$Run" "CentrifugeUnit$Run" "dose" "J" ∈ xw := xw_of (List.mem_append_right _ (List.mem_of_getElem? (i := 214) (by decide +kernel))) rfl
set_option maxRecDepth 20000 in
theorem tw_216 : Cond.lays "CentrifugeUnit$Run" "CentrifugeUnit$Run" "turns" "J" ∈ xw := xw_of (List.mem_append_right _ (List.mem_of_getElem? (i := 216) (by decide +kernel))) rfl
set_option maxRecDepth 20000 in
theorem tw_218 : Cond.lays "CentrifugeUnit$Run" "CentrifugeUnit$Run" "rotorRead" "I" ∈ xw := xw_of (List.mem_append_right _ (List.mem_of_getElem? (i := 218) (by decide +kernel))) rfl
set_option maxRecDepth 20000 in
theorem tw_220 : Cond.lays "CentrifugeUnit$Run" "CentrifugeUnit$Run" "wrongPattern" "Z" ∈ xw := xw_of (List.mem_append_right _ (List.mem_of_getElem? (i := 220) (by decide +kernel))) rfl
set_option maxRecDepth 20000 in
theorem tw_222 : Cond.lays "CentrifugeUnit$Run" "CentrifugeUnit$Run" "greatest" "I" ∈ xw := xw_of (List.mem_append_right _ (List.mem_of_getElem? (i := 222) (by decide +kernel))) rfl
set_option maxRecDepth 20000 in
theorem tw_224 : Cond.lays "CentrifugeUnit$Run" "CentrifugeUnit$Run" "at" "I" ∈ xw := xw_of (List.mem_append_right _ (List.mem_of_getElem? (i := 224) (by decide +kernel))) rfl
set_option maxRecDepth 20000 in
theorem tw_226 : Cond.lays "CentrifugeUnit$Run" "CentrifugeUnit$Run" "ticksInSegment" "I" ∈ xw := xw_of (List.mem_append_right _ (List.mem_of_getElem? (i := 226) (by decide +kernel))) rfl
set_option maxRecDepth 20000 in
theorem tw_228 : Cond.lays "CentrifugeUnit$Run" "CentrifugeUnit$Run" "goal" "I" ∈ xw := xw_of (List.mem_append_right _ (List.mem_of_getElem? (i := 228) (by decide +kernel))) rfl
set_option maxRecDepth 20000 in
theorem tw_231 : Cond.fieldLink "CentrifugeUnit$Control" 39 "CentrifugeUnit$Control" "rotors" "LCentrifugeUnit$Rotors;" ∈ xw := xw_of (List.mem_append_right _ (List.mem_of_getElem? (i := 231) (by decide +kernel))) rfl
set_option maxRecDepth 20000 in
theorem tw_232 : Cond.fieldLink "CentrifugeUnit$Control" 43 "CentrifugeUnit$Control" "program" "LCentrifugeUnit$Program;" ∈ xw := xw_of (List.mem_append_right _ (List.mem_of_getElem? (i := 232) (by decide +kernel))) rfl
set_option maxRecDepth 20000 in
theorem tw_233 : Cond.fieldLink "CentrifugeUnit$Control" 47 "CentrifugeUnit$Control" "sensors" "LCentrifugeUnit$Sensors;" ∈ xw := xw_of (List.mem_append_right _ (List.mem_of_getElem? (i := 233) (by decide +kernel))) rfl
set_option maxRecDepth 20000 in
theorem tw_234 : Cond.fieldLink "CentrifugeUnit$Control" 51 "CentrifugeUnit$Control" "lid" "LCentrifugeUnit$Lid;" ∈ xw := xw_of (List.mem_append_right _ (List.mem_of_getElem? (i := 234) (by decide +kernel))) rfl
set_option maxRecDepth 20000 in
theorem tw_235 : Cond.fieldLink "CentrifugeUnit$Control" 55 "CentrifugeUnit$Control" "records" "LCentrifugeUnit$Records;" ∈ xw := xw_of (List.mem_append_right _ (List.mem_of_getElem? (i := 235) (by decide +kernel))) rfl
set_option maxRecDepth 20000 in
theorem tw_236 : Cond.fieldLink "CentrifugeUnit$Control" 12 "CentrifugeUnit$Control" "watch" "LCentrifugeUnit$Watch;" ∈ xw := xw_of (List.mem_append_right _ (List.mem_of_getElem? (i := 236) (by decide +kernel))) rfl
set_option maxRecDepth 20000 in
theorem tw_237 : Cond.fieldLink "CentrifugeUnit" 129 "CentrifugeUnit$Control" "watch" "LCentrifugeUnit$Watch;" ∈ xw := xw_of (List.mem_append_right _ (List.mem_of_getElem? (i := 237) (by decide +kernel))) rfl
set_option maxRecDepth 20000 in
theorem tw_238 : Cond.fieldLink "CentrifugeUnit$Control" 21 "CentrifugeUnit$Control" "run" "LCentrifugeUnit$Run;" ∈ xw := xw_of (List.mem_append_right _ (List.mem_of_getElem? (i := 238) (by decide +kernel))) rfl
set_option maxRecDepth 20000 in
theorem tw_239 : Cond.fieldLink "CentrifugeUnit" 209 "CentrifugeUnit$Control" "run" "LCentrifugeUnit$Run;" ∈ xw := xw_of (List.mem_append_right _ (List.mem_of_getElem? (i := 239) (by decide +kernel))) rfl
set_option maxRecDepth 20000 in
theorem tw_240 : Cond.fieldLink "CentrifugeUnit$Control" 25 "CentrifugeUnit$Control" "powered" "Z" ∈ xw := xw_of (List.mem_append_right _ (List.mem_of_getElem? (i := 240) (by decide +kernel))) rfl
set_option maxRecDepth 20000 in
theorem tw_241 : Cond.fieldLink "CentrifugeUnit" 173 "CentrifugeUnit$Control" "powered" "Z" ∈ xw := xw_of (List.mem_append_right _ (List.mem_of_getElem? (i := 241) (by decide +kernel))) rfl
set_option maxRecDepth 20000 in
theorem tw_242 : Cond.fieldLink "CentrifugeUnit$Control" 29 "CentrifugeUnit$Control" "chamberCenti" "I" ∈ xw := xw_of (List.mem_append_right _ (List.mem_of_getElem? (i := 242) (by decide +kernel))) rfl
set_option maxRecDepth 20000 in
theorem tw_243 : Cond.fieldLink "CentrifugeUnit" 161 "CentrifugeUnit$Control" "chamberCenti" "I" ∈ xw := xw_of (List.mem_append_right _ (List.mem_of_getElem? (i := 243) (by decide +kernel))) rfl
set_option maxRecDepth 20000 in
theorem tw_244 : Cond.fieldLink "CentrifugeUnit$Control" 33 "CentrifugeUnit$Control" "state" "I" ∈ xw := xw_of (List.mem_append_right _ (List.mem_of_getElem? (i := 244) (by decide +kernel))) rfl
set_option maxRecDepth 20000 in
theorem tw_245 : Cond.fieldLink "CentrifugeUnit" 203 "CentrifugeUnit$Control" "state" "I" ∈ xw := xw_of (List.mem_append_right _ (List.mem_of_getElem? (i := 245) (by decide +kernel))) rfl
set_option maxRecDepth 20000 in
theorem tw_246 : Cond.fieldLink "CentrifugeUnit$Control" 36 "CentrifugeUnit$Control" "reason" "I" ∈ xw := xw_of (List.mem_append_right _ (List.mem_of_getElem? (i := 246) (by decide +kernel))) rfl
set_option maxRecDepth 20000 in
theorem tw_247 : Cond.fieldLink "CentrifugeUnit" 206 "CentrifugeUnit$Control" "reason" "I" ∈ xw := xw_of (List.mem_append_right _ (List.mem_of_getElem? (i := 247) (by decide +kernel))) rfl
set_option maxRecDepth 20000 in
theorem tw_248 : Cond.fieldLink "CentrifugeUnit$Control" 65 "CentrifugeUnit$Control" "drive" "I" ∈ xw := xw_of (List.mem_append_right _ (List.mem_of_getElem? (i := 248) (by decide +kernel))) rfl
set_option maxRecDepth 20000 in
theorem tw_249 : Cond.fieldLink "CentrifugeUnit" 190 "CentrifugeUnit$Control" "drive" "I" ∈ xw := xw_of (List.mem_append_right _ (List.mem_of_getElem? (i := 249) (by decide +kernel))) rfl
set_option maxRecDepth 20000 in
theorem tw_250 : Cond.fieldLink "CentrifugeUnit$Control" 68 "CentrifugeUnit$Control" "brake" "I" ∈ xw := xw_of (List.mem_append_right _ (List.mem_of_getElem? (i := 250) (by decide +kernel))) rfl
set_option maxRecDepth 20000 in
theorem tw_251 : Cond.fieldLink "CentrifugeUnit" 193 "CentrifugeUnit$Control" "brake" "I" ∈ xw := xw_of (List.mem_append_right _ (List.mem_of_getElem? (i := 251) (by decide +kernel))) rfl
set_option maxRecDepth 20000 in
theorem tw_252 : Cond.fieldLink "CentrifugeUnit$Control" 71 "CentrifugeUnit$Control" "coilFed" "Z" ∈ xw := xw_of (List.mem_append_right _ (List.mem_of_getElem? (i := 252) (by decide +kernel))) rfl
set_option maxRecDepth 20000 in
theorem tw_253 : Cond.fieldLink "CentrifugeUnit" 218 "CentrifugeUnit$Control" "coilFed" "Z" ∈ xw := xw_of (List.mem_append_right _ (List.mem_of_getElem? (i := 253) (by decide +kernel))) rfl
set_option maxRecDepth 20000 in
theorem tw_254 : Cond.laysFinal "CentrifugeUnit$Control" "CentrifugeUnit$Control" "rotors" "LCentrifugeUnit$Rotors;" ∈ xw := xw_of (List.mem_append_right _ (List.mem_of_getElem? (i := 254) (by decide +kernel))) rfl
set_option maxRecDepth 20000 in
theorem tw_256 : Cond.laysFinal "CentrifugeUnit$Control" "CentrifugeUnit$Control" "program" "LCentrifugeUnit$Program;" ∈ xw := xw_of (List.mem_append_right _ (List.mem_of_getElem? (i := 256) (by decide +kernel))) rfl
set_option maxRecDepth 20000 in
theorem tw_258 : Cond.laysFinal "CentrifugeUnit$Control" "CentrifugeUnit$Control" "sensors" "LCentrifugeUnit$Sensors;" ∈ xw := xw_of (List.mem_append_right _ (List.mem_of_getElem? (i := 258) (by decide +kernel))) rfl
set_option maxRecDepth 20000 in
theorem tw_260 : Cond.laysFinal "CentrifugeUnit$Control" "CentrifugeUnit$Control" "lid" "LCentrifugeUnit$Lid;" ∈ xw := xw_of (List.mem_append_right _ (List.mem_of_getElem? (i := 260) (by decide +kernel))) rfl
set_option maxRecDepth 20000 in
theorem tw_262 : Cond.laysFinal "CentrifugeUnit$Control" "CentrifugeUnit$Control" "records" "LCentrifugeUnit$Records;" ∈ xw := xw_of (List.mem_append_right _ (List.mem_of_getElem? (i := 262) (by decide +kernel))) rfl
set_option maxRecDepth 20000 in
theorem tw_264 : Cond.laysFinal "CentrifugeUnit$Control" "CentrifugeUnit$Control" "watch" "LCentrifugeUnit$Watch;" ∈ xw := xw_of (List.mem_append_right _ (List.mem_of_getElem? (i := 264) (by decide +kernel))) rfl
set_option maxRecDepth 20000 in
theorem tw_266 : Cond.laysFinal "CentrifugeUnit$Control" "CentrifugeUnit$Control" "run" "LCentrifugeUnit$Run;" ∈ xw := xw_of (List.mem_append_right _ (List.mem_of_getElem? (i := 266) (by decide +kernel))) rfl
set_option maxRecDepth 20000 in
theorem tw_268 : Cond.lays "CentrifugeUnit$Control" "CentrifugeUnit$Control" "powered" "Z" ∈ xw := xw_of (List.mem_append_right _ (List.mem_of_getElem? (i := 268) (by decide +kernel))) rfl
set_option maxRecDepth 20000 in
theorem tw_270 : Cond.lays "CentrifugeUnit$Control" "CentrifugeUnit$Control" "chamberCenti" "I" ∈ xw := xw_of (List.mem_append_right _ (List.mem_of_getElem? (i := 270) (by decide +kernel))) rfl
set_option maxRecDepth 20000 in
theorem tw_272 : Cond.lays "CentrifugeUnit$Control" "CentrifugeUnit$Control" "state" "I" ∈ xw := xw_of (List.mem_append_right _ (List.mem_of_getElem? (i := 272) (by decide +kernel))) rfl
set_option maxRecDepth 20000 in
theorem tw_274 : Cond.lays "CentrifugeUnit$Control" "CentrifugeUnit$Control" "reason" "I" ∈ xw := xw_of (List.mem_append_right _ (List.mem_of_getElem? (i := 274) (by decide +kernel))) rfl
set_option maxRecDepth 20000 in
theorem tw_276 : Cond.lays "CentrifugeUnit$Control" "CentrifugeUnit$Control" "drive" "I" ∈ xw := xw_of (List.mem_append_right _ (List.mem_of_getElem? (i := 276) (by decide +kernel))) rfl
set_option maxRecDepth 20000 in
theorem tw_278 : Cond.lays "CentrifugeUnit$Control" "CentrifugeUnit$Control" "brake" "I" ∈ xw := xw_of (List.mem_append_right _ (List.mem_of_getElem? (i := 278) (by decide +kernel))) rfl
set_option maxRecDepth 20000 in
theorem tw_280 : Cond.lays "CentrifugeUnit$Control" "CentrifugeUnit$Control" "coilFed" "Z" ∈ xw := xw_of (List.mem_append_right _ (List.mem_of_getElem? (i := 280) (by decide +kernel))) rfl
set_option maxRecDepth 20000 in
theorem tw_283 : Cond.fieldLink "CentrifugeUnit" 10 "CentrifugeUnit" "rotors" "LCentrifugeUnit$Rotors;" ∈ xw := xw_of (List.mem_append_right _ (List.mem_of_getElem? (i := 283) (by decide +kernel))) rfl
set_option maxRecDepth 20000 in
theorem tw_284 : Cond.fieldLink "CentrifugeUnit" 19 "CentrifugeUnit" "program" "LCentrifugeUnit$Program;" ∈ xw := xw_of (List.mem_append_right _ (List.mem_of_getElem? (i := 284) (by decide +kernel))) rfl
set_option maxRecDepth 20000 in
theorem tw_285 : Cond.fieldLink "CentrifugeUnit" 26 "CentrifugeUnit" "model" "LCentrifugeUnit$Model;" ∈ xw := xw_of (List.mem_append_right _ (List.mem_of_getElem? (i := 285) (by decide +kernel))) rfl
set_option maxRecDepth 20000 in
theorem tw_286 : Cond.fieldLink "CentrifugeUnit" 33 "CentrifugeUnit" "sensors" "LCentrifugeUnit$Sensors;" ∈ xw := xw_of (List.mem_append_right _ (List.mem_of_getElem? (i := 286) (by decide +kernel))) rfl
set_option maxRecDepth 20000 in
theorem tw_287 : Cond.fieldLink "CentrifugeUnit" 40 "CentrifugeUnit" "lid" "LCentrifugeUnit$Lid;" ∈ xw := xw_of (List.mem_append_right _ (List.mem_of_getElem? (i := 287) (by decide +kernel))) rfl
set_option maxRecDepth 20000 in
theorem tw_288 : Cond.fieldLink "CentrifugeUnit" 47 "CentrifugeUnit" "records" "LCentrifugeUnit$Records;" ∈ xw := xw_of (List.mem_append_right _ (List.mem_of_getElem? (i := 288) (by decide +kernel))) rfl
set_option maxRecDepth 20000 in
theorem tw_289 : Cond.fieldLink "CentrifugeUnit" 56 "CentrifugeUnit" "control" "LCentrifugeUnit$Control;" ∈ xw := xw_of (List.mem_append_right _ (List.mem_of_getElem? (i := 289) (by decide +kernel))) rfl
set_option maxRecDepth 20000 in
theorem tw_290 : Cond.laysFinal "CentrifugeUnit" "CentrifugeUnit" "rotors" "LCentrifugeUnit$Rotors;" ∈ xw := xw_of (List.mem_append_right _ (List.mem_of_getElem? (i := 290) (by decide +kernel))) rfl
set_option maxRecDepth 20000 in
theorem tw_292 : Cond.laysFinal "CentrifugeUnit" "CentrifugeUnit" "program" "LCentrifugeUnit$Program;" ∈ xw := xw_of (List.mem_append_right _ (List.mem_of_getElem? (i := 292) (by decide +kernel))) rfl
set_option maxRecDepth 20000 in
theorem tw_294 : Cond.laysFinal "CentrifugeUnit" "CentrifugeUnit" "model" "LCentrifugeUnit$Model;" ∈ xw := xw_of (List.mem_append_right _ (List.mem_of_getElem? (i := 294) (by decide +kernel))) rfl
set_option maxRecDepth 20000 in
theorem tw_296 : Cond.laysFinal "CentrifugeUnit" "CentrifugeUnit" "sensors" "LCentrifugeUnit$Sensors;" ∈ xw := xw_of (List.mem_append_right _ (List.mem_of_getElem? (i := 296) (by decide +kernel))) rfl
set_option maxRecDepth 20000 in
theorem tw_298 : Cond.laysFinal "CentrifugeUnit" "CentrifugeUnit" "lid" "LCentrifugeUnit$Lid;" ∈ xw := xw_of (List.mem_append_right _ (List.mem_of_getElem? (i := 298) (by decide +kernel))) rfl
set_option maxRecDepth 20000 in
theorem tw_300 : Cond.laysFinal "CentrifugeUnit" "CentrifugeUnit" "records" "LCentrifugeUnit$Records;" ∈ xw := xw_of (List.mem_append_right _ (List.mem_of_getElem? (i := 300) (by decide +kernel))) rfl
set_option maxRecDepth 20000 in
theorem tw_302 : Cond.laysFinal "CentrifugeUnit" "CentrifugeUnit" "control" "LCentrifugeUnit$Control;" ∈ xw := xw_of (List.mem_append_right _ (List.mem_of_getElem? (i := 302) (by decide +kernel))) rfl
set_option maxRecDepth 20000 in
theorem tw_317 : Cond.constantLong "CentrifugeUnit" 242 (1118 : Int64) ∈ xw := xw_of (List.mem_append_right _ (List.mem_of_getElem? (i := 317) (by decide +kernel))) rfl
set_option maxRecDepth 20000 in
theorem tw_318 : Cond.methodLink "CentrifugeUnit" 244 ⟨"CentrifugeUnit$Rotors", "radiusOf", "(I)I"⟩ ∈ xw := xw_of (List.mem_append_right _ (List.mem_of_getElem? (i := 318) (by decide +kernel))) rfl
set_option maxRecDepth 20000 in
theorem tw_319 : Cond.instanceMethod ⟨"CentrifugeUnit$Rotors", "radiusOf", "(I)I"⟩ ∈ xw := xw_of (List.mem_append_right _ (List.mem_of_getElem? (i := 319) (by decide +kernel))) rfl
set_option maxRecDepth 20000 in
theorem tw_320 : Cond.selects "CentrifugeUnit$Rotors" ⟨"CentrifugeUnit$Rotors", "radiusOf", "(I)I"⟩ ⟨"CentrifugeUnit$Rotors", "radiusOf", "(I)I"⟩ ∈ xw := xw_of (List.mem_append_right _ (List.mem_of_getElem? (i := 320) (by decide +kernel))) rfl
set_option maxRecDepth 20000 in
theorem tw_321 : Cond.code ⟨"CentrifugeUnit$Rotors", "radiusOf", "(I)I"⟩ prog_7_method_9_code 2 (Option.some Jvm.ClassFile.FieldType.int) ∈ xw := xw_of (List.mem_append_right _ (List.mem_of_getElem? (i := 321) (by decide +kernel))) rfl
set_option maxRecDepth 20000 in
theorem tw_322 : Cond.methodLink "CentrifugeUnit$Rotors" 38 ⟨"CentrifugeUnit$Rotors", "exists", "(I)Z"⟩ ∈ xw := xw_of (List.mem_append_right _ (List.mem_of_getElem? (i := 322) (by decide +kernel))) rfl
set_option maxRecDepth 20000 in
theorem tw_323 : Cond.static ⟨"CentrifugeUnit$Rotors", "exists", "(I)Z"⟩ ∈ xw := xw_of (List.mem_append_right _ (List.mem_of_getElem? (i := 323) (by decide +kernel))) rfl
set_option maxRecDepth 20000 in
theorem tw_324 : Cond.code ⟨"CentrifugeUnit$Rotors", "exists", "(I)Z"⟩ prog_7_method_2_code 1 (Option.some Jvm.ClassFile.FieldType.boolean) ∈ xw := xw_of (List.mem_append_right _ (List.mem_of_getElem? (i := 324) (by decide +kernel))) rfl
set_option maxRecDepth 20000 in
theorem tw_326 : Cond.static ⟨"CentrifugeUnit", "within", "(III)Z"⟩ ∈ xw := xw_of (List.mem_append_right _ (List.mem_of_getElem? (i := 326) (by decide +kernel))) rfl
set_option maxRecDepth 20000 in
theorem tw_327 : Cond.code ⟨"CentrifugeUnit", "within", "(III)Z"⟩ prog_1_method_19_code 3 (Option.some Jvm.ClassFile.FieldType.boolean) ∈ xw := xw_of (List.mem_append_right _ (List.mem_of_getElem? (i := 327) (by decide +kernel))) rfl
set_option maxRecDepth 20000 in
theorem tw_328 : Cond.constantLong "CentrifugeUnit" 248 (1000000 : Int64) ∈ xw := xw_of (List.mem_append_right _ (List.mem_of_getElem? (i := 328) (by decide +kernel))) rfl
set_option maxRecDepth 20000 in
theorem tw_342 : Cond.methodLink "CentrifugeUnit" 60 ⟨"CentrifugeUnit$Rotors", "allowed", "(IIIII)Z"⟩ ∈ xw := xw_of (List.mem_append_right _ (List.mem_of_getElem? (i := 342) (by decide +kernel))) rfl
set_option maxRecDepth 20000 in
theorem tw_343 : Cond.static ⟨"CentrifugeUnit$Rotors", "allowed", "(IIIII)Z"⟩ ∈ xw := xw_of (List.mem_append_right _ (List.mem_of_getElem? (i := 343) (by decide +kernel))) rfl
set_option maxRecDepth 20000 in
theorem tw_344 : Cond.code ⟨"CentrifugeUnit$Rotors", "allowed", "(IIIII)Z"⟩ prog_7_method_3_code 5 (Option.some Jvm.ClassFile.FieldType.boolean) ∈ xw := xw_of (List.mem_append_right _ (List.mem_of_getElem? (i := 344) (by decide +kernel))) rfl
set_option maxRecDepth 20000 in
theorem tw_345 : Cond.methodLink "CentrifugeUnit" 64 ⟨"CentrifugeUnit$Rotors", "anotherHas", "(II)Z"⟩ ∈ xw := xw_of (List.mem_append_right _ (List.mem_of_getElem? (i := 345) (by decide +kernel))) rfl
set_option maxRecDepth 20000 in
theorem tw_346 : Cond.instanceMethod ⟨"CentrifugeUnit$Rotors", "anotherHas", "(II)Z"⟩ ∈ xw := xw_of (List.mem_append_right _ (List.mem_of_getElem? (i := 346) (by decide +kernel))) rfl
set_option maxRecDepth 20000 in
theorem tw_347 : Cond.selects "CentrifugeUnit$Rotors" ⟨"CentrifugeUnit$Rotors", "anotherHas", "(II)Z"⟩ ⟨"CentrifugeUnit$Rotors", "anotherHas", "(II)Z"⟩ ∈ xw := xw_of (List.mem_append_right _ (List.mem_of_getElem? (i := 347) (by decide +kernel))) rfl
set_option maxRecDepth 20000 in
theorem tw_348 : Cond.code ⟨"CentrifugeUnit$Rotors", "anotherHas", "(II)Z"⟩ prog_7_method_4_code 4 (Option.some Jvm.ClassFile.FieldType.boolean) ∈ xw := xw_of (List.mem_append_right _ (List.mem_of_getElem? (i := 348) (by decide +kernel))) rfl
set_option maxRecDepth 20000 in
theorem tw_349 : Cond.methodLink "CentrifugeUnit$Rotors" 42 ⟨"CentrifugeUnit$Rotors", "withPattern", "(I)I"⟩ ∈ xw := xw_of (List.mem_append_right _ (List.mem_of_getElem? (i := 349) (by decide +kernel))) rfl
set_option maxRecDepth 20000 in
theorem tw_350 : Cond.instanceMethod ⟨"CentrifugeUnit$Rotors", "withPattern", "(I)I"⟩ ∈ xw := xw_of (List.mem_append_right _ (List.mem_of_getElem? (i := 350) (by decide +kernel))) rfl
set_option maxRecDepth 20000 in
theorem tw_351 : Cond.selects "CentrifugeUnit$Rotors" ⟨"CentrifugeUnit$Rotors", "withPattern", "(I)I"⟩ ⟨"CentrifugeUnit$Rotors", "withPattern", "(I)I"⟩ ∈ xw := xw_of (List.mem_append_right _ (List.mem_of_getElem? (i := 351) (by decide +kernel))) rfl
set_option maxRecDepth 20000 in
theorem tw_352 : Cond.code ⟨"CentrifugeUnit$Rotors", "withPattern", "(I)I"⟩ prog_7_method_6_code 3 (Option.some Jvm.ClassFile.FieldType.int) ∈ xw := xw_of (List.mem_append_right _ (List.mem_of_getElem? (i := 352) (by decide +kernel))) rfl
set_option maxRecDepth 20000 in
theorem tw_353 : Cond.classLink "CentrifugeUnit" 68 "java/lang/IllegalArgumentException" ∈ xw := xw_of (List.mem_append_right _ (List.mem_of_getElem? (i := 353) (by decide +kernel))) rfl
set_option maxRecDepth 20000 in
theorem tw_354 : Cond.instantiable "java/lang/IllegalArgumentException" 6 ∈ xw := xw_of (List.mem_append_right _ (List.mem_of_getElem? (i := 354) (by decide +kernel))) rfl
set_option maxRecDepth 20000 in
theorem tw_421 : Cond.methodLink "CentrifugeUnit" 75 ⟨"CentrifugeUnit$Control", "takesOrders", "(I)Z"⟩ ∈ xw := xw_of (List.mem_append_right _ (List.mem_of_getElem? (i := 421) (by decide +kernel))) rfl
set_option maxRecDepth 20000 in
theorem tw_422 : Cond.instanceMethod ⟨"CentrifugeUnit$Control", "takesOrders", "(I)Z"⟩ ∈ xw := xw_of (List.mem_append_right _ (List.mem_of_getElem? (i := 422) (by decide +kernel))) rfl
set_option maxRecDepth 20000 in
theorem tw_423 : Cond.selects "CentrifugeUnit$Control" ⟨"CentrifugeUnit$Control", "takesOrders", "(I)Z"⟩ ⟨"CentrifugeUnit$Control", "takesOrders", "(I)Z"⟩ ∈ xw := xw_of (List.mem_append_right _ (List.mem_of_getElem? (i := 423) (by decide +kernel))) rfl
set_option maxRecDepth 20000 in
theorem tw_424 : Cond.code ⟨"CentrifugeUnit$Control", "takesOrders", "(I)Z"⟩ prog_2_method_2_code 2 (Option.some Jvm.ClassFile.FieldType.boolean) ∈ xw := xw_of (List.mem_append_right _ (List.mem_of_getElem? (i := 424) (by decide +kernel))) rfl
set_option maxRecDepth 20000 in
theorem tw_425 : Cond.classLink "CentrifugeUnit" 79 "java/lang/IllegalStateException" ∈ xw := xw_of (List.mem_append_right _ (List.mem_of_getElem? (i := 425) (by decide +kernel))) rfl
set_option maxRecDepth 20000 in
theorem tw_426 : Cond.instantiable "java/lang/IllegalStateException" 6 ∈ xw := xw_of (List.mem_append_right _ (List.mem_of_getElem? (i := 426) (by decide +kernel))) rfl
set_option maxRecDepth 20000 in
theorem tw_441 : Cond.methodLink "CentrifugeUnit" 84 ⟨"CentrifugeUnit$Rotors", "keep", "(IIIII)V"⟩ ∈ xw := xw_of (List.mem_append_right _ (List.mem_of_getElem? (i := 441) (by decide +kernel))) rfl
set_option maxRecDepth 20000 in
theorem tw_442 : Cond.instanceMethod ⟨"CentrifugeUnit$Rotors", "keep", "(IIIII)V"⟩ ∈ xw := xw_of (List.mem_append_right _ (List.mem_of_getElem? (i := 442) (by decide +kernel))) rfl
set_option maxRecDepth 20000 in
theorem tw_443 : Cond.selects "CentrifugeUnit$Rotors" ⟨"CentrifugeUnit$Rotors", "keep", "(IIIII)V"⟩ ⟨"CentrifugeUnit$Rotors", "keep", "(IIIII)V"⟩ ∈ xw := xw_of (List.mem_append_right _ (List.mem_of_getElem? (i := 443) (by decide +kernel))) rfl
set_option maxRecDepth 20000 in
theorem tw_444 : Cond.code ⟨"CentrifugeUnit$Rotors", "keep", "(IIIII)V"⟩ prog_7_method_5_code 6 (Option.none : Option Jvm.ClassFile.FieldType) ∈ xw := xw_of (List.mem_append_right _ (List.mem_of_getElem? (i := 444) (by decide +kernel))) rfl
set_option maxRecDepth 20000 in
theorem tw_452 : Cond.methodLink "CentrifugeUnit" 88 ⟨"CentrifugeUnit$Rotors", "exists", "(I)Z"⟩ ∈ xw := xw_of (List.mem_append_right _ (List.mem_of_getElem? (i := 452) (by decide +kernel))) rfl
set_option maxRecDepth 20000 in
theorem tw_461 : Cond.methodLink "CentrifugeUnit" 97 ⟨"CentrifugeUnit$Program", "allowed", "(III)Z"⟩ ∈ xw := xw_of (List.mem_append_right _ (List.mem_of_getElem? (i := 461) (by decide +kernel))) rfl
set_option maxRecDepth 20000 in
theorem tw_462 : Cond.static ⟨"CentrifugeUnit$Program", "allowed", "(III)Z"⟩ ∈ xw := xw_of (List.mem_append_right _ (List.mem_of_getElem? (i := 462) (by decide +kernel))) rfl
set_option maxRecDepth 20000 in
theorem tw_463 : Cond.code ⟨"CentrifugeUnit$Program", "allowed", "(III)Z"⟩ prog_5_method_2_code 3 (Option.some Jvm.ClassFile.FieldType.boolean) ∈ xw := xw_of (List.mem_append_right _ (List.mem_of_getElem? (i := 463) (by decide +kernel))) rfl
set_option maxRecDepth 20000 in
theorem tw_465 : Cond.constant "CentrifugeUnit$Program" 25 (100000 : Int32) ∈ xw := xw_of (List.mem_append_right _ (List.mem_of_getElem? (i := 465) (by decide +kernel))) rfl
set_option maxRecDepth 20000 in
theorem tw_466 : Cond.constant "CentrifugeUnit$Program" 26 (1000000 : Int32) ∈ xw := xw_of (List.mem_append_right _ (List.mem_of_getElem? (i := 466) (by decide +kernel))) rfl
set_option maxRecDepth 20000 in
theorem tw_468 : Cond.methodLink "CentrifugeUnit" 102 ⟨"CentrifugeUnit$Program", "full", "()Z"⟩ ∈ xw := xw_of (List.mem_append_right _ (List.mem_of_getElem? (i := 468) (by decide +kernel))) rfl
set_option maxRecDepth 20000 in
theorem tw_469 : Cond.instanceMethod ⟨"CentrifugeUnit$Program", "full", "()Z"⟩ ∈ xw := xw_of (List.mem_append_right _ (List.mem_of_getElem? (i := 469) (by decide +kernel))) rfl
set_option maxRecDepth 20000 in
theorem tw_470 : Cond.selects "CentrifugeUnit$Program" ⟨"CentrifugeUnit$Program", "full", "()Z"⟩ ⟨"CentrifugeUnit$Program", "full", "()Z"⟩ ∈ xw := xw_of (List.mem_append_right _ (List.mem_of_getElem? (i := 470) (by decide +kernel))) rfl
set_option maxRecDepth 20000 in
theorem tw_471 : Cond.code ⟨"CentrifugeUnit$Program", "full", "()Z"⟩ prog_5_method_3_code 1 (Option.some Jvm.ClassFile.FieldType.boolean) ∈ xw := xw_of (List.mem_append_right _ (List.mem_of_getElem? (i := 471) (by decide +kernel))) rfl
set_option maxRecDepth 20000 in
theorem tw_473 : Cond.methodLink "CentrifugeUnit" 111 ⟨"CentrifugeUnit$Program", "add", "(III)V"⟩ ∈ xw := xw_of (List.mem_append_right _ (List.mem_of_getElem? (i := 473) (by decide +kernel))) rfl
set_option maxRecDepth 20000 in
theorem tw_474 : Cond.instanceMethod ⟨"CentrifugeUnit$Program", "add", "(III)V"⟩ ∈ xw := xw_of (List.mem_append_right _ (List.mem_of_getElem? (i := 474) (by decide +kernel))) rfl
set_option maxRecDepth 20000 in
theorem tw_475 : Cond.selects "CentrifugeUnit$Program" ⟨"CentrifugeUnit$Program", "add", "(III)V"⟩ ⟨"CentrifugeUnit$Program", "add", "(III)V"⟩ ∈ xw := xw_of (List.mem_append_right _ (List.mem_of_getElem? (i := 475) (by decide +kernel))) rfl
set_option maxRecDepth 20000 in
theorem tw_476 : Cond.code ⟨"CentrifugeUnit$Program", "add", "(III)V"⟩ prog_5_method_4_code 4 (Option.none : Option Jvm.ClassFile.FieldType) ∈ xw := xw_of (List.mem_append_right _ (List.mem_of_getElem? (i := 476) (by decide +kernel))) rfl
set_option maxRecDepth 20000 in
theorem tw_477 : Cond.methodLink "CentrifugeUnit$Program" 31 ⟨"CentrifugeUnit$Program", "full", "()Z"⟩ ∈ xw := xw_of (List.mem_append_right _ (List.mem_of_getElem? (i := 477) (by decide +kernel))) rfl
set_option maxRecDepth 20000 in
theorem tw_485 : Cond.methodLink "CentrifugeUnit" 115 ⟨"CentrifugeUnit$Lid", "locked", "()Z"⟩ ∈ xw := xw_of (List.mem_append_right _ (List.mem_of_getElem? (i := 485) (by decide +kernel))) rfl
set_option maxRecDepth 20000 in
theorem tw_486 : Cond.instanceMethod ⟨"CentrifugeUnit$Lid", "locked", "()Z"⟩ ∈ xw := xw_of (List.mem_append_right _ (List.mem_of_getElem? (i := 486) (by decide +kernel))) rfl
set_option maxRecDepth 20000 in
theorem tw_487 : Cond.selects "CentrifugeUnit$Lid" ⟨"CentrifugeUnit$Lid", "locked", "()Z"⟩ ⟨"CentrifugeUnit$Lid", "locked", "()Z"⟩ ∈ xw := xw_of (List.mem_append_right _ (List.mem_of_getElem? (i := 487) (by decide +kernel))) rfl
set_option maxRecDepth 20000 in
theorem tw_488 : Cond.code ⟨"CentrifugeUnit$Lid", "locked", "()Z"⟩ prog_3_method_2_code 1 (Option.some Jvm.ClassFile.FieldType.boolean) ∈ xw := xw_of (List.mem_append_right _ (List.mem_of_getElem? (i := 488) (by decide +kernel))) rfl
set_option maxRecDepth 20000 in
theorem tw_490 : Cond.methodLink "CentrifugeUnit" 120 ⟨"CentrifugeUnit$Control", "beginRun", "()V"⟩ ∈ xw := xw_of (List.mem_append_right _ (List.mem_of_getElem? (i := 490) (by decide +kernel))) rfl
set_option maxRecDepth 20000 in
theorem tw_491 : Cond.instanceMethod ⟨"CentrifugeUnit$Control", "beginRun", "()V"⟩ ∈ xw := xw_of (List.mem_append_right _ (List.mem_of_getElem? (i := 491) (by decide +kernel))) rfl
set_option maxRecDepth 20000 in
theorem tw_492 : Cond.selects "CentrifugeUnit$Control" ⟨"CentrifugeUnit$Control", "beginRun", "()V"⟩ ⟨"CentrifugeUnit$Control", "beginRun", "()V"⟩ ∈ xw := xw_of (List.mem_append_right _ (List.mem_of_getElem? (i := 492) (by decide +kernel))) rfl
set_option maxRecDepth 20000 in
theorem tw_493 : Cond.code ⟨"CentrifugeUnit$Control", "beginRun", "()V"⟩ prog_2_method_3_code 1 (Option.none : Option Jvm.ClassFile.FieldType) ∈ xw := xw_of (List.mem_append_right _ (List.mem_of_getElem? (i := 493) (by decide +kernel))) rfl
set_option maxRecDepth 20000 in
theorem tw_494 : Cond.methodLink "CentrifugeUnit$Control" 59 ⟨"CentrifugeUnit$Run", "begin", "()V"⟩ ∈ xw := xw_of (List.mem_append_right _ (List.mem_of_getElem? (i := 494) (by decide +kernel))) rfl
set_option maxRecDepth 20000 in
theorem tw_495 : Cond.instanceMethod ⟨"CentrifugeUnit$Run", "begin", "()V"⟩ ∈ xw := xw_of (List.mem_append_right _ (List.mem_of_getElem? (i := 495) (by decide +kernel))) rfl
set_option maxRecDepth 20000 in
theorem tw_496 : Cond.selects "CentrifugeUnit$Run" ⟨"CentrifugeUnit$Run", "begin", "()V"⟩ ⟨"CentrifugeUnit$Run", "begin", "()V"⟩ ∈ xw := xw_of (List.mem_append_right _ (List.mem_of_getElem? (i := 496) (by decide +kernel))) rfl
set_option maxRecDepth 20000 in
theorem tw_497 : Cond.code ⟨"CentrifugeUnit$Run", "begin", "()V"⟩ prog_8_method_2_code 1 (Option.none : Option Jvm.ClassFile.FieldType) ∈ xw := xw_of (List.mem_append_right _ (List.mem_of_getElem? (i := 497) (by decide +kernel))) rfl
set_option maxRecDepth 20000 in
theorem tw_506 : Cond.methodLink "CentrifugeUnit" 125 ⟨"CentrifugeUnit$Control", "beginStopping", "(I)V"⟩ ∈ xw := xw_of (List.mem_append_right _ (List.mem_of_getElem? (i := 506) (by decide +kernel))) rfl
set_option maxRecDepth 20000 in
theorem tw_507 : Cond.instanceMethod ⟨"CentrifugeUnit$Control", "beginStopping", "(I)V"⟩ ∈ xw := xw_of (List.mem_append_right _ (List.mem_of_getElem? (i := 507) (by decide +kernel))) rfl
set_option maxRecDepth 20000 in
theorem tw_508 : Cond.selects "CentrifugeUnit$Control" ⟨"CentrifugeUnit$Control", "beginStopping", "(I)V"⟩ ⟨"CentrifugeUnit$Control", "beginStopping", "(I)V"⟩ ∈ xw := xw_of (List.mem_append_right _ (List.mem_of_getElem? (i := 508) (by decide +kernel))) rfl
set_option maxRecDepth 20000 in
theorem tw_509 : Cond.code ⟨"CentrifugeUnit$Control", "beginStopping", "(I)V"⟩ prog_2_method_4_code 2 (Option.none : Option Jvm.ClassFile.FieldType) ∈ xw := xw_of (List.mem_append_right _ (List.mem_of_getElem? (i := 509) (by decide +kernel))) rfl
set_option maxRecDepth 20000 in
theorem tw_517 : Cond.methodLink "CentrifugeUnit" 133 ⟨"CentrifugeUnit$Watch", "atRest", "()Z"⟩ ∈ xw := xw_of (List.mem_append_right _ (List.mem_of_getElem? (i := 517) (by decide +kernel))) rfl
set_option maxRecDepth 20000 in
theorem tw_518 : Cond.instanceMethod ⟨"CentrifugeUnit$Watch", "atRest", "()Z"⟩ ∈ xw := xw_of (List.mem_append_right _ (List.mem_of_getElem? (i := 518) (by decide +kernel))) rfl
set_option maxRecDepth 20000 in
theorem tw_519 : Cond.selects "CentrifugeUnit$Watch" ⟨"CentrifugeUnit$Watch", "atRest", "()Z"⟩ ⟨"CentrifugeUnit$Watch", "atRest", "()Z"⟩ ∈ xw := xw_of (List.mem_append_right _ (List.mem_of_getElem? (i := 519) (by decide +kernel))) rfl
set_option maxRecDepth 20000 in
theorem tw_520 : Cond.code ⟨"CentrifugeUnit$Watch", "atRest", "()Z"⟩ prog_10_method_4_code 1 (Option.some Jvm.ClassFile.FieldType.boolean) ∈ xw := xw_of (List.mem_append_right _ (List.mem_of_getElem? (i := 520) (by decide +kernel))) rfl
set_option maxRecDepth 20000 in
theorem tw_522 : Cond.methodLink "CentrifugeUnit" 140 ⟨"CentrifugeUnit$Lid", "askToOpen", "()V"⟩ ∈ xw := xw_of (List.mem_append_right _ (List.mem_of_getElem? (i := 522) (by decide +kernel))) rfl
set_option maxRecDepth 20000 in
theorem tw_523 : Cond.instanceMethod ⟨"CentrifugeUnit$Lid", "askToOpen", "()V"⟩ ∈ xw := xw_of (List.mem_append_right _ (List.mem_of_getElem? (i := 523) (by decide +kernel))) rfl
set_option maxRecDepth 20000 in
theorem tw_524 : Cond.selects "CentrifugeUnit$Lid" ⟨"CentrifugeUnit$Lid", "askToOpen", "()V"⟩ ⟨"CentrifugeUnit$Lid", "askToOpen", "()V"⟩ ∈ xw := xw_of (List.mem_append_right _ (List.mem_of_getElem? (i := 524) (by decide +kernel))) rfl
set_option maxRecDepth 20000 in
theorem tw_525 : Cond.code ⟨"CentrifugeUnit$Lid", "askToOpen", "()V"⟩ prog_3_method_3_code 1 (Option.none : Option Jvm.ClassFile.FieldType) ∈ xw := xw_of (List.mem_append_right _ (List.mem_of_getElem? (i := 525) (by decide +kernel))) rfl
set_option maxRecDepth 20000 in
theorem tw_533 : Cond.constant "CentrifugeUnit" 150 (100000 : Int32) ∈ xw := xw_of (List.mem_append_right _ (List.mem_of_getElem? (i := 533) (by decide +kernel))) rfl
set_option maxRecDepth 20000 in
theorem tw_534 : Cond.methodLink "CentrifugeUnit" 151 ⟨"CentrifugeUnit", "within", "(III)Z"⟩ ∈ xw := xw_of (List.mem_append_right _ (List.mem_of_getElem? (i := 534) (by decide +kernel))) rfl
set_option maxRecDepth 20000 in
theorem tw_551 : Cond.constant "CentrifugeUnit" 164 (1000000 : Int32) ∈ xw := xw_of (List.mem_append_right _ (List.mem_of_getElem? (i := 551) (by decide +kernel))) rfl
set_option maxRecDepth 20000 in
theorem tw_561 : Cond.methodLink "CentrifugeUnit" 178 ⟨"CentrifugeUnit$Control", "powerComes", "()V"⟩ ∈ xw := xw_of (List.mem_append_right _ (List.mem_of_getElem? (i := 561) (by decide +kernel))) rfl
set_option maxRecDepth 20000 in
theorem tw_562 : Cond.instanceMethod ⟨"CentrifugeUnit$Control", "powerComes", "()V"⟩ ∈ xw := xw_of (List.mem_append_right _ (List.mem_of_getElem? (i := 562) (by decide +kernel))) rfl
set_option maxRecDepth 20000 in
theorem tw_563 : Cond.selects "CentrifugeUnit$Control" ⟨"CentrifugeUnit$Control", "powerComes", "()V"⟩ ⟨"CentrifugeUnit$Control", "powerComes", "()V"⟩ ∈ xw := xw_of (List.mem_append_right _ (List.mem_of_getElem? (i := 563) (by decide +kernel))) rfl
set_option maxRecDepth 20000 in
theorem tw_564 : Cond.code ⟨"CentrifugeUnit$Control", "powerComes", "()V"⟩ prog_2_method_6_code 1 (Option.none : Option Jvm.ClassFile.FieldType) ∈ xw := xw_of (List.mem_append_right _ (List.mem_of_getElem? (i := 564) (by decide +kernel))) rfl
set_option maxRecDepth 20000 in
theorem tw_565 : Cond.methodLink "CentrifugeUnit$Control" 62 ⟨"CentrifugeUnit$Watch", "forget", "()V"⟩ ∈ xw := xw_of (List.mem_append_right _ (List.mem_of_getElem? (i := 565) (by decide +kernel))) rfl
set_option maxRecDepth 20000 in
theorem tw_566 : Cond.instanceMethod ⟨"CentrifugeUnit$Watch", "forget", "()V"⟩ ∈ xw := xw_of (List.mem_append_right _ (List.mem_of_getElem? (i := 566) (by decide +kernel))) rfl
set_option maxRecDepth 20000 in
theorem tw_567 : Cond.selects "CentrifugeUnit$Watch" ⟨"CentrifugeUnit$Watch", "forget", "()V"⟩ ⟨"CentrifugeUnit$Watch", "forget", "()V"⟩ ∈ xw := xw_of (List.mem_append_right _ (List.mem_of_getElem? (i := 567) (by decide +kernel))) rfl
set_option maxRecDepth 20000 in
theorem tw_568 : Cond.code ⟨"CentrifugeUnit$Watch", "forget", "()V"⟩ prog_10_method_3_code 1 (Option.none : Option Jvm.ClassFile.FieldType) ∈ xw := xw_of (List.mem_append_right _ (List.mem_of_getElem? (i := 568) (by decide +kernel))) rfl
set_option maxRecDepth 20000 in
theorem tw_569 : Cond.methodLink "CentrifugeUnit" 181 ⟨"CentrifugeUnit$Control", "powerGoes", "()V"⟩ ∈ xw := xw_of (List.mem_append_right _ (List.mem_of_getElem? (i := 569) (by decide +kernel))) rfl
set_option maxRecDepth 20000 in
theorem tw_570 : Cond.instanceMethod ⟨"CentrifugeUnit$Control", "powerGoes", "()V"⟩ ∈ xw := xw_of (List.mem_append_right _ (List.mem_of_getElem? (i := 570) (by decide +kernel))) rfl
set_option maxRecDepth 20000 in
theorem tw_571 : Cond.selects "CentrifugeUnit$Control" ⟨"CentrifugeUnit$Control", "powerGoes", "()V"⟩ ⟨"CentrifugeUnit$Control", "powerGoes", "()V"⟩ ∈ xw := xw_of (List.mem_append_right _ (List.mem_of_getElem? (i := 571) (by decide +kernel))) rfl
set_option maxRecDepth 20000 in
theorem tw_572 : Cond.code ⟨"CentrifugeUnit$Control", "powerGoes", "()V"⟩ prog_2_method_5_code 1 (Option.none : Option Jvm.ClassFile.FieldType) ∈ xw := xw_of (List.mem_append_right _ (List.mem_of_getElem? (i := 572) (by decide +kernel))) rfl
set_option maxRecDepth 20000 in
theorem tw_581 : Cond.methodLink "CentrifugeUnit" 186 ⟨"CentrifugeUnit$Control", "order", "(LCentrifugeUnit$Model;)V"⟩ ∈ xw := xw_of (List.mem_append_right _ (List.mem_of_getElem? (i := 581) (by decide +kernel))) rfl
set_option maxRecDepth 20000 in
theorem tw_582 : Cond.instanceMethod ⟨"CentrifugeUnit$Control", "order", "(LCentrifugeUnit$Model;)V"⟩ ∈ xw := xw_of (List.mem_append_right _ (List.mem_of_getElem? (i := 582) (by decide +kernel))) rfl
set_option maxRecDepth 20000 in
theorem tw_583 : Cond.selects "CentrifugeUnit$Control" ⟨"CentrifugeUnit$Control", "order", "(LCentrifugeUnit$Model;)V"⟩ ⟨"CentrifugeUnit$Control", "order", "(LCentrifugeUnit$Model;)V"⟩ ∈ xw := xw_of (List.mem_append_right _ (List.mem_of_getElem? (i := 583) (by decide +kernel))) rfl
set_option maxRecDepth 20000 in
theorem tw_584 : Cond.code ⟨"CentrifugeUnit$Control", "order", "(LCentrifugeUnit$Model;)V"⟩ prog_2_method_7_code 2 (Option.none : Option Jvm.ClassFile.FieldType) ∈ xw := xw_of (List.mem_append_right _ (List.mem_of_getElem? (i := 584) (by decide +kernel))) rfl
set_option maxRecDepth 20000 in
theorem tw_585 : Cond.methodLink "CentrifugeUnit$Control" 74 ⟨"CentrifugeUnit$Control", "readSensors", "(LCentrifugeUnit$Model;)V"⟩ ∈ xw := xw_of (List.mem_append_right _ (List.mem_of_getElem? (i := 585) (by decide +kernel))) rfl
set_option maxRecDepth 20000 in
theorem tw_587 : Cond.instanceMethod ⟨"CentrifugeUnit$Control", "readSensors", "(LCentrifugeUnit$Model;)V"⟩ ∈ xw := xw_of (List.mem_append_right _ (List.mem_of_getElem? (i := 587) (by decide +kernel))) rfl
set_option maxRecDepth 20000 in
theorem tw_588 : Cond.code ⟨"CentrifugeUnit$Control", "readSensors", "(LCentrifugeUnit$Model;)V"⟩ prog_2_method_9_code 3 (Option.none : Option Jvm.ClassFile.FieldType) ∈ xw := xw_of (List.mem_append_right _ (List.mem_of_getElem? (i := 588) (by decide +kernel))) rfl
set_option maxRecDepth 20000 in
theorem tw_589 : Cond.methodLink "CentrifugeUnit$Control" 96 ⟨"CentrifugeUnit$Sensors", "sense", "(LCentrifugeUnit$Model;)V"⟩ ∈ xw := xw_of (List.mem_append_right _ (List.mem_of_getElem? (i := 589) (by decide +kernel))) rfl
set_option maxRecDepth 20000 in
theorem tw_590 : Cond.instanceMethod ⟨"CentrifugeUnit$Sensors", "sense", "(LCentrifugeUnit$Model;)V"⟩ ∈ xw := xw_of (List.mem_append_right _ (List.mem_of_getElem? (i := 590) (by decide +kernel))) rfl
set_option maxRecDepth 20000 in
theorem tw_591 : Cond.selects "CentrifugeUnit$Sensors" ⟨"CentrifugeUnit$Sensors", "sense", "(LCentrifugeUnit$Model;)V"⟩ ⟨"CentrifugeUnit$Sensors", "sense", "(LCentrifugeUnit$Model;)V"⟩ ∈ xw := xw_of (List.mem_append_right _ (List.mem_of_getElem? (i := 591) (by decide +kernel))) rfl
set_option maxRecDepth 20000 in
theorem tw_592 : Cond.code ⟨"CentrifugeUnit$Sensors", "sense", "(LCentrifugeUnit$Model;)V"⟩ prog_9_method_2_code 6 (Option.none : Option Jvm.ClassFile.FieldType) ∈ xw := xw_of (List.mem_append_right _ (List.mem_of_getElem? (i := 592) (by decide +kernel))) rfl
set_option maxRecDepth 20000 in
theorem tw_593 : Cond.methodLink "CentrifugeUnit$Sensors" 16 ⟨"CentrifugeUnit$Model", "microsecondsOfTurn", "()J"⟩ ∈ xw := xw_of (List.mem_append_right _ (List.mem_of_getElem? (i := 593) (by decide +kernel))) rfl
set_option maxRecDepth 20000 in
theorem tw_594 : Cond.instanceMethod ⟨"CentrifugeUnit$Model", "microsecondsOfTurn", "()J"⟩ ∈ xw := xw_of (List.mem_append_right _ (List.mem_of_getElem? (i := 594) (by decide +kernel))) rfl
set_option maxRecDepth 20000 in
theorem tw_595 : Cond.selects "CentrifugeUnit$Model" ⟨"CentrifugeUnit$Model", "microsecondsOfTurn", "()J"⟩ ⟨"CentrifugeUnit$Model", "microsecondsOfTurn", "()J"⟩ ∈ xw := xw_of (List.mem_append_right _ (List.mem_of_getElem? (i := 595) (by decide +kernel))) rfl
set_option maxRecDepth 20000 in
theorem tw_596 : Cond.code ⟨"CentrifugeUnit$Model", "microsecondsOfTurn", "()J"⟩ prog_4_method_3_code 1 (Option.some Jvm.ClassFile.FieldType.long) ∈ xw := xw_of (List.mem_append_right _ (List.mem_of_getElem? (i := 596) (by decide +kernel))) rfl
set_option maxRecDepth 20000 in
theorem tw_597 : Cond.constantLong "CentrifugeUnit$Model" 30 (60000 : Int64) ∈ xw := xw_of (List.mem_append_right _ (List.mem_of_getElem? (i := 597) (by decide +kernel))) rfl
set_option maxRecDepth 20000 in
theorem tw_598 : Cond.constantLong "CentrifugeUnit$Model" 32 (60000000000 : Int64) ∈ xw := xw_of (List.mem_append_right _ (List.mem_of_getElem? (i := 598) (by decide +kernel))) rfl
set_option maxRecDepth 20000 in
theorem tw_599 : Cond.methodLink "CentrifugeUnit$Sensors" 22 ⟨"CentrifugeUnit$Model", "countInTick", "()J"⟩ ∈ xw := xw_of (List.mem_append_right _ (List.mem_of_getElem? (i := 599) (by decide +kernel))) rfl
set_option maxRecDepth 20000 in
theorem tw_600 : Cond.instanceMethod ⟨"CentrifugeUnit$Model", "countInTick", "()J"⟩ ∈ xw := xw_of (List.mem_append_right _ (List.mem_of_getElem? (i := 600) (by decide +kernel))) rfl
set_option maxRecDepth 20000 in
theorem tw_601 : Cond.selects "CentrifugeUnit$Model" ⟨"CentrifugeUnit$Model", "countInTick", "()J"⟩ ⟨"CentrifugeUnit$Model", "countInTick", "()J"⟩ ∈ xw := xw_of (List.mem_append_right _ (List.mem_of_getElem? (i := 601) (by decide +kernel))) rfl
set_option maxRecDepth 20000 in
theorem tw_602 : Cond.code ⟨"CentrifugeUnit$Model", "countInTick", "()J"⟩ prog_4_method_4_code 1 (Option.some Jvm.ClassFile.FieldType.long) ∈ xw := xw_of (List.mem_append_right _ (List.mem_of_getElem? (i := 602) (by decide +kernel))) rfl
set_option maxRecDepth 20000 in
theorem tw_603 : Cond.constantLong "CentrifugeUnit$Model" 25 (10000 : Int64) ∈ xw := xw_of (List.mem_append_right _ (List.mem_of_getElem? (i := 603) (by decide +kernel))) rfl
set_option maxRecDepth 20000 in
theorem tw_604 : Cond.constantLong "CentrifugeUnit$Sensors" 25 (100000 : Int64) ∈ xw := xw_of (List.mem_append_right _ (List.mem_of_getElem? (i := 604) (by decide +kernel))) rfl
set_option maxRecDepth 20000 in
theorem tw_605 : Cond.constantLong "CentrifugeUnit$Sensors" 27 (60000000 : Int64) ∈ xw := xw_of (List.mem_append_right _ (List.mem_of_getElem? (i := 605) (by decide +kernel))) rfl
set_option maxRecDepth 20000 in
theorem tw_606 : Cond.methodLink "CentrifugeUnit$Sensors" 29 ⟨"java/lang/Math", "min", "(JJ)J"⟩ ∈ xw := xw_of (List.mem_append_right _ (List.mem_of_getElem? (i := 606) (by decide +kernel))) rfl
set_option maxRecDepth 20000 in
theorem tw_607 : Cond.static ⟨"java/lang/Math", "min", "(JJ)J"⟩ ∈ xw := xw_of (List.mem_append_right _ (List.mem_of_getElem? (i := 607) (by decide +kernel))) rfl
set_option maxRecDepth 20000 in
theorem tw_608 : Cond.code ⟨"java/lang/Math", "min", "(JJ)J"⟩ prog_17_method_70_code 4 (Option.some Jvm.ClassFile.FieldType.long) ∈ xw := xw_of (List.mem_append_right _ (List.mem_of_getElem? (i := 608) (by decide +kernel))) rfl
set_option maxRecDepth 20000 in
theorem tw_609 : Cond.constantLong "CentrifugeUnit$Sensors" 38 (10 : Int64) ∈ xw := xw_of (List.mem_append_right _ (List.mem_of_getElem? (i := 609) (by decide +kernel))) rfl
set_option maxRecDepth 20000 in
theorem tw_610 : Cond.methodLink "CentrifugeUnit$Sensors" 43 ⟨"java/lang/Math", "max", "(II)I"⟩ ∈ xw := xw_of (List.mem_append_right _ (List.mem_of_getElem? (i := 610) (by decide +kernel))) rfl
set_option maxRecDepth 20000 in
theorem tw_611 : Cond.static ⟨"java/lang/Math", "max", "(II)I"⟩ ∈ xw := xw_of (List.mem_append_right _ (List.mem_of_getElem? (i := 611) (by decide +kernel))) rfl
set_option maxRecDepth 20000 in
theorem tw_612 : Cond.code ⟨"java/lang/Math", "max", "(II)I"⟩ prog_17_method_65_code 2 (Option.some Jvm.ClassFile.FieldType.int) ∈ xw := xw_of (List.mem_append_right _ (List.mem_of_getElem? (i := 612) (by decide +kernel))) rfl
set_option maxRecDepth 20000 in
theorem tw_613 : Cond.methodLink "CentrifugeUnit$Sensors" 50 ⟨"java/lang/Math", "min", "(II)I"⟩ ∈ xw := xw_of (List.mem_append_right _ (List.mem_of_getElem? (i := 613) (by decide +kernel))) rfl
set_option maxRecDepth 20000 in
theorem tw_614 : Cond.static ⟨"java/lang/Math", "min", "(II)I"⟩ ∈ xw := xw_of (List.mem_append_right _ (List.mem_of_getElem? (i := 614) (by decide +kernel))) rfl
set_option maxRecDepth 20000 in
theorem tw_615 : Cond.code ⟨"java/lang/Math", "min", "(II)I"⟩ prog_17_method_69_code 2 (Option.some Jvm.ClassFile.FieldType.int) ∈ xw := xw_of (List.mem_append_right _ (List.mem_of_getElem? (i := 615) (by decide +kernel))) rfl
set_option maxRecDepth 20000 in
theorem tw_616 : Cond.methodLink "CentrifugeUnit$Control" 101 ⟨"CentrifugeUnit$Watch", "count", "(LCentrifugeUnit$Sensors;)V"⟩ ∈ xw := xw_of (List.mem_append_right _ (List.mem_of_getElem? (i := 616) (by decide +kernel))) rfl
set_option maxRecDepth 20000 in
theorem tw_617 : Cond.instanceMethod ⟨"CentrifugeUnit$Watch", "count", "(LCentrifugeUnit$Sensors;)V"⟩ ∈ xw := xw_of (List.mem_append_right _ (List.mem_of_getElem? (i := 617) (by decide +kernel))) rfl
set_option maxRecDepth 20000 in
theorem tw_618 : Cond.selects "CentrifugeUnit$Watch" ⟨"CentrifugeUnit$Watch", "count", "(LCentrifugeUnit$Sensors;)V"⟩ ⟨"CentrifugeUnit$Watch", "count", "(LCentrifugeUnit$Sensors;)V"⟩ ∈ xw := xw_of (List.mem_append_right _ (List.mem_of_getElem? (i := 618) (by decide +kernel))) rfl
set_option maxRecDepth 20000 in
theorem tw_619 : Cond.code ⟨"CentrifugeUnit$Watch", "count", "(LCentrifugeUnit$Sensors;)V"⟩ prog_10_method_2_code 4 (Option.none : Option Jvm.ClassFile.FieldType) ∈ xw := xw_of (List.mem_append_right _ (List.mem_of_getElem? (i := 619) (by decide +kernel))) rfl
set_option maxRecDepth 20000 in
theorem tw_620 : Cond.methodLink "CentrifugeUnit$Control" 112 ⟨"CentrifugeUnit$Control", "turning", "()Z"⟩ ∈ xw := xw_of (List.mem_append_right _ (List.mem_of_getElem? (i := 620) (by decide +kernel))) rfl
set_option maxRecDepth 20000 in
theorem tw_622 : Cond.instanceMethod ⟨"CentrifugeUnit$Control", "turning", "()Z"⟩ ∈ xw := xw_of (List.mem_append_right _ (List.mem_of_getElem? (i := 622) (by decide +kernel))) rfl
set_option maxRecDepth 20000 in
theorem tw_623 : Cond.code ⟨"CentrifugeUnit$Control", "turning", "()Z"⟩ prog_2_method_8_code 1 (Option.some Jvm.ClassFile.FieldType.boolean) ∈ xw := xw_of (List.mem_append_right _ (List.mem_of_getElem? (i := 623) (by decide +kernel))) rfl
set_option maxRecDepth 20000 in
theorem tw_624 : Cond.constantLong "CentrifugeUnit$Control" 115 (300000 : Int64) ∈ xw := xw_of (List.mem_append_right _ (List.mem_of_getElem? (i := 624) (by decide +kernel))) rfl
set_option maxRecDepth 20000 in
theorem tw_625 : Cond.methodLink "CentrifugeUnit$Control" 117 ⟨"CentrifugeUnit$Run", "readPattern", "(LCentrifugeUnit$Rotors;)V"⟩ ∈ xw := xw_of (List.mem_append_right _ (List.mem_of_getElem? (i := 625) (by decide +kernel))) rfl
set_option maxRecDepth 20000 in
theorem tw_626 : Cond.instanceMethod ⟨"CentrifugeUnit$Run", "readPattern", "(LCentrifugeUnit$Rotors;)V"⟩ ∈ xw := xw_of (List.mem_append_right _ (List.mem_of_getElem? (i := 626) (by decide +kernel))) rfl
set_option maxRecDepth 20000 in
theorem tw_627 : Cond.selects "CentrifugeUnit$Run" ⟨"CentrifugeUnit$Run", "readPattern", "(LCentrifugeUnit$Rotors;)V"⟩ ⟨"CentrifugeUnit$Run", "readPattern", "(LCentrifugeUnit$Rotors;)V"⟩ ∈ xw := xw_of (List.mem_append_right _ (List.mem_of_getElem? (i := 627) (by decide +kernel))) rfl
set_option maxRecDepth 20000 in
theorem tw_628 : Cond.code ⟨"CentrifugeUnit$Run", "readPattern", "(LCentrifugeUnit$Rotors;)V"⟩ prog_8_method_3_code 3 (Option.none : Option Jvm.ClassFile.FieldType) ∈ xw := xw_of (List.mem_append_right _ (List.mem_of_getElem? (i := 628) (by decide +kernel))) rfl
set_option maxRecDepth 20000 in
theorem tw_629 : Cond.methodLink "CentrifugeUnit$Run" 38 ⟨"CentrifugeUnit$Rotors", "patternIn", "()I"⟩ ∈ xw := xw_of (List.mem_append_right _ (List.mem_of_getElem? (i := 629) (by decide +kernel))) rfl
set_option maxRecDepth 20000 in
theorem tw_630 : Cond.instanceMethod ⟨"CentrifugeUnit$Rotors", "patternIn", "()I"⟩ ∈ xw := xw_of (List.mem_append_right _ (List.mem_of_getElem? (i := 630) (by decide +kernel))) rfl
set_option maxRecDepth 20000 in
theorem tw_631 : Cond.selects "CentrifugeUnit$Rotors" ⟨"CentrifugeUnit$Rotors", "patternIn", "()I"⟩ ⟨"CentrifugeUnit$Rotors", "patternIn", "()I"⟩ ∈ xw := xw_of (List.mem_append_right _ (List.mem_of_getElem? (i := 631) (by decide +kernel))) rfl
set_option maxRecDepth 20000 in
theorem tw_632 : Cond.code ⟨"CentrifugeUnit$Rotors", "patternIn", "()I"⟩ prog_7_method_7_code 1 (Option.some Jvm.ClassFile.FieldType.int) ∈ xw := xw_of (List.mem_append_right _ (List.mem_of_getElem? (i := 632) (by decide +kernel))) rfl
set_option maxRecDepth 20000 in
theorem tw_633 : Cond.methodLink "CentrifugeUnit$Run" 44 ⟨"CentrifugeUnit$Rotors", "withPattern", "(I)I"⟩ ∈ xw := xw_of (List.mem_append_right _ (List.mem_of_getElem? (i := 633) (by decide +kernel))) rfl
set_option maxRecDepth 20000 in
theorem tw_634 : Cond.methodLink "CentrifugeUnit$Control" 124 ⟨"java/lang/Math", "max", "(II)I"⟩ ∈ xw := xw_of (List.mem_append_right _ (List.mem_of_getElem? (i := 634) (by decide +kernel))) rfl
set_option maxRecDepth 20000 in
theorem tw_635 : Cond.methodLink "CentrifugeUnit$Control" 78 ⟨"CentrifugeUnit$Control", "lookForFault", "()V"⟩ ∈ xw := xw_of (List.mem_append_right _ (List.mem_of_getElem? (i := 635) (by decide +kernel))) rfl
set_option maxRecDepth 20000 in
theorem tw_637 : Cond.instanceMethod ⟨"CentrifugeUnit$Control", "lookForFault", "()V"⟩ ∈ xw := xw_of (List.mem_append_right _ (List.mem_of_getElem? (i := 637) (by decide +kernel))) rfl
set_option maxRecDepth 20000 in
theorem tw_638 : Cond.code ⟨"CentrifugeUnit$Control", "lookForFault", "()V"⟩ prog_2_method_10_code 2 (Option.none : Option Jvm.ClassFile.FieldType) ∈ xw := xw_of (List.mem_append_right _ (List.mem_of_getElem? (i := 638) (by decide +kernel))) rfl
set_option maxRecDepth 20000 in
theorem tw_639 : Cond.methodLink "CentrifugeUnit$Control" 130 ⟨"CentrifugeUnit$Control", "faultReason", "()I"⟩ ∈ xw := xw_of (List.mem_append_right _ (List.mem_of_getElem? (i := 639) (by decide +kernel))) rfl
set_option maxRecDepth 20000 in
theorem tw_641 : Cond.instanceMethod ⟨"CentrifugeUnit$Control", "faultReason", "()I"⟩ ∈ xw := xw_of (List.mem_append_right _ (List.mem_of_getElem? (i := 641) (by decide +kernel))) rfl
set_option maxRecDepth 20000 in
theorem tw_642 : Cond.code ⟨"CentrifugeUnit$Control", "faultReason", "()I"⟩ prog_2_method_11_code 1 (Option.some Jvm.ClassFile.FieldType.int) ∈ xw := xw_of (List.mem_append_right _ (List.mem_of_getElem? (i := 642) (by decide +kernel))) rfl
set_option maxRecDepth 20000 in
theorem tw_643 : Cond.methodLink "CentrifugeUnit$Control" 134 ⟨"CentrifugeUnit$Lid", "locked", "()Z"⟩ ∈ xw := xw_of (List.mem_append_right _ (List.mem_of_getElem? (i := 643) (by decide +kernel))) rfl
set_option maxRecDepth 20000 in
theorem tw_644 : Cond.methodLink "CentrifugeUnit$Control" 143 ⟨"CentrifugeUnit$Rotors", "limitOf", "(I)I"⟩ ∈ xw := xw_of (List.mem_append_right _ (List.mem_of_getElem? (i := 644) (by decide +kernel))) rfl
set_option maxRecDepth 20000 in
theorem tw_645 : Cond.instanceMethod ⟨"CentrifugeUnit$Rotors", "limitOf", "(I)I"⟩ ∈ xw := xw_of (List.mem_append_right _ (List.mem_of_getElem? (i := 645) (by decide +kernel))) rfl
set_option maxRecDepth 20000 in
theorem tw_646 : Cond.selects "CentrifugeUnit$Rotors" ⟨"CentrifugeUnit$Rotors", "limitOf", "(I)I"⟩ ⟨"CentrifugeUnit$Rotors", "limitOf", "(I)I"⟩ ∈ xw := xw_of (List.mem_append_right _ (List.mem_of_getElem? (i := 646) (by decide +kernel))) rfl
set_option maxRecDepth 20000 in
theorem tw_647 : Cond.code ⟨"CentrifugeUnit$Rotors", "limitOf", "(I)I"⟩ prog_7_method_10_code 2 (Option.some Jvm.ClassFile.FieldType.int) ∈ xw := xw_of (List.mem_append_right _ (List.mem_of_getElem? (i := 647) (by decide +kernel))) rfl
set_option maxRecDepth 20000 in
theorem tw_648 : Cond.methodLink "CentrifugeUnit$Control" 149 ⟨"CentrifugeUnit$Watch", "shakesTooLong", "()Z"⟩ ∈ xw := xw_of (List.mem_append_right _ (List.mem_of_getElem? (i := 648) (by decide +kernel))) rfl
set_option maxRecDepth 20000 in
theorem tw_649 : Cond.instanceMethod ⟨"CentrifugeUnit$Watch", "shakesTooLong", "()Z"⟩ ∈ xw := xw_of (List.mem_append_right _ (List.mem_of_getElem? (i := 649) (by decide +kernel))) rfl
set_option maxRecDepth 20000 in
theorem tw_650 : Cond.selects "CentrifugeUnit$Watch" ⟨"CentrifugeUnit$Watch", "shakesTooLong", "()Z"⟩ ⟨"CentrifugeUnit$Watch", "shakesTooLong", "()Z"⟩ ∈ xw := xw_of (List.mem_append_right _ (List.mem_of_getElem? (i := 650) (by decide +kernel))) rfl
set_option maxRecDepth 20000 in
theorem tw_651 : Cond.code ⟨"CentrifugeUnit$Watch", "shakesTooLong", "()Z"⟩ prog_10_method_5_code 1 (Option.some Jvm.ClassFile.FieldType.boolean) ∈ xw := xw_of (List.mem_append_right _ (List.mem_of_getElem? (i := 651) (by decide +kernel))) rfl
set_option maxRecDepth 20000 in
theorem tw_652 : Cond.methodLink "CentrifugeUnit$Control" 152 ⟨"CentrifugeUnit$Watch", "differsTooLong", "()Z"⟩ ∈ xw := xw_of (List.mem_append_right _ (List.mem_of_getElem? (i := 652) (by decide +kernel))) rfl
set_option maxRecDepth 20000 in
theorem tw_653 : Cond.instanceMethod ⟨"CentrifugeUnit$Watch", "differsTooLong", "()Z"⟩ ∈ xw := xw_of (List.mem_append_right _ (List.mem_of_getElem? (i := 653) (by decide +kernel))) rfl
set_option maxRecDepth 20000 in
theorem tw_654 : Cond.selects "CentrifugeUnit$Watch" ⟨"CentrifugeUnit$Watch", "differsTooLong", "()Z"⟩ ⟨"CentrifugeUnit$Watch", "differsTooLong", "()Z"⟩ ∈ xw := xw_of (List.mem_append_right _ (List.mem_of_getElem? (i := 654) (by decide +kernel))) rfl
set_option maxRecDepth 20000 in
theorem tw_655 : Cond.code ⟨"CentrifugeUnit$Watch", "differsTooLong", "()Z"⟩ prog_10_method_6_code 1 (Option.some Jvm.ClassFile.FieldType.boolean) ∈ xw := xw_of (List.mem_append_right _ (List.mem_of_getElem? (i := 655) (by decide +kernel))) rfl
set_option maxRecDepth 20000 in
theorem tw_656 : Cond.methodLink "CentrifugeUnit$Control" 81 ⟨"CentrifugeUnit$Control", "addDose", "()V"⟩ ∈ xw := xw_of (List.mem_append_right _ (List.mem_of_getElem? (i := 656) (by decide +kernel))) rfl
set_option maxRecDepth 20000 in
theorem tw_658 : Cond.instanceMethod ⟨"CentrifugeUnit$Control", "addDose", "()V"⟩ ∈ xw := xw_of (List.mem_append_right _ (List.mem_of_getElem? (i := 658) (by decide +kernel))) rfl
set_option maxRecDepth 20000 in
theorem tw_659 : Cond.code ⟨"CentrifugeUnit$Control", "addDose", "()V"⟩ prog_2_method_12_code 3 (Option.none : Option Jvm.ClassFile.FieldType) ∈ xw := xw_of (List.mem_append_right _ (List.mem_of_getElem? (i := 659) (by decide +kernel))) rfl
set_option maxRecDepth 20000 in
theorem tw_660 : Cond.methodLink "CentrifugeUnit$Control" 161 ⟨"CentrifugeUnit$Rotors", "radiusOf", "(I)I"⟩ ∈ xw := xw_of (List.mem_append_right _ (List.mem_of_getElem? (i := 660) (by decide +kernel))) rfl
set_option maxRecDepth 20000 in
theorem tw_661 : Cond.methodLink "CentrifugeUnit$Control" 84 ⟨"CentrifugeUnit$Control", "followProgram", "()V"⟩ ∈ xw := xw_of (List.mem_append_right _ (List.mem_of_getElem? (i := 661) (by decide +kernel))) rfl
set_option maxRecDepth 20000 in
theorem tw_663 : Cond.instanceMethod ⟨"CentrifugeUnit$Control", "followProgram", "()V"⟩ ∈ xw := xw_of (List.mem_append_right _ (List.mem_of_getElem? (i := 663) (by decide +kernel))) rfl
set_option maxRecDepth 20000 in
theorem tw_664 : Cond.code ⟨"CentrifugeUnit$Control", "followProgram", "()V"⟩ prog_2_method_13_code 1 (Option.none : Option Jvm.ClassFile.FieldType) ∈ xw := xw_of (List.mem_append_right _ (List.mem_of_getElem? (i := 664) (by decide +kernel))) rfl
set_option maxRecDepth 20000 in
theorem tw_665 : Cond.methodLink "CentrifugeUnit$Control" 167 ⟨"CentrifugeUnit$Program", "has", "(I)Z"⟩ ∈ xw := xw_of (List.mem_append_right _ (List.mem_of_getElem? (i := 665) (by decide +kernel))) rfl
set_option maxRecDepth 20000 in
theorem tw_666 : Cond.instanceMethod ⟨"CentrifugeUnit$Program", "has", "(I)Z"⟩ ∈ xw := xw_of (List.mem_append_right _ (List.mem_of_getElem? (i := 666) (by decide +kernel))) rfl
set_option maxRecDepth 20000 in
theorem tw_667 : Cond.selects "CentrifugeUnit$Program" ⟨"CentrifugeUnit$Program", "has", "(I)Z"⟩ ⟨"CentrifugeUnit$Program", "has", "(I)Z"⟩ ∈ xw := xw_of (List.mem_append_right _ (List.mem_of_getElem? (i := 667) (by decide +kernel))) rfl
set_option maxRecDepth 20000 in
theorem tw_668 : Cond.code ⟨"CentrifugeUnit$Program", "has", "(I)Z"⟩ prog_5_method_5_code 2 (Option.some Jvm.ClassFile.FieldType.boolean) ∈ xw := xw_of (List.mem_append_right _ (List.mem_of_getElem? (i := 668) (by decide +kernel))) rfl
set_option maxRecDepth 20000 in
theorem tw_669 : Cond.methodLink "CentrifugeUnit$Control" 173 ⟨"CentrifugeUnit$Control", "segmentIsThrough", "(I)Z"⟩ ∈ xw := xw_of (List.mem_append_right _ (List.mem_of_getElem? (i := 669) (by decide +kernel))) rfl
set_option maxRecDepth 20000 in
theorem tw_671 : Cond.instanceMethod ⟨"CentrifugeUnit$Control", "segmentIsThrough", "(I)Z"⟩ ∈ xw := xw_of (List.mem_append_right _ (List.mem_of_getElem? (i := 671) (by decide +kernel))) rfl
set_option maxRecDepth 20000 in
theorem tw_672 : Cond.code ⟨"CentrifugeUnit$Control", "segmentIsThrough", "(I)Z"⟩ prog_2_method_14_code 4 (Option.some Jvm.ClassFile.FieldType.boolean) ∈ xw := xw_of (List.mem_append_right _ (List.mem_of_getElem? (i := 672) (by decide +kernel))) rfl
set_option maxRecDepth 20000 in
theorem tw_673 : Cond.methodLink "CentrifugeUnit$Control" 196 ⟨"CentrifugeUnit$Control", "ramp", "(II)Z"⟩ ∈ xw := xw_of (List.mem_append_right _ (List.mem_of_getElem? (i := 673) (by decide +kernel))) rfl
set_option maxRecDepth 20000 in
theorem tw_675 : Cond.instanceMethod ⟨"CentrifugeUnit$Control", "ramp", "(II)Z"⟩ ∈ xw := xw_of (List.mem_append_right _ (List.mem_of_getElem? (i := 675) (by decide +kernel))) rfl
set_option maxRecDepth 20000 in
theorem tw_676 : Cond.code ⟨"CentrifugeUnit$Control", "ramp", "(II)Z"⟩ prog_2_method_15_code 4 (Option.some Jvm.ClassFile.FieldType.boolean) ∈ xw := xw_of (List.mem_append_right _ (List.mem_of_getElem? (i := 676) (by decide +kernel))) rfl
set_option maxRecDepth 20000 in
theorem tw_677 : Cond.methodLink "CentrifugeUnit$Control" 211 ⟨"CentrifugeUnit$Run", "moveGoal", "(II)V"⟩ ∈ xw := xw_of (List.mem_append_right _ (List.mem_of_getElem? (i := 677) (by decide +kernel))) rfl
set_option maxRecDepth 20000 in
theorem tw_678 : Cond.instanceMethod ⟨"CentrifugeUnit$Run", "moveGoal", "(II)V"⟩ ∈ xw := xw_of (List.mem_append_right _ (List.mem_of_getElem? (i := 678) (by decide +kernel))) rfl
set_option maxRecDepth 20000 in
theorem tw_679 : Cond.selects "CentrifugeUnit$Run" ⟨"CentrifugeUnit$Run", "moveGoal", "(II)V"⟩ ⟨"CentrifugeUnit$Run", "moveGoal", "(II)V"⟩ ∈ xw := xw_of (List.mem_append_right _ (List.mem_of_getElem? (i := 679) (by decide +kernel))) rfl
set_option maxRecDepth 20000 in
theorem tw_680 : Cond.code ⟨"CentrifugeUnit$Run", "moveGoal", "(II)V"⟩ prog_8_method_4_code 3 (Option.none : Option Jvm.ClassFile.FieldType) ∈ xw := xw_of (List.mem_append_right _ (List.mem_of_getElem? (i := 680) (by decide +kernel))) rfl
set_option maxRecDepth 20000 in
theorem tw_681 : Cond.methodLink "CentrifugeUnit$Run" 48 ⟨"java/lang/Math", "min", "(II)I"⟩ ∈ xw := xw_of (List.mem_append_right _ (List.mem_of_getElem? (i := 681) (by decide +kernel))) rfl
set_option maxRecDepth 20000 in
theorem tw_682 : Cond.methodLink "CentrifugeUnit$Run" 54 ⟨"java/lang/Math", "max", "(II)I"⟩ ∈ xw := xw_of (List.mem_append_right _ (List.mem_of_getElem? (i := 682) (by decide +kernel))) rfl
set_option maxRecDepth 20000 in
theorem tw_683 : Cond.methodLink "CentrifugeUnit$Control" 203 ⟨"CentrifugeUnit$Control", "keepToGoal", "()V"⟩ ∈ xw := xw_of (List.mem_append_right _ (List.mem_of_getElem? (i := 683) (by decide +kernel))) rfl
set_option maxRecDepth 20000 in
theorem tw_685 : Cond.instanceMethod ⟨"CentrifugeUnit$Control", "keepToGoal", "()V"⟩ ∈ xw := xw_of (List.mem_append_right _ (List.mem_of_getElem? (i := 685) (by decide +kernel))) rfl
set_option maxRecDepth 20000 in
theorem tw_686 : Cond.code ⟨"CentrifugeUnit$Control", "keepToGoal", "()V"⟩ prog_2_method_17_code 2 (Option.none : Option Jvm.ClassFile.FieldType) ∈ xw := xw_of (List.mem_append_right _ (List.mem_of_getElem? (i := 686) (by decide +kernel))) rfl
set_option maxRecDepth 20000 in
theorem tw_687 : Cond.methodLink "CentrifugeUnit$Control" 218 ⟨"java/lang/Math", "min", "(II)I"⟩ ∈ xw := xw_of (List.mem_append_right _ (List.mem_of_getElem? (i := 687) (by decide +kernel))) rfl
set_option maxRecDepth 20000 in
theorem tw_688 : Cond.methodLink "CentrifugeUnit$Control" 215 ⟨"java/lang/Math", "abs", "(I)I"⟩ ∈ xw := xw_of (List.mem_append_right _ (List.mem_of_getElem? (i := 688) (by decide +kernel))) rfl
set_option maxRecDepth 20000 in
theorem tw_689 : Cond.static ⟨"java/lang/Math", "abs", "(I)I"⟩ ∈ xw := xw_of (List.mem_append_right _ (List.mem_of_getElem? (i := 689) (by decide +kernel))) rfl
set_option maxRecDepth 20000 in
theorem tw_690 : Cond.code ⟨"java/lang/Math", "abs", "(I)I"⟩ prog_17_method_59_code 1 (Option.some Jvm.ClassFile.FieldType.int) ∈ xw := xw_of (List.mem_append_right _ (List.mem_of_getElem? (i := 690) (by decide +kernel))) rfl
set_option maxRecDepth 20000 in
theorem tw_691 : Cond.methodLink "CentrifugeUnit$Control" 200 ⟨"CentrifugeUnit$Control", "slowDown", "(II)Z"⟩ ∈ xw := xw_of (List.mem_append_right _ (List.mem_of_getElem? (i := 691) (by decide +kernel))) rfl
set_option maxRecDepth 20000 in
theorem tw_693 : Cond.instanceMethod ⟨"CentrifugeUnit$Control", "slowDown", "(II)Z"⟩ ∈ xw := xw_of (List.mem_append_right _ (List.mem_of_getElem? (i := 693) (by decide +kernel))) rfl
set_option maxRecDepth 20000 in
theorem tw_694 : Cond.code ⟨"CentrifugeUnit$Control", "slowDown", "(II)Z"⟩ prog_2_method_16_code 3 (Option.some Jvm.ClassFile.FieldType.boolean) ∈ xw := xw_of (List.mem_append_right _ (List.mem_of_getElem? (i := 694) (by decide +kernel))) rfl
set_option maxRecDepth 20000 in
theorem tw_695 : Cond.constantLong "CentrifugeUnit$Control" 206 (1000000000 : Int64) ∈ xw := xw_of (List.mem_append_right _ (List.mem_of_getElem? (i := 695) (by decide +kernel))) rfl
set_option maxRecDepth 20000 in
theorem tw_696 : Cond.methodLink "CentrifugeUnit$Control" 176 ⟨"CentrifugeUnit$Run", "nextSegment", "()V"⟩ ∈ xw := xw_of (List.mem_append_right _ (List.mem_of_getElem? (i := 696) (by decide +kernel))) rfl
set_option maxRecDepth 20000 in
theorem tw_697 : Cond.instanceMethod ⟨"CentrifugeUnit$Run", "nextSegment", "()V"⟩ ∈ xw := xw_of (List.mem_append_right _ (List.mem_of_getElem? (i := 697) (by decide +kernel))) rfl
set_option maxRecDepth 20000 in
theorem tw_698 : Cond.selects "CentrifugeUnit$Run" ⟨"CentrifugeUnit$Run", "nextSegment", "()V"⟩ ⟨"CentrifugeUnit$Run", "nextSegment", "()V"⟩ ∈ xw := xw_of (List.mem_append_right _ (List.mem_of_getElem? (i := 698) (by decide +kernel))) rfl
set_option maxRecDepth 20000 in
theorem tw_699 : Cond.code ⟨"CentrifugeUnit$Run", "nextSegment", "()V"⟩ prog_8_method_5_code 1 (Option.none : Option Jvm.ClassFile.FieldType) ∈ xw := xw_of (List.mem_append_right _ (List.mem_of_getElem? (i := 699) (by decide +kernel))) rfl
set_option maxRecDepth 20000 in
theorem tw_700 : Cond.methodLink "CentrifugeUnit$Control" 179 ⟨"CentrifugeUnit$Control", "beginStopping", "(I)V"⟩ ∈ xw := xw_of (List.mem_append_right _ (List.mem_of_getElem? (i := 700) (by decide +kernel))) rfl
set_option maxRecDepth 20000 in
theorem tw_701 : Cond.methodLink "CentrifugeUnit$Control" 87 ⟨"CentrifugeUnit$Control", "comeToRest", "()V"⟩ ∈ xw := xw_of (List.mem_append_right _ (List.mem_of_getElem? (i := 701) (by decide +kernel))) rfl
set_option maxRecDepth 20000 in
theorem tw_703 : Cond.instanceMethod ⟨"CentrifugeUnit$Control", "comeToRest", "()V"⟩ ∈ xw := xw_of (List.mem_append_right _ (List.mem_of_getElem? (i := 703) (by decide +kernel))) rfl
set_option maxRecDepth 20000 in
theorem tw_704 : Cond.code ⟨"CentrifugeUnit$Control", "comeToRest", "()V"⟩ prog_2_method_18_code 1 (Option.none : Option Jvm.ClassFile.FieldType) ∈ xw := xw_of (List.mem_append_right _ (List.mem_of_getElem? (i := 704) (by decide +kernel))) rfl
set_option maxRecDepth 20000 in
theorem tw_705 : Cond.methodLink "CentrifugeUnit$Control" 221 ⟨"CentrifugeUnit$Watch", "atRest", "()Z"⟩ ∈ xw := xw_of (List.mem_append_right _ (List.mem_of_getElem? (i := 705) (by decide +kernel))) rfl
set_option maxRecDepth 20000 in
theorem tw_706 : Cond.methodLink "CentrifugeUnit$Control" 224 ⟨"CentrifugeUnit$Records", "add", "(IJI)V"⟩ ∈ xw := xw_of (List.mem_append_right _ (List.mem_of_getElem? (i := 706) (by decide +kernel))) rfl
set_option maxRecDepth 20000 in
theorem tw_707 : Cond.instanceMethod ⟨"CentrifugeUnit$Records", "add", "(IJI)V"⟩ ∈ xw := xw_of (List.mem_append_right _ (List.mem_of_getElem? (i := 707) (by decide +kernel))) rfl
set_option maxRecDepth 20000 in
theorem tw_708 : Cond.selects "CentrifugeUnit$Records" ⟨"CentrifugeUnit$Records", "add", "(IJI)V"⟩ ⟨"CentrifugeUnit$Records", "add", "(IJI)V"⟩ ∈ xw := xw_of (List.mem_append_right _ (List.mem_of_getElem? (i := 708) (by decide +kernel))) rfl
set_option maxRecDepth 20000 in
theorem tw_709 : Cond.code ⟨"CentrifugeUnit$Records", "add", "(IJI)V"⟩ prog_6_method_2_code 6 (Option.none : Option Jvm.ClassFile.FieldType) ∈ xw := xw_of (List.mem_append_right _ (List.mem_of_getElem? (i := 709) (by decide +kernel))) rfl
set_option maxRecDepth 20000 in
theorem tw_710 : Cond.methodLink "CentrifugeUnit$Records" 24 ⟨"java/lang/Math", "floorMod", "(II)I"⟩ ∈ xw := xw_of (List.mem_append_right _ (List.mem_of_getElem? (i := 710) (by decide +kernel))) rfl
set_option maxRecDepth 20000 in
theorem tw_711 : Cond.static ⟨"java/lang/Math", "floorMod", "(II)I"⟩ ∈ xw := xw_of (List.mem_append_right _ (List.mem_of_getElem? (i := 711) (by decide +kernel))) rfl
set_option maxRecDepth 20000 in
theorem tw_712 : Cond.code ⟨"java/lang/Math", "floorMod", "(II)I"⟩ prog_17_method_50_code 3 (Option.some Jvm.ClassFile.FieldType.int) ∈ xw := xw_of (List.mem_append_right _ (List.mem_of_getElem? (i := 712) (by decide +kernel))) rfl
set_option maxRecDepth 20000 in
theorem tw_713 : Cond.methodLink "CentrifugeUnit$Control" 90 ⟨"CentrifugeUnit$Lid", "feedCoil", "()Z"⟩ ∈ xw := xw_of (List.mem_append_right _ (List.mem_of_getElem? (i := 713) (by decide +kernel))) rfl
set_option maxRecDepth 20000 in
theorem tw_714 : Cond.instanceMethod ⟨"CentrifugeUnit$Lid", "feedCoil", "()Z"⟩ ∈ xw := xw_of (List.mem_append_right _ (List.mem_of_getElem? (i := 714) (by decide +kernel))) rfl
set_option maxRecDepth 20000 in
theorem tw_715 : Cond.selects "CentrifugeUnit$Lid" ⟨"CentrifugeUnit$Lid", "feedCoil", "()Z"⟩ ⟨"CentrifugeUnit$Lid", "feedCoil", "()Z"⟩ ∈ xw := xw_of (List.mem_append_right _ (List.mem_of_getElem? (i := 715) (by decide +kernel))) rfl
set_option maxRecDepth 20000 in
theorem tw_716 : Cond.code ⟨"CentrifugeUnit$Lid", "feedCoil", "()Z"⟩ prog_3_method_4_code 1 (Option.some Jvm.ClassFile.FieldType.boolean) ∈ xw := xw_of (List.mem_append_right _ (List.mem_of_getElem? (i := 716) (by decide +kernel))) rfl
set_option maxRecDepth 20000 in
theorem tw_717 : Cond.methodLink "CentrifugeUnit" 196 ⟨"CentrifugeUnit$Rotors", "inertiaIn", "()I"⟩ ∈ xw := xw_of (List.mem_append_right _ (List.mem_of_getElem? (i := 717) (by decide +kernel))) rfl
set_option maxRecDepth 20000 in
theorem tw_718 : Cond.instanceMethod ⟨"CentrifugeUnit$Rotors", "inertiaIn", "()I"⟩ ∈ xw := xw_of (List.mem_append_right _ (List.mem_of_getElem? (i := 718) (by decide +kernel))) rfl
set_option maxRecDepth 20000 in
theorem tw_719 : Cond.selects "CentrifugeUnit$Rotors" ⟨"CentrifugeUnit$Rotors", "inertiaIn", "()I"⟩ ⟨"CentrifugeUnit$Rotors", "inertiaIn", "()I"⟩ ∈ xw := xw_of (List.mem_append_right _ (List.mem_of_getElem? (i := 719) (by decide +kernel))) rfl
set_option maxRecDepth 20000 in
theorem tw_720 : Cond.code ⟨"CentrifugeUnit$Rotors", "inertiaIn", "()I"⟩ prog_7_method_8_code 1 (Option.some Jvm.ClassFile.FieldType.int) ∈ xw := xw_of (List.mem_append_right _ (List.mem_of_getElem? (i := 720) (by decide +kernel))) rfl
set_option maxRecDepth 20000 in
theorem tw_721 : Cond.methodLink "CentrifugeUnit" 200 ⟨"CentrifugeUnit$Model", "move", "(III)V"⟩ ∈ xw := xw_of (List.mem_append_right _ (List.mem_of_getElem? (i := 721) (by decide +kernel))) rfl
set_option maxRecDepth 20000 in
theorem tw_722 : Cond.instanceMethod ⟨"CentrifugeUnit$Model", "move", "(III)V"⟩ ∈ xw := xw_of (List.mem_append_right _ (List.mem_of_getElem? (i := 722) (by decide +kernel))) rfl
set_option maxRecDepth 20000 in
theorem tw_723 : Cond.selects "CentrifugeUnit$Model" ⟨"CentrifugeUnit$Model", "move", "(III)V"⟩ ⟨"CentrifugeUnit$Model", "move", "(III)V"⟩ ∈ xw := xw_of (List.mem_append_right _ (List.mem_of_getElem? (i := 723) (by decide +kernel))) rfl
set_option maxRecDepth 20000 in
theorem tw_724 : Cond.code ⟨"CentrifugeUnit$Model", "move", "(III)V"⟩ prog_4_method_2_code 10 (Option.none : Option Jvm.ClassFile.FieldType) ∈ xw := xw_of (List.mem_append_right _ (List.mem_of_getElem? (i := 724) (by decide +kernel))) rfl
set_option maxRecDepth 20000 in
theorem tw_725 : Cond.methodLink "CentrifugeUnit$Model" 7 ⟨"java/lang/Math", "max", "(II)I"⟩ ∈ xw := xw_of (List.mem_append_right _ (List.mem_of_getElem? (i := 725) (by decide +kernel))) rfl
set_option maxRecDepth 20000 in
theorem tw_726 : Cond.constantLong "CentrifugeUnit$Model" 19 (1000 : Int64) ∈ xw := xw_of (List.mem_append_right _ (List.mem_of_getElem? (i := 726) (by decide +kernel))) rfl
set_option maxRecDepth 20000 in
theorem tw_727 : Cond.constantLong "CentrifugeUnit$Model" 21 (2000 : Int64) ∈ xw := xw_of (List.mem_append_right _ (List.mem_of_getElem? (i := 727) (by decide +kernel))) rfl
set_option maxRecDepth 20000 in
theorem tw_728 : Cond.constantLong "CentrifugeUnit$Model" 23 (200 : Int64) ∈ xw := xw_of (List.mem_append_right _ (List.mem_of_getElem? (i := 728) (by decide +kernel))) rfl
set_option maxRecDepth 20000 in
theorem tw_729 : Cond.methodLink "CentrifugeUnit$Model" 27 ⟨"java/lang/Math", "max", "(JJ)J"⟩ ∈ xw := xw_of (List.mem_append_right _ (List.mem_of_getElem? (i := 729) (by decide +kernel))) rfl
set_option maxRecDepth 20000 in
theorem tw_730 : Cond.static ⟨"java/lang/Math", "max", "(JJ)J"⟩ ∈ xw := xw_of (List.mem_append_right _ (List.mem_of_getElem? (i := 730) (by decide +kernel))) rfl
set_option maxRecDepth 20000 in
theorem tw_731 : Cond.code ⟨"java/lang/Math", "max", "(JJ)J"⟩ prog_17_method_66_code 4 (Option.some Jvm.ClassFile.FieldType.long) ∈ xw := xw_of (List.mem_append_right _ (List.mem_of_getElem? (i := 731) (by decide +kernel))) rfl
set_option maxRecDepth 20000 in
theorem tw_749 : Cond.methodLink "CentrifugeUnit" 258 ⟨"CentrifugeUnit$Records", "keeps", "(I)Z"⟩ ∈ xw := xw_of (List.mem_append_right _ (List.mem_of_getElem? (i := 749) (by decide +kernel))) rfl
set_option maxRecDepth 20000 in
theorem tw_750 : Cond.instanceMethod ⟨"CentrifugeUnit$Records", "keeps", "(I)Z"⟩ ∈ xw := xw_of (List.mem_append_right _ (List.mem_of_getElem? (i := 750) (by decide +kernel))) rfl
set_option maxRecDepth 20000 in
theorem tw_751 : Cond.selects "CentrifugeUnit$Records" ⟨"CentrifugeUnit$Records", "keeps", "(I)Z"⟩ ⟨"CentrifugeUnit$Records", "keeps", "(I)Z"⟩ ∈ xw := xw_of (List.mem_append_right _ (List.mem_of_getElem? (i := 751) (by decide +kernel))) rfl
set_option maxRecDepth 20000 in
theorem tw_752 : Cond.code ⟨"CentrifugeUnit$Records", "keeps", "(I)Z"⟩ prog_6_method_3_code 2 (Option.some Jvm.ClassFile.FieldType.boolean) ∈ xw := xw_of (List.mem_append_right _ (List.mem_of_getElem? (i := 752) (by decide +kernel))) rfl
set_option maxRecDepth 20000 in
theorem tw_753 : Cond.classLink "CentrifugeUnit" 261 "java/lang/IndexOutOfBoundsException" ∈ xw := xw_of (List.mem_append_right _ (List.mem_of_getElem? (i := 753) (by decide +kernel))) rfl
set_option maxRecDepth 20000 in
theorem tw_754 : Cond.instantiable "java/lang/IndexOutOfBoundsException" 6 ∈ xw := xw_of (List.mem_append_right _ (List.mem_of_getElem? (i := 754) (by decide +kernel))) rfl
set_option maxRecDepth 20000 in
theorem tw_769 : Cond.methodLink "CentrifugeUnit" 266 ⟨"CentrifugeUnit$Records", "entry", "(II)J"⟩ ∈ xw := xw_of (List.mem_append_right _ (List.mem_of_getElem? (i := 769) (by decide +kernel))) rfl
set_option maxRecDepth 20000 in
theorem tw_770 : Cond.instanceMethod ⟨"CentrifugeUnit$Records", "entry", "(II)J"⟩ ∈ xw := xw_of (List.mem_append_right _ (List.mem_of_getElem? (i := 770) (by decide +kernel))) rfl
set_option maxRecDepth 20000 in
theorem tw_771 : Cond.selects "CentrifugeUnit$Records" ⟨"CentrifugeUnit$Records", "entry", "(II)J"⟩ ⟨"CentrifugeUnit$Records", "entry", "(II)J"⟩ ∈ xw := xw_of (List.mem_append_right _ (List.mem_of_getElem? (i := 771) (by decide +kernel))) rfl
set_option maxRecDepth 20000 in
theorem tw_772 : Cond.code ⟨"CentrifugeUnit$Records", "entry", "(II)J"⟩ prog_6_method_4_code 4 (Option.some Jvm.ClassFile.FieldType.long) ∈ xw := xw_of (List.mem_append_right _ (List.mem_of_getElem? (i := 772) (by decide +kernel))) rfl
set_option maxRecDepth 20000 in
theorem tw_824 : Cond.lays "CentrifugeUnitModel" "CentrifugeUnitModel" "thrown" "I" ∈ xw := xw_of (List.mem_append_right _ (List.mem_of_getElem? (i := 824) (by decide +kernel))) rfl
set_option maxRecDepth 20000 in
theorem tw_826 : Cond.laysFinal "CentrifugeUnitModel" "CentrifugeUnitModel" "told" "[Z" ∈ xw := xw_of (List.mem_append_right _ (List.mem_of_getElem? (i := 826) (by decide +kernel))) rfl
set_option maxRecDepth 20000 in
theorem tw_828 : Cond.laysFinal "CentrifugeUnitModel" "CentrifugeUnitModel" "pattern" "[I" ∈ xw := xw_of (List.mem_append_right _ (List.mem_of_getElem? (i := 828) (by decide +kernel))) rfl
set_option maxRecDepth 20000 in
theorem tw_830 : Cond.laysFinal "CentrifugeUnitModel" "CentrifugeUnitModel" "radius" "[I" ∈ xw := xw_of (List.mem_append_right _ (List.mem_of_getElem? (i := 830) (by decide +kernel))) rfl
set_option maxRecDepth 20000 in
theorem tw_832 : Cond.laysFinal "CentrifugeUnitModel" "CentrifugeUnitModel" "limit" "[I" ∈ xw := xw_of (List.mem_append_right _ (List.mem_of_getElem? (i := 832) (by decide +kernel))) rfl
set_option maxRecDepth 20000 in
theorem tw_834 : Cond.laysFinal "CentrifugeUnitModel" "CentrifugeUnitModel" "inertia" "[I" ∈ xw := xw_of (List.mem_append_right _ (List.mem_of_getElem? (i := 834) (by decide +kernel))) rfl
set_option maxRecDepth 20000 in
theorem tw_836 : Cond.lays "CentrifugeUnitModel" "CentrifugeUnitModel" "inside" "I" ∈ xw := xw_of (List.mem_append_right _ (List.mem_of_getElem? (i := 836) (by decide +kernel))) rfl
set_option maxRecDepth 20000 in
theorem tw_838 : Cond.laysFinal "CentrifugeUnitModel" "CentrifugeUnitModel" "kind" "[I" ∈ xw := xw_of (List.mem_append_right _ (List.mem_of_getElem? (i := 838) (by decide +kernel))) rfl
set_option maxRecDepth 20000 in
theorem tw_840 : Cond.laysFinal "CentrifugeUnitModel" "CentrifugeUnitModel" "goalOf" "[I" ∈ xw := xw_of (List.mem_append_right _ (List.mem_of_getElem? (i := 840) (by decide +kernel))) rfl
set_option maxRecDepth 20000 in
theorem tw_842 : Cond.laysFinal "CentrifugeUnitModel" "CentrifugeUnitModel" "slope" "[I" ∈ xw := xw_of (List.mem_append_right _ (List.mem_of_getElem? (i := 842) (by decide +kernel))) rfl
set_option maxRecDepth 20000 in
theorem tw_844 : Cond.lays "CentrifugeUnitModel" "CentrifugeUnitModel" "segments" "I" ∈ xw := xw_of (List.mem_append_right _ (List.mem_of_getElem? (i := 844) (by decide +kernel))) rfl
set_option maxRecDepth 20000 in
theorem tw_846 : Cond.lays "CentrifugeUnitModel" "CentrifugeUnitModel" "speed" "J" ∈ xw := xw_of (List.mem_append_right _ (List.mem_of_getElem? (i := 846) (by decide +kernel))) rfl
set_option maxRecDepth 20000 in
theorem tw_848 : Cond.lays "CentrifugeUnitModel" "CentrifugeUnitModel" "drive" "I" ∈ xw := xw_of (List.mem_append_right _ (List.mem_of_getElem? (i := 848) (by decide +kernel))) rfl
set_option maxRecDepth 20000 in
theorem tw_850 : Cond.lays "CentrifugeUnitModel" "CentrifugeUnitModel" "brake" "I" ∈ xw := xw_of (List.mem_append_right _ (List.mem_of_getElem? (i := 850) (by decide +kernel))) rfl
set_option maxRecDepth 20000 in
theorem tw_852 : Cond.lays "CentrifugeUnitModel" "CentrifugeUnitModel" "fed" "Z" ∈ xw := xw_of (List.mem_append_right _ (List.mem_of_getElem? (i := 852) (by decide +kernel))) rfl
set_option maxRecDepth 20000 in
theorem tw_854 : Cond.lays "CentrifugeUnitModel" "CentrifugeUnitModel" "coil" "I" ∈ xw := xw_of (List.mem_append_right _ (List.mem_of_getElem? (i := 854) (by decide +kernel))) rfl
set_option maxRecDepth 20000 in
theorem tw_856 : Cond.lays "CentrifugeUnitModel" "CentrifugeUnitModel" "tacho" "I" ∈ xw := xw_of (List.mem_append_right _ (List.mem_of_getElem? (i := 856) (by decide +kernel))) rfl
set_option maxRecDepth 20000 in
theorem tw_858 : Cond.lays "CentrifugeUnitModel" "CentrifugeUnitModel" "counter" "I" ∈ xw := xw_of (List.mem_append_right _ (List.mem_of_getElem? (i := 858) (by decide +kernel))) rfl
set_option maxRecDepth 20000 in
theorem tw_860 : Cond.lays "CentrifugeUnitModel" "CentrifugeUnitModel" "first" "J" ∈ xw := xw_of (List.mem_append_right _ (List.mem_of_getElem? (i := 860) (by decide +kernel))) rfl
set_option maxRecDepth 20000 in
theorem tw_862 : Cond.lays "CentrifugeUnitModel" "CentrifugeUnitModel" "second" "J" ∈ xw := xw_of (List.mem_append_right _ (List.mem_of_getElem? (i := 862) (by decide +kernel))) rfl
set_option maxRecDepth 20000 in
theorem tw_864 : Cond.lays "CentrifugeUnitModel" "CentrifugeUnitModel" "used" "J" ∈ xw := xw_of (List.mem_append_right _ (List.mem_of_getElem? (i := 864) (by decide +kernel))) rfl
set_option maxRecDepth 20000 in
theorem tw_866 : Cond.lays "CentrifugeUnitModel" "CentrifugeUnitModel" "power" "Z" ∈ xw := xw_of (List.mem_append_right _ (List.mem_of_getElem? (i := 866) (by decide +kernel))) rfl
set_option maxRecDepth 20000 in
theorem tw_868 : Cond.lays "CentrifugeUnitModel" "CentrifugeUnitModel" "state" "I" ∈ xw := xw_of (List.mem_append_right _ (List.mem_of_getElem? (i := 868) (by decide +kernel))) rfl
set_option maxRecDepth 20000 in
theorem tw_870 : Cond.lays "CentrifugeUnitModel" "CentrifugeUnitModel" "reason" "I" ∈ xw := xw_of (List.mem_append_right _ (List.mem_of_getElem? (i := 870) (by decide +kernel))) rfl
set_option maxRecDepth 20000 in
theorem tw_872 : Cond.lays "CentrifugeUnitModel" "CentrifugeUnitModel" "segment" "I" ∈ xw := xw_of (List.mem_append_right _ (List.mem_of_getElem? (i := 872) (by decide +kernel))) rfl
set_option maxRecDepth 20000 in
theorem tw_874 : Cond.lays "CentrifugeUnitModel" "CentrifugeUnitModel" "passed" "I" ∈ xw := xw_of (List.mem_append_right _ (List.mem_of_getElem? (i := 874) (by decide +kernel))) rfl
set_option maxRecDepth 20000 in
theorem tw_876 : Cond.lays "CentrifugeUnitModel" "CentrifugeUnitModel" "goal" "J" ∈ xw := xw_of (List.mem_append_right _ (List.mem_of_getElem? (i := 876) (by decide +kernel))) rfl
set_option maxRecDepth 20000 in
theorem tw_878 : Cond.lays "CentrifugeUnitModel" "CentrifugeUnitModel" "dose" "J" ∈ xw := xw_of (List.mem_append_right _ (List.mem_of_getElem? (i := 878) (by decide +kernel))) rfl
set_option maxRecDepth 20000 in
theorem tw_880 : Cond.lays "CentrifugeUnitModel" "CentrifugeUnitModel" "sum" "J" ∈ xw := xw_of (List.mem_append_right _ (List.mem_of_getElem? (i := 880) (by decide +kernel))) rfl
set_option maxRecDepth 20000 in
theorem tw_882 : Cond.lays "CentrifugeUnitModel" "CentrifugeUnitModel" "any" "Z" ∈ xw := xw_of (List.mem_append_right _ (List.mem_of_getElem? (i := 882) (by decide +kernel))) rfl
set_option maxRecDepth 20000 in
theorem tw_884 : Cond.lays "CentrifugeUnitModel" "CentrifugeUnitModel" "firstPattern" "I" ∈ xw := xw_of (List.mem_append_right _ (List.mem_of_getElem? (i := 884) (by decide +kernel))) rfl
set_option maxRecDepth 20000 in
theorem tw_886 : Cond.lays "CentrifugeUnitModel" "CentrifugeUnitModel" "rotor" "I" ∈ xw := xw_of (List.mem_append_right _ (List.mem_of_getElem? (i := 886) (by decide +kernel))) rfl
set_option maxRecDepth 20000 in
theorem tw_888 : Cond.lays "CentrifugeUnitModel" "CentrifugeUnitModel" "wrongPattern" "Z" ∈ xw := xw_of (List.mem_append_right _ (List.mem_of_getElem? (i := 888) (by decide +kernel))) rfl
set_option maxRecDepth 20000 in
theorem tw_890 : Cond.lays "CentrifugeUnitModel" "CentrifugeUnitModel" "resting" "I" ∈ xw := xw_of (List.mem_append_right _ (List.mem_of_getElem? (i := 890) (by decide +kernel))) rfl
set_option maxRecDepth 20000 in
theorem tw_892 : Cond.lays "CentrifugeUnitModel" "CentrifugeUnitModel" "shaking" "I" ∈ xw := xw_of (List.mem_append_right _ (List.mem_of_getElem? (i := 892) (by decide +kernel))) rfl
set_option maxRecDepth 20000 in
theorem tw_894 : Cond.lays "CentrifugeUnitModel" "CentrifugeUnitModel" "apart" "I" ∈ xw := xw_of (List.mem_append_right _ (List.mem_of_getElem? (i := 894) (by decide +kernel))) rfl
set_option maxRecDepth 20000 in
theorem tw_896 : Cond.lays "CentrifugeUnitModel" "CentrifugeUnitModel" "contactA" "Z" ∈ xw := xw_of (List.mem_append_right _ (List.mem_of_getElem? (i := 896) (by decide +kernel))) rfl
set_option maxRecDepth 20000 in
theorem tw_898 : Cond.lays "CentrifugeUnitModel" "CentrifugeUnitModel" "contactB" "Z" ∈ xw := xw_of (List.mem_append_right _ (List.mem_of_getElem? (i := 898) (by decide +kernel))) rfl
set_option maxRecDepth 20000 in
theorem tw_900 : Cond.lays "CentrifugeUnitModel" "CentrifugeUnitModel" "level" "I" ∈ xw := xw_of (List.mem_append_right _ (List.mem_of_getElem? (i := 900) (by decide +kernel))) rfl
set_option maxRecDepth 20000 in
theorem tw_902 : Cond.lays "CentrifugeUnitModel" "CentrifugeUnitModel" "chamber" "I" ∈ xw := xw_of (List.mem_append_right _ (List.mem_of_getElem? (i := 902) (by decide +kernel))) rfl
set_option maxRecDepth 20000 in
theorem tw_904 : Cond.lays "CentrifugeUnitModel" "CentrifugeUnitModel" "greatest" "J" ∈ xw := xw_of (List.mem_append_right _ (List.mem_of_getElem? (i := 904) (by decide +kernel))) rfl
set_option maxRecDepth 20000 in
theorem tw_906 : Cond.lays "CentrifugeUnitModel" "CentrifugeUnitModel" "records" "I" ∈ xw := xw_of (List.mem_append_right _ (List.mem_of_getElem? (i := 906) (by decide +kernel))) rfl
set_option maxRecDepth 20000 in
theorem tw_908 : Cond.laysFinal "CentrifugeUnitModel" "CentrifugeUnitModel" "reasonOf" "[J" ∈ xw := xw_of (List.mem_append_right _ (List.mem_of_getElem? (i := 908) (by decide +kernel))) rfl
set_option maxRecDepth 20000 in
theorem tw_910 : Cond.laysFinal "CentrifugeUnitModel" "CentrifugeUnitModel" "doseOf" "[J" ∈ xw := xw_of (List.mem_append_right _ (List.mem_of_getElem? (i := 910) (by decide +kernel))) rfl
set_option maxRecDepth 20000 in
theorem tw_912 : Cond.laysFinal "CentrifugeUnitModel" "CentrifugeUnitModel" "greatestOf" "[J" ∈ xw := xw_of (List.mem_append_right _ (List.mem_of_getElem? (i := 912) (by decide +kernel))) rfl
theorem xin0 : ∀ w ∈ u_ws "CentrifugeUnit$Control" xF0 14, w ∈ xw := List.forall_mem_cons.mpr ⟨tw_254, List.forall_mem_cons.mpr ⟨tw_256, List.forall_mem_cons.mpr ⟨tw_258, List.forall_mem_cons.mpr ⟨tw_260, List.forall_mem_cons.mpr ⟨tw_262, List.forall_mem_cons.mpr ⟨tw_264, List.forall_mem_cons.mpr ⟨tw_266, List.forall_mem_cons.mpr ⟨tw_268, List.forall_mem_cons.mpr ⟨tw_270, List.forall_mem_cons.mpr ⟨tw_272, List.forall_mem_cons.mpr ⟨tw_274, List.forall_mem_cons.mpr ⟨tw_276, List.forall_mem_cons.mpr ⟨tw_278, List.forall_mem_cons.mpr ⟨tw_280, fun _ h => absurd h List.not_mem_nil⟩⟩⟩⟩⟩⟩⟩⟩⟩⟩⟩⟩⟩⟩
theorem xin1 : ∀ w ∈ u_ws "CentrifugeUnit$Lid" xF1 3, w ∈ xw := List.forall_mem_cons.mpr ⟨tw_134, List.forall_mem_cons.mpr ⟨tw_136, List.forall_mem_cons.mpr ⟨tw_138, fun _ h => absurd h List.not_mem_nil⟩⟩⟩
theorem xin2 : ∀ w ∈ u_ws "CentrifugeUnit$Model" xF2 1, w ∈ xw := List.forall_mem_cons.mpr ⟨tw_86, fun _ h => absurd h List.not_mem_nil⟩
theorem xin3 : ∀ w ∈ u_ws "CentrifugeUnit$Program" xF3 4, w ∈ xw := List.forall_mem_cons.mpr ⟨tw_69, List.forall_mem_cons.mpr ⟨tw_71, List.forall_mem_cons.mpr ⟨tw_73, List.forall_mem_cons.mpr ⟨tw_75, fun _ h => absurd h List.not_mem_nil⟩⟩⟩⟩
theorem xin4 : ∀ w ∈ u_ws "CentrifugeUnit$Records" xF4 4, w ∈ xw := List.forall_mem_cons.mpr ⟨tw_152, List.forall_mem_cons.mpr ⟨tw_154, List.forall_mem_cons.mpr ⟨tw_156, List.forall_mem_cons.mpr ⟨tw_158, fun _ h => absurd h List.not_mem_nil⟩⟩⟩⟩
theorem xin5 : ∀ w ∈ u_ws "CentrifugeUnit$Rotors" xF5 5, w ∈ xw := List.forall_mem_cons.mpr ⟨tw_43, List.forall_mem_cons.mpr ⟨tw_45, List.forall_mem_cons.mpr ⟨tw_47, List.forall_mem_cons.mpr ⟨tw_49, List.forall_mem_cons.mpr ⟨tw_51, fun _ h => absurd h List.not_mem_nil⟩⟩⟩⟩⟩
theorem xin6 : ∀ w ∈ u_ws "CentrifugeUnit$Run" xF6 8, w ∈ xw := List.forall_mem_cons.mpr ⟨tw_214, List.forall_mem_cons.mpr ⟨tw_216, List.forall_mem_cons.mpr ⟨tw_218, List.forall_mem_cons.mpr ⟨tw_220, List.forall_mem_cons.mpr ⟨tw_222, List.forall_mem_cons.mpr ⟨tw_224, List.forall_mem_cons.mpr ⟨tw_226, List.forall_mem_cons.mpr ⟨tw_228, fun _ h => absurd h List.not_mem_nil⟩⟩⟩⟩⟩⟩⟩⟩
theorem xin7 : ∀ w ∈ u_ws "CentrifugeUnit$Sensors" xF7 6, w ∈ xw := List.forall_mem_cons.mpr ⟨tw_110, List.forall_mem_cons.mpr ⟨tw_112, List.forall_mem_cons.mpr ⟨tw_114, List.forall_mem_cons.mpr ⟨tw_116, List.forall_mem_cons.mpr ⟨tw_118, List.forall_mem_cons.mpr ⟨tw_120, fun _ h => absurd h List.not_mem_nil⟩⟩⟩⟩⟩⟩
theorem xin8 : ∀ w ∈ u_ws "CentrifugeUnit$Watch" xF8 4, w ∈ xw := List.forall_mem_cons.mpr ⟨tw_179, List.forall_mem_cons.mpr ⟨tw_181, List.forall_mem_cons.mpr ⟨tw_183, List.forall_mem_cons.mpr ⟨tw_185, fun _ h => absurd h List.not_mem_nil⟩⟩⟩⟩
theorem xin9 : ∀ w ∈ u_ws "CentrifugeUnit" xF9 7, w ∈ xw := List.forall_mem_cons.mpr ⟨tw_290, List.forall_mem_cons.mpr ⟨tw_292, List.forall_mem_cons.mpr ⟨tw_294, List.forall_mem_cons.mpr ⟨tw_296, List.forall_mem_cons.mpr ⟨tw_298, List.forall_mem_cons.mpr ⟨tw_300, List.forall_mem_cons.mpr ⟨tw_302, fun _ h => absurd h List.not_mem_nil⟩⟩⟩⟩⟩⟩⟩
theorem xin10 : ∀ w ∈ u_ws "CentrifugeUnitModel" xF10 45, w ∈ xw := List.forall_mem_cons.mpr ⟨tw_824, List.forall_mem_cons.mpr ⟨tw_826, List.forall_mem_cons.mpr ⟨tw_828, List.forall_mem_cons.mpr ⟨tw_830, List.forall_mem_cons.mpr ⟨tw_832, List.forall_mem_cons.mpr ⟨tw_834, List.forall_mem_cons.mpr ⟨tw_836, List.forall_mem_cons.mpr ⟨tw_838, List.forall_mem_cons.mpr ⟨tw_840, List.forall_mem_cons.mpr ⟨tw_842, List.forall_mem_cons.mpr ⟨tw_844, List.forall_mem_cons.mpr ⟨tw_846, List.forall_mem_cons.mpr ⟨tw_848, List.forall_mem_cons.mpr ⟨tw_850, List.forall_mem_cons.mpr ⟨tw_852, List.forall_mem_cons.mpr ⟨tw_854, List.forall_mem_cons.mpr ⟨tw_856, List.forall_mem_cons.mpr ⟨tw_858, List.forall_mem_cons.mpr ⟨tw_860, List.forall_mem_cons.mpr ⟨tw_862, List.forall_mem_cons.mpr ⟨tw_864, List.forall_mem_cons.mpr ⟨tw_866, List.forall_mem_cons.mpr ⟨tw_868, List.forall_mem_cons.mpr ⟨tw_870, List.forall_mem_cons.mpr ⟨tw_872, List.forall_mem_cons.mpr ⟨tw_874, List.forall_mem_cons.mpr ⟨tw_876, List.forall_mem_cons.mpr ⟨tw_878, List.forall_mem_cons.mpr ⟨tw_880, List.forall_mem_cons.mpr ⟨tw_882, List.forall_mem_cons.mpr ⟨tw_884, List.forall_mem_cons.mpr ⟨tw_886, List.forall_mem_cons.mpr ⟨tw_888, List.forall_mem_cons.mpr ⟨tw_890, List.forall_mem_cons.mpr ⟨tw_892, List.forall_mem_cons.mpr ⟨tw_894, List.forall_mem_cons.mpr ⟨tw_896, List.forall_mem_cons.mpr ⟨tw_898, List.forall_mem_cons.mpr ⟨tw_900, List.forall_mem_cons.mpr ⟨tw_902, List.forall_mem_cons.mpr ⟨tw_904, List.forall_mem_cons.mpr ⟨tw_906, List.forall_mem_cons.mpr ⟨tw_908, List.forall_mem_cons.mpr ⟨tw_910, List.forall_mem_cons.mpr ⟨tw_912, fun _ h => absurd h List.not_mem_nil⟩⟩⟩⟩⟩⟩⟩⟩⟩⟩⟩⟩⟩⟩⟩⟩⟩⟩⟩⟩⟩⟩⟩⟩⟩⟩⟩⟩⟩⟩⟩⟩⟩⟩⟩⟩⟩⟩⟩⟩⟩⟩⟩⟩⟩
set_option maxRecDepth 20000 in
theorem xo_1_72 : ∀ w ∈ Bundle.ownAtoms "CentrifugeUnit" 72 "java/lang/IllegalArgumentException" ["java/lang/RuntimeException", "java/lang/Exception"], w ∈ xw ∨ w ∈ xn_cast ∨ w ∈ xn_stat := by decide +kernel
set_option maxRecDepth 20000 in
theorem xo_2_83 : ∀ w ∈ Bundle.ownAtoms "CentrifugeUnit" 83 "java/lang/IllegalStateException" ["java/lang/RuntimeException", "java/lang/Exception"], w ∈ xw ∨ w ∈ xn_cast ∨ w ∈ xn_stat := by decide +kernel
set_option maxRecDepth 20000 in
theorem xo_3_265 : ∀ w ∈ Bundle.ownAtoms "CentrifugeUnit" 265 "java/lang/IndexOutOfBoundsException" ["java/lang/RuntimeException", "java/lang/Exception"], w ∈ xw ∨ w ∈ xn_cast ∨ w ∈ xn_stat := by decide +kernel
