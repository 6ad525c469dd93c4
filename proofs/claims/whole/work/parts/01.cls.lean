/-! the classes of the claim: fields in the order of the slots (declaring class, name, descriptor, final), the table of classes, the array classes -/
def T_K : u_T := fun k => match k with
  | 0 => ("PinKindChecks", "schematic", "LPinKindChecks$Schematic;", true)
  | 1 => ("PinKindChecks", "reader", "LPinKindChecks$RuleReader;", true)
  | 2 => ("PinKindChecks", "told", "[LPinKindChecks$ToldRule;", true)
  | 3 => ("PinKindChecks", "isOff", "[Z", true)
  | 4 => ("PinKindChecks", "waivers", "LPinKindChecks$Waivers;", true)
  | 5 => ("PinKindChecks", "closedRemarks", "LPinKindChecks$Remarks;", true)
  | 6 => ("PinKindChecks", "stack", "[J", true)
  | 7 => ("PinKindChecks", "latest", "LPinKindChecks$Remarks;", false)
  | 8 => ("PinKindChecks", "before", "LPinKindChecks$Remarks;", false)
  | 9 => ("PinKindChecks", "toldCount", "I", false)
  | _ => ("PinKindChecks", "version", "I", false)
def t_K : Nat → FieldType := fun k => match k with
  | 0 => .object "PinKindChecks$Schematic"
  | 1 => .object "PinKindChecks$RuleReader"
  | 2 => .array (.object "PinKindChecks$ToldRule")
  | 3 => .array .boolean
  | 4 => .object "PinKindChecks$Waivers"
  | 5 => .object "PinKindChecks$Remarks"
  | 6 => .array .long
  | 7 => .object "PinKindChecks$Remarks"
  | 8 => .object "PinKindChecks$Remarks"
  | 9 => .int
  | _ => .int
theorem nm_K : ∀ a, a < 11 → ∀ b, b < 11 → a ≠ b → (T_K a).2.1 ≠ (T_K b).2.1 := by decide +kernel
theorem tk_K : ∀ k, k < 11 → parseFieldDescriptor (T_K k).2.2.1 = some (t_K k) := by decide +kernel
def T_Sc : u_T := fun k => match k with
  | 0 => ("PinKindChecks$Schematic", "verdicts", "[I", true)
  | 1 => ("PinKindChecks$Schematic", "parts", "[LPinKindChecks$Part;", true)
  | 2 => ("PinKindChecks$Schematic", "nets", "[LPinKindChecks$Net;", true)
  | 3 => ("PinKindChecks$Schematic", "pins", "[LPinKindChecks$Pin;", true)
  | 4 => ("PinKindChecks$Schematic", "inOrder", "[LPinKindChecks$Thing;", true)
  | 5 => ("PinKindChecks$Schematic", "partCount", "I", false)
  | 6 => ("PinKindChecks$Schematic", "netCount", "I", false)
  | 7 => ("PinKindChecks$Schematic", "pinCount", "I", false)
  | _ => ("PinKindChecks$Schematic", "endCount", "I", false)
def t_Sc : Nat → FieldType := fun k => match k with
  | 0 => .array .int
  | 1 => .array (.object "PinKindChecks$Part")
  | 2 => .array (.object "PinKindChecks$Net")
  | 3 => .array (.object "PinKindChecks$Pin")
  | 4 => .array (.object "PinKindChecks$Thing")
  | 5 => .int
  | 6 => .int
  | 7 => .int
  | _ => .int
theorem nm_Sc : ∀ a, a < 9 → ∀ b, b < 9 → a ≠ b → (T_Sc a).2.1 ≠ (T_Sc b).2.1 := by decide +kernel
theorem tk_Sc : ∀ k, k < 9 → parseFieldDescriptor (T_Sc k).2.2.1 = some (t_Sc k) := by decide +kernel
def T_Tx : u_T := fun k => match k with
  | 0 => ("PinKindChecks$RuleText", "letters", "[C", true)
  | 1 => ("PinKindChecks$RuleText", "length", "I", false)
  | 2 => ("PinKindChecks$RuleText", "wordStart", "I", false)
  | _ => ("PinKindChecks$RuleText", "wordEnd", "I", false)
def t_Tx : Nat → FieldType := fun k => match k with
  | 0 => .array .char
  | 1 => .int
  | 2 => .int
  | _ => .int
theorem nm_Tx : ∀ a, a < 4 → ∀ b, b < 4 → a ≠ b → (T_Tx a).2.1 ≠ (T_Tx b).2.1 := by decide +kernel
theorem tk_Tx : ∀ k, k < 4 → parseFieldDescriptor (T_Tx k).2.2.1 = some (t_Tx k) := by decide +kernel
def T_Rd : u_T := fun k => match k with
  | 0 => ("PinKindChecks$RuleReader", "codes", "[I", true)
  | 1 => ("PinKindChecks$RuleReader", "indexes", "[I", true)
  | 2 => ("PinKindChecks$RuleReader", "pending", "[I", true)
  | 3 => ("PinKindChecks$RuleReader", "text", "LPinKindChecks$RuleText;", true)
  | 4 => ("PinKindChecks$RuleReader", "codeCount", "I", false)
  | 5 => ("PinKindChecks$RuleReader", "pendingCount", "I", false)
  | 6 => ("PinKindChecks$RuleReader", "wordsRead", "I", false)
  | 7 => ("PinKindChecks$RuleReader", "state", "I", false)
  | 8 => ("PinKindChecks$RuleReader", "open", "I", false)
  | 9 => ("PinKindChecks$RuleReader", "isBehindSign", "Z", false)
  | 10 => ("PinKindChecks$RuleReader", "subject", "I", false)
  | _ => ("PinKindChecks$RuleReader", "weight", "I", false)
def t_Rd : Nat → FieldType := fun k => match k with
  | 0 => .array .int
  | 1 => .array .int
  | 2 => .array .int
  | 3 => .object "PinKindChecks$RuleText"
  | 4 => .int
  | 5 => .int
  | 6 => .int
  | 7 => .int
  | 8 => .int
  | 9 => .boolean
  | 10 => .int
  | _ => .int
theorem nm_Rd : ∀ a, a < 12 → ∀ b, b < 12 → a ≠ b → (T_Rd a).2.1 ≠ (T_Rd b).2.1 := by decide +kernel
theorem tk_Rd : ∀ k, k < 12 → parseFieldDescriptor (T_Rd k).2.2.1 = some (t_Rd k) := by decide +kernel
def T_Wv : u_T := fun k => match k with
  | 0 => ("PinKindChecks$Waivers", "keys", "[I", true)
  | 1 => ("PinKindChecks$Waivers", "reasons", "[I", true)
  | _ => ("PinKindChecks$Waivers", "count", "I", false)
def t_Wv : Nat → FieldType := fun k => match k with
  | 0 => .array .int
  | 1 => .array .int
  | _ => .int
theorem nm_Wv : ∀ a, a < 3 → ∀ b, b < 3 → a ≠ b → (T_Wv a).2.1 ≠ (T_Wv b).2.1 := by decide +kernel
theorem tk_Wv : ∀ k, k < 3 → parseFieldDescriptor (T_Wv k).2.2.1 = some (t_Wv k) := by decide +kernel
def T_Rm : u_T := fun k => match k with
  | 0 => ("PinKindChecks$Remarks", "keys", "[I", false)
  | 1 => ("PinKindChecks$Remarks", "weights", "[I", false)
  | 2 => ("PinKindChecks$Remarks", "firsts", "[I", false)
  | _ => ("PinKindChecks$Remarks", "count", "I", false)
def t_Rm : Nat → FieldType := fun k => match k with
  | 0 => .array .int
  | 1 => .array .int
  | 2 => .array .int
  | _ => .int
theorem nm_Rm : ∀ a, a < 4 → ∀ b, b < 4 → a ≠ b → (T_Rm a).2.1 ≠ (T_Rm b).2.1 := by decide +kernel
theorem tk_Rm : ∀ k, k < 4 → parseFieldDescriptor (T_Rm k).2.2.1 = some (t_Rm k) := by decide +kernel
def T_Pa : u_T := fun k => match k with
  | 0 => ("PinKindChecks$Thing", "sheet", "I", true)
  | 1 => ("PinKindChecks$Thing", "place", "I", true)
  | 2 => ("PinKindChecks$PinHolder", "pinsOfKind", "[I", true)
  | 3 => ("PinKindChecks$PinHolder", "pinCount", "I", false)
  | _ => ("PinKindChecks$Part", "fields", "[J", true)
def t_Pa : Nat → FieldType := fun k => match k with
  | 0 => .int
  | 1 => .int
  | 2 => .array .int
  | 3 => .int
  | _ => .array .long
theorem nm_Pa : ∀ a, a < 5 → ∀ b, b < 5 → a ≠ b → (T_Pa a).2.1 ≠ (T_Pa b).2.1 := by decide +kernel
theorem tk_Pa : ∀ k, k < 5 → parseFieldDescriptor (T_Pa k).2.2.1 = some (t_Pa k) := by decide +kernel
def T_Ne : u_T := fun k => match k with
  | 0 => ("PinKindChecks$Thing", "sheet", "I", true)
  | 1 => ("PinKindChecks$Thing", "place", "I", true)
  | 2 => ("PinKindChecks$PinHolder", "pinsOfKind", "[I", true)
  | 3 => ("PinKindChecks$PinHolder", "pinCount", "I", false)
  | 4 => ("PinKindChecks$Net", "name", "I", true)
  | _ => ("PinKindChecks$Net", "hasEndOffGrid", "Z", false)
def t_Ne : Nat → FieldType := fun k => match k with
  | 0 => .int
  | 1 => .int
  | 2 => .array .int
  | 3 => .int
  | 4 => .int
  | _ => .boolean
theorem nm_Ne : ∀ a, a < 6 → ∀ b, b < 6 → a ≠ b → (T_Ne a).2.1 ≠ (T_Ne b).2.1 := by decide +kernel
theorem tk_Ne : ∀ k, k < 6 → parseFieldDescriptor (T_Ne k).2.2.1 = some (t_Ne k) := by decide +kernel
def T_Pi : u_T := fun k => match k with
  | 0 => ("PinKindChecks$Thing", "sheet", "I", true)
  | 1 => ("PinKindChecks$Thing", "place", "I", true)
  | 2 => ("PinKindChecks$Pin", "part", "LPinKindChecks$Part;", true)
  | 3 => ("PinKindChecks$Pin", "kind", "I", true)
  | _ => ("PinKindChecks$Pin", "net", "LPinKindChecks$Net;", false)
def t_Pi : Nat → FieldType := fun k => match k with
  | 0 => .int
  | 1 => .int
  | 2 => .object "PinKindChecks$Part"
  | 3 => .int
  | _ => .object "PinKindChecks$Net"
theorem nm_Pi : ∀ a, a < 5 → ∀ b, b < 5 → a ≠ b → (T_Pi a).2.1 ≠ (T_Pi b).2.1 := by decide +kernel
theorem tk_Pi : ∀ k, k < 5 → parseFieldDescriptor (T_Pi k).2.2.1 = some (t_Pi k) := by decide +kernel
def T_Tr : u_T := fun k => match k with
  | 0 => ("PinKindChecks$ToldRule", "subject", "I", true)
  | 1 => ("PinKindChecks$ToldRule", "weight", "I", true)
  | 2 => ("PinKindChecks$ToldRule", "codes", "[I", true)
  | _ => ("PinKindChecks$ToldRule", "indexes", "[I", true)
def t_Tr : Nat → FieldType := fun k => match k with
  | 0 => .int
  | 1 => .int
  | 2 => .array .int
  | _ => .array .int
theorem nm_Tr : ∀ a, a < 4 → ∀ b, b < 4 → a ≠ b → (T_Tr a).2.1 ≠ (T_Tr b).2.1 := by decide +kernel
theorem tk_Tr : ∀ k, k < 4 → parseFieldDescriptor (T_Tr k).2.2.1 = some (t_Tr k) := by decide +kernel
def T_Mo : u_T := fun k => match k with
  | 0 => ("PinKindChecksModel", "thrown", "I", false)
  | 1 => ("PinKindChecksModel", "table", "[I", true)
  | 2 => ("PinKindChecksModel", "parts", "I", false)
  | 3 => ("PinKindChecksModel", "nets", "I", false)
  | 4 => ("PinKindChecksModel", "pins", "I", false)
  | 5 => ("PinKindChecksModel", "partSheet", "[I", true)
  | 6 => ("PinKindChecksModel", "fields", "[J", true)
  | 7 => ("PinKindChecksModel", "netSheet", "[I", true)
  | 8 => ("PinKindChecksModel", "netName", "[I", true)
  | 9 => ("PinKindChecksModel", "pinPart", "[I", true)
  | 10 => ("PinKindChecksModel", "pinNet", "[I", true)
  | 11 => ("PinKindChecksModel", "pinKind", "[I", true)
  | 12 => ("PinKindChecksModel", "ends", "I", false)
  | 13 => ("PinKindChecksModel", "endNet", "[I", true)
  | 14 => ("PinKindChecksModel", "endX", "[J", true)
  | 15 => ("PinKindChecksModel", "endY", "[J", true)
  | 16 => ("PinKindChecksModel", "text", "[I", true)
  | 17 => ("PinKindChecksModel", "size", "I", false)
  | 18 => ("PinKindChecksModel", "told", "I", false)
  | 19 => ("PinKindChecksModel", "subject", "[I", true)
  | 20 => ("PinKindChecksModel", "weight", "[I", true)
  | 21 => ("PinKindChecksModel", "signCount", "[I", true)
  | 22 => ("PinKindChecksModel", "signs", "[I", true)
  | 23 => ("PinKindChecksModel", "operands", "[I", true)
  | 24 => ("PinKindChecksModel", "off", "[Z", true)
  | 25 => ("PinKindChecksModel", "version", "I", false)
  | 26 => ("PinKindChecksModel", "now", "[I", true)
  | 27 => ("PinKindChecksModel", "weights", "[I", true)
  | 28 => ("PinKindChecksModel", "before", "[I", true)
  | 29 => ("PinKindChecksModel", "ran", "Z", false)
  | 30 => ("PinKindChecksModel", "waived", "I", false)
  | 31 => ("PinKindChecksModel", "waivedAt", "[I", true)
  | 32 => ("PinKindChecksModel", "reasons", "[I", true)
  | 33 => ("PinKindChecksModel", "begin", "I", false)
  | 34 => ("PinKindChecksModel", "at", "I", false)
  | 35 => ("PinKindChecksModel", "words", "I", false)
  | 36 => ("PinKindChecksModel", "rule", "I", false)
  | 37 => ("PinKindChecksModel", "waiting", "[I", true)
  | 38 => ("PinKindChecksModel", "waits", "I", false)
  | 39 => ("PinKindChecksModel", "open", "I", false)
  | 40 => ("PinKindChecksModel", "state", "I", false)
  | _ => ("PinKindChecksModel", "stack", "[J", true)
def t_Mo : Nat → FieldType := fun k => match k with
  | 0 => .int
  | 1 => .array .int
  | 2 => .int
  | 3 => .int
  | 4 => .int
  | 5 => .array .int
  | 6 => .array .long
  | 7 => .array .int
  | 8 => .array .int
  | 9 => .array .int
  | 10 => .array .int
  | 11 => .array .int
  | 12 => .int
  | 13 => .array .int
  | 14 => .array .long
  | 15 => .array .long
  | 16 => .array .int
  | 17 => .int
  | 18 => .int
  | 19 => .array .int
  | 20 => .array .int
  | 21 => .array .int
  | 22 => .array .int
  | 23 => .array .int
  | 24 => .array .boolean
  | 25 => .int
  | 26 => .array .int
  | 27 => .array .int
  | 28 => .array .int
  | 29 => .boolean
  | 30 => .int
  | 31 => .array .int
  | 32 => .array .int
  | 33 => .int
  | 34 => .int
  | 35 => .int
  | 36 => .int
  | 37 => .array .int
  | 38 => .int
  | 39 => .int
  | 40 => .int
  | _ => .array .long
theorem nm_Mo : ∀ a, a < 42 → ∀ b, b < 42 → a ≠ b → (T_Mo a).2.1 ≠ (T_Mo b).2.1 := by decide +kernel
theorem tk_Mo : ∀ k, k < 42 → parseFieldDescriptor (T_Mo k).2.2.1 = some (t_Mo k) := by decide +kernel
def vwCl : List vw_C := [("PinKindChecks", T_K, 11), ("PinKindChecks$Schematic", T_Sc, 9), ("PinKindChecks$RuleText", T_Tx, 4), ("PinKindChecks$RuleReader", T_Rd, 12), ("PinKindChecks$Waivers", T_Wv, 3), ("PinKindChecks$Remarks", T_Rm, 4), ("PinKindChecks$Part", T_Pa, 5), ("PinKindChecks$Net", T_Ne, 6), ("PinKindChecks$Pin", T_Pi, 5), ("PinKindChecks$ToldRule", T_Tr, 4), ("PinKindChecksModel", T_Mo, 42)]
def zTys (dA : Nat → ClassId) : List (ClassId × FieldType) := [(dA 0, .int), (dA 1, .long), (dA 2, .boolean), (dA 3, .char), (dA 4, .object "PinKindChecks$Part"), (dA 5, .object "PinKindChecks$Net"), (dA 6, .object "PinKindChecks$Pin"), (dA 7, .object "PinKindChecks$Thing"), (dA 8, .object "PinKindChecks$ToldRule")]
