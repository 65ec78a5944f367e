def RX0 : String := "FootholdWall$Chains"
def TX0 : u_T := fun k => match k with
  | 0 => ("FootholdWall$Chains", "heads", "[I", false)
  | 1 => ("FootholdWall$Chains", "all", "I", false)
  | 2 => ("FootholdWall$Chains", "row", "[I", true)
  | _ => ("FootholdWall$Chains", "path", "[I", true)
def tyX0 : Nat → FieldType := fun k => match k with
  | 0 => .array .int
  | 1 => .int
  | 2 => .array .int
  | _ => .array .int
theorem nmX0 : ∀ a, a < 4 → ∀ b, b < 4 → a ≠ b → (TX0 a).2.1 ≠ (TX0 b).2.1 := by decide +kernel
theorem tyX0_ok : ∀ k, k < 4 → parseFieldDescriptor (TX0 k).2.2.1 = some (tyX0 k) := by decide +kernel
def RX1 : String := "FootholdWall$Cut"
def TX1 : u_T := fun k => match k with
  | 0 => ("FootholdWall$Cut", "near", "[I", true)
  | 1 => ("FootholdWall$Cut", "ahead", "[I", true)
  | 2 => ("FootholdWall$Cut", "laid", "I", false)
  | 3 => ("FootholdWall$Cut", "queue", "[I", true)
  | 4 => ("FootholdWall$Cut", "queued", "I", false)
  | 5 => ("FootholdWall$Cut", "seen", "I", false)
  | _ => ("FootholdWall$Cut", "cameFrom", "[I", true)
def tyX1 : Nat → FieldType := fun k => match k with
  | 0 => .array .int
  | 1 => .array .int
  | 2 => .int
  | 3 => .array .int
  | 4 => .int
  | 5 => .int
  | _ => .array .int
theorem nmX1 : ∀ a, a < 7 → ∀ b, b < 7 → a ≠ b → (TX1 a).2.1 ≠ (TX1 b).2.1 := by decide +kernel
theorem tyX1_ok : ∀ k, k < 7 → parseFieldDescriptor (TX1 k).2.2.1 = some (tyX1 k) := by decide +kernel
def RX2 : String := "FootholdWall$Law"
def TX2 : u_T := fun k => match k with
  | 0 => ("FootholdWall$Law", "code", "[I", true)
  | 1 => ("FootholdWall$Law", "facts", "[I", true)
  | _ => ("FootholdWall$Law", "stack", "[I", true)
def tyX2 : Nat → FieldType := fun k => match k with
  | 0 => .array .int
  | 1 => .array .int
  | _ => .array .int
theorem nmX2 : ∀ a, a < 3 → ∀ b, b < 3 → a ≠ b → (TX2 a).2.1 ≠ (TX2 b).2.1 := by decide +kernel
theorem tyX2_ok : ∀ k, k < 3 → parseFieldDescriptor (TX2 k).2.2.1 = some (tyX2 k) := by decide +kernel
def RX3 : String := "FootholdWall$LawReader"
def TX3 : u_T := fun k => match k with
  | 0 => ("FootholdWall$LawReader", "tokens", "LFootholdWall$Tokens;", true)
  | 1 => ("FootholdWall$LawReader", "code", "[I", true)
  | _ => ("FootholdWall$LawReader", "length", "I", false)
def tyX3 : Nat → FieldType := fun k => match k with
  | 0 => .object "FootholdWall$Tokens"
  | 1 => .array .int
  | _ => .int
theorem nmX3 : ∀ a, a < 3 → ∀ b, b < 3 → a ≠ b → (TX3 a).2.1 ≠ (TX3 b).2.1 := by decide +kernel
theorem tyX3_ok : ∀ k, k < 3 → parseFieldDescriptor (TX3 k).2.2.1 = some (tyX3 k) := by decide +kernel
def RX4 : String := "FootholdWall$Reader"
def TX4 : u_T := fun k => match k with
  | 0 => ("FootholdWall$Reader", "tokens", "LFootholdWall$Tokens;", true)
  | 1 => ("FootholdWall$Reader", "lawReader", "LFootholdWall$LawReader;", true)
  | 2 => ("FootholdWall$Reader", "draft", "LFootholdWall$Wall;", true)
  | 3 => ("FootholdWall$Reader", "lawTold", "Z", false)
  | _ => ("FootholdWall$Reader", "told", "LFootholdWall$State;", true)
def tyX4 : Nat → FieldType := fun k => match k with
  | 0 => .object "FootholdWall$Tokens"
  | 1 => .object "FootholdWall$LawReader"
  | 2 => .object "FootholdWall$Wall"
  | 3 => .boolean
  | _ => .object "FootholdWall$State"
theorem nmX4 : ∀ a, a < 5 → ∀ b, b < 5 → a ≠ b → (TX4 a).2.1 ≠ (TX4 b).2.1 := by decide +kernel
theorem tyX4_ok : ∀ k, k < 5 → parseFieldDescriptor (TX4 k).2.2.1 = some (tyX4 k) := by decide +kernel
def RX5 : String := "FootholdWall$Rows"
def TX5 : u_T := fun k => match k with
  | 0 => ("FootholdWall$Rows", "wall", "LFootholdWall$Wall;", false)
  | 1 => ("FootholdWall$Rows", "leg", "I", false)
  | 2 => ("FootholdWall$Rows", "weight", "I", false)
  | 3 => ("FootholdWall$Rows", "day", "I", false)
  | 4 => ("FootholdWall$Rows", "asked", "[I", true)
  | _ => ("FootholdWall$Rows", "row", "[I", true)
def tyX5 : Nat → FieldType := fun k => match k with
  | 0 => .object "FootholdWall$Wall"
  | 1 => .int
  | 2 => .int
  | 3 => .int
  | 4 => .array .int
  | _ => .array .int
theorem nmX5 : ∀ a, a < 6 → ∀ b, b < 6 → a ≠ b → (TX5 a).2.1 ≠ (TX5 b).2.1 := by decide +kernel
theorem tyX5_ok : ∀ k, k < 6 → parseFieldDescriptor (TX5 k).2.2.1 = some (tyX5 k) := by decide +kernel
def RX6 : String := "FootholdWall$State"
def TX6 : u_T := fun k => match k with
  | 0 => ("FootholdWall$State", "used", "I", false)
  | 1 => ("FootholdWall$State", "broken", "I", false)
  | 2 => ("FootholdWall$State", "day", "I", false)
  | 3 => ("FootholdWall$State", "years", "I", false)
  | 4 => ("FootholdWall$State", "by", "[I", true)
  | _ => ("FootholdWall$State", "since", "[I", true)
def tyX6 : Nat → FieldType := fun k => match k with
  | 0 => .int
  | 1 => .int
  | 2 => .int
  | 3 => .int
  | 4 => .array .int
  | _ => .array .int
theorem nmX6 : ∀ a, a < 6 → ∀ b, b < 6 → a ≠ b → (TX6 a).2.1 ≠ (TX6 b).2.1 := by decide +kernel
theorem tyX6_ok : ∀ k, k < 6 → parseFieldDescriptor (TX6 k).2.2.1 = some (tyX6 k) := by decide +kernel
def RX7 : String := "FootholdWall$Tokens"
def TX7 : u_T := fun k => match k with
  | 0 => ("FootholdWall$Tokens", "text", "[B", false)
  | 1 => ("FootholdWall$Tokens", "length", "I", false)
  | 2 => ("FootholdWall$Tokens", "start", "I", false)
  | 3 => ("FootholdWall$Tokens", "end", "I", false)
  | 4 => ("FootholdWall$Tokens", "kind", "I", false)
  | 5 => ("FootholdWall$Tokens", "value", "I", false)
  | 6 => ("FootholdWall$Tokens", "fault", "I", false)
  | _ => ("FootholdWall$Tokens", "place", "I", false)
def tyX7 : Nat → FieldType := fun k => match k with
  | 0 => .array .byte
  | 1 => .int
  | 2 => .int
  | 3 => .int
  | 4 => .int
  | 5 => .int
  | 6 => .int
  | _ => .int
theorem nmX7 : ∀ a, a < 8 → ∀ b, b < 8 → a ≠ b → (TX7 a).2.1 ≠ (TX7 b).2.1 := by decide +kernel
theorem tyX7_ok : ∀ k, k < 8 → parseFieldDescriptor (TX7 k).2.2.1 = some (tyX7 k) := by decide +kernel
def RX8 : String := "FootholdWall$Tray"
def TX8 : u_T := fun k => match k with
  | 0 => ("FootholdWall$Tray", "numbers", "[J", true)
  | 1 => ("FootholdWall$Tray", "sort", "I", false)
  | _ => ("FootholdWall$Tray", "size", "I", false)
def tyX8 : Nat → FieldType := fun k => match k with
  | 0 => .array .long
  | 1 => .int
  | _ => .int
theorem nmX8 : ∀ a, a < 3 → ∀ b, b < 3 → a ≠ b → (TX8 a).2.1 ≠ (TX8 b).2.1 := by decide +kernel
theorem tyX8_ok : ∀ k, k < 3 → parseFieldDescriptor (TX8 k).2.2.1 = some (tyX8 k) := by decide +kernel
def RX9 : String := "FootholdWall$Wall"
def TX9 : u_T := fun k => match k with
  | 0 => ("FootholdWall$Wall", "holds", "I", false)
  | 1 => ("FootholdWall$Wall", "guides", "I", false)
  | 2 => ("FootholdWall$Wall", "lines", "I", false)
  | 3 => ("FootholdWall$Wall", "starts", "I", false)
  | 4 => ("FootholdWall$Wall", "tops", "I", false)
  | 5 => ("FootholdWall$Wall", "wides", "I", false)
  | 6 => ("FootholdWall$Wall", "x", "[I", true)
  | 7 => ("FootholdWall$Wall", "y", "[I", true)
  | 8 => ("FootholdWall$Wall", "ice", "[I", true)
  | 9 => ("FootholdWall$Wall", "leg", "[I", true)
  | 10 => ("FootholdWall$Wall", "weight", "[I", true)
  | 11 => ("FootholdWall$Wall", "law", "LFootholdWall$Law;", true)
  | 12 => ("FootholdWall$Wall", "dayAsked", "Z", true)
  | _ => ("FootholdWall$Wall", "legAsked", "Z", true)
def tyX9 : Nat → FieldType := fun k => match k with
  | 0 => .int
  | 1 => .int
  | 2 => .int
  | 3 => .int
  | 4 => .int
  | 5 => .int
  | 6 => .array .int
  | 7 => .array .int
  | 8 => .array .int
  | 9 => .array .int
  | 10 => .array .int
  | 11 => .object "FootholdWall$Law"
  | 12 => .boolean
  | _ => .boolean
theorem nmX9 : ∀ a, a < 14 → ∀ b, b < 14 → a ≠ b → (TX9 a).2.1 ≠ (TX9 b).2.1 := by decide +kernel
theorem tyX9_ok : ∀ k, k < 14 → parseFieldDescriptor (TX9 k).2.2.1 = some (tyX9 k) := by decide +kernel
def RX10 : String := "FootholdWall$Ways"
def TX10 : u_T := fun k => match k with
  | 0 => ("FootholdWall$Ways", "layer", "[I", true)
  | 1 => ("FootholdWall$Ways", "path", "[I", true)
  | 2 => ("FootholdWall$Ways", "length", "I", false)
  | 3 => ("FootholdWall$Ways", "numberFrom", "[J", true)
  | 4 => ("FootholdWall$Ways", "leastFrom", "[I", true)
  | 5 => ("FootholdWall$Ways", "into", "[I", true)
  | _ => ("FootholdWall$Ways", "tops", "I", false)
def tyX10 : Nat → FieldType := fun k => match k with
  | 0 => .array .int
  | 1 => .array .int
  | 2 => .int
  | 3 => .array .long
  | 4 => .array .int
  | 5 => .array .int
  | _ => .int
theorem nmX10 : ∀ a, a < 7 → ∀ b, b < 7 → a ≠ b → (TX10 a).2.1 ≠ (TX10 b).2.1 := by decide +kernel
theorem tyX10_ok : ∀ k, k < 7 → parseFieldDescriptor (TX10 k).2.2.1 = some (tyX10 k) := by decide +kernel
def RX11 : String := "FootholdWall"
def TX11 : u_T := fun k => match k with
  | 0 => ("FootholdWall", "tape", "[B", true)
  | 1 => ("FootholdWall", "tapeLength", "I", false)
  | 2 => ("FootholdWall", "reader", "LFootholdWall$Reader;", true)
  | 3 => ("FootholdWall", "wall", "LFootholdWall$Wall;", false)
  | 4 => ("FootholdWall", "state", "LFootholdWall$State;", true)
  | 5 => ("FootholdWall", "before", "LFootholdWall$State;", false)
  | 6 => ("FootholdWall", "past", "[LFootholdWall$State;", true)
  | 7 => ("FootholdWall", "pastCount", "I", false)
  | 8 => ("FootholdWall", "pastNext", "I", false)
  | 9 => ("FootholdWall", "imageWalls", "[LFootholdWall$Wall;", true)
  | 10 => ("FootholdWall", "imageStates", "[LFootholdWall$State;", true)
  | 11 => ("FootholdWall", "trays", "[LFootholdWall$Tray;", true)
  | 12 => ("FootholdWall", "rows", "[LFootholdWall$Rows;", true)
  | 13 => ("FootholdWall", "otherRows", "LFootholdWall$Rows;", true)
  | 14 => ("FootholdWall", "ways", "LFootholdWall$Ways;", true)
  | 15 => ("FootholdWall", "cut", "LFootholdWall$Cut;", true)
  | 16 => ("FootholdWall", "chains", "LFootholdWall$Chains;", true)
  | 17 => ("FootholdWall", "turn", "[I", true)
  | 18 => ("FootholdWall", "bestTurn", "[I", true)
  | _ => ("FootholdWall", "bestUp", "I", false)
def tyX11 : Nat → FieldType := fun k => match k with
  | 0 => .array .byte
  | 1 => .int
  | 2 => .object "FootholdWall$Reader"
  | 3 => .object "FootholdWall$Wall"
  | 4 => .object "FootholdWall$State"
  | 5 => .object "FootholdWall$State"
  | 6 => .array (.object "FootholdWall$State")
  | 7 => .int
  | 8 => .int
  | 9 => .array (.object "FootholdWall$Wall")
  | 10 => .array (.object "FootholdWall$State")
  | 11 => .array (.object "FootholdWall$Tray")
  | 12 => .array (.object "FootholdWall$Rows")
  | 13 => .object "FootholdWall$Rows"
  | 14 => .object "FootholdWall$Ways"
  | 15 => .object "FootholdWall$Cut"
  | 16 => .object "FootholdWall$Chains"
  | 17 => .array .int
  | 18 => .array .int
  | _ => .int
theorem nmX11 : ∀ a, a < 20 → ∀ b, b < 20 → a ≠ b → (TX11 a).2.1 ≠ (TX11 b).2.1 := by decide +kernel
theorem tyX11_ok : ∀ k, k < 20 → parseFieldDescriptor (TX11 k).2.2.1 = some (tyX11 k) := by decide +kernel
def RX12 : String := "FootholdWallModel"
def TX12 : u_T := fun k => match k with
  | 0 => ("FootholdWallModel", "thrown", "I", false)
  | 1 => ("FootholdWallModel", "all", "[I", true)
  | 2 => ("FootholdWallModel", "hasImage", "[Z", true)
  | 3 => ("FootholdWallModel", "tape", "[I", true)
  | 4 => ("FootholdWallModel", "fresh", "[I", true)
  | 5 => ("FootholdWallModel", "taped", "I", false)
  | 6 => ("FootholdWallModel", "at", "I", false)
  | 7 => ("FootholdWallModel", "behind", "I", false)
  | 8 => ("FootholdWallModel", "size", "I", false)
  | 9 => ("FootholdWallModel", "kind", "I", false)
  | 10 => ("FootholdWallModel", "number", "I", false)
  | 11 => ("FootholdWallModel", "wrong", "I", false)
  | 12 => ("FootholdWallModel", "wrongAt", "I", false)
  | 13 => ("FootholdWallModel", "faultKind", "I", false)
  | 14 => ("FootholdWallModel", "faultPlace", "I", false)
  | 15 => ("FootholdWallModel", "reckoned", "[I", true)
  | 16 => ("FootholdWallModel", "leg", "I", false)
  | 17 => ("FootholdWallModel", "onTo", "[I", true)
  | 18 => ("FootholdWallModel", "away", "[I", true)
  | 19 => ("FootholdWallModel", "row", "[I", true)
  | 20 => ("FootholdWallModel", "rowMany1", "I", false)
  | 21 => ("FootholdWallModel", "was", "[I", true)
  | 22 => ("FootholdWallModel", "ahead", "[I", true)
  | 23 => ("FootholdWallModel", "toldWhy", "I", false)
  | 24 => ("FootholdWallModel", "toldUses", "I", false)
  | 25 => ("FootholdWallModel", "x", "I", false)
  | 26 => ("FootholdWallModel", "climbs", "[J", true)
  | 27 => ("FootholdWallModel", "uses", "[Z", true)
  | 28 => ("FootholdWallModel", "more", "[B", true)
  | 29 => ("FootholdWallModel", "turnsOf", "[I", true)
  | 30 => ("FootholdWallModel", "bestTurn", "[I", true)
  | 31 => ("FootholdWallModel", "levels", "[I", true)
  | 32 => ("FootholdWallModel", "bestGot", "I", false)
  | 33 => ("FootholdWallModel", "rowSort", "[I", true)
  | 34 => ("FootholdWallModel", "rowMany", "[I", true)
  | _ => ("FootholdWallModel", "numbers", "[J", true)
def tyX12 : Nat → FieldType := fun k => match k with
  | 0 => .int
  | 1 => .array .int
  | 2 => .array .boolean
  | 3 => .array .int
  | 4 => .array .int
  | 5 => .int
  | 6 => .int
  | 7 => .int
  | 8 => .int
  | 9 => .int
  | 10 => .int
  | 11 => .int
  | 12 => .int
  | 13 => .int
  | 14 => .int
  | 15 => .array .int
  | 16 => .int
  | 17 => .array .int
  | 18 => .array .int
  | 19 => .array .int
  | 20 => .int
  | 21 => .array .int
  | 22 => .array .int
  | 23 => .int
  | 24 => .int
  | 25 => .int
  | 26 => .array .long
  | 27 => .array .boolean
  | 28 => .array .byte
  | 29 => .array .int
  | 30 => .array .int
  | 31 => .array .int
  | 32 => .int
  | 33 => .array .int
  | 34 => .array .int
  | _ => .array .long
theorem nmX12 : ∀ a, a < 36 → ∀ b, b < 36 → a ≠ b → (TX12 a).2.1 ≠ (TX12 b).2.1 := by decide +kernel
theorem tyX12_ok : ∀ k, k < 36 → parseFieldDescriptor (TX12 k).2.2.1 = some (tyX12 k) := by decide +kernel
def RJ6 : String := "java/lang/Integer"
def RJ7 : String := "java/util/Arrays"
abbrev cX0_init : ByteArray := prog_2_method_1_code
def yX0_init : MethodName := ⟨RX0, "<init>", "()V"⟩
abbrev cX1_init : ByteArray := prog_3_method_1_code
def yX1_init : MethodName := ⟨RX1, "<init>", "()V"⟩
abbrev cX3_init : ByteArray := prog_5_method_1_code
def yX3_init : MethodName := ⟨RX3, "<init>", "(LFootholdWall$Tokens;)V"⟩
abbrev cX4_init : ByteArray := prog_6_method_1_code
def yX4_init : MethodName := ⟨RX4, "<init>", "()V"⟩
abbrev cX5_init : ByteArray := prog_7_method_1_code
def yX5_init : MethodName := ⟨RX5, "<init>", "(LFootholdWall$Wall;)V"⟩
abbrev cX6_init : ByteArray := prog_8_method_1_code
def yX6_init : MethodName := ⟨RX6, "<init>", "()V"⟩
abbrev cX7_init : ByteArray := prog_9_method_1_code
def yX7_init : MethodName := ⟨RX7, "<init>", "()V"⟩
abbrev cX8_init : ByteArray := prog_10_method_1_code
def yX8_init : MethodName := ⟨RX8, "<init>", "()V"⟩
abbrev cX9_init : ByteArray := prog_11_method_1_code
def yX9_init : MethodName := ⟨RX9, "<init>", "(IILFootholdWall$Law;)V"⟩
abbrev cX10_init : ByteArray := prog_12_method_1_code
def yX10_init : MethodName := ⟨RX10, "<init>", "()V"⟩
