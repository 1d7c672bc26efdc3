/-! names, by my own program wip/gen/names.py -/
def RX0 : String := "StrokePieces$LineRows"
def RX1 : String := "StrokePieces$Outline"
def RX2 : String := "StrokePieces$Pattern"
def RX3 : String := "StrokePieces$Pieces"
def RX4 : String := "StrokePieces$Run"
def RX5 : String := "StrokePieces$Segment"
def RX6 : String := "StrokePieces$Tip"
def RX7 : String := "StrokePieces$Walk"
def RX8 : String := "StrokePieces"
def RX9 : String := "StrokePiecesModel"
def RJ9 : String := "java/lang/Math"
def RL : String := "StrokePiecesLaw"
def TX0 : u_T := fun k => match k with
  | 0 => ("StrokePieces$LineRows", "x", "[I", true)
  | 1 => ("StrokePieces$LineRows", "y", "[I", true)
  | 2 => ("StrokePieces$LineRows", "first", "[I", true)
  | 3 => ("StrokePieces$LineRows", "closed", "[Z", true)
  | 4 => ("StrokePieces$LineRows", "points", "I", false)
  | _ => ("StrokePieces$LineRows", "count", "I", false)
def tyX0 : Nat → FieldType := fun k => match k with
  | 0 => .array .int
  | 1 => .array .int
  | 2 => .array .int
  | 3 => .array .boolean
  | 4 => .int
  | _ => .int
abbrev wsX00 : List Cond := u_ws RX0 TX0 6
theorem nmX0 : ∀ a, a < 6 → ∀ b, b < 6 → a ≠ b → (TX0 a).2.1 ≠ (TX0 b).2.1 := by decide +kernel
theorem tyX0_ok : ∀ k, k < 6 → parseFieldDescriptor (TX0 k).2.2.1 = some (tyX0 k) := by decide +kernel
def TX1 : u_T := fun k => match k with
  | 0 => ("StrokePieces$Outline", "tip", "LStrokePieces$Tip;", true)
  | 1 => ("StrokePieces$Outline", "made", "LStrokePieces$Pieces;", true)
  | 2 => ("StrokePieces$Outline", "here", "LStrokePieces$Segment;", false)
  | _ => ("StrokePieces$Outline", "next", "LStrokePieces$Segment;", false)
def tyX1 : Nat → FieldType := fun k => match k with
  | 0 => .object "StrokePieces$Tip"
  | 1 => .object "StrokePieces$Pieces"
  | 2 => .object "StrokePieces$Segment"
  | _ => .object "StrokePieces$Segment"
abbrev wsX10 : List Cond := u_ws RX1 TX1 4
theorem nmX1 : ∀ a, a < 4 → ∀ b, b < 4 → a ≠ b → (TX1 a).2.1 ≠ (TX1 b).2.1 := by decide +kernel
theorem tyX1_ok : ∀ k, k < 4 → parseFieldDescriptor (TX1 k).2.2.1 = some (tyX1 k) := by decide +kernel
def TX2 : u_T := fun k => match k with
  | 0 => ("StrokePieces$Pattern", "given", "[I", true)
  | 1 => ("StrokePieces$Pattern", "used", "[I", true)
  | 2 => ("StrokePieces$Pattern", "count", "I", false)
  | 3 => ("StrokePieces$Pattern", "firstAt", "I", false)
  | 4 => ("StrokePieces$Pattern", "firstLeft", "J", false)
  | _ => ("StrokePieces$Pattern", "firstGap", "Z", false)
def tyX2 : Nat → FieldType := fun k => match k with
  | 0 => .array .int
  | 1 => .array .int
  | 2 => .int
  | 3 => .int
  | 4 => .long
  | _ => .boolean
abbrev wsX20 : List Cond := u_ws RX2 TX2 6
theorem nmX2 : ∀ a, a < 6 → ∀ b, b < 6 → a ≠ b → (TX2 a).2.1 ≠ (TX2 b).2.1 := by decide +kernel
theorem tyX2_ok : ∀ k, k < 6 → parseFieldDescriptor (TX2 k).2.2.1 = some (tyX2 k) := by decide +kernel
def TX3 : u_T := fun k => match k with
  | 0 => ("StrokePieces$Pieces", "kinds", "[I", true)
  | 1 => ("StrokePieces$Pieces", "places", "[I", true)
  | 2 => ("StrokePieces$Pieces", "count", "I", false)
  | 3 => ("StrokePieces$Pieces", "corners", "I", false)
  | _ => ("StrokePieces$Pieces", "state", "I", false)
def tyX3 : Nat → FieldType := fun k => match k with
  | 0 => .array .int
  | 1 => .array .int
  | 2 => .int
  | 3 => .int
  | _ => .int
abbrev wsX30 : List Cond := u_ws RX3 TX3 5
theorem nmX3 : ∀ a, a < 5 → ∀ b, b < 5 → a ≠ b → (TX3 a).2.1 ≠ (TX3 b).2.1 := by decide +kernel
theorem tyX3_ok : ∀ k, k < 5 → parseFieldDescriptor (TX3 k).2.2.1 = some (tyX3 k) := by decide +kernel
def TX4 : u_T := fun k => match k with
  | 0 => ("StrokePieces$Run", "x", "[I", true)
  | 1 => ("StrokePieces$Run", "y", "[I", true)
  | 2 => ("StrokePieces$Run", "count", "I", false)
  | _ => ("StrokePieces$Run", "ring", "Z", false)
def tyX4 : Nat → FieldType := fun k => match k with
  | 0 => .array .int
  | 1 => .array .int
  | 2 => .int
  | _ => .boolean
abbrev wsX40 : List Cond := u_ws RX4 TX4 4
theorem nmX4 : ∀ a, a < 4 → ∀ b, b < 4 → a ≠ b → (TX4 a).2.1 ≠ (TX4 b).2.1 := by decide +kernel
theorem tyX4_ok : ∀ k, k < 4 → parseFieldDescriptor (TX4 k).2.2.1 = some (tyX4 k) := by decide +kernel
def TX5 : u_T := fun k => match k with
  | 0 => ("StrokePieces$Segment", "ax", "J", false)
  | 1 => ("StrokePieces$Segment", "ay", "J", false)
  | 2 => ("StrokePieces$Segment", "bx", "J", false)
  | 3 => ("StrokePieces$Segment", "by", "J", false)
  | 4 => ("StrokePieces$Segment", "dx", "J", false)
  | 5 => ("StrokePieces$Segment", "dy", "J", false)
  | 6 => ("StrokePieces$Segment", "size", "J", false)
  | 7 => ("StrokePieces$Segment", "nx", "J", false)
  | 8 => ("StrokePieces$Segment", "ny", "J", false)
  | 9 => ("StrokePieces$Segment", "tx", "J", false)
  | _ => ("StrokePieces$Segment", "ty", "J", false)
def tyX5 : Nat → FieldType := fun k => match k with
  | 0 => .long
  | 1 => .long
  | 2 => .long
  | 3 => .long
  | 4 => .long
  | 5 => .long
  | 6 => .long
  | 7 => .long
  | 8 => .long
  | 9 => .long
  | _ => .long
abbrev wsX50 : List Cond := u_ws RX5 TX5 11
theorem nmX5 : ∀ a, a < 11 → ∀ b, b < 11 → a ≠ b → (TX5 a).2.1 ≠ (TX5 b).2.1 := by decide +kernel
theorem tyX5_ok : ∀ k, k < 11 → parseFieldDescriptor (TX5 k).2.2.1 = some (tyX5 k) := by decide +kernel
def TX6 : u_T := fun k => match k with
  | 0 => ("StrokePieces$Tip", "half", "J", false)
  | 1 => ("StrokePieces$Tip", "caps", "Z", false)
  | 2 => ("StrokePieces$Tip", "bevels", "Z", false)
  | _ => ("StrokePieces$Tip", "bound", "J", false)
def tyX6 : Nat → FieldType := fun k => match k with
  | 0 => .long
  | 1 => .boolean
  | 2 => .boolean
  | _ => .long
abbrev wsX60 : List Cond := u_ws RX6 TX6 4
theorem nmX6 : ∀ a, a < 4 → ∀ b, b < 4 → a ≠ b → (TX6 a).2.1 ≠ (TX6 b).2.1 := by decide +kernel
theorem tyX6_ok : ∀ k, k < 4 → parseFieldDescriptor (TX6 k).2.2.1 = some (tyX6 k) := by decide +kernel
def TX7 : u_T := fun k => match k with
  | 0 => ("StrokePieces$Walk", "pattern", "LStrokePieces$Pattern;", true)
  | 1 => ("StrokePieces$Walk", "outline", "LStrokePieces$Outline;", true)
  | 2 => ("StrokePieces$Walk", "made", "LStrokePieces$Pieces;", true)
  | 3 => ("StrokePieces$Walk", "way", "LStrokePieces$Segment;", true)
  | 4 => ("StrokePieces$Walk", "dash", "LStrokePieces$Run;", true)
  | 5 => ("StrokePieces$Walk", "taken", "I", false)
  | 6 => ("StrokePieces$Walk", "at", "I", false)
  | 7 => ("StrokePieces$Walk", "left", "J", false)
  | _ => ("StrokePieces$Walk", "gap", "Z", false)
def tyX7 : Nat → FieldType := fun k => match k with
  | 0 => .object "StrokePieces$Pattern"
  | 1 => .object "StrokePieces$Outline"
  | 2 => .object "StrokePieces$Pieces"
  | 3 => .object "StrokePieces$Segment"
  | 4 => .object "StrokePieces$Run"
  | 5 => .int
  | 6 => .int
  | 7 => .long
  | _ => .boolean
abbrev wsX70 : List Cond := u_ws RX7 TX7 9
theorem nmX7 : ∀ a, a < 9 → ∀ b, b < 9 → a ≠ b → (TX7 a).2.1 ≠ (TX7 b).2.1 := by decide +kernel
theorem tyX7_ok : ∀ k, k < 9 → parseFieldDescriptor (TX7 k).2.2.1 = some (tyX7 k) := by decide +kernel
def TX8 : u_T := fun k => match k with
  | 0 => ("StrokePieces", "rows", "LStrokePieces$LineRows;", true)
  | 1 => ("StrokePieces", "tip", "LStrokePieces$Tip;", true)
  | 2 => ("StrokePieces", "pattern", "LStrokePieces$Pattern;", true)
  | 3 => ("StrokePieces", "made", "LStrokePieces$Pieces;", true)
  | 4 => ("StrokePieces", "outline", "LStrokePieces$Outline;", true)
  | 5 => ("StrokePieces", "walk", "LStrokePieces$Walk;", true)
  | _ => ("StrokePieces", "run", "LStrokePieces$Run;", true)
def tyX8 : Nat → FieldType := fun k => match k with
  | 0 => .object "StrokePieces$LineRows"
  | 1 => .object "StrokePieces$Tip"
  | 2 => .object "StrokePieces$Pattern"
  | 3 => .object "StrokePieces$Pieces"
  | 4 => .object "StrokePieces$Outline"
  | 5 => .object "StrokePieces$Walk"
  | _ => .object "StrokePieces$Run"
abbrev wsX80 : List Cond := u_ws RX8 TX8 7
theorem nmX8 : ∀ a, a < 7 → ∀ b, b < 7 → a ≠ b → (TX8 a).2.1 ≠ (TX8 b).2.1 := by decide +kernel
theorem tyX8_ok : ∀ k, k < 7 → parseFieldDescriptor (TX8 k).2.2.1 = some (tyX8 k) := by decide +kernel
def TX9 : u_T := fun k => match k with
  | 0 => ("StrokePiecesModel", "xs", "[I", true)
  | 1 => ("StrokePiecesModel", "ys", "[I", true)
  | 2 => ("StrokePiecesModel", "marks", "[B", true)
  | 3 => ("StrokePiecesModel", "points", "I", false)
  | 4 => ("StrokePiecesModel", "latest", "I", false)
  | 5 => ("StrokePiecesModel", "half", "I", false)
  | 6 => ("StrokePiecesModel", "cap", "I", false)
  | 7 => ("StrokePiecesModel", "join", "I", false)
  | 8 => ("StrokePiecesModel", "limit", "J", false)
  | 9 => ("StrokePiecesModel", "lengths", "[I", true)
  | 10 => ("StrokePiecesModel", "dashCount", "I", false)
  | 11 => ("StrokePiecesModel", "offset", "I", false)
  | 12 => ("StrokePiecesModel", "runX", "[J", true)
  | 13 => ("StrokePiecesModel", "runY", "[J", true)
  | 14 => ("StrokePiecesModel", "run", "I", false)
  | 15 => ("StrokePiecesModel", "rowX", "[I", true)
  | 16 => ("StrokePiecesModel", "rowY", "[I", true)
  | 17 => ("StrokePiecesModel", "row", "I", false)
  | 18 => ("StrokePiecesModel", "sorts", "[B", true)
  | 19 => ("StrokePiecesModel", "corners", "[I", true)
  | 20 => ("StrokePiecesModel", "pieces", "I", false)
  | 21 => ("StrokePiecesModel", "trouble", "I", false)
  | 22 => ("StrokePiecesModel", "walked", "I", false)
  | 23 => ("StrokePiecesModel", "taken", "I", false)
  | 24 => ("StrokePiecesModel", "used", "[I", true)
  | 25 => ("StrokePiecesModel", "dash", "I", false)
  | 26 => ("StrokePiecesModel", "gap", "Z", false)
  | _ => ("StrokePiecesModel", "left", "J", false)
def tyX9 : Nat → FieldType := fun k => match k with
  | 0 => .array .int
  | 1 => .array .int
  | 2 => .array .byte
  | 3 => .int
  | 4 => .int
  | 5 => .int
  | 6 => .int
  | 7 => .int
  | 8 => .long
  | 9 => .array .int
  | 10 => .int
  | 11 => .int
  | 12 => .array .long
  | 13 => .array .long
  | 14 => .int
  | 15 => .array .int
  | 16 => .array .int
  | 17 => .int
  | 18 => .array .byte
  | 19 => .array .int
  | 20 => .int
  | 21 => .int
  | 22 => .int
  | 23 => .int
  | 24 => .array .int
  | 25 => .int
  | 26 => .boolean
  | _ => .long
abbrev wsX90 : List Cond := u_ws RX9 TX9 28
theorem nmX9 : ∀ a, a < 28 → ∀ b, b < 28 → a ≠ b → (TX9 a).2.1 ≠ (TX9 b).2.1 := by decide +kernel
theorem tyX9_ok : ∀ k, k < 28 → parseFieldDescriptor (TX9 k).2.2.1 = some (tyX9 k) := by decide +kernel
abbrev vwCl : List vw_C := [(RX0, TX0, 6), (RX1, TX1, 4), (RX2, TX2, 6), (RX3, TX3, 5), (RX4, TX4, 4), (RX5, TX5, 11), (RX6, TX6, 4), (RX7, TX7, 9), (RX8, TX8, 7), (RX9, TX9, 28)]
def sq_all : List Cond := lw_tbl.filter goodWord
abbrev cJ9_floorDiv : ByteArray := prog_12_method_49_code
def yJ9_floorDiv : MethodName := ⟨RJ9, "floorDiv", "(JJ)J"⟩
abbrev wsJ9_floorDiv : List Cond := Cond.code yJ9_floorDiv cJ9_floorDiv 6 (some .long) :: sq_all
theorem hdJ9_floorDiv : yJ9_floorDiv.cls ≠ "java/lang/invoke/MethodHandle" ∧ yJ9_floorDiv.cls ≠ "java/lang/invoke/VarHandle" ∧ (parseMethodDescriptor yJ9_floorDiv.desc).map (fun d => d.parameters.length) = some 2 := by decide +kernel
abbrev cL_law : ByteArray := code
def yL_law : MethodName := ⟨RL, "law", "([I)Z"⟩
abbrev cX0_begin : ByteArray := prog_2_method_3_code
def yX0_begin : MethodName := ⟨RX0, "begin", "(II)I"⟩
abbrev wsX0_begin : List Cond := Cond.code yX0_begin cX0_begin 3 (some .int) :: sq_all
theorem hdX0_begin : yX0_begin.cls ≠ "java/lang/invoke/MethodHandle" ∧ yX0_begin.cls ≠ "java/lang/invoke/VarHandle" ∧ (parseMethodDescriptor yX0_begin.desc).map (fun d => d.parameters.length) = some 2 := by decide +kernel
abbrev cX0_copyTo : ByteArray := prog_2_method_8_code
def yX0_copyTo : MethodName := ⟨RX0, "copyTo", "(LStrokePieces$Run;I)V"⟩
abbrev wsX0_copyTo : List Cond := Cond.code yX0_copyTo cX0_copyTo 6 none :: sq_all
theorem hdX0_copyTo : yX0_copyTo.cls ≠ "java/lang/invoke/MethodHandle" ∧ yX0_copyTo.cls ≠ "java/lang/invoke/VarHandle" ∧ (parseMethodDescriptor yX0_copyTo.desc).map (fun d => d.parameters.length) = some 2 := by decide +kernel
abbrev cX0_count : ByteArray := prog_2_method_2_code
def yX0_count : MethodName := ⟨RX0, "count", "()I"⟩
abbrev wsX0_count : List Cond := Cond.code yX0_count cX0_count 1 (some .int) :: sq_all
theorem hdX0_count : yX0_count.cls ≠ "java/lang/invoke/MethodHandle" ∧ yX0_count.cls ≠ "java/lang/invoke/VarHandle" ∧ (parseMethodDescriptor yX0_count.desc).map (fun d => d.parameters.length) = some 0 := by decide +kernel
abbrev cX0_empty : ByteArray := prog_2_method_7_code
def yX0_empty : MethodName := ⟨RX0, "empty", "()I"⟩
abbrev wsX0_empty : List Cond := Cond.code yX0_empty cX0_empty 2 (some .int) :: sq_all
theorem hdX0_empty : yX0_empty.cls ≠ "java/lang/invoke/MethodHandle" ∧ yX0_empty.cls ≠ "java/lang/invoke/VarHandle" ∧ (parseMethodDescriptor yX0_empty.desc).map (fun d => d.parameters.length) = some 0 := by decide +kernel
abbrev cX0_extend : ByteArray := prog_2_method_4_code
def yX0_extend : MethodName := ⟨RX0, "extend", "(II)I"⟩
abbrev wsX0_extend : List Cond := Cond.code yX0_extend cX0_extend 4 (some .int) :: sq_all
theorem hdX0_extend : yX0_extend.cls ≠ "java/lang/invoke/MethodHandle" ∧ yX0_extend.cls ≠ "java/lang/invoke/VarHandle" ∧ (parseMethodDescriptor yX0_extend.desc).map (fun d => d.parameters.length) = some 2 := by decide +kernel
abbrev cX0_init : ByteArray := prog_2_method_1_code
def yX0_init : MethodName := ⟨RX0, "<init>", "()V"⟩
abbrev wsX0_init : List Cond := Cond.code yX0_init cX0_init 1 none :: sq_all
theorem hdX0_init : yX0_init.cls ≠ "java/lang/invoke/MethodHandle" ∧ yX0_init.cls ≠ "java/lang/invoke/VarHandle" ∧ (parseMethodDescriptor yX0_init.desc).map (fun d => d.parameters.length) = some 0 := by decide +kernel
abbrev cX0_put : ByteArray := prog_2_method_5_code
def yX0_put : MethodName := ⟨RX0, "put", "(II)I"⟩
abbrev wsX0_put : List Cond := Cond.code yX0_put cX0_put 3 (some .int) :: sq_all
theorem hdX0_put : yX0_put.cls ≠ "java/lang/invoke/MethodHandle" ∧ yX0_put.cls ≠ "java/lang/invoke/VarHandle" ∧ (parseMethodDescriptor yX0_put.desc).map (fun d => d.parameters.length) = some 2 := by decide +kernel
abbrev cX0_shut : ByteArray := prog_2_method_6_code
def yX0_shut : MethodName := ⟨RX0, "shut", "()I"⟩
abbrev wsX0_shut : List Cond := Cond.code yX0_shut cX0_shut 2 (some .int) :: sq_all
theorem hdX0_shut : yX0_shut.cls ≠ "java/lang/invoke/MethodHandle" ∧ yX0_shut.cls ≠ "java/lang/invoke/VarHandle" ∧ (parseMethodDescriptor yX0_shut.desc).map (fun d => d.parameters.length) = some 0 := by decide +kernel
abbrev cX1_capBeginning : ByteArray := prog_3_method_5_code
def yX1_capBeginning : MethodName := ⟨RX1, "capBeginning", "()V"⟩
abbrev wsX1_capBeginning : List Cond := Cond.code yX1_capBeginning cX1_capBeginning 1 none :: sq_all
theorem hdX1_capBeginning : yX1_capBeginning.cls ≠ "java/lang/invoke/MethodHandle" ∧ yX1_capBeginning.cls ≠ "java/lang/invoke/VarHandle" ∧ (parseMethodDescriptor yX1_capBeginning.desc).map (fun d => d.parameters.length) = some 0 := by decide +kernel
abbrev cX1_capEnd : ByteArray := prog_3_method_6_code
def yX1_capEnd : MethodName := ⟨RX1, "capEnd", "()V"⟩
abbrev wsX1_capEnd : List Cond := Cond.code yX1_capEnd cX1_capEnd 1 none :: sq_all
theorem hdX1_capEnd : yX1_capEnd.cls ≠ "java/lang/invoke/MethodHandle" ∧ yX1_capEnd.cls ≠ "java/lang/invoke/VarHandle" ∧ (parseMethodDescriptor yX1_capEnd.desc).map (fun d => d.parameters.length) = some 0 := by decide +kernel
abbrev cX1_goOn : ByteArray := prog_3_method_3_code
def yX1_goOn : MethodName := ⟨RX1, "goOn", "()V"⟩
abbrev wsX1_goOn : List Cond := Cond.code yX1_goOn cX1_goOn 2 none :: sq_all
theorem hdX1_goOn : yX1_goOn.cls ≠ "java/lang/invoke/MethodHandle" ∧ yX1_goOn.cls ≠ "java/lang/invoke/VarHandle" ∧ (parseMethodDescriptor yX1_goOn.desc).map (fun d => d.parameters.length) = some 0 := by decide +kernel
abbrev cX1_init : ByteArray := prog_3_method_1_code
def yX1_init : MethodName := ⟨RX1, "<init>", "(LStrokePieces$Tip;LStrokePieces$Pieces;)V"⟩
abbrev wsX1_init : List Cond := Cond.code yX1_init cX1_init 3 none :: sq_all
theorem hdX1_init : yX1_init.cls ≠ "java/lang/invoke/MethodHandle" ∧ yX1_init.cls ≠ "java/lang/invoke/VarHandle" ∧ (parseMethodDescriptor yX1_init.desc).map (fun d => d.parameters.length) = some 2 := by decide +kernel
abbrev cX1_joinBoth : ByteArray := prog_3_method_7_code
def yX1_joinBoth : MethodName := ⟨RX1, "joinBoth", "()V"⟩
abbrev wsX1_joinBoth : List Cond := Cond.code yX1_joinBoth cX1_joinBoth 14 none :: sq_all
theorem hdX1_joinBoth : yX1_joinBoth.cls ≠ "java/lang/invoke/MethodHandle" ∧ yX1_joinBoth.cls ≠ "java/lang/invoke/VarHandle" ∧ (parseMethodDescriptor yX1_joinBoth.desc).map (fun d => d.parameters.length) = some 0 := by decide +kernel
abbrev cX1_make : ByteArray := prog_3_method_2_code
def yX1_make : MethodName := ⟨RX1, "make", "(LStrokePieces$Run;)V"⟩
abbrev wsX1_make : List Cond := Cond.code yX1_make cX1_make 5 none :: sq_all
theorem hdX1_make : yX1_make.cls ≠ "java/lang/invoke/MethodHandle" ∧ yX1_make.cls ≠ "java/lang/invoke/VarHandle" ∧ (parseMethodDescriptor yX1_make.desc).map (fun d => d.parameters.length) = some 1 := by decide +kernel
abbrev cX1_side : ByteArray := prog_3_method_4_code
def yX1_side : MethodName := ⟨RX1, "side", "()V"⟩
abbrev wsX1_side : List Cond := Cond.code yX1_side cX1_side 1 none :: sq_all
theorem hdX1_side : yX1_side.cls ≠ "java/lang/invoke/MethodHandle" ∧ yX1_side.cls ≠ "java/lang/invoke/VarHandle" ∧ (parseMethodDescriptor yX1_side.desc).map (fun d => d.parameters.length) = some 0 := by decide +kernel
abbrev cX2_behind : ByteArray := prog_4_method_9_code
def yX2_behind : MethodName := ⟨RX2, "behind", "(I)I"⟩
abbrev wsX2_behind : List Cond := Cond.code yX2_behind cX2_behind 2 (some .int) :: sq_all
theorem hdX2_behind : yX2_behind.cls ≠ "java/lang/invoke/MethodHandle" ∧ yX2_behind.cls ≠ "java/lang/invoke/VarHandle" ∧ (parseMethodDescriptor yX2_behind.desc).map (fun d => d.parameters.length) = some 1 := by decide +kernel
abbrev cX2_firstAt : ByteArray := prog_4_method_6_code
def yX2_firstAt : MethodName := ⟨RX2, "firstAt", "()I"⟩
abbrev wsX2_firstAt : List Cond := Cond.code yX2_firstAt cX2_firstAt 1 (some .int) :: sq_all
theorem hdX2_firstAt : yX2_firstAt.cls ≠ "java/lang/invoke/MethodHandle" ∧ yX2_firstAt.cls ≠ "java/lang/invoke/VarHandle" ∧ (parseMethodDescriptor yX2_firstAt.desc).map (fun d => d.parameters.length) = some 0 := by decide +kernel
abbrev cX2_firstGap : ByteArray := prog_4_method_8_code
def yX2_firstGap : MethodName := ⟨RX2, "firstGap", "()Z"⟩
abbrev wsX2_firstGap : List Cond := Cond.code yX2_firstGap cX2_firstGap 1 (some .boolean) :: sq_all
theorem hdX2_firstGap : yX2_firstGap.cls ≠ "java/lang/invoke/MethodHandle" ∧ yX2_firstGap.cls ≠ "java/lang/invoke/VarHandle" ∧ (parseMethodDescriptor yX2_firstGap.desc).map (fun d => d.parameters.length) = some 0 := by decide +kernel
abbrev cX2_firstLeft : ByteArray := prog_4_method_7_code
def yX2_firstLeft : MethodName := ⟨RX2, "firstLeft", "()J"⟩
abbrev wsX2_firstLeft : List Cond := Cond.code yX2_firstLeft cX2_firstLeft 1 (some .long) :: sq_all
theorem hdX2_firstLeft : yX2_firstLeft.cls ≠ "java/lang/invoke/MethodHandle" ∧ yX2_firstLeft.cls ≠ "java/lang/invoke/VarHandle" ∧ (parseMethodDescriptor yX2_firstLeft.desc).map (fun d => d.parameters.length) = some 0 := by decide +kernel
abbrev cX2_give : ByteArray := prog_4_method_2_code
def yX2_give : MethodName := ⟨RX2, "give", "(II)Z"⟩
abbrev wsX2_give : List Cond := Cond.code yX2_give cX2_give 3 (some .boolean) :: sq_all
theorem hdX2_give : yX2_give.cls ≠ "java/lang/invoke/MethodHandle" ∧ yX2_give.cls ≠ "java/lang/invoke/VarHandle" ∧ (parseMethodDescriptor yX2_give.desc).map (fun d => d.parameters.length) = some 2 := by decide +kernel
abbrev cX2_init : ByteArray := prog_4_method_1_code
def yX2_init : MethodName := ⟨RX2, "<init>", "()V"⟩
abbrev wsX2_init : List Cond := Cond.code yX2_init cX2_init 1 none :: sq_all
theorem hdX2_init : yX2_init.cls ≠ "java/lang/invoke/MethodHandle" ∧ yX2_init.cls ≠ "java/lang/invoke/VarHandle" ∧ (parseMethodDescriptor yX2_init.desc).map (fun d => d.parameters.length) = some 0 := by decide +kernel
abbrev cX2_isUsed : ByteArray := prog_4_method_5_code
def yX2_isUsed : MethodName := ⟨RX2, "isUsed", "()Z"⟩
abbrev wsX2_isUsed : List Cond := Cond.code yX2_isUsed cX2_isUsed 1 (some .boolean) :: sq_all
theorem hdX2_isUsed : yX2_isUsed.cls ≠ "java/lang/invoke/MethodHandle" ∧ yX2_isUsed.cls ≠ "java/lang/invoke/VarHandle" ∧ (parseMethodDescriptor yX2_isUsed.desc).map (fun d => d.parameters.length) = some 0 := by decide +kernel
abbrev cX2_lengthOf : ByteArray := prog_4_method_10_code
def yX2_lengthOf : MethodName := ⟨RX2, "lengthOf", "(I)J"⟩
abbrev wsX2_lengthOf : List Cond := Cond.code yX2_lengthOf cX2_lengthOf 2 (some .long) :: sq_all
theorem hdX2_lengthOf : yX2_lengthOf.cls ≠ "java/lang/invoke/MethodHandle" ∧ yX2_lengthOf.cls ≠ "java/lang/invoke/VarHandle" ∧ (parseMethodDescriptor yX2_lengthOf.desc).map (fun d => d.parameters.length) = some 1 := by decide +kernel
abbrev cX2_passOffset : ByteArray := prog_4_method_4_code
def yX2_passOffset : MethodName := ⟨RX2, "passOffset", "(IJ)V"⟩
abbrev wsX2_passOffset : List Cond := Cond.code yX2_passOffset cX2_passOffset 9 none :: sq_all
theorem hdX2_passOffset : yX2_passOffset.cls ≠ "java/lang/invoke/MethodHandle" ∧ yX2_passOffset.cls ≠ "java/lang/invoke/VarHandle" ∧ (parseMethodDescriptor yX2_passOffset.desc).map (fun d => d.parameters.length) = some 2 := by decide +kernel
abbrev cX2_use : ByteArray := prog_4_method_3_code
def yX2_use : MethodName := ⟨RX2, "use", "(II)Z"⟩
abbrev wsX2_use : List Cond := Cond.code yX2_use cX2_use 6 (some .boolean) :: sq_all
theorem hdX2_use : yX2_use.cls ≠ "java/lang/invoke/MethodHandle" ∧ yX2_use.cls ≠ "java/lang/invoke/VarHandle" ∧ (parseMethodDescriptor yX2_use.desc).map (fun d => d.parameters.length) = some 2 := by decide +kernel
abbrev cX3_add : ByteArray := prog_5_method_8_code
def yX3_add : MethodName := ⟨RX3, "add", "(JJ)V"⟩
abbrev wsX3_add : List Cond := Cond.code yX3_add cX3_add 6 none :: sq_all
theorem hdX3_add : yX3_add.cls ≠ "java/lang/invoke/MethodHandle" ∧ yX3_add.cls ≠ "java/lang/invoke/VarHandle" ∧ (parseMethodDescriptor yX3_add.desc).map (fun d => d.parameters.length) = some 2 := by decide +kernel
abbrev cX3_count : ByteArray := prog_5_method_5_code
def yX3_count : MethodName := ⟨RX3, "count", "()I"⟩
abbrev wsX3_count : List Cond := Cond.code yX3_count cX3_count 1 (some .int) :: sq_all
theorem hdX3_count : yX3_count.cls ≠ "java/lang/invoke/MethodHandle" ∧ yX3_count.cls ≠ "java/lang/invoke/VarHandle" ∧ (parseMethodDescriptor yX3_count.desc).map (fun d => d.parameters.length) = some 0 := by decide +kernel
abbrev cX3_empty : ByteArray := prog_5_method_2_code
def yX3_empty : MethodName := ⟨RX3, "empty", "()V"⟩
abbrev wsX3_empty : List Cond := Cond.code yX3_empty cX3_empty 1 none :: sq_all
theorem hdX3_empty : yX3_empty.cls ≠ "java/lang/invoke/MethodHandle" ∧ yX3_empty.cls ≠ "java/lang/invoke/VarHandle" ∧ (parseMethodDescriptor yX3_empty.desc).map (fun d => d.parameters.length) = some 0 := by decide +kernel
abbrev cX3_init : ByteArray := prog_5_method_1_code
def yX3_init : MethodName := ⟨RX3, "<init>", "()V"⟩
abbrev wsX3_init : List Cond := Cond.code yX3_init cX3_init 1 none :: sq_all
theorem hdX3_init : yX3_init.cls ≠ "java/lang/invoke/MethodHandle" ∧ yX3_init.cls ≠ "java/lang/invoke/VarHandle" ∧ (parseMethodDescriptor yX3_init.desc).map (fun d => d.parameters.length) = some 0 := by decide +kernel
abbrev cX3_isGoing : ByteArray := prog_5_method_3_code
def yX3_isGoing : MethodName := ⟨RX3, "isGoing", "()Z"⟩
abbrev wsX3_isGoing : List Cond := Cond.code yX3_isGoing cX3_isGoing 1 (some .boolean) :: sq_all
theorem hdX3_isGoing : yX3_isGoing.cls ≠ "java/lang/invoke/MethodHandle" ∧ yX3_isGoing.cls ≠ "java/lang/invoke/VarHandle" ∧ (parseMethodDescriptor yX3_isGoing.desc).map (fun d => d.parameters.length) = some 0 := by decide +kernel
abbrev cX3_kindOf : ByteArray := prog_5_method_9_code
def yX3_kindOf : MethodName := ⟨RX3, "kindOf", "(I)I"⟩
abbrev wsX3_kindOf : List Cond := Cond.code yX3_kindOf cX3_kindOf 2 (some .int) :: sq_all
theorem hdX3_kindOf : yX3_kindOf.cls ≠ "java/lang/invoke/MethodHandle" ∧ yX3_kindOf.cls ≠ "java/lang/invoke/VarHandle" ∧ (parseMethodDescriptor yX3_kindOf.desc).map (fun d => d.parameters.length) = some 1 := by decide +kernel
abbrev cX3_placeOf : ByteArray := prog_5_method_10_code
def yX3_placeOf : MethodName := ⟨RX3, "placeOf", "(III)I"⟩
abbrev wsX3_placeOf : List Cond := Cond.code yX3_placeOf cX3_placeOf 6 (some .int) :: sq_all
theorem hdX3_placeOf : yX3_placeOf.cls ≠ "java/lang/invoke/MethodHandle" ∧ yX3_placeOf.cls ≠ "java/lang/invoke/VarHandle" ∧ (parseMethodDescriptor yX3_placeOf.desc).map (fun d => d.parameters.length) = some 3 := by decide +kernel
abbrev cX3_start : ByteArray := prog_5_method_7_code
def yX3_start : MethodName := ⟨RX3, "start", "(I)V"⟩
abbrev wsX3_start : List Cond := Cond.code yX3_start cX3_start 2 none :: sq_all
theorem hdX3_start : yX3_start.cls ≠ "java/lang/invoke/MethodHandle" ∧ yX3_start.cls ≠ "java/lang/invoke/VarHandle" ∧ (parseMethodDescriptor yX3_start.desc).map (fun d => d.parameters.length) = some 1 := by decide +kernel
abbrev cX3_state : ByteArray := prog_5_method_4_code
def yX3_state : MethodName := ⟨RX3, "state", "()I"⟩
abbrev wsX3_state : List Cond := Cond.code yX3_state cX3_state 1 (some .int) :: sq_all
theorem hdX3_state : yX3_state.cls ≠ "java/lang/invoke/MethodHandle" ∧ yX3_state.cls ≠ "java/lang/invoke/VarHandle" ∧ (parseMethodDescriptor yX3_state.desc).map (fun d => d.parameters.length) = some 0 := by decide +kernel
abbrev cX3_stop : ByteArray := prog_5_method_6_code
def yX3_stop : MethodName := ⟨RX3, "stop", "(I)V"⟩
abbrev wsX3_stop : List Cond := Cond.code yX3_stop cX3_stop 2 none :: sq_all
theorem hdX3_stop : yX3_stop.cls ≠ "java/lang/invoke/MethodHandle" ∧ yX3_stop.cls ≠ "java/lang/invoke/VarHandle" ∧ (parseMethodDescriptor yX3_stop.desc).map (fun d => d.parameters.length) = some 1 := by decide +kernel
abbrev cX4_add : ByteArray := prog_6_method_3_code
def yX4_add : MethodName := ⟨RX4, "add", "(II)V"⟩
abbrev wsX4_add : List Cond := Cond.code yX4_add cX4_add 4 none :: sq_all
theorem hdX4_add : yX4_add.cls ≠ "java/lang/invoke/MethodHandle" ∧ yX4_add.cls ≠ "java/lang/invoke/VarHandle" ∧ (parseMethodDescriptor yX4_add.desc).map (fun d => d.parameters.length) = some 2 := by decide +kernel
abbrev cX4_dropLastLikeFirst : ByteArray := prog_6_method_4_code
def yX4_dropLastLikeFirst : MethodName := ⟨RX4, "dropLastLikeFirst", "()V"⟩
abbrev wsX4_dropLastLikeFirst : List Cond := Cond.code yX4_dropLastLikeFirst cX4_dropLastLikeFirst 2 none :: sq_all
theorem hdX4_dropLastLikeFirst : yX4_dropLastLikeFirst.cls ≠ "java/lang/invoke/MethodHandle" ∧ yX4_dropLastLikeFirst.cls ≠ "java/lang/invoke/VarHandle" ∧ (parseMethodDescriptor yX4_dropLastLikeFirst.desc).map (fun d => d.parameters.length) = some 0 := by decide +kernel
abbrev cX4_init : ByteArray := prog_6_method_1_code
def yX4_init : MethodName := ⟨RX4, "<init>", "()V"⟩
abbrev wsX4_init : List Cond := Cond.code yX4_init cX4_init 1 none :: sq_all
theorem hdX4_init : yX4_init.cls ≠ "java/lang/invoke/MethodHandle" ∧ yX4_init.cls ≠ "java/lang/invoke/VarHandle" ∧ (parseMethodDescriptor yX4_init.desc).map (fun d => d.parameters.length) = some 0 := by decide +kernel
abbrev cX4_inside : ByteArray := prog_6_method_9_code
def yX4_inside : MethodName := ⟨RX4, "inside", "(I)I"⟩
abbrev wsX4_inside : List Cond := Cond.code yX4_inside cX4_inside 2 (some .int) :: sq_all
theorem hdX4_inside : yX4_inside.cls ≠ "java/lang/invoke/MethodHandle" ∧ yX4_inside.cls ≠ "java/lang/invoke/VarHandle" ∧ (parseMethodDescriptor yX4_inside.desc).map (fun d => d.parameters.length) = some 1 := by decide +kernel
abbrev cX4_isRing : ByteArray := prog_6_method_5_code
def yX4_isRing : MethodName := ⟨RX4, "isRing", "()Z"⟩
abbrev wsX4_isRing : List Cond := Cond.code yX4_isRing cX4_isRing 1 (some .boolean) :: sq_all
theorem hdX4_isRing : yX4_isRing.cls ≠ "java/lang/invoke/MethodHandle" ∧ yX4_isRing.cls ≠ "java/lang/invoke/VarHandle" ∧ (parseMethodDescriptor yX4_isRing.desc).map (fun d => d.parameters.length) = some 0 := by decide +kernel
abbrev cX4_segments : ByteArray := prog_6_method_6_code
def yX4_segments : MethodName := ⟨RX4, "segments", "()I"⟩
abbrev wsX4_segments : List Cond := Cond.code yX4_segments cX4_segments 1 (some .int) :: sq_all
theorem hdX4_segments : yX4_segments.cls ≠ "java/lang/invoke/MethodHandle" ∧ yX4_segments.cls ≠ "java/lang/invoke/VarHandle" ∧ (parseMethodDescriptor yX4_segments.desc).map (fun d => d.parameters.length) = some 0 := by decide +kernel
abbrev cX4_start : ByteArray := prog_6_method_2_code
def yX4_start : MethodName := ⟨RX4, "start", "(Z)V"⟩
abbrev wsX4_start : List Cond := Cond.code yX4_start cX4_start 2 none :: sq_all
theorem hdX4_start : yX4_start.cls ≠ "java/lang/invoke/MethodHandle" ∧ yX4_start.cls ≠ "java/lang/invoke/VarHandle" ∧ (parseMethodDescriptor yX4_start.desc).map (fun d => d.parameters.length) = some 1 := by decide +kernel
abbrev cX4_xAt : ByteArray := prog_6_method_7_code
def yX4_xAt : MethodName := ⟨RX4, "xAt", "(I)I"⟩
abbrev wsX4_xAt : List Cond := Cond.code yX4_xAt cX4_xAt 2 (some .int) :: sq_all
theorem hdX4_xAt : yX4_xAt.cls ≠ "java/lang/invoke/MethodHandle" ∧ yX4_xAt.cls ≠ "java/lang/invoke/VarHandle" ∧ (parseMethodDescriptor yX4_xAt.desc).map (fun d => d.parameters.length) = some 1 := by decide +kernel
abbrev cX4_yAt : ByteArray := prog_6_method_8_code
def yX4_yAt : MethodName := ⟨RX4, "yAt", "(I)I"⟩
abbrev wsX4_yAt : List Cond := Cond.code yX4_yAt cX4_yAt 2 (some .int) :: sq_all
theorem hdX4_yAt : yX4_yAt.cls ≠ "java/lang/invoke/MethodHandle" ∧ yX4_yAt.cls ≠ "java/lang/invoke/VarHandle" ∧ (parseMethodDescriptor yX4_yAt.desc).map (fun d => d.parameters.length) = some 1 := by decide +kernel
abbrev cX5_cutX : ByteArray := prog_7_method_4_code
def yX5_cutX : MethodName := ⟨RX5, "cutX", "(J)I"⟩
abbrev wsX5_cutX : List Cond := Cond.code yX5_cutX cX5_cutX 3 (some .int) :: sq_all
theorem hdX5_cutX : yX5_cutX.cls ≠ "java/lang/invoke/MethodHandle" ∧ yX5_cutX.cls ≠ "java/lang/invoke/VarHandle" ∧ (parseMethodDescriptor yX5_cutX.desc).map (fun d => d.parameters.length) = some 1 := by decide +kernel
abbrev cX5_cutY : ByteArray := prog_7_method_5_code
def yX5_cutY : MethodName := ⟨RX5, "cutY", "(J)I"⟩
abbrev wsX5_cutY : List Cond := Cond.code yX5_cutY cX5_cutY 3 (some .int) :: sq_all
theorem hdX5_cutY : yX5_cutY.cls ≠ "java/lang/invoke/MethodHandle" ∧ yX5_cutY.cls ≠ "java/lang/invoke/VarHandle" ∧ (parseMethodDescriptor yX5_cutY.desc).map (fun d => d.parameters.length) = some 1 := by decide +kernel
abbrev cX5_init : ByteArray := prog_7_method_1_code
def yX5_init : MethodName := ⟨RX5, "<init>", "()V"⟩
abbrev wsX5_init : List Cond := Cond.code yX5_init cX5_init 1 none :: sq_all
theorem hdX5_init : yX5_init.cls ≠ "java/lang/invoke/MethodHandle" ∧ yX5_init.cls ≠ "java/lang/invoke/VarHandle" ∧ (parseMethodDescriptor yX5_init.desc).map (fun d => d.parameters.length) = some 0 := by decide +kernel
abbrev cX5_set : ByteArray := prog_7_method_2_code
def yX5_set : MethodName := ⟨RX5, "set", "(LStrokePieces$Run;I)V"⟩
abbrev wsX5_set : List Cond := Cond.code yX5_set cX5_set 3 none :: sq_all
theorem hdX5_set : yX5_set.cls ≠ "java/lang/invoke/MethodHandle" ∧ yX5_set.cls ≠ "java/lang/invoke/VarHandle" ∧ (parseMethodDescriptor yX5_set.desc).map (fun d => d.parameters.length) = some 2 := by decide +kernel
abbrev cX5_widen : ByteArray := prog_7_method_3_code
def yX5_widen : MethodName := ⟨RX5, "widen", "(J)V"⟩
abbrev wsX5_widen : List Cond := Cond.code yX5_widen cX5_widen 3 none :: sq_all
theorem hdX5_widen : yX5_widen.cls ≠ "java/lang/invoke/MethodHandle" ∧ yX5_widen.cls ≠ "java/lang/invoke/VarHandle" ∧ (parseMethodDescriptor yX5_widen.desc).map (fun d => d.parameters.length) = some 1 := by decide +kernel
abbrev cX6_allowsMitre : ByteArray := prog_8_method_6_code
def yX6_allowsMitre : MethodName := ⟨RX6, "allowsMitre", "(J)Z"⟩
abbrev wsX6_allowsMitre : List Cond := Cond.code yX6_allowsMitre cX6_allowsMitre 3 (some .boolean) :: sq_all
theorem hdX6_allowsMitre : yX6_allowsMitre.cls ≠ "java/lang/invoke/MethodHandle" ∧ yX6_allowsMitre.cls ≠ "java/lang/invoke/VarHandle" ∧ (parseMethodDescriptor yX6_allowsMitre.desc).map (fun d => d.parameters.length) = some 1 := by decide +kernel
abbrev cX6_half : ByteArray := prog_8_method_4_code
def yX6_half : MethodName := ⟨RX6, "half", "()J"⟩
abbrev wsX6_half : List Cond := Cond.code yX6_half cX6_half 1 (some .long) :: sq_all
theorem hdX6_half : yX6_half.cls ≠ "java/lang/invoke/MethodHandle" ∧ yX6_half.cls ≠ "java/lang/invoke/VarHandle" ∧ (parseMethodDescriptor yX6_half.desc).map (fun d => d.parameters.length) = some 0 := by decide +kernel
abbrev cX6_hasCaps : ByteArray := prog_8_method_5_code
def yX6_hasCaps : MethodName := ⟨RX6, "hasCaps", "()Z"⟩
abbrev wsX6_hasCaps : List Cond := Cond.code yX6_hasCaps cX6_hasCaps 1 (some .boolean) :: sq_all
theorem hdX6_hasCaps : yX6_hasCaps.cls ≠ "java/lang/invoke/MethodHandle" ∧ yX6_hasCaps.cls ≠ "java/lang/invoke/VarHandle" ∧ (parseMethodDescriptor yX6_hasCaps.desc).map (fun d => d.parameters.length) = some 0 := by decide +kernel
abbrev cX6_init : ByteArray := prog_8_method_1_code
def yX6_init : MethodName := ⟨RX6, "<init>", "()V"⟩
abbrev wsX6_init : List Cond := Cond.code yX6_init cX6_init 1 none :: sq_all
theorem hdX6_init : yX6_init.cls ≠ "java/lang/invoke/MethodHandle" ∧ yX6_init.cls ≠ "java/lang/invoke/VarHandle" ∧ (parseMethodDescriptor yX6_init.desc).map (fun d => d.parameters.length) = some 0 := by decide +kernel
abbrev cX6_leastCosine : ByteArray := prog_8_method_3_code
def yX6_leastCosine : MethodName := ⟨RX6, "leastCosine", "(I)J"⟩
abbrev wsX6_leastCosine : List Cond := Cond.code yX6_leastCosine cX6_leastCosine 3 (some .long) :: sq_all
theorem hdX6_leastCosine : yX6_leastCosine.cls ≠ "java/lang/invoke/MethodHandle" ∧ yX6_leastCosine.cls ≠ "java/lang/invoke/VarHandle" ∧ (parseMethodDescriptor yX6_leastCosine.desc).map (fun d => d.parameters.length) = some 1 := by decide +kernel
abbrev cX6_reach : ByteArray := prog_8_method_7_code
def yX6_reach : MethodName := ⟨RX6, "reach", "(J)J"⟩
abbrev wsX6_reach : List Cond := Cond.code yX6_reach cX6_reach 3 (some .long) :: sq_all
theorem hdX6_reach : yX6_reach.cls ≠ "java/lang/invoke/MethodHandle" ∧ yX6_reach.cls ≠ "java/lang/invoke/VarHandle" ∧ (parseMethodDescriptor yX6_reach.desc).map (fun d => d.parameters.length) = some 1 := by decide +kernel
abbrev cX6_set : ByteArray := prog_8_method_2_code
def yX6_set : MethodName := ⟨RX6, "set", "(IIII)Z"⟩
abbrev wsX6_set : List Cond := Cond.code yX6_set cX6_set 5 (some .boolean) :: sq_all
theorem hdX6_set : yX6_set.cls ≠ "java/lang/invoke/MethodHandle" ∧ yX6_set.cls ≠ "java/lang/invoke/VarHandle" ∧ (parseMethodDescriptor yX6_set.desc).map (fun d => d.parameters.length) = some 4 := by decide +kernel
abbrev cX7_along : ByteArray := prog_9_method_4_code
def yX7_along : MethodName := ⟨RX7, "along", "(LStrokePieces$Run;)V"⟩
abbrev wsX7_along : List Cond := Cond.code yX7_along cX7_along 4 none :: sq_all
theorem hdX7_along : yX7_along.cls ≠ "java/lang/invoke/MethodHandle" ∧ yX7_along.cls ≠ "java/lang/invoke/VarHandle" ∧ (parseMethodDescriptor yX7_along.desc).map (fun d => d.parameters.length) = some 1 := by decide +kernel
abbrev cX7_beginDash : ByteArray := prog_9_method_7_code
def yX7_beginDash : MethodName := ⟨RX7, "beginDash", "(II)V"⟩
abbrev wsX7_beginDash : List Cond := Cond.code yX7_beginDash cX7_beginDash 3 none :: sq_all
theorem hdX7_beginDash : yX7_beginDash.cls ≠ "java/lang/invoke/MethodHandle" ∧ yX7_beginDash.cls ≠ "java/lang/invoke/VarHandle" ∧ (parseMethodDescriptor yX7_beginDash.desc).map (fun d => d.parameters.length) = some 2 := by decide +kernel
abbrev cX7_countOne : ByteArray := prog_9_method_8_code
def yX7_countOne : MethodName := ⟨RX7, "countOne", "()V"⟩
abbrev wsX7_countOne : List Cond := Cond.code yX7_countOne cX7_countOne 1 none :: sq_all
theorem hdX7_countOne : yX7_countOne.cls ≠ "java/lang/invoke/MethodHandle" ∧ yX7_countOne.cls ≠ "java/lang/invoke/VarHandle" ∧ (parseMethodDescriptor yX7_countOne.desc).map (fun d => d.parameters.length) = some 0 := by decide +kernel
abbrev cX7_init : ByteArray := prog_9_method_1_code
def yX7_init : MethodName := ⟨RX7, "<init>", "(LStrokePieces$Pattern;LStrokePieces$Outline;LStrokePieces$Pieces;)V"⟩
abbrev wsX7_init : List Cond := Cond.code yX7_init cX7_init 4 none :: sq_all
theorem hdX7_init : yX7_init.cls ≠ "java/lang/invoke/MethodHandle" ∧ yX7_init.cls ≠ "java/lang/invoke/VarHandle" ∧ (parseMethodDescriptor yX7_init.desc).map (fun d => d.parameters.length) = some 3 := by decide +kernel
abbrev cX7_pass : ByteArray := prog_9_method_5_code
def yX7_pass : MethodName := ⟨RX7, "pass", "()V"⟩
abbrev wsX7_pass : List Cond := Cond.code yX7_pass cX7_pass 6 none :: sq_all
theorem hdX7_pass : yX7_pass.cls ≠ "java/lang/invoke/MethodHandle" ∧ yX7_pass.cls ≠ "java/lang/invoke/VarHandle" ∧ (parseMethodDescriptor yX7_pass.desc).map (fun d => d.parameters.length) = some 0 := by decide +kernel
abbrev cX7_reset : ByteArray := prog_9_method_2_code
def yX7_reset : MethodName := ⟨RX7, "reset", "()V"⟩
abbrev wsX7_reset : List Cond := Cond.code yX7_reset cX7_reset 1 none :: sq_all
theorem hdX7_reset : yX7_reset.cls ≠ "java/lang/invoke/MethodHandle" ∧ yX7_reset.cls ≠ "java/lang/invoke/VarHandle" ∧ (parseMethodDescriptor yX7_reset.desc).map (fun d => d.parameters.length) = some 0 := by decide +kernel
abbrev cX7_takeNext : ByteArray := prog_9_method_6_code
def yX7_takeNext : MethodName := ⟨RX7, "takeNext", "()V"⟩
abbrev wsX7_takeNext : List Cond := Cond.code yX7_takeNext cX7_takeNext 1 none :: sq_all
theorem hdX7_takeNext : yX7_takeNext.cls ≠ "java/lang/invoke/MethodHandle" ∧ yX7_takeNext.cls ≠ "java/lang/invoke/VarHandle" ∧ (parseMethodDescriptor yX7_takeNext.desc).map (fun d => d.parameters.length) = some 0 := by decide +kernel
abbrev cX7_taken : ByteArray := prog_9_method_3_code
def yX7_taken : MethodName := ⟨RX7, "taken", "()I"⟩
abbrev wsX7_taken : List Cond := Cond.code yX7_taken cX7_taken 1 (some .int) :: sq_all
theorem hdX7_taken : yX7_taken.cls ≠ "java/lang/invoke/MethodHandle" ∧ yX7_taken.cls ≠ "java/lang/invoke/VarHandle" ∧ (parseMethodDescriptor yX7_taken.desc).map (fun d => d.parameters.length) = some 0 := by decide +kernel
abbrev cX8_clear : ByteArray := prog_1_method_5_code
def yX8_clear : MethodName := ⟨RX8, "clear", "()I"⟩
abbrev wsX8_clear : List Cond := Cond.code yX8_clear cX8_clear 1 (some .int) :: sq_all
theorem hdX8_clear : yX8_clear.cls ≠ "java/lang/invoke/MethodHandle" ∧ yX8_clear.cls ≠ "java/lang/invoke/VarHandle" ∧ (parseMethodDescriptor yX8_clear.desc).map (fun d => d.parameters.length) = some 0 := by decide +kernel
abbrev cX8_close : ByteArray := prog_1_method_4_code
def yX8_close : MethodName := ⟨RX8, "close", "()I"⟩
abbrev wsX8_close : List Cond := Cond.code yX8_close cX8_close 1 (some .int) :: sq_all
theorem hdX8_close : yX8_close.cls ≠ "java/lang/invoke/MethodHandle" ∧ yX8_close.cls ≠ "java/lang/invoke/VarHandle" ∧ (parseMethodDescriptor yX8_close.desc).map (fun d => d.parameters.length) = some 0 := by decide +kernel
abbrev cX8_corner : ByteArray := prog_1_method_12_code
def yX8_corner : MethodName := ⟨RX8, "corner", "(III)I"⟩
abbrev wsX8_corner : List Cond := Cond.code yX8_corner cX8_corner 4 (some .int) :: sq_all
theorem hdX8_corner : yX8_corner.cls ≠ "java/lang/invoke/MethodHandle" ∧ yX8_corner.cls ≠ "java/lang/invoke/VarHandle" ∧ (parseMethodDescriptor yX8_corner.desc).map (fun d => d.parameters.length) = some 3 := by decide +kernel
abbrev cX8_dashes : ByteArray := prog_1_method_8_code
def yX8_dashes : MethodName := ⟨RX8, "dashes", "(II)Z"⟩
abbrev wsX8_dashes : List Cond := Cond.code yX8_dashes cX8_dashes 3 (some .boolean) :: sq_all
theorem hdX8_dashes : yX8_dashes.cls ≠ "java/lang/invoke/MethodHandle" ∧ yX8_dashes.cls ≠ "java/lang/invoke/VarHandle" ∧ (parseMethodDescriptor yX8_dashes.desc).map (fun d => d.parameters.length) = some 2 := by decide +kernel
abbrev cX8_init : ByteArray := prog_1_method_1_code
def yX8_init : MethodName := ⟨RX8, "<init>", "()V"⟩
abbrev wsX8_init : List Cond := Cond.code yX8_init cX8_init 1 none :: sq_all
theorem hdX8_init : yX8_init.cls ≠ "java/lang/invoke/MethodHandle" ∧ yX8_init.cls ≠ "java/lang/invoke/VarHandle" ∧ (parseMethodDescriptor yX8_init.desc).map (fun d => d.parameters.length) = some 0 := by decide +kernel
abbrev cX8_isPlace : ByteArray := prog_1_method_14_code
def yX8_isPlace : MethodName := ⟨RX8, "isPlace", "(J)Z"⟩
abbrev wsX8_isPlace : List Cond := Cond.code yX8_isPlace cX8_isPlace 2 (some .boolean) :: sq_all
theorem hdX8_isPlace : yX8_isPlace.cls ≠ "java/lang/invoke/MethodHandle" ∧ yX8_isPlace.cls ≠ "java/lang/invoke/VarHandle" ∧ (parseMethodDescriptor yX8_isPlace.desc).map (fun d => d.parameters.length) = some 1 := by decide +kernel
abbrev cX8_isUnits : ByteArray := prog_1_method_15_code
def yX8_isUnits : MethodName := ⟨RX8, "isUnits", "(I)Z"⟩
abbrev wsX8_isUnits : List Cond := Cond.code yX8_isUnits cX8_isUnits 1 (some .boolean) :: sq_all
theorem hdX8_isUnits : yX8_isUnits.cls ≠ "java/lang/invoke/MethodHandle" ∧ yX8_isUnits.cls ≠ "java/lang/invoke/VarHandle" ∧ (parseMethodDescriptor yX8_isUnits.desc).map (fun d => d.parameters.length) = some 1 := by decide +kernel
abbrev cX8_length : ByteArray := prog_1_method_7_code
def yX8_length : MethodName := ⟨RX8, "length", "(II)Z"⟩
abbrev wsX8_length : List Cond := Cond.code yX8_length cX8_length 3 (some .boolean) :: sq_all
theorem hdX8_length : yX8_length.cls ≠ "java/lang/invoke/MethodHandle" ∧ yX8_length.cls ≠ "java/lang/invoke/VarHandle" ∧ (parseMethodDescriptor yX8_length.desc).map (fun d => d.parameters.length) = some 2 := by decide +kernel
abbrev cX8_line : ByteArray := prog_1_method_3_code
def yX8_line : MethodName := ⟨RX8, "line", "(II)I"⟩
abbrev wsX8_line : List Cond := Cond.code yX8_line cX8_line 3 (some .int) :: sq_all
theorem hdX8_line : yX8_line.cls ≠ "java/lang/invoke/MethodHandle" ∧ yX8_line.cls ≠ "java/lang/invoke/VarHandle" ∧ (parseMethodDescriptor yX8_line.desc).map (fun d => d.parameters.length) = some 2 := by decide +kernel
abbrev cX8_move : ByteArray := prog_1_method_2_code
def yX8_move : MethodName := ⟨RX8, "move", "(II)I"⟩
abbrev wsX8_move : List Cond := Cond.code yX8_move cX8_move 3 (some .int) :: sq_all
theorem hdX8_move : yX8_move.cls ≠ "java/lang/invoke/MethodHandle" ∧ yX8_move.cls ≠ "java/lang/invoke/VarHandle" ∧ (parseMethodDescriptor yX8_move.desc).map (fun d => d.parameters.length) = some 2 := by decide +kernel
abbrev cX8_pen : ByteArray := prog_1_method_6_code
def yX8_pen : MethodName := ⟨RX8, "pen", "(IIII)Z"⟩
abbrev wsX8_pen : List Cond := Cond.code yX8_pen cX8_pen 5 (some .boolean) :: sq_all
theorem hdX8_pen : yX8_pen.cls ≠ "java/lang/invoke/MethodHandle" ∧ yX8_pen.cls ≠ "java/lang/invoke/VarHandle" ∧ (parseMethodDescriptor yX8_pen.desc).map (fun d => d.parameters.length) = some 4 := by decide +kernel
abbrev cX8_pieces : ByteArray := prog_1_method_10_code
def yX8_pieces : MethodName := ⟨RX8, "pieces", "()I"⟩
abbrev wsX8_pieces : List Cond := Cond.code yX8_pieces cX8_pieces 1 (some .int) :: sq_all
theorem hdX8_pieces : yX8_pieces.cls ≠ "java/lang/invoke/MethodHandle" ∧ yX8_pieces.cls ≠ "java/lang/invoke/VarHandle" ∧ (parseMethodDescriptor yX8_pieces.desc).map (fun d => d.parameters.length) = some 0 := by decide +kernel
abbrev cX8_root : ByteArray := prog_1_method_17_code
def yX8_root : MethodName := ⟨RX8, "root", "(J)J"⟩
abbrev wsX8_root : List Cond := Cond.code yX8_root cX8_root 8 (some .long) :: sq_all
theorem hdX8_root : yX8_root.cls ≠ "java/lang/invoke/MethodHandle" ∧ yX8_root.cls ≠ "java/lang/invoke/VarHandle" ∧ (parseMethodDescriptor yX8_root.desc).map (fun d => d.parameters.length) = some 1 := by decide +kernel
abbrev cX8_rounded : ByteArray := prog_1_method_16_code
def yX8_rounded : MethodName := ⟨RX8, "rounded", "(JJ)J"⟩
abbrev wsX8_rounded : List Cond := Cond.code yX8_rounded cX8_rounded 4 (some .long) :: sq_all
theorem hdX8_rounded : yX8_rounded.cls ≠ "java/lang/invoke/MethodHandle" ∧ yX8_rounded.cls ≠ "java/lang/invoke/VarHandle" ∧ (parseMethodDescriptor yX8_rounded.desc).map (fun d => d.parameters.length) = some 2 := by decide +kernel
abbrev cX8_sort : ByteArray := prog_1_method_11_code
def yX8_sort : MethodName := ⟨RX8, "sort", "(I)I"⟩
abbrev wsX8_sort : List Cond := Cond.code yX8_sort cX8_sort 2 (some .int) :: sq_all
theorem hdX8_sort : yX8_sort.cls ≠ "java/lang/invoke/MethodHandle" ∧ yX8_sort.cls ≠ "java/lang/invoke/VarHandle" ∧ (parseMethodDescriptor yX8_sort.desc).map (fun d => d.parameters.length) = some 1 := by decide +kernel
abbrev cX8_stroke : ByteArray := prog_1_method_9_code
def yX8_stroke : MethodName := ⟨RX8, "stroke", "()I"⟩
abbrev wsX8_stroke : List Cond := Cond.code yX8_stroke cX8_stroke 3 (some .int) :: sq_all
theorem hdX8_stroke : yX8_stroke.cls ≠ "java/lang/invoke/MethodHandle" ∧ yX8_stroke.cls ≠ "java/lang/invoke/VarHandle" ∧ (parseMethodDescriptor yX8_stroke.desc).map (fun d => d.parameters.length) = some 0 := by decide +kernel
abbrev cX8_walked : ByteArray := prog_1_method_13_code
def yX8_walked : MethodName := ⟨RX8, "walked", "()I"⟩
abbrev wsX8_walked : List Cond := Cond.code yX8_walked cX8_walked 1 (some .int) :: sq_all
theorem hdX8_walked : yX8_walked.cls ≠ "java/lang/invoke/MethodHandle" ∧ yX8_walked.cls ≠ "java/lang/invoke/VarHandle" ∧ (parseMethodDescriptor yX8_walked.desc).map (fun d => d.parameters.length) = some 0 := by decide +kernel
abbrev cX9_across : ByteArray := prog_11_method_19_code
def yX9_across : MethodName := ⟨RX9, "across", "(IZ)J"⟩
abbrev wsX9_across : List Cond := Cond.code yX9_across cX9_across 3 (some .long) :: sq_all
theorem hdX9_across : yX9_across.cls ≠ "java/lang/invoke/MethodHandle" ∧ yX9_across.cls ≠ "java/lang/invoke/VarHandle" ∧ (parseMethodDescriptor yX9_across.desc).map (fun d => d.parameters.length) = some 2 := by decide +kernel
abbrev cX9_addRun : ByteArray := prog_11_method_26_code
def yX9_addRun : MethodName := ⟨RX9, "addRun", "(JJ)V"⟩
abbrev wsX9_addRun : List Cond := Cond.code yX9_addRun cX9_addRun 5 none :: sq_all
theorem hdX9_addRun : yX9_addRun.cls ≠ "java/lang/invoke/MethodHandle" ∧ yX9_addRun.cls ≠ "java/lang/invoke/VarHandle" ∧ (parseMethodDescriptor yX9_addRun.desc).map (fun d => d.parameters.length) = some 2 := by decide +kernel
abbrev cX9_along : ByteArray := prog_11_method_20_code
def yX9_along : MethodName := ⟨RX9, "along", "(IZ)J"⟩
abbrev wsX9_along : List Cond := Cond.code yX9_along cX9_along 3 (some .long) :: sq_all
theorem hdX9_along : yX9_along.cls ≠ "java/lang/invoke/MethodHandle" ∧ yX9_along.cls ≠ "java/lang/invoke/VarHandle" ∧ (parseMethodDescriptor yX9_along.desc).map (fun d => d.parameters.length) = some 2 := by decide +kernel
abbrev cX9_begin : ByteArray := prog_11_method_14_code
def yX9_begin : MethodName := ⟨RX9, "begin", "(I)Z"⟩
abbrev wsX9_begin : List Cond := Cond.code yX9_begin cX9_begin 2 (some .boolean) :: sq_all
theorem hdX9_begin : yX9_begin.cls ≠ "java/lang/invoke/MethodHandle" ∧ yX9_begin.cls ≠ "java/lang/invoke/VarHandle" ∧ (parseMethodDescriptor yX9_begin.desc).map (fun d => d.parameters.length) = some 1 := by decide +kernel
abbrev cX9_capBeginning : ByteArray := prog_11_method_23_code
def yX9_capBeginning : MethodName := ⟨RX9, "capBeginning", "()V"⟩
abbrev wsX9_capBeginning : List Cond := Cond.code yX9_capBeginning cX9_capBeginning 9 none :: sq_all
theorem hdX9_capBeginning : yX9_capBeginning.cls ≠ "java/lang/invoke/MethodHandle" ∧ yX9_capBeginning.cls ≠ "java/lang/invoke/VarHandle" ∧ (parseMethodDescriptor yX9_capBeginning.desc).map (fun d => d.parameters.length) = some 0 := by decide +kernel
abbrev cX9_capEnd : ByteArray := prog_11_method_22_code
def yX9_capEnd : MethodName := ⟨RX9, "capEnd", "(I)V"⟩
abbrev wsX9_capEnd : List Cond := Cond.code yX9_capEnd cX9_capEnd 10 none :: sq_all
theorem hdX9_capEnd : yX9_capEnd.cls ≠ "java/lang/invoke/MethodHandle" ∧ yX9_capEnd.cls ≠ "java/lang/invoke/VarHandle" ∧ (parseMethodDescriptor yX9_capEnd.desc).map (fun d => d.parameters.length) = some 1 := by decide +kernel
abbrev cX9_clear : ByteArray := prog_11_method_7_code
def yX9_clear : MethodName := ⟨RX9, "clear", "()I"⟩
abbrev wsX9_clear : List Cond := Cond.code yX9_clear cX9_clear 2 (some .int) :: sq_all
theorem hdX9_clear : yX9_clear.cls ≠ "java/lang/invoke/MethodHandle" ∧ yX9_clear.cls ≠ "java/lang/invoke/VarHandle" ∧ (parseMethodDescriptor yX9_clear.desc).map (fun d => d.parameters.length) = some 0 := by decide +kernel
abbrev cX9_close : ByteArray := prog_11_method_6_code
def yX9_close : MethodName := ⟨RX9, "close", "()I"⟩
abbrev wsX9_close : List Cond := Cond.code yX9_close cX9_close 1 (some .int) :: sq_all
theorem hdX9_close : yX9_close.cls ≠ "java/lang/invoke/MethodHandle" ∧ yX9_close.cls ≠ "java/lang/invoke/VarHandle" ∧ (parseMethodDescriptor yX9_close.desc).map (fun d => d.parameters.length) = some 0 := by decide +kernel
abbrev cX9_collect : ByteArray := prog_11_method_34_code
def yX9_collect : MethodName := ⟨RX9, "collect", "(I)I"⟩
abbrev wsX9_collect : List Cond := Cond.code yX9_collect cX9_collect 3 (some .int) :: sq_all
theorem hdX9_collect : yX9_collect.cls ≠ "java/lang/invoke/MethodHandle" ∧ yX9_collect.cls ≠ "java/lang/invoke/VarHandle" ∧ (parseMethodDescriptor yX9_collect.desc).map (fun d => d.parameters.length) = some 1 := by decide +kernel
abbrev cX9_corner : ByteArray := prog_11_method_39_code
def yX9_corner : MethodName := ⟨RX9, "corner", "(III)I"⟩
abbrev wsX9_corner : List Cond := Cond.code yX9_corner cX9_corner 4 (some .int) :: sq_all
theorem hdX9_corner : yX9_corner.cls ≠ "java/lang/invoke/MethodHandle" ∧ yX9_corner.cls ≠ "java/lang/invoke/VarHandle" ∧ (parseMethodDescriptor yX9_corner.desc).map (fun d => d.parameters.length) = some 3 := by decide +kernel
abbrev cX9_dashes : ByteArray := prog_11_method_10_code
def yX9_dashes : MethodName := ⟨RX9, "dashes", "(II)Z"⟩
abbrev wsX9_dashes : List Cond := Cond.code yX9_dashes cX9_dashes 6 (some .boolean) :: sq_all
theorem hdX9_dashes : yX9_dashes.cls ≠ "java/lang/invoke/MethodHandle" ∧ yX9_dashes.cls ≠ "java/lang/invoke/VarHandle" ∧ (parseMethodDescriptor yX9_dashes.desc).map (fun d => d.parameters.length) = some 2 := by decide +kernel
abbrev cX9_dx : ByteArray := prog_11_method_16_code
def yX9_dx : MethodName := ⟨RX9, "dx", "(I)J"⟩
abbrev wsX9_dx : List Cond := Cond.code yX9_dx cX9_dx 2 (some .long) :: sq_all
theorem hdX9_dx : yX9_dx.cls ≠ "java/lang/invoke/MethodHandle" ∧ yX9_dx.cls ≠ "java/lang/invoke/VarHandle" ∧ (parseMethodDescriptor yX9_dx.desc).map (fun d => d.parameters.length) = some 1 := by decide +kernel
abbrev cX9_dy : ByteArray := prog_11_method_17_code
def yX9_dy : MethodName := ⟨RX9, "dy", "(I)J"⟩
abbrev wsX9_dy : List Cond := Cond.code yX9_dy cX9_dy 2 (some .long) :: sq_all
theorem hdX9_dy : yX9_dy.cls ≠ "java/lang/invoke/MethodHandle" ∧ yX9_dy.cls ≠ "java/lang/invoke/VarHandle" ∧ (parseMethodDescriptor yX9_dy.desc).map (fun d => d.parameters.length) = some 1 := by decide +kernel
abbrev cX9_end : ByteArray := prog_11_method_15_code
def yX9_end : MethodName := ⟨RX9, "end", "()V"⟩
abbrev wsX9_end : List Cond := Cond.code yX9_end cX9_end 1 none :: sq_all
theorem hdX9_end : yX9_end.cls ≠ "java/lang/invoke/MethodHandle" ∧ yX9_end.cls ≠ "java/lang/invoke/VarHandle" ∧ (parseMethodDescriptor yX9_end.desc).map (fun d => d.parameters.length) = some 0 := by decide +kernel
abbrev cX9_endDash : ByteArray := prog_11_method_31_code
def yX9_endDash : MethodName := ⟨RX9, "endDash", "()V"⟩
abbrev wsX9_endDash : List Cond := Cond.code yX9_endDash cX9_endDash 1 none :: sq_all
theorem hdX9_endDash : yX9_endDash.cls ≠ "java/lang/invoke/MethodHandle" ∧ yX9_endDash.cls ≠ "java/lang/invoke/VarHandle" ∧ (parseMethodDescriptor yX9_endDash.desc).map (fun d => d.parameters.length) = some 0 := by decide +kernel
abbrev cX9_init : ByteArray := prog_11_method_1_code
def yX9_init : MethodName := ⟨RX9, "<init>", "()V"⟩
abbrev wsX9_init : List Cond := Cond.code yX9_init cX9_init 1 none :: sq_all
theorem hdX9_init : yX9_init.cls ≠ "java/lang/invoke/MethodHandle" ∧ yX9_init.cls ≠ "java/lang/invoke/VarHandle" ∧ (parseMethodDescriptor yX9_init.desc).map (fun d => d.parameters.length) = some 0 := by decide +kernel
abbrev cX9_isFar : ByteArray := prog_11_method_2_code
def yX9_isFar : MethodName := ⟨RX9, "isFar", "(J)Z"⟩
abbrev wsX9_isFar : List Cond := Cond.code yX9_isFar cX9_isFar 2 (some .boolean) :: sq_all
theorem hdX9_isFar : yX9_isFar.cls ≠ "java/lang/invoke/MethodHandle" ∧ yX9_isFar.cls ≠ "java/lang/invoke/VarHandle" ∧ (parseMethodDescriptor yX9_isFar.desc).map (fun d => d.parameters.length) = some 1 := by decide +kernel
abbrev cX9_length : ByteArray := prog_11_method_9_code
def yX9_length : MethodName := ⟨RX9, "length", "(II)Z"⟩
abbrev wsX9_length : List Cond := Cond.code yX9_length cX9_length 3 (some .boolean) :: sq_all
theorem hdX9_length : yX9_length.cls ≠ "java/lang/invoke/MethodHandle" ∧ yX9_length.cls ≠ "java/lang/invoke/VarHandle" ∧ (parseMethodDescriptor yX9_length.desc).map (fun d => d.parameters.length) = some 2 := by decide +kernel
abbrev cX9_lengthOf : ByteArray := prog_11_method_18_code
def yX9_lengthOf : MethodName := ⟨RX9, "lengthOf", "(JJ)J"⟩
abbrev wsX9_lengthOf : List Cond := Cond.code yX9_lengthOf cX9_lengthOf 4 (some .long) :: sq_all
theorem hdX9_lengthOf : yX9_lengthOf.cls ≠ "java/lang/invoke/MethodHandle" ∧ yX9_lengthOf.cls ≠ "java/lang/invoke/VarHandle" ∧ (parseMethodDescriptor yX9_lengthOf.desc).map (fun d => d.parameters.length) = some 2 := by decide +kernel
abbrev cX9_line : ByteArray := prog_11_method_5_code
def yX9_line : MethodName := ⟨RX9, "line", "(II)I"⟩
abbrev wsX9_line : List Cond := Cond.code yX9_line cX9_line 3 (some .int) :: sq_all
theorem hdX9_line : yX9_line.cls ≠ "java/lang/invoke/MethodHandle" ∧ yX9_line.cls ≠ "java/lang/invoke/VarHandle" ∧ (parseMethodDescriptor yX9_line.desc).map (fun d => d.parameters.length) = some 2 := by decide +kernel
abbrev cX9_make : ByteArray := prog_11_method_25_code
def yX9_make : MethodName := ⟨RX9, "make", "(Z)V"⟩
abbrev wsX9_make : List Cond := Cond.code yX9_make cX9_make 4 none :: sq_all
theorem hdX9_make : yX9_make.cls ≠ "java/lang/invoke/MethodHandle" ∧ yX9_make.cls ≠ "java/lang/invoke/VarHandle" ∧ (parseMethodDescriptor yX9_make.desc).map (fun d => d.parameters.length) = some 1 := by decide +kernel
abbrev cX9_meet : ByteArray := prog_11_method_24_code
def yX9_meet : MethodName := ⟨RX9, "meet", "(II)V"⟩
abbrev wsX9_meet : List Cond := Cond.code yX9_meet cX9_meet 26 none :: sq_all
theorem hdX9_meet : yX9_meet.cls ≠ "java/lang/invoke/MethodHandle" ∧ yX9_meet.cls ≠ "java/lang/invoke/VarHandle" ∧ (parseMethodDescriptor yX9_meet.desc).map (fun d => d.parameters.length) = some 2 := by decide +kernel
abbrev cX9_move : ByteArray := prog_11_method_4_code
def yX9_move : MethodName := ⟨RX9, "move", "(II)I"⟩
abbrev wsX9_move : List Cond := Cond.code yX9_move cX9_move 4 (some .int) :: sq_all
theorem hdX9_move : yX9_move.cls ≠ "java/lang/invoke/MethodHandle" ∧ yX9_move.cls ≠ "java/lang/invoke/VarHandle" ∧ (parseMethodDescriptor yX9_move.desc).map (fun d => d.parameters.length) = some 2 := by decide +kernel
abbrev cX9_next : ByteArray := prog_11_method_28_code
def yX9_next : MethodName := ⟨RX9, "next", "()V"⟩
abbrev wsX9_next : List Cond := Cond.code yX9_next cX9_next 1 none :: sq_all
theorem hdX9_next : yX9_next.cls ≠ "java/lang/invoke/MethodHandle" ∧ yX9_next.cls ≠ "java/lang/invoke/VarHandle" ∧ (parseMethodDescriptor yX9_next.desc).map (fun d => d.parameters.length) = some 0 := by decide +kernel
abbrev cX9_pass : ByteArray := prog_11_method_27_code
def yX9_pass : MethodName := ⟨RX9, "pass", "(JJ)V"⟩
abbrev wsX9_pass : List Cond := Cond.code yX9_pass cX9_pass 5 none :: sq_all
theorem hdX9_pass : yX9_pass.cls ≠ "java/lang/invoke/MethodHandle" ∧ yX9_pass.cls ≠ "java/lang/invoke/VarHandle" ∧ (parseMethodDescriptor yX9_pass.desc).map (fun d => d.parameters.length) = some 2 := by decide +kernel
abbrev cX9_pen : ByteArray := prog_11_method_8_code
def yX9_pen : MethodName := ⟨RX9, "pen", "(IIII)Z"⟩
abbrev wsX9_pen : List Cond := Cond.code yX9_pen cX9_pen 5 (some .boolean) :: sq_all
theorem hdX9_pen : yX9_pen.cls ≠ "java/lang/invoke/MethodHandle" ∧ yX9_pen.cls ≠ "java/lang/invoke/VarHandle" ∧ (parseMethodDescriptor yX9_pen.desc).map (fun d => d.parameters.length) = some 4 := by decide +kernel
abbrev cX9_pieces : ByteArray := prog_11_method_37_code
def yX9_pieces : MethodName := ⟨RX9, "pieces", "()I"⟩
abbrev wsX9_pieces : List Cond := Cond.code yX9_pieces cX9_pieces 1 (some .int) :: sq_all
theorem hdX9_pieces : yX9_pieces.cls ≠ "java/lang/invoke/MethodHandle" ∧ yX9_pieces.cls ≠ "java/lang/invoke/VarHandle" ∧ (parseMethodDescriptor yX9_pieces.desc).map (fun d => d.parameters.length) = some 0 := by decide +kernel
abbrev cX9_put : ByteArray := prog_11_method_3_code
def yX9_put : MethodName := ⟨RX9, "put", "(III)I"⟩
abbrev wsX9_put : List Cond := Cond.code yX9_put cX9_put 4 (some .int) :: sq_all
theorem hdX9_put : yX9_put.cls ≠ "java/lang/invoke/MethodHandle" ∧ yX9_put.cls ≠ "java/lang/invoke/VarHandle" ∧ (parseMethodDescriptor yX9_put.desc).map (fun d => d.parameters.length) = some 3 := by decide +kernel
abbrev cX9_root : ByteArray := prog_11_method_12_code
def yX9_root : MethodName := ⟨RX9, "root", "(J)J"⟩
abbrev wsX9_root : List Cond := Cond.code yX9_root cX9_root 8 (some .long) :: sq_all
theorem hdX9_root : yX9_root.cls ≠ "java/lang/invoke/MethodHandle" ∧ yX9_root.cls ≠ "java/lang/invoke/VarHandle" ∧ (parseMethodDescriptor yX9_root.desc).map (fun d => d.parameters.length) = some 1 := by decide +kernel
abbrev cX9_rounded : ByteArray := prog_11_method_11_code
def yX9_rounded : MethodName := ⟨RX9, "rounded", "(JJ)J"⟩
abbrev wsX9_rounded : List Cond := Cond.code yX9_rounded cX9_rounded 4 (some .long) :: sq_all
theorem hdX9_rounded : yX9_rounded.cls ≠ "java/lang/invoke/MethodHandle" ∧ yX9_rounded.cls ≠ "java/lang/invoke/VarHandle" ∧ (parseMethodDescriptor yX9_rounded.desc).map (fun d => d.parameters.length) = some 2 := by decide +kernel
abbrev cX9_setCorner : ByteArray := prog_11_method_13_code
def yX9_setCorner : MethodName := ⟨RX9, "setCorner", "(IJJ)V"⟩
abbrev wsX9_setCorner : List Cond := Cond.code yX9_setCorner cX9_setCorner 6 none :: sq_all
theorem hdX9_setCorner : yX9_setCorner.cls ≠ "java/lang/invoke/MethodHandle" ∧ yX9_setCorner.cls ≠ "java/lang/invoke/VarHandle" ∧ (parseMethodDescriptor yX9_setCorner.desc).map (fun d => d.parameters.length) = some 3 := by decide +kernel
abbrev cX9_side : ByteArray := prog_11_method_21_code
def yX9_side : MethodName := ⟨RX9, "side", "(I)V"⟩
abbrev wsX9_side : List Cond := Cond.code yX9_side cX9_side 6 none :: sq_all
theorem hdX9_side : yX9_side.cls ≠ "java/lang/invoke/MethodHandle" ∧ yX9_side.cls ≠ "java/lang/invoke/VarHandle" ∧ (parseMethodDescriptor yX9_side.desc).map (fun d => d.parameters.length) = some 1 := by decide +kernel
abbrev cX9_sort : ByteArray := prog_11_method_38_code
def yX9_sort : MethodName := ⟨RX9, "sort", "(I)I"⟩
abbrev wsX9_sort : List Cond := Cond.code yX9_sort cX9_sort 2 (some .int) :: sq_all
theorem hdX9_sort : yX9_sort.cls ≠ "java/lang/invoke/MethodHandle" ∧ yX9_sort.cls ≠ "java/lang/invoke/VarHandle" ∧ (parseMethodDescriptor yX9_sort.desc).map (fun d => d.parameters.length) = some 1 := by decide +kernel
abbrev cX9_start : ByteArray := prog_11_method_30_code
def yX9_start : MethodName := ⟨RX9, "start", "()V"⟩
abbrev wsX9_start : List Cond := Cond.code yX9_start cX9_start 5 none :: sq_all
theorem hdX9_start : yX9_start.cls ≠ "java/lang/invoke/MethodHandle" ∧ yX9_start.cls ≠ "java/lang/invoke/VarHandle" ∧ (parseMethodDescriptor yX9_start.desc).map (fun d => d.parameters.length) = some 0 := by decide +kernel
abbrev cX9_stroke : ByteArray := prog_11_method_36_code
def yX9_stroke : MethodName := ⟨RX9, "stroke", "()I"⟩
abbrev wsX9_stroke : List Cond := Cond.code yX9_stroke cX9_stroke 3 (some .int) :: sq_all
theorem hdX9_stroke : yX9_stroke.cls ≠ "java/lang/invoke/MethodHandle" ∧ yX9_stroke.cls ≠ "java/lang/invoke/VarHandle" ∧ (parseMethodDescriptor yX9_stroke.desc).map (fun d => d.parameters.length) = some 0 := by decide +kernel
abbrev cX9_strokeRow : ByteArray := prog_11_method_35_code
def yX9_strokeRow : MethodName := ⟨RX9, "strokeRow", "(Z)V"⟩
abbrev wsX9_strokeRow : List Cond := Cond.code yX9_strokeRow cX9_strokeRow 3 none :: sq_all
theorem hdX9_strokeRow : yX9_strokeRow.cls ≠ "java/lang/invoke/MethodHandle" ∧ yX9_strokeRow.cls ≠ "java/lang/invoke/VarHandle" ∧ (parseMethodDescriptor yX9_strokeRow.desc).map (fun d => d.parameters.length) = some 1 := by decide +kernel
abbrev cX9_take : ByteArray := prog_11_method_29_code
def yX9_take : MethodName := ⟨RX9, "take", "()V"⟩
abbrev wsX9_take : List Cond := Cond.code yX9_take cX9_take 1 none :: sq_all
theorem hdX9_take : yX9_take.cls ≠ "java/lang/invoke/MethodHandle" ∧ yX9_take.cls ≠ "java/lang/invoke/VarHandle" ∧ (parseMethodDescriptor yX9_take.desc).map (fun d => d.parameters.length) = some 0 := by decide +kernel
abbrev cX9_walk : ByteArray := prog_11_method_32_code
def yX9_walk : MethodName := ⟨RX9, "walk", "(JJJJ)V"⟩
abbrev wsX9_walk : List Cond := Cond.code yX9_walk cX9_walk 21 none :: sq_all
theorem hdX9_walk : yX9_walk.cls ≠ "java/lang/invoke/MethodHandle" ∧ yX9_walk.cls ≠ "java/lang/invoke/VarHandle" ∧ (parseMethodDescriptor yX9_walk.desc).map (fun d => d.parameters.length) = some 4 := by decide +kernel
abbrev cX9_walkRow : ByteArray := prog_11_method_33_code
def yX9_walkRow : MethodName := ⟨RX9, "walkRow", "(Z)V"⟩
abbrev wsX9_walkRow : List Cond := Cond.code yX9_walkRow cX9_walkRow 3 none :: sq_all
theorem hdX9_walkRow : yX9_walkRow.cls ≠ "java/lang/invoke/MethodHandle" ∧ yX9_walkRow.cls ≠ "java/lang/invoke/VarHandle" ∧ (parseMethodDescriptor yX9_walkRow.desc).map (fun d => d.parameters.length) = some 1 := by decide +kernel
abbrev cX9_walked : ByteArray := prog_11_method_40_code
def yX9_walked : MethodName := ⟨RX9, "walked", "()I"⟩
abbrev wsX9_walked : List Cond := Cond.code yX9_walked cX9_walked 1 (some .int) :: sq_all
theorem hdX9_walked : yX9_walked.cls ≠ "java/lang/invoke/MethodHandle" ∧ yX9_walked.cls ≠ "java/lang/invoke/VarHandle" ∧ (parseMethodDescriptor yX9_walked.desc).map (fun d => d.parameters.length) = some 0 := by decide +kernel
theorem sq_gi {y : MethodName} {cc : ByteArray} {n : Nat} {ret : Option FieldType} (h : Cond.code y cc n ret ∈ sq_all) : GoodIn sq_all (Cond.code y cc n ret :: sq_all) := fun w hw => (List.mem_cons.mp hw).elim (fun e => by rw [e]; exact ⟨h, good_of_word (List.mem_filter.mp h).2⟩) (fun h => ⟨h, good_of_word (List.mem_filter.mp h).2⟩)
