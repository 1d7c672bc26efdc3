section
-- ===== PART A: goes FIRST, ahead of the names: the tables' words, and 'selects' of the private methods out of them =====
/-- a private method of a class that the tables say can be made, by its rows of tables_1 -/
def lw_okq (q : MethodName × Nat) : Prop := (q.1.cls ≠ "java/lang/invoke/MethodHandle" ∧ q.1.cls ≠ "java/lang/invoke/VarHandle") ∧ Cond.instantiable q.1.cls q.2 ∈ tables_1 ∧ Cond.privateMethod q.1 ∈ tables_1 ∧ Cond.instanceMethod q.1 ∈ tables_1
theorem lw_p0 : lw_okq (⟨"StrokePieces$LineRows", "put", "(II)I"⟩, 6) := ⟨⟨by decide +kernel, by decide +kernel⟩, List.mem_of_getElem? (i := 21) (by decide +kernel), List.mem_of_getElem? (i := 285) (by decide +kernel), List.mem_of_getElem? (i := 286) (by decide +kernel)⟩
theorem lw_p1 : lw_okq (⟨"StrokePieces$Pattern", "passOffset", "(IJ)V"⟩, 6) := ⟨⟨by decide +kernel, by decide +kernel⟩, List.mem_of_getElem? (i := 74) (by decide +kernel), List.mem_of_getElem? (i := 348) (by decide +kernel), List.mem_of_getElem? (i := 349) (by decide +kernel)⟩
theorem lw_p2 : lw_okq (⟨"StrokePieces$Walk", "countOne", "()V"⟩, 9) := ⟨⟨by decide +kernel, by decide +kernel⟩, List.mem_of_getElem? (i := 193) (by decide +kernel), List.mem_of_getElem? (i := 408) (by decide +kernel), List.mem_of_getElem? (i := 409) (by decide +kernel)⟩
theorem lw_p3 : lw_okq (⟨"StrokePieces$Run", "inside", "(I)I"⟩, 4) := ⟨⟨by decide +kernel, by decide +kernel⟩, List.mem_of_getElem? (i := 201) (by decide +kernel), List.mem_of_getElem? (i := 420) (by decide +kernel), List.mem_of_getElem? (i := 421) (by decide +kernel)⟩
theorem lw_p4 : lw_okq (⟨"StrokePieces$Walk", "beginDash", "(II)V"⟩, 9) := ⟨⟨by decide +kernel, by decide +kernel⟩, List.mem_of_getElem? (i := 193) (by decide +kernel), List.mem_of_getElem? (i := 428) (by decide +kernel), List.mem_of_getElem? (i := 429) (by decide +kernel)⟩
theorem lw_p5 : lw_okq (⟨"StrokePieces$Walk", "pass", "()V"⟩, 9) := ⟨⟨by decide +kernel, by decide +kernel⟩, List.mem_of_getElem? (i := 193) (by decide +kernel), List.mem_of_getElem? (i := 445) (by decide +kernel), List.mem_of_getElem? (i := 446) (by decide +kernel)⟩
theorem lw_p6 : lw_okq (⟨"StrokePieces$Outline", "capBeginning", "()V"⟩, 4) := ⟨⟨by decide +kernel, by decide +kernel⟩, List.mem_of_getElem? (i := 121) (by decide +kernel), List.mem_of_getElem? (i := 486) (by decide +kernel), List.mem_of_getElem? (i := 487) (by decide +kernel)⟩
theorem lw_p7 : lw_okq (⟨"StrokePieces$Outline", "side", "()V"⟩, 4) := ⟨⟨by decide +kernel, by decide +kernel⟩, List.mem_of_getElem? (i := 121) (by decide +kernel), List.mem_of_getElem? (i := 501) (by decide +kernel), List.mem_of_getElem? (i := 502) (by decide +kernel)⟩
theorem lw_p8 : lw_okq (⟨"StrokePieces$Outline", "joinBoth", "()V"⟩, 4) := ⟨⟨by decide +kernel, by decide +kernel⟩, List.mem_of_getElem? (i := 121) (by decide +kernel), List.mem_of_getElem? (i := 505) (by decide +kernel), List.mem_of_getElem? (i := 506) (by decide +kernel)⟩
theorem lw_p9 : lw_okq (⟨"StrokePieces$Outline", "goOn", "()V"⟩, 4) := ⟨⟨by decide +kernel, by decide +kernel⟩, List.mem_of_getElem? (i := 121) (by decide +kernel), List.mem_of_getElem? (i := 521) (by decide +kernel), List.mem_of_getElem? (i := 522) (by decide +kernel)⟩
theorem lw_p10 : lw_okq (⟨"StrokePieces$Outline", "capEnd", "()V"⟩, 4) := ⟨⟨by decide +kernel, by decide +kernel⟩, List.mem_of_getElem? (i := 121) (by decide +kernel), List.mem_of_getElem? (i := 525) (by decide +kernel), List.mem_of_getElem? (i := 526) (by decide +kernel)⟩
theorem lw_p11 : lw_okq (⟨"StrokePieces$Walk", "takeNext", "()V"⟩, 9) := ⟨⟨by decide +kernel, by decide +kernel⟩, List.mem_of_getElem? (i := 193) (by decide +kernel), List.mem_of_getElem? (i := 529) (by decide +kernel), List.mem_of_getElem? (i := 530) (by decide +kernel)⟩
theorem lw_p12 : lw_okq (⟨"StrokePiecesModel", "put", "(III)I"⟩, 28) := ⟨⟨by decide +kernel, by decide +kernel⟩, List.mem_of_getElem? (i := 579) (by decide +kernel), List.mem_of_getElem? (i := 683) (by decide +kernel), List.mem_of_getElem? (i := 684) (by decide +kernel)⟩
theorem lw_p13 : lw_okq (⟨"StrokePiecesModel", "collect", "(I)I"⟩, 28) := ⟨⟨by decide +kernel, by decide +kernel⟩, List.mem_of_getElem? (i := 579) (by decide +kernel), List.mem_of_getElem? (i := 718) (by decide +kernel), List.mem_of_getElem? (i := 719) (by decide +kernel)⟩
theorem lw_p14 : lw_okq (⟨"StrokePiecesModel", "strokeRow", "(Z)V"⟩, 28) := ⟨⟨by decide +kernel, by decide +kernel⟩, List.mem_of_getElem? (i := 579) (by decide +kernel), List.mem_of_getElem? (i := 722) (by decide +kernel), List.mem_of_getElem? (i := 723) (by decide +kernel)⟩
theorem lw_p15 : lw_okq (⟨"StrokePiecesModel", "walkRow", "(Z)V"⟩, 28) := ⟨⟨by decide +kernel, by decide +kernel⟩, List.mem_of_getElem? (i := 579) (by decide +kernel), List.mem_of_getElem? (i := 726) (by decide +kernel), List.mem_of_getElem? (i := 727) (by decide +kernel)⟩
def lw_privs_1 : List (MethodName × Nat) := [(⟨"StrokePieces$LineRows", "put", "(II)I"⟩, 6), (⟨"StrokePieces$Pattern", "passOffset", "(IJ)V"⟩, 6), (⟨"StrokePieces$Walk", "countOne", "()V"⟩, 9), (⟨"StrokePieces$Run", "inside", "(I)I"⟩, 4), (⟨"StrokePieces$Walk", "beginDash", "(II)V"⟩, 9), (⟨"StrokePieces$Walk", "pass", "()V"⟩, 9), (⟨"StrokePieces$Outline", "capBeginning", "()V"⟩, 4), (⟨"StrokePieces$Outline", "side", "()V"⟩, 4), (⟨"StrokePieces$Outline", "joinBoth", "()V"⟩, 4), (⟨"StrokePieces$Outline", "goOn", "()V"⟩, 4), (⟨"StrokePieces$Outline", "capEnd", "()V"⟩, 4), (⟨"StrokePieces$Walk", "takeNext", "()V"⟩, 9), (⟨"StrokePiecesModel", "put", "(III)I"⟩, 28), (⟨"StrokePiecesModel", "collect", "(I)I"⟩, 28), (⟨"StrokePiecesModel", "strokeRow", "(Z)V"⟩, 28), (⟨"StrokePiecesModel", "walkRow", "(Z)V"⟩, 28)]
theorem lw_r1 : ∀ q ∈ lw_privs_1, lw_okq q := List.forall_mem_cons.mpr ⟨lw_p0, List.forall_mem_cons.mpr ⟨lw_p1, List.forall_mem_cons.mpr ⟨lw_p2, List.forall_mem_cons.mpr ⟨lw_p3, List.forall_mem_cons.mpr ⟨lw_p4, List.forall_mem_cons.mpr ⟨lw_p5, List.forall_mem_cons.mpr ⟨lw_p6, List.forall_mem_cons.mpr ⟨lw_p7, List.forall_mem_cons.mpr ⟨lw_p8, List.forall_mem_cons.mpr ⟨lw_p9, List.forall_mem_cons.mpr ⟨lw_p10, List.forall_mem_cons.mpr ⟨lw_p11, List.forall_mem_cons.mpr ⟨lw_p12, List.forall_mem_cons.mpr ⟨lw_p13, List.forall_mem_cons.mpr ⟨lw_p14, List.forall_mem_cons.mpr ⟨lw_p15, fun _ h => absurd h List.not_mem_nil⟩⟩⟩⟩⟩⟩⟩⟩⟩⟩⟩⟩⟩⟩⟩⟩
theorem lw_p16 : lw_okq (⟨"StrokePiecesModel", "start", "()V"⟩, 28) := ⟨⟨by decide +kernel, by decide +kernel⟩, List.mem_of_getElem? (i := 579) (by decide +kernel), List.mem_of_getElem? (i := 730) (by decide +kernel), List.mem_of_getElem? (i := 731) (by decide +kernel)⟩
theorem lw_p17 : lw_okq (⟨"StrokePiecesModel", "next", "()V"⟩, 28) := ⟨⟨by decide +kernel, by decide +kernel⟩, List.mem_of_getElem? (i := 579) (by decide +kernel), List.mem_of_getElem? (i := 735) (by decide +kernel), List.mem_of_getElem? (i := 736) (by decide +kernel)⟩
theorem lw_p18 : lw_okq (⟨"StrokePiecesModel", "take", "()V"⟩, 28) := ⟨⟨by decide +kernel, by decide +kernel⟩, List.mem_of_getElem? (i := 579) (by decide +kernel), List.mem_of_getElem? (i := 739) (by decide +kernel), List.mem_of_getElem? (i := 740) (by decide +kernel)⟩
theorem lw_p19 : lw_okq (⟨"StrokePiecesModel", "pass", "(JJ)V"⟩, 28) := ⟨⟨by decide +kernel, by decide +kernel⟩, List.mem_of_getElem? (i := 579) (by decide +kernel), List.mem_of_getElem? (i := 743) (by decide +kernel), List.mem_of_getElem? (i := 744) (by decide +kernel)⟩
theorem lw_p20 : lw_okq (⟨"StrokePiecesModel", "addRun", "(JJ)V"⟩, 28) := ⟨⟨by decide +kernel, by decide +kernel⟩, List.mem_of_getElem? (i := 579) (by decide +kernel), List.mem_of_getElem? (i := 747) (by decide +kernel), List.mem_of_getElem? (i := 748) (by decide +kernel)⟩
theorem lw_p21 : lw_okq (⟨"StrokePiecesModel", "walk", "(JJJJ)V"⟩, 28) := ⟨⟨by decide +kernel, by decide +kernel⟩, List.mem_of_getElem? (i := 579) (by decide +kernel), List.mem_of_getElem? (i := 751) (by decide +kernel), List.mem_of_getElem? (i := 752) (by decide +kernel)⟩
theorem lw_p22 : lw_okq (⟨"StrokePiecesModel", "endDash", "()V"⟩, 28) := ⟨⟨by decide +kernel, by decide +kernel⟩, List.mem_of_getElem? (i := 579) (by decide +kernel), List.mem_of_getElem? (i := 766) (by decide +kernel), List.mem_of_getElem? (i := 767) (by decide +kernel)⟩
theorem lw_p23 : lw_okq (⟨"StrokePiecesModel", "make", "(Z)V"⟩, 28) := ⟨⟨by decide +kernel, by decide +kernel⟩, List.mem_of_getElem? (i := 579) (by decide +kernel), List.mem_of_getElem? (i := 770) (by decide +kernel), List.mem_of_getElem? (i := 771) (by decide +kernel)⟩
theorem lw_p24 : lw_okq (⟨"StrokePiecesModel", "capBeginning", "()V"⟩, 28) := ⟨⟨by decide +kernel, by decide +kernel⟩, List.mem_of_getElem? (i := 579) (by decide +kernel), List.mem_of_getElem? (i := 774) (by decide +kernel), List.mem_of_getElem? (i := 775) (by decide +kernel)⟩
theorem lw_p25 : lw_okq (⟨"StrokePiecesModel", "begin", "(I)Z"⟩, 28) := ⟨⟨by decide +kernel, by decide +kernel⟩, List.mem_of_getElem? (i := 579) (by decide +kernel), List.mem_of_getElem? (i := 778) (by decide +kernel), List.mem_of_getElem? (i := 779) (by decide +kernel)⟩
theorem lw_p26 : lw_okq (⟨"StrokePiecesModel", "across", "(IZ)J"⟩, 28) := ⟨⟨by decide +kernel, by decide +kernel⟩, List.mem_of_getElem? (i := 579) (by decide +kernel), List.mem_of_getElem? (i := 782) (by decide +kernel), List.mem_of_getElem? (i := 783) (by decide +kernel)⟩
theorem lw_p27 : lw_okq (⟨"StrokePiecesModel", "dx", "(I)J"⟩, 28) := ⟨⟨by decide +kernel, by decide +kernel⟩, List.mem_of_getElem? (i := 579) (by decide +kernel), List.mem_of_getElem? (i := 786) (by decide +kernel), List.mem_of_getElem? (i := 787) (by decide +kernel)⟩
theorem lw_p28 : lw_okq (⟨"StrokePiecesModel", "dy", "(I)J"⟩, 28) := ⟨⟨by decide +kernel, by decide +kernel⟩, List.mem_of_getElem? (i := 579) (by decide +kernel), List.mem_of_getElem? (i := 790) (by decide +kernel), List.mem_of_getElem? (i := 791) (by decide +kernel)⟩
theorem lw_p29 : lw_okq (⟨"StrokePiecesModel", "setCorner", "(IJJ)V"⟩, 28) := ⟨⟨by decide +kernel, by decide +kernel⟩, List.mem_of_getElem? (i := 579) (by decide +kernel), List.mem_of_getElem? (i := 794) (by decide +kernel), List.mem_of_getElem? (i := 795) (by decide +kernel)⟩
theorem lw_p30 : lw_okq (⟨"StrokePiecesModel", "along", "(IZ)J"⟩, 28) := ⟨⟨by decide +kernel, by decide +kernel⟩, List.mem_of_getElem? (i := 579) (by decide +kernel), List.mem_of_getElem? (i := 798) (by decide +kernel), List.mem_of_getElem? (i := 799) (by decide +kernel)⟩
theorem lw_p31 : lw_okq (⟨"StrokePiecesModel", "end", "()V"⟩, 28) := ⟨⟨by decide +kernel, by decide +kernel⟩, List.mem_of_getElem? (i := 579) (by decide +kernel), List.mem_of_getElem? (i := 802) (by decide +kernel), List.mem_of_getElem? (i := 803) (by decide +kernel)⟩
def lw_privs_2 : List (MethodName × Nat) := [(⟨"StrokePiecesModel", "start", "()V"⟩, 28), (⟨"StrokePiecesModel", "next", "()V"⟩, 28), (⟨"StrokePiecesModel", "take", "()V"⟩, 28), (⟨"StrokePiecesModel", "pass", "(JJ)V"⟩, 28), (⟨"StrokePiecesModel", "addRun", "(JJ)V"⟩, 28), (⟨"StrokePiecesModel", "walk", "(JJJJ)V"⟩, 28), (⟨"StrokePiecesModel", "endDash", "()V"⟩, 28), (⟨"StrokePiecesModel", "make", "(Z)V"⟩, 28), (⟨"StrokePiecesModel", "capBeginning", "()V"⟩, 28), (⟨"StrokePiecesModel", "begin", "(I)Z"⟩, 28), (⟨"StrokePiecesModel", "across", "(IZ)J"⟩, 28), (⟨"StrokePiecesModel", "dx", "(I)J"⟩, 28), (⟨"StrokePiecesModel", "dy", "(I)J"⟩, 28), (⟨"StrokePiecesModel", "setCorner", "(IJJ)V"⟩, 28), (⟨"StrokePiecesModel", "along", "(IZ)J"⟩, 28), (⟨"StrokePiecesModel", "end", "()V"⟩, 28)]
theorem lw_r2 : ∀ q ∈ lw_privs_2, lw_okq q := List.forall_mem_cons.mpr ⟨lw_p16, List.forall_mem_cons.mpr ⟨lw_p17, List.forall_mem_cons.mpr ⟨lw_p18, List.forall_mem_cons.mpr ⟨lw_p19, List.forall_mem_cons.mpr ⟨lw_p20, List.forall_mem_cons.mpr ⟨lw_p21, List.forall_mem_cons.mpr ⟨lw_p22, List.forall_mem_cons.mpr ⟨lw_p23, List.forall_mem_cons.mpr ⟨lw_p24, List.forall_mem_cons.mpr ⟨lw_p25, List.forall_mem_cons.mpr ⟨lw_p26, List.forall_mem_cons.mpr ⟨lw_p27, List.forall_mem_cons.mpr ⟨lw_p28, List.forall_mem_cons.mpr ⟨lw_p29, List.forall_mem_cons.mpr ⟨lw_p30, List.forall_mem_cons.mpr ⟨lw_p31, fun _ h => absurd h List.not_mem_nil⟩⟩⟩⟩⟩⟩⟩⟩⟩⟩⟩⟩⟩⟩⟩⟩
theorem lw_p32 : lw_okq (⟨"StrokePiecesModel", "side", "(I)V"⟩, 28) := ⟨⟨by decide +kernel, by decide +kernel⟩, List.mem_of_getElem? (i := 579) (by decide +kernel), List.mem_of_getElem? (i := 806) (by decide +kernel), List.mem_of_getElem? (i := 807) (by decide +kernel)⟩
theorem lw_p33 : lw_okq (⟨"StrokePiecesModel", "meet", "(II)V"⟩, 28) := ⟨⟨by decide +kernel, by decide +kernel⟩, List.mem_of_getElem? (i := 579) (by decide +kernel), List.mem_of_getElem? (i := 810) (by decide +kernel), List.mem_of_getElem? (i := 811) (by decide +kernel)⟩
theorem lw_p34 : lw_okq (⟨"StrokePiecesModel", "capEnd", "(I)V"⟩, 28) := ⟨⟨by decide +kernel, by decide +kernel⟩, List.mem_of_getElem? (i := 579) (by decide +kernel), List.mem_of_getElem? (i := 817) (by decide +kernel), List.mem_of_getElem? (i := 818) (by decide +kernel)⟩
def lw_privs_3 : List (MethodName × Nat) := [(⟨"StrokePiecesModel", "side", "(I)V"⟩, 28), (⟨"StrokePiecesModel", "meet", "(II)V"⟩, 28), (⟨"StrokePiecesModel", "capEnd", "(I)V"⟩, 28)]
theorem lw_r3 : ∀ q ∈ lw_privs_3, lw_okq q := List.forall_mem_cons.mpr ⟨lw_p32, List.forall_mem_cons.mpr ⟨lw_p33, List.forall_mem_cons.mpr ⟨lw_p34, fun _ h => absurd h List.not_mem_nil⟩⟩⟩
def lw_privs : List (MethodName × Nat) := lw_privs_1 ++ (lw_privs_2 ++ (lw_privs_3))
def lw_tbl : List Cond := k2_sels lw_privs ++ tables_1
theorem lw_privs_ok : ∀ q ∈ lw_privs, lw_okq q := by
  show ∀ q ∈ lw_privs_1 ++ (lw_privs_2 ++ (lw_privs_3)), lw_okq q
  exact List.forall_mem_append.mpr ⟨lw_r1, List.forall_mem_append.mpr ⟨lw_r2, lw_r3⟩⟩
end
section
/-! names, by my own program wip/gen/names.py -/
def RX0 : String := "StrokePieces$LineRows"
def RX1 : String := "StrokePieces$Outline"
def RX2 : String := "StrokePieces$Pattern"
def RX3 : String := "StrokePieces$Pieces"
def RX4 : String := "StrokePieces$Run"
def RX5 : String := "StrokePieces$Segment"
def RX6 : String := "StrokePieces$Tip"
def RX7 : String := "StrokePieces$Walk"
def RX8 : String := "StrokePieces"
def RX9 : String := "StrokePiecesModel"
def RJ9 : String := "java/lang/Math"
def RL : String := "StrokePiecesLaw"
def TX0 : u_T := fun k => match k with
  | 0 => ("StrokePieces$LineRows", "x", "[I", true)
  | 1 => ("StrokePieces$LineRows", "y", "[I", true)
  | 2 => ("StrokePieces$LineRows", "first", "[I", true)
  | 3 => ("StrokePieces$LineRows", "closed", "[Z", true)
  | 4 => ("StrokePieces$LineRows", "points", "I", false)
  | _ => ("StrokePieces$LineRows", "count", "I", false)
def tyX0 : Nat → FieldType := fun k => match k with
  | 0 => .array .int
  | 1 => .array .int
  | 2 => .array .int
  | 3 => .array .boolean
  | 4 => .int
  | _ => .int
abbrev wsX00 : List Cond := u_ws RX0 TX0 6
theorem nmX0 : ∀ a, a < 6 → ∀ b, b < 6 → a ≠ b → (TX0 a).2.1 ≠ (TX0 b).2.1 := by decide +kernel
theorem tyX0_ok : ∀ k, k < 6 → parseFieldDescriptor (TX0 k).2.2.1 = some (tyX0 k) := by decide +kernel
def TX1 : u_T := fun k => match k with
  | 0 => ("StrokePieces$Outline", "tip", "LStrokePieces$Tip;", true)
  | 1 => ("StrokePieces$Outline", "made", "LStrokePieces$Pieces;", true)
  | 2 => ("StrokePieces$Outline", "here", "LStrokePieces$Segment;", false)
  | _ => ("StrokePieces$Outline", "next", "LStrokePieces$Segment;", false)
def tyX1 : Nat → FieldType := fun k => match k with
  | 0 => .object "StrokePieces$Tip"
  | 1 => .object "StrokePieces$Pieces"
  | 2 => .object "StrokePieces$Segment"
  | _ => .object "StrokePieces$Segment"
abbrev wsX10 : List Cond := u_ws RX1 TX1 4
theorem nmX1 : ∀ a, a < 4 → ∀ b, b < 4 → a ≠ b → (TX1 a).2.1 ≠ (TX1 b).2.1 := by decide +kernel
theorem tyX1_ok : ∀ k, k < 4 → parseFieldDescriptor (TX1 k).2.2.1 = some (tyX1 k) := by decide +kernel
def TX2 : u_T := fun k => match k with
  | 0 => ("StrokePieces$Pattern", "given", "[I", true)
  | 1 => ("StrokePieces$Pattern", "used", "[I", true)
  | 2 => ("StrokePieces$Pattern", "count", "I", false)
  | 3 => ("StrokePieces$Pattern", "firstAt", "I", false)
  | 4 => ("StrokePieces$Pattern", "firstLeft", "J", false)
  | _ => ("StrokePieces$Pattern", "firstGap", "Z", false)
def tyX2 : Nat → FieldType := fun k => match k with
  | 0 => .array .int
  | 1 => .array .int
  | 2 => .int
  | 3 => .int
  | 4 => .long
  | _ => .boolean
abbrev wsX20 : List Cond := u_ws RX2 TX2 6
theorem nmX2 : ∀ a, a < 6 → ∀ b, b < 6 → a ≠ b → (TX2 a).2.1 ≠ (TX2 b).2.1 := by decide +kernel
theorem tyX2_ok : ∀ k, k < 6 → parseFieldDescriptor (TX2 k).2.2.1 = some (tyX2 k) := by decide +kernel
def TX3 : u_T := fun k => match k with
  | 0 => ("StrokePieces$Pieces", "kinds", "[I", true)
  | 1 => ("StrokePieces$Pieces", "places", "[I", true)
  | 2 => ("StrokePieces$Pieces", "count", "I", false)
  | 3 => ("StrokePieces$Pieces", "corners", "I", false)
  | _ => ("StrokePieces$Pieces", "state", "I", false)
def tyX3 : Nat → FieldType := fun k => match k with
  | 0 => .array .int
  | 1 => .array .int
  | 2 => .int
  | 3 => .int
  | _ => .int
abbrev wsX30 : List Cond := u_ws RX3 TX3 5
theorem nmX3 : ∀ a, a < 5 → ∀ b, b < 5 → a ≠ b → (TX3 a).2.1 ≠ (TX3 b).2.1 := by decide +kernel
theorem tyX3_ok : ∀ k, k < 5 → parseFieldDescriptor (TX3 k).2.2.1 = some (tyX3 k) := by decide +kernel
def TX4 : u_T := fun k => match k with
  | 0 => ("StrokePieces$Run", "x", "[I", true)
  | 1 => ("StrokePieces$Run", "y", "[I", true)
  | 2 => ("StrokePieces$Run", "count", "I", false)
  | _ => ("StrokePieces$Run", "ring", "Z", false)
def tyX4 : Nat → FieldType := fun k => match k with
  | 0 => .array .int
  | 1 => .array .int
  | 2 => .int
  | _ => .boolean
abbrev wsX40 : List Cond := u_ws RX4 TX4 4
theorem nmX4 : ∀ a, a < 4 → ∀ b, b < 4 → a ≠ b → (TX4 a).2.1 ≠ (TX4 b).2.1 := by decide +kernel
theorem tyX4_ok : ∀ k, k < 4 → parseFieldDescriptor (TX4 k).2.2.1 = some (tyX4 k) := by decide +kernel
def TX5 : u_T := fun k => match k with
  | 0 => ("StrokePieces$Segment", "ax", "J", false)
  | 1 => ("StrokePieces$Segment", "ay", "J", false)
  | 2 => ("StrokePieces$Segment", "bx", "J", false)
  | 3 => ("StrokePieces$Segment", "by", "J", false)
  | 4 => ("StrokePieces$Segment", "dx", "J", false)
  | 5 => ("StrokePieces$Segment", "dy", "J", false)
  | 6 => ("StrokePieces$Segment", "size", "J", false)
  | 7 => ("StrokePieces$Segment", "nx", "J", false)
  | 8 => ("StrokePieces$Segment", "ny", "J", false)
  | 9 => ("StrokePieces$Segment", "tx", "J", false)
  | _ => ("StrokePieces$Segment", "ty", "J", false)
def tyX5 : Nat → FieldType := fun k => match k with
  | 0 => .long
  | 1 => .long
  | 2 => .long
  | 3 => .long
  | 4 => .long
  | 5 => .long
  | 6 => .long
  | 7 => .long
  | 8 => .long
  | 9 => .long
  | _ => .long
abbrev wsX50 : List Cond := u_ws RX5 TX5 11
theorem nmX5 : ∀ a, a < 11 → ∀ b, b < 11 → a ≠ b → (TX5 a).2.1 ≠ (TX5 b).2.1 := by decide +kernel
theorem tyX5_ok : ∀ k, k < 11 → parseFieldDescriptor (TX5 k).2.2.1 = some (tyX5 k) := by decide +kernel
def TX6 : u_T := fun k => match k with
  | 0 => ("StrokePieces$Tip", "half", "J", false)
  | 1 => ("StrokePieces$Tip", "caps", "Z", false)
  | 2 => ("StrokePieces$Tip", "bevels", "Z", false)
  | _ => ("StrokePieces$Tip", "bound", "J", false)
def tyX6 : Nat → FieldType := fun k => match k with
  | 0 => .long
  | 1 => .boolean
  | 2 => .boolean
  | _ => .long
abbrev wsX60 : List Cond := u_ws RX6 TX6 4
theorem nmX6 : ∀ a, a < 4 → ∀ b, b < 4 → a ≠ b → (TX6 a).2.1 ≠ (TX6 b).2.1 := by decide +kernel
theorem tyX6_ok : ∀ k, k < 4 → parseFieldDescriptor (TX6 k).2.2.1 = some (tyX6 k) := by decide +kernel
def TX7 : u_T := fun k => match k with
  | 0 => ("StrokePieces$Walk", "pattern", "LStrokePieces$Pattern;", true)
  | 1 => ("StrokePieces$Walk", "outline", "LStrokePieces$Outline;", true)
  | 2 => ("StrokePieces$Walk", "made", "LStrokePieces$Pieces;", true)
  | 3 => ("StrokePieces$Walk", "way", "LStrokePieces$Segment;", true)
  | 4 => ("StrokePieces$Walk", "dash", "LStrokePieces$Run;", true)
  | 5 => ("StrokePieces$Walk", "taken", "I", false)
  | 6 => ("StrokePieces$Walk", "at", "I", false)
  | 7 => ("StrokePieces$Walk", "left", "J", false)
  | _ => ("StrokePieces$Walk", "gap", "Z", false)
def tyX7 : Nat → FieldType := fun k => match k with
  | 0 => .object "StrokePieces$Pattern"
  | 1 => .object "StrokePieces$Outline"
  | 2 => .object "StrokePieces$Pieces"
  | 3 => .object "StrokePieces$Segment"
  | 4 => .object "StrokePieces$Run"
  | 5 => .int
  | 6 => .int
  | 7 => .long
  | _ => .boolean
abbrev wsX70 : List Cond := u_ws RX7 TX7 9
theorem nmX7 : ∀ a, a < 9 → ∀ b, b < 9 → a ≠ b → (TX7 a).2.1 ≠ (TX7 b).2.1 := by decide +kernel
theorem tyX7_ok : ∀ k, k < 9 → parseFieldDescriptor (TX7 k).2.2.1 = some (tyX7 k) := by decide +kernel
def TX8 : u_T := fun k => match k with
  | 0 => ("StrokePieces", "rows", "LStrokePieces$LineRows;", true)
  | 1 => ("StrokePieces", "tip", "LStrokePieces$Tip;", true)
  | 2 => ("StrokePieces", "pattern", "LStrokePieces$Pattern;", true)
  | 3 => ("StrokePieces", "made", "LStrokePieces$Pieces;", true)
  | 4 => ("StrokePieces", "outline", "LStrokePieces$Outline;", true)
  | 5 => ("StrokePieces", "walk", "LStrokePieces$Walk;", true)
  | _ => ("StrokePieces", "run", "LStrokePieces$Run;", true)
def tyX8 : Nat → FieldType := fun k => match k with
  | 0 => .object "StrokePieces$LineRows"
  | 1 => .object "StrokePieces$Tip"
  | 2 => .object "StrokePieces$Pattern"
  | 3 => .object "StrokePieces$Pieces"
  | 4 => .object "StrokePieces$Outline"
  | 5 => .object "StrokePieces$Walk"
  | _ => .object "StrokePieces$Run"
abbrev wsX80 : List Cond := u_ws RX8 TX8 7
theorem nmX8 : ∀ a, a < 7 → ∀ b, b < 7 → a ≠ b → (TX8 a).2.1 ≠ (TX8 b).2.1 := by decide +kernel
theorem tyX8_ok : ∀ k, k < 7 → parseFieldDescriptor (TX8 k).2.2.1 = some (tyX8 k) := by decide +kernel
def TX9 : u_T := fun k => match k with
  | 0 => ("StrokePiecesModel", "xs", "[I", true)
  | 1 => ("StrokePiecesModel", "ys", "[I", true)
  | 2 => ("StrokePiecesModel", "marks", "[B", true)
  | 3 => ("StrokePiecesModel", "points", "I", false)
  | 4 => ("StrokePiecesModel", "latest", "I", false)
  | 5 => ("StrokePiecesModel", "half", "I", false)
  | 6 => ("StrokePiecesModel", "cap", "I", false)
  | 7 => ("StrokePiecesModel", "join", "I", false)
  | 8 => ("StrokePiecesModel", "limit", "J", false)
  | 9 => ("StrokePiecesModel", "lengths", "[I", true)
  | 10 => ("StrokePiecesModel", "dashCount", "I", false)
  | 11 => ("StrokePiecesModel", "offset", "I", false)
  | 12 => ("StrokePiecesModel", "runX", "[J", true)
  | 13 => ("StrokePiecesModel", "runY", "[J", true)
  | 14 => ("StrokePiecesModel", "run", "I", false)
  | 15 => ("StrokePiecesModel", "rowX", "[I", true)
  | 16 => ("StrokePiecesModel", "rowY", "[I", true)
  | 17 => ("StrokePiecesModel", "row", "I", false)
  | 18 => ("StrokePiecesModel", "sorts", "[B", true)
  | 19 => ("StrokePiecesModel", "corners", "[I", true)
  | 20 => ("StrokePiecesModel", "pieces", "I", false)
  | 21 => ("StrokePiecesModel", "trouble", "I", false)
  | 22 => ("StrokePiecesModel", "walked", "I", false)
  | 23 => ("StrokePiecesModel", "taken", "I", false)
  | 24 => ("StrokePiecesModel", "used", "[I", true)
  | 25 => ("StrokePiecesModel", "dash", "I", false)
  | 26 => ("StrokePiecesModel", "gap", "Z", false)
  | _ => ("StrokePiecesModel", "left", "J", false)
def tyX9 : Nat → FieldType := fun k => match k with
  | 0 => .array .int
  | 1 => .array .int
  | 2 => .array .byte
  | 3 => .int
  | 4 => .int
  | 5 => .int
  | 6 => .int
  | 7 => .int
  | 8 => .long
  | 9 => .array .int
  | 10 => .int
  | 11 => .int
  | 12 => .array .long
  | 13 => .array .long
  | 14 => .int
  | 15 => .array .int
  | 16 => .array .int
  | 17 => .int
  | 18 => .array .byte
  | 19 => .array .int
  | 20 => .int
  | 21 => .int
  | 22 => .int
  | 23 => .int
  | 24 => .array .int
  | 25 => .int
  | 26 => .boolean
  | _ => .long
abbrev wsX90 : List Cond := u_ws RX9 TX9 28
theorem nmX9 : ∀ a, a < 28 → ∀ b, b < 28 → a ≠ b → (TX9 a).2.1 ≠ (TX9 b).2.1 := by decide +kernel
theorem tyX9_ok : ∀ k, k < 28 → parseFieldDescriptor (TX9 k).2.2.1 = some (tyX9 k) := by decide +kernel
abbrev vwCl : List vw_C := [(RX0, TX0, 6), (RX1, TX1, 4), (RX2, TX2, 6), (RX3, TX3, 5), (RX4, TX4, 4), (RX5, TX5, 11), (RX6, TX6, 4), (RX7, TX7, 9), (RX8, TX8, 7), (RX9, TX9, 28)]
def sq_all : List Cond := lw_tbl.filter goodWord
abbrev cJ9_floorDiv : ByteArray := prog_12_method_49_code
def yJ9_floorDiv : MethodName := ⟨RJ9, "floorDiv", "(JJ)J"⟩
abbrev wsJ9_floorDiv : List Cond := Cond.code yJ9_floorDiv cJ9_floorDiv 6 (some .long) :: sq_all
theorem hdJ9_floorDiv : yJ9_floorDiv.cls ≠ "java/lang/invoke/MethodHandle" ∧ yJ9_floorDiv.cls ≠ "java/lang/invoke/VarHandle" ∧ (parseMethodDescriptor yJ9_floorDiv.desc).map (fun d => d.parameters.length) = some 2 := by decide +kernel
abbrev cL_law : ByteArray := code
def yL_law : MethodName := ⟨RL, "law", "([I)Z"⟩
abbrev cX0_begin : ByteArray := prog_2_method_3_code
def yX0_begin : MethodName := ⟨RX0, "begin", "(II)I"⟩
abbrev wsX0_begin : List Cond := Cond.code yX0_begin cX0_begin 3 (some .int) :: sq_all
theorem hdX0_begin : yX0_begin.cls ≠ "java/lang/invoke/MethodHandle" ∧ yX0_begin.cls ≠ "java/lang/invoke/VarHandle" ∧ (parseMethodDescriptor yX0_begin.desc).map (fun d => d.parameters.length) = some 2 := by decide +kernel
abbrev cX0_copyTo : ByteArray := prog_2_method_8_code
def yX0_copyTo : MethodName := ⟨RX0, "copyTo", "(LStrokePieces$Run;I)V"⟩
abbrev wsX0_copyTo : List Cond := Cond.code yX0_copyTo cX0_copyTo 6 none :: sq_all
theorem hdX0_copyTo : yX0_copyTo.cls ≠ "java/lang/invoke/MethodHandle" ∧ yX0_copyTo.cls ≠ "java/lang/invoke/VarHandle" ∧ (parseMethodDescriptor yX0_copyTo.desc).map (fun d => d.parameters.length) = some 2 := by decide +kernel
abbrev cX0_count : ByteArray := prog_2_method_2_code
def yX0_count : MethodName := ⟨RX0, "count", "()I"⟩
abbrev wsX0_count : List Cond := Cond.code yX0_count cX0_count 1 (some .int) :: sq_all
theorem hdX0_count : yX0_count.cls ≠ "java/lang/invoke/MethodHandle" ∧ yX0_count.cls ≠ "java/lang/invoke/VarHandle" ∧ (parseMethodDescriptor yX0_count.desc).map (fun d => d.parameters.length) = some 0 := by decide +kernel
abbrev cX0_empty : ByteArray := prog_2_method_7_code
def yX0_empty : MethodName := ⟨RX0, "empty", "()I"⟩
abbrev wsX0_empty : List Cond := Cond.code yX0_empty cX0_empty 2 (some .int) :: sq_all
theorem hdX0_empty : yX0_empty.cls ≠ "java/lang/invoke/MethodHandle" ∧ yX0_empty.cls ≠ "java/lang/invoke/VarHandle" ∧ (parseMethodDescriptor yX0_empty.desc).map (fun d => d.parameters.length) = some 0 := by decide +kernel
abbrev cX0_extend : ByteArray := prog_2_method_4_code
def yX0_extend : MethodName := ⟨RX0, "extend", "(II)I"⟩
abbrev wsX0_extend : List Cond := Cond.code yX0_extend cX0_extend 4 (some .int) :: sq_all
theorem hdX0_extend : yX0_extend.cls ≠ "java/lang/invoke/MethodHandle" ∧ yX0_extend.cls ≠ "java/lang/invoke/VarHandle" ∧ (parseMethodDescriptor yX0_extend.desc).map (fun d => d.parameters.length) = some 2 := by decide +kernel
abbrev cX0_init : ByteArray := prog_2_method_1_code
def yX0_init : MethodName := ⟨RX0, "<init>", "()V"⟩
abbrev wsX0_init : List Cond := Cond.code yX0_init cX0_init 1 none :: sq_all
theorem hdX0_init : yX0_init.cls ≠ "java/lang/invoke/MethodHandle" ∧ yX0_init.cls ≠ "java/lang/invoke/VarHandle" ∧ (parseMethodDescriptor yX0_init.desc).map (fun d => d.parameters.length) = some 0 := by decide +kernel
abbrev cX0_put : ByteArray := prog_2_method_5_code
def yX0_put : MethodName := ⟨RX0, "put", "(II)I"⟩
abbrev wsX0_put : List Cond := Cond.code yX0_put cX0_put 3 (some .int) :: sq_all
theorem hdX0_put : yX0_put.cls ≠ "java/lang/invoke/MethodHandle" ∧ yX0_put.cls ≠ "java/lang/invoke/VarHandle" ∧ (parseMethodDescriptor yX0_put.desc).map (fun d => d.parameters.length) = some 2 := by decide +kernel
abbrev cX0_shut : ByteArray := prog_2_method_6_code
def yX0_shut : MethodName := ⟨RX0, "shut", "()I"⟩
abbrev wsX0_shut : List Cond := Cond.code yX0_shut cX0_shut 2 (some .int) :: sq_all
theorem hdX0_shut : yX0_shut.cls ≠ "java/lang/invoke/MethodHandle" ∧ yX0_shut.cls ≠ "java/lang/invoke/VarHandle" ∧ (parseMethodDescriptor yX0_shut.desc).map (fun d => d.parameters.length) = some 0 := by decide +kernel
abbrev cX1_capBeginning : ByteArray := prog_3_method_5_code
def yX1_capBeginning : MethodName := ⟨RX1, "capBeginning", "()V"⟩
abbrev wsX1_capBeginning : List Cond := Cond.code yX1_capBeginning cX1_capBeginning 1 none :: sq_all
theorem hdX1_capBeginning : yX1_capBeginning.cls ≠ "java/lang/invoke/MethodHandle" ∧ yX1_capBeginning.cls ≠ "java/lang/invoke/VarHandle" ∧ (parseMethodDescriptor yX1_capBeginning.desc).map (fun d => d.parameters.length) = some 0 := by decide +kernel
abbrev cX1_capEnd : ByteArray := prog_3_method_6_code
def yX1_capEnd : MethodName := ⟨RX1, "capEnd", "()V"⟩
abbrev wsX1_capEnd : List Cond := Cond.code yX1_capEnd cX1_capEnd 1 none :: sq_all
theorem hdX1_capEnd : yX1_capEnd.cls ≠ "java/lang/invoke/MethodHandle" ∧ yX1_capEnd.cls ≠ "java/lang/invoke/VarHandle" ∧ (parseMethodDescriptor yX1_capEnd.desc).map (fun d => d.parameters.length) = some 0 := by decide +kernel
abbrev cX1_goOn : ByteArray := prog_3_method_3_code
def yX1_goOn : MethodName := ⟨RX1, "goOn", "()V"⟩
abbrev wsX1_goOn : List Cond := Cond.code yX1_goOn cX1_goOn 2 none :: sq_all
theorem hdX1_goOn : yX1_goOn.cls ≠ "java/lang/invoke/MethodHandle" ∧ yX1_goOn.cls ≠ "java/lang/invoke/VarHandle" ∧ (parseMethodDescriptor yX1_goOn.desc).map (fun d => d.parameters.length) = some 0 := by decide +kernel
abbrev cX1_init : ByteArray := prog_3_method_1_code
def yX1_init : MethodName := ⟨RX1, "<init>", "(LStrokePieces$Tip;LStrokePieces$Pieces;)V"⟩
abbrev wsX1_init : List Cond := Cond.code yX1_init cX1_init 3 none :: sq_all
theorem hdX1_init : yX1_init.cls ≠ "java/lang/invoke/MethodHandle" ∧ yX1_init.cls ≠ "java/lang/invoke/VarHandle" ∧ (parseMethodDescriptor yX1_init.desc).map (fun d => d.parameters.length) = some 2 := by decide +kernel
abbrev cX1_joinBoth : ByteArray := prog_3_method_7_code
def yX1_joinBoth : MethodName := ⟨RX1, "joinBoth", "()V"⟩
abbrev wsX1_joinBoth : List Cond := Cond.code yX1_joinBoth cX1_joinBoth 14 none :: sq_all
theorem hdX1_joinBoth : yX1_joinBoth.cls ≠ "java/lang/invoke/MethodHandle" ∧ yX1_joinBoth.cls ≠ "java/lang/invoke/VarHandle" ∧ (parseMethodDescriptor yX1_joinBoth.desc).map (fun d => d.parameters.length) = some 0 := by decide +kernel
abbrev cX1_make : ByteArray := prog_3_method_2_code
def yX1_make : MethodName := ⟨RX1, "make", "(LStrokePieces$Run;)V"⟩
abbrev wsX1_make : List Cond := Cond.code yX1_make cX1_make 5 none :: sq_all
theorem hdX1_make : yX1_make.cls ≠ "java/lang/invoke/MethodHandle" ∧ yX1_make.cls ≠ "java/lang/invoke/VarHandle" ∧ (parseMethodDescriptor yX1_make.desc).map (fun d => d.parameters.length) = some 1 := by decide +kernel
abbrev cX1_side : ByteArray := prog_3_method_4_code
def yX1_side : MethodName := ⟨RX1, "side", "()V"⟩
abbrev wsX1_side : List Cond := Cond.code yX1_side cX1_side 1 none :: sq_all
theorem hdX1_side : yX1_side.cls ≠ "java/lang/invoke/MethodHandle" ∧ yX1_side.cls ≠ "java/lang/invoke/VarHandle" ∧ (parseMethodDescriptor yX1_side.desc).map (fun d => d.parameters.length) = some 0 := by decide +kernel
abbrev cX2_behind : ByteArray := prog_4_method_9_code
def yX2_behind : MethodName := ⟨RX2, "behind", "(I)I"⟩
abbrev wsX2_behind : List Cond := Cond.code yX2_behind cX2_behind 2 (some .int) :: sq_all
theorem hdX2_behind : yX2_behind.cls ≠ "java/lang/invoke/MethodHandle" ∧ yX2_behind.cls ≠ "java/lang/invoke/VarHandle" ∧ (parseMethodDescriptor yX2_behind.desc).map (fun d => d.parameters.length) = some 1 := by decide +kernel
abbrev cX2_firstAt : ByteArray := prog_4_method_6_code
def yX2_firstAt : MethodName := ⟨RX2, "firstAt", "()I"⟩
abbrev wsX2_firstAt : List Cond := Cond.code yX2_firstAt cX2_firstAt 1 (some .int) :: sq_all
theorem hdX2_firstAt : yX2_firstAt.cls ≠ "java/lang/invoke/MethodHandle" ∧ yX2_firstAt.cls ≠ "java/lang/invoke/VarHandle" ∧ (parseMethodDescriptor yX2_firstAt.desc).map (fun d => d.parameters.length) = some 0 := by decide +kernel
abbrev cX2_firstGap : ByteArray := prog_4_method_8_code
def yX2_firstGap : MethodName := ⟨RX2, "firstGap", "()Z"⟩
abbrev wsX2_firstGap : List Cond := Cond.code yX2_firstGap cX2_firstGap 1 (some .boolean) :: sq_all
theorem hdX2_firstGap : yX2_firstGap.cls ≠ "java/lang/invoke/MethodHandle" ∧ yX2_firstGap.cls ≠ "java/lang/invoke/VarHandle" ∧ (parseMethodDescriptor yX2_firstGap.desc).map (fun d => d.parameters.length) = some 0 := by decide +kernel
abbrev cX2_firstLeft : ByteArray := prog_4_method_7_code
def yX2_firstLeft : MethodName := ⟨RX2, "firstLeft", "()J"⟩
abbrev wsX2_firstLeft : List Cond := Cond.code yX2_firstLeft cX2_firstLeft 1 (some .long) :: sq_all
theorem hdX2_firstLeft : yX2_firstLeft.cls ≠ "java/lang/invoke/MethodHandle" ∧ yX2_firstLeft.cls ≠ "java/lang/invoke/VarHandle" ∧ (parseMethodDescriptor yX2_firstLeft.desc).map (fun d => d.parameters.length) = some 0 := by decide +kernel
abbrev cX2_give : ByteArray := prog_4_method_2_code
def yX2_give : MethodName := ⟨RX2, "give", "(II)Z"⟩
abbrev wsX2_give : List Cond := Cond.code yX2_give cX2_give 3 (some .boolean) :: sq_all
theorem hdX2_give : yX2_give.cls ≠ "java/lang/invoke/MethodHandle" ∧ yX2_give.cls ≠ "java/lang/invoke/VarHandle" ∧ (parseMethodDescriptor yX2_give.desc).map (fun d => d.parameters.length) = some 2 := by decide +kernel
abbrev cX2_init : ByteArray := prog_4_method_1_code
def yX2_init : MethodName := ⟨RX2, "<init>", "()V"⟩
abbrev wsX2_init : List Cond := Cond.code yX2_init cX2_init 1 none :: sq_all
theorem hdX2_init : yX2_init.cls ≠ "java/lang/invoke/MethodHandle" ∧ yX2_init.cls ≠ "java/lang/invoke/VarHandle" ∧ (parseMethodDescriptor yX2_init.desc).map (fun d => d.parameters.length) = some 0 := by decide +kernel
abbrev cX2_isUsed : ByteArray := prog_4_method_5_code
def yX2_isUsed : MethodName := ⟨RX2, "isUsed", "()Z"⟩
abbrev wsX2_isUsed : List Cond := Cond.code yX2_isUsed cX2_isUsed 1 (some .boolean) :: sq_all
theorem hdX2_isUsed : yX2_isUsed.cls ≠ "java/lang/invoke/MethodHandle" ∧ yX2_isUsed.cls ≠ "java/lang/invoke/VarHandle" ∧ (parseMethodDescriptor yX2_isUsed.desc).map (fun d => d.parameters.length) = some 0 := by decide +kernel
abbrev cX2_lengthOf : ByteArray := prog_4_method_10_code
def yX2_lengthOf : MethodName := ⟨RX2, "lengthOf", "(I)J"⟩
abbrev wsX2_lengthOf : List Cond := Cond.code yX2_lengthOf cX2_lengthOf 2 (some .long) :: sq_all
theorem hdX2_lengthOf : yX2_lengthOf.cls ≠ "java/lang/invoke/MethodHandle" ∧ yX2_lengthOf.cls ≠ "java/lang/invoke/VarHandle" ∧ (parseMethodDescriptor yX2_lengthOf.desc).map (fun d => d.parameters.length) = some 1 := by decide +kernel
abbrev cX2_passOffset : ByteArray := prog_4_method_4_code
def yX2_passOffset : MethodName := ⟨RX2, "passOffset", "(IJ)V"⟩
abbrev wsX2_passOffset : List Cond := Cond.code yX2_passOffset cX2_passOffset 9 none :: sq_all
theorem hdX2_passOffset : yX2_passOffset.cls ≠ "java/lang/invoke/MethodHandle" ∧ yX2_passOffset.cls ≠ "java/lang/invoke/VarHandle" ∧ (parseMethodDescriptor yX2_passOffset.desc).map (fun d => d.parameters.length) = some 2 := by decide +kernel
abbrev cX2_use : ByteArray := prog_4_method_3_code
def yX2_use : MethodName := ⟨RX2, "use", "(II)Z"⟩
abbrev wsX2_use : List Cond := Cond.code yX2_use cX2_use 6 (some .boolean) :: sq_all
theorem hdX2_use : yX2_use.cls ≠ "java/lang/invoke/MethodHandle" ∧ yX2_use.cls ≠ "java/lang/invoke/VarHandle" ∧ (parseMethodDescriptor yX2_use.desc).map (fun d => d.parameters.length) = some 2 := by decide +kernel
abbrev cX3_add : ByteArray := prog_5_method_8_code
def yX3_add : MethodName := ⟨RX3, "add", "(JJ)V"⟩
abbrev wsX3_add : List Cond := Cond.code yX3_add cX3_add 6 none :: sq_all
theorem hdX3_add : yX3_add.cls ≠ "java/lang/invoke/MethodHandle" ∧ yX3_add.cls ≠ "java/lang/invoke/VarHandle" ∧ (parseMethodDescriptor yX3_add.desc).map (fun d => d.parameters.length) = some 2 := by decide +kernel
abbrev cX3_count : ByteArray := prog_5_method_5_code
def yX3_count : MethodName := ⟨RX3, "count", "()I"⟩
abbrev wsX3_count : List Cond := Cond.code yX3_count cX3_count 1 (some .int) :: sq_all
theorem hdX3_count : yX3_count.cls ≠ "java/lang/invoke/MethodHandle" ∧ yX3_count.cls ≠ "java/lang/invoke/VarHandle" ∧ (parseMethodDescriptor yX3_count.desc).map (fun d => d.parameters.length) = some 0 := by decide +kernel
abbrev cX3_empty : ByteArray := prog_5_method_2_code
def yX3_empty : MethodName := ⟨RX3, "empty", "()V"⟩
abbrev wsX3_empty : List Cond := Cond.code yX3_empty cX3_empty 1 none :: sq_all
theorem hdX3_empty : yX3_empty.cls ≠ "java/lang/invoke/MethodHandle" ∧ yX3_empty.cls ≠ "java/lang/invoke/VarHandle" ∧ (parseMethodDescriptor yX3_empty.desc).map (fun d => d.parameters.length) = some 0 := by decide +kernel
abbrev cX3_init : ByteArray := prog_5_method_1_code
def yX3_init : MethodName := ⟨RX3, "<init>", "()V"⟩
abbrev wsX3_init : List Cond := Cond.code yX3_init cX3_init 1 none :: sq_all
theorem hdX3_init : yX3_init.cls ≠ "java/lang/invoke/MethodHandle" ∧ yX3_init.cls ≠ "java/lang/invoke/VarHandle" ∧ (parseMethodDescriptor yX3_init.desc).map (fun d => d.parameters.length) = some 0 := by decide +kernel
abbrev cX3_isGoing : ByteArray := prog_5_method_3_code
def yX3_isGoing : MethodName := ⟨RX3, "isGoing", "()Z"⟩
abbrev wsX3_isGoing : List Cond := Cond.code yX3_isGoing cX3_isGoing 1 (some .boolean) :: sq_all
theorem hdX3_isGoing : yX3_isGoing.cls ≠ "java/lang/invoke/MethodHandle" ∧ yX3_isGoing.cls ≠ "java/lang/invoke/VarHandle" ∧ (parseMethodDescriptor yX3_isGoing.desc).map (fun d => d.parameters.length) = some 0 := by decide +kernel
abbrev cX3_kindOf : ByteArray := prog_5_method_9_code
def yX3_kindOf : MethodName := ⟨RX3, "kindOf", "(I)I"⟩
abbrev wsX3_kindOf : List Cond := Cond.code yX3_kindOf cX3_kindOf 2 (some .int) :: sq_all
theorem hdX3_kindOf : yX3_kindOf.cls ≠ "java/lang/invoke/MethodHandle" ∧ yX3_kindOf.cls ≠ "java/lang/invoke/VarHandle" ∧ (parseMethodDescriptor yX3_kindOf.desc).map (fun d => d.parameters.length) = some 1 := by decide +kernel
abbrev cX3_placeOf : ByteArray := prog_5_method_10_code
def yX3_placeOf : MethodName := ⟨RX3, "placeOf", "(III)I"⟩
abbrev wsX3_placeOf : List Cond := Cond.code yX3_placeOf cX3_placeOf 6 (some .int) :: sq_all
theorem hdX3_placeOf : yX3_placeOf.cls ≠ "java/lang/invoke/MethodHandle" ∧ yX3_placeOf.cls ≠ "java/lang/invoke/VarHandle" ∧ (parseMethodDescriptor yX3_placeOf.desc).map (fun d => d.parameters.length) = some 3 := by decide +kernel
abbrev cX3_start : ByteArray := prog_5_method_7_code
def yX3_start : MethodName := ⟨RX3, "start", "(I)V"⟩
abbrev wsX3_start : List Cond := Cond.code yX3_start cX3_start 2 none :: sq_all
theorem hdX3_start : yX3_start.cls ≠ "java/lang/invoke/MethodHandle" ∧ yX3_start.cls ≠ "java/lang/invoke/VarHandle" ∧ (parseMethodDescriptor yX3_start.desc).map (fun d => d.parameters.length) = some 1 := by decide +kernel
abbrev cX3_state : ByteArray := prog_5_method_4_code
def yX3_state : MethodName := ⟨RX3, "state", "()I"⟩
abbrev wsX3_state : List Cond := Cond.code yX3_state cX3_state 1 (some .int) :: sq_all
theorem hdX3_state : yX3_state.cls ≠ "java/lang/invoke/MethodHandle" ∧ yX3_state.cls ≠ "java/lang/invoke/VarHandle" ∧ (parseMethodDescriptor yX3_state.desc).map (fun d => d.parameters.length) = some 0 := by decide +kernel
abbrev cX3_stop : ByteArray := prog_5_method_6_code
def yX3_stop : MethodName := ⟨RX3, "stop", "(I)V"⟩
abbrev wsX3_stop : List Cond := Cond.code yX3_stop cX3_stop 2 none :: sq_all
theorem hdX3_stop : yX3_stop.cls ≠ "java/lang/invoke/MethodHandle" ∧ yX3_stop.cls ≠ "java/lang/invoke/VarHandle" ∧ (parseMethodDescriptor yX3_stop.desc).map (fun d => d.parameters.length) = some 1 := by decide +kernel
abbrev cX4_add : ByteArray := prog_6_method_3_code
def yX4_add : MethodName := ⟨RX4, "add", "(II)V"⟩
abbrev wsX4_add : List Cond := Cond.code yX4_add cX4_add 4 none :: sq_all
theorem hdX4_add : yX4_add.cls ≠ "java/lang/invoke/MethodHandle" ∧ yX4_add.cls ≠ "java/lang/invoke/VarHandle" ∧ (parseMethodDescriptor yX4_add.desc).map (fun d => d.parameters.length) = some 2 := by decide +kernel
abbrev cX4_dropLastLikeFirst : ByteArray := prog_6_method_4_code
def yX4_dropLastLikeFirst : MethodName := ⟨RX4, "dropLastLikeFirst", "()V"⟩
abbrev wsX4_dropLastLikeFirst : List Cond := Cond.code yX4_dropLastLikeFirst cX4_dropLastLikeFirst 2 none :: sq_all
theorem hdX4_dropLastLikeFirst : yX4_dropLastLikeFirst.cls ≠ "java/lang/invoke/MethodHandle" ∧ yX4_dropLastLikeFirst.cls ≠ "java/lang/invoke/VarHandle" ∧ (parseMethodDescriptor yX4_dropLastLikeFirst.desc).map (fun d => d.parameters.length) = some 0 := by decide +kernel
abbrev cX4_init : ByteArray := prog_6_method_1_code
def yX4_init : MethodName := ⟨RX4, "<init>", "()V"⟩
abbrev wsX4_init : List Cond := Cond.code yX4_init cX4_init 1 none :: sq_all
theorem hdX4_init : yX4_init.cls ≠ "java/lang/invoke/MethodHandle" ∧ yX4_init.cls ≠ "java/lang/invoke/VarHandle" ∧ (parseMethodDescriptor yX4_init.desc).map (fun d => d.parameters.length) = some 0 := by decide +kernel
abbrev cX4_inside : ByteArray := prog_6_method_9_code
def yX4_inside : MethodName := ⟨RX4, "inside", "(I)I"⟩
abbrev wsX4_inside : List Cond := Cond.code yX4_inside cX4_inside 2 (some .int) :: sq_all
theorem hdX4_inside : yX4_inside.cls ≠ "java/lang/invoke/MethodHandle" ∧ yX4_inside.cls ≠ "java/lang/invoke/VarHandle" ∧ (parseMethodDescriptor yX4_inside.desc).map (fun d => d.parameters.length) = some 1 := by decide +kernel
abbrev cX4_isRing : ByteArray := prog_6_method_5_code
def yX4_isRing : MethodName := ⟨RX4, "isRing", "()Z"⟩
abbrev wsX4_isRing : List Cond := Cond.code yX4_isRing cX4_isRing 1 (some .boolean) :: sq_all
theorem hdX4_isRing : yX4_isRing.cls ≠ "java/lang/invoke/MethodHandle" ∧ yX4_isRing.cls ≠ "java/lang/invoke/VarHandle" ∧ (parseMethodDescriptor yX4_isRing.desc).map (fun d => d.parameters.length) = some 0 := by decide +kernel
abbrev cX4_segments : ByteArray := prog_6_method_6_code
def yX4_segments : MethodName := ⟨RX4, "segments", "()I"⟩
abbrev wsX4_segments : List Cond := Cond.code yX4_segments cX4_segments 1 (some .int) :: sq_all
theorem hdX4_segments : yX4_segments.cls ≠ "java/lang/invoke/MethodHandle" ∧ yX4_segments.cls ≠ "java/lang/invoke/VarHandle" ∧ (parseMethodDescriptor yX4_segments.desc).map (fun d => d.parameters.length) = some 0 := by decide +kernel
abbrev cX4_start : ByteArray := prog_6_method_2_code
def yX4_start : MethodName := ⟨RX4, "start", "(Z)V"⟩
abbrev wsX4_start : List Cond := Cond.code yX4_start cX4_start 2 none :: sq_all
theorem hdX4_start : yX4_start.cls ≠ "java/lang/invoke/MethodHandle" ∧ yX4_start.cls ≠ "java/lang/invoke/VarHandle" ∧ (parseMethodDescriptor yX4_start.desc).map (fun d => d.parameters.length) = some 1 := by decide +kernel
abbrev cX4_xAt : ByteArray := prog_6_method_7_code
def yX4_xAt : MethodName := ⟨RX4, "xAt", "(I)I"⟩
abbrev wsX4_xAt : List Cond := Cond.code yX4_xAt cX4_xAt 2 (some .int) :: sq_all
theorem hdX4_xAt : yX4_xAt.cls ≠ "java/lang/invoke/MethodHandle" ∧ yX4_xAt.cls ≠ "java/lang/invoke/VarHandle" ∧ (parseMethodDescriptor yX4_xAt.desc).map (fun d => d.parameters.length) = some 1 := by decide +kernel
abbrev cX4_yAt : ByteArray := prog_6_method_8_code
def yX4_yAt : MethodName := ⟨RX4, "yAt", "(I)I"⟩
abbrev wsX4_yAt : List Cond := Cond.code yX4_yAt cX4_yAt 2 (some .int) :: sq_all
theorem hdX4_yAt : yX4_yAt.cls ≠ "java/lang/invoke/MethodHandle" ∧ yX4_yAt.cls ≠ "java/lang/invoke/VarHandle" ∧ (parseMethodDescriptor yX4_yAt.desc).map (fun d => d.parameters.length) = some 1 := by decide +kernel
abbrev cX5_cutX : ByteArray := prog_7_method_4_code
def yX5_cutX : MethodName := ⟨RX5, "cutX", "(J)I"⟩
abbrev wsX5_cutX : List Cond := Cond.code yX5_cutX cX5_cutX 3 (some .int) :: sq_all
theorem hdX5_cutX : yX5_cutX.cls ≠ "java/lang/invoke/MethodHandle" ∧ yX5_cutX.cls ≠ "java/lang/invoke/VarHandle" ∧ (parseMethodDescriptor yX5_cutX.desc).map (fun d => d.parameters.length) = some 1 := by decide +kernel
abbrev cX5_cutY : ByteArray := prog_7_method_5_code
def yX5_cutY : MethodName := ⟨RX5, "cutY", "(J)I"⟩
abbrev wsX5_cutY : List Cond := Cond.code yX5_cutY cX5_cutY 3 (some .int) :: sq_all
theorem hdX5_cutY : yX5_cutY.cls ≠ "java/lang/invoke/MethodHandle" ∧ yX5_cutY.cls ≠ "java/lang/invoke/VarHandle" ∧ (parseMethodDescriptor yX5_cutY.desc).map (fun d => d.parameters.length) = some 1 := by decide +kernel
abbrev cX5_init : ByteArray := prog_7_method_1_code
def yX5_init : MethodName := ⟨RX5, "<init>", "()V"⟩
abbrev wsX5_init : List Cond := Cond.code yX5_init cX5_init 1 none :: sq_all
theorem hdX5_init : yX5_init.cls ≠ "java/lang/invoke/MethodHandle" ∧ yX5_init.cls ≠ "java/lang/invoke/VarHandle" ∧ (parseMethodDescriptor yX5_init.desc).map (fun d => d.parameters.length) = some 0 := by decide +kernel
abbrev cX5_set : ByteArray := prog_7_method_2_code
def yX5_set : MethodName := ⟨RX5, "set", "(LStrokePieces$Run;I)V"⟩
abbrev wsX5_set : List Cond := Cond.code yX5_set cX5_set 3 none :: sq_all
theorem hdX5_set : yX5_set.cls ≠ "java/lang/invoke/MethodHandle" ∧ yX5_set.cls ≠ "java/lang/invoke/VarHandle" ∧ (parseMethodDescriptor yX5_set.desc).map (fun d => d.parameters.length) = some 2 := by decide +kernel
abbrev cX5_widen : ByteArray := prog_7_method_3_code
def yX5_widen : MethodName := ⟨RX5, "widen", "(J)V"⟩
abbrev wsX5_widen : List Cond := Cond.code yX5_widen cX5_widen 3 none :: sq_all
theorem hdX5_widen : yX5_widen.cls ≠ "java/lang/invoke/MethodHandle" ∧ yX5_widen.cls ≠ "java/lang/invoke/VarHandle" ∧ (parseMethodDescriptor yX5_widen.desc).map (fun d => d.parameters.length) = some 1 := by decide +kernel
abbrev cX6_allowsMitre : ByteArray := prog_8_method_6_code
def yX6_allowsMitre : MethodName := ⟨RX6, "allowsMitre", "(J)Z"⟩
abbrev wsX6_allowsMitre : List Cond := Cond.code yX6_allowsMitre cX6_allowsMitre 3 (some .boolean) :: sq_all
theorem hdX6_allowsMitre : yX6_allowsMitre.cls ≠ "java/lang/invoke/MethodHandle" ∧ yX6_allowsMitre.cls ≠ "java/lang/invoke/VarHandle" ∧ (parseMethodDescriptor yX6_allowsMitre.desc).map (fun d => d.parameters.length) = some 1 := by decide +kernel
abbrev cX6_half : ByteArray := prog_8_method_4_code
def yX6_half : MethodName := ⟨RX6, "half", "()J"⟩
abbrev wsX6_half : List Cond := Cond.code yX6_half cX6_half 1 (some .long) :: sq_all
theorem hdX6_half : yX6_half.cls ≠ "java/lang/invoke/MethodHandle" ∧ yX6_half.cls ≠ "java/lang/invoke/VarHandle" ∧ (parseMethodDescriptor yX6_half.desc).map (fun d => d.parameters.length) = some 0 := by decide +kernel
abbrev cX6_hasCaps : ByteArray := prog_8_method_5_code
def yX6_hasCaps : MethodName := ⟨RX6, "hasCaps", "()Z"⟩
abbrev wsX6_hasCaps : List Cond := Cond.code yX6_hasCaps cX6_hasCaps 1 (some .boolean) :: sq_all
theorem hdX6_hasCaps : yX6_hasCaps.cls ≠ "java/lang/invoke/MethodHandle" ∧ yX6_hasCaps.cls ≠ "java/lang/invoke/VarHandle" ∧ (parseMethodDescriptor yX6_hasCaps.desc).map (fun d => d.parameters.length) = some 0 := by decide +kernel
abbrev cX6_init : ByteArray := prog_8_method_1_code
def yX6_init : MethodName := ⟨RX6, "<init>", "()V"⟩
abbrev wsX6_init : List Cond := Cond.code yX6_init cX6_init 1 none :: sq_all
theorem hdX6_init : yX6_init.cls ≠ "java/lang/invoke/MethodHandle" ∧ yX6_init.cls ≠ "java/lang/invoke/VarHandle" ∧ (parseMethodDescriptor yX6_init.desc).map (fun d => d.parameters.length) = some 0 := by decide +kernel
abbrev cX6_leastCosine : ByteArray := prog_8_method_3_code
def yX6_leastCosine : MethodName := ⟨RX6, "leastCosine", "(I)J"⟩
abbrev wsX6_leastCosine : List Cond := Cond.code yX6_leastCosine cX6_leastCosine 3 (some .long) :: sq_all
theorem hdX6_leastCosine : yX6_leastCosine.cls ≠ "java/lang/invoke/MethodHandle" ∧ yX6_leastCosine.cls ≠ "java/lang/invoke/VarHandle" ∧ (parseMethodDescriptor yX6_leastCosine.desc).map (fun d => d.parameters.length) = some 1 := by decide +kernel
abbrev cX6_reach : ByteArray := prog_8_method_7_code
def yX6_reach : MethodName := ⟨RX6, "reach", "(J)J"⟩
abbrev wsX6_reach : List Cond := Cond.code yX6_reach cX6_reach 3 (some .long) :: sq_all
theorem hdX6_reach : yX6_reach.cls ≠ "java/lang/invoke/MethodHandle" ∧ yX6_reach.cls ≠ "java/lang/invoke/VarHandle" ∧ (parseMethodDescriptor yX6_reach.desc).map (fun d => d.parameters.length) = some 1 := by decide +kernel
abbrev cX6_set : ByteArray := prog_8_method_2_code
def yX6_set : MethodName := ⟨RX6, "set", "(IIII)Z"⟩
abbrev wsX6_set : List Cond := Cond.code yX6_set cX6_set 5 (some .boolean) :: sq_all
theorem hdX6_set : yX6_set.cls ≠ "java/lang/invoke/MethodHandle" ∧ yX6_set.cls ≠ "java/lang/invoke/VarHandle" ∧ (parseMethodDescriptor yX6_set.desc).map (fun d => d.parameters.length) = some 4 := by decide +kernel
abbrev cX7_along : ByteArray := prog_9_method_4_code
def yX7_along : MethodName := ⟨RX7, "along", "(LStrokePieces$Run;)V"⟩
abbrev wsX7_along : List Cond := Cond.code yX7_along cX7_along 4 none :: sq_all
theorem hdX7_along : yX7_along.cls ≠ "java/lang/invoke/MethodHandle" ∧ yX7_along.cls ≠ "java/lang/invoke/VarHandle" ∧ (parseMethodDescriptor yX7_along.desc).map (fun d => d.parameters.length) = some 1 := by decide +kernel
abbrev cX7_beginDash : ByteArray := prog_9_method_7_code
def yX7_beginDash : MethodName := ⟨RX7, "beginDash", "(II)V"⟩
abbrev wsX7_beginDash : List Cond := Cond.code yX7_beginDash cX7_beginDash 3 none :: sq_all
theorem hdX7_beginDash : yX7_beginDash.cls ≠ "java/lang/invoke/MethodHandle" ∧ yX7_beginDash.cls ≠ "java/lang/invoke/VarHandle" ∧ (parseMethodDescriptor yX7_beginDash.desc).map (fun d => d.parameters.length) = some 2 := by decide +kernel
abbrev cX7_countOne : ByteArray := prog_9_method_8_code
def yX7_countOne : MethodName := ⟨RX7, "countOne", "()V"⟩
abbrev wsX7_countOne : List Cond := Cond.code yX7_countOne cX7_countOne 1 none :: sq_all
theorem hdX7_countOne : yX7_countOne.cls ≠ "java/lang/invoke/MethodHandle" ∧ yX7_countOne.cls ≠ "java/lang/invoke/VarHandle" ∧ (parseMethodDescriptor yX7_countOne.desc).map (fun d => d.parameters.length) = some 0 := by decide +kernel
abbrev cX7_init : ByteArray := prog_9_method_1_code
def yX7_init : MethodName := ⟨RX7, "<init>", "(LStrokePieces$Pattern;LStrokePieces$Outline;LStrokePieces$Pieces;)V"⟩
abbrev wsX7_init : List Cond := Cond.code yX7_init cX7_init 4 none :: sq_all
theorem hdX7_init : yX7_init.cls ≠ "java/lang/invoke/MethodHandle" ∧ yX7_init.cls ≠ "java/lang/invoke/VarHandle" ∧ (parseMethodDescriptor yX7_init.desc).map (fun d => d.parameters.length) = some 3 := by decide +kernel
abbrev cX7_pass : ByteArray := prog_9_method_5_code
def yX7_pass : MethodName := ⟨RX7, "pass", "()V"⟩
abbrev wsX7_pass : List Cond := Cond.code yX7_pass cX7_pass 6 none :: sq_all
theorem hdX7_pass : yX7_pass.cls ≠ "java/lang/invoke/MethodHandle" ∧ yX7_pass.cls ≠ "java/lang/invoke/VarHandle" ∧ (parseMethodDescriptor yX7_pass.desc).map (fun d => d.parameters.length) = some 0 := by decide +kernel
abbrev cX7_reset : ByteArray := prog_9_method_2_code
def yX7_reset : MethodName := ⟨RX7, "reset", "()V"⟩
abbrev wsX7_reset : List Cond := Cond.code yX7_reset cX7_reset 1 none :: sq_all
theorem hdX7_reset : yX7_reset.cls ≠ "java/lang/invoke/MethodHandle" ∧ yX7_reset.cls ≠ "java/lang/invoke/VarHandle" ∧ (parseMethodDescriptor yX7_reset.desc).map (fun d => d.parameters.length) = some 0 := by decide +kernel
abbrev cX7_takeNext : ByteArray := prog_9_method_6_code
def yX7_takeNext : MethodName := ⟨RX7, "takeNext", "()V"⟩
abbrev wsX7_takeNext : List Cond := Cond.code yX7_takeNext cX7_takeNext 1 none :: sq_all
theorem hdX7_takeNext : yX7_takeNext.cls ≠ "java/lang/invoke/MethodHandle" ∧ yX7_takeNext.cls ≠ "java/lang/invoke/VarHandle" ∧ (parseMethodDescriptor yX7_takeNext.desc).map (fun d => d.parameters.length) = some 0 := by decide +kernel
abbrev cX7_taken : ByteArray := prog_9_method_3_code
def yX7_taken : MethodName := ⟨RX7, "taken", "()I"⟩
abbrev wsX7_taken : List Cond := Cond.code yX7_taken cX7_taken 1 (some .int) :: sq_all
theorem hdX7_taken : yX7_taken.cls ≠ "java/lang/invoke/MethodHandle" ∧ yX7_taken.cls ≠ "java/lang/invoke/VarHandle" ∧ (parseMethodDescriptor yX7_taken.desc).map (fun d => d.parameters.length) = some 0 := by decide +kernel
abbrev cX8_clear : ByteArray := prog_1_method_5_code
def yX8_clear : MethodName := ⟨RX8, "clear", "()I"⟩
abbrev wsX8_clear : List Cond := Cond.code yX8_clear cX8_clear 1 (some .int) :: sq_all
theorem hdX8_clear : yX8_clear.cls ≠ "java/lang/invoke/MethodHandle" ∧ yX8_clear.cls ≠ "java/lang/invoke/VarHandle" ∧ (parseMethodDescriptor yX8_clear.desc).map (fun d => d.parameters.length) = some 0 := by decide +kernel
abbrev cX8_close : ByteArray := prog_1_method_4_code
def yX8_close : MethodName := ⟨RX8, "close", "()I"⟩
abbrev wsX8_close : List Cond := Cond.code yX8_close cX8_close 1 (some .int) :: sq_all
theorem hdX8_close : yX8_close.cls ≠ "java/lang/invoke/MethodHandle" ∧ yX8_close.cls ≠ "java/lang/invoke/VarHandle" ∧ (parseMethodDescriptor yX8_close.desc).map (fun d => d.parameters.length) = some 0 := by decide +kernel
abbrev cX8_corner : ByteArray := prog_1_method_12_code
def yX8_corner : MethodName := ⟨RX8, "corner", "(III)I"⟩
abbrev wsX8_corner : List Cond := Cond.code yX8_corner cX8_corner 4 (some .int) :: sq_all
theorem hdX8_corner : yX8_corner.cls ≠ "java/lang/invoke/MethodHandle" ∧ yX8_corner.cls ≠ "java/lang/invoke/VarHandle" ∧ (parseMethodDescriptor yX8_corner.desc).map (fun d => d.parameters.length) = some 3 := by decide +kernel
abbrev cX8_dashes : ByteArray := prog_1_method_8_code
def yX8_dashes : MethodName := ⟨RX8, "dashes", "(II)Z"⟩
abbrev wsX8_dashes : List Cond := Cond.code yX8_dashes cX8_dashes 3 (some .boolean) :: sq_all
theorem hdX8_dashes : yX8_dashes.cls ≠ "java/lang/invoke/MethodHandle" ∧ yX8_dashes.cls ≠ "java/lang/invoke/VarHandle" ∧ (parseMethodDescriptor yX8_dashes.desc).map (fun d => d.parameters.length) = some 2 := by decide +kernel
abbrev cX8_init : ByteArray := prog_1_method_1_code
def yX8_init : MethodName := ⟨RX8, "<init>", "()V"⟩
abbrev wsX8_init : List Cond := Cond.code yX8_init cX8_init 1 none :: sq_all
theorem hdX8_init : yX8_init.cls ≠ "java/lang/invoke/MethodHandle" ∧ yX8_init.cls ≠ "java/lang/invoke/VarHandle" ∧ (parseMethodDescriptor yX8_init.desc).map (fun d => d.parameters.length) = some 0 := by decide +kernel
abbrev cX8_isPlace : ByteArray := prog_1_method_14_code
def yX8_isPlace : MethodName := ⟨RX8, "isPlace", "(J)Z"⟩
abbrev wsX8_isPlace : List Cond := Cond.code yX8_isPlace cX8_isPlace 2 (some .boolean) :: sq_all
theorem hdX8_isPlace : yX8_isPlace.cls ≠ "java/lang/invoke/MethodHandle" ∧ yX8_isPlace.cls ≠ "java/lang/invoke/VarHandle" ∧ (parseMethodDescriptor yX8_isPlace.desc).map (fun d => d.parameters.length) = some 1 := by decide +kernel
abbrev cX8_isUnits : ByteArray := prog_1_method_15_code
def yX8_isUnits : MethodName := ⟨RX8, "isUnits", "(I)Z"⟩
abbrev wsX8_isUnits : List Cond := Cond.code yX8_isUnits cX8_isUnits 1 (some .boolean) :: sq_all
theorem hdX8_isUnits : yX8_isUnits.cls ≠ "java/lang/invoke/MethodHandle" ∧ yX8_isUnits.cls ≠ "java/lang/invoke/VarHandle" ∧ (parseMethodDescriptor yX8_isUnits.desc).map (fun d => d.parameters.length) = some 1 := by decide +kernel
abbrev cX8_length : ByteArray := prog_1_method_7_code
def yX8_length : MethodName := ⟨RX8, "length", "(II)Z"⟩
abbrev wsX8_length : List Cond := Cond.code yX8_length cX8_length 3 (some .boolean) :: sq_all
theorem hdX8_length : yX8_length.cls ≠ "java/lang/invoke/MethodHandle" ∧ yX8_length.cls ≠ "java/lang/invoke/VarHandle" ∧ (parseMethodDescriptor yX8_length.desc).map (fun d => d.parameters.length) = some 2 := by decide +kernel
abbrev cX8_line : ByteArray := prog_1_method_3_code
def yX8_line : MethodName := ⟨RX8, "line", "(II)I"⟩
abbrev wsX8_line : List Cond := Cond.code yX8_line cX8_line 3 (some .int) :: sq_all
theorem hdX8_line : yX8_line.cls ≠ "java/lang/invoke/MethodHandle" ∧ yX8_line.cls ≠ "java/lang/invoke/VarHandle" ∧ (parseMethodDescriptor yX8_line.desc).map (fun d => d.parameters.length) = some 2 := by decide +kernel
abbrev cX8_move : ByteArray := prog_1_method_2_code
def yX8_move : MethodName := ⟨RX8, "move", "(II)I"⟩
abbrev wsX8_move : List Cond := Cond.code yX8_move cX8_move 3 (some .int) :: sq_all
theorem hdX8_move : yX8_move.cls ≠ "java/lang/invoke/MethodHandle" ∧ yX8_move.cls ≠ "java/lang/invoke/VarHandle" ∧ (parseMethodDescriptor yX8_move.desc).map (fun d => d.parameters.length) = some 2 := by decide +kernel
abbrev cX8_pen : ByteArray := prog_1_method_6_code
def yX8_pen : MethodName := ⟨RX8, "pen", "(IIII)Z"⟩
abbrev wsX8_pen : List Cond := Cond.code yX8_pen cX8_pen 5 (some .boolean) :: sq_all
theorem hdX8_pen : yX8_pen.cls ≠ "java/lang/invoke/MethodHandle" ∧ yX8_pen.cls ≠ "java/lang/invoke/VarHandle" ∧ (parseMethodDescriptor yX8_pen.desc).map (fun d => d.parameters.length) = some 4 := by decide +kernel
abbrev cX8_pieces : ByteArray := prog_1_method_10_code
def yX8_pieces : MethodName := ⟨RX8, "pieces", "()I"⟩
abbrev wsX8_pieces : List Cond := Cond.code yX8_pieces cX8_pieces 1 (some .int) :: sq_all
theorem hdX8_pieces : yX8_pieces.cls ≠ "java/lang/invoke/MethodHandle" ∧ yX8_pieces.cls ≠ "java/lang/invoke/VarHandle" ∧ (parseMethodDescriptor yX8_pieces.desc).map (fun d => d.parameters.length) = some 0 := by decide +kernel
abbrev cX8_root : ByteArray := prog_1_method_17_code
def yX8_root : MethodName := ⟨RX8, "root", "(J)J"⟩
abbrev wsX8_root : List Cond := Cond.code yX8_root cX8_root 8 (some .long) :: sq_all
theorem hdX8_root : yX8_root.cls ≠ "java/lang/invoke/MethodHandle" ∧ yX8_root.cls ≠ "java/lang/invoke/VarHandle" ∧ (parseMethodDescriptor yX8_root.desc).map (fun d => d.parameters.length) = some 1 := by decide +kernel
abbrev cX8_rounded : ByteArray := prog_1_method_16_code
def yX8_rounded : MethodName := ⟨RX8, "rounded", "(JJ)J"⟩
abbrev wsX8_rounded : List Cond := Cond.code yX8_rounded cX8_rounded 4 (some .long) :: sq_all
theorem hdX8_rounded : yX8_rounded.cls ≠ "java/lang/invoke/MethodHandle" ∧ yX8_rounded.cls ≠ "java/lang/invoke/VarHandle" ∧ (parseMethodDescriptor yX8_rounded.desc).map (fun d => d.parameters.length) = some 2 := by decide +kernel
abbrev cX8_sort : ByteArray := prog_1_method_11_code
def yX8_sort : MethodName := ⟨RX8, "sort", "(I)I"⟩
abbrev wsX8_sort : List Cond := Cond.code yX8_sort cX8_sort 2 (some .int) :: sq_all
theorem hdX8_sort : yX8_sort.cls ≠ "java/lang/invoke/MethodHandle" ∧ yX8_sort.cls ≠ "java/lang/invoke/VarHandle" ∧ (parseMethodDescriptor yX8_sort.desc).map (fun d => d.parameters.length) = some 1 := by decide +kernel
abbrev cX8_stroke : ByteArray := prog_1_method_9_code
def yX8_stroke : MethodName := ⟨RX8, "stroke", "()I"⟩
abbrev wsX8_stroke : List Cond := Cond.code yX8_stroke cX8_stroke 3 (some .int) :: sq_all
theorem hdX8_stroke : yX8_stroke.cls ≠ "java/lang/invoke/MethodHandle" ∧ yX8_stroke.cls ≠ "java/lang/invoke/VarHandle" ∧ (parseMethodDescriptor yX8_stroke.desc).map (fun d => d.parameters.length) = some 0 := by decide +kernel
abbrev cX8_walked : ByteArray := prog_1_method_13_code
def yX8_walked : MethodName := ⟨RX8, "walked", "()I"⟩
abbrev wsX8_walked : List Cond := Cond.code yX8_walked cX8_walked 1 (some .int) :: sq_all
theorem hdX8_walked : yX8_walked.cls ≠ "java/lang/invoke/MethodHandle" ∧ yX8_walked.cls ≠ "java/lang/invoke/VarHandle" ∧ (parseMethodDescriptor yX8_walked.desc).map (fun d => d.parameters.length) = some 0 := by decide +kernel
abbrev cX9_across : ByteArray := prog_11_method_19_code
def yX9_across : MethodName := ⟨RX9, "across", "(IZ)J"⟩
abbrev wsX9_across : List Cond := Cond.code yX9_across cX9_across 3 (some .long) :: sq_all
theorem hdX9_across : yX9_across.cls ≠ "java/lang/invoke/MethodHandle" ∧ yX9_across.cls ≠ "java/lang/invoke/VarHandle" ∧ (parseMethodDescriptor yX9_across.desc).map (fun d => d.parameters.length) = some 2 := by decide +kernel
abbrev cX9_addRun : ByteArray := prog_11_method_26_code
def yX9_addRun : MethodName := ⟨RX9, "addRun", "(JJ)V"⟩
abbrev wsX9_addRun : List Cond := Cond.code yX9_addRun cX9_addRun 5 none :: sq_all
theorem hdX9_addRun : yX9_addRun.cls ≠ "java/lang/invoke/MethodHandle" ∧ yX9_addRun.cls ≠ "java/lang/invoke/VarHandle" ∧ (parseMethodDescriptor yX9_addRun.desc).map (fun d => d.parameters.length) = some 2 := by decide +kernel
abbrev cX9_along : ByteArray := prog_11_method_20_code
def yX9_along : MethodName := ⟨RX9, "along", "(IZ)J"⟩
abbrev wsX9_along : List Cond := Cond.code yX9_along cX9_along 3 (some .long) :: sq_all
theorem hdX9_along : yX9_along.cls ≠ "java/lang/invoke/MethodHandle" ∧ yX9_along.cls ≠ "java/lang/invoke/VarHandle" ∧ (parseMethodDescriptor yX9_along.desc).map (fun d => d.parameters.length) = some 2 := by decide +kernel
abbrev cX9_begin : ByteArray := prog_11_method_14_code
def yX9_begin : MethodName := ⟨RX9, "begin", "(I)Z"⟩
abbrev wsX9_begin : List Cond := Cond.code yX9_begin cX9_begin 2 (some .boolean) :: sq_all
theorem hdX9_begin : yX9_begin.cls ≠ "java/lang/invoke/MethodHandle" ∧ yX9_begin.cls ≠ "java/lang/invoke/VarHandle" ∧ (parseMethodDescriptor yX9_begin.desc).map (fun d => d.parameters.length) = some 1 := by decide +kernel
abbrev cX9_capBeginning : ByteArray := prog_11_method_23_code
def yX9_capBeginning : MethodName := ⟨RX9, "capBeginning", "()V"⟩
abbrev wsX9_capBeginning : List Cond := Cond.code yX9_capBeginning cX9_capBeginning 9 none :: sq_all
theorem hdX9_capBeginning : yX9_capBeginning.cls ≠ "java/lang/invoke/MethodHandle" ∧ yX9_capBeginning.cls ≠ "java/lang/invoke/VarHandle" ∧ (parseMethodDescriptor yX9_capBeginning.desc).map (fun d => d.parameters.length) = some 0 := by decide +kernel
abbrev cX9_capEnd : ByteArray := prog_11_method_22_code
def yX9_capEnd : MethodName := ⟨RX9, "capEnd", "(I)V"⟩
abbrev wsX9_capEnd : List Cond := Cond.code yX9_capEnd cX9_capEnd 10 none :: sq_all
theorem hdX9_capEnd : yX9_capEnd.cls ≠ "java/lang/invoke/MethodHandle" ∧ yX9_capEnd.cls ≠ "java/lang/invoke/VarHandle" ∧ (parseMethodDescriptor yX9_capEnd.desc).map (fun d => d.parameters.length) = some 1 := by decide +kernel
abbrev cX9_clear : ByteArray := prog_11_method_7_code
def yX9_clear : MethodName := ⟨RX9, "clear", "()I"⟩
abbrev wsX9_clear : List Cond := Cond.code yX9_clear cX9_clear 2 (some .int) :: sq_all
theorem hdX9_clear : yX9_clear.cls ≠ "java/lang/invoke/MethodHandle" ∧ yX9_clear.cls ≠ "java/lang/invoke/VarHandle" ∧ (parseMethodDescriptor yX9_clear.desc).map (fun d => d.parameters.length) = some 0 := by decide +kernel
abbrev cX9_close : ByteArray := prog_11_method_6_code
def yX9_close : MethodName := ⟨RX9, "close", "()I"⟩
abbrev wsX9_close : List Cond := Cond.code yX9_close cX9_close 1 (some .int) :: sq_all
theorem hdX9_close : yX9_close.cls ≠ "java/lang/invoke/MethodHandle" ∧ yX9_close.cls ≠ "java/lang/invoke/VarHandle" ∧ (parseMethodDescriptor yX9_close.desc).map (fun d => d.parameters.length) = some 0 := by decide +kernel
abbrev cX9_collect : ByteArray := prog_11_method_34_code
def yX9_collect : MethodName := ⟨RX9, "collect", "(I)I"⟩
abbrev wsX9_collect : List Cond := Cond.code yX9_collect cX9_collect 3 (some .int) :: sq_all
theorem hdX9_collect : yX9_collect.cls ≠ "java/lang/invoke/MethodHandle" ∧ yX9_collect.cls ≠ "java/lang/invoke/VarHandle" ∧ (parseMethodDescriptor yX9_collect.desc).map (fun d => d.parameters.length) = some 1 := by decide +kernel
abbrev cX9_corner : ByteArray := prog_11_method_39_code
def yX9_corner : MethodName := ⟨RX9, "corner", "(III)I"⟩
abbrev wsX9_corner : List Cond := Cond.code yX9_corner cX9_corner 4 (some .int) :: sq_all
theorem hdX9_corner : yX9_corner.cls ≠ "java/lang/invoke/MethodHandle" ∧ yX9_corner.cls ≠ "java/lang/invoke/VarHandle" ∧ (parseMethodDescriptor yX9_corner.desc).map (fun d => d.parameters.length) = some 3 := by decide +kernel
abbrev cX9_dashes : ByteArray := prog_11_method_10_code
def yX9_dashes : MethodName := ⟨RX9, "dashes", "(II)Z"⟩
abbrev wsX9_dashes : List Cond := Cond.code yX9_dashes cX9_dashes 6 (some .boolean) :: sq_all
theorem hdX9_dashes : yX9_dashes.cls ≠ "java/lang/invoke/MethodHandle" ∧ yX9_dashes.cls ≠ "java/lang/invoke/VarHandle" ∧ (parseMethodDescriptor yX9_dashes.desc).map (fun d => d.parameters.length) = some 2 := by decide +kernel
abbrev cX9_dx : ByteArray := prog_11_method_16_code
def yX9_dx : MethodName := ⟨RX9, "dx", "(I)J"⟩
abbrev wsX9_dx : List Cond := Cond.code yX9_dx cX9_dx 2 (some .long) :: sq_all
theorem hdX9_dx : yX9_dx.cls ≠ "java/lang/invoke/MethodHandle" ∧ yX9_dx.cls ≠ "java/lang/invoke/VarHandle" ∧ (parseMethodDescriptor yX9_dx.desc).map (fun d => d.parameters.length) = some 1 := by decide +kernel
abbrev cX9_dy : ByteArray := prog_11_method_17_code
def yX9_dy : MethodName := ⟨RX9, "dy", "(I)J"⟩
abbrev wsX9_dy : List Cond := Cond.code yX9_dy cX9_dy 2 (some .long) :: sq_all
theorem hdX9_dy : yX9_dy.cls ≠ "java/lang/invoke/MethodHandle" ∧ yX9_dy.cls ≠ "java/lang/invoke/VarHandle" ∧ (parseMethodDescriptor yX9_dy.desc).map (fun d => d.parameters.length) = some 1 := by decide +kernel
abbrev cX9_end : ByteArray := prog_11_method_15_code
def yX9_end : MethodName := ⟨RX9, "end", "()V"⟩
abbrev wsX9_end : List Cond := Cond.code yX9_end cX9_end 1 none :: sq_all
theorem hdX9_end : yX9_end.cls ≠ "java/lang/invoke/MethodHandle" ∧ yX9_end.cls ≠ "java/lang/invoke/VarHandle" ∧ (parseMethodDescriptor yX9_end.desc).map (fun d => d.parameters.length) = some 0 := by decide +kernel
abbrev cX9_endDash : ByteArray := prog_11_method_31_code
def yX9_endDash : MethodName := ⟨RX9, "endDash", "()V"⟩
abbrev wsX9_endDash : List Cond := Cond.code yX9_endDash cX9_endDash 1 none :: sq_all
theorem hdX9_endDash : yX9_endDash.cls ≠ "java/lang/invoke/MethodHandle" ∧ yX9_endDash.cls ≠ "java/lang/invoke/VarHandle" ∧ (parseMethodDescriptor yX9_endDash.desc).map (fun d => d.parameters.length) = some 0 := by decide +kernel
abbrev cX9_init : ByteArray := prog_11_method_1_code
def yX9_init : MethodName := ⟨RX9, "<init>", "()V"⟩
abbrev wsX9_init : List Cond := Cond.code yX9_init cX9_init 1 none :: sq_all
theorem hdX9_init : yX9_init.cls ≠ "java/lang/invoke/MethodHandle" ∧ yX9_init.cls ≠ "java/lang/invoke/VarHandle" ∧ (parseMethodDescriptor yX9_init.desc).map (fun d => d.parameters.length) = some 0 := by decide +kernel
abbrev cX9_isFar : ByteArray := prog_11_method_2_code
def yX9_isFar : MethodName := ⟨RX9, "isFar", "(J)Z"⟩
abbrev wsX9_isFar : List Cond := Cond.code yX9_isFar cX9_isFar 2 (some .boolean) :: sq_all
theorem hdX9_isFar : yX9_isFar.cls ≠ "java/lang/invoke/MethodHandle" ∧ yX9_isFar.cls ≠ "java/lang/invoke/VarHandle" ∧ (parseMethodDescriptor yX9_isFar.desc).map (fun d => d.parameters.length) = some 1 := by decide +kernel
abbrev cX9_length : ByteArray := prog_11_method_9_code
def yX9_length : MethodName := ⟨RX9, "length", "(II)Z"⟩
abbrev wsX9_length : List Cond := Cond.code yX9_length cX9_length 3 (some .boolean) :: sq_all
theorem hdX9_length : yX9_length.cls ≠ "java/lang/invoke/MethodHandle" ∧ yX9_length.cls ≠ "java/lang/invoke/VarHandle" ∧ (parseMethodDescriptor yX9_length.desc).map (fun d => d.parameters.length) = some 2 := by decide +kernel
abbrev cX9_lengthOf : ByteArray := prog_11_method_18_code
def yX9_lengthOf : MethodName := ⟨RX9, "lengthOf", "(JJ)J"⟩
abbrev wsX9_lengthOf : List Cond := Cond.code yX9_lengthOf cX9_lengthOf 4 (some .long) :: sq_all
theorem hdX9_lengthOf : yX9_lengthOf.cls ≠ "java/lang/invoke/MethodHandle" ∧ yX9_lengthOf.cls ≠ "java/lang/invoke/VarHandle" ∧ (parseMethodDescriptor yX9_lengthOf.desc).map (fun d => d.parameters.length) = some 2 := by decide +kernel
abbrev cX9_line : ByteArray := prog_11_method_5_code
def yX9_line : MethodName := ⟨RX9, "line", "(II)I"⟩
abbrev wsX9_line : List Cond := Cond.code yX9_line cX9_line 3 (some .int) :: sq_all
theorem hdX9_line : yX9_line.cls ≠ "java/lang/invoke/MethodHandle" ∧ yX9_line.cls ≠ "java/lang/invoke/VarHandle" ∧ (parseMethodDescriptor yX9_line.desc).map (fun d => d.parameters.length) = some 2 := by decide +kernel
abbrev cX9_make : ByteArray := prog_11_method_25_code
def yX9_make : MethodName := ⟨RX9, "make", "(Z)V"⟩
abbrev wsX9_make : List Cond := Cond.code yX9_make cX9_make 4 none :: sq_all
theorem hdX9_make : yX9_make.cls ≠ "java/lang/invoke/MethodHandle" ∧ yX9_make.cls ≠ "java/lang/invoke/VarHandle" ∧ (parseMethodDescriptor yX9_make.desc).map (fun d => d.parameters.length) = some 1 := by decide +kernel
abbrev cX9_meet : ByteArray := prog_11_method_24_code
def yX9_meet : MethodName := ⟨RX9, "meet", "(II)V"⟩
abbrev wsX9_meet : List Cond := Cond.code yX9_meet cX9_meet 26 none :: sq_all
theorem hdX9_meet : yX9_meet.cls ≠ "java/lang/invoke/MethodHandle" ∧ yX9_meet.cls ≠ "java/lang/invoke/VarHandle" ∧ (parseMethodDescriptor yX9_meet.desc).map (fun d => d.parameters.length) = some 2 := by decide +kernel
abbrev cX9_move : ByteArray := prog_11_method_4_code
def yX9_move : MethodName := ⟨RX9, "move", "(II)I"⟩
abbrev wsX9_move : List Cond := Cond.code yX9_move cX9_move 4 (some .int) :: sq_all
theorem hdX9_move : yX9_move.cls ≠ "java/lang/invoke/MethodHandle" ∧ yX9_move.cls ≠ "java/lang/invoke/VarHandle" ∧ (parseMethodDescriptor yX9_move.desc).map (fun d => d.parameters.length) = some 2 := by decide +kernel
abbrev cX9_next : ByteArray := prog_11_method_28_code
def yX9_next : MethodName := ⟨RX9, "next", "()V"⟩
abbrev wsX9_next : List Cond := Cond.code yX9_next cX9_next 1 none :: sq_all
theorem hdX9_next : yX9_next.cls ≠ "java/lang/invoke/MethodHandle" ∧ yX9_next.cls ≠ "java/lang/invoke/VarHandle" ∧ (parseMethodDescriptor yX9_next.desc).map (fun d => d.parameters.length) = some 0 := by decide +kernel
abbrev cX9_pass : ByteArray := prog_11_method_27_code
def yX9_pass : MethodName := ⟨RX9, "pass", "(JJ)V"⟩
abbrev wsX9_pass : List Cond := Cond.code yX9_pass cX9_pass 5 none :: sq_all
theorem hdX9_pass : yX9_pass.cls ≠ "java/lang/invoke/MethodHandle" ∧ yX9_pass.cls ≠ "java/lang/invoke/VarHandle" ∧ (parseMethodDescriptor yX9_pass.desc).map (fun d => d.parameters.length) = some 2 := by decide +kernel
abbrev cX9_pen : ByteArray := prog_11_method_8_code
def yX9_pen : MethodName := ⟨RX9, "pen", "(IIII)Z"⟩
abbrev wsX9_pen : List Cond := Cond.code yX9_pen cX9_pen 5 (some .boolean) :: sq_all
theorem hdX9_pen : yX9_pen.cls ≠ "java/lang/invoke/MethodHandle" ∧ yX9_pen.cls ≠ "java/lang/invoke/VarHandle" ∧ (parseMethodDescriptor yX9_pen.desc).map (fun d => d.parameters.length) = some 4 := by decide +kernel
abbrev cX9_pieces : ByteArray := prog_11_method_37_code
def yX9_pieces : MethodName := ⟨RX9, "pieces", "()I"⟩
abbrev wsX9_pieces : List Cond := Cond.code yX9_pieces cX9_pieces 1 (some .int) :: sq_all
theorem hdX9_pieces : yX9_pieces.cls ≠ "java/lang/invoke/MethodHandle" ∧ yX9_pieces.cls ≠ "java/lang/invoke/VarHandle" ∧ (parseMethodDescriptor yX9_pieces.desc).map (fun d => d.parameters.length) = some 0 := by decide +kernel
abbrev cX9_put : ByteArray := prog_11_method_3_code
def yX9_put : MethodName := ⟨RX9, "put", "(III)I"⟩
abbrev wsX9_put : List Cond := Cond.code yX9_put cX9_put 4 (some .int) :: sq_all
theorem hdX9_put : yX9_put.cls ≠ "java/lang/invoke/MethodHandle" ∧ yX9_put.cls ≠ "java/lang/invoke/VarHandle" ∧ (parseMethodDescriptor yX9_put.desc).map (fun d => d.parameters.length) = some 3 := by decide +kernel
abbrev cX9_root : ByteArray := prog_11_method_12_code
def yX9_root : MethodName := ⟨RX9, "root", "(J)J"⟩
abbrev wsX9_root : List Cond := Cond.code yX9_root cX9_root 8 (some .long) :: sq_all
theorem hdX9_root : yX9_root.cls ≠ "java/lang/invoke/MethodHandle" ∧ yX9_root.cls ≠ "java/lang/invoke/VarHandle" ∧ (parseMethodDescriptor yX9_root.desc).map (fun d => d.parameters.length) = some 1 := by decide +kernel
abbrev cX9_rounded : ByteArray := prog_11_method_11_code
def yX9_rounded : MethodName := ⟨RX9, "rounded", "(JJ)J"⟩
abbrev wsX9_rounded : List Cond := Cond.code yX9_rounded cX9_rounded 4 (some .long) :: sq_all
theorem hdX9_rounded : yX9_rounded.cls ≠ "java/lang/invoke/MethodHandle" ∧ yX9_rounded.cls ≠ "java/lang/invoke/VarHandle" ∧ (parseMethodDescriptor yX9_rounded.desc).map (fun d => d.parameters.length) = some 2 := by decide +kernel
abbrev cX9_setCorner : ByteArray := prog_11_method_13_code
def yX9_setCorner : MethodName := ⟨RX9, "setCorner", "(IJJ)V"⟩
abbrev wsX9_setCorner : List Cond := Cond.code yX9_setCorner cX9_setCorner 6 none :: sq_all
theorem hdX9_setCorner : yX9_setCorner.cls ≠ "java/lang/invoke/MethodHandle" ∧ yX9_setCorner.cls ≠ "java/lang/invoke/VarHandle" ∧ (parseMethodDescriptor yX9_setCorner.desc).map (fun d => d.parameters.length) = some 3 := by decide +kernel
abbrev cX9_side : ByteArray := prog_11_method_21_code
def yX9_side : MethodName := ⟨RX9, "side", "(I)V"⟩
abbrev wsX9_side : List Cond := Cond.code yX9_side cX9_side 6 none :: sq_all
theorem hdX9_side : yX9_side.cls ≠ "java/lang/invoke/MethodHandle" ∧ yX9_side.cls ≠ "java/lang/invoke/VarHandle" ∧ (parseMethodDescriptor yX9_side.desc).map (fun d => d.parameters.length) = some 1 := by decide +kernel
abbrev cX9_sort : ByteArray := prog_11_method_38_code
def yX9_sort : MethodName := ⟨RX9, "sort", "(I)I"⟩
abbrev wsX9_sort : List Cond := Cond.code yX9_sort cX9_sort 2 (some .int) :: sq_all
theorem hdX9_sort : yX9_sort.cls ≠ "java/lang/invoke/MethodHandle" ∧ yX9_sort.cls ≠ "java/lang/invoke/VarHandle" ∧ (parseMethodDescriptor yX9_sort.desc).map (fun d => d.parameters.length) = some 1 := by decide +kernel
abbrev cX9_start : ByteArray := prog_11_method_30_code
def yX9_start : MethodName := ⟨RX9, "start", "()V"⟩
abbrev wsX9_start : List Cond := Cond.code yX9_start cX9_start 5 none :: sq_all
theorem hdX9_start : yX9_start.cls ≠ "java/lang/invoke/MethodHandle" ∧ yX9_start.cls ≠ "java/lang/invoke/VarHandle" ∧ (parseMethodDescriptor yX9_start.desc).map (fun d => d.parameters.length) = some 0 := by decide +kernel
abbrev cX9_stroke : ByteArray := prog_11_method_36_code
def yX9_stroke : MethodName := ⟨RX9, "stroke", "()I"⟩
abbrev wsX9_stroke : List Cond := Cond.code yX9_stroke cX9_stroke 3 (some .int) :: sq_all
theorem hdX9_stroke : yX9_stroke.cls ≠ "java/lang/invoke/MethodHandle" ∧ yX9_stroke.cls ≠ "java/lang/invoke/VarHandle" ∧ (parseMethodDescriptor yX9_stroke.desc).map (fun d => d.parameters.length) = some 0 := by decide +kernel
abbrev cX9_strokeRow : ByteArray := prog_11_method_35_code
def yX9_strokeRow : MethodName := ⟨RX9, "strokeRow", "(Z)V"⟩
abbrev wsX9_strokeRow : List Cond := Cond.code yX9_strokeRow cX9_strokeRow 3 none :: sq_all
theorem hdX9_strokeRow : yX9_strokeRow.cls ≠ "java/lang/invoke/MethodHandle" ∧ yX9_strokeRow.cls ≠ "java/lang/invoke/VarHandle" ∧ (parseMethodDescriptor yX9_strokeRow.desc).map (fun d => d.parameters.length) = some 1 := by decide +kernel
abbrev cX9_take : ByteArray := prog_11_method_29_code
def yX9_take : MethodName := ⟨RX9, "take", "()V"⟩
abbrev wsX9_take : List Cond := Cond.code yX9_take cX9_take 1 none :: sq_all
theorem hdX9_take : yX9_take.cls ≠ "java/lang/invoke/MethodHandle" ∧ yX9_take.cls ≠ "java/lang/invoke/VarHandle" ∧ (parseMethodDescriptor yX9_take.desc).map (fun d => d.parameters.length) = some 0 := by decide +kernel
abbrev cX9_walk : ByteArray := prog_11_method_32_code
def yX9_walk : MethodName := ⟨RX9, "walk", "(JJJJ)V"⟩
abbrev wsX9_walk : List Cond := Cond.code yX9_walk cX9_walk 21 none :: sq_all
theorem hdX9_walk : yX9_walk.cls ≠ "java/lang/invoke/MethodHandle" ∧ yX9_walk.cls ≠ "java/lang/invoke/VarHandle" ∧ (parseMethodDescriptor yX9_walk.desc).map (fun d => d.parameters.length) = some 4 := by decide +kernel
abbrev cX9_walkRow : ByteArray := prog_11_method_33_code
def yX9_walkRow : MethodName := ⟨RX9, "walkRow", "(Z)V"⟩
abbrev wsX9_walkRow : List Cond := Cond.code yX9_walkRow cX9_walkRow 3 none :: sq_all
theorem hdX9_walkRow : yX9_walkRow.cls ≠ "java/lang/invoke/MethodHandle" ∧ yX9_walkRow.cls ≠ "java/lang/invoke/VarHandle" ∧ (parseMethodDescriptor yX9_walkRow.desc).map (fun d => d.parameters.length) = some 1 := by decide +kernel
abbrev cX9_walked : ByteArray := prog_11_method_40_code
def yX9_walked : MethodName := ⟨RX9, "walked", "()I"⟩
abbrev wsX9_walked : List Cond := Cond.code yX9_walked cX9_walked 1 (some .int) :: sq_all
theorem hdX9_walked : yX9_walked.cls ≠ "java/lang/invoke/MethodHandle" ∧ yX9_walked.cls ≠ "java/lang/invoke/VarHandle" ∧ (parseMethodDescriptor yX9_walked.desc).map (fun d => d.parameters.length) = some 0 := by decide +kernel
theorem sq_gi {y : MethodName} {cc : ByteArray} {n : Nat} {ret : Option FieldType} (h : Cond.code y cc n ret ∈ sq_all) : GoodIn sq_all (Cond.code y cc n ret :: sq_all) := fun w hw => (List.mem_cons.mp hw).elim (fun e => by rw [e]; exact ⟨h, good_of_word (List.mem_filter.mp h).2⟩) (fun h => ⟨h, good_of_word (List.mem_filter.mp h).2⟩)
end
section
def sq_nest : List Cond := [.methodLinkNest RX8 11 yX0_init "StrokePieces", .methodLinkNest RX8 18 yX6_init "StrokePieces", .methodLinkNest RX8 25 yX2_init "StrokePieces", .methodLinkNest RX8 32 yX3_init "StrokePieces", .methodLinkNest RX1 11 yX5_init "StrokePieces", .fieldLinkNest RX1 80 "StrokePieces$Segment" "ax" "J" "StrokePieces", .fieldLinkNest RX1 87 "StrokePieces$Segment" "ay" "J" "StrokePieces", .fieldLinkNest RX1 97 "StrokePieces$Segment" "bx" "J" "StrokePieces", .fieldLinkNest RX7 117 "StrokePieces$Segment" "bx" "J" "StrokePieces", .fieldLinkNest RX1 100 "StrokePieces$Segment" "by" "J" "StrokePieces", .fieldLinkNest RX7 120 "StrokePieces$Segment" "by" "J" "StrokePieces", .fieldLinkNest RX1 109 "StrokePieces$Segment" "dx" "J" "StrokePieces", .fieldLinkNest RX1 112 "StrokePieces$Segment" "dy" "J" "StrokePieces", .fieldLinkNest RX7 101 "StrokePieces$Segment" "size" "J" "StrokePieces", .fieldLinkNest RX1 84 "StrokePieces$Segment" "nx" "J" "StrokePieces", .fieldLinkNest RX1 90 "StrokePieces$Segment" "ny" "J" "StrokePieces", .fieldLinkNest RX1 103 "StrokePieces$Segment" "tx" "J" "StrokePieces", .fieldLinkNest RX1 106 "StrokePieces$Segment" "ty" "J" "StrokePieces", .methodLinkNest RX7 11 yX5_init "StrokePieces", .methodLinkNest RX7 20 yX4_init "StrokePieces", .methodLinkNest RX8 57 yX4_init "StrokePieces", .methodLinkNest RX0 29 yX8_isPlace "StrokePieces", .methodLinkNest RX2 18 yX8_isUnits "StrokePieces", .methodLinkNest RX5 37 yX8_root "StrokePieces", .methodLinkNest RX5 46 yX8_rounded "StrokePieces", .methodLinkNest RX3 32 yX8_isPlace "StrokePieces", .methodLinkNest RX6 39 yX8_rounded "StrokePieces", .methodLinkNest RX1 127 yX8_rounded "StrokePieces"]
theorem sq_nest_in : ∀ w ∈ sq_nest, w ∈ lw_tbl := fun w h => List.mem_append_right _ (by
  have hs : sq_nest = [22, 49, 75, 100, 128, 133, 135, 137, 138, 140, 141, 143, 145, 147, 149, 151, 153, 155, 199, 202, 248, 279, 335, 440, 452, 498, 517, 519].filterMap (fun i => tables_1[i]?) := by decide +kernel
  rw [hs] at h
  obtain ⟨i, -, hi⟩ := List.mem_filterMap.mp h
  exact List.mem_of_getElem? hi)
theorem inX0 : ∀ w ∈ wsX00, w ∈ sq_all := fun w h => by
  have hs : wsX00 = [32, 34, 36, 38, 40, 42].filterMap (fun i => tables_1[i]?) := by decide +kernel
  have hg : wsX00.all goodWord = true := by decide +kernel
  refine List.mem_filter.mpr ⟨List.mem_append_right _ ?_, List.all_eq_true.mp hg w h⟩
  rw [hs] at h
  obtain ⟨i, -, hi⟩ := List.mem_filterMap.mp h
  exact List.mem_of_getElem? hi
theorem inX1 : ∀ w ∈ wsX10, w ∈ sq_all := fun w h => by
  have hs : wsX10 = [183, 185, 187, 189].filterMap (fun i => tables_1[i]?) := by decide +kernel
  have hg : wsX10.all goodWord = true := by decide +kernel
  refine List.mem_filter.mpr ⟨List.mem_append_right _ ?_, List.all_eq_true.mp hg w h⟩
  rw [hs] at h
  obtain ⟨i, -, hi⟩ := List.mem_filterMap.mp h
  exact List.mem_of_getElem? hi
theorem inX2 : ∀ w ∈ wsX20, w ∈ sq_all := fun w h => by
  have hs : wsX20 = [85, 87, 89, 91, 93, 95].filterMap (fun i => tables_1[i]?) := by decide +kernel
  have hg : wsX20.all goodWord = true := by decide +kernel
  refine List.mem_filter.mpr ⟨List.mem_append_right _ ?_, List.all_eq_true.mp hg w h⟩
  rw [hs] at h
  obtain ⟨i, -, hi⟩ := List.mem_filterMap.mp h
  exact List.mem_of_getElem? hi
theorem inX3 : ∀ w ∈ wsX30, w ∈ sq_all := fun w h => by
  have hs : wsX30 = [109, 111, 113, 115, 117].filterMap (fun i => tables_1[i]?) := by decide +kernel
  have hg : wsX30.all goodWord = true := by decide +kernel
  refine List.mem_filter.mpr ⟨List.mem_append_right _ ?_, List.all_eq_true.mp hg w h⟩
  rw [hs] at h
  obtain ⟨i, -, hi⟩ := List.mem_filterMap.mp h
  exact List.mem_of_getElem? hi
theorem inX4 : ∀ w ∈ wsX40, w ∈ sq_all := fun w h => by
  have hs : wsX40 = [210, 212, 214, 216].filterMap (fun i => tables_1[i]?) := by decide +kernel
  have hg : wsX40.all goodWord = true := by decide +kernel
  refine List.mem_filter.mpr ⟨List.mem_append_right _ ?_, List.all_eq_true.mp hg w h⟩
  rw [hs] at h
  obtain ⟨i, -, hi⟩ := List.mem_filterMap.mp h
  exact List.mem_of_getElem? hi
theorem inX5 : ∀ w ∈ wsX50, w ∈ sq_all := fun w h => by
  have hs : wsX50 = [156, 158, 160, 162, 164, 166, 168, 170, 172, 174, 176].filterMap (fun i => tables_1[i]?) := by decide +kernel
  have hg : wsX50.all goodWord = true := by decide +kernel
  refine List.mem_filter.mpr ⟨List.mem_append_right _ ?_, List.all_eq_true.mp hg w h⟩
  rw [hs] at h
  obtain ⟨i, -, hi⟩ := List.mem_filterMap.mp h
  exact List.mem_of_getElem? hi
theorem inX6 : ∀ w ∈ wsX60, w ∈ sq_all := fun w h => by
  have hs : wsX60 = [64, 66, 68, 70].filterMap (fun i => tables_1[i]?) := by decide +kernel
  have hg : wsX60.all goodWord = true := by decide +kernel
  refine List.mem_filter.mpr ⟨List.mem_append_right _ ?_, List.all_eq_true.mp hg w h⟩
  rw [hs] at h
  obtain ⟨i, -, hi⟩ := List.mem_filterMap.mp h
  exact List.mem_of_getElem? hi
theorem inX7 : ∀ w ∈ wsX70, w ∈ sq_all := fun w h => by
  have hs : wsX70 = [228, 230, 232, 234, 236, 238, 240, 242, 244].filterMap (fun i => tables_1[i]?) := by decide +kernel
  have hg : wsX70.all goodWord = true := by decide +kernel
  refine List.mem_filter.mpr ⟨List.mem_append_right _ ?_, List.all_eq_true.mp hg w h⟩
  rw [hs] at h
  obtain ⟨i, -, hi⟩ := List.mem_filterMap.mp h
  exact List.mem_of_getElem? hi
theorem inX8 : ∀ w ∈ wsX80, w ∈ sq_all := fun w h => by
  have hs : wsX80 = [256, 258, 260, 262, 264, 266, 268].filterMap (fun i => tables_1[i]?) := by decide +kernel
  have hg : wsX80.all goodWord = true := by decide +kernel
  refine List.mem_filter.mpr ⟨List.mem_append_right _ ?_, List.all_eq_true.mp hg w h⟩
  rw [hs] at h
  obtain ⟨i, -, hi⟩ := List.mem_filterMap.mp h
  exact List.mem_of_getElem? hi
theorem inX9 : ∀ w ∈ wsX90, w ∈ sq_all := fun w h => by
  have hs : wsX90 = [614, 616, 618, 620, 622, 624, 626, 628, 630, 632, 634, 636, 638, 640, 642, 644, 646, 648, 650, 652, 654, 656, 658, 660, 662, 664, 666, 668].filterMap (fun i => tables_1[i]?) := by decide +kernel
  have hg : wsX90.all goodWord = true := by decide +kernel
  refine List.mem_filter.mpr ⟨List.mem_append_right _ ?_, List.all_eq_true.mp hg w h⟩
  rw [hs] at h
  obtain ⟨i, -, hi⟩ := List.mem_filterMap.mp h
  exact List.mem_of_getElem? hi
theorem k_0 : Cond.initialized RL ∈ sq_all := List.mem_filter.mpr ⟨List.mem_append_right _ (List.mem_append_left _ (List.mem_of_getElem? (l := tables_1_1) (i := 0) rfl)), rfl⟩
theorem k_1 : Cond.initialized RX8 ∈ sq_all := List.mem_filter.mpr ⟨List.mem_append_right _ (List.mem_append_left _ (List.mem_of_getElem? (l := tables_1_1) (i := 1) rfl)), rfl⟩
theorem k_2 : Cond.initialized RX0 ∈ sq_all := List.mem_filter.mpr ⟨List.mem_append_right _ (List.mem_append_left _ (List.mem_of_getElem? (l := tables_1_1) (i := 2) rfl)), rfl⟩
theorem k_3 : Cond.initialized RX6 ∈ sq_all := List.mem_filter.mpr ⟨List.mem_append_right _ (List.mem_append_left _ (List.mem_of_getElem? (l := tables_1_1) (i := 3) rfl)), rfl⟩
theorem k_4 : Cond.initialized RX2 ∈ sq_all := List.mem_filter.mpr ⟨List.mem_append_right _ (List.mem_append_left _ (List.mem_of_getElem? (l := tables_1_1) (i := 4) rfl)), rfl⟩
theorem k_5 : Cond.initialized RX3 ∈ sq_all := List.mem_filter.mpr ⟨List.mem_append_right _ (List.mem_append_left _ (List.mem_of_getElem? (l := tables_1_1) (i := 5) rfl)), rfl⟩
theorem k_6 : Cond.initialized RX1 ∈ sq_all := List.mem_filter.mpr ⟨List.mem_append_right _ (List.mem_append_left _ (List.mem_of_getElem? (l := tables_1_1) (i := 6) rfl)), rfl⟩
theorem k_7 : Cond.initialized RX5 ∈ sq_all := List.mem_filter.mpr ⟨List.mem_append_right _ (List.mem_append_left _ (List.mem_of_getElem? (l := tables_1_1) (i := 7) rfl)), rfl⟩
theorem k_8 : Cond.initialized RX7 ∈ sq_all := List.mem_filter.mpr ⟨List.mem_append_right _ (List.mem_append_left _ (List.mem_of_getElem? (l := tables_1_1) (i := 8) rfl)), rfl⟩
theorem k_9 : Cond.initialized RX4 ∈ sq_all := List.mem_filter.mpr ⟨List.mem_append_right _ (List.mem_append_left _ (List.mem_of_getElem? (l := tables_1_1) (i := 9) rfl)), rfl⟩
theorem k_10 : Cond.initialized RX9 ∈ sq_all := List.mem_filter.mpr ⟨List.mem_append_right _ (List.mem_append_left _ (List.mem_of_getElem? (l := tables_1_1) (i := 10) rfl)), rfl⟩
theorem k_11 : Cond.initialized RJ9 ∈ sq_all := List.mem_filter.mpr ⟨List.mem_append_right _ (List.mem_append_left _ (List.mem_of_getElem? (l := tables_1_1) (i := 11) rfl)), rfl⟩
theorem k_12 : Cond.classLink RL 7 RX8 ∈ sq_all := List.mem_filter.mpr ⟨List.mem_append_right _ (List.mem_append_left _ (List.mem_of_getElem? (l := tables_1_1) (i := 12) rfl)), rfl⟩
theorem k_13 : Cond.instantiable RX8 7 ∈ sq_all := List.mem_filter.mpr ⟨List.mem_append_right _ (List.mem_append_left _ (List.mem_of_getElem? (l := tables_1_1) (i := 13) rfl)), rfl⟩
theorem k_14 : Cond.methodLink RL 9 yX8_init ∈ sq_all := List.mem_filter.mpr ⟨List.mem_append_right _ (List.mem_append_left _ (List.mem_of_getElem? (l := tables_1_1) (i := 14) rfl)), rfl⟩
theorem k_15 : Cond.instanceMethod yX8_init ∈ sq_all := List.mem_filter.mpr ⟨List.mem_append_right _ (List.mem_append_left _ (List.mem_of_getElem? (l := tables_1_1) (i := 15) rfl)), rfl⟩
theorem k_16 : Cond.code yX8_init prog_1_method_1_code 1 none ∈ sq_all := List.mem_filter.mpr ⟨List.mem_append_right _ (List.mem_append_left _ (List.mem_of_getElem? (l := tables_1_1) (i := 16) rfl)), rfl⟩
theorem k_17 : Cond.methodLink RX8 3 objectInit ∈ sq_all := List.mem_filter.mpr ⟨List.mem_append_right _ (List.mem_append_left _ (List.mem_of_getElem? (l := tables_1_1) (i := 17) rfl)), rfl⟩
theorem k_18 : Cond.instanceMethod objectInit ∈ sq_all := List.mem_filter.mpr ⟨List.mem_append_right _ (List.mem_append_left _ (List.mem_of_getElem? (l := tables_1_1) (i := 18) rfl)), rfl⟩
theorem k_19 : Cond.code objectInit object_method_1_code 1 none ∈ sq_all := List.mem_filter.mpr ⟨List.mem_append_right _ (List.mem_append_left _ (List.mem_of_getElem? (l := tables_1_1) (i := 19) rfl)), rfl⟩
theorem k_20 : Cond.classLink RX8 9 RX0 ∈ sq_all := List.mem_filter.mpr ⟨List.mem_append_right _ (List.mem_append_left _ (List.mem_of_getElem? (l := tables_1_1) (i := 20) rfl)), rfl⟩
theorem k_21 : Cond.instantiable RX0 6 ∈ sq_all := List.mem_filter.mpr ⟨List.mem_append_right _ (List.mem_append_left _ (List.mem_of_getElem? (l := tables_1_1) (i := 21) rfl)), rfl⟩
theorem k_23 : Cond.instanceMethod yX0_init ∈ sq_all := List.mem_filter.mpr ⟨List.mem_append_right _ (List.mem_append_left _ (List.mem_of_getElem? (l := tables_1_1) (i := 23) rfl)), rfl⟩
theorem k_24 : Cond.code yX0_init prog_2_method_1_code 1 none ∈ sq_all := List.mem_filter.mpr ⟨List.mem_append_right _ (List.mem_append_left _ (List.mem_of_getElem? (l := tables_1_1) (i := 24) rfl)), rfl⟩
theorem k_25 : Cond.methodLink RX0 3 objectInit ∈ sq_all := List.mem_filter.mpr ⟨List.mem_append_right _ (List.mem_append_left _ (List.mem_of_getElem? (l := tables_1_1) (i := 25) rfl)), rfl⟩
theorem k_26 : Cond.fieldLink RX0 9 "StrokePieces$LineRows" "x" "[I" ∈ sq_all := List.mem_filter.mpr ⟨List.mem_append_right _ (List.mem_append_left _ (List.mem_of_getElem? (l := tables_1_1) (i := 26) rfl)), rfl⟩
theorem k_27 : Cond.fieldLink RX0 15 "StrokePieces$LineRows" "y" "[I" ∈ sq_all := List.mem_filter.mpr ⟨List.mem_append_right _ (List.mem_append_left _ (List.mem_of_getElem? (l := tables_1_1) (i := 27) rfl)), rfl⟩
theorem k_28 : Cond.fieldLink RX0 18 "StrokePieces$LineRows" "first" "[I" ∈ sq_all := List.mem_filter.mpr ⟨List.mem_append_right _ (List.mem_append_left _ (List.mem_of_getElem? (l := tables_1_1) (i := 28) rfl)), rfl⟩
theorem k_29 : Cond.fieldLink RX0 21 "StrokePieces$LineRows" "closed" "[Z" ∈ sq_all := List.mem_filter.mpr ⟨List.mem_append_right _ (List.mem_append_left _ (List.mem_of_getElem? (l := tables_1_1) (i := 29) rfl)), rfl⟩
theorem k_30 : Cond.fieldLink RX0 33 "StrokePieces$LineRows" "points" "I" ∈ sq_all := List.mem_filter.mpr ⟨List.mem_append_right _ (List.mem_append_left _ (List.mem_of_getElem? (l := tables_1_1) (i := 30) rfl)), rfl⟩
theorem k_31 : Cond.fieldLink RX0 25 "StrokePieces$LineRows" "count" "I" ∈ sq_all := List.mem_filter.mpr ⟨List.mem_append_right _ (List.mem_append_left _ (List.mem_of_getElem? (l := tables_1_1) (i := 31) rfl)), rfl⟩
theorem k_45 : Cond.arrayClass .int ∈ sq_all := List.mem_filter.mpr ⟨List.mem_append_right _ (List.mem_append_left _ (List.mem_of_getElem? (l := tables_1_1) (i := 45) rfl)), rfl⟩
theorem k_46 : Cond.arrayClass .boolean ∈ sq_all := List.mem_filter.mpr ⟨List.mem_append_right _ (List.mem_append_left _ (List.mem_of_getElem? (l := tables_1_1) (i := 46) rfl)), rfl⟩
theorem k_47 : Cond.classLink RX8 16 RX6 ∈ sq_all := List.mem_filter.mpr ⟨List.mem_append_right _ (List.mem_append_left _ (List.mem_of_getElem? (l := tables_1_1) (i := 47) rfl)), rfl⟩
theorem k_48 : Cond.instantiable RX6 4 ∈ sq_all := List.mem_filter.mpr ⟨List.mem_append_right _ (List.mem_append_left _ (List.mem_of_getElem? (l := tables_1_1) (i := 48) rfl)), rfl⟩
theorem k_50 : Cond.instanceMethod yX6_init ∈ sq_all := List.mem_filter.mpr ⟨List.mem_append_right _ (List.mem_append_left _ (List.mem_of_getElem? (l := tables_1_1) (i := 50) rfl)), rfl⟩
theorem k_51 : Cond.code yX6_init prog_8_method_1_code 1 none ∈ sq_all := List.mem_filter.mpr ⟨List.mem_append_right _ (List.mem_append_left _ (List.mem_of_getElem? (l := tables_1_1) (i := 51) rfl)), rfl⟩
theorem k_52 : Cond.methodLink RX6 3 objectInit ∈ sq_all := List.mem_filter.mpr ⟨List.mem_append_right _ (List.mem_append_left _ (List.mem_of_getElem? (l := tables_1_1) (i := 52) rfl)), rfl⟩
theorem k_53 : Cond.constantLong RX6 9 32768 ∈ sq_all := List.mem_filter.mpr ⟨List.mem_append_right _ (List.mem_append_left _ (List.mem_of_getElem? (l := tables_1_1) (i := 53) rfl)), rfl⟩
theorem k_54 : Cond.constant RX6 17 655360 ∈ sq_all := List.mem_filter.mpr ⟨List.mem_append_right _ (List.mem_append_left _ (List.mem_of_getElem? (l := tables_1_1) (i := 54) rfl)), rfl⟩
theorem k_55 : Cond.methodLink RX6 18 yX6_leastCosine ∈ sq_all := List.mem_filter.mpr ⟨List.mem_append_right _ (List.mem_append_left _ (List.mem_of_getElem? (l := tables_1_1) (i := 55) rfl)), rfl⟩
theorem k_56 : Cond.static yX6_leastCosine ∈ sq_all := List.mem_filter.mpr ⟨List.mem_append_right _ (List.mem_append_left _ (List.mem_of_getElem? (l := tables_1_1) (i := 56) rfl)), rfl⟩
theorem k_57 : Cond.code yX6_leastCosine prog_8_method_3_code 3 (some .long) ∈ sq_all := List.mem_filter.mpr ⟨List.mem_append_right _ (List.mem_append_left _ (List.mem_of_getElem? (l := tables_1_1) (i := 57) rfl)), rfl⟩
theorem k_58 : Cond.constantLong RX6 35 65536 ∈ sq_all := List.mem_filter.mpr ⟨List.mem_append_right _ (List.mem_append_left _ (List.mem_of_getElem? (l := tables_1_1) (i := 58) rfl)), rfl⟩
theorem k_59 : Cond.constantLong RX6 37 562949953421312 ∈ sq_all := List.mem_filter.mpr ⟨List.mem_append_right _ (List.mem_append_left _ (List.mem_of_getElem? (l := tables_1_1) (i := 59) rfl)), rfl⟩
theorem k_60 : Cond.fieldLink RX6 11 "StrokePieces$Tip" "half" "J" ∈ sq_all := List.mem_filter.mpr ⟨List.mem_append_right _ (List.mem_append_left _ (List.mem_of_getElem? (l := tables_1_1) (i := 60) rfl)), rfl⟩
theorem k_61 : Cond.fieldLink RX6 28 "StrokePieces$Tip" "caps" "Z" ∈ sq_all := List.mem_filter.mpr ⟨List.mem_append_right _ (List.mem_append_left _ (List.mem_of_getElem? (l := tables_1_1) (i := 61) rfl)), rfl⟩
theorem k_62 : Cond.fieldLink RX6 32 "StrokePieces$Tip" "bevels" "Z" ∈ sq_all := List.mem_filter.mpr ⟨List.mem_append_right _ (List.mem_append_left _ (List.mem_of_getElem? (l := tables_1_1) (i := 62) rfl)), rfl⟩
theorem k_63 : Cond.fieldLink RX6 22 "StrokePieces$Tip" "bound" "J" ∈ sq_all := List.mem_filter.mpr ⟨List.mem_append_right _ (List.mem_append_left _ (List.mem_of_getElem? (l := tables_1_1) (i := 63) rfl)), rfl⟩
theorem k_73 : Cond.classLink RX8 23 RX2 ∈ sq_all := List.mem_filter.mpr ⟨List.mem_append_right _ (List.mem_append_left _ (List.mem_of_getElem? (l := tables_1_1) (i := 73) rfl)), rfl⟩
theorem k_74 : Cond.instantiable RX2 6 ∈ sq_all := List.mem_filter.mpr ⟨List.mem_append_right _ (List.mem_append_left _ (List.mem_of_getElem? (l := tables_1_1) (i := 74) rfl)), rfl⟩
theorem k_76 : Cond.instanceMethod yX2_init ∈ sq_all := List.mem_filter.mpr ⟨List.mem_append_right _ (List.mem_append_left _ (List.mem_of_getElem? (l := tables_1_1) (i := 76) rfl)), rfl⟩
theorem k_77 : Cond.code yX2_init prog_4_method_1_code 1 none ∈ sq_all := List.mem_filter.mpr ⟨List.mem_append_right _ (List.mem_append_left _ (List.mem_of_getElem? (l := tables_1_1) (i := 77) rfl)), rfl⟩
theorem k_78 : Cond.methodLink RX2 3 objectInit ∈ sq_all := List.mem_filter.mpr ⟨List.mem_append_right _ (List.mem_append_left _ (List.mem_of_getElem? (l := tables_1_1) (i := 78) rfl)), rfl⟩
theorem k_79 : Cond.fieldLink RX2 9 "StrokePieces$Pattern" "given" "[I" ∈ sq_all := List.mem_filter.mpr ⟨List.mem_append_right _ (List.mem_append_left _ (List.mem_of_getElem? (l := tables_1_1) (i := 79) rfl)), rfl⟩
theorem k_80 : Cond.fieldLink RX2 15 "StrokePieces$Pattern" "used" "[I" ∈ sq_all := List.mem_filter.mpr ⟨List.mem_append_right _ (List.mem_append_left _ (List.mem_of_getElem? (l := tables_1_1) (i := 80) rfl)), rfl⟩
theorem k_81 : Cond.fieldLink RX2 22 "StrokePieces$Pattern" "count" "I" ∈ sq_all := List.mem_filter.mpr ⟨List.mem_append_right _ (List.mem_append_left _ (List.mem_of_getElem? (l := tables_1_1) (i := 81) rfl)), rfl⟩
theorem k_82 : Cond.fieldLink RX2 30 "StrokePieces$Pattern" "firstAt" "I" ∈ sq_all := List.mem_filter.mpr ⟨List.mem_append_right _ (List.mem_append_left _ (List.mem_of_getElem? (l := tables_1_1) (i := 82) rfl)), rfl⟩
theorem k_83 : Cond.fieldLink RX2 33 "StrokePieces$Pattern" "firstLeft" "J" ∈ sq_all := List.mem_filter.mpr ⟨List.mem_append_right _ (List.mem_append_left _ (List.mem_of_getElem? (l := tables_1_1) (i := 83) rfl)), rfl⟩
theorem k_84 : Cond.fieldLink RX2 37 "StrokePieces$Pattern" "firstGap" "Z" ∈ sq_all := List.mem_filter.mpr ⟨List.mem_append_right _ (List.mem_append_left _ (List.mem_of_getElem? (l := tables_1_1) (i := 84) rfl)), rfl⟩
theorem k_98 : Cond.classLink RX8 30 RX3 ∈ sq_all := List.mem_filter.mpr ⟨List.mem_append_right _ (List.mem_append_left _ (List.mem_of_getElem? (l := tables_1_1) (i := 98) rfl)), rfl⟩
theorem k_99 : Cond.instantiable RX3 5 ∈ sq_all := List.mem_filter.mpr ⟨List.mem_append_right _ (List.mem_append_left _ (List.mem_of_getElem? (l := tables_1_1) (i := 99) rfl)), rfl⟩
theorem k_101 : Cond.instanceMethod yX3_init ∈ sq_all := List.mem_filter.mpr ⟨List.mem_append_right _ (List.mem_append_left _ (List.mem_of_getElem? (l := tables_1_1) (i := 101) rfl)), rfl⟩
theorem k_102 : Cond.code yX3_init prog_5_method_1_code 1 none ∈ sq_all := List.mem_filter.mpr ⟨List.mem_append_right _ (List.mem_append_left _ (List.mem_of_getElem? (l := tables_1_1) (i := 102) rfl)), rfl⟩
theorem k_103 : Cond.methodLink RX3 3 objectInit ∈ sq_all := List.mem_filter.mpr ⟨List.mem_append_right _ (List.mem_append_left _ (List.mem_of_getElem? (l := tables_1_1) (i := 103) rfl)), rfl⟩
theorem k_104 : Cond.fieldLink RX3 9 "StrokePieces$Pieces" "kinds" "[I" ∈ sq_all := List.mem_filter.mpr ⟨List.mem_append_right _ (List.mem_append_left _ (List.mem_of_getElem? (l := tables_1_1) (i := 104) rfl)), rfl⟩
theorem k_105 : Cond.fieldLink RX3 15 "StrokePieces$Pieces" "places" "[I" ∈ sq_all := List.mem_filter.mpr ⟨List.mem_append_right _ (List.mem_append_left _ (List.mem_of_getElem? (l := tables_1_1) (i := 105) rfl)), rfl⟩
theorem k_106 : Cond.fieldLink RX3 22 "StrokePieces$Pieces" "count" "I" ∈ sq_all := List.mem_filter.mpr ⟨List.mem_append_right _ (List.mem_append_left _ (List.mem_of_getElem? (l := tables_1_1) (i := 106) rfl)), rfl⟩
theorem k_107 : Cond.fieldLink RX3 25 "StrokePieces$Pieces" "corners" "I" ∈ sq_all := List.mem_filter.mpr ⟨List.mem_append_right _ (List.mem_append_left _ (List.mem_of_getElem? (l := tables_1_1) (i := 107) rfl)), rfl⟩
theorem k_108 : Cond.fieldLink RX3 18 "StrokePieces$Pieces" "state" "I" ∈ sq_all := List.mem_filter.mpr ⟨List.mem_append_right _ (List.mem_append_left _ (List.mem_of_getElem? (l := tables_1_1) (i := 108) rfl)), rfl⟩
theorem k_120 : Cond.classLink RX8 37 RX1 ∈ sq_all := List.mem_filter.mpr ⟨List.mem_append_right _ (List.mem_append_left _ (List.mem_of_getElem? (l := tables_1_1) (i := 120) rfl)), rfl⟩
theorem k_121 : Cond.instantiable RX1 4 ∈ sq_all := List.mem_filter.mpr ⟨List.mem_append_right _ (List.mem_append_left _ (List.mem_of_getElem? (l := tables_1_1) (i := 121) rfl)), rfl⟩
theorem k_122 : Cond.methodLink RX8 39 yX1_init ∈ sq_all := List.mem_filter.mpr ⟨List.mem_append_right _ (List.mem_append_left _ (List.mem_of_getElem? (l := tables_1_1) (i := 122) rfl)), rfl⟩
theorem k_123 : Cond.instanceMethod yX1_init ∈ sq_all := List.mem_filter.mpr ⟨List.mem_append_right _ (List.mem_append_left _ (List.mem_of_getElem? (l := tables_1_1) (i := 123) rfl)), rfl⟩
theorem k_124 : Cond.code yX1_init prog_3_method_1_code 3 none ∈ sq_all := List.mem_filter.mpr ⟨List.mem_append_right _ (List.mem_append_left _ (List.mem_of_getElem? (l := tables_1_1) (i := 124) rfl)), rfl⟩
theorem k_125 : Cond.methodLink RX1 3 objectInit ∈ sq_all := List.mem_filter.mpr ⟨List.mem_append_right _ (List.mem_append_left _ (List.mem_of_getElem? (l := tables_1_1) (i := 125) rfl)), rfl⟩
theorem k_126 : Cond.classLink RX1 9 RX5 ∈ sq_all := List.mem_filter.mpr ⟨List.mem_append_right _ (List.mem_append_left _ (List.mem_of_getElem? (l := tables_1_1) (i := 126) rfl)), rfl⟩
theorem k_127 : Cond.instantiable RX5 11 ∈ sq_all := List.mem_filter.mpr ⟨List.mem_append_right _ (List.mem_append_left _ (List.mem_of_getElem? (l := tables_1_1) (i := 127) rfl)), rfl⟩
theorem k_129 : Cond.instanceMethod yX5_init ∈ sq_all := List.mem_filter.mpr ⟨List.mem_append_right _ (List.mem_append_left _ (List.mem_of_getElem? (l := tables_1_1) (i := 129) rfl)), rfl⟩
theorem k_130 : Cond.code yX5_init prog_7_method_1_code 1 none ∈ sq_all := List.mem_filter.mpr ⟨List.mem_append_right _ (List.mem_append_left _ (List.mem_of_getElem? (l := tables_1_1) (i := 130) rfl)), rfl⟩
theorem k_131 : Cond.methodLink RX5 1 objectInit ∈ sq_all := List.mem_filter.mpr ⟨List.mem_append_right _ (List.mem_append_left _ (List.mem_of_getElem? (l := tables_1_1) (i := 131) rfl)), rfl⟩
theorem k_132 : Cond.fieldLink RX5 13 "StrokePieces$Segment" "ax" "J" ∈ sq_all := List.mem_filter.mpr ⟨List.mem_append_right _ (List.mem_append_left _ (List.mem_of_getElem? (l := tables_1_1) (i := 132) rfl)), rfl⟩
theorem k_134 : Cond.fieldLink RX5 22 "StrokePieces$Segment" "ay" "J" ∈ sq_all := List.mem_filter.mpr ⟨List.mem_append_right _ (List.mem_append_left _ (List.mem_of_getElem? (l := tables_1_1) (i := 134) rfl)), rfl⟩
theorem k_136 : Cond.fieldLink RX5 25 "StrokePieces$Segment" "bx" "J" ∈ sq_all := List.mem_filter.mpr ⟨List.mem_append_right _ (List.mem_append_left _ (List.mem_of_getElem? (l := tables_1_1) (i := 136) rfl)), rfl⟩
theorem k_139 : Cond.fieldLink RX5 28 "StrokePieces$Segment" "by" "J" ∈ sq_all := List.mem_filter.mpr ⟨List.mem_append_right _ (List.mem_append_left _ (List.mem_of_getElem? (l := tables_1_1) (i := 139) rfl)), rfl⟩
theorem k_142 : Cond.fieldLink RX5 31 "StrokePieces$Segment" "dx" "J" ∈ sq_all := List.mem_filter.mpr ⟨List.mem_append_right _ (List.mem_append_left _ (List.mem_of_getElem? (l := tables_1_1) (i := 142) rfl)), rfl⟩
theorem k_144 : Cond.fieldLink RX5 34 "StrokePieces$Segment" "dy" "J" ∈ sq_all := List.mem_filter.mpr ⟨List.mem_append_right _ (List.mem_append_left _ (List.mem_of_getElem? (l := tables_1_1) (i := 144) rfl)), rfl⟩
theorem k_146 : Cond.fieldLink RX5 43 "StrokePieces$Segment" "size" "J" ∈ sq_all := List.mem_filter.mpr ⟨List.mem_append_right _ (List.mem_append_left _ (List.mem_of_getElem? (l := tables_1_1) (i := 146) rfl)), rfl⟩
theorem k_148 : Cond.fieldLink RX5 50 "StrokePieces$Segment" "nx" "J" ∈ sq_all := List.mem_filter.mpr ⟨List.mem_append_right _ (List.mem_append_left _ (List.mem_of_getElem? (l := tables_1_1) (i := 148) rfl)), rfl⟩
theorem k_150 : Cond.fieldLink RX5 53 "StrokePieces$Segment" "ny" "J" ∈ sq_all := List.mem_filter.mpr ⟨List.mem_append_right _ (List.mem_append_left _ (List.mem_of_getElem? (l := tables_1_1) (i := 150) rfl)), rfl⟩
theorem k_152 : Cond.fieldLink RX5 56 "StrokePieces$Segment" "tx" "J" ∈ sq_all := List.mem_filter.mpr ⟨List.mem_append_right _ (List.mem_append_left _ (List.mem_of_getElem? (l := tables_1_1) (i := 152) rfl)), rfl⟩
theorem k_154 : Cond.fieldLink RX5 59 "StrokePieces$Segment" "ty" "J" ∈ sq_all := List.mem_filter.mpr ⟨List.mem_append_right _ (List.mem_append_left _ (List.mem_of_getElem? (l := tables_1_1) (i := 154) rfl)), rfl⟩
theorem k_179 : Cond.fieldLink RX1 21 "StrokePieces$Outline" "tip" "LStrokePieces$Tip;" ∈ sq_all := List.mem_filter.mpr ⟨List.mem_append_right _ (List.mem_append_left _ (List.mem_of_getElem? (l := tables_1_1) (i := 179) rfl)), rfl⟩
theorem k_180 : Cond.fieldLink RX1 25 "StrokePieces$Outline" "made" "LStrokePieces$Pieces;" ∈ sq_all := List.mem_filter.mpr ⟨List.mem_append_right _ (List.mem_append_left _ (List.mem_of_getElem? (l := tables_1_1) (i := 180) rfl)), rfl⟩
theorem k_181 : Cond.fieldLink RX1 12 "StrokePieces$Outline" "here" "LStrokePieces$Segment;" ∈ sq_all := List.mem_filter.mpr ⟨List.mem_append_right _ (List.mem_append_left _ (List.mem_of_getElem? (l := tables_1_1) (i := 181) rfl)), rfl⟩
theorem k_182 : Cond.fieldLink RX1 18 "StrokePieces$Outline" "next" "LStrokePieces$Segment;" ∈ sq_all := List.mem_filter.mpr ⟨List.mem_append_right _ (List.mem_append_left _ (List.mem_of_getElem? (l := tables_1_1) (i := 182) rfl)), rfl⟩
theorem k_192 : Cond.classLink RX8 46 RX7 ∈ sq_all := List.mem_filter.mpr ⟨List.mem_append_right _ (List.mem_append_left _ (List.mem_of_getElem? (l := tables_1_1) (i := 192) rfl)), rfl⟩
theorem k_193 : Cond.instantiable RX7 9 ∈ sq_all := List.mem_filter.mpr ⟨List.mem_append_right _ (List.mem_append_left _ (List.mem_of_getElem? (l := tables_1_1) (i := 193) rfl)), rfl⟩
theorem k_194 : Cond.methodLink RX8 48 yX7_init ∈ sq_all := List.mem_filter.mpr ⟨List.mem_append_right _ (List.mem_append_left _ (List.mem_of_getElem? (l := tables_1_1) (i := 194) rfl)), rfl⟩
theorem k_195 : Cond.instanceMethod yX7_init ∈ sq_all := List.mem_filter.mpr ⟨List.mem_append_right _ (List.mem_append_left _ (List.mem_of_getElem? (l := tables_1_1) (i := 195) rfl)), rfl⟩
theorem k_196 : Cond.code yX7_init prog_9_method_1_code 4 none ∈ sq_all := List.mem_filter.mpr ⟨List.mem_append_right _ (List.mem_append_left _ (List.mem_of_getElem? (l := tables_1_1) (i := 196) rfl)), rfl⟩
theorem k_197 : Cond.methodLink RX7 3 objectInit ∈ sq_all := List.mem_filter.mpr ⟨List.mem_append_right _ (List.mem_append_left _ (List.mem_of_getElem? (l := tables_1_1) (i := 197) rfl)), rfl⟩
theorem k_198 : Cond.classLink RX7 9 RX5 ∈ sq_all := List.mem_filter.mpr ⟨List.mem_append_right _ (List.mem_append_left _ (List.mem_of_getElem? (l := tables_1_1) (i := 198) rfl)), rfl⟩
theorem k_200 : Cond.classLink RX7 18 RX4 ∈ sq_all := List.mem_filter.mpr ⟨List.mem_append_right _ (List.mem_append_left _ (List.mem_of_getElem? (l := tables_1_1) (i := 200) rfl)), rfl⟩
theorem k_201 : Cond.instantiable RX4 4 ∈ sq_all := List.mem_filter.mpr ⟨List.mem_append_right _ (List.mem_append_left _ (List.mem_of_getElem? (l := tables_1_1) (i := 201) rfl)), rfl⟩
theorem k_203 : Cond.instanceMethod yX4_init ∈ sq_all := List.mem_filter.mpr ⟨List.mem_append_right _ (List.mem_append_left _ (List.mem_of_getElem? (l := tables_1_1) (i := 203) rfl)), rfl⟩
theorem k_204 : Cond.code yX4_init prog_6_method_1_code 1 none ∈ sq_all := List.mem_filter.mpr ⟨List.mem_append_right _ (List.mem_append_left _ (List.mem_of_getElem? (l := tables_1_1) (i := 204) rfl)), rfl⟩
theorem k_205 : Cond.methodLink RX4 3 objectInit ∈ sq_all := List.mem_filter.mpr ⟨List.mem_append_right _ (List.mem_append_left _ (List.mem_of_getElem? (l := tables_1_1) (i := 205) rfl)), rfl⟩
theorem k_206 : Cond.fieldLink RX4 9 "StrokePieces$Run" "x" "[I" ∈ sq_all := List.mem_filter.mpr ⟨List.mem_append_right _ (List.mem_append_left _ (List.mem_of_getElem? (l := tables_1_1) (i := 206) rfl)), rfl⟩
theorem k_207 : Cond.fieldLink RX4 15 "StrokePieces$Run" "y" "[I" ∈ sq_all := List.mem_filter.mpr ⟨List.mem_append_right _ (List.mem_append_left _ (List.mem_of_getElem? (l := tables_1_1) (i := 207) rfl)), rfl⟩
theorem k_208 : Cond.fieldLink RX4 18 "StrokePieces$Run" "count" "I" ∈ sq_all := List.mem_filter.mpr ⟨List.mem_append_right _ (List.mem_append_left _ (List.mem_of_getElem? (l := tables_1_1) (i := 208) rfl)), rfl⟩
theorem k_209 : Cond.fieldLink RX4 22 "StrokePieces$Run" "ring" "Z" ∈ sq_all := List.mem_filter.mpr ⟨List.mem_append_right _ (List.mem_append_left _ (List.mem_of_getElem? (l := tables_1_1) (i := 209) rfl)), rfl⟩
theorem k_219 : Cond.fieldLink RX7 25 "StrokePieces$Walk" "pattern" "LStrokePieces$Pattern;" ∈ sq_all := List.mem_filter.mpr ⟨List.mem_append_right _ (List.mem_append_left _ (List.mem_of_getElem? (l := tables_1_1) (i := 219) rfl)), rfl⟩
theorem k_220 : Cond.fieldLink RX7 29 "StrokePieces$Walk" "outline" "LStrokePieces$Outline;" ∈ sq_all := List.mem_filter.mpr ⟨List.mem_append_right _ (List.mem_append_left _ (List.mem_of_getElem? (l := tables_1_1) (i := 220) rfl)), rfl⟩
theorem k_221 : Cond.fieldLink RX7 33 "StrokePieces$Walk" "made" "LStrokePieces$Pieces;" ∈ sq_all := List.mem_filter.mpr ⟨List.mem_append_right _ (List.mem_append_left _ (List.mem_of_getElem? (l := tables_1_1) (i := 221) rfl)), rfl⟩
theorem k_222 : Cond.fieldLink RX7 12 "StrokePieces$Walk" "way" "LStrokePieces$Segment;" ∈ sq_all := List.mem_filter.mpr ⟨List.mem_append_right _ (List.mem_append_left _ (List.mem_of_getElem? (l := tables_1_1) (i := 222) rfl)), rfl⟩
theorem k_223 : Cond.fieldLink RX7 21 "StrokePieces$Walk" "dash" "LStrokePieces$Run;" ∈ sq_all := List.mem_filter.mpr ⟨List.mem_append_right _ (List.mem_append_left _ (List.mem_of_getElem? (l := tables_1_1) (i := 223) rfl)), rfl⟩
theorem k_224 : Cond.fieldLink RX7 37 "StrokePieces$Walk" "taken" "I" ∈ sq_all := List.mem_filter.mpr ⟨List.mem_append_right _ (List.mem_append_left _ (List.mem_of_getElem? (l := tables_1_1) (i := 224) rfl)), rfl⟩
theorem k_225 : Cond.fieldLink RX7 50 "StrokePieces$Walk" "at" "I" ∈ sq_all := List.mem_filter.mpr ⟨List.mem_append_right _ (List.mem_append_left _ (List.mem_of_getElem? (l := tables_1_1) (i := 225) rfl)), rfl⟩
theorem k_226 : Cond.fieldLink RX7 57 "StrokePieces$Walk" "left" "J" ∈ sq_all := List.mem_filter.mpr ⟨List.mem_append_right _ (List.mem_append_left _ (List.mem_of_getElem? (l := tables_1_1) (i := 226) rfl)), rfl⟩
theorem k_227 : Cond.fieldLink RX7 65 "StrokePieces$Walk" "gap" "Z" ∈ sq_all := List.mem_filter.mpr ⟨List.mem_append_right _ (List.mem_append_left _ (List.mem_of_getElem? (l := tables_1_1) (i := 227) rfl)), rfl⟩
theorem k_247 : Cond.classLink RX8 55 RX4 ∈ sq_all := List.mem_filter.mpr ⟨List.mem_append_right _ (List.mem_append_right _ (List.mem_append_left _ (List.mem_of_getElem? (l := tables_1_2) (i := 7) rfl))), rfl⟩
theorem k_249 : Cond.fieldLink RX8 12 "StrokePieces" "rows" "LStrokePieces$LineRows;" ∈ sq_all := List.mem_filter.mpr ⟨List.mem_append_right _ (List.mem_append_right _ (List.mem_append_left _ (List.mem_of_getElem? (l := tables_1_2) (i := 9) rfl))), rfl⟩
theorem k_250 : Cond.fieldLink RX8 19 "StrokePieces" "tip" "LStrokePieces$Tip;" ∈ sq_all := List.mem_filter.mpr ⟨List.mem_append_right _ (List.mem_append_right _ (List.mem_append_left _ (List.mem_of_getElem? (l := tables_1_2) (i := 10) rfl))), rfl⟩
theorem k_251 : Cond.fieldLink RX8 26 "StrokePieces" "pattern" "LStrokePieces$Pattern;" ∈ sq_all := List.mem_filter.mpr ⟨List.mem_append_right _ (List.mem_append_right _ (List.mem_append_left _ (List.mem_of_getElem? (l := tables_1_2) (i := 11) rfl))), rfl⟩
theorem k_252 : Cond.fieldLink RX8 33 "StrokePieces" "made" "LStrokePieces$Pieces;" ∈ sq_all := List.mem_filter.mpr ⟨List.mem_append_right _ (List.mem_append_right _ (List.mem_append_left _ (List.mem_of_getElem? (l := tables_1_2) (i := 12) rfl))), rfl⟩
theorem k_253 : Cond.fieldLink RX8 42 "StrokePieces" "outline" "LStrokePieces$Outline;" ∈ sq_all := List.mem_filter.mpr ⟨List.mem_append_right _ (List.mem_append_right _ (List.mem_append_left _ (List.mem_of_getElem? (l := tables_1_2) (i := 13) rfl))), rfl⟩
theorem k_254 : Cond.fieldLink RX8 51 "StrokePieces" "walk" "LStrokePieces$Walk;" ∈ sq_all := List.mem_filter.mpr ⟨List.mem_append_right _ (List.mem_append_right _ (List.mem_append_left _ (List.mem_of_getElem? (l := tables_1_2) (i := 14) rfl))), rfl⟩
theorem k_255 : Cond.fieldLink RX8 58 "StrokePieces" "run" "LStrokePieces$Run;" ∈ sq_all := List.mem_filter.mpr ⟨List.mem_append_right _ (List.mem_append_right _ (List.mem_append_left _ (List.mem_of_getElem? (l := tables_1_2) (i := 15) rfl))), rfl⟩
theorem k_271 : Cond.methodLink RL 13 yX8_move ∈ sq_all := List.mem_filter.mpr ⟨List.mem_append_right _ (List.mem_append_right _ (List.mem_append_left _ (List.mem_of_getElem? (l := tables_1_2) (i := 31) rfl))), rfl⟩
theorem k_272 : Cond.instanceMethod yX8_move ∈ sq_all := List.mem_filter.mpr ⟨List.mem_append_right _ (List.mem_append_right _ (List.mem_append_left _ (List.mem_of_getElem? (l := tables_1_2) (i := 32) rfl))), rfl⟩
theorem k_273 : Cond.selects RX8 yX8_move yX8_move ∈ sq_all := List.mem_filter.mpr ⟨List.mem_append_right _ (List.mem_append_right _ (List.mem_append_left _ (List.mem_of_getElem? (l := tables_1_2) (i := 33) rfl))), rfl⟩
theorem k_274 : Cond.code yX8_move prog_1_method_2_code 3 (some .int) ∈ sq_all := List.mem_filter.mpr ⟨List.mem_append_right _ (List.mem_append_right _ (List.mem_append_left _ (List.mem_of_getElem? (l := tables_1_2) (i := 34) rfl))), rfl⟩
theorem k_275 : Cond.methodLink RX8 62 yX0_begin ∈ sq_all := List.mem_filter.mpr ⟨List.mem_append_right _ (List.mem_append_right _ (List.mem_append_left _ (List.mem_of_getElem? (l := tables_1_2) (i := 35) rfl))), rfl⟩
theorem k_276 : Cond.instanceMethod yX0_begin ∈ sq_all := List.mem_filter.mpr ⟨List.mem_append_right _ (List.mem_append_right _ (List.mem_append_left _ (List.mem_of_getElem? (l := tables_1_2) (i := 36) rfl))), rfl⟩
theorem k_277 : Cond.selects RX0 yX0_begin yX0_begin ∈ sq_all := List.mem_filter.mpr ⟨List.mem_append_right _ (List.mem_append_right _ (List.mem_append_left _ (List.mem_of_getElem? (l := tables_1_2) (i := 37) rfl))), rfl⟩
theorem k_278 : Cond.code yX0_begin prog_2_method_3_code 3 (some .int) ∈ sq_all := List.mem_filter.mpr ⟨List.mem_append_right _ (List.mem_append_right _ (List.mem_append_left _ (List.mem_of_getElem? (l := tables_1_2) (i := 38) rfl))), rfl⟩
theorem k_280 : Cond.static yX8_isPlace ∈ sq_all := List.mem_filter.mpr ⟨List.mem_append_right _ (List.mem_append_right _ (List.mem_append_left _ (List.mem_of_getElem? (l := tables_1_2) (i := 40) rfl))), rfl⟩
theorem k_281 : Cond.code yX8_isPlace prog_1_method_14_code 2 (some .boolean) ∈ sq_all := List.mem_filter.mpr ⟨List.mem_append_right _ (List.mem_append_right _ (List.mem_append_left _ (List.mem_of_getElem? (l := tables_1_2) (i := 41) rfl))), rfl⟩
theorem k_282 : Cond.constantLong RX8 128 (-536870912) ∈ sq_all := List.mem_filter.mpr ⟨List.mem_append_right _ (List.mem_append_right _ (List.mem_append_left _ (List.mem_of_getElem? (l := tables_1_2) (i := 42) rfl))), rfl⟩
theorem k_283 : Cond.constantLong RX8 130 536870912 ∈ sq_all := List.mem_filter.mpr ⟨List.mem_append_right _ (List.mem_append_right _ (List.mem_append_left _ (List.mem_of_getElem? (l := tables_1_2) (i := 43) rfl))), rfl⟩
theorem k_284 : Cond.methodLink RX0 36 yX0_put ∈ sq_all := List.mem_filter.mpr ⟨List.mem_append_right _ (List.mem_append_right _ (List.mem_append_left _ (List.mem_of_getElem? (l := tables_1_2) (i := 44) rfl))), rfl⟩
theorem k_286 : Cond.instanceMethod yX0_put ∈ sq_all := List.mem_filter.mpr ⟨List.mem_append_right _ (List.mem_append_right _ (List.mem_append_left _ (List.mem_of_getElem? (l := tables_1_2) (i := 46) rfl))), rfl⟩
theorem k_287 : Cond.code yX0_put prog_2_method_5_code 3 (some .int) ∈ sq_all := List.mem_filter.mpr ⟨List.mem_append_right _ (List.mem_append_right _ (List.mem_append_left _ (List.mem_of_getElem? (l := tables_1_2) (i := 47) rfl))), rfl⟩
theorem k_288 : Cond.methodLink RL 18 yX8_line ∈ sq_all := List.mem_filter.mpr ⟨List.mem_append_right _ (List.mem_append_right _ (List.mem_append_left _ (List.mem_of_getElem? (l := tables_1_2) (i := 48) rfl))), rfl⟩
theorem k_289 : Cond.instanceMethod yX8_line ∈ sq_all := List.mem_filter.mpr ⟨List.mem_append_right _ (List.mem_append_right _ (List.mem_append_left _ (List.mem_of_getElem? (l := tables_1_2) (i := 49) rfl))), rfl⟩
theorem k_290 : Cond.selects RX8 yX8_line yX8_line ∈ sq_all := List.mem_filter.mpr ⟨List.mem_append_right _ (List.mem_append_right _ (List.mem_append_left _ (List.mem_of_getElem? (l := tables_1_2) (i := 50) rfl))), rfl⟩
theorem k_291 : Cond.code yX8_line prog_1_method_3_code 3 (some .int) ∈ sq_all := List.mem_filter.mpr ⟨List.mem_append_right _ (List.mem_append_right _ (List.mem_append_left _ (List.mem_of_getElem? (l := tables_1_2) (i := 51) rfl))), rfl⟩
theorem k_292 : Cond.methodLink RX8 66 yX0_extend ∈ sq_all := List.mem_filter.mpr ⟨List.mem_append_right _ (List.mem_append_right _ (List.mem_append_left _ (List.mem_of_getElem? (l := tables_1_2) (i := 52) rfl))), rfl⟩
theorem k_293 : Cond.instanceMethod yX0_extend ∈ sq_all := List.mem_filter.mpr ⟨List.mem_append_right _ (List.mem_append_right _ (List.mem_append_left _ (List.mem_of_getElem? (l := tables_1_2) (i := 53) rfl))), rfl⟩
theorem k_294 : Cond.selects RX0 yX0_extend yX0_extend ∈ sq_all := List.mem_filter.mpr ⟨List.mem_append_right _ (List.mem_append_right _ (List.mem_append_left _ (List.mem_of_getElem? (l := tables_1_2) (i := 54) rfl))), rfl⟩
theorem k_295 : Cond.code yX0_extend prog_2_method_4_code 4 (some .int) ∈ sq_all := List.mem_filter.mpr ⟨List.mem_append_right _ (List.mem_append_right _ (List.mem_append_left _ (List.mem_of_getElem? (l := tables_1_2) (i := 55) rfl))), rfl⟩
theorem k_296 : Cond.methodLink RL 22 yX8_close ∈ sq_all := List.mem_filter.mpr ⟨List.mem_append_right _ (List.mem_append_right _ (List.mem_append_left _ (List.mem_of_getElem? (l := tables_1_2) (i := 56) rfl))), rfl⟩
theorem k_297 : Cond.instanceMethod yX8_close ∈ sq_all := List.mem_filter.mpr ⟨List.mem_append_right _ (List.mem_append_right _ (List.mem_append_left _ (List.mem_of_getElem? (l := tables_1_2) (i := 57) rfl))), rfl⟩
theorem k_298 : Cond.selects RX8 yX8_close yX8_close ∈ sq_all := List.mem_filter.mpr ⟨List.mem_append_right _ (List.mem_append_right _ (List.mem_append_left _ (List.mem_of_getElem? (l := tables_1_2) (i := 58) rfl))), rfl⟩
theorem k_299 : Cond.code yX8_close prog_1_method_4_code 1 (some .int) ∈ sq_all := List.mem_filter.mpr ⟨List.mem_append_right _ (List.mem_append_right _ (List.mem_append_left _ (List.mem_of_getElem? (l := tables_1_2) (i := 59) rfl))), rfl⟩
theorem k_300 : Cond.methodLink RX8 69 yX0_shut ∈ sq_all := List.mem_filter.mpr ⟨List.mem_append_right _ (List.mem_append_right _ (List.mem_append_left _ (List.mem_of_getElem? (l := tables_1_2) (i := 60) rfl))), rfl⟩
theorem k_301 : Cond.instanceMethod yX0_shut ∈ sq_all := List.mem_filter.mpr ⟨List.mem_append_right _ (List.mem_append_right _ (List.mem_append_left _ (List.mem_of_getElem? (l := tables_1_2) (i := 61) rfl))), rfl⟩
theorem k_302 : Cond.selects RX0 yX0_shut yX0_shut ∈ sq_all := List.mem_filter.mpr ⟨List.mem_append_right _ (List.mem_append_right _ (List.mem_append_left _ (List.mem_of_getElem? (l := tables_1_2) (i := 62) rfl))), rfl⟩
theorem k_303 : Cond.code yX0_shut prog_2_method_6_code 2 (some .int) ∈ sq_all := List.mem_filter.mpr ⟨List.mem_append_right _ (List.mem_append_right _ (List.mem_append_left _ (List.mem_of_getElem? (l := tables_1_2) (i := 63) rfl))), rfl⟩
theorem k_304 : Cond.methodLink RL 27 yX8_clear ∈ sq_all := List.mem_filter.mpr ⟨List.mem_append_right _ (List.mem_append_right _ (List.mem_append_left _ (List.mem_of_getElem? (l := tables_1_2) (i := 64) rfl))), rfl⟩
theorem k_305 : Cond.instanceMethod yX8_clear ∈ sq_all := List.mem_filter.mpr ⟨List.mem_append_right _ (List.mem_append_right _ (List.mem_append_left _ (List.mem_of_getElem? (l := tables_1_2) (i := 65) rfl))), rfl⟩
theorem k_306 : Cond.selects RX8 yX8_clear yX8_clear ∈ sq_all := List.mem_filter.mpr ⟨List.mem_append_right _ (List.mem_append_right _ (List.mem_append_left _ (List.mem_of_getElem? (l := tables_1_2) (i := 66) rfl))), rfl⟩
theorem k_307 : Cond.code yX8_clear prog_1_method_5_code 1 (some .int) ∈ sq_all := List.mem_filter.mpr ⟨List.mem_append_right _ (List.mem_append_right _ (List.mem_append_left _ (List.mem_of_getElem? (l := tables_1_2) (i := 67) rfl))), rfl⟩
theorem k_308 : Cond.methodLink RX8 73 yX3_empty ∈ sq_all := List.mem_filter.mpr ⟨List.mem_append_right _ (List.mem_append_right _ (List.mem_append_left _ (List.mem_of_getElem? (l := tables_1_2) (i := 68) rfl))), rfl⟩
theorem k_309 : Cond.instanceMethod yX3_empty ∈ sq_all := List.mem_filter.mpr ⟨List.mem_append_right _ (List.mem_append_right _ (List.mem_append_left _ (List.mem_of_getElem? (l := tables_1_2) (i := 69) rfl))), rfl⟩
theorem k_310 : Cond.selects RX3 yX3_empty yX3_empty ∈ sq_all := List.mem_filter.mpr ⟨List.mem_append_right _ (List.mem_append_right _ (List.mem_append_left _ (List.mem_of_getElem? (l := tables_1_2) (i := 70) rfl))), rfl⟩
theorem k_311 : Cond.code yX3_empty prog_5_method_2_code 1 none ∈ sq_all := List.mem_filter.mpr ⟨List.mem_append_right _ (List.mem_append_right _ (List.mem_append_left _ (List.mem_of_getElem? (l := tables_1_2) (i := 71) rfl))), rfl⟩
theorem k_312 : Cond.methodLink RX8 76 yX0_empty ∈ sq_all := List.mem_filter.mpr ⟨List.mem_append_right _ (List.mem_append_right _ (List.mem_append_left _ (List.mem_of_getElem? (l := tables_1_2) (i := 72) rfl))), rfl⟩
theorem k_313 : Cond.instanceMethod yX0_empty ∈ sq_all := List.mem_filter.mpr ⟨List.mem_append_right _ (List.mem_append_right _ (List.mem_append_left _ (List.mem_of_getElem? (l := tables_1_2) (i := 73) rfl))), rfl⟩
theorem k_314 : Cond.selects RX0 yX0_empty yX0_empty ∈ sq_all := List.mem_filter.mpr ⟨List.mem_append_right _ (List.mem_append_right _ (List.mem_append_left _ (List.mem_of_getElem? (l := tables_1_2) (i := 74) rfl))), rfl⟩
theorem k_315 : Cond.code yX0_empty prog_2_method_7_code 2 (some .int) ∈ sq_all := List.mem_filter.mpr ⟨List.mem_append_right _ (List.mem_append_right _ (List.mem_append_left _ (List.mem_of_getElem? (l := tables_1_2) (i := 75) rfl))), rfl⟩
theorem k_316 : Cond.methodLink RL 31 yX8_pen ∈ sq_all := List.mem_filter.mpr ⟨List.mem_append_right _ (List.mem_append_right _ (List.mem_append_left _ (List.mem_of_getElem? (l := tables_1_2) (i := 76) rfl))), rfl⟩
theorem k_317 : Cond.instanceMethod yX8_pen ∈ sq_all := List.mem_filter.mpr ⟨List.mem_append_right _ (List.mem_append_right _ (List.mem_append_left _ (List.mem_of_getElem? (l := tables_1_2) (i := 77) rfl))), rfl⟩
theorem k_318 : Cond.selects RX8 yX8_pen yX8_pen ∈ sq_all := List.mem_filter.mpr ⟨List.mem_append_right _ (List.mem_append_right _ (List.mem_append_left _ (List.mem_of_getElem? (l := tables_1_2) (i := 78) rfl))), rfl⟩
theorem k_319 : Cond.code yX8_pen prog_1_method_6_code 5 (some .boolean) ∈ sq_all := List.mem_filter.mpr ⟨List.mem_append_right _ (List.mem_append_right _ (List.mem_append_left _ (List.mem_of_getElem? (l := tables_1_2) (i := 79) rfl))), rfl⟩
theorem k_320 : Cond.methodLink RX8 78 yX6_set ∈ sq_all := List.mem_filter.mpr ⟨List.mem_append_right _ (List.mem_append_right _ (List.mem_append_left _ (List.mem_of_getElem? (l := tables_1_2) (i := 80) rfl))), rfl⟩
theorem k_321 : Cond.instanceMethod yX6_set ∈ sq_all := List.mem_filter.mpr ⟨List.mem_append_right _ (List.mem_append_right _ (List.mem_append_left _ (List.mem_of_getElem? (l := tables_1_2) (i := 81) rfl))), rfl⟩
theorem k_322 : Cond.selects RX6 yX6_set yX6_set ∈ sq_all := List.mem_filter.mpr ⟨List.mem_append_right _ (List.mem_append_right _ (List.mem_append_left _ (List.mem_of_getElem? (l := tables_1_2) (i := 82) rfl))), rfl⟩
theorem k_323 : Cond.code yX6_set prog_8_method_2_code 5 (some .boolean) ∈ sq_all := List.mem_filter.mpr ⟨List.mem_append_right _ (List.mem_append_right _ (List.mem_append_left _ (List.mem_of_getElem? (l := tables_1_2) (i := 83) rfl))), rfl⟩
theorem k_324 : Cond.constant RX6 25 4194304 ∈ sq_all := List.mem_filter.mpr ⟨List.mem_append_right _ (List.mem_append_right _ (List.mem_append_left _ (List.mem_of_getElem? (l := tables_1_2) (i := 84) rfl))), rfl⟩
theorem k_325 : Cond.constant RX6 26 65536 ∈ sq_all := List.mem_filter.mpr ⟨List.mem_append_right _ (List.mem_append_right _ (List.mem_append_left _ (List.mem_of_getElem? (l := tables_1_2) (i := 85) rfl))), rfl⟩
theorem k_326 : Cond.constant RX6 27 6553600 ∈ sq_all := List.mem_filter.mpr ⟨List.mem_append_right _ (List.mem_append_right _ (List.mem_append_left _ (List.mem_of_getElem? (l := tables_1_2) (i := 86) rfl))), rfl⟩
theorem k_327 : Cond.methodLink RL 36 yX8_length ∈ sq_all := List.mem_filter.mpr ⟨List.mem_append_right _ (List.mem_append_right _ (List.mem_append_left _ (List.mem_of_getElem? (l := tables_1_2) (i := 87) rfl))), rfl⟩
theorem k_328 : Cond.instanceMethod yX8_length ∈ sq_all := List.mem_filter.mpr ⟨List.mem_append_right _ (List.mem_append_right _ (List.mem_append_left _ (List.mem_of_getElem? (l := tables_1_2) (i := 88) rfl))), rfl⟩
theorem k_329 : Cond.selects RX8 yX8_length yX8_length ∈ sq_all := List.mem_filter.mpr ⟨List.mem_append_right _ (List.mem_append_right _ (List.mem_append_left _ (List.mem_of_getElem? (l := tables_1_2) (i := 89) rfl))), rfl⟩
theorem k_330 : Cond.code yX8_length prog_1_method_7_code 3 (some .boolean) ∈ sq_all := List.mem_filter.mpr ⟨List.mem_append_right _ (List.mem_append_right _ (List.mem_append_left _ (List.mem_of_getElem? (l := tables_1_2) (i := 90) rfl))), rfl⟩
theorem k_331 : Cond.methodLink RX8 82 yX2_give ∈ sq_all := List.mem_filter.mpr ⟨List.mem_append_right _ (List.mem_append_right _ (List.mem_append_left _ (List.mem_of_getElem? (l := tables_1_2) (i := 91) rfl))), rfl⟩
theorem k_332 : Cond.instanceMethod yX2_give ∈ sq_all := List.mem_filter.mpr ⟨List.mem_append_right _ (List.mem_append_right _ (List.mem_append_left _ (List.mem_of_getElem? (l := tables_1_2) (i := 92) rfl))), rfl⟩
theorem k_333 : Cond.selects RX2 yX2_give yX2_give ∈ sq_all := List.mem_filter.mpr ⟨List.mem_append_right _ (List.mem_append_right _ (List.mem_append_left _ (List.mem_of_getElem? (l := tables_1_2) (i := 93) rfl))), rfl⟩
theorem k_334 : Cond.code yX2_give prog_4_method_2_code 3 (some .boolean) ∈ sq_all := List.mem_filter.mpr ⟨List.mem_append_right _ (List.mem_append_right _ (List.mem_append_left _ (List.mem_of_getElem? (l := tables_1_2) (i := 94) rfl))), rfl⟩
theorem k_336 : Cond.static yX8_isUnits ∈ sq_all := List.mem_filter.mpr ⟨List.mem_append_right _ (List.mem_append_right _ (List.mem_append_left _ (List.mem_of_getElem? (l := tables_1_2) (i := 96) rfl))), rfl⟩
theorem k_337 : Cond.code yX8_isUnits prog_1_method_15_code 1 (some .boolean) ∈ sq_all := List.mem_filter.mpr ⟨List.mem_append_right _ (List.mem_append_right _ (List.mem_append_left _ (List.mem_of_getElem? (l := tables_1_2) (i := 97) rfl))), rfl⟩
theorem k_338 : Cond.constant RX8 132 536870912 ∈ sq_all := List.mem_filter.mpr ⟨List.mem_append_right _ (List.mem_append_right _ (List.mem_append_left _ (List.mem_of_getElem? (l := tables_1_2) (i := 98) rfl))), rfl⟩
theorem k_339 : Cond.methodLink RL 41 yX8_dashes ∈ sq_all := List.mem_filter.mpr ⟨List.mem_append_right _ (List.mem_append_right _ (List.mem_append_left _ (List.mem_of_getElem? (l := tables_1_2) (i := 99) rfl))), rfl⟩
theorem k_340 : Cond.instanceMethod yX8_dashes ∈ sq_all := List.mem_filter.mpr ⟨List.mem_append_right _ (List.mem_append_right _ (List.mem_append_left _ (List.mem_of_getElem? (l := tables_1_2) (i := 100) rfl))), rfl⟩
theorem k_341 : Cond.selects RX8 yX8_dashes yX8_dashes ∈ sq_all := List.mem_filter.mpr ⟨List.mem_append_right _ (List.mem_append_right _ (List.mem_append_left _ (List.mem_of_getElem? (l := tables_1_2) (i := 101) rfl))), rfl⟩
theorem k_342 : Cond.code yX8_dashes prog_1_method_8_code 3 (some .boolean) ∈ sq_all := List.mem_filter.mpr ⟨List.mem_append_right _ (List.mem_append_right _ (List.mem_append_left _ (List.mem_of_getElem? (l := tables_1_2) (i := 102) rfl))), rfl⟩
theorem k_343 : Cond.methodLink RX8 86 yX2_use ∈ sq_all := List.mem_filter.mpr ⟨List.mem_append_right _ (List.mem_append_right _ (List.mem_append_left _ (List.mem_of_getElem? (l := tables_1_2) (i := 103) rfl))), rfl⟩
theorem k_344 : Cond.instanceMethod yX2_use ∈ sq_all := List.mem_filter.mpr ⟨List.mem_append_right _ (List.mem_append_right _ (List.mem_append_left _ (List.mem_of_getElem? (l := tables_1_2) (i := 104) rfl))), rfl⟩
theorem k_345 : Cond.selects RX2 yX2_use yX2_use ∈ sq_all := List.mem_filter.mpr ⟨List.mem_append_right _ (List.mem_append_right _ (List.mem_append_left _ (List.mem_of_getElem? (l := tables_1_2) (i := 105) rfl))), rfl⟩
theorem k_346 : Cond.code yX2_use prog_4_method_3_code 6 (some .boolean) ∈ sq_all := List.mem_filter.mpr ⟨List.mem_append_right _ (List.mem_append_right _ (List.mem_append_left _ (List.mem_of_getElem? (l := tables_1_2) (i := 106) rfl))), rfl⟩
theorem k_347 : Cond.methodLink RX2 26 yX2_passOffset ∈ sq_all := List.mem_filter.mpr ⟨List.mem_append_right _ (List.mem_append_right _ (List.mem_append_left _ (List.mem_of_getElem? (l := tables_1_2) (i := 107) rfl))), rfl⟩
theorem k_349 : Cond.instanceMethod yX2_passOffset ∈ sq_all := List.mem_filter.mpr ⟨List.mem_append_right _ (List.mem_append_right _ (List.mem_append_left _ (List.mem_of_getElem? (l := tables_1_2) (i := 109) rfl))), rfl⟩
theorem k_350 : Cond.code yX2_passOffset prog_4_method_4_code 9 none ∈ sq_all := List.mem_filter.mpr ⟨List.mem_append_right _ (List.mem_append_right _ (List.mem_append_left _ (List.mem_of_getElem? (l := tables_1_2) (i := 110) rfl))), rfl⟩
theorem k_351 : Cond.methodLink RL 45 yX8_stroke ∈ sq_all := List.mem_filter.mpr ⟨List.mem_append_right _ (List.mem_append_right _ (List.mem_append_left _ (List.mem_of_getElem? (l := tables_1_2) (i := 111) rfl))), rfl⟩
theorem k_352 : Cond.instanceMethod yX8_stroke ∈ sq_all := List.mem_filter.mpr ⟨List.mem_append_right _ (List.mem_append_right _ (List.mem_append_left _ (List.mem_of_getElem? (l := tables_1_2) (i := 112) rfl))), rfl⟩
theorem k_353 : Cond.selects RX8 yX8_stroke yX8_stroke ∈ sq_all := List.mem_filter.mpr ⟨List.mem_append_right _ (List.mem_append_right _ (List.mem_append_left _ (List.mem_of_getElem? (l := tables_1_2) (i := 113) rfl))), rfl⟩
theorem k_354 : Cond.code yX8_stroke prog_1_method_9_code 3 (some .int) ∈ sq_all := List.mem_filter.mpr ⟨List.mem_append_right _ (List.mem_append_right _ (List.mem_append_left _ (List.mem_of_getElem? (l := tables_1_2) (i := 114) rfl))), rfl⟩
theorem k_355 : Cond.methodLink RX8 89 yX7_reset ∈ sq_all := List.mem_filter.mpr ⟨List.mem_append_right _ (List.mem_append_right _ (List.mem_append_left _ (List.mem_of_getElem? (l := tables_1_2) (i := 115) rfl))), rfl⟩
theorem k_356 : Cond.instanceMethod yX7_reset ∈ sq_all := List.mem_filter.mpr ⟨List.mem_append_right _ (List.mem_append_right _ (List.mem_append_left _ (List.mem_of_getElem? (l := tables_1_2) (i := 116) rfl))), rfl⟩
theorem k_357 : Cond.selects RX7 yX7_reset yX7_reset ∈ sq_all := List.mem_filter.mpr ⟨List.mem_append_right _ (List.mem_append_right _ (List.mem_append_left _ (List.mem_of_getElem? (l := tables_1_2) (i := 117) rfl))), rfl⟩
theorem k_358 : Cond.code yX7_reset prog_9_method_2_code 1 none ∈ sq_all := List.mem_filter.mpr ⟨List.mem_append_right _ (List.mem_append_right _ (List.mem_append_left _ (List.mem_of_getElem? (l := tables_1_2) (i := 118) rfl))), rfl⟩
theorem k_359 : Cond.methodLink RX8 92 yX0_count ∈ sq_all := List.mem_filter.mpr ⟨List.mem_append_right _ (List.mem_append_right _ (List.mem_append_left _ (List.mem_of_getElem? (l := tables_1_2) (i := 119) rfl))), rfl⟩
theorem k_360 : Cond.instanceMethod yX0_count ∈ sq_all := List.mem_filter.mpr ⟨List.mem_append_right _ (List.mem_append_right _ (List.mem_append_left _ (List.mem_of_getElem? (l := tables_1_2) (i := 120) rfl))), rfl⟩
theorem k_361 : Cond.selects RX0 yX0_count yX0_count ∈ sq_all := List.mem_filter.mpr ⟨List.mem_append_right _ (List.mem_append_right _ (List.mem_append_left _ (List.mem_of_getElem? (l := tables_1_2) (i := 121) rfl))), rfl⟩
theorem k_362 : Cond.code yX0_count prog_2_method_2_code 1 (some .int) ∈ sq_all := List.mem_filter.mpr ⟨List.mem_append_right _ (List.mem_append_right _ (List.mem_append_left _ (List.mem_of_getElem? (l := tables_1_2) (i := 122) rfl))), rfl⟩
theorem k_363 : Cond.methodLink RX8 95 yX3_isGoing ∈ sq_all := List.mem_filter.mpr ⟨List.mem_append_right _ (List.mem_append_right _ (List.mem_append_left _ (List.mem_of_getElem? (l := tables_1_2) (i := 123) rfl))), rfl⟩
theorem k_364 : Cond.instanceMethod yX3_isGoing ∈ sq_all := List.mem_filter.mpr ⟨List.mem_append_right _ (List.mem_append_right _ (List.mem_append_left _ (List.mem_of_getElem? (l := tables_1_2) (i := 124) rfl))), rfl⟩
theorem k_365 : Cond.selects RX3 yX3_isGoing yX3_isGoing ∈ sq_all := List.mem_filter.mpr ⟨List.mem_append_right _ (List.mem_append_right _ (List.mem_append_left _ (List.mem_of_getElem? (l := tables_1_2) (i := 125) rfl))), rfl⟩
theorem k_366 : Cond.code yX3_isGoing prog_5_method_3_code 1 (some .boolean) ∈ sq_all := List.mem_filter.mpr ⟨List.mem_append_right _ (List.mem_append_right _ (List.mem_append_left _ (List.mem_of_getElem? (l := tables_1_2) (i := 126) rfl))), rfl⟩
theorem k_367 : Cond.methodLink RX8 99 yX0_copyTo ∈ sq_all := List.mem_filter.mpr ⟨List.mem_append_right _ (List.mem_append_right _ (List.mem_append_left _ (List.mem_of_getElem? (l := tables_1_2) (i := 127) rfl))), rfl⟩
theorem k_368 : Cond.instanceMethod yX0_copyTo ∈ sq_all := List.mem_filter.mpr ⟨List.mem_append_right _ (List.mem_append_right _ (List.mem_append_left _ (List.mem_of_getElem? (l := tables_1_2) (i := 128) rfl))), rfl⟩
theorem k_369 : Cond.selects RX0 yX0_copyTo yX0_copyTo ∈ sq_all := List.mem_filter.mpr ⟨List.mem_append_right _ (List.mem_append_right _ (List.mem_append_left _ (List.mem_of_getElem? (l := tables_1_2) (i := 129) rfl))), rfl⟩
theorem k_370 : Cond.code yX0_copyTo prog_2_method_8_code 6 none ∈ sq_all := List.mem_filter.mpr ⟨List.mem_append_right _ (List.mem_append_right _ (List.mem_append_left _ (List.mem_of_getElem? (l := tables_1_2) (i := 130) rfl))), rfl⟩
theorem k_371 : Cond.methodLink RX0 40 yX4_start ∈ sq_all := List.mem_filter.mpr ⟨List.mem_append_right _ (List.mem_append_right _ (List.mem_append_left _ (List.mem_of_getElem? (l := tables_1_2) (i := 131) rfl))), rfl⟩
theorem k_372 : Cond.instanceMethod yX4_start ∈ sq_all := List.mem_filter.mpr ⟨List.mem_append_right _ (List.mem_append_right _ (List.mem_append_left _ (List.mem_of_getElem? (l := tables_1_2) (i := 132) rfl))), rfl⟩
theorem k_373 : Cond.selects RX4 yX4_start yX4_start ∈ sq_all := List.mem_filter.mpr ⟨List.mem_append_right _ (List.mem_append_right _ (List.mem_append_left _ (List.mem_of_getElem? (l := tables_1_2) (i := 133) rfl))), rfl⟩
theorem k_374 : Cond.code yX4_start prog_6_method_2_code 2 none ∈ sq_all := List.mem_filter.mpr ⟨List.mem_append_right _ (List.mem_append_right _ (List.mem_append_left _ (List.mem_of_getElem? (l := tables_1_2) (i := 134) rfl))), rfl⟩
theorem k_375 : Cond.methodLink RX0 46 yX4_add ∈ sq_all := List.mem_filter.mpr ⟨List.mem_append_right _ (List.mem_append_right _ (List.mem_append_left _ (List.mem_of_getElem? (l := tables_1_2) (i := 135) rfl))), rfl⟩
theorem k_376 : Cond.instanceMethod yX4_add ∈ sq_all := List.mem_filter.mpr ⟨List.mem_append_right _ (List.mem_append_right _ (List.mem_append_left _ (List.mem_of_getElem? (l := tables_1_2) (i := 136) rfl))), rfl⟩
theorem k_377 : Cond.selects RX4 yX4_add yX4_add ∈ sq_all := List.mem_filter.mpr ⟨List.mem_append_right _ (List.mem_append_right _ (List.mem_append_left _ (List.mem_of_getElem? (l := tables_1_2) (i := 137) rfl))), rfl⟩
theorem k_378 : Cond.code yX4_add prog_6_method_3_code 4 none ∈ sq_all := List.mem_filter.mpr ⟨List.mem_append_right _ (List.mem_append_right _ (List.mem_append_left _ (List.mem_of_getElem? (l := tables_1_2) (i := 138) rfl))), rfl⟩
theorem k_379 : Cond.methodLink RX0 50 yX4_dropLastLikeFirst ∈ sq_all := List.mem_filter.mpr ⟨List.mem_append_right _ (List.mem_append_right _ (List.mem_append_left _ (List.mem_of_getElem? (l := tables_1_2) (i := 139) rfl))), rfl⟩
theorem k_380 : Cond.instanceMethod yX4_dropLastLikeFirst ∈ sq_all := List.mem_filter.mpr ⟨List.mem_append_right _ (List.mem_append_right _ (List.mem_append_left _ (List.mem_of_getElem? (l := tables_1_2) (i := 140) rfl))), rfl⟩
theorem k_381 : Cond.selects RX4 yX4_dropLastLikeFirst yX4_dropLastLikeFirst ∈ sq_all := List.mem_filter.mpr ⟨List.mem_append_right _ (List.mem_append_right _ (List.mem_append_left _ (List.mem_of_getElem? (l := tables_1_2) (i := 141) rfl))), rfl⟩
theorem k_382 : Cond.code yX4_dropLastLikeFirst prog_6_method_4_code 2 none ∈ sq_all := List.mem_filter.mpr ⟨List.mem_append_right _ (List.mem_append_right _ (List.mem_append_left _ (List.mem_of_getElem? (l := tables_1_2) (i := 142) rfl))), rfl⟩
theorem k_383 : Cond.methodLink RX8 103 yX2_isUsed ∈ sq_all := List.mem_filter.mpr ⟨List.mem_append_right _ (List.mem_append_right _ (List.mem_append_left _ (List.mem_of_getElem? (l := tables_1_2) (i := 143) rfl))), rfl⟩
theorem k_384 : Cond.instanceMethod yX2_isUsed ∈ sq_all := List.mem_filter.mpr ⟨List.mem_append_right _ (List.mem_append_right _ (List.mem_append_left _ (List.mem_of_getElem? (l := tables_1_2) (i := 144) rfl))), rfl⟩
theorem k_385 : Cond.selects RX2 yX2_isUsed yX2_isUsed ∈ sq_all := List.mem_filter.mpr ⟨List.mem_append_right _ (List.mem_append_right _ (List.mem_append_left _ (List.mem_of_getElem? (l := tables_1_2) (i := 145) rfl))), rfl⟩
theorem k_386 : Cond.code yX2_isUsed prog_4_method_5_code 1 (some .boolean) ∈ sq_all := List.mem_filter.mpr ⟨List.mem_append_right _ (List.mem_append_right _ (List.mem_append_left _ (List.mem_of_getElem? (l := tables_1_2) (i := 146) rfl))), rfl⟩
theorem k_387 : Cond.methodLink RX8 106 yX7_along ∈ sq_all := List.mem_filter.mpr ⟨List.mem_append_right _ (List.mem_append_right _ (List.mem_append_left _ (List.mem_of_getElem? (l := tables_1_2) (i := 147) rfl))), rfl⟩
theorem k_388 : Cond.instanceMethod yX7_along ∈ sq_all := List.mem_filter.mpr ⟨List.mem_append_right _ (List.mem_append_right _ (List.mem_append_left _ (List.mem_of_getElem? (l := tables_1_2) (i := 148) rfl))), rfl⟩
theorem k_389 : Cond.selects RX7 yX7_along yX7_along ∈ sq_all := List.mem_filter.mpr ⟨List.mem_append_right _ (List.mem_append_right _ (List.mem_append_left _ (List.mem_of_getElem? (l := tables_1_2) (i := 149) rfl))), rfl⟩
theorem k_390 : Cond.code yX7_along prog_9_method_4_code 4 none ∈ sq_all := List.mem_filter.mpr ⟨List.mem_append_right _ (List.mem_append_right _ (List.mem_append_left _ (List.mem_of_getElem? (l := tables_1_2) (i := 150) rfl))), rfl⟩
theorem k_391 : Cond.methodLink RX7 41 yX4_segments ∈ sq_all := List.mem_filter.mpr ⟨List.mem_append_right _ (List.mem_append_right _ (List.mem_append_left _ (List.mem_of_getElem? (l := tables_1_2) (i := 151) rfl))), rfl⟩
theorem k_392 : Cond.instanceMethod yX4_segments ∈ sq_all := List.mem_filter.mpr ⟨List.mem_append_right _ (List.mem_append_right _ (List.mem_append_left _ (List.mem_of_getElem? (l := tables_1_2) (i := 152) rfl))), rfl⟩
theorem k_393 : Cond.selects RX4 yX4_segments yX4_segments ∈ sq_all := List.mem_filter.mpr ⟨List.mem_append_right _ (List.mem_append_right _ (List.mem_append_left _ (List.mem_of_getElem? (l := tables_1_2) (i := 153) rfl))), rfl⟩
theorem k_394 : Cond.code yX4_segments prog_6_method_6_code 1 (some .int) ∈ sq_all := List.mem_filter.mpr ⟨List.mem_append_right _ (List.mem_append_right _ (List.mem_append_left _ (List.mem_of_getElem? (l := tables_1_2) (i := 154) rfl))), rfl⟩
theorem k_395 : Cond.methodLink RX7 45 yX2_firstAt ∈ sq_all := List.mem_filter.mpr ⟨List.mem_append_right _ (List.mem_append_right _ (List.mem_append_left _ (List.mem_of_getElem? (l := tables_1_2) (i := 155) rfl))), rfl⟩
theorem k_396 : Cond.instanceMethod yX2_firstAt ∈ sq_all := List.mem_filter.mpr ⟨List.mem_append_right _ (List.mem_append_right _ (List.mem_append_left _ (List.mem_of_getElem? (l := tables_1_2) (i := 156) rfl))), rfl⟩
theorem k_397 : Cond.selects RX2 yX2_firstAt yX2_firstAt ∈ sq_all := List.mem_filter.mpr ⟨List.mem_append_right _ (List.mem_append_right _ (List.mem_append_left _ (List.mem_of_getElem? (l := tables_1_2) (i := 157) rfl))), rfl⟩
theorem k_398 : Cond.code yX2_firstAt prog_4_method_6_code 1 (some .int) ∈ sq_all := List.mem_filter.mpr ⟨List.mem_append_right _ (List.mem_append_right _ (List.mem_append_left _ (List.mem_of_getElem? (l := tables_1_2) (i := 158) rfl))), rfl⟩
theorem k_399 : Cond.methodLink RX7 53 yX2_firstLeft ∈ sq_all := List.mem_filter.mpr ⟨List.mem_append_right _ (List.mem_append_right _ (List.mem_append_left _ (List.mem_of_getElem? (l := tables_1_2) (i := 159) rfl))), rfl⟩
theorem k_400 : Cond.instanceMethod yX2_firstLeft ∈ sq_all := List.mem_filter.mpr ⟨List.mem_append_right _ (List.mem_append_right _ (List.mem_append_left _ (List.mem_of_getElem? (l := tables_1_2) (i := 160) rfl))), rfl⟩
theorem k_401 : Cond.selects RX2 yX2_firstLeft yX2_firstLeft ∈ sq_all := List.mem_filter.mpr ⟨List.mem_append_right _ (List.mem_append_right _ (List.mem_append_left _ (List.mem_of_getElem? (l := tables_1_2) (i := 161) rfl))), rfl⟩
theorem k_402 : Cond.code yX2_firstLeft prog_4_method_7_code 1 (some .long) ∈ sq_all := List.mem_filter.mpr ⟨List.mem_append_right _ (List.mem_append_right _ (List.mem_append_left _ (List.mem_of_getElem? (l := tables_1_2) (i := 162) rfl))), rfl⟩
theorem k_403 : Cond.methodLink RX7 61 yX2_firstGap ∈ sq_all := List.mem_filter.mpr ⟨List.mem_append_right _ (List.mem_append_right _ (List.mem_append_left _ (List.mem_of_getElem? (l := tables_1_2) (i := 163) rfl))), rfl⟩
theorem k_404 : Cond.instanceMethod yX2_firstGap ∈ sq_all := List.mem_filter.mpr ⟨List.mem_append_right _ (List.mem_append_right _ (List.mem_append_left _ (List.mem_of_getElem? (l := tables_1_2) (i := 164) rfl))), rfl⟩
theorem k_405 : Cond.selects RX2 yX2_firstGap yX2_firstGap ∈ sq_all := List.mem_filter.mpr ⟨List.mem_append_right _ (List.mem_append_right _ (List.mem_append_left _ (List.mem_of_getElem? (l := tables_1_2) (i := 165) rfl))), rfl⟩
theorem k_406 : Cond.code yX2_firstGap prog_4_method_8_code 1 (some .boolean) ∈ sq_all := List.mem_filter.mpr ⟨List.mem_append_right _ (List.mem_append_right _ (List.mem_append_left _ (List.mem_of_getElem? (l := tables_1_2) (i := 166) rfl))), rfl⟩
theorem k_407 : Cond.methodLink RX7 69 yX7_countOne ∈ sq_all := List.mem_filter.mpr ⟨List.mem_append_right _ (List.mem_append_right _ (List.mem_append_left _ (List.mem_of_getElem? (l := tables_1_2) (i := 167) rfl))), rfl⟩
theorem k_409 : Cond.instanceMethod yX7_countOne ∈ sq_all := List.mem_filter.mpr ⟨List.mem_append_right _ (List.mem_append_right _ (List.mem_append_left _ (List.mem_of_getElem? (l := tables_1_2) (i := 169) rfl))), rfl⟩
theorem k_410 : Cond.code yX7_countOne prog_9_method_8_code 1 none ∈ sq_all := List.mem_filter.mpr ⟨List.mem_append_right _ (List.mem_append_right _ (List.mem_append_left _ (List.mem_of_getElem? (l := tables_1_2) (i := 170) rfl))), rfl⟩
theorem k_411 : Cond.methodLink RX7 134 yX3_stop ∈ sq_all := List.mem_filter.mpr ⟨List.mem_append_right _ (List.mem_append_right _ (List.mem_append_left _ (List.mem_of_getElem? (l := tables_1_2) (i := 171) rfl))), rfl⟩
theorem k_412 : Cond.instanceMethod yX3_stop ∈ sq_all := List.mem_filter.mpr ⟨List.mem_append_right _ (List.mem_append_right _ (List.mem_append_left _ (List.mem_of_getElem? (l := tables_1_2) (i := 172) rfl))), rfl⟩
theorem k_413 : Cond.selects RX3 yX3_stop yX3_stop ∈ sq_all := List.mem_filter.mpr ⟨List.mem_append_right _ (List.mem_append_right _ (List.mem_append_left _ (List.mem_of_getElem? (l := tables_1_2) (i := 173) rfl))), rfl⟩
theorem k_414 : Cond.code yX3_stop prog_5_method_6_code 2 none ∈ sq_all := List.mem_filter.mpr ⟨List.mem_append_right _ (List.mem_append_right _ (List.mem_append_left _ (List.mem_of_getElem? (l := tables_1_2) (i := 174) rfl))), rfl⟩
theorem k_415 : Cond.methodLink RX7 72 yX4_xAt ∈ sq_all := List.mem_filter.mpr ⟨List.mem_append_right _ (List.mem_append_right _ (List.mem_append_left _ (List.mem_of_getElem? (l := tables_1_2) (i := 175) rfl))), rfl⟩
theorem k_416 : Cond.instanceMethod yX4_xAt ∈ sq_all := List.mem_filter.mpr ⟨List.mem_append_right _ (List.mem_append_right _ (List.mem_append_left _ (List.mem_of_getElem? (l := tables_1_2) (i := 176) rfl))), rfl⟩
theorem k_417 : Cond.selects RX4 yX4_xAt yX4_xAt ∈ sq_all := List.mem_filter.mpr ⟨List.mem_append_right _ (List.mem_append_right _ (List.mem_append_left _ (List.mem_of_getElem? (l := tables_1_2) (i := 177) rfl))), rfl⟩
theorem k_418 : Cond.code yX4_xAt prog_6_method_7_code 2 (some .int) ∈ sq_all := List.mem_filter.mpr ⟨List.mem_append_right _ (List.mem_append_right _ (List.mem_append_left _ (List.mem_of_getElem? (l := tables_1_2) (i := 178) rfl))), rfl⟩
theorem k_419 : Cond.methodLink RX4 26 yX4_inside ∈ sq_all := List.mem_filter.mpr ⟨List.mem_append_right _ (List.mem_append_right _ (List.mem_append_left _ (List.mem_of_getElem? (l := tables_1_2) (i := 179) rfl))), rfl⟩
theorem k_421 : Cond.instanceMethod yX4_inside ∈ sq_all := List.mem_filter.mpr ⟨List.mem_append_right _ (List.mem_append_right _ (List.mem_append_left _ (List.mem_of_getElem? (l := tables_1_2) (i := 181) rfl))), rfl⟩
theorem k_422 : Cond.code yX4_inside prog_6_method_9_code 2 (some .int) ∈ sq_all := List.mem_filter.mpr ⟨List.mem_append_right _ (List.mem_append_right _ (List.mem_append_left _ (List.mem_of_getElem? (l := tables_1_2) (i := 182) rfl))), rfl⟩
theorem k_423 : Cond.methodLink RX7 76 yX4_yAt ∈ sq_all := List.mem_filter.mpr ⟨List.mem_append_right _ (List.mem_append_right _ (List.mem_append_left _ (List.mem_of_getElem? (l := tables_1_2) (i := 183) rfl))), rfl⟩
theorem k_424 : Cond.instanceMethod yX4_yAt ∈ sq_all := List.mem_filter.mpr ⟨List.mem_append_right _ (List.mem_append_right _ (List.mem_append_left _ (List.mem_of_getElem? (l := tables_1_2) (i := 184) rfl))), rfl⟩
theorem k_425 : Cond.selects RX4 yX4_yAt yX4_yAt ∈ sq_all := List.mem_filter.mpr ⟨List.mem_append_right _ (List.mem_append_right _ (List.mem_append_left _ (List.mem_of_getElem? (l := tables_1_2) (i := 185) rfl))), rfl⟩
theorem k_426 : Cond.code yX4_yAt prog_6_method_8_code 2 (some .int) ∈ sq_all := List.mem_filter.mpr ⟨List.mem_append_right _ (List.mem_append_right _ (List.mem_append_left _ (List.mem_of_getElem? (l := tables_1_2) (i := 186) rfl))), rfl⟩
theorem k_427 : Cond.methodLink RX7 79 yX7_beginDash ∈ sq_all := List.mem_filter.mpr ⟨List.mem_append_right _ (List.mem_append_right _ (List.mem_append_left _ (List.mem_of_getElem? (l := tables_1_2) (i := 187) rfl))), rfl⟩
theorem k_429 : Cond.instanceMethod yX7_beginDash ∈ sq_all := List.mem_filter.mpr ⟨List.mem_append_right _ (List.mem_append_right _ (List.mem_append_left _ (List.mem_of_getElem? (l := tables_1_2) (i := 189) rfl))), rfl⟩
theorem k_430 : Cond.code yX7_beginDash prog_9_method_7_code 3 none ∈ sq_all := List.mem_filter.mpr ⟨List.mem_append_right _ (List.mem_append_right _ (List.mem_append_left _ (List.mem_of_getElem? (l := tables_1_2) (i := 190) rfl))), rfl⟩
theorem k_431 : Cond.methodLink RX7 130 yX4_start ∈ sq_all := List.mem_filter.mpr ⟨List.mem_append_right _ (List.mem_append_right _ (List.mem_append_left _ (List.mem_of_getElem? (l := tables_1_2) (i := 191) rfl))), rfl⟩
theorem k_432 : Cond.methodLink RX7 111 yX4_add ∈ sq_all := List.mem_filter.mpr ⟨List.mem_append_right _ (List.mem_append_right _ (List.mem_append_left _ (List.mem_of_getElem? (l := tables_1_2) (i := 192) rfl))), rfl⟩
theorem k_433 : Cond.methodLink RX7 83 yX3_isGoing ∈ sq_all := List.mem_filter.mpr ⟨List.mem_append_right _ (List.mem_append_right _ (List.mem_append_left _ (List.mem_of_getElem? (l := tables_1_2) (i := 193) rfl))), rfl⟩
theorem k_434 : Cond.methodLink RX7 88 yX5_set ∈ sq_all := List.mem_filter.mpr ⟨List.mem_append_right _ (List.mem_append_right _ (List.mem_append_left _ (List.mem_of_getElem? (l := tables_1_2) (i := 194) rfl))), rfl⟩
theorem k_435 : Cond.instanceMethod yX5_set ∈ sq_all := List.mem_filter.mpr ⟨List.mem_append_right _ (List.mem_append_right _ (List.mem_append_left _ (List.mem_of_getElem? (l := tables_1_2) (i := 195) rfl))), rfl⟩
theorem k_436 : Cond.selects RX5 yX5_set yX5_set ∈ sq_all := List.mem_filter.mpr ⟨List.mem_append_right _ (List.mem_append_right _ (List.mem_append_left _ (List.mem_of_getElem? (l := tables_1_2) (i := 196) rfl))), rfl⟩
theorem k_437 : Cond.code yX5_set prog_7_method_2_code 3 none ∈ sq_all := List.mem_filter.mpr ⟨List.mem_append_right _ (List.mem_append_right _ (List.mem_append_left _ (List.mem_of_getElem? (l := tables_1_2) (i := 197) rfl))), rfl⟩
theorem k_438 : Cond.methodLink RX5 7 yX4_xAt ∈ sq_all := List.mem_filter.mpr ⟨List.mem_append_right _ (List.mem_append_right _ (List.mem_append_left _ (List.mem_of_getElem? (l := tables_1_2) (i := 198) rfl))), rfl⟩
theorem k_439 : Cond.methodLink RX5 19 yX4_yAt ∈ sq_all := List.mem_filter.mpr ⟨List.mem_append_right _ (List.mem_append_right _ (List.mem_append_left _ (List.mem_of_getElem? (l := tables_1_2) (i := 199) rfl))), rfl⟩
theorem k_441 : Cond.static yX8_root ∈ sq_all := List.mem_filter.mpr ⟨List.mem_append_right _ (List.mem_append_right _ (List.mem_append_left _ (List.mem_of_getElem? (l := tables_1_2) (i := 201) rfl))), rfl⟩
theorem k_442 : Cond.code yX8_root prog_1_method_17_code 8 (some .long) ∈ sq_all := List.mem_filter.mpr ⟨List.mem_append_right _ (List.mem_append_right _ (List.mem_append_left _ (List.mem_of_getElem? (l := tables_1_2) (i := 202) rfl))), rfl⟩
theorem k_443 : Cond.constantLong RX8 141 1152921504606846976 ∈ sq_all := List.mem_filter.mpr ⟨List.mem_append_right _ (List.mem_append_right _ (List.mem_append_left _ (List.mem_of_getElem? (l := tables_1_2) (i := 203) rfl))), rfl⟩
theorem k_444 : Cond.methodLink RX7 92 yX7_pass ∈ sq_all := List.mem_filter.mpr ⟨List.mem_append_right _ (List.mem_append_right _ (List.mem_append_left _ (List.mem_of_getElem? (l := tables_1_2) (i := 204) rfl))), rfl⟩
theorem k_446 : Cond.instanceMethod yX7_pass ∈ sq_all := List.mem_filter.mpr ⟨List.mem_append_right _ (List.mem_append_right _ (List.mem_append_left _ (List.mem_of_getElem? (l := tables_1_2) (i := 206) rfl))), rfl⟩
theorem k_447 : Cond.code yX7_pass prog_9_method_5_code 6 none ∈ sq_all := List.mem_filter.mpr ⟨List.mem_append_right _ (List.mem_append_right _ (List.mem_append_left _ (List.mem_of_getElem? (l := tables_1_2) (i := 207) rfl))), rfl⟩
theorem k_448 : Cond.methodLink RX7 104 yX5_cutX ∈ sq_all := List.mem_filter.mpr ⟨List.mem_append_right _ (List.mem_append_right _ (List.mem_append_left _ (List.mem_of_getElem? (l := tables_1_2) (i := 208) rfl))), rfl⟩
theorem k_449 : Cond.instanceMethod yX5_cutX ∈ sq_all := List.mem_filter.mpr ⟨List.mem_append_right _ (List.mem_append_right _ (List.mem_append_left _ (List.mem_of_getElem? (l := tables_1_2) (i := 209) rfl))), rfl⟩
theorem k_450 : Cond.selects RX5 yX5_cutX yX5_cutX ∈ sq_all := List.mem_filter.mpr ⟨List.mem_append_right _ (List.mem_append_right _ (List.mem_append_left _ (List.mem_of_getElem? (l := tables_1_2) (i := 210) rfl))), rfl⟩
theorem k_451 : Cond.code yX5_cutX prog_7_method_4_code 3 (some .int) ∈ sq_all := List.mem_filter.mpr ⟨List.mem_append_right _ (List.mem_append_right _ (List.mem_append_left _ (List.mem_of_getElem? (l := tables_1_2) (i := 211) rfl))), rfl⟩
theorem k_453 : Cond.static yX8_rounded ∈ sq_all := List.mem_filter.mpr ⟨List.mem_append_right _ (List.mem_append_right _ (List.mem_append_left _ (List.mem_of_getElem? (l := tables_1_2) (i := 213) rfl))), rfl⟩
theorem k_454 : Cond.code yX8_rounded prog_1_method_16_code 4 (some .long) ∈ sq_all := List.mem_filter.mpr ⟨List.mem_append_right _ (List.mem_append_right _ (List.mem_append_left _ (List.mem_of_getElem? (l := tables_1_2) (i := 214) rfl))), rfl⟩
theorem k_455 : Cond.constantLong RX8 133 2 ∈ sq_all := List.mem_filter.mpr ⟨List.mem_append_right _ (List.mem_append_right _ (List.mem_append_left _ (List.mem_of_getElem? (l := tables_1_2) (i := 215) rfl))), rfl⟩
theorem k_456 : Cond.methodLink RX8 135 yJ9_floorDiv ∈ sq_all := List.mem_filter.mpr ⟨List.mem_append_right _ (List.mem_append_right _ (List.mem_append_left _ (List.mem_of_getElem? (l := tables_1_2) (i := 216) rfl))), rfl⟩
theorem k_457 : Cond.static yJ9_floorDiv ∈ sq_all := List.mem_filter.mpr ⟨List.mem_append_right _ (List.mem_append_right _ (List.mem_append_left _ (List.mem_of_getElem? (l := tables_1_2) (i := 217) rfl))), rfl⟩
theorem k_458 : Cond.code yJ9_floorDiv prog_12_method_49_code 6 (some .long) ∈ sq_all := List.mem_filter.mpr ⟨List.mem_append_right _ (List.mem_append_right _ (List.mem_append_left _ (List.mem_of_getElem? (l := tables_1_2) (i := 218) rfl))), rfl⟩
theorem k_459 : Cond.methodLink RX7 108 yX5_cutY ∈ sq_all := List.mem_filter.mpr ⟨List.mem_append_right _ (List.mem_append_right _ (List.mem_append_left _ (List.mem_of_getElem? (l := tables_1_2) (i := 219) rfl))), rfl⟩
theorem k_460 : Cond.instanceMethod yX5_cutY ∈ sq_all := List.mem_filter.mpr ⟨List.mem_append_right _ (List.mem_append_right _ (List.mem_append_left _ (List.mem_of_getElem? (l := tables_1_2) (i := 220) rfl))), rfl⟩
theorem k_461 : Cond.selects RX5 yX5_cutY yX5_cutY ∈ sq_all := List.mem_filter.mpr ⟨List.mem_append_right _ (List.mem_append_right _ (List.mem_append_left _ (List.mem_of_getElem? (l := tables_1_2) (i := 221) rfl))), rfl⟩
theorem k_462 : Cond.code yX5_cutY prog_7_method_5_code 3 (some .int) ∈ sq_all := List.mem_filter.mpr ⟨List.mem_append_right _ (List.mem_append_right _ (List.mem_append_left _ (List.mem_of_getElem? (l := tables_1_2) (i := 222) rfl))), rfl⟩
theorem k_463 : Cond.methodLink RX7 95 yX1_make ∈ sq_all := List.mem_filter.mpr ⟨List.mem_append_right _ (List.mem_append_right _ (List.mem_append_left _ (List.mem_of_getElem? (l := tables_1_2) (i := 223) rfl))), rfl⟩
theorem k_464 : Cond.instanceMethod yX1_make ∈ sq_all := List.mem_filter.mpr ⟨List.mem_append_right _ (List.mem_append_right _ (List.mem_append_left _ (List.mem_of_getElem? (l := tables_1_2) (i := 224) rfl))), rfl⟩
theorem k_465 : Cond.selects RX1 yX1_make yX1_make ∈ sq_all := List.mem_filter.mpr ⟨List.mem_append_right _ (List.mem_append_right _ (List.mem_append_left _ (List.mem_of_getElem? (l := tables_1_2) (i := 225) rfl))), rfl⟩
theorem k_466 : Cond.code yX1_make prog_3_method_2_code 5 none ∈ sq_all := List.mem_filter.mpr ⟨List.mem_append_right _ (List.mem_append_right _ (List.mem_append_left _ (List.mem_of_getElem? (l := tables_1_2) (i := 226) rfl))), rfl⟩
theorem k_467 : Cond.methodLink RX1 29 yX4_segments ∈ sq_all := List.mem_filter.mpr ⟨List.mem_append_right _ (List.mem_append_right _ (List.mem_append_left _ (List.mem_of_getElem? (l := tables_1_2) (i := 227) rfl))), rfl⟩
theorem k_468 : Cond.methodLink RX1 35 yX6_hasCaps ∈ sq_all := List.mem_filter.mpr ⟨List.mem_append_right _ (List.mem_append_right _ (List.mem_append_left _ (List.mem_of_getElem? (l := tables_1_2) (i := 228) rfl))), rfl⟩
theorem k_469 : Cond.instanceMethod yX6_hasCaps ∈ sq_all := List.mem_filter.mpr ⟨List.mem_append_right _ (List.mem_append_right _ (List.mem_append_left _ (List.mem_of_getElem? (l := tables_1_2) (i := 229) rfl))), rfl⟩
theorem k_470 : Cond.selects RX6 yX6_hasCaps yX6_hasCaps ∈ sq_all := List.mem_filter.mpr ⟨List.mem_append_right _ (List.mem_append_right _ (List.mem_append_left _ (List.mem_of_getElem? (l := tables_1_2) (i := 230) rfl))), rfl⟩
theorem k_471 : Cond.code yX6_hasCaps prog_8_method_5_code 1 (some .boolean) ∈ sq_all := List.mem_filter.mpr ⟨List.mem_append_right _ (List.mem_append_right _ (List.mem_append_left _ (List.mem_of_getElem? (l := tables_1_2) (i := 231) rfl))), rfl⟩
theorem k_472 : Cond.methodLink RX1 41 yX4_isRing ∈ sq_all := List.mem_filter.mpr ⟨List.mem_append_right _ (List.mem_append_right _ (List.mem_append_left _ (List.mem_of_getElem? (l := tables_1_2) (i := 232) rfl))), rfl⟩
theorem k_473 : Cond.instanceMethod yX4_isRing ∈ sq_all := List.mem_filter.mpr ⟨List.mem_append_right _ (List.mem_append_right _ (List.mem_append_left _ (List.mem_of_getElem? (l := tables_1_2) (i := 233) rfl))), rfl⟩
theorem k_474 : Cond.selects RX4 yX4_isRing yX4_isRing ∈ sq_all := List.mem_filter.mpr ⟨List.mem_append_right _ (List.mem_append_right _ (List.mem_append_left _ (List.mem_of_getElem? (l := tables_1_2) (i := 234) rfl))), rfl⟩
theorem k_475 : Cond.code yX4_isRing prog_6_method_5_code 1 (some .boolean) ∈ sq_all := List.mem_filter.mpr ⟨List.mem_append_right _ (List.mem_append_right _ (List.mem_append_left _ (List.mem_of_getElem? (l := tables_1_2) (i := 235) rfl))), rfl⟩
theorem k_476 : Cond.methodLink RX1 44 yX5_set ∈ sq_all := List.mem_filter.mpr ⟨List.mem_append_right _ (List.mem_append_right _ (List.mem_append_left _ (List.mem_of_getElem? (l := tables_1_2) (i := 236) rfl))), rfl⟩
theorem k_477 : Cond.methodLink RX1 48 yX6_half ∈ sq_all := List.mem_filter.mpr ⟨List.mem_append_right _ (List.mem_append_right _ (List.mem_append_left _ (List.mem_of_getElem? (l := tables_1_2) (i := 237) rfl))), rfl⟩
theorem k_478 : Cond.instanceMethod yX6_half ∈ sq_all := List.mem_filter.mpr ⟨List.mem_append_right _ (List.mem_append_right _ (List.mem_append_left _ (List.mem_of_getElem? (l := tables_1_2) (i := 238) rfl))), rfl⟩
theorem k_479 : Cond.selects RX6 yX6_half yX6_half ∈ sq_all := List.mem_filter.mpr ⟨List.mem_append_right _ (List.mem_append_right _ (List.mem_append_left _ (List.mem_of_getElem? (l := tables_1_2) (i := 239) rfl))), rfl⟩
theorem k_480 : Cond.code yX6_half prog_8_method_4_code 1 (some .long) ∈ sq_all := List.mem_filter.mpr ⟨List.mem_append_right _ (List.mem_append_right _ (List.mem_append_right _ (List.mem_append_left _ (List.mem_of_getElem? (l := tables_1_3) (i := 0) rfl)))), rfl⟩
theorem k_481 : Cond.methodLink RX1 52 yX5_widen ∈ sq_all := List.mem_filter.mpr ⟨List.mem_append_right _ (List.mem_append_right _ (List.mem_append_right _ (List.mem_append_left _ (List.mem_of_getElem? (l := tables_1_3) (i := 1) rfl)))), rfl⟩
theorem k_482 : Cond.instanceMethod yX5_widen ∈ sq_all := List.mem_filter.mpr ⟨List.mem_append_right _ (List.mem_append_right _ (List.mem_append_right _ (List.mem_append_left _ (List.mem_of_getElem? (l := tables_1_3) (i := 2) rfl)))), rfl⟩
theorem k_483 : Cond.selects RX5 yX5_widen yX5_widen ∈ sq_all := List.mem_filter.mpr ⟨List.mem_append_right _ (List.mem_append_right _ (List.mem_append_right _ (List.mem_append_left _ (List.mem_of_getElem? (l := tables_1_3) (i := 3) rfl)))), rfl⟩
theorem k_484 : Cond.code yX5_widen prog_7_method_3_code 3 none ∈ sq_all := List.mem_filter.mpr ⟨List.mem_append_right _ (List.mem_append_right _ (List.mem_append_right _ (List.mem_append_left _ (List.mem_of_getElem? (l := tables_1_3) (i := 4) rfl)))), rfl⟩
theorem k_485 : Cond.methodLink RX1 56 yX1_capBeginning ∈ sq_all := List.mem_filter.mpr ⟨List.mem_append_right _ (List.mem_append_right _ (List.mem_append_right _ (List.mem_append_left _ (List.mem_of_getElem? (l := tables_1_3) (i := 5) rfl)))), rfl⟩
theorem k_487 : Cond.instanceMethod yX1_capBeginning ∈ sq_all := List.mem_filter.mpr ⟨List.mem_append_right _ (List.mem_append_right _ (List.mem_append_right _ (List.mem_append_left _ (List.mem_of_getElem? (l := tables_1_3) (i := 7) rfl)))), rfl⟩
theorem k_488 : Cond.code yX1_capBeginning prog_3_method_5_code 1 none ∈ sq_all := List.mem_filter.mpr ⟨List.mem_append_right _ (List.mem_append_right _ (List.mem_append_right _ (List.mem_append_left _ (List.mem_of_getElem? (l := tables_1_3) (i := 8) rfl)))), rfl⟩
theorem k_489 : Cond.methodLink RX1 76 yX3_start ∈ sq_all := List.mem_filter.mpr ⟨List.mem_append_right _ (List.mem_append_right _ (List.mem_append_right _ (List.mem_append_left _ (List.mem_of_getElem? (l := tables_1_3) (i := 9) rfl)))), rfl⟩
theorem k_490 : Cond.instanceMethod yX3_start ∈ sq_all := List.mem_filter.mpr ⟨List.mem_append_right _ (List.mem_append_right _ (List.mem_append_right _ (List.mem_append_left _ (List.mem_of_getElem? (l := tables_1_3) (i := 10) rfl)))), rfl⟩
theorem k_491 : Cond.selects RX3 yX3_start yX3_start ∈ sq_all := List.mem_filter.mpr ⟨List.mem_append_right _ (List.mem_append_right _ (List.mem_append_right _ (List.mem_append_left _ (List.mem_of_getElem? (l := tables_1_3) (i := 11) rfl)))), rfl⟩
theorem k_492 : Cond.code yX3_start prog_5_method_7_code 2 none ∈ sq_all := List.mem_filter.mpr ⟨List.mem_append_right _ (List.mem_append_right _ (List.mem_append_right _ (List.mem_append_left _ (List.mem_of_getElem? (l := tables_1_3) (i := 12) rfl)))), rfl⟩
theorem k_493 : Cond.methodLink RX3 28 yX3_stop ∈ sq_all := List.mem_filter.mpr ⟨List.mem_append_right _ (List.mem_append_right _ (List.mem_append_right _ (List.mem_append_left _ (List.mem_of_getElem? (l := tables_1_3) (i := 13) rfl)))), rfl⟩
theorem k_494 : Cond.methodLink RX1 93 yX3_add ∈ sq_all := List.mem_filter.mpr ⟨List.mem_append_right _ (List.mem_append_right _ (List.mem_append_right _ (List.mem_append_left _ (List.mem_of_getElem? (l := tables_1_3) (i := 14) rfl)))), rfl⟩
theorem k_495 : Cond.instanceMethod yX3_add ∈ sq_all := List.mem_filter.mpr ⟨List.mem_append_right _ (List.mem_append_right _ (List.mem_append_right _ (List.mem_append_left _ (List.mem_of_getElem? (l := tables_1_3) (i := 15) rfl)))), rfl⟩
theorem k_496 : Cond.selects RX3 yX3_add yX3_add ∈ sq_all := List.mem_filter.mpr ⟨List.mem_append_right _ (List.mem_append_right _ (List.mem_append_right _ (List.mem_append_left _ (List.mem_of_getElem? (l := tables_1_3) (i := 16) rfl)))), rfl⟩
theorem k_497 : Cond.code yX3_add prog_5_method_8_code 6 none ∈ sq_all := List.mem_filter.mpr ⟨List.mem_append_right _ (List.mem_append_right _ (List.mem_append_right _ (List.mem_append_left _ (List.mem_of_getElem? (l := tables_1_3) (i := 17) rfl)))), rfl⟩
theorem k_499 : Cond.methodLink RX1 59 yX3_isGoing ∈ sq_all := List.mem_filter.mpr ⟨List.mem_append_right _ (List.mem_append_right _ (List.mem_append_right _ (List.mem_append_left _ (List.mem_of_getElem? (l := tables_1_3) (i := 19) rfl)))), rfl⟩
theorem k_500 : Cond.methodLink RX1 64 yX1_side ∈ sq_all := List.mem_filter.mpr ⟨List.mem_append_right _ (List.mem_append_right _ (List.mem_append_right _ (List.mem_append_left _ (List.mem_of_getElem? (l := tables_1_3) (i := 20) rfl)))), rfl⟩
theorem k_502 : Cond.instanceMethod yX1_side ∈ sq_all := List.mem_filter.mpr ⟨List.mem_append_right _ (List.mem_append_right _ (List.mem_append_right _ (List.mem_append_left _ (List.mem_of_getElem? (l := tables_1_3) (i := 22) rfl)))), rfl⟩
theorem k_503 : Cond.code yX1_side prog_3_method_4_code 1 none ∈ sq_all := List.mem_filter.mpr ⟨List.mem_append_right _ (List.mem_append_right _ (List.mem_append_right _ (List.mem_append_left _ (List.mem_of_getElem? (l := tables_1_3) (i := 23) rfl)))), rfl⟩
theorem k_504 : Cond.methodLink RX1 67 yX1_joinBoth ∈ sq_all := List.mem_filter.mpr ⟨List.mem_append_right _ (List.mem_append_right _ (List.mem_append_right _ (List.mem_append_left _ (List.mem_of_getElem? (l := tables_1_3) (i := 24) rfl)))), rfl⟩
theorem k_506 : Cond.instanceMethod yX1_joinBoth ∈ sq_all := List.mem_filter.mpr ⟨List.mem_append_right _ (List.mem_append_right _ (List.mem_append_right _ (List.mem_append_left _ (List.mem_of_getElem? (l := tables_1_3) (i := 26) rfl)))), rfl⟩
theorem k_507 : Cond.code yX1_joinBoth prog_3_method_7_code 14 none ∈ sq_all := List.mem_filter.mpr ⟨List.mem_append_right _ (List.mem_append_right _ (List.mem_append_right _ (List.mem_append_left _ (List.mem_of_getElem? (l := tables_1_3) (i := 27) rfl)))), rfl⟩
theorem k_508 : Cond.constantLong RX1 115 (-1) ∈ sq_all := List.mem_filter.mpr ⟨List.mem_append_right _ (List.mem_append_right _ (List.mem_append_right _ (List.mem_append_left _ (List.mem_of_getElem? (l := tables_1_3) (i := 28) rfl)))), rfl⟩
theorem k_509 : Cond.methodLink RX1 117 yX6_allowsMitre ∈ sq_all := List.mem_filter.mpr ⟨List.mem_append_right _ (List.mem_append_right _ (List.mem_append_right _ (List.mem_append_left _ (List.mem_of_getElem? (l := tables_1_3) (i := 29) rfl)))), rfl⟩
theorem k_510 : Cond.instanceMethod yX6_allowsMitre ∈ sq_all := List.mem_filter.mpr ⟨List.mem_append_right _ (List.mem_append_right _ (List.mem_append_right _ (List.mem_append_left _ (List.mem_of_getElem? (l := tables_1_3) (i := 30) rfl)))), rfl⟩
theorem k_511 : Cond.selects RX6 yX6_allowsMitre yX6_allowsMitre ∈ sq_all := List.mem_filter.mpr ⟨List.mem_append_right _ (List.mem_append_right _ (List.mem_append_right _ (List.mem_append_left _ (List.mem_of_getElem? (l := tables_1_3) (i := 31) rfl)))), rfl⟩
theorem k_512 : Cond.code yX6_allowsMitre prog_8_method_6_code 3 (some .boolean) ∈ sq_all := List.mem_filter.mpr ⟨List.mem_append_right _ (List.mem_append_right _ (List.mem_append_right _ (List.mem_append_left _ (List.mem_of_getElem? (l := tables_1_3) (i := 32) rfl)))), rfl⟩
theorem k_513 : Cond.methodLink RX1 121 yX6_reach ∈ sq_all := List.mem_filter.mpr ⟨List.mem_append_right _ (List.mem_append_right _ (List.mem_append_right _ (List.mem_append_left _ (List.mem_of_getElem? (l := tables_1_3) (i := 33) rfl)))), rfl⟩
theorem k_514 : Cond.instanceMethod yX6_reach ∈ sq_all := List.mem_filter.mpr ⟨List.mem_append_right _ (List.mem_append_right _ (List.mem_append_right _ (List.mem_append_left _ (List.mem_of_getElem? (l := tables_1_3) (i := 34) rfl)))), rfl⟩
theorem k_515 : Cond.selects RX6 yX6_reach yX6_reach ∈ sq_all := List.mem_filter.mpr ⟨List.mem_append_right _ (List.mem_append_right _ (List.mem_append_right _ (List.mem_append_left _ (List.mem_of_getElem? (l := tables_1_3) (i := 35) rfl)))), rfl⟩
theorem k_516 : Cond.code yX6_reach prog_8_method_7_code 3 (some .long) ∈ sq_all := List.mem_filter.mpr ⟨List.mem_append_right _ (List.mem_append_right _ (List.mem_append_right _ (List.mem_append_left _ (List.mem_of_getElem? (l := tables_1_3) (i := 36) rfl)))), rfl⟩
theorem k_518 : Cond.constantLong RX1 125 65536 ∈ sq_all := List.mem_filter.mpr ⟨List.mem_append_right _ (List.mem_append_right _ (List.mem_append_right _ (List.mem_append_left _ (List.mem_of_getElem? (l := tables_1_3) (i := 38) rfl)))), rfl⟩
theorem k_520 : Cond.methodLink RX1 70 yX1_goOn ∈ sq_all := List.mem_filter.mpr ⟨List.mem_append_right _ (List.mem_append_right _ (List.mem_append_right _ (List.mem_append_left _ (List.mem_of_getElem? (l := tables_1_3) (i := 40) rfl)))), rfl⟩
theorem k_522 : Cond.instanceMethod yX1_goOn ∈ sq_all := List.mem_filter.mpr ⟨List.mem_append_right _ (List.mem_append_right _ (List.mem_append_right _ (List.mem_append_left _ (List.mem_of_getElem? (l := tables_1_3) (i := 42) rfl)))), rfl⟩
theorem k_523 : Cond.code yX1_goOn prog_3_method_3_code 2 none ∈ sq_all := List.mem_filter.mpr ⟨List.mem_append_right _ (List.mem_append_right _ (List.mem_append_right _ (List.mem_append_left _ (List.mem_of_getElem? (l := tables_1_3) (i := 43) rfl)))), rfl⟩
theorem k_524 : Cond.methodLink RX1 73 yX1_capEnd ∈ sq_all := List.mem_filter.mpr ⟨List.mem_append_right _ (List.mem_append_right _ (List.mem_append_right _ (List.mem_append_left _ (List.mem_of_getElem? (l := tables_1_3) (i := 44) rfl)))), rfl⟩
theorem k_526 : Cond.instanceMethod yX1_capEnd ∈ sq_all := List.mem_filter.mpr ⟨List.mem_append_right _ (List.mem_append_right _ (List.mem_append_right _ (List.mem_append_left _ (List.mem_of_getElem? (l := tables_1_3) (i := 46) rfl)))), rfl⟩
theorem k_527 : Cond.code yX1_capEnd prog_3_method_6_code 1 none ∈ sq_all := List.mem_filter.mpr ⟨List.mem_append_right _ (List.mem_append_right _ (List.mem_append_right _ (List.mem_append_left _ (List.mem_of_getElem? (l := tables_1_3) (i := 47) rfl)))), rfl⟩
theorem k_528 : Cond.methodLink RX7 114 yX7_takeNext ∈ sq_all := List.mem_filter.mpr ⟨List.mem_append_right _ (List.mem_append_right _ (List.mem_append_right _ (List.mem_append_left _ (List.mem_of_getElem? (l := tables_1_3) (i := 48) rfl)))), rfl⟩
theorem k_530 : Cond.instanceMethod yX7_takeNext ∈ sq_all := List.mem_filter.mpr ⟨List.mem_append_right _ (List.mem_append_right _ (List.mem_append_right _ (List.mem_append_left _ (List.mem_of_getElem? (l := tables_1_3) (i := 50) rfl)))), rfl⟩
theorem k_531 : Cond.code yX7_takeNext prog_9_method_6_code 1 none ∈ sq_all := List.mem_filter.mpr ⟨List.mem_append_right _ (List.mem_append_right _ (List.mem_append_right _ (List.mem_append_left _ (List.mem_of_getElem? (l := tables_1_3) (i := 51) rfl)))), rfl⟩
theorem k_532 : Cond.methodLink RX7 123 yX2_behind ∈ sq_all := List.mem_filter.mpr ⟨List.mem_append_right _ (List.mem_append_right _ (List.mem_append_right _ (List.mem_append_left _ (List.mem_of_getElem? (l := tables_1_3) (i := 52) rfl)))), rfl⟩
theorem k_533 : Cond.instanceMethod yX2_behind ∈ sq_all := List.mem_filter.mpr ⟨List.mem_append_right _ (List.mem_append_right _ (List.mem_append_right _ (List.mem_append_left _ (List.mem_of_getElem? (l := tables_1_3) (i := 53) rfl)))), rfl⟩
theorem k_534 : Cond.selects RX2 yX2_behind yX2_behind ∈ sq_all := List.mem_filter.mpr ⟨List.mem_append_right _ (List.mem_append_right _ (List.mem_append_right _ (List.mem_append_left _ (List.mem_of_getElem? (l := tables_1_3) (i := 54) rfl)))), rfl⟩
theorem k_535 : Cond.code yX2_behind prog_4_method_9_code 2 (some .int) ∈ sq_all := List.mem_filter.mpr ⟨List.mem_append_right _ (List.mem_append_right _ (List.mem_append_right _ (List.mem_append_left _ (List.mem_of_getElem? (l := tables_1_3) (i := 55) rfl)))), rfl⟩
theorem k_536 : Cond.methodLink RX7 126 yX2_lengthOf ∈ sq_all := List.mem_filter.mpr ⟨List.mem_append_right _ (List.mem_append_right _ (List.mem_append_right _ (List.mem_append_left _ (List.mem_of_getElem? (l := tables_1_3) (i := 56) rfl)))), rfl⟩
theorem k_537 : Cond.instanceMethod yX2_lengthOf ∈ sq_all := List.mem_filter.mpr ⟨List.mem_append_right _ (List.mem_append_right _ (List.mem_append_right _ (List.mem_append_left _ (List.mem_of_getElem? (l := tables_1_3) (i := 57) rfl)))), rfl⟩
theorem k_538 : Cond.selects RX2 yX2_lengthOf yX2_lengthOf ∈ sq_all := List.mem_filter.mpr ⟨List.mem_append_right _ (List.mem_append_right _ (List.mem_append_right _ (List.mem_append_left _ (List.mem_of_getElem? (l := tables_1_3) (i := 58) rfl)))), rfl⟩
theorem k_539 : Cond.code yX2_lengthOf prog_4_method_10_code 2 (some .long) ∈ sq_all := List.mem_filter.mpr ⟨List.mem_append_right _ (List.mem_append_right _ (List.mem_append_right _ (List.mem_append_left _ (List.mem_of_getElem? (l := tables_1_3) (i := 59) rfl)))), rfl⟩
theorem k_540 : Cond.methodLink RX8 110 yX1_make ∈ sq_all := List.mem_filter.mpr ⟨List.mem_append_right _ (List.mem_append_right _ (List.mem_append_right _ (List.mem_append_left _ (List.mem_of_getElem? (l := tables_1_3) (i := 60) rfl)))), rfl⟩
theorem k_541 : Cond.methodLink RX8 113 yX3_count ∈ sq_all := List.mem_filter.mpr ⟨List.mem_append_right _ (List.mem_append_right _ (List.mem_append_right _ (List.mem_append_left _ (List.mem_of_getElem? (l := tables_1_3) (i := 61) rfl)))), rfl⟩
theorem k_542 : Cond.instanceMethod yX3_count ∈ sq_all := List.mem_filter.mpr ⟨List.mem_append_right _ (List.mem_append_right _ (List.mem_append_right _ (List.mem_append_left _ (List.mem_of_getElem? (l := tables_1_3) (i := 62) rfl)))), rfl⟩
theorem k_543 : Cond.selects RX3 yX3_count yX3_count ∈ sq_all := List.mem_filter.mpr ⟨List.mem_append_right _ (List.mem_append_right _ (List.mem_append_right _ (List.mem_append_left _ (List.mem_of_getElem? (l := tables_1_3) (i := 63) rfl)))), rfl⟩
theorem k_544 : Cond.code yX3_count prog_5_method_5_code 1 (some .int) ∈ sq_all := List.mem_filter.mpr ⟨List.mem_append_right _ (List.mem_append_right _ (List.mem_append_right _ (List.mem_append_left _ (List.mem_of_getElem? (l := tables_1_3) (i := 64) rfl)))), rfl⟩
theorem k_545 : Cond.methodLink RX8 114 yX3_state ∈ sq_all := List.mem_filter.mpr ⟨List.mem_append_right _ (List.mem_append_right _ (List.mem_append_right _ (List.mem_append_left _ (List.mem_of_getElem? (l := tables_1_3) (i := 65) rfl)))), rfl⟩
theorem k_546 : Cond.instanceMethod yX3_state ∈ sq_all := List.mem_filter.mpr ⟨List.mem_append_right _ (List.mem_append_right _ (List.mem_append_right _ (List.mem_append_left _ (List.mem_of_getElem? (l := tables_1_3) (i := 66) rfl)))), rfl⟩
theorem k_547 : Cond.selects RX3 yX3_state yX3_state ∈ sq_all := List.mem_filter.mpr ⟨List.mem_append_right _ (List.mem_append_right _ (List.mem_append_right _ (List.mem_append_left _ (List.mem_of_getElem? (l := tables_1_3) (i := 67) rfl)))), rfl⟩
theorem k_548 : Cond.code yX3_state prog_5_method_4_code 1 (some .int) ∈ sq_all := List.mem_filter.mpr ⟨List.mem_append_right _ (List.mem_append_right _ (List.mem_append_right _ (List.mem_append_left _ (List.mem_of_getElem? (l := tables_1_3) (i := 68) rfl)))), rfl⟩
theorem k_549 : Cond.methodLink RL 49 yX8_pieces ∈ sq_all := List.mem_filter.mpr ⟨List.mem_append_right _ (List.mem_append_right _ (List.mem_append_right _ (List.mem_append_left _ (List.mem_of_getElem? (l := tables_1_3) (i := 69) rfl)))), rfl⟩
theorem k_550 : Cond.instanceMethod yX8_pieces ∈ sq_all := List.mem_filter.mpr ⟨List.mem_append_right _ (List.mem_append_right _ (List.mem_append_right _ (List.mem_append_left _ (List.mem_of_getElem? (l := tables_1_3) (i := 70) rfl)))), rfl⟩
theorem k_551 : Cond.selects RX8 yX8_pieces yX8_pieces ∈ sq_all := List.mem_filter.mpr ⟨List.mem_append_right _ (List.mem_append_right _ (List.mem_append_right _ (List.mem_append_left _ (List.mem_of_getElem? (l := tables_1_3) (i := 71) rfl)))), rfl⟩
theorem k_552 : Cond.code yX8_pieces prog_1_method_10_code 1 (some .int) ∈ sq_all := List.mem_filter.mpr ⟨List.mem_append_right _ (List.mem_append_right _ (List.mem_append_right _ (List.mem_append_left _ (List.mem_of_getElem? (l := tables_1_3) (i := 72) rfl)))), rfl⟩
theorem k_553 : Cond.methodLink RL 53 yX8_sort ∈ sq_all := List.mem_filter.mpr ⟨List.mem_append_right _ (List.mem_append_right _ (List.mem_append_right _ (List.mem_append_left _ (List.mem_of_getElem? (l := tables_1_3) (i := 73) rfl)))), rfl⟩
theorem k_554 : Cond.instanceMethod yX8_sort ∈ sq_all := List.mem_filter.mpr ⟨List.mem_append_right _ (List.mem_append_right _ (List.mem_append_right _ (List.mem_append_left _ (List.mem_of_getElem? (l := tables_1_3) (i := 74) rfl)))), rfl⟩
theorem k_555 : Cond.selects RX8 yX8_sort yX8_sort ∈ sq_all := List.mem_filter.mpr ⟨List.mem_append_right _ (List.mem_append_right _ (List.mem_append_right _ (List.mem_append_left _ (List.mem_of_getElem? (l := tables_1_3) (i := 75) rfl)))), rfl⟩
theorem k_556 : Cond.code yX8_sort prog_1_method_11_code 2 (some .int) ∈ sq_all := List.mem_filter.mpr ⟨List.mem_append_right _ (List.mem_append_right _ (List.mem_append_right _ (List.mem_append_left _ (List.mem_of_getElem? (l := tables_1_3) (i := 76) rfl)))), rfl⟩
theorem k_557 : Cond.methodLink RX8 117 yX3_kindOf ∈ sq_all := List.mem_filter.mpr ⟨List.mem_append_right _ (List.mem_append_right _ (List.mem_append_right _ (List.mem_append_left _ (List.mem_of_getElem? (l := tables_1_3) (i := 77) rfl)))), rfl⟩
theorem k_558 : Cond.instanceMethod yX3_kindOf ∈ sq_all := List.mem_filter.mpr ⟨List.mem_append_right _ (List.mem_append_right _ (List.mem_append_right _ (List.mem_append_left _ (List.mem_of_getElem? (l := tables_1_3) (i := 78) rfl)))), rfl⟩
theorem k_559 : Cond.selects RX3 yX3_kindOf yX3_kindOf ∈ sq_all := List.mem_filter.mpr ⟨List.mem_append_right _ (List.mem_append_right _ (List.mem_append_right _ (List.mem_append_left _ (List.mem_of_getElem? (l := tables_1_3) (i := 79) rfl)))), rfl⟩
theorem k_560 : Cond.code yX3_kindOf prog_5_method_9_code 2 (some .int) ∈ sq_all := List.mem_filter.mpr ⟨List.mem_append_right _ (List.mem_append_right _ (List.mem_append_right _ (List.mem_append_left _ (List.mem_of_getElem? (l := tables_1_3) (i := 80) rfl)))), rfl⟩
theorem k_561 : Cond.methodLink RL 58 yX8_corner ∈ sq_all := List.mem_filter.mpr ⟨List.mem_append_right _ (List.mem_append_right _ (List.mem_append_right _ (List.mem_append_left _ (List.mem_of_getElem? (l := tables_1_3) (i := 81) rfl)))), rfl⟩
theorem k_562 : Cond.instanceMethod yX8_corner ∈ sq_all := List.mem_filter.mpr ⟨List.mem_append_right _ (List.mem_append_right _ (List.mem_append_right _ (List.mem_append_left _ (List.mem_of_getElem? (l := tables_1_3) (i := 82) rfl)))), rfl⟩
theorem k_563 : Cond.selects RX8 yX8_corner yX8_corner ∈ sq_all := List.mem_filter.mpr ⟨List.mem_append_right _ (List.mem_append_right _ (List.mem_append_right _ (List.mem_append_left _ (List.mem_of_getElem? (l := tables_1_3) (i := 83) rfl)))), rfl⟩
theorem k_564 : Cond.code yX8_corner prog_1_method_12_code 4 (some .int) ∈ sq_all := List.mem_filter.mpr ⟨List.mem_append_right _ (List.mem_append_right _ (List.mem_append_right _ (List.mem_append_left _ (List.mem_of_getElem? (l := tables_1_3) (i := 84) rfl)))), rfl⟩
theorem k_565 : Cond.methodLink RX8 121 yX3_placeOf ∈ sq_all := List.mem_filter.mpr ⟨List.mem_append_right _ (List.mem_append_right _ (List.mem_append_right _ (List.mem_append_left _ (List.mem_of_getElem? (l := tables_1_3) (i := 85) rfl)))), rfl⟩
theorem k_566 : Cond.instanceMethod yX3_placeOf ∈ sq_all := List.mem_filter.mpr ⟨List.mem_append_right _ (List.mem_append_right _ (List.mem_append_right _ (List.mem_append_left _ (List.mem_of_getElem? (l := tables_1_3) (i := 86) rfl)))), rfl⟩
theorem k_567 : Cond.selects RX3 yX3_placeOf yX3_placeOf ∈ sq_all := List.mem_filter.mpr ⟨List.mem_append_right _ (List.mem_append_right _ (List.mem_append_right _ (List.mem_append_left _ (List.mem_of_getElem? (l := tables_1_3) (i := 87) rfl)))), rfl⟩
theorem k_568 : Cond.code yX3_placeOf prog_5_method_10_code 6 (some .int) ∈ sq_all := List.mem_filter.mpr ⟨List.mem_append_right _ (List.mem_append_right _ (List.mem_append_right _ (List.mem_append_left _ (List.mem_of_getElem? (l := tables_1_3) (i := 88) rfl)))), rfl⟩
theorem k_569 : Cond.methodLink RX3 36 yX3_kindOf ∈ sq_all := List.mem_filter.mpr ⟨List.mem_append_right _ (List.mem_append_right _ (List.mem_append_right _ (List.mem_append_left _ (List.mem_of_getElem? (l := tables_1_3) (i := 89) rfl)))), rfl⟩
theorem k_570 : Cond.methodLink RL 63 yX8_walked ∈ sq_all := List.mem_filter.mpr ⟨List.mem_append_right _ (List.mem_append_right _ (List.mem_append_right _ (List.mem_append_left _ (List.mem_of_getElem? (l := tables_1_3) (i := 90) rfl)))), rfl⟩
theorem k_571 : Cond.instanceMethod yX8_walked ∈ sq_all := List.mem_filter.mpr ⟨List.mem_append_right _ (List.mem_append_right _ (List.mem_append_right _ (List.mem_append_left _ (List.mem_of_getElem? (l := tables_1_3) (i := 91) rfl)))), rfl⟩
theorem k_572 : Cond.selects RX8 yX8_walked yX8_walked ∈ sq_all := List.mem_filter.mpr ⟨List.mem_append_right _ (List.mem_append_right _ (List.mem_append_right _ (List.mem_append_left _ (List.mem_of_getElem? (l := tables_1_3) (i := 92) rfl)))), rfl⟩
theorem k_573 : Cond.code yX8_walked prog_1_method_13_code 1 (some .int) ∈ sq_all := List.mem_filter.mpr ⟨List.mem_append_right _ (List.mem_append_right _ (List.mem_append_right _ (List.mem_append_left _ (List.mem_of_getElem? (l := tables_1_3) (i := 93) rfl)))), rfl⟩
theorem k_574 : Cond.methodLink RX8 125 yX7_taken ∈ sq_all := List.mem_filter.mpr ⟨List.mem_append_right _ (List.mem_append_right _ (List.mem_append_right _ (List.mem_append_left _ (List.mem_of_getElem? (l := tables_1_3) (i := 94) rfl)))), rfl⟩
theorem k_575 : Cond.instanceMethod yX7_taken ∈ sq_all := List.mem_filter.mpr ⟨List.mem_append_right _ (List.mem_append_right _ (List.mem_append_right _ (List.mem_append_left _ (List.mem_of_getElem? (l := tables_1_3) (i := 95) rfl)))), rfl⟩
theorem k_576 : Cond.selects RX7 yX7_taken yX7_taken ∈ sq_all := List.mem_filter.mpr ⟨List.mem_append_right _ (List.mem_append_right _ (List.mem_append_right _ (List.mem_append_left _ (List.mem_of_getElem? (l := tables_1_3) (i := 96) rfl)))), rfl⟩
theorem k_577 : Cond.code yX7_taken prog_9_method_3_code 1 (some .int) ∈ sq_all := List.mem_filter.mpr ⟨List.mem_append_right _ (List.mem_append_right _ (List.mem_append_right _ (List.mem_append_left _ (List.mem_of_getElem? (l := tables_1_3) (i := 97) rfl)))), rfl⟩
theorem k_578 : Cond.classLink RL 10 RX9 ∈ sq_all := List.mem_filter.mpr ⟨List.mem_append_right _ (List.mem_append_right _ (List.mem_append_right _ (List.mem_append_left _ (List.mem_of_getElem? (l := tables_1_3) (i := 98) rfl)))), rfl⟩
theorem k_579 : Cond.instantiable RX9 28 ∈ sq_all := List.mem_filter.mpr ⟨List.mem_append_right _ (List.mem_append_right _ (List.mem_append_right _ (List.mem_append_left _ (List.mem_of_getElem? (l := tables_1_3) (i := 99) rfl)))), rfl⟩
theorem k_580 : Cond.methodLink RL 12 yX9_init ∈ sq_all := List.mem_filter.mpr ⟨List.mem_append_right _ (List.mem_append_right _ (List.mem_append_right _ (List.mem_append_left _ (List.mem_of_getElem? (l := tables_1_3) (i := 100) rfl)))), rfl⟩
theorem k_581 : Cond.instanceMethod yX9_init ∈ sq_all := List.mem_filter.mpr ⟨List.mem_append_right _ (List.mem_append_right _ (List.mem_append_right _ (List.mem_append_left _ (List.mem_of_getElem? (l := tables_1_3) (i := 101) rfl)))), rfl⟩
theorem k_582 : Cond.code yX9_init prog_11_method_1_code 1 none ∈ sq_all := List.mem_filter.mpr ⟨List.mem_append_right _ (List.mem_append_right _ (List.mem_append_right _ (List.mem_append_left _ (List.mem_of_getElem? (l := tables_1_3) (i := 102) rfl)))), rfl⟩
theorem k_583 : Cond.methodLink RX9 1 objectInit ∈ sq_all := List.mem_filter.mpr ⟨List.mem_append_right _ (List.mem_append_right _ (List.mem_append_right _ (List.mem_append_left _ (List.mem_of_getElem? (l := tables_1_3) (i := 103) rfl)))), rfl⟩
theorem k_584 : Cond.constant RX9 20 32768 ∈ sq_all := List.mem_filter.mpr ⟨List.mem_append_right _ (List.mem_append_right _ (List.mem_append_right _ (List.mem_append_left _ (List.mem_of_getElem? (l := tables_1_3) (i := 104) rfl)))), rfl⟩
theorem k_585 : Cond.constantLong RX9 25 655360 ∈ sq_all := List.mem_filter.mpr ⟨List.mem_append_right _ (List.mem_append_right _ (List.mem_append_right _ (List.mem_append_left _ (List.mem_of_getElem? (l := tables_1_3) (i := 105) rfl)))), rfl⟩
theorem k_586 : Cond.fieldLink RX9 7 "StrokePiecesModel" "xs" "[I" ∈ sq_all := List.mem_filter.mpr ⟨List.mem_append_right _ (List.mem_append_right _ (List.mem_append_right _ (List.mem_append_left _ (List.mem_of_getElem? (l := tables_1_3) (i := 106) rfl)))), rfl⟩
theorem k_587 : Cond.fieldLink RX9 13 "StrokePiecesModel" "ys" "[I" ∈ sq_all := List.mem_filter.mpr ⟨List.mem_append_right _ (List.mem_append_right _ (List.mem_append_right _ (List.mem_append_left _ (List.mem_of_getElem? (l := tables_1_3) (i := 107) rfl)))), rfl⟩
theorem k_588 : Cond.fieldLink RX9 16 "StrokePiecesModel" "marks" "[B" ∈ sq_all := List.mem_filter.mpr ⟨List.mem_append_right _ (List.mem_append_right _ (List.mem_append_right _ (List.mem_append_left _ (List.mem_of_getElem? (l := tables_1_3) (i := 108) rfl)))), rfl⟩
theorem k_589 : Cond.fieldLink RX9 60 "StrokePiecesModel" "points" "I" ∈ sq_all := List.mem_filter.mpr ⟨List.mem_append_right _ (List.mem_append_right _ (List.mem_append_right _ (List.mem_append_left _ (List.mem_of_getElem? (l := tables_1_3) (i := 109) rfl)))), rfl⟩
theorem k_590 : Cond.fieldLink RX9 71 "StrokePiecesModel" "latest" "I" ∈ sq_all := List.mem_filter.mpr ⟨List.mem_append_right _ (List.mem_append_right _ (List.mem_append_right _ (List.mem_append_left _ (List.mem_of_getElem? (l := tables_1_3) (i := 110) rfl)))), rfl⟩
theorem k_591 : Cond.fieldLink RX9 21 "StrokePiecesModel" "half" "I" ∈ sq_all := List.mem_filter.mpr ⟨List.mem_append_right _ (List.mem_append_right _ (List.mem_append_right _ (List.mem_append_left _ (List.mem_of_getElem? (l := tables_1_3) (i := 111) rfl)))), rfl⟩
theorem k_592 : Cond.fieldLink RX9 80 "StrokePiecesModel" "cap" "I" ∈ sq_all := List.mem_filter.mpr ⟨List.mem_append_right _ (List.mem_append_right _ (List.mem_append_right _ (List.mem_append_left _ (List.mem_of_getElem? (l := tables_1_3) (i := 112) rfl)))), rfl⟩
theorem k_593 : Cond.fieldLink RX9 83 "StrokePiecesModel" "join" "I" ∈ sq_all := List.mem_filter.mpr ⟨List.mem_append_right _ (List.mem_append_right _ (List.mem_append_right _ (List.mem_append_left _ (List.mem_of_getElem? (l := tables_1_3) (i := 113) rfl)))), rfl⟩
theorem k_594 : Cond.fieldLink RX9 27 "StrokePiecesModel" "limit" "J" ∈ sq_all := List.mem_filter.mpr ⟨List.mem_append_right _ (List.mem_append_right _ (List.mem_append_right _ (List.mem_append_left _ (List.mem_of_getElem? (l := tables_1_3) (i := 114) rfl)))), rfl⟩
theorem k_595 : Cond.fieldLink RX9 31 "StrokePiecesModel" "lengths" "[I" ∈ sq_all := List.mem_filter.mpr ⟨List.mem_append_right _ (List.mem_append_right _ (List.mem_append_right _ (List.mem_append_left _ (List.mem_of_getElem? (l := tables_1_3) (i := 115) rfl)))), rfl⟩
theorem k_596 : Cond.fieldLink RX9 86 "StrokePiecesModel" "dashCount" "I" ∈ sq_all := List.mem_filter.mpr ⟨List.mem_append_right _ (List.mem_append_right _ (List.mem_append_right _ (List.mem_append_left _ (List.mem_of_getElem? (l := tables_1_3) (i := 116) rfl)))), rfl⟩
theorem k_597 : Cond.fieldLink RX9 89 "StrokePiecesModel" "offset" "I" ∈ sq_all := List.mem_filter.mpr ⟨List.mem_append_right _ (List.mem_append_right _ (List.mem_append_right _ (List.mem_append_left _ (List.mem_of_getElem? (l := tables_1_3) (i := 117) rfl)))), rfl⟩
theorem k_598 : Cond.fieldLink RX9 34 "StrokePiecesModel" "runX" "[J" ∈ sq_all := List.mem_filter.mpr ⟨List.mem_append_right _ (List.mem_append_right _ (List.mem_append_right _ (List.mem_append_left _ (List.mem_of_getElem? (l := tables_1_3) (i := 118) rfl)))), rfl⟩
theorem k_599 : Cond.fieldLink RX9 38 "StrokePiecesModel" "runY" "[J" ∈ sq_all := List.mem_filter.mpr ⟨List.mem_append_right _ (List.mem_append_right _ (List.mem_append_right _ (List.mem_append_left _ (List.mem_of_getElem? (l := tables_1_3) (i := 119) rfl)))), rfl⟩
theorem k_600 : Cond.fieldLink RX9 146 "StrokePiecesModel" "run" "I" ∈ sq_all := List.mem_filter.mpr ⟨List.mem_append_right _ (List.mem_append_right _ (List.mem_append_right _ (List.mem_append_left _ (List.mem_of_getElem? (l := tables_1_3) (i := 120) rfl)))), rfl⟩
theorem k_601 : Cond.fieldLink RX9 41 "StrokePiecesModel" "rowX" "[I" ∈ sq_all := List.mem_filter.mpr ⟨List.mem_append_right _ (List.mem_append_right _ (List.mem_append_right _ (List.mem_append_left _ (List.mem_of_getElem? (l := tables_1_3) (i := 121) rfl)))), rfl⟩
theorem k_602 : Cond.fieldLink RX9 44 "StrokePiecesModel" "rowY" "[I" ∈ sq_all := List.mem_filter.mpr ⟨List.mem_append_right _ (List.mem_append_right _ (List.mem_append_right _ (List.mem_append_left _ (List.mem_of_getElem? (l := tables_1_3) (i := 122) rfl)))), rfl⟩
theorem k_603 : Cond.fieldLink RX9 199 "StrokePiecesModel" "row" "I" ∈ sq_all := List.mem_filter.mpr ⟨List.mem_append_right _ (List.mem_append_right _ (List.mem_append_right _ (List.mem_append_left _ (List.mem_of_getElem? (l := tables_1_3) (i := 123) rfl)))), rfl⟩
theorem k_604 : Cond.fieldLink RX9 47 "StrokePiecesModel" "sorts" "[B" ∈ sq_all := List.mem_filter.mpr ⟨List.mem_append_right _ (List.mem_append_right _ (List.mem_append_right _ (List.mem_append_left _ (List.mem_of_getElem? (l := tables_1_3) (i := 124) rfl)))), rfl⟩
theorem k_605 : Cond.fieldLink RX9 50 "StrokePiecesModel" "corners" "[I" ∈ sq_all := List.mem_filter.mpr ⟨List.mem_append_right _ (List.mem_append_right _ (List.mem_append_right _ (List.mem_append_left _ (List.mem_of_getElem? (l := tables_1_3) (i := 125) rfl)))), rfl⟩
theorem k_606 : Cond.fieldLink RX9 74 "StrokePiecesModel" "pieces" "I" ∈ sq_all := List.mem_filter.mpr ⟨List.mem_append_right _ (List.mem_append_right _ (List.mem_append_right _ (List.mem_append_left _ (List.mem_of_getElem? (l := tables_1_3) (i := 126) rfl)))), rfl⟩
theorem k_607 : Cond.fieldLink RX9 102 "StrokePiecesModel" "trouble" "I" ∈ sq_all := List.mem_filter.mpr ⟨List.mem_append_right _ (List.mem_append_right _ (List.mem_append_right _ (List.mem_append_left _ (List.mem_of_getElem? (l := tables_1_3) (i := 127) rfl)))), rfl⟩
theorem k_608 : Cond.fieldLink RX9 216 "StrokePiecesModel" "walked" "I" ∈ sq_all := List.mem_filter.mpr ⟨List.mem_append_right _ (List.mem_append_right _ (List.mem_append_right _ (List.mem_append_left _ (List.mem_of_getElem? (l := tables_1_3) (i := 128) rfl)))), rfl⟩
theorem k_609 : Cond.fieldLink RX9 177 "StrokePiecesModel" "taken" "I" ∈ sq_all := List.mem_filter.mpr ⟨List.mem_append_right _ (List.mem_append_right _ (List.mem_append_right _ (List.mem_append_left _ (List.mem_of_getElem? (l := tables_1_3) (i := 129) rfl)))), rfl⟩
theorem k_610 : Cond.fieldLink RX9 53 "StrokePiecesModel" "used" "[I" ∈ sq_all := List.mem_filter.mpr ⟨List.mem_append_right _ (List.mem_append_right _ (List.mem_append_right _ (List.mem_append_left _ (List.mem_of_getElem? (l := tables_1_3) (i := 130) rfl)))), rfl⟩
theorem k_611 : Cond.fieldLink RX9 167 "StrokePiecesModel" "dash" "I" ∈ sq_all := List.mem_filter.mpr ⟨List.mem_append_right _ (List.mem_append_right _ (List.mem_append_right _ (List.mem_append_left _ (List.mem_of_getElem? (l := tables_1_3) (i := 131) rfl)))), rfl⟩
theorem k_612 : Cond.fieldLink RX9 170 "StrokePiecesModel" "gap" "Z" ∈ sq_all := List.mem_filter.mpr ⟨List.mem_append_right _ (List.mem_append_right _ (List.mem_append_right _ (List.mem_append_left _ (List.mem_of_getElem? (l := tables_1_3) (i := 132) rfl)))), rfl⟩
theorem k_613 : Cond.fieldLink RX9 174 "StrokePiecesModel" "left" "J" ∈ sq_all := List.mem_filter.mpr ⟨List.mem_append_right _ (List.mem_append_right _ (List.mem_append_right _ (List.mem_append_left _ (List.mem_of_getElem? (l := tables_1_3) (i := 133) rfl)))), rfl⟩
theorem k_671 : Cond.arrayClass .byte ∈ sq_all := List.mem_filter.mpr ⟨List.mem_append_right _ (List.mem_append_right _ (List.mem_append_right _ (List.mem_append_left _ (List.mem_of_getElem? (l := tables_1_3) (i := 191) rfl)))), rfl⟩
theorem k_672 : Cond.arrayClass .long ∈ sq_all := List.mem_filter.mpr ⟨List.mem_append_right _ (List.mem_append_right _ (List.mem_append_right _ (List.mem_append_left _ (List.mem_of_getElem? (l := tables_1_3) (i := 192) rfl)))), rfl⟩
theorem k_673 : Cond.methodLink RL 17 yX9_move ∈ sq_all := List.mem_filter.mpr ⟨List.mem_append_right _ (List.mem_append_right _ (List.mem_append_right _ (List.mem_append_left _ (List.mem_of_getElem? (l := tables_1_3) (i := 193) rfl)))), rfl⟩
theorem k_674 : Cond.instanceMethod yX9_move ∈ sq_all := List.mem_filter.mpr ⟨List.mem_append_right _ (List.mem_append_right _ (List.mem_append_right _ (List.mem_append_left _ (List.mem_of_getElem? (l := tables_1_3) (i := 194) rfl)))), rfl⟩
theorem k_675 : Cond.selects RX9 yX9_move yX9_move ∈ sq_all := List.mem_filter.mpr ⟨List.mem_append_right _ (List.mem_append_right _ (List.mem_append_right _ (List.mem_append_left _ (List.mem_of_getElem? (l := tables_1_3) (i := 195) rfl)))), rfl⟩
theorem k_676 : Cond.code yX9_move prog_11_method_4_code 4 (some .int) ∈ sq_all := List.mem_filter.mpr ⟨List.mem_append_right _ (List.mem_append_right _ (List.mem_append_right _ (List.mem_append_left _ (List.mem_of_getElem? (l := tables_1_3) (i := 196) rfl)))), rfl⟩
theorem k_677 : Cond.methodLink RX9 63 yX9_isFar ∈ sq_all := List.mem_filter.mpr ⟨List.mem_append_right _ (List.mem_append_right _ (List.mem_append_right _ (List.mem_append_left _ (List.mem_of_getElem? (l := tables_1_3) (i := 197) rfl)))), rfl⟩
theorem k_678 : Cond.static yX9_isFar ∈ sq_all := List.mem_filter.mpr ⟨List.mem_append_right _ (List.mem_append_right _ (List.mem_append_right _ (List.mem_append_left _ (List.mem_of_getElem? (l := tables_1_3) (i := 198) rfl)))), rfl⟩
theorem k_679 : Cond.code yX9_isFar prog_11_method_2_code 2 (some .boolean) ∈ sq_all := List.mem_filter.mpr ⟨List.mem_append_right _ (List.mem_append_right _ (List.mem_append_right _ (List.mem_append_left _ (List.mem_of_getElem? (l := tables_1_3) (i := 199) rfl)))), rfl⟩
theorem k_680 : Cond.constantLong RX9 56 (-536870912) ∈ sq_all := List.mem_filter.mpr ⟨List.mem_append_right _ (List.mem_append_right _ (List.mem_append_right _ (List.mem_append_left _ (List.mem_of_getElem? (l := tables_1_3) (i := 200) rfl)))), rfl⟩
theorem k_681 : Cond.constantLong RX9 58 536870912 ∈ sq_all := List.mem_filter.mpr ⟨List.mem_append_right _ (List.mem_append_right _ (List.mem_append_right _ (List.mem_append_left _ (List.mem_of_getElem? (l := tables_1_3) (i := 201) rfl)))), rfl⟩
theorem k_682 : Cond.methodLink RX9 67 yX9_put ∈ sq_all := List.mem_filter.mpr ⟨List.mem_append_right _ (List.mem_append_right _ (List.mem_append_right _ (List.mem_append_left _ (List.mem_of_getElem? (l := tables_1_3) (i := 202) rfl)))), rfl⟩
theorem k_684 : Cond.instanceMethod yX9_put ∈ sq_all := List.mem_filter.mpr ⟨List.mem_append_right _ (List.mem_append_right _ (List.mem_append_right _ (List.mem_append_left _ (List.mem_of_getElem? (l := tables_1_3) (i := 204) rfl)))), rfl⟩
theorem k_685 : Cond.code yX9_put prog_11_method_3_code 4 (some .int) ∈ sq_all := List.mem_filter.mpr ⟨List.mem_append_right _ (List.mem_append_right _ (List.mem_append_right _ (List.mem_append_left _ (List.mem_of_getElem? (l := tables_1_3) (i := 205) rfl)))), rfl⟩
theorem k_686 : Cond.methodLink RL 21 yX9_line ∈ sq_all := List.mem_filter.mpr ⟨List.mem_append_right _ (List.mem_append_right _ (List.mem_append_right _ (List.mem_append_left _ (List.mem_of_getElem? (l := tables_1_3) (i := 206) rfl)))), rfl⟩
theorem k_687 : Cond.instanceMethod yX9_line ∈ sq_all := List.mem_filter.mpr ⟨List.mem_append_right _ (List.mem_append_right _ (List.mem_append_right _ (List.mem_append_left _ (List.mem_of_getElem? (l := tables_1_3) (i := 207) rfl)))), rfl⟩
theorem k_688 : Cond.selects RX9 yX9_line yX9_line ∈ sq_all := List.mem_filter.mpr ⟨List.mem_append_right _ (List.mem_append_right _ (List.mem_append_right _ (List.mem_append_left _ (List.mem_of_getElem? (l := tables_1_3) (i := 208) rfl)))), rfl⟩
theorem k_689 : Cond.code yX9_line prog_11_method_5_code 3 (some .int) ∈ sq_all := List.mem_filter.mpr ⟨List.mem_append_right _ (List.mem_append_right _ (List.mem_append_right _ (List.mem_append_left _ (List.mem_of_getElem? (l := tables_1_3) (i := 209) rfl)))), rfl⟩
theorem k_690 : Cond.methodLink RL 26 yX9_close ∈ sq_all := List.mem_filter.mpr ⟨List.mem_append_right _ (List.mem_append_right _ (List.mem_append_right _ (List.mem_append_left _ (List.mem_of_getElem? (l := tables_1_3) (i := 210) rfl)))), rfl⟩
theorem k_691 : Cond.instanceMethod yX9_close ∈ sq_all := List.mem_filter.mpr ⟨List.mem_append_right _ (List.mem_append_right _ (List.mem_append_right _ (List.mem_append_left _ (List.mem_of_getElem? (l := tables_1_3) (i := 211) rfl)))), rfl⟩
theorem k_692 : Cond.selects RX9 yX9_close yX9_close ∈ sq_all := List.mem_filter.mpr ⟨List.mem_append_right _ (List.mem_append_right _ (List.mem_append_right _ (List.mem_append_left _ (List.mem_of_getElem? (l := tables_1_3) (i := 212) rfl)))), rfl⟩
theorem k_693 : Cond.code yX9_close prog_11_method_6_code 1 (some .int) ∈ sq_all := List.mem_filter.mpr ⟨List.mem_append_right _ (List.mem_append_right _ (List.mem_append_right _ (List.mem_append_left _ (List.mem_of_getElem? (l := tables_1_3) (i := 213) rfl)))), rfl⟩
theorem k_694 : Cond.methodLink RL 30 yX9_clear ∈ sq_all := List.mem_filter.mpr ⟨List.mem_append_right _ (List.mem_append_right _ (List.mem_append_right _ (List.mem_append_left _ (List.mem_of_getElem? (l := tables_1_3) (i := 214) rfl)))), rfl⟩
theorem k_695 : Cond.instanceMethod yX9_clear ∈ sq_all := List.mem_filter.mpr ⟨List.mem_append_right _ (List.mem_append_right _ (List.mem_append_right _ (List.mem_append_left _ (List.mem_of_getElem? (l := tables_1_3) (i := 215) rfl)))), rfl⟩
theorem k_696 : Cond.selects RX9 yX9_clear yX9_clear ∈ sq_all := List.mem_filter.mpr ⟨List.mem_append_right _ (List.mem_append_right _ (List.mem_append_right _ (List.mem_append_left _ (List.mem_of_getElem? (l := tables_1_3) (i := 216) rfl)))), rfl⟩
theorem k_697 : Cond.code yX9_clear prog_11_method_7_code 2 (some .int) ∈ sq_all := List.mem_filter.mpr ⟨List.mem_append_right _ (List.mem_append_right _ (List.mem_append_right _ (List.mem_append_left _ (List.mem_of_getElem? (l := tables_1_3) (i := 217) rfl)))), rfl⟩
theorem k_698 : Cond.methodLink RL 35 yX9_pen ∈ sq_all := List.mem_filter.mpr ⟨List.mem_append_right _ (List.mem_append_right _ (List.mem_append_right _ (List.mem_append_left _ (List.mem_of_getElem? (l := tables_1_3) (i := 218) rfl)))), rfl⟩
theorem k_699 : Cond.instanceMethod yX9_pen ∈ sq_all := List.mem_filter.mpr ⟨List.mem_append_right _ (List.mem_append_right _ (List.mem_append_right _ (List.mem_append_left _ (List.mem_of_getElem? (l := tables_1_3) (i := 219) rfl)))), rfl⟩
theorem k_700 : Cond.selects RX9 yX9_pen yX9_pen ∈ sq_all := List.mem_filter.mpr ⟨List.mem_append_right _ (List.mem_append_right _ (List.mem_append_right _ (List.mem_append_left _ (List.mem_of_getElem? (l := tables_1_3) (i := 220) rfl)))), rfl⟩
theorem k_701 : Cond.code yX9_pen prog_11_method_8_code 5 (some .boolean) ∈ sq_all := List.mem_filter.mpr ⟨List.mem_append_right _ (List.mem_append_right _ (List.mem_append_right _ (List.mem_append_left _ (List.mem_of_getElem? (l := tables_1_3) (i := 221) rfl)))), rfl⟩
theorem k_702 : Cond.constant RX9 77 4194304 ∈ sq_all := List.mem_filter.mpr ⟨List.mem_append_right _ (List.mem_append_right _ (List.mem_append_right _ (List.mem_append_left _ (List.mem_of_getElem? (l := tables_1_3) (i := 222) rfl)))), rfl⟩
theorem k_703 : Cond.constant RX9 78 65536 ∈ sq_all := List.mem_filter.mpr ⟨List.mem_append_right _ (List.mem_append_right _ (List.mem_append_right _ (List.mem_append_left _ (List.mem_of_getElem? (l := tables_1_3) (i := 223) rfl)))), rfl⟩
theorem k_704 : Cond.constant RX9 79 6553600 ∈ sq_all := List.mem_filter.mpr ⟨List.mem_append_right _ (List.mem_append_right _ (List.mem_append_right _ (List.mem_append_left _ (List.mem_of_getElem? (l := tables_1_3) (i := 224) rfl)))), rfl⟩
theorem k_705 : Cond.methodLink RL 40 yX9_length ∈ sq_all := List.mem_filter.mpr ⟨List.mem_append_right _ (List.mem_append_right _ (List.mem_append_right _ (List.mem_append_left _ (List.mem_of_getElem? (l := tables_1_3) (i := 225) rfl)))), rfl⟩
theorem k_706 : Cond.instanceMethod yX9_length ∈ sq_all := List.mem_filter.mpr ⟨List.mem_append_right _ (List.mem_append_right _ (List.mem_append_right _ (List.mem_append_left _ (List.mem_of_getElem? (l := tables_1_3) (i := 226) rfl)))), rfl⟩
theorem k_707 : Cond.selects RX9 yX9_length yX9_length ∈ sq_all := List.mem_filter.mpr ⟨List.mem_append_right _ (List.mem_append_right _ (List.mem_append_right _ (List.mem_append_left _ (List.mem_of_getElem? (l := tables_1_3) (i := 227) rfl)))), rfl⟩
theorem k_708 : Cond.code yX9_length prog_11_method_9_code 3 (some .boolean) ∈ sq_all := List.mem_filter.mpr ⟨List.mem_append_right _ (List.mem_append_right _ (List.mem_append_right _ (List.mem_append_left _ (List.mem_of_getElem? (l := tables_1_3) (i := 228) rfl)))), rfl⟩
theorem k_709 : Cond.methodLink RL 44 yX9_dashes ∈ sq_all := List.mem_filter.mpr ⟨List.mem_append_right _ (List.mem_append_right _ (List.mem_append_right _ (List.mem_append_left _ (List.mem_of_getElem? (l := tables_1_3) (i := 229) rfl)))), rfl⟩
theorem k_710 : Cond.instanceMethod yX9_dashes ∈ sq_all := List.mem_filter.mpr ⟨List.mem_append_right _ (List.mem_append_right _ (List.mem_append_right _ (List.mem_append_left _ (List.mem_of_getElem? (l := tables_1_3) (i := 230) rfl)))), rfl⟩
theorem k_711 : Cond.selects RX9 yX9_dashes yX9_dashes ∈ sq_all := List.mem_filter.mpr ⟨List.mem_append_right _ (List.mem_append_right _ (List.mem_append_right _ (List.mem_append_left _ (List.mem_of_getElem? (l := tables_1_3) (i := 231) rfl)))), rfl⟩
theorem k_712 : Cond.code yX9_dashes prog_11_method_10_code 6 (some .boolean) ∈ sq_all := List.mem_filter.mpr ⟨List.mem_append_right _ (List.mem_append_right _ (List.mem_append_right _ (List.mem_append_left _ (List.mem_of_getElem? (l := tables_1_3) (i := 232) rfl)))), rfl⟩
theorem k_713 : Cond.methodLink RL 48 yX9_stroke ∈ sq_all := List.mem_filter.mpr ⟨List.mem_append_right _ (List.mem_append_right _ (List.mem_append_right _ (List.mem_append_left _ (List.mem_of_getElem? (l := tables_1_3) (i := 233) rfl)))), rfl⟩
theorem k_714 : Cond.instanceMethod yX9_stroke ∈ sq_all := List.mem_filter.mpr ⟨List.mem_append_right _ (List.mem_append_right _ (List.mem_append_right _ (List.mem_append_left _ (List.mem_of_getElem? (l := tables_1_3) (i := 234) rfl)))), rfl⟩
theorem k_715 : Cond.selects RX9 yX9_stroke yX9_stroke ∈ sq_all := List.mem_filter.mpr ⟨List.mem_append_right _ (List.mem_append_right _ (List.mem_append_right _ (List.mem_append_left _ (List.mem_of_getElem? (l := tables_1_3) (i := 235) rfl)))), rfl⟩
theorem k_716 : Cond.code yX9_stroke prog_11_method_36_code 3 (some .int) ∈ sq_all := List.mem_filter.mpr ⟨List.mem_append_right _ (List.mem_append_right _ (List.mem_append_right _ (List.mem_append_left _ (List.mem_of_getElem? (l := tables_1_3) (i := 236) rfl)))), rfl⟩
theorem k_717 : Cond.methodLink RX9 209 yX9_collect ∈ sq_all := List.mem_filter.mpr ⟨List.mem_append_right _ (List.mem_append_right _ (List.mem_append_right _ (List.mem_append_left _ (List.mem_of_getElem? (l := tables_1_3) (i := 237) rfl)))), rfl⟩
theorem k_719 : Cond.instanceMethod yX9_collect ∈ sq_all := List.mem_filter.mpr ⟨List.mem_append_right _ (List.mem_append_right _ (List.mem_append_right _ (List.mem_append_left _ (List.mem_of_getElem? (l := tables_1_3) (i := 239) rfl)))), rfl⟩
theorem k_720 : Cond.code yX9_collect prog_11_method_34_code 3 (some .int) ∈ sq_all := List.mem_filter.mpr ⟨List.mem_append_right _ (List.mem_append_right _ (List.mem_append_right _ (List.mem_append_right _ (List.mem_of_getElem? (l := tables_1_4) (i := 0) rfl)))), rfl⟩
theorem k_721 : Cond.methodLink RX9 213 yX9_strokeRow ∈ sq_all := List.mem_filter.mpr ⟨List.mem_append_right _ (List.mem_append_right _ (List.mem_append_right _ (List.mem_append_right _ (List.mem_of_getElem? (l := tables_1_4) (i := 1) rfl)))), rfl⟩
theorem k_723 : Cond.instanceMethod yX9_strokeRow ∈ sq_all := List.mem_filter.mpr ⟨List.mem_append_right _ (List.mem_append_right _ (List.mem_append_right _ (List.mem_append_right _ (List.mem_of_getElem? (l := tables_1_4) (i := 3) rfl)))), rfl⟩
theorem k_724 : Cond.code yX9_strokeRow prog_11_method_35_code 3 none ∈ sq_all := List.mem_filter.mpr ⟨List.mem_append_right _ (List.mem_append_right _ (List.mem_append_right _ (List.mem_append_right _ (List.mem_of_getElem? (l := tables_1_4) (i := 4) rfl)))), rfl⟩
theorem k_725 : Cond.methodLink RX9 206 yX9_walkRow ∈ sq_all := List.mem_filter.mpr ⟨List.mem_append_right _ (List.mem_append_right _ (List.mem_append_right _ (List.mem_append_right _ (List.mem_of_getElem? (l := tables_1_4) (i := 5) rfl)))), rfl⟩
theorem k_727 : Cond.instanceMethod yX9_walkRow ∈ sq_all := List.mem_filter.mpr ⟨List.mem_append_right _ (List.mem_append_right _ (List.mem_append_right _ (List.mem_append_right _ (List.mem_of_getElem? (l := tables_1_4) (i := 7) rfl)))), rfl⟩
theorem k_728 : Cond.code yX9_walkRow prog_11_method_33_code 3 none ∈ sq_all := List.mem_filter.mpr ⟨List.mem_append_right _ (List.mem_append_right _ (List.mem_append_right _ (List.mem_append_right _ (List.mem_of_getElem? (l := tables_1_4) (i := 8) rfl)))), rfl⟩
theorem k_729 : Cond.methodLink RX9 196 yX9_start ∈ sq_all := List.mem_filter.mpr ⟨List.mem_append_right _ (List.mem_append_right _ (List.mem_append_right _ (List.mem_append_right _ (List.mem_of_getElem? (l := tables_1_4) (i := 9) rfl)))), rfl⟩
theorem k_731 : Cond.instanceMethod yX9_start ∈ sq_all := List.mem_filter.mpr ⟨List.mem_append_right _ (List.mem_append_right _ (List.mem_append_right _ (List.mem_append_right _ (List.mem_of_getElem? (l := tables_1_4) (i := 11) rfl)))), rfl⟩
theorem k_732 : Cond.code yX9_start prog_11_method_30_code 5 none ∈ sq_all := List.mem_filter.mpr ⟨List.mem_append_right _ (List.mem_append_right _ (List.mem_append_right _ (List.mem_append_right _ (List.mem_of_getElem? (l := tables_1_4) (i := 12) rfl)))), rfl⟩
theorem k_733 : Cond.constantLong RX9 92 2 ∈ sq_all := List.mem_filter.mpr ⟨List.mem_append_right _ (List.mem_append_right _ (List.mem_append_right _ (List.mem_append_right _ (List.mem_of_getElem? (l := tables_1_4) (i := 13) rfl)))), rfl⟩
theorem k_734 : Cond.methodLink RX9 180 yX9_next ∈ sq_all := List.mem_filter.mpr ⟨List.mem_append_right _ (List.mem_append_right _ (List.mem_append_right _ (List.mem_append_right _ (List.mem_of_getElem? (l := tables_1_4) (i := 14) rfl)))), rfl⟩
theorem k_736 : Cond.instanceMethod yX9_next ∈ sq_all := List.mem_filter.mpr ⟨List.mem_append_right _ (List.mem_append_right _ (List.mem_append_right _ (List.mem_append_right _ (List.mem_of_getElem? (l := tables_1_4) (i := 16) rfl)))), rfl⟩
theorem k_737 : Cond.code yX9_next prog_11_method_28_code 1 none ∈ sq_all := List.mem_filter.mpr ⟨List.mem_append_right _ (List.mem_append_right _ (List.mem_append_right _ (List.mem_append_right _ (List.mem_of_getElem? (l := tables_1_4) (i := 17) rfl)))), rfl⟩
theorem k_738 : Cond.methodLink RX9 183 yX9_take ∈ sq_all := List.mem_filter.mpr ⟨List.mem_append_right _ (List.mem_append_right _ (List.mem_append_right _ (List.mem_append_right _ (List.mem_of_getElem? (l := tables_1_4) (i := 18) rfl)))), rfl⟩
theorem k_740 : Cond.instanceMethod yX9_take ∈ sq_all := List.mem_filter.mpr ⟨List.mem_append_right _ (List.mem_append_right _ (List.mem_append_right _ (List.mem_append_right _ (List.mem_of_getElem? (l := tables_1_4) (i := 20) rfl)))), rfl⟩
theorem k_741 : Cond.code yX9_take prog_11_method_29_code 1 none ∈ sq_all := List.mem_filter.mpr ⟨List.mem_append_right _ (List.mem_append_right _ (List.mem_append_right _ (List.mem_append_right _ (List.mem_of_getElem? (l := tables_1_4) (i := 21) rfl)))), rfl⟩
theorem k_742 : Cond.methodLink RX9 190 yX9_pass ∈ sq_all := List.mem_filter.mpr ⟨List.mem_append_right _ (List.mem_append_right _ (List.mem_append_right _ (List.mem_append_right _ (List.mem_of_getElem? (l := tables_1_4) (i := 22) rfl)))), rfl⟩
theorem k_744 : Cond.instanceMethod yX9_pass ∈ sq_all := List.mem_filter.mpr ⟨List.mem_append_right _ (List.mem_append_right _ (List.mem_append_right _ (List.mem_append_right _ (List.mem_of_getElem? (l := tables_1_4) (i := 24) rfl)))), rfl⟩
theorem k_745 : Cond.code yX9_pass prog_11_method_27_code 5 none ∈ sq_all := List.mem_filter.mpr ⟨List.mem_append_right _ (List.mem_append_right _ (List.mem_append_right _ (List.mem_append_right _ (List.mem_of_getElem? (l := tables_1_4) (i := 25) rfl)))), rfl⟩
theorem k_746 : Cond.methodLink RX9 149 yX9_addRun ∈ sq_all := List.mem_filter.mpr ⟨List.mem_append_right _ (List.mem_append_right _ (List.mem_append_right _ (List.mem_append_right _ (List.mem_of_getElem? (l := tables_1_4) (i := 26) rfl)))), rfl⟩
theorem k_748 : Cond.instanceMethod yX9_addRun ∈ sq_all := List.mem_filter.mpr ⟨List.mem_append_right _ (List.mem_append_right _ (List.mem_append_right _ (List.mem_append_right _ (List.mem_of_getElem? (l := tables_1_4) (i := 28) rfl)))), rfl⟩
theorem k_749 : Cond.code yX9_addRun prog_11_method_26_code 5 none ∈ sq_all := List.mem_filter.mpr ⟨List.mem_append_right _ (List.mem_append_right _ (List.mem_append_right _ (List.mem_append_right _ (List.mem_of_getElem? (l := tables_1_4) (i := 29) rfl)))), rfl⟩
theorem k_750 : Cond.methodLink RX9 202 yX9_walk ∈ sq_all := List.mem_filter.mpr ⟨List.mem_append_right _ (List.mem_append_right _ (List.mem_append_right _ (List.mem_append_right _ (List.mem_of_getElem? (l := tables_1_4) (i := 30) rfl)))), rfl⟩
theorem k_752 : Cond.instanceMethod yX9_walk ∈ sq_all := List.mem_filter.mpr ⟨List.mem_append_right _ (List.mem_append_right _ (List.mem_append_right _ (List.mem_append_right _ (List.mem_of_getElem? (l := tables_1_4) (i := 32) rfl)))), rfl⟩
theorem k_753 : Cond.code yX9_walk prog_11_method_32_code 21 none ∈ sq_all := List.mem_filter.mpr ⟨List.mem_append_right _ (List.mem_append_right _ (List.mem_append_right _ (List.mem_append_right _ (List.mem_of_getElem? (l := tables_1_4) (i := 33) rfl)))), rfl⟩
theorem k_754 : Cond.methodLink RX9 116 yX9_lengthOf ∈ sq_all := List.mem_filter.mpr ⟨List.mem_append_right _ (List.mem_append_right _ (List.mem_append_right _ (List.mem_append_right _ (List.mem_of_getElem? (l := tables_1_4) (i := 34) rfl)))), rfl⟩
theorem k_755 : Cond.static yX9_lengthOf ∈ sq_all := List.mem_filter.mpr ⟨List.mem_append_right _ (List.mem_append_right _ (List.mem_append_right _ (List.mem_append_right _ (List.mem_of_getElem? (l := tables_1_4) (i := 35) rfl)))), rfl⟩
theorem k_756 : Cond.code yX9_lengthOf prog_11_method_18_code 4 (some .long) ∈ sq_all := List.mem_filter.mpr ⟨List.mem_append_right _ (List.mem_append_right _ (List.mem_append_right _ (List.mem_append_right _ (List.mem_of_getElem? (l := tables_1_4) (i := 36) rfl)))), rfl⟩
theorem k_757 : Cond.methodLink RX9 105 yX9_root ∈ sq_all := List.mem_filter.mpr ⟨List.mem_append_right _ (List.mem_append_right _ (List.mem_append_right _ (List.mem_append_right _ (List.mem_of_getElem? (l := tables_1_4) (i := 37) rfl)))), rfl⟩
theorem k_758 : Cond.static yX9_root ∈ sq_all := List.mem_filter.mpr ⟨List.mem_append_right _ (List.mem_append_right _ (List.mem_append_right _ (List.mem_append_right _ (List.mem_of_getElem? (l := tables_1_4) (i := 38) rfl)))), rfl⟩
theorem k_759 : Cond.code yX9_root prog_11_method_12_code 8 (some .long) ∈ sq_all := List.mem_filter.mpr ⟨List.mem_append_right _ (List.mem_append_right _ (List.mem_append_right _ (List.mem_append_right _ (List.mem_of_getElem? (l := tables_1_4) (i := 39) rfl)))), rfl⟩
theorem k_760 : Cond.constantLong RX9 100 2147483648 ∈ sq_all := List.mem_filter.mpr ⟨List.mem_append_right _ (List.mem_append_right _ (List.mem_append_right _ (List.mem_append_right _ (List.mem_of_getElem? (l := tables_1_4) (i := 40) rfl)))), rfl⟩
theorem k_761 : Cond.methodLink RX9 119 yX9_rounded ∈ sq_all := List.mem_filter.mpr ⟨List.mem_append_right _ (List.mem_append_right _ (List.mem_append_right _ (List.mem_append_right _ (List.mem_of_getElem? (l := tables_1_4) (i := 41) rfl)))), rfl⟩
theorem k_762 : Cond.static yX9_rounded ∈ sq_all := List.mem_filter.mpr ⟨List.mem_append_right _ (List.mem_append_right _ (List.mem_append_right _ (List.mem_append_right _ (List.mem_of_getElem? (l := tables_1_4) (i := 42) rfl)))), rfl⟩
theorem k_763 : Cond.code yX9_rounded prog_11_method_11_code 4 (some .long) ∈ sq_all := List.mem_filter.mpr ⟨List.mem_append_right _ (List.mem_append_right _ (List.mem_append_right _ (List.mem_append_right _ (List.mem_of_getElem? (l := tables_1_4) (i := 43) rfl)))), rfl⟩
theorem k_764 : Cond.methodLink RX9 94 yJ9_floorDiv ∈ sq_all := List.mem_filter.mpr ⟨List.mem_append_right _ (List.mem_append_right _ (List.mem_append_right _ (List.mem_append_right _ (List.mem_of_getElem? (l := tables_1_4) (i := 44) rfl)))), rfl⟩
theorem k_765 : Cond.methodLink RX9 193 yX9_endDash ∈ sq_all := List.mem_filter.mpr ⟨List.mem_append_right _ (List.mem_append_right _ (List.mem_append_right _ (List.mem_append_right _ (List.mem_of_getElem? (l := tables_1_4) (i := 45) rfl)))), rfl⟩
theorem k_767 : Cond.instanceMethod yX9_endDash ∈ sq_all := List.mem_filter.mpr ⟨List.mem_append_right _ (List.mem_append_right _ (List.mem_append_right _ (List.mem_append_right _ (List.mem_of_getElem? (l := tables_1_4) (i := 47) rfl)))), rfl⟩
theorem k_768 : Cond.code yX9_endDash prog_11_method_31_code 1 none ∈ sq_all := List.mem_filter.mpr ⟨List.mem_append_right _ (List.mem_append_right _ (List.mem_append_right _ (List.mem_append_right _ (List.mem_of_getElem? (l := tables_1_4) (i := 48) rfl)))), rfl⟩
theorem k_769 : Cond.methodLink RX9 186 yX9_make ∈ sq_all := List.mem_filter.mpr ⟨List.mem_append_right _ (List.mem_append_right _ (List.mem_append_right _ (List.mem_append_right _ (List.mem_of_getElem? (l := tables_1_4) (i := 49) rfl)))), rfl⟩
theorem k_771 : Cond.instanceMethod yX9_make ∈ sq_all := List.mem_filter.mpr ⟨List.mem_append_right _ (List.mem_append_right _ (List.mem_append_right _ (List.mem_append_right _ (List.mem_of_getElem? (l := tables_1_4) (i := 51) rfl)))), rfl⟩
theorem k_772 : Cond.code yX9_make prog_11_method_25_code 4 none ∈ sq_all := List.mem_filter.mpr ⟨List.mem_append_right _ (List.mem_append_right _ (List.mem_append_right _ (List.mem_append_right _ (List.mem_of_getElem? (l := tables_1_4) (i := 52) rfl)))), rfl⟩
theorem k_773 : Cond.methodLink RX9 153 yX9_capBeginning ∈ sq_all := List.mem_filter.mpr ⟨List.mem_append_right _ (List.mem_append_right _ (List.mem_append_right _ (List.mem_append_right _ (List.mem_of_getElem? (l := tables_1_4) (i := 53) rfl)))), rfl⟩
theorem k_775 : Cond.instanceMethod yX9_capBeginning ∈ sq_all := List.mem_filter.mpr ⟨List.mem_append_right _ (List.mem_append_right _ (List.mem_append_right _ (List.mem_append_right _ (List.mem_of_getElem? (l := tables_1_4) (i := 55) rfl)))), rfl⟩
theorem k_776 : Cond.code yX9_capBeginning prog_11_method_23_code 9 none ∈ sq_all := List.mem_filter.mpr ⟨List.mem_append_right _ (List.mem_append_right _ (List.mem_append_right _ (List.mem_append_right _ (List.mem_of_getElem? (l := tables_1_4) (i := 56) rfl)))), rfl⟩
theorem k_777 : Cond.methodLink RX9 122 yX9_begin ∈ sq_all := List.mem_filter.mpr ⟨List.mem_append_right _ (List.mem_append_right _ (List.mem_append_right _ (List.mem_append_right _ (List.mem_of_getElem? (l := tables_1_4) (i := 57) rfl)))), rfl⟩
theorem k_779 : Cond.instanceMethod yX9_begin ∈ sq_all := List.mem_filter.mpr ⟨List.mem_append_right _ (List.mem_append_right _ (List.mem_append_right _ (List.mem_append_right _ (List.mem_of_getElem? (l := tables_1_4) (i := 59) rfl)))), rfl⟩
theorem k_780 : Cond.code yX9_begin prog_11_method_14_code 2 (some .boolean) ∈ sq_all := List.mem_filter.mpr ⟨List.mem_append_right _ (List.mem_append_right _ (List.mem_append_right _ (List.mem_append_right _ (List.mem_of_getElem? (l := tables_1_4) (i := 60) rfl)))), rfl⟩
theorem k_781 : Cond.methodLink RX9 126 yX9_across ∈ sq_all := List.mem_filter.mpr ⟨List.mem_append_right _ (List.mem_append_right _ (List.mem_append_right _ (List.mem_append_right _ (List.mem_of_getElem? (l := tables_1_4) (i := 61) rfl)))), rfl⟩
theorem k_783 : Cond.instanceMethod yX9_across ∈ sq_all := List.mem_filter.mpr ⟨List.mem_append_right _ (List.mem_append_right _ (List.mem_append_right _ (List.mem_append_right _ (List.mem_of_getElem? (l := tables_1_4) (i := 63) rfl)))), rfl⟩
theorem k_784 : Cond.code yX9_across prog_11_method_19_code 3 (some .long) ∈ sq_all := List.mem_filter.mpr ⟨List.mem_append_right _ (List.mem_append_right _ (List.mem_append_right _ (List.mem_append_right _ (List.mem_of_getElem? (l := tables_1_4) (i := 64) rfl)))), rfl⟩
theorem k_785 : Cond.methodLink RX9 109 yX9_dx ∈ sq_all := List.mem_filter.mpr ⟨List.mem_append_right _ (List.mem_append_right _ (List.mem_append_right _ (List.mem_append_right _ (List.mem_of_getElem? (l := tables_1_4) (i := 65) rfl)))), rfl⟩
theorem k_787 : Cond.instanceMethod yX9_dx ∈ sq_all := List.mem_filter.mpr ⟨List.mem_append_right _ (List.mem_append_right _ (List.mem_append_right _ (List.mem_append_right _ (List.mem_of_getElem? (l := tables_1_4) (i := 67) rfl)))), rfl⟩
theorem k_788 : Cond.code yX9_dx prog_11_method_16_code 2 (some .long) ∈ sq_all := List.mem_filter.mpr ⟨List.mem_append_right _ (List.mem_append_right _ (List.mem_append_right _ (List.mem_append_right _ (List.mem_of_getElem? (l := tables_1_4) (i := 68) rfl)))), rfl⟩
theorem k_789 : Cond.methodLink RX9 113 yX9_dy ∈ sq_all := List.mem_filter.mpr ⟨List.mem_append_right _ (List.mem_append_right _ (List.mem_append_right _ (List.mem_append_right _ (List.mem_of_getElem? (l := tables_1_4) (i := 69) rfl)))), rfl⟩
theorem k_791 : Cond.instanceMethod yX9_dy ∈ sq_all := List.mem_filter.mpr ⟨List.mem_append_right _ (List.mem_append_right _ (List.mem_append_right _ (List.mem_append_right _ (List.mem_of_getElem? (l := tables_1_4) (i := 71) rfl)))), rfl⟩
theorem k_792 : Cond.code yX9_dy prog_11_method_17_code 2 (some .long) ∈ sq_all := List.mem_filter.mpr ⟨List.mem_append_right _ (List.mem_append_right _ (List.mem_append_right _ (List.mem_append_right _ (List.mem_of_getElem? (l := tables_1_4) (i := 72) rfl)))), rfl⟩
theorem k_793 : Cond.methodLink RX9 130 yX9_setCorner ∈ sq_all := List.mem_filter.mpr ⟨List.mem_append_right _ (List.mem_append_right _ (List.mem_append_right _ (List.mem_append_right _ (List.mem_of_getElem? (l := tables_1_4) (i := 73) rfl)))), rfl⟩
theorem k_795 : Cond.instanceMethod yX9_setCorner ∈ sq_all := List.mem_filter.mpr ⟨List.mem_append_right _ (List.mem_append_right _ (List.mem_append_right _ (List.mem_append_right _ (List.mem_of_getElem? (l := tables_1_4) (i := 75) rfl)))), rfl⟩
theorem k_796 : Cond.code yX9_setCorner prog_11_method_13_code 6 none ∈ sq_all := List.mem_filter.mpr ⟨List.mem_append_right _ (List.mem_append_right _ (List.mem_append_right _ (List.mem_append_right _ (List.mem_of_getElem? (l := tables_1_4) (i := 76) rfl)))), rfl⟩
theorem k_797 : Cond.methodLink RX9 137 yX9_along ∈ sq_all := List.mem_filter.mpr ⟨List.mem_append_right _ (List.mem_append_right _ (List.mem_append_right _ (List.mem_append_right _ (List.mem_of_getElem? (l := tables_1_4) (i := 77) rfl)))), rfl⟩
theorem k_799 : Cond.instanceMethod yX9_along ∈ sq_all := List.mem_filter.mpr ⟨List.mem_append_right _ (List.mem_append_right _ (List.mem_append_right _ (List.mem_append_right _ (List.mem_of_getElem? (l := tables_1_4) (i := 79) rfl)))), rfl⟩
theorem k_800 : Cond.code yX9_along prog_11_method_20_code 3 (some .long) ∈ sq_all := List.mem_filter.mpr ⟨List.mem_append_right _ (List.mem_append_right _ (List.mem_append_right _ (List.mem_append_right _ (List.mem_of_getElem? (l := tables_1_4) (i := 80) rfl)))), rfl⟩
theorem k_801 : Cond.methodLink RX9 134 yX9_end ∈ sq_all := List.mem_filter.mpr ⟨List.mem_append_right _ (List.mem_append_right _ (List.mem_append_right _ (List.mem_append_right _ (List.mem_of_getElem? (l := tables_1_4) (i := 81) rfl)))), rfl⟩
theorem k_803 : Cond.instanceMethod yX9_end ∈ sq_all := List.mem_filter.mpr ⟨List.mem_append_right _ (List.mem_append_right _ (List.mem_append_right _ (List.mem_append_right _ (List.mem_of_getElem? (l := tables_1_4) (i := 83) rfl)))), rfl⟩
theorem k_804 : Cond.code yX9_end prog_11_method_15_code 1 none ∈ sq_all := List.mem_filter.mpr ⟨List.mem_append_right _ (List.mem_append_right _ (List.mem_append_right _ (List.mem_append_right _ (List.mem_of_getElem? (l := tables_1_4) (i := 84) rfl)))), rfl⟩
theorem k_805 : Cond.methodLink RX9 156 yX9_side ∈ sq_all := List.mem_filter.mpr ⟨List.mem_append_right _ (List.mem_append_right _ (List.mem_append_right _ (List.mem_append_right _ (List.mem_of_getElem? (l := tables_1_4) (i := 85) rfl)))), rfl⟩
theorem k_807 : Cond.instanceMethod yX9_side ∈ sq_all := List.mem_filter.mpr ⟨List.mem_append_right _ (List.mem_append_right _ (List.mem_append_right _ (List.mem_append_right _ (List.mem_of_getElem? (l := tables_1_4) (i := 87) rfl)))), rfl⟩
theorem k_808 : Cond.code yX9_side prog_11_method_21_code 6 none ∈ sq_all := List.mem_filter.mpr ⟨List.mem_append_right _ (List.mem_append_right _ (List.mem_append_right _ (List.mem_append_right _ (List.mem_of_getElem? (l := tables_1_4) (i := 88) rfl)))), rfl⟩
theorem k_809 : Cond.methodLink RX9 160 yX9_meet ∈ sq_all := List.mem_filter.mpr ⟨List.mem_append_right _ (List.mem_append_right _ (List.mem_append_right _ (List.mem_append_right _ (List.mem_of_getElem? (l := tables_1_4) (i := 89) rfl)))), rfl⟩
theorem k_811 : Cond.instanceMethod yX9_meet ∈ sq_all := List.mem_filter.mpr ⟨List.mem_append_right _ (List.mem_append_right _ (List.mem_append_right _ (List.mem_append_right _ (List.mem_of_getElem? (l := tables_1_4) (i := 91) rfl)))), rfl⟩
theorem k_812 : Cond.code yX9_meet prog_11_method_24_code 26 none ∈ sq_all := List.mem_filter.mpr ⟨List.mem_append_right _ (List.mem_append_right _ (List.mem_append_right _ (List.mem_append_right _ (List.mem_of_getElem? (l := tables_1_4) (i := 92) rfl)))), rfl⟩
theorem k_813 : Cond.constantLong RX9 140 (-1) ∈ sq_all := List.mem_filter.mpr ⟨List.mem_append_right _ (List.mem_append_right _ (List.mem_append_right _ (List.mem_append_right _ (List.mem_of_getElem? (l := tables_1_4) (i := 93) rfl)))), rfl⟩
theorem k_814 : Cond.constantLong RX9 142 65536 ∈ sq_all := List.mem_filter.mpr ⟨List.mem_append_right _ (List.mem_append_right _ (List.mem_append_right _ (List.mem_append_right _ (List.mem_of_getElem? (l := tables_1_4) (i := 94) rfl)))), rfl⟩
theorem k_815 : Cond.constantLong RX9 144 562949953421312 ∈ sq_all := List.mem_filter.mpr ⟨List.mem_append_right _ (List.mem_append_right _ (List.mem_append_right _ (List.mem_append_right _ (List.mem_of_getElem? (l := tables_1_4) (i := 95) rfl)))), rfl⟩
theorem k_816 : Cond.methodLink RX9 164 yX9_capEnd ∈ sq_all := List.mem_filter.mpr ⟨List.mem_append_right _ (List.mem_append_right _ (List.mem_append_right _ (List.mem_append_right _ (List.mem_of_getElem? (l := tables_1_4) (i := 96) rfl)))), rfl⟩
theorem k_818 : Cond.instanceMethod yX9_capEnd ∈ sq_all := List.mem_filter.mpr ⟨List.mem_append_right _ (List.mem_append_right _ (List.mem_append_right _ (List.mem_append_right _ (List.mem_of_getElem? (l := tables_1_4) (i := 98) rfl)))), rfl⟩
theorem k_819 : Cond.code yX9_capEnd prog_11_method_22_code 10 none ∈ sq_all := List.mem_filter.mpr ⟨List.mem_append_right _ (List.mem_append_right _ (List.mem_append_right _ (List.mem_append_right _ (List.mem_of_getElem? (l := tables_1_4) (i := 99) rfl)))), rfl⟩
theorem k_820 : Cond.methodLink RL 52 yX9_pieces ∈ sq_all := List.mem_filter.mpr ⟨List.mem_append_right _ (List.mem_append_right _ (List.mem_append_right _ (List.mem_append_right _ (List.mem_of_getElem? (l := tables_1_4) (i := 100) rfl)))), rfl⟩
theorem k_821 : Cond.instanceMethod yX9_pieces ∈ sq_all := List.mem_filter.mpr ⟨List.mem_append_right _ (List.mem_append_right _ (List.mem_append_right _ (List.mem_append_right _ (List.mem_of_getElem? (l := tables_1_4) (i := 101) rfl)))), rfl⟩
theorem k_822 : Cond.selects RX9 yX9_pieces yX9_pieces ∈ sq_all := List.mem_filter.mpr ⟨List.mem_append_right _ (List.mem_append_right _ (List.mem_append_right _ (List.mem_append_right _ (List.mem_of_getElem? (l := tables_1_4) (i := 102) rfl)))), rfl⟩
theorem k_823 : Cond.code yX9_pieces prog_11_method_37_code 1 (some .int) ∈ sq_all := List.mem_filter.mpr ⟨List.mem_append_right _ (List.mem_append_right _ (List.mem_append_right _ (List.mem_append_right _ (List.mem_of_getElem? (l := tables_1_4) (i := 103) rfl)))), rfl⟩
theorem k_824 : Cond.methodLink RL 57 yX9_sort ∈ sq_all := List.mem_filter.mpr ⟨List.mem_append_right _ (List.mem_append_right _ (List.mem_append_right _ (List.mem_append_right _ (List.mem_of_getElem? (l := tables_1_4) (i := 104) rfl)))), rfl⟩
theorem k_825 : Cond.instanceMethod yX9_sort ∈ sq_all := List.mem_filter.mpr ⟨List.mem_append_right _ (List.mem_append_right _ (List.mem_append_right _ (List.mem_append_right _ (List.mem_of_getElem? (l := tables_1_4) (i := 105) rfl)))), rfl⟩
theorem k_826 : Cond.selects RX9 yX9_sort yX9_sort ∈ sq_all := List.mem_filter.mpr ⟨List.mem_append_right _ (List.mem_append_right _ (List.mem_append_right _ (List.mem_append_right _ (List.mem_of_getElem? (l := tables_1_4) (i := 106) rfl)))), rfl⟩
theorem k_827 : Cond.code yX9_sort prog_11_method_38_code 2 (some .int) ∈ sq_all := List.mem_filter.mpr ⟨List.mem_append_right _ (List.mem_append_right _ (List.mem_append_right _ (List.mem_append_right _ (List.mem_of_getElem? (l := tables_1_4) (i := 107) rfl)))), rfl⟩
theorem k_828 : Cond.methodLink RL 62 yX9_corner ∈ sq_all := List.mem_filter.mpr ⟨List.mem_append_right _ (List.mem_append_right _ (List.mem_append_right _ (List.mem_append_right _ (List.mem_of_getElem? (l := tables_1_4) (i := 108) rfl)))), rfl⟩
theorem k_829 : Cond.instanceMethod yX9_corner ∈ sq_all := List.mem_filter.mpr ⟨List.mem_append_right _ (List.mem_append_right _ (List.mem_append_right _ (List.mem_append_right _ (List.mem_of_getElem? (l := tables_1_4) (i := 109) rfl)))), rfl⟩
theorem k_830 : Cond.selects RX9 yX9_corner yX9_corner ∈ sq_all := List.mem_filter.mpr ⟨List.mem_append_right _ (List.mem_append_right _ (List.mem_append_right _ (List.mem_append_right _ (List.mem_of_getElem? (l := tables_1_4) (i := 110) rfl)))), rfl⟩
theorem k_831 : Cond.code yX9_corner prog_11_method_39_code 4 (some .int) ∈ sq_all := List.mem_filter.mpr ⟨List.mem_append_right _ (List.mem_append_right _ (List.mem_append_right _ (List.mem_append_right _ (List.mem_of_getElem? (l := tables_1_4) (i := 111) rfl)))), rfl⟩
theorem k_832 : Cond.methodLink RL 66 yX9_walked ∈ sq_all := List.mem_filter.mpr ⟨List.mem_append_right _ (List.mem_append_right _ (List.mem_append_right _ (List.mem_append_right _ (List.mem_of_getElem? (l := tables_1_4) (i := 112) rfl)))), rfl⟩
theorem k_833 : Cond.instanceMethod yX9_walked ∈ sq_all := List.mem_filter.mpr ⟨List.mem_append_right _ (List.mem_append_right _ (List.mem_append_right _ (List.mem_append_right _ (List.mem_of_getElem? (l := tables_1_4) (i := 113) rfl)))), rfl⟩
theorem k_834 : Cond.selects RX9 yX9_walked yX9_walked ∈ sq_all := List.mem_filter.mpr ⟨List.mem_append_right _ (List.mem_append_right _ (List.mem_append_right _ (List.mem_append_right _ (List.mem_of_getElem? (l := tables_1_4) (i := 114) rfl)))), rfl⟩
theorem k_835 : Cond.code yX9_walked prog_11_method_40_code 1 (some .int) ∈ sq_all := List.mem_filter.mpr ⟨List.mem_append_right _ (List.mem_append_right _ (List.mem_append_right _ (List.mem_append_right _ (List.mem_of_getElem? (l := tables_1_4) (i := 115) rfl)))), rfl⟩
theorem ks_0 : Cond.selects RX0 yX0_put yX0_put ∈ sq_all := List.mem_filter.mpr ⟨List.mem_append_left _ (List.mem_of_getElem? (i := 0) (by decide +kernel)), rfl⟩
theorem ks_1 : Cond.selects RX2 yX2_passOffset yX2_passOffset ∈ sq_all := List.mem_filter.mpr ⟨List.mem_append_left _ (List.mem_of_getElem? (i := 1) (by decide +kernel)), rfl⟩
theorem ks_2 : Cond.selects RX7 yX7_countOne yX7_countOne ∈ sq_all := List.mem_filter.mpr ⟨List.mem_append_left _ (List.mem_of_getElem? (i := 2) (by decide +kernel)), rfl⟩
theorem ks_3 : Cond.selects RX4 yX4_inside yX4_inside ∈ sq_all := List.mem_filter.mpr ⟨List.mem_append_left _ (List.mem_of_getElem? (i := 3) (by decide +kernel)), rfl⟩
theorem ks_4 : Cond.selects RX7 yX7_beginDash yX7_beginDash ∈ sq_all := List.mem_filter.mpr ⟨List.mem_append_left _ (List.mem_of_getElem? (i := 4) (by decide +kernel)), rfl⟩
theorem ks_5 : Cond.selects RX7 yX7_pass yX7_pass ∈ sq_all := List.mem_filter.mpr ⟨List.mem_append_left _ (List.mem_of_getElem? (i := 5) (by decide +kernel)), rfl⟩
theorem ks_6 : Cond.selects RX1 yX1_capBeginning yX1_capBeginning ∈ sq_all := List.mem_filter.mpr ⟨List.mem_append_left _ (List.mem_of_getElem? (i := 6) (by decide +kernel)), rfl⟩
theorem ks_7 : Cond.selects RX1 yX1_side yX1_side ∈ sq_all := List.mem_filter.mpr ⟨List.mem_append_left _ (List.mem_of_getElem? (i := 7) (by decide +kernel)), rfl⟩
theorem ks_8 : Cond.selects RX1 yX1_joinBoth yX1_joinBoth ∈ sq_all := List.mem_filter.mpr ⟨List.mem_append_left _ (List.mem_of_getElem? (i := 8) (by decide +kernel)), rfl⟩
theorem ks_9 : Cond.selects RX1 yX1_goOn yX1_goOn ∈ sq_all := List.mem_filter.mpr ⟨List.mem_append_left _ (List.mem_of_getElem? (i := 9) (by decide +kernel)), rfl⟩
theorem ks_10 : Cond.selects RX1 yX1_capEnd yX1_capEnd ∈ sq_all := List.mem_filter.mpr ⟨List.mem_append_left _ (List.mem_of_getElem? (i := 10) (by decide +kernel)), rfl⟩
theorem ks_11 : Cond.selects RX7 yX7_takeNext yX7_takeNext ∈ sq_all := List.mem_filter.mpr ⟨List.mem_append_left _ (List.mem_of_getElem? (i := 11) (by decide +kernel)), rfl⟩
theorem ks_12 : Cond.selects RX9 yX9_put yX9_put ∈ sq_all := List.mem_filter.mpr ⟨List.mem_append_left _ (List.mem_of_getElem? (i := 12) (by decide +kernel)), rfl⟩
theorem ks_13 : Cond.selects RX9 yX9_collect yX9_collect ∈ sq_all := List.mem_filter.mpr ⟨List.mem_append_left _ (List.mem_of_getElem? (i := 13) (by decide +kernel)), rfl⟩
theorem ks_14 : Cond.selects RX9 yX9_strokeRow yX9_strokeRow ∈ sq_all := List.mem_filter.mpr ⟨List.mem_append_left _ (List.mem_of_getElem? (i := 14) (by decide +kernel)), rfl⟩
theorem ks_15 : Cond.selects RX9 yX9_walkRow yX9_walkRow ∈ sq_all := List.mem_filter.mpr ⟨List.mem_append_left _ (List.mem_of_getElem? (i := 15) (by decide +kernel)), rfl⟩
theorem ks_16 : Cond.selects RX9 yX9_start yX9_start ∈ sq_all := List.mem_filter.mpr ⟨List.mem_append_left _ (List.mem_of_getElem? (i := 16) (by decide +kernel)), rfl⟩
theorem ks_17 : Cond.selects RX9 yX9_next yX9_next ∈ sq_all := List.mem_filter.mpr ⟨List.mem_append_left _ (List.mem_of_getElem? (i := 17) (by decide +kernel)), rfl⟩
theorem ks_18 : Cond.selects RX9 yX9_take yX9_take ∈ sq_all := List.mem_filter.mpr ⟨List.mem_append_left _ (List.mem_of_getElem? (i := 18) (by decide +kernel)), rfl⟩
theorem ks_19 : Cond.selects RX9 yX9_pass yX9_pass ∈ sq_all := List.mem_filter.mpr ⟨List.mem_append_left _ (List.mem_of_getElem? (i := 19) (by decide +kernel)), rfl⟩
theorem ks_20 : Cond.selects RX9 yX9_addRun yX9_addRun ∈ sq_all := List.mem_filter.mpr ⟨List.mem_append_left _ (List.mem_of_getElem? (i := 20) (by decide +kernel)), rfl⟩
theorem ks_21 : Cond.selects RX9 yX9_walk yX9_walk ∈ sq_all := List.mem_filter.mpr ⟨List.mem_append_left _ (List.mem_of_getElem? (i := 21) (by decide +kernel)), rfl⟩
theorem ks_22 : Cond.selects RX9 yX9_endDash yX9_endDash ∈ sq_all := List.mem_filter.mpr ⟨List.mem_append_left _ (List.mem_of_getElem? (i := 22) (by decide +kernel)), rfl⟩
theorem ks_23 : Cond.selects RX9 yX9_make yX9_make ∈ sq_all := List.mem_filter.mpr ⟨List.mem_append_left _ (List.mem_of_getElem? (i := 23) (by decide +kernel)), rfl⟩
theorem ks_24 : Cond.selects RX9 yX9_capBeginning yX9_capBeginning ∈ sq_all := List.mem_filter.mpr ⟨List.mem_append_left _ (List.mem_of_getElem? (i := 24) (by decide +kernel)), rfl⟩
theorem ks_25 : Cond.selects RX9 yX9_begin yX9_begin ∈ sq_all := List.mem_filter.mpr ⟨List.mem_append_left _ (List.mem_of_getElem? (i := 25) (by decide +kernel)), rfl⟩
theorem ks_26 : Cond.selects RX9 yX9_across yX9_across ∈ sq_all := List.mem_filter.mpr ⟨List.mem_append_left _ (List.mem_of_getElem? (i := 26) (by decide +kernel)), rfl⟩
theorem ks_27 : Cond.selects RX9 yX9_dx yX9_dx ∈ sq_all := List.mem_filter.mpr ⟨List.mem_append_left _ (List.mem_of_getElem? (i := 27) (by decide +kernel)), rfl⟩
theorem ks_28 : Cond.selects RX9 yX9_dy yX9_dy ∈ sq_all := List.mem_filter.mpr ⟨List.mem_append_left _ (List.mem_of_getElem? (i := 28) (by decide +kernel)), rfl⟩
theorem ks_29 : Cond.selects RX9 yX9_setCorner yX9_setCorner ∈ sq_all := List.mem_filter.mpr ⟨List.mem_append_left _ (List.mem_of_getElem? (i := 29) (by decide +kernel)), rfl⟩
theorem ks_30 : Cond.selects RX9 yX9_along yX9_along ∈ sq_all := List.mem_filter.mpr ⟨List.mem_append_left _ (List.mem_of_getElem? (i := 30) (by decide +kernel)), rfl⟩
theorem ks_31 : Cond.selects RX9 yX9_end yX9_end ∈ sq_all := List.mem_filter.mpr ⟨List.mem_append_left _ (List.mem_of_getElem? (i := 31) (by decide +kernel)), rfl⟩
theorem ks_32 : Cond.selects RX9 yX9_side yX9_side ∈ sq_all := List.mem_filter.mpr ⟨List.mem_append_left _ (List.mem_of_getElem? (i := 32) (by decide +kernel)), rfl⟩
theorem ks_33 : Cond.selects RX9 yX9_meet yX9_meet ∈ sq_all := List.mem_filter.mpr ⟨List.mem_append_left _ (List.mem_of_getElem? (i := 33) (by decide +kernel)), rfl⟩
theorem ks_34 : Cond.selects RX9 yX9_capEnd yX9_capEnd ∈ sq_all := List.mem_filter.mpr ⟨List.mem_append_left _ (List.mem_of_getElem? (i := 34) (by decide +kernel)), rfl⟩
end
section
theorem dJ9_floorDiv_0 : decode cJ9_floorDiv 0 = .ok (.lload_n 0, 1) := by decide +kernel
theorem dJ9_floorDiv_1 : decode cJ9_floorDiv 1 = .ok (.lload_n 2, 1) := by decide +kernel
theorem dJ9_floorDiv_2 : decode cJ9_floorDiv 2 = .ok (.ldiv, 1) := by decide +kernel
theorem dJ9_floorDiv_3 : decode cJ9_floorDiv 3 = .ok (.lstore 4, 2) := by decide +kernel
theorem dJ9_floorDiv_5 : decode cJ9_floorDiv 5 = .ok (.lload_n 0, 1) := by decide +kernel
theorem dJ9_floorDiv_6 : decode cJ9_floorDiv 6 = .ok (.lload_n 2, 1) := by decide +kernel
theorem dJ9_floorDiv_7 : decode cJ9_floorDiv 7 = .ok (.lxor, 1) := by decide +kernel
theorem dJ9_floorDiv_8 : decode cJ9_floorDiv 8 = .ok (.lconst 0, 1) := by decide +kernel
theorem dJ9_floorDiv_9 : decode cJ9_floorDiv 9 = .ok (.lcmp, 1) := by decide +kernel
theorem dJ9_floorDiv_10 : decode cJ9_floorDiv 10 = .ok (.ifCond .ge 17, 3) := by decide +kernel
theorem dJ9_floorDiv_13 : decode cJ9_floorDiv 13 = .ok (.lload 4, 2) := by decide +kernel
theorem dJ9_floorDiv_15 : decode cJ9_floorDiv 15 = .ok (.lload_n 2, 1) := by decide +kernel
theorem dJ9_floorDiv_16 : decode cJ9_floorDiv 16 = .ok (.lmul, 1) := by decide +kernel
theorem dJ9_floorDiv_17 : decode cJ9_floorDiv 17 = .ok (.lload_n 0, 1) := by decide +kernel
theorem dJ9_floorDiv_18 : decode cJ9_floorDiv 18 = .ok (.lcmp, 1) := by decide +kernel
theorem dJ9_floorDiv_19 : decode cJ9_floorDiv 19 = .ok (.ifCond .eq 8, 3) := by decide +kernel
theorem dJ9_floorDiv_22 : decode cJ9_floorDiv 22 = .ok (.lload 4, 2) := by decide +kernel
theorem dJ9_floorDiv_24 : decode cJ9_floorDiv 24 = .ok (.lconst 1, 1) := by decide +kernel
theorem dJ9_floorDiv_25 : decode cJ9_floorDiv 25 = .ok (.lsub, 1) := by decide +kernel
theorem dJ9_floorDiv_26 : decode cJ9_floorDiv 26 = .ok (.lreturn, 1) := by decide +kernel
theorem dJ9_floorDiv_27 : decode cJ9_floorDiv 27 = .ok (.lload 4, 2) := by decide +kernel
theorem dJ9_floorDiv_29 : decode cJ9_floorDiv 29 = .ok (.lreturn, 1) := by decide +kernel
theorem dL_law_0 : decode cL_law 0 = .ok (.new 7, 3) := by decide +kernel
theorem dL_law_3 : decode cL_law 3 = .ok (.dup, 1) := by decide +kernel
theorem dL_law_4 : decode cL_law 4 = .ok (.invokespecial 9, 3) := by decide +kernel
theorem dL_law_7 : decode cL_law 7 = .ok (.astore_n 1, 1) := by decide +kernel
theorem dL_law_8 : decode cL_law 8 = .ok (.new 10, 3) := by decide +kernel
theorem dL_law_11 : decode cL_law 11 = .ok (.dup, 1) := by decide +kernel
theorem dL_law_12 : decode cL_law 12 = .ok (.invokespecial 12, 3) := by decide +kernel
theorem dL_law_15 : decode cL_law 15 = .ok (.astore_n 2, 1) := by decide +kernel
theorem dL_law_16 : decode cL_law 16 = .ok (.iconst 0, 1) := by decide +kernel
theorem dL_law_17 : decode cL_law 17 = .ok (.istore_n 3, 1) := by decide +kernel
theorem dL_law_18 : decode cL_law 18 = .ok (.iload_n 3, 1) := by decide +kernel
theorem dL_law_19 : decode cL_law 19 = .ok (.aload_n 0, 1) := by decide +kernel
theorem dL_law_20 : decode cL_law 20 = .ok (.arraylength, 1) := by decide +kernel
theorem dL_law_21 : decode cL_law 21 = .ok (.iconst 5, 1) := by decide +kernel
theorem dL_law_22 : decode cL_law 22 = .ok (.isub, 1) := by decide +kernel
theorem dL_law_23 : decode cL_law 23 = .ok (.if_icmp .gt 395, 3) := by decide +kernel
theorem dL_law_26 : decode cL_law 26 = .ok (.aload_n 0, 1) := by decide +kernel
theorem dL_law_27 : decode cL_law 27 = .ok (.iload_n 3, 1) := by decide +kernel
theorem dL_law_28 : decode cL_law 28 = .ok (.iaload, 1) := by decide +kernel
theorem dL_law_29 : decode cL_law 29 = .ok (.bipush 15, 2) := by decide +kernel
theorem dL_law_31 : decode cL_law 31 = .ok (.iand, 1) := by decide +kernel
theorem dL_law_32 : decode cL_law 32 = .ok (.tableswitch 380 0 11 #[64, 97, 130, 143, 156, 209, 242, 275, 288, 301, 324, 367], 64) := by decide +kernel
theorem dL_law_96 : decode cL_law 96 = .ok (.aload_n 1, 1) := by decide +kernel
theorem dL_law_97 : decode cL_law 97 = .ok (.aload_n 0, 1) := by decide +kernel
theorem dL_law_98 : decode cL_law 98 = .ok (.iload_n 3, 1) := by decide +kernel
theorem dL_law_99 : decode cL_law 99 = .ok (.iconst 1, 1) := by decide +kernel
theorem dL_law_100 : decode cL_law 100 = .ok (.iadd, 1) := by decide +kernel
theorem dL_law_101 : decode cL_law 101 = .ok (.iaload, 1) := by decide +kernel
theorem dL_law_102 : decode cL_law 102 = .ok (.aload_n 0, 1) := by decide +kernel
theorem dL_law_103 : decode cL_law 103 = .ok (.iload_n 3, 1) := by decide +kernel
theorem dL_law_104 : decode cL_law 104 = .ok (.iconst 2, 1) := by decide +kernel
theorem dL_law_105 : decode cL_law 105 = .ok (.iadd, 1) := by decide +kernel
theorem dL_law_106 : decode cL_law 106 = .ok (.iaload, 1) := by decide +kernel
theorem dL_law_107 : decode cL_law 107 = .ok (.invokevirtual 13, 3) := by decide +kernel
theorem dL_law_110 : decode cL_law 110 = .ok (.aload_n 2, 1) := by decide +kernel
theorem dL_law_111 : decode cL_law 111 = .ok (.aload_n 0, 1) := by decide +kernel
theorem dL_law_112 : decode cL_law 112 = .ok (.iload_n 3, 1) := by decide +kernel
theorem dL_law_113 : decode cL_law 113 = .ok (.iconst 1, 1) := by decide +kernel
theorem dL_law_114 : decode cL_law 114 = .ok (.iadd, 1) := by decide +kernel
theorem dL_law_115 : decode cL_law 115 = .ok (.iaload, 1) := by decide +kernel
theorem dL_law_116 : decode cL_law 116 = .ok (.aload_n 0, 1) := by decide +kernel
theorem dL_law_117 : decode cL_law 117 = .ok (.iload_n 3, 1) := by decide +kernel
theorem dL_law_118 : decode cL_law 118 = .ok (.iconst 2, 1) := by decide +kernel
theorem dL_law_119 : decode cL_law 119 = .ok (.iadd, 1) := by decide +kernel
theorem dL_law_120 : decode cL_law 120 = .ok (.iaload, 1) := by decide +kernel
theorem dL_law_121 : decode cL_law 121 = .ok (.invokevirtual 17, 3) := by decide +kernel
theorem dL_law_124 : decode cL_law 124 = .ok (.if_icmp .eq 288, 3) := by decide +kernel
theorem dL_law_127 : decode cL_law 127 = .ok (.iconst 0, 1) := by decide +kernel
theorem dL_law_128 : decode cL_law 128 = .ok (.ireturn, 1) := by decide +kernel
theorem dL_law_129 : decode cL_law 129 = .ok (.aload_n 1, 1) := by decide +kernel
theorem dL_law_130 : decode cL_law 130 = .ok (.aload_n 0, 1) := by decide +kernel
theorem dL_law_131 : decode cL_law 131 = .ok (.iload_n 3, 1) := by decide +kernel
theorem dL_law_132 : decode cL_law 132 = .ok (.iconst 1, 1) := by decide +kernel
theorem dL_law_133 : decode cL_law 133 = .ok (.iadd, 1) := by decide +kernel
theorem dL_law_134 : decode cL_law 134 = .ok (.iaload, 1) := by decide +kernel
theorem dL_law_135 : decode cL_law 135 = .ok (.aload_n 0, 1) := by decide +kernel
theorem dL_law_136 : decode cL_law 136 = .ok (.iload_n 3, 1) := by decide +kernel
theorem dL_law_137 : decode cL_law 137 = .ok (.iconst 2, 1) := by decide +kernel
theorem dL_law_138 : decode cL_law 138 = .ok (.iadd, 1) := by decide +kernel
theorem dL_law_139 : decode cL_law 139 = .ok (.iaload, 1) := by decide +kernel
theorem dL_law_140 : decode cL_law 140 = .ok (.invokevirtual 18, 3) := by decide +kernel
theorem dL_law_143 : decode cL_law 143 = .ok (.aload_n 2, 1) := by decide +kernel
theorem dL_law_144 : decode cL_law 144 = .ok (.aload_n 0, 1) := by decide +kernel
theorem dL_law_145 : decode cL_law 145 = .ok (.iload_n 3, 1) := by decide +kernel
theorem dL_law_146 : decode cL_law 146 = .ok (.iconst 1, 1) := by decide +kernel
theorem dL_law_147 : decode cL_law 147 = .ok (.iadd, 1) := by decide +kernel
theorem dL_law_148 : decode cL_law 148 = .ok (.iaload, 1) := by decide +kernel
theorem dL_law_149 : decode cL_law 149 = .ok (.aload_n 0, 1) := by decide +kernel
theorem dL_law_150 : decode cL_law 150 = .ok (.iload_n 3, 1) := by decide +kernel
theorem dL_law_151 : decode cL_law 151 = .ok (.iconst 2, 1) := by decide +kernel
theorem dL_law_152 : decode cL_law 152 = .ok (.iadd, 1) := by decide +kernel
theorem dL_law_153 : decode cL_law 153 = .ok (.iaload, 1) := by decide +kernel
theorem dL_law_154 : decode cL_law 154 = .ok (.invokevirtual 21, 3) := by decide +kernel
theorem dL_law_157 : decode cL_law 157 = .ok (.if_icmp .eq 255, 3) := by decide +kernel
theorem dL_law_160 : decode cL_law 160 = .ok (.iconst 0, 1) := by decide +kernel
theorem dL_law_161 : decode cL_law 161 = .ok (.ireturn, 1) := by decide +kernel
theorem dL_law_162 : decode cL_law 162 = .ok (.aload_n 1, 1) := by decide +kernel
theorem dL_law_163 : decode cL_law 163 = .ok (.invokevirtual 22, 3) := by decide +kernel
theorem dL_law_166 : decode cL_law 166 = .ok (.aload_n 2, 1) := by decide +kernel
theorem dL_law_167 : decode cL_law 167 = .ok (.invokevirtual 26, 3) := by decide +kernel
theorem dL_law_170 : decode cL_law 170 = .ok (.if_icmp .eq 242, 3) := by decide +kernel
theorem dL_law_173 : decode cL_law 173 = .ok (.iconst 0, 1) := by decide +kernel
theorem dL_law_174 : decode cL_law 174 = .ok (.ireturn, 1) := by decide +kernel
theorem dL_law_175 : decode cL_law 175 = .ok (.aload_n 1, 1) := by decide +kernel
theorem dL_law_176 : decode cL_law 176 = .ok (.invokevirtual 27, 3) := by decide +kernel
theorem dL_law_179 : decode cL_law 179 = .ok (.aload_n 2, 1) := by decide +kernel
theorem dL_law_180 : decode cL_law 180 = .ok (.invokevirtual 30, 3) := by decide +kernel
theorem dL_law_183 : decode cL_law 183 = .ok (.if_icmp .eq 229, 3) := by decide +kernel
theorem dL_law_186 : decode cL_law 186 = .ok (.iconst 0, 1) := by decide +kernel
theorem dL_law_187 : decode cL_law 187 = .ok (.ireturn, 1) := by decide +kernel
theorem dL_law_188 : decode cL_law 188 = .ok (.aload_n 1, 1) := by decide +kernel
theorem dL_law_189 : decode cL_law 189 = .ok (.aload_n 0, 1) := by decide +kernel
theorem dL_law_190 : decode cL_law 190 = .ok (.iload_n 3, 1) := by decide +kernel
theorem dL_law_191 : decode cL_law 191 = .ok (.iconst 1, 1) := by decide +kernel
theorem dL_law_192 : decode cL_law 192 = .ok (.iadd, 1) := by decide +kernel
theorem dL_law_193 : decode cL_law 193 = .ok (.iaload, 1) := by decide +kernel
theorem dL_law_194 : decode cL_law 194 = .ok (.aload_n 0, 1) := by decide +kernel
theorem dL_law_195 : decode cL_law 195 = .ok (.iload_n 3, 1) := by decide +kernel
theorem dL_law_196 : decode cL_law 196 = .ok (.iconst 2, 1) := by decide +kernel
theorem dL_law_197 : decode cL_law 197 = .ok (.iadd, 1) := by decide +kernel
theorem dL_law_198 : decode cL_law 198 = .ok (.iaload, 1) := by decide +kernel
theorem dL_law_199 : decode cL_law 199 = .ok (.aload_n 0, 1) := by decide +kernel
theorem dL_law_200 : decode cL_law 200 = .ok (.iload_n 3, 1) := by decide +kernel
theorem dL_law_201 : decode cL_law 201 = .ok (.iconst 3, 1) := by decide +kernel
theorem dL_law_202 : decode cL_law 202 = .ok (.iadd, 1) := by decide +kernel
theorem dL_law_203 : decode cL_law 203 = .ok (.iaload, 1) := by decide +kernel
theorem dL_law_204 : decode cL_law 204 = .ok (.aload_n 0, 1) := by decide +kernel
theorem dL_law_205 : decode cL_law 205 = .ok (.iload_n 3, 1) := by decide +kernel
theorem dL_law_206 : decode cL_law 206 = .ok (.iconst 4, 1) := by decide +kernel
theorem dL_law_207 : decode cL_law 207 = .ok (.iadd, 1) := by decide +kernel
theorem dL_law_208 : decode cL_law 208 = .ok (.iaload, 1) := by decide +kernel
theorem dL_law_209 : decode cL_law 209 = .ok (.invokevirtual 31, 3) := by decide +kernel
theorem dL_law_212 : decode cL_law 212 = .ok (.aload_n 2, 1) := by decide +kernel
theorem dL_law_213 : decode cL_law 213 = .ok (.aload_n 0, 1) := by decide +kernel
theorem dL_law_214 : decode cL_law 214 = .ok (.iload_n 3, 1) := by decide +kernel
theorem dL_law_215 : decode cL_law 215 = .ok (.iconst 1, 1) := by decide +kernel
theorem dL_law_216 : decode cL_law 216 = .ok (.iadd, 1) := by decide +kernel
theorem dL_law_217 : decode cL_law 217 = .ok (.iaload, 1) := by decide +kernel
theorem dL_law_218 : decode cL_law 218 = .ok (.aload_n 0, 1) := by decide +kernel
theorem dL_law_219 : decode cL_law 219 = .ok (.iload_n 3, 1) := by decide +kernel
theorem dL_law_220 : decode cL_law 220 = .ok (.iconst 2, 1) := by decide +kernel
theorem dL_law_221 : decode cL_law 221 = .ok (.iadd, 1) := by decide +kernel
theorem dL_law_222 : decode cL_law 222 = .ok (.iaload, 1) := by decide +kernel
theorem dL_law_223 : decode cL_law 223 = .ok (.aload_n 0, 1) := by decide +kernel
theorem dL_law_224 : decode cL_law 224 = .ok (.iload_n 3, 1) := by decide +kernel
theorem dL_law_225 : decode cL_law 225 = .ok (.iconst 3, 1) := by decide +kernel
theorem dL_law_226 : decode cL_law 226 = .ok (.iadd, 1) := by decide +kernel
theorem dL_law_227 : decode cL_law 227 = .ok (.iaload, 1) := by decide +kernel
theorem dL_law_228 : decode cL_law 228 = .ok (.aload_n 0, 1) := by decide +kernel
theorem dL_law_229 : decode cL_law 229 = .ok (.iload_n 3, 1) := by decide +kernel
theorem dL_law_230 : decode cL_law 230 = .ok (.iconst 4, 1) := by decide +kernel
theorem dL_law_231 : decode cL_law 231 = .ok (.iadd, 1) := by decide +kernel
theorem dL_law_232 : decode cL_law 232 = .ok (.iaload, 1) := by decide +kernel
theorem dL_law_233 : decode cL_law 233 = .ok (.invokevirtual 35, 3) := by decide +kernel
theorem dL_law_236 : decode cL_law 236 = .ok (.if_icmp .eq 176, 3) := by decide +kernel
theorem dL_law_239 : decode cL_law 239 = .ok (.iconst 0, 1) := by decide +kernel
theorem dL_law_240 : decode cL_law 240 = .ok (.ireturn, 1) := by decide +kernel
theorem dL_law_241 : decode cL_law 241 = .ok (.aload_n 1, 1) := by decide +kernel
theorem dL_law_242 : decode cL_law 242 = .ok (.aload_n 0, 1) := by decide +kernel
theorem dL_law_243 : decode cL_law 243 = .ok (.iload_n 3, 1) := by decide +kernel
theorem dL_law_244 : decode cL_law 244 = .ok (.iconst 1, 1) := by decide +kernel
theorem dL_law_245 : decode cL_law 245 = .ok (.iadd, 1) := by decide +kernel
theorem dL_law_246 : decode cL_law 246 = .ok (.iaload, 1) := by decide +kernel
theorem dL_law_247 : decode cL_law 247 = .ok (.aload_n 0, 1) := by decide +kernel
theorem dL_law_248 : decode cL_law 248 = .ok (.iload_n 3, 1) := by decide +kernel
theorem dL_law_249 : decode cL_law 249 = .ok (.iconst 2, 1) := by decide +kernel
theorem dL_law_250 : decode cL_law 250 = .ok (.iadd, 1) := by decide +kernel
theorem dL_law_251 : decode cL_law 251 = .ok (.iaload, 1) := by decide +kernel
theorem dL_law_252 : decode cL_law 252 = .ok (.invokevirtual 36, 3) := by decide +kernel
theorem dL_law_255 : decode cL_law 255 = .ok (.aload_n 2, 1) := by decide +kernel
theorem dL_law_256 : decode cL_law 256 = .ok (.aload_n 0, 1) := by decide +kernel
theorem dL_law_257 : decode cL_law 257 = .ok (.iload_n 3, 1) := by decide +kernel
theorem dL_law_258 : decode cL_law 258 = .ok (.iconst 1, 1) := by decide +kernel
theorem dL_law_259 : decode cL_law 259 = .ok (.iadd, 1) := by decide +kernel
theorem dL_law_260 : decode cL_law 260 = .ok (.iaload, 1) := by decide +kernel
theorem dL_law_261 : decode cL_law 261 = .ok (.aload_n 0, 1) := by decide +kernel
theorem dL_law_262 : decode cL_law 262 = .ok (.iload_n 3, 1) := by decide +kernel
theorem dL_law_263 : decode cL_law 263 = .ok (.iconst 2, 1) := by decide +kernel
theorem dL_law_264 : decode cL_law 264 = .ok (.iadd, 1) := by decide +kernel
theorem dL_law_265 : decode cL_law 265 = .ok (.iaload, 1) := by decide +kernel
theorem dL_law_266 : decode cL_law 266 = .ok (.invokevirtual 40, 3) := by decide +kernel
theorem dL_law_269 : decode cL_law 269 = .ok (.if_icmp .eq 143, 3) := by decide +kernel
theorem dL_law_272 : decode cL_law 272 = .ok (.iconst 0, 1) := by decide +kernel
theorem dL_law_273 : decode cL_law 273 = .ok (.ireturn, 1) := by decide +kernel
theorem dL_law_274 : decode cL_law 274 = .ok (.aload_n 1, 1) := by decide +kernel
theorem dL_law_275 : decode cL_law 275 = .ok (.aload_n 0, 1) := by decide +kernel
theorem dL_law_276 : decode cL_law 276 = .ok (.iload_n 3, 1) := by decide +kernel
theorem dL_law_277 : decode cL_law 277 = .ok (.iconst 1, 1) := by decide +kernel
theorem dL_law_278 : decode cL_law 278 = .ok (.iadd, 1) := by decide +kernel
theorem dL_law_279 : decode cL_law 279 = .ok (.iaload, 1) := by decide +kernel
theorem dL_law_280 : decode cL_law 280 = .ok (.aload_n 0, 1) := by decide +kernel
theorem dL_law_281 : decode cL_law 281 = .ok (.iload_n 3, 1) := by decide +kernel
theorem dL_law_282 : decode cL_law 282 = .ok (.iconst 2, 1) := by decide +kernel
theorem dL_law_283 : decode cL_law 283 = .ok (.iadd, 1) := by decide +kernel
theorem dL_law_284 : decode cL_law 284 = .ok (.iaload, 1) := by decide +kernel
theorem dL_law_285 : decode cL_law 285 = .ok (.invokevirtual 41, 3) := by decide +kernel
theorem dL_law_288 : decode cL_law 288 = .ok (.aload_n 2, 1) := by decide +kernel
theorem dL_law_289 : decode cL_law 289 = .ok (.aload_n 0, 1) := by decide +kernel
theorem dL_law_290 : decode cL_law 290 = .ok (.iload_n 3, 1) := by decide +kernel
theorem dL_law_291 : decode cL_law 291 = .ok (.iconst 1, 1) := by decide +kernel
theorem dL_law_292 : decode cL_law 292 = .ok (.iadd, 1) := by decide +kernel
theorem dL_law_293 : decode cL_law 293 = .ok (.iaload, 1) := by decide +kernel
theorem dL_law_294 : decode cL_law 294 = .ok (.aload_n 0, 1) := by decide +kernel
theorem dL_law_295 : decode cL_law 295 = .ok (.iload_n 3, 1) := by decide +kernel
theorem dL_law_296 : decode cL_law 296 = .ok (.iconst 2, 1) := by decide +kernel
theorem dL_law_297 : decode cL_law 297 = .ok (.iadd, 1) := by decide +kernel
theorem dL_law_298 : decode cL_law 298 = .ok (.iaload, 1) := by decide +kernel
theorem dL_law_299 : decode cL_law 299 = .ok (.invokevirtual 44, 3) := by decide +kernel
theorem dL_law_302 : decode cL_law 302 = .ok (.if_icmp .eq 110, 3) := by decide +kernel
theorem dL_law_305 : decode cL_law 305 = .ok (.iconst 0, 1) := by decide +kernel
theorem dL_law_306 : decode cL_law 306 = .ok (.ireturn, 1) := by decide +kernel
theorem dL_law_307 : decode cL_law 307 = .ok (.aload_n 1, 1) := by decide +kernel
theorem dL_law_308 : decode cL_law 308 = .ok (.invokevirtual 45, 3) := by decide +kernel
theorem dL_law_311 : decode cL_law 311 = .ok (.aload_n 2, 1) := by decide +kernel
theorem dL_law_312 : decode cL_law 312 = .ok (.invokevirtual 48, 3) := by decide +kernel
theorem dL_law_315 : decode cL_law 315 = .ok (.if_icmp .eq 97, 3) := by decide +kernel
theorem dL_law_318 : decode cL_law 318 = .ok (.iconst 0, 1) := by decide +kernel
theorem dL_law_319 : decode cL_law 319 = .ok (.ireturn, 1) := by decide +kernel
theorem dL_law_320 : decode cL_law 320 = .ok (.aload_n 1, 1) := by decide +kernel
theorem dL_law_321 : decode cL_law 321 = .ok (.invokevirtual 49, 3) := by decide +kernel
theorem dL_law_324 : decode cL_law 324 = .ok (.aload_n 2, 1) := by decide +kernel
theorem dL_law_325 : decode cL_law 325 = .ok (.invokevirtual 52, 3) := by decide +kernel
theorem dL_law_328 : decode cL_law 328 = .ok (.if_icmp .eq 84, 3) := by decide +kernel
theorem dL_law_331 : decode cL_law 331 = .ok (.iconst 0, 1) := by decide +kernel
theorem dL_law_332 : decode cL_law 332 = .ok (.ireturn, 1) := by decide +kernel
theorem dL_law_333 : decode cL_law 333 = .ok (.aload_n 1, 1) := by decide +kernel
theorem dL_law_334 : decode cL_law 334 = .ok (.aload_n 0, 1) := by decide +kernel
theorem dL_law_335 : decode cL_law 335 = .ok (.iload_n 3, 1) := by decide +kernel
theorem dL_law_336 : decode cL_law 336 = .ok (.iconst 1, 1) := by decide +kernel
theorem dL_law_337 : decode cL_law 337 = .ok (.iadd, 1) := by decide +kernel
theorem dL_law_338 : decode cL_law 338 = .ok (.iaload, 1) := by decide +kernel
theorem dL_law_339 : decode cL_law 339 = .ok (.invokevirtual 53, 3) := by decide +kernel
theorem dL_law_342 : decode cL_law 342 = .ok (.aload_n 2, 1) := by decide +kernel
theorem dL_law_343 : decode cL_law 343 = .ok (.aload_n 0, 1) := by decide +kernel
theorem dL_law_344 : decode cL_law 344 = .ok (.iload_n 3, 1) := by decide +kernel
theorem dL_law_345 : decode cL_law 345 = .ok (.iconst 1, 1) := by decide +kernel
theorem dL_law_346 : decode cL_law 346 = .ok (.iadd, 1) := by decide +kernel
theorem dL_law_347 : decode cL_law 347 = .ok (.iaload, 1) := by decide +kernel
theorem dL_law_348 : decode cL_law 348 = .ok (.invokevirtual 57, 3) := by decide +kernel
theorem dL_law_351 : decode cL_law 351 = .ok (.if_icmp .eq 61, 3) := by decide +kernel
theorem dL_law_354 : decode cL_law 354 = .ok (.iconst 0, 1) := by decide +kernel
theorem dL_law_355 : decode cL_law 355 = .ok (.ireturn, 1) := by decide +kernel
theorem dL_law_356 : decode cL_law 356 = .ok (.aload_n 1, 1) := by decide +kernel
theorem dL_law_357 : decode cL_law 357 = .ok (.aload_n 0, 1) := by decide +kernel
theorem dL_law_358 : decode cL_law 358 = .ok (.iload_n 3, 1) := by decide +kernel
theorem dL_law_359 : decode cL_law 359 = .ok (.iconst 1, 1) := by decide +kernel
theorem dL_law_360 : decode cL_law 360 = .ok (.iadd, 1) := by decide +kernel
theorem dL_law_361 : decode cL_law 361 = .ok (.iaload, 1) := by decide +kernel
theorem dL_law_362 : decode cL_law 362 = .ok (.aload_n 0, 1) := by decide +kernel
theorem dL_law_363 : decode cL_law 363 = .ok (.iload_n 3, 1) := by decide +kernel
theorem dL_law_364 : decode cL_law 364 = .ok (.iconst 2, 1) := by decide +kernel
theorem dL_law_365 : decode cL_law 365 = .ok (.iadd, 1) := by decide +kernel
theorem dL_law_366 : decode cL_law 366 = .ok (.iaload, 1) := by decide +kernel
theorem dL_law_367 : decode cL_law 367 = .ok (.aload_n 0, 1) := by decide +kernel
theorem dL_law_368 : decode cL_law 368 = .ok (.iload_n 3, 1) := by decide +kernel
theorem dL_law_369 : decode cL_law 369 = .ok (.iconst 3, 1) := by decide +kernel
theorem dL_law_370 : decode cL_law 370 = .ok (.iadd, 1) := by decide +kernel
theorem dL_law_371 : decode cL_law 371 = .ok (.iaload, 1) := by decide +kernel
theorem dL_law_372 : decode cL_law 372 = .ok (.invokevirtual 58, 3) := by decide +kernel
theorem dL_law_375 : decode cL_law 375 = .ok (.aload_n 2, 1) := by decide +kernel
theorem dL_law_376 : decode cL_law 376 = .ok (.aload_n 0, 1) := by decide +kernel
theorem dL_law_377 : decode cL_law 377 = .ok (.iload_n 3, 1) := by decide +kernel
theorem dL_law_378 : decode cL_law 378 = .ok (.iconst 1, 1) := by decide +kernel
theorem dL_law_379 : decode cL_law 379 = .ok (.iadd, 1) := by decide +kernel
theorem dL_law_380 : decode cL_law 380 = .ok (.iaload, 1) := by decide +kernel
theorem dL_law_381 : decode cL_law 381 = .ok (.aload_n 0, 1) := by decide +kernel
theorem dL_law_382 : decode cL_law 382 = .ok (.iload_n 3, 1) := by decide +kernel
theorem dL_law_383 : decode cL_law 383 = .ok (.iconst 2, 1) := by decide +kernel
theorem dL_law_384 : decode cL_law 384 = .ok (.iadd, 1) := by decide +kernel
theorem dL_law_385 : decode cL_law 385 = .ok (.iaload, 1) := by decide +kernel
theorem dL_law_386 : decode cL_law 386 = .ok (.aload_n 0, 1) := by decide +kernel
theorem dL_law_387 : decode cL_law 387 = .ok (.iload_n 3, 1) := by decide +kernel
theorem dL_law_388 : decode cL_law 388 = .ok (.iconst 3, 1) := by decide +kernel
theorem dL_law_389 : decode cL_law 389 = .ok (.iadd, 1) := by decide +kernel
theorem dL_law_390 : decode cL_law 390 = .ok (.iaload, 1) := by decide +kernel
theorem dL_law_391 : decode cL_law 391 = .ok (.invokevirtual 62, 3) := by decide +kernel
theorem dL_law_394 : decode cL_law 394 = .ok (.if_icmp .eq 18, 3) := by decide +kernel
theorem dL_law_397 : decode cL_law 397 = .ok (.iconst 0, 1) := by decide +kernel
theorem dL_law_398 : decode cL_law 398 = .ok (.ireturn, 1) := by decide +kernel
theorem dL_law_399 : decode cL_law 399 = .ok (.aload_n 1, 1) := by decide +kernel
theorem dL_law_400 : decode cL_law 400 = .ok (.invokevirtual 63, 3) := by decide +kernel
theorem dL_law_403 : decode cL_law 403 = .ok (.aload_n 2, 1) := by decide +kernel
theorem dL_law_404 : decode cL_law 404 = .ok (.invokevirtual 66, 3) := by decide +kernel
theorem dL_law_407 : decode cL_law 407 = .ok (.if_icmp .eq 5, 3) := by decide +kernel
theorem dL_law_410 : decode cL_law 410 = .ok (.iconst 0, 1) := by decide +kernel
theorem dL_law_411 : decode cL_law 411 = .ok (.ireturn, 1) := by decide +kernel
theorem dL_law_412 : decode cL_law 412 = .ok (.iinc 3 5, 3) := by decide +kernel
theorem dL_law_415 : decode cL_law 415 = .ok (.goto (-397), 3) := by decide +kernel
theorem dL_law_418 : decode cL_law 418 = .ok (.iconst 1, 1) := by decide +kernel
theorem dL_law_419 : decode cL_law 419 = .ok (.ireturn, 1) := by decide +kernel
theorem dX0_begin_0 : decode cX0_begin 0 = .ok (.iload_n 1, 1) := by decide +kernel
theorem dX0_begin_1 : decode cX0_begin 1 = .ok (.i2l, 1) := by decide +kernel
theorem dX0_begin_2 : decode cX0_begin 2 = .ok (.invokestatic 29, 3) := by decide +kernel
theorem dX0_begin_5 : decode cX0_begin 5 = .ok (.ifCond .eq 11, 3) := by decide +kernel
theorem dX0_begin_8 : decode cX0_begin 8 = .ok (.iload_n 2, 1) := by decide +kernel
theorem dX0_begin_9 : decode cX0_begin 9 = .ok (.i2l, 1) := by decide +kernel
theorem dX0_begin_10 : decode cX0_begin 10 = .ok (.invokestatic 29, 3) := by decide +kernel
theorem dX0_begin_13 : decode cX0_begin 13 = .ok (.ifCond .ne 6, 3) := by decide +kernel
theorem dX0_begin_16 : decode cX0_begin 16 = .ok (.bipush (-4), 2) := by decide +kernel
theorem dX0_begin_18 : decode cX0_begin 18 = .ok (.ireturn, 1) := by decide +kernel
theorem dX0_begin_19 : decode cX0_begin 19 = .ok (.aload_n 0, 1) := by decide +kernel
theorem dX0_begin_20 : decode cX0_begin 20 = .ok (.getfield 33, 3) := by decide +kernel
theorem dX0_begin_23 : decode cX0_begin 23 = .ok (.sipush 2000, 3) := by decide +kernel
theorem dX0_begin_26 : decode cX0_begin 26 = .ok (.if_icmp .ge 20, 3) := by decide +kernel
theorem dX0_begin_29 : decode cX0_begin 29 = .ok (.aload_n 0, 1) := by decide +kernel
theorem dX0_begin_30 : decode cX0_begin 30 = .ok (.getfield 25, 3) := by decide +kernel
theorem dX0_begin_33 : decode cX0_begin 33 = .ok (.ifCond .lt 13, 3) := by decide +kernel
theorem dX0_begin_36 : decode cX0_begin 36 = .ok (.aload_n 0, 1) := by decide +kernel
theorem dX0_begin_37 : decode cX0_begin 37 = .ok (.getfield 25, 3) := by decide +kernel
theorem dX0_begin_40 : decode cX0_begin 40 = .ok (.sipush 2000, 3) := by decide +kernel
theorem dX0_begin_43 : decode cX0_begin 43 = .ok (.if_icmp .lt 6, 3) := by decide +kernel
theorem dX0_begin_46 : decode cX0_begin 46 = .ok (.bipush (-3), 2) := by decide +kernel
theorem dX0_begin_48 : decode cX0_begin 48 = .ok (.ireturn, 1) := by decide +kernel
theorem dX0_begin_49 : decode cX0_begin 49 = .ok (.aload_n 0, 1) := by decide +kernel
theorem dX0_begin_50 : decode cX0_begin 50 = .ok (.getfield 18, 3) := by decide +kernel
theorem dX0_begin_53 : decode cX0_begin 53 = .ok (.aload_n 0, 1) := by decide +kernel
theorem dX0_begin_54 : decode cX0_begin 54 = .ok (.getfield 25, 3) := by decide +kernel
theorem dX0_begin_57 : decode cX0_begin 57 = .ok (.aload_n 0, 1) := by decide +kernel
theorem dX0_begin_58 : decode cX0_begin 58 = .ok (.getfield 33, 3) := by decide +kernel
theorem dX0_begin_61 : decode cX0_begin 61 = .ok (.iastore, 1) := by decide +kernel
theorem dX0_begin_62 : decode cX0_begin 62 = .ok (.aload_n 0, 1) := by decide +kernel
theorem dX0_begin_63 : decode cX0_begin 63 = .ok (.getfield 21, 3) := by decide +kernel
theorem dX0_begin_66 : decode cX0_begin 66 = .ok (.aload_n 0, 1) := by decide +kernel
theorem dX0_begin_67 : decode cX0_begin 67 = .ok (.getfield 25, 3) := by decide +kernel
theorem dX0_begin_70 : decode cX0_begin 70 = .ok (.iconst 0, 1) := by decide +kernel
theorem dX0_begin_71 : decode cX0_begin 71 = .ok (.bastore, 1) := by decide +kernel
theorem dX0_begin_72 : decode cX0_begin 72 = .ok (.aload_n 0, 1) := by decide +kernel
theorem dX0_begin_73 : decode cX0_begin 73 = .ok (.dup, 1) := by decide +kernel
theorem dX0_begin_74 : decode cX0_begin 74 = .ok (.getfield 25, 3) := by decide +kernel
theorem dX0_begin_77 : decode cX0_begin 77 = .ok (.iconst 1, 1) := by decide +kernel
theorem dX0_begin_78 : decode cX0_begin 78 = .ok (.iadd, 1) := by decide +kernel
theorem dX0_begin_79 : decode cX0_begin 79 = .ok (.putfield 25, 3) := by decide +kernel
theorem dX0_begin_82 : decode cX0_begin 82 = .ok (.aload_n 0, 1) := by decide +kernel
theorem dX0_begin_83 : decode cX0_begin 83 = .ok (.iload_n 1, 1) := by decide +kernel
theorem dX0_begin_84 : decode cX0_begin 84 = .ok (.iload_n 2, 1) := by decide +kernel
theorem dX0_begin_85 : decode cX0_begin 85 = .ok (.invokevirtual 36, 3) := by decide +kernel
theorem dX0_begin_88 : decode cX0_begin 88 = .ok (.ireturn, 1) := by decide +kernel
theorem dX0_copyTo_0 : decode cX0_copyTo 0 = .ok (.iload_n 2, 1) := by decide +kernel
theorem dX0_copyTo_1 : decode cX0_copyTo 1 = .ok (.ifCond .lt 18, 3) := by decide +kernel
theorem dX0_copyTo_4 : decode cX0_copyTo 4 = .ok (.iload_n 2, 1) := by decide +kernel
theorem dX0_copyTo_5 : decode cX0_copyTo 5 = .ok (.aload_n 0, 1) := by decide +kernel
theorem dX0_copyTo_6 : decode cX0_copyTo 6 = .ok (.getfield 25, 3) := by decide +kernel
theorem dX0_copyTo_9 : decode cX0_copyTo 9 = .ok (.if_icmp .ge 10, 3) := by decide +kernel
theorem dX0_copyTo_12 : decode cX0_copyTo 12 = .ok (.iload_n 2, 1) := by decide +kernel
theorem dX0_copyTo_13 : decode cX0_copyTo 13 = .ok (.sipush 2000, 3) := by decide +kernel
theorem dX0_copyTo_16 : decode cX0_copyTo 16 = .ok (.if_icmp .lt 9, 3) := by decide +kernel
theorem dX0_copyTo_19 : decode cX0_copyTo 19 = .ok (.aload_n 1, 1) := by decide +kernel
theorem dX0_copyTo_20 : decode cX0_copyTo 20 = .ok (.iconst 0, 1) := by decide +kernel
theorem dX0_copyTo_21 : decode cX0_copyTo 21 = .ok (.invokevirtual 40, 3) := by decide +kernel
theorem dX0_copyTo_24 : decode cX0_copyTo 24 = .ok (.return_, 1) := by decide +kernel
theorem dX0_copyTo_25 : decode cX0_copyTo 25 = .ok (.aload_n 1, 1) := by decide +kernel
theorem dX0_copyTo_26 : decode cX0_copyTo 26 = .ok (.aload_n 0, 1) := by decide +kernel
theorem dX0_copyTo_27 : decode cX0_copyTo 27 = .ok (.getfield 21, 3) := by decide +kernel
theorem dX0_copyTo_30 : decode cX0_copyTo 30 = .ok (.iload_n 2, 1) := by decide +kernel
theorem dX0_copyTo_31 : decode cX0_copyTo 31 = .ok (.baload, 1) := by decide +kernel
theorem dX0_copyTo_32 : decode cX0_copyTo 32 = .ok (.invokevirtual 40, 3) := by decide +kernel
theorem dX0_copyTo_35 : decode cX0_copyTo 35 = .ok (.iload_n 2, 1) := by decide +kernel
theorem dX0_copyTo_36 : decode cX0_copyTo 36 = .ok (.iconst 1, 1) := by decide +kernel
theorem dX0_copyTo_37 : decode cX0_copyTo 37 = .ok (.iadd, 1) := by decide +kernel
theorem dX0_copyTo_38 : decode cX0_copyTo 38 = .ok (.istore_n 3, 1) := by decide +kernel
theorem dX0_copyTo_39 : decode cX0_copyTo 39 = .ok (.iload_n 3, 1) := by decide +kernel
theorem dX0_copyTo_40 : decode cX0_copyTo 40 = .ok (.aload_n 0, 1) := by decide +kernel
theorem dX0_copyTo_41 : decode cX0_copyTo 41 = .ok (.getfield 25, 3) := by decide +kernel
theorem dX0_copyTo_44 : decode cX0_copyTo 44 = .ok (.if_icmp .ge 19, 3) := by decide +kernel
theorem dX0_copyTo_47 : decode cX0_copyTo 47 = .ok (.iload_n 3, 1) := by decide +kernel
theorem dX0_copyTo_48 : decode cX0_copyTo 48 = .ok (.sipush 2000, 3) := by decide +kernel
theorem dX0_copyTo_51 : decode cX0_copyTo 51 = .ok (.if_icmp .ge 12, 3) := by decide +kernel
theorem dX0_copyTo_54 : decode cX0_copyTo 54 = .ok (.aload_n 0, 1) := by decide +kernel
theorem dX0_copyTo_55 : decode cX0_copyTo 55 = .ok (.getfield 18, 3) := by decide +kernel
theorem dX0_copyTo_58 : decode cX0_copyTo 58 = .ok (.iload_n 3, 1) := by decide +kernel
theorem dX0_copyTo_59 : decode cX0_copyTo 59 = .ok (.iaload, 1) := by decide +kernel
theorem dX0_copyTo_60 : decode cX0_copyTo 60 = .ok (.goto 7, 3) := by decide +kernel
theorem dX0_copyTo_63 : decode cX0_copyTo 63 = .ok (.aload_n 0, 1) := by decide +kernel
theorem dX0_copyTo_64 : decode cX0_copyTo 64 = .ok (.getfield 33, 3) := by decide +kernel
theorem dX0_copyTo_67 : decode cX0_copyTo 67 = .ok (.istore 4, 2) := by decide +kernel
theorem dX0_copyTo_69 : decode cX0_copyTo 69 = .ok (.aload_n 0, 1) := by decide +kernel
theorem dX0_copyTo_70 : decode cX0_copyTo 70 = .ok (.getfield 18, 3) := by decide +kernel
theorem dX0_copyTo_73 : decode cX0_copyTo 73 = .ok (.iload_n 2, 1) := by decide +kernel
theorem dX0_copyTo_74 : decode cX0_copyTo 74 = .ok (.iaload, 1) := by decide +kernel
theorem dX0_copyTo_75 : decode cX0_copyTo 75 = .ok (.istore 5, 2) := by decide +kernel
theorem dX0_copyTo_77 : decode cX0_copyTo 77 = .ok (.iload 5, 2) := by decide +kernel
theorem dX0_copyTo_79 : decode cX0_copyTo 79 = .ok (.ifCond .lt 42, 3) := by decide +kernel
theorem dX0_copyTo_82 : decode cX0_copyTo 82 = .ok (.iload 5, 2) := by decide +kernel
theorem dX0_copyTo_84 : decode cX0_copyTo 84 = .ok (.iload 4, 2) := by decide +kernel
theorem dX0_copyTo_86 : decode cX0_copyTo 86 = .ok (.if_icmp .ge 35, 3) := by decide +kernel
theorem dX0_copyTo_89 : decode cX0_copyTo 89 = .ok (.iload 5, 2) := by decide +kernel
theorem dX0_copyTo_91 : decode cX0_copyTo 91 = .ok (.sipush 2000, 3) := by decide +kernel
theorem dX0_copyTo_94 : decode cX0_copyTo 94 = .ok (.if_icmp .ge 27, 3) := by decide +kernel
theorem dX0_copyTo_97 : decode cX0_copyTo 97 = .ok (.aload_n 1, 1) := by decide +kernel
theorem dX0_copyTo_98 : decode cX0_copyTo 98 = .ok (.aload_n 0, 1) := by decide +kernel
theorem dX0_copyTo_99 : decode cX0_copyTo 99 = .ok (.getfield 9, 3) := by decide +kernel
theorem dX0_copyTo_102 : decode cX0_copyTo 102 = .ok (.iload 5, 2) := by decide +kernel
theorem dX0_copyTo_104 : decode cX0_copyTo 104 = .ok (.iaload, 1) := by decide +kernel
theorem dX0_copyTo_105 : decode cX0_copyTo 105 = .ok (.aload_n 0, 1) := by decide +kernel
theorem dX0_copyTo_106 : decode cX0_copyTo 106 = .ok (.getfield 15, 3) := by decide +kernel
theorem dX0_copyTo_109 : decode cX0_copyTo 109 = .ok (.iload 5, 2) := by decide +kernel
theorem dX0_copyTo_111 : decode cX0_copyTo 111 = .ok (.iaload, 1) := by decide +kernel
theorem dX0_copyTo_112 : decode cX0_copyTo 112 = .ok (.invokevirtual 46, 3) := by decide +kernel
theorem dX0_copyTo_115 : decode cX0_copyTo 115 = .ok (.iinc 5 1, 3) := by decide +kernel
theorem dX0_copyTo_118 : decode cX0_copyTo 118 = .ok (.goto (-41), 3) := by decide +kernel
theorem dX0_copyTo_121 : decode cX0_copyTo 121 = .ok (.aload_n 1, 1) := by decide +kernel
theorem dX0_copyTo_122 : decode cX0_copyTo 122 = .ok (.invokevirtual 50, 3) := by decide +kernel
theorem dX0_copyTo_125 : decode cX0_copyTo 125 = .ok (.return_, 1) := by decide +kernel
theorem dX0_count_0 : decode cX0_count 0 = .ok (.aload_n 0, 1) := by decide +kernel
theorem dX0_count_1 : decode cX0_count 1 = .ok (.getfield 25, 3) := by decide +kernel
theorem dX0_count_4 : decode cX0_count 4 = .ok (.ireturn, 1) := by decide +kernel
theorem dX0_empty_0 : decode cX0_empty 0 = .ok (.aload_n 0, 1) := by decide +kernel
theorem dX0_empty_1 : decode cX0_empty 1 = .ok (.getfield 33, 3) := by decide +kernel
theorem dX0_empty_4 : decode cX0_empty 4 = .ok (.istore_n 1, 1) := by decide +kernel
theorem dX0_empty_5 : decode cX0_empty 5 = .ok (.aload_n 0, 1) := by decide +kernel
theorem dX0_empty_6 : decode cX0_empty 6 = .ok (.iconst 0, 1) := by decide +kernel
theorem dX0_empty_7 : decode cX0_empty 7 = .ok (.putfield 33, 3) := by decide +kernel
theorem dX0_empty_10 : decode cX0_empty 10 = .ok (.aload_n 0, 1) := by decide +kernel
theorem dX0_empty_11 : decode cX0_empty 11 = .ok (.iconst 0, 1) := by decide +kernel
theorem dX0_empty_12 : decode cX0_empty 12 = .ok (.putfield 25, 3) := by decide +kernel
theorem dX0_empty_15 : decode cX0_empty 15 = .ok (.iload_n 1, 1) := by decide +kernel
theorem dX0_empty_16 : decode cX0_empty 16 = .ok (.ireturn, 1) := by decide +kernel
theorem dX0_extend_0 : decode cX0_extend 0 = .ok (.aload_n 0, 1) := by decide +kernel
theorem dX0_extend_1 : decode cX0_extend 1 = .ok (.getfield 25, 3) := by decide +kernel
theorem dX0_extend_4 : decode cX0_extend 4 = .ok (.iconst 1, 1) := by decide +kernel
theorem dX0_extend_5 : decode cX0_extend 5 = .ok (.isub, 1) := by decide +kernel
theorem dX0_extend_6 : decode cX0_extend 6 = .ok (.istore_n 3, 1) := by decide +kernel
theorem dX0_extend_7 : decode cX0_extend 7 = .ok (.iload_n 3, 1) := by decide +kernel
theorem dX0_extend_8 : decode cX0_extend 8 = .ok (.ifCond .lt 19, 3) := by decide +kernel
theorem dX0_extend_11 : decode cX0_extend 11 = .ok (.iload_n 3, 1) := by decide +kernel
theorem dX0_extend_12 : decode cX0_extend 12 = .ok (.sipush 2000, 3) := by decide +kernel
theorem dX0_extend_15 : decode cX0_extend 15 = .ok (.if_icmp .ge 12, 3) := by decide +kernel
theorem dX0_extend_18 : decode cX0_extend 18 = .ok (.aload_n 0, 1) := by decide +kernel
theorem dX0_extend_19 : decode cX0_extend 19 = .ok (.getfield 21, 3) := by decide +kernel
theorem dX0_extend_22 : decode cX0_extend 22 = .ok (.iload_n 3, 1) := by decide +kernel
theorem dX0_extend_23 : decode cX0_extend 23 = .ok (.baload, 1) := by decide +kernel
theorem dX0_extend_24 : decode cX0_extend 24 = .ok (.ifCond .eq 6, 3) := by decide +kernel
theorem dX0_extend_27 : decode cX0_extend 27 = .ok (.bipush (-2), 2) := by decide +kernel
theorem dX0_extend_29 : decode cX0_extend 29 = .ok (.ireturn, 1) := by decide +kernel
theorem dX0_extend_30 : decode cX0_extend 30 = .ok (.iload_n 1, 1) := by decide +kernel
theorem dX0_extend_31 : decode cX0_extend 31 = .ok (.i2l, 1) := by decide +kernel
theorem dX0_extend_32 : decode cX0_extend 32 = .ok (.invokestatic 29, 3) := by decide +kernel
theorem dX0_extend_35 : decode cX0_extend 35 = .ok (.ifCond .eq 11, 3) := by decide +kernel
theorem dX0_extend_38 : decode cX0_extend 38 = .ok (.iload_n 2, 1) := by decide +kernel
theorem dX0_extend_39 : decode cX0_extend 39 = .ok (.i2l, 1) := by decide +kernel
theorem dX0_extend_40 : decode cX0_extend 40 = .ok (.invokestatic 29, 3) := by decide +kernel
theorem dX0_extend_43 : decode cX0_extend 43 = .ok (.ifCond .ne 6, 3) := by decide +kernel
theorem dX0_extend_46 : decode cX0_extend 46 = .ok (.bipush (-4), 2) := by decide +kernel
theorem dX0_extend_48 : decode cX0_extend 48 = .ok (.ireturn, 1) := by decide +kernel
theorem dX0_extend_49 : decode cX0_extend 49 = .ok (.aload_n 0, 1) := by decide +kernel
theorem dX0_extend_50 : decode cX0_extend 50 = .ok (.iload_n 1, 1) := by decide +kernel
theorem dX0_extend_51 : decode cX0_extend 51 = .ok (.iload_n 2, 1) := by decide +kernel
theorem dX0_extend_52 : decode cX0_extend 52 = .ok (.invokevirtual 36, 3) := by decide +kernel
theorem dX0_extend_55 : decode cX0_extend 55 = .ok (.ireturn, 1) := by decide +kernel
theorem dX0_init_0 : decode cX0_init 0 = .ok (.aload_n 0, 1) := by decide +kernel
theorem dX0_init_1 : decode cX0_init 1 = .ok (.invokespecial 3, 3) := by decide +kernel
theorem dX0_init_4 : decode cX0_init 4 = .ok (.aload_n 0, 1) := by decide +kernel
theorem dX0_init_5 : decode cX0_init 5 = .ok (.sipush 2000, 3) := by decide +kernel
theorem dX0_init_8 : decode cX0_init 8 = .ok (.newarray .int, 2) := by decide +kernel
theorem dX0_init_10 : decode cX0_init 10 = .ok (.putfield 9, 3) := by decide +kernel
theorem dX0_init_13 : decode cX0_init 13 = .ok (.aload_n 0, 1) := by decide +kernel
theorem dX0_init_14 : decode cX0_init 14 = .ok (.sipush 2000, 3) := by decide +kernel
theorem dX0_init_17 : decode cX0_init 17 = .ok (.newarray .int, 2) := by decide +kernel
theorem dX0_init_19 : decode cX0_init 19 = .ok (.putfield 15, 3) := by decide +kernel
theorem dX0_init_22 : decode cX0_init 22 = .ok (.aload_n 0, 1) := by decide +kernel
theorem dX0_init_23 : decode cX0_init 23 = .ok (.sipush 2000, 3) := by decide +kernel
theorem dX0_init_26 : decode cX0_init 26 = .ok (.newarray .int, 2) := by decide +kernel
theorem dX0_init_28 : decode cX0_init 28 = .ok (.putfield 18, 3) := by decide +kernel
theorem dX0_init_31 : decode cX0_init 31 = .ok (.aload_n 0, 1) := by decide +kernel
theorem dX0_init_32 : decode cX0_init 32 = .ok (.sipush 2000, 3) := by decide +kernel
theorem dX0_init_35 : decode cX0_init 35 = .ok (.newarray .boolean, 2) := by decide +kernel
theorem dX0_init_37 : decode cX0_init 37 = .ok (.putfield 21, 3) := by decide +kernel
theorem dX0_init_40 : decode cX0_init 40 = .ok (.return_, 1) := by decide +kernel
theorem dX0_put_0 : decode cX0_put 0 = .ok (.aload_n 0, 1) := by decide +kernel
theorem dX0_put_1 : decode cX0_put 1 = .ok (.getfield 33, 3) := by decide +kernel
theorem dX0_put_4 : decode cX0_put 4 = .ok (.ifCond .lt 13, 3) := by decide +kernel
theorem dX0_put_7 : decode cX0_put 7 = .ok (.aload_n 0, 1) := by decide +kernel
theorem dX0_put_8 : decode cX0_put 8 = .ok (.getfield 33, 3) := by decide +kernel
theorem dX0_put_11 : decode cX0_put 11 = .ok (.sipush 2000, 3) := by decide +kernel
theorem dX0_put_14 : decode cX0_put 14 = .ok (.if_icmp .lt 6, 3) := by decide +kernel
theorem dX0_put_17 : decode cX0_put 17 = .ok (.bipush (-3), 2) := by decide +kernel
theorem dX0_put_19 : decode cX0_put 19 = .ok (.ireturn, 1) := by decide +kernel
theorem dX0_put_20 : decode cX0_put 20 = .ok (.aload_n 0, 1) := by decide +kernel
theorem dX0_put_21 : decode cX0_put 21 = .ok (.getfield 9, 3) := by decide +kernel
theorem dX0_put_24 : decode cX0_put 24 = .ok (.aload_n 0, 1) := by decide +kernel
theorem dX0_put_25 : decode cX0_put 25 = .ok (.getfield 33, 3) := by decide +kernel
theorem dX0_put_28 : decode cX0_put 28 = .ok (.iload_n 1, 1) := by decide +kernel
theorem dX0_put_29 : decode cX0_put 29 = .ok (.iastore, 1) := by decide +kernel
theorem dX0_put_30 : decode cX0_put 30 = .ok (.aload_n 0, 1) := by decide +kernel
theorem dX0_put_31 : decode cX0_put 31 = .ok (.getfield 15, 3) := by decide +kernel
theorem dX0_put_34 : decode cX0_put 34 = .ok (.aload_n 0, 1) := by decide +kernel
theorem dX0_put_35 : decode cX0_put 35 = .ok (.getfield 33, 3) := by decide +kernel
theorem dX0_put_38 : decode cX0_put 38 = .ok (.iload_n 2, 1) := by decide +kernel
theorem dX0_put_39 : decode cX0_put 39 = .ok (.iastore, 1) := by decide +kernel
theorem dX0_put_40 : decode cX0_put 40 = .ok (.aload_n 0, 1) := by decide +kernel
theorem dX0_put_41 : decode cX0_put 41 = .ok (.dup, 1) := by decide +kernel
theorem dX0_put_42 : decode cX0_put 42 = .ok (.getfield 33, 3) := by decide +kernel
theorem dX0_put_45 : decode cX0_put 45 = .ok (.iconst 1, 1) := by decide +kernel
theorem dX0_put_46 : decode cX0_put 46 = .ok (.iadd, 1) := by decide +kernel
theorem dX0_put_47 : decode cX0_put 47 = .ok (.putfield 33, 3) := by decide +kernel
theorem dX0_put_50 : decode cX0_put 50 = .ok (.aload_n 0, 1) := by decide +kernel
theorem dX0_put_51 : decode cX0_put 51 = .ok (.getfield 33, 3) := by decide +kernel
theorem dX0_put_54 : decode cX0_put 54 = .ok (.ireturn, 1) := by decide +kernel
end
section
theorem dX0_shut_0 : decode cX0_shut 0 = .ok (.aload_n 0, 1) := by decide +kernel
theorem dX0_shut_1 : decode cX0_shut 1 = .ok (.getfield 25, 3) := by decide +kernel
theorem dX0_shut_4 : decode cX0_shut 4 = .ok (.iconst 1, 1) := by decide +kernel
theorem dX0_shut_5 : decode cX0_shut 5 = .ok (.isub, 1) := by decide +kernel
theorem dX0_shut_6 : decode cX0_shut 6 = .ok (.istore_n 1, 1) := by decide +kernel
theorem dX0_shut_7 : decode cX0_shut 7 = .ok (.iload_n 1, 1) := by decide +kernel
theorem dX0_shut_8 : decode cX0_shut 8 = .ok (.ifCond .lt 10, 3) := by decide +kernel
theorem dX0_shut_11 : decode cX0_shut 11 = .ok (.iload_n 1, 1) := by decide +kernel
theorem dX0_shut_12 : decode cX0_shut 12 = .ok (.sipush 2000, 3) := by decide +kernel
theorem dX0_shut_15 : decode cX0_shut 15 = .ok (.if_icmp .lt 6, 3) := by decide +kernel
theorem dX0_shut_18 : decode cX0_shut 18 = .ok (.bipush (-2), 2) := by decide +kernel
theorem dX0_shut_20 : decode cX0_shut 20 = .ok (.ireturn, 1) := by decide +kernel
theorem dX0_shut_21 : decode cX0_shut 21 = .ok (.aload_n 0, 1) := by decide +kernel
theorem dX0_shut_22 : decode cX0_shut 22 = .ok (.getfield 21, 3) := by decide +kernel
theorem dX0_shut_25 : decode cX0_shut 25 = .ok (.iload_n 1, 1) := by decide +kernel
theorem dX0_shut_26 : decode cX0_shut 26 = .ok (.iconst 1, 1) := by decide +kernel
theorem dX0_shut_27 : decode cX0_shut 27 = .ok (.bastore, 1) := by decide +kernel
theorem dX0_shut_28 : decode cX0_shut 28 = .ok (.aload_n 0, 1) := by decide +kernel
theorem dX0_shut_29 : decode cX0_shut 29 = .ok (.getfield 33, 3) := by decide +kernel
theorem dX0_shut_32 : decode cX0_shut 32 = .ok (.ireturn, 1) := by decide +kernel
theorem dX1_capBeginning_0 : decode cX1_capBeginning 0 = .ok (.aload_n 0, 1) := by decide +kernel
theorem dX1_capBeginning_1 : decode cX1_capBeginning 1 = .ok (.getfield 25, 3) := by decide +kernel
theorem dX1_capBeginning_4 : decode cX1_capBeginning 4 = .ok (.iconst 3, 1) := by decide +kernel
theorem dX1_capBeginning_5 : decode cX1_capBeginning 5 = .ok (.invokevirtual 76, 3) := by decide +kernel
theorem dX1_capBeginning_8 : decode cX1_capBeginning 8 = .ok (.aload_n 0, 1) := by decide +kernel
theorem dX1_capBeginning_9 : decode cX1_capBeginning 9 = .ok (.getfield 25, 3) := by decide +kernel
theorem dX1_capBeginning_12 : decode cX1_capBeginning 12 = .ok (.aload_n 0, 1) := by decide +kernel
theorem dX1_capBeginning_13 : decode cX1_capBeginning 13 = .ok (.getfield 12, 3) := by decide +kernel
theorem dX1_capBeginning_16 : decode cX1_capBeginning 16 = .ok (.getfield 80, 3) := by decide +kernel
theorem dX1_capBeginning_19 : decode cX1_capBeginning 19 = .ok (.aload_n 0, 1) := by decide +kernel
theorem dX1_capBeginning_20 : decode cX1_capBeginning 20 = .ok (.getfield 12, 3) := by decide +kernel
theorem dX1_capBeginning_23 : decode cX1_capBeginning 23 = .ok (.getfield 84, 3) := by decide +kernel
theorem dX1_capBeginning_26 : decode cX1_capBeginning 26 = .ok (.lsub, 1) := by decide +kernel
theorem dX1_capBeginning_27 : decode cX1_capBeginning 27 = .ok (.aload_n 0, 1) := by decide +kernel
theorem dX1_capBeginning_28 : decode cX1_capBeginning 28 = .ok (.getfield 12, 3) := by decide +kernel
theorem dX1_capBeginning_31 : decode cX1_capBeginning 31 = .ok (.getfield 87, 3) := by decide +kernel
theorem dX1_capBeginning_34 : decode cX1_capBeginning 34 = .ok (.aload_n 0, 1) := by decide +kernel
theorem dX1_capBeginning_35 : decode cX1_capBeginning 35 = .ok (.getfield 12, 3) := by decide +kernel
theorem dX1_capBeginning_38 : decode cX1_capBeginning 38 = .ok (.getfield 90, 3) := by decide +kernel
theorem dX1_capBeginning_41 : decode cX1_capBeginning 41 = .ok (.lsub, 1) := by decide +kernel
theorem dX1_capBeginning_42 : decode cX1_capBeginning 42 = .ok (.invokevirtual 93, 3) := by decide +kernel
theorem dX1_capBeginning_45 : decode cX1_capBeginning 45 = .ok (.aload_n 0, 1) := by decide +kernel
theorem dX1_capBeginning_46 : decode cX1_capBeginning 46 = .ok (.getfield 25, 3) := by decide +kernel
theorem dX1_capBeginning_49 : decode cX1_capBeginning 49 = .ok (.aload_n 0, 1) := by decide +kernel
theorem dX1_capBeginning_50 : decode cX1_capBeginning 50 = .ok (.getfield 12, 3) := by decide +kernel
theorem dX1_capBeginning_53 : decode cX1_capBeginning 53 = .ok (.getfield 80, 3) := by decide +kernel
theorem dX1_capBeginning_56 : decode cX1_capBeginning 56 = .ok (.aload_n 0, 1) := by decide +kernel
theorem dX1_capBeginning_57 : decode cX1_capBeginning 57 = .ok (.getfield 12, 3) := by decide +kernel
theorem dX1_capBeginning_60 : decode cX1_capBeginning 60 = .ok (.getfield 84, 3) := by decide +kernel
theorem dX1_capBeginning_63 : decode cX1_capBeginning 63 = .ok (.lsub, 1) := by decide +kernel
theorem dX1_capBeginning_64 : decode cX1_capBeginning 64 = .ok (.aload_n 0, 1) := by decide +kernel
theorem dX1_capBeginning_65 : decode cX1_capBeginning 65 = .ok (.getfield 12, 3) := by decide +kernel
theorem dX1_capBeginning_68 : decode cX1_capBeginning 68 = .ok (.getfield 103, 3) := by decide +kernel
theorem dX1_capBeginning_71 : decode cX1_capBeginning 71 = .ok (.lsub, 1) := by decide +kernel
theorem dX1_capBeginning_72 : decode cX1_capBeginning 72 = .ok (.aload_n 0, 1) := by decide +kernel
theorem dX1_capBeginning_73 : decode cX1_capBeginning 73 = .ok (.getfield 12, 3) := by decide +kernel
theorem dX1_capBeginning_76 : decode cX1_capBeginning 76 = .ok (.getfield 87, 3) := by decide +kernel
theorem dX1_capBeginning_79 : decode cX1_capBeginning 79 = .ok (.aload_n 0, 1) := by decide +kernel
theorem dX1_capBeginning_80 : decode cX1_capBeginning 80 = .ok (.getfield 12, 3) := by decide +kernel
theorem dX1_capBeginning_83 : decode cX1_capBeginning 83 = .ok (.getfield 90, 3) := by decide +kernel
theorem dX1_capBeginning_86 : decode cX1_capBeginning 86 = .ok (.lsub, 1) := by decide +kernel
theorem dX1_capBeginning_87 : decode cX1_capBeginning 87 = .ok (.aload_n 0, 1) := by decide +kernel
theorem dX1_capBeginning_88 : decode cX1_capBeginning 88 = .ok (.getfield 12, 3) := by decide +kernel
theorem dX1_capBeginning_91 : decode cX1_capBeginning 91 = .ok (.getfield 106, 3) := by decide +kernel
theorem dX1_capBeginning_94 : decode cX1_capBeginning 94 = .ok (.lsub, 1) := by decide +kernel
theorem dX1_capBeginning_95 : decode cX1_capBeginning 95 = .ok (.invokevirtual 93, 3) := by decide +kernel
theorem dX1_capBeginning_98 : decode cX1_capBeginning 98 = .ok (.aload_n 0, 1) := by decide +kernel
theorem dX1_capBeginning_99 : decode cX1_capBeginning 99 = .ok (.getfield 25, 3) := by decide +kernel
theorem dX1_capBeginning_102 : decode cX1_capBeginning 102 = .ok (.aload_n 0, 1) := by decide +kernel
theorem dX1_capBeginning_103 : decode cX1_capBeginning 103 = .ok (.getfield 12, 3) := by decide +kernel
theorem dX1_capBeginning_106 : decode cX1_capBeginning 106 = .ok (.getfield 80, 3) := by decide +kernel
theorem dX1_capBeginning_109 : decode cX1_capBeginning 109 = .ok (.aload_n 0, 1) := by decide +kernel
theorem dX1_capBeginning_110 : decode cX1_capBeginning 110 = .ok (.getfield 12, 3) := by decide +kernel
theorem dX1_capBeginning_113 : decode cX1_capBeginning 113 = .ok (.getfield 84, 3) := by decide +kernel
theorem dX1_capBeginning_116 : decode cX1_capBeginning 116 = .ok (.ladd, 1) := by decide +kernel
theorem dX1_capBeginning_117 : decode cX1_capBeginning 117 = .ok (.aload_n 0, 1) := by decide +kernel
theorem dX1_capBeginning_118 : decode cX1_capBeginning 118 = .ok (.getfield 12, 3) := by decide +kernel
theorem dX1_capBeginning_121 : decode cX1_capBeginning 121 = .ok (.getfield 103, 3) := by decide +kernel
theorem dX1_capBeginning_124 : decode cX1_capBeginning 124 = .ok (.lsub, 1) := by decide +kernel
theorem dX1_capBeginning_125 : decode cX1_capBeginning 125 = .ok (.aload_n 0, 1) := by decide +kernel
theorem dX1_capBeginning_126 : decode cX1_capBeginning 126 = .ok (.getfield 12, 3) := by decide +kernel
theorem dX1_capBeginning_129 : decode cX1_capBeginning 129 = .ok (.getfield 87, 3) := by decide +kernel
theorem dX1_capBeginning_132 : decode cX1_capBeginning 132 = .ok (.aload_n 0, 1) := by decide +kernel
theorem dX1_capBeginning_133 : decode cX1_capBeginning 133 = .ok (.getfield 12, 3) := by decide +kernel
theorem dX1_capBeginning_136 : decode cX1_capBeginning 136 = .ok (.getfield 90, 3) := by decide +kernel
theorem dX1_capBeginning_139 : decode cX1_capBeginning 139 = .ok (.ladd, 1) := by decide +kernel
theorem dX1_capBeginning_140 : decode cX1_capBeginning 140 = .ok (.aload_n 0, 1) := by decide +kernel
theorem dX1_capBeginning_141 : decode cX1_capBeginning 141 = .ok (.getfield 12, 3) := by decide +kernel
theorem dX1_capBeginning_144 : decode cX1_capBeginning 144 = .ok (.getfield 106, 3) := by decide +kernel
theorem dX1_capBeginning_147 : decode cX1_capBeginning 147 = .ok (.lsub, 1) := by decide +kernel
theorem dX1_capBeginning_148 : decode cX1_capBeginning 148 = .ok (.invokevirtual 93, 3) := by decide +kernel
theorem dX1_capBeginning_151 : decode cX1_capBeginning 151 = .ok (.aload_n 0, 1) := by decide +kernel
theorem dX1_capBeginning_152 : decode cX1_capBeginning 152 = .ok (.getfield 25, 3) := by decide +kernel
theorem dX1_capBeginning_155 : decode cX1_capBeginning 155 = .ok (.aload_n 0, 1) := by decide +kernel
theorem dX1_capBeginning_156 : decode cX1_capBeginning 156 = .ok (.getfield 12, 3) := by decide +kernel
theorem dX1_capBeginning_159 : decode cX1_capBeginning 159 = .ok (.getfield 80, 3) := by decide +kernel
theorem dX1_capBeginning_162 : decode cX1_capBeginning 162 = .ok (.aload_n 0, 1) := by decide +kernel
theorem dX1_capBeginning_163 : decode cX1_capBeginning 163 = .ok (.getfield 12, 3) := by decide +kernel
theorem dX1_capBeginning_166 : decode cX1_capBeginning 166 = .ok (.getfield 84, 3) := by decide +kernel
theorem dX1_capBeginning_169 : decode cX1_capBeginning 169 = .ok (.ladd, 1) := by decide +kernel
theorem dX1_capBeginning_170 : decode cX1_capBeginning 170 = .ok (.aload_n 0, 1) := by decide +kernel
theorem dX1_capBeginning_171 : decode cX1_capBeginning 171 = .ok (.getfield 12, 3) := by decide +kernel
theorem dX1_capBeginning_174 : decode cX1_capBeginning 174 = .ok (.getfield 87, 3) := by decide +kernel
theorem dX1_capBeginning_177 : decode cX1_capBeginning 177 = .ok (.aload_n 0, 1) := by decide +kernel
theorem dX1_capBeginning_178 : decode cX1_capBeginning 178 = .ok (.getfield 12, 3) := by decide +kernel
theorem dX1_capBeginning_181 : decode cX1_capBeginning 181 = .ok (.getfield 90, 3) := by decide +kernel
theorem dX1_capBeginning_184 : decode cX1_capBeginning 184 = .ok (.ladd, 1) := by decide +kernel
theorem dX1_capBeginning_185 : decode cX1_capBeginning 185 = .ok (.invokevirtual 93, 3) := by decide +kernel
theorem dX1_capBeginning_188 : decode cX1_capBeginning 188 = .ok (.return_, 1) := by decide +kernel
theorem dX1_capEnd_0 : decode cX1_capEnd 0 = .ok (.aload_n 0, 1) := by decide +kernel
theorem dX1_capEnd_1 : decode cX1_capEnd 1 = .ok (.getfield 25, 3) := by decide +kernel
theorem dX1_capEnd_4 : decode cX1_capEnd 4 = .ok (.iconst 3, 1) := by decide +kernel
theorem dX1_capEnd_5 : decode cX1_capEnd 5 = .ok (.invokevirtual 76, 3) := by decide +kernel
theorem dX1_capEnd_8 : decode cX1_capEnd 8 = .ok (.aload_n 0, 1) := by decide +kernel
theorem dX1_capEnd_9 : decode cX1_capEnd 9 = .ok (.getfield 25, 3) := by decide +kernel
theorem dX1_capEnd_12 : decode cX1_capEnd 12 = .ok (.aload_n 0, 1) := by decide +kernel
theorem dX1_capEnd_13 : decode cX1_capEnd 13 = .ok (.getfield 12, 3) := by decide +kernel
theorem dX1_capEnd_16 : decode cX1_capEnd 16 = .ok (.getfield 97, 3) := by decide +kernel
theorem dX1_capEnd_19 : decode cX1_capEnd 19 = .ok (.aload_n 0, 1) := by decide +kernel
theorem dX1_capEnd_20 : decode cX1_capEnd 20 = .ok (.getfield 12, 3) := by decide +kernel
theorem dX1_capEnd_23 : decode cX1_capEnd 23 = .ok (.getfield 84, 3) := by decide +kernel
theorem dX1_capEnd_26 : decode cX1_capEnd 26 = .ok (.ladd, 1) := by decide +kernel
theorem dX1_capEnd_27 : decode cX1_capEnd 27 = .ok (.aload_n 0, 1) := by decide +kernel
theorem dX1_capEnd_28 : decode cX1_capEnd 28 = .ok (.getfield 12, 3) := by decide +kernel
theorem dX1_capEnd_31 : decode cX1_capEnd 31 = .ok (.getfield 100, 3) := by decide +kernel
theorem dX1_capEnd_34 : decode cX1_capEnd 34 = .ok (.aload_n 0, 1) := by decide +kernel
theorem dX1_capEnd_35 : decode cX1_capEnd 35 = .ok (.getfield 12, 3) := by decide +kernel
theorem dX1_capEnd_38 : decode cX1_capEnd 38 = .ok (.getfield 90, 3) := by decide +kernel
theorem dX1_capEnd_41 : decode cX1_capEnd 41 = .ok (.ladd, 1) := by decide +kernel
theorem dX1_capEnd_42 : decode cX1_capEnd 42 = .ok (.invokevirtual 93, 3) := by decide +kernel
theorem dX1_capEnd_45 : decode cX1_capEnd 45 = .ok (.aload_n 0, 1) := by decide +kernel
theorem dX1_capEnd_46 : decode cX1_capEnd 46 = .ok (.getfield 25, 3) := by decide +kernel
theorem dX1_capEnd_49 : decode cX1_capEnd 49 = .ok (.aload_n 0, 1) := by decide +kernel
theorem dX1_capEnd_50 : decode cX1_capEnd 50 = .ok (.getfield 12, 3) := by decide +kernel
theorem dX1_capEnd_53 : decode cX1_capEnd 53 = .ok (.getfield 97, 3) := by decide +kernel
theorem dX1_capEnd_56 : decode cX1_capEnd 56 = .ok (.aload_n 0, 1) := by decide +kernel
theorem dX1_capEnd_57 : decode cX1_capEnd 57 = .ok (.getfield 12, 3) := by decide +kernel
theorem dX1_capEnd_60 : decode cX1_capEnd 60 = .ok (.getfield 84, 3) := by decide +kernel
theorem dX1_capEnd_63 : decode cX1_capEnd 63 = .ok (.ladd, 1) := by decide +kernel
theorem dX1_capEnd_64 : decode cX1_capEnd 64 = .ok (.aload_n 0, 1) := by decide +kernel
theorem dX1_capEnd_65 : decode cX1_capEnd 65 = .ok (.getfield 12, 3) := by decide +kernel
theorem dX1_capEnd_68 : decode cX1_capEnd 68 = .ok (.getfield 103, 3) := by decide +kernel
theorem dX1_capEnd_71 : decode cX1_capEnd 71 = .ok (.ladd, 1) := by decide +kernel
theorem dX1_capEnd_72 : decode cX1_capEnd 72 = .ok (.aload_n 0, 1) := by decide +kernel
theorem dX1_capEnd_73 : decode cX1_capEnd 73 = .ok (.getfield 12, 3) := by decide +kernel
theorem dX1_capEnd_76 : decode cX1_capEnd 76 = .ok (.getfield 100, 3) := by decide +kernel
theorem dX1_capEnd_79 : decode cX1_capEnd 79 = .ok (.aload_n 0, 1) := by decide +kernel
theorem dX1_capEnd_80 : decode cX1_capEnd 80 = .ok (.getfield 12, 3) := by decide +kernel
theorem dX1_capEnd_83 : decode cX1_capEnd 83 = .ok (.getfield 90, 3) := by decide +kernel
theorem dX1_capEnd_86 : decode cX1_capEnd 86 = .ok (.ladd, 1) := by decide +kernel
theorem dX1_capEnd_87 : decode cX1_capEnd 87 = .ok (.aload_n 0, 1) := by decide +kernel
theorem dX1_capEnd_88 : decode cX1_capEnd 88 = .ok (.getfield 12, 3) := by decide +kernel
theorem dX1_capEnd_91 : decode cX1_capEnd 91 = .ok (.getfield 106, 3) := by decide +kernel
theorem dX1_capEnd_94 : decode cX1_capEnd 94 = .ok (.ladd, 1) := by decide +kernel
theorem dX1_capEnd_95 : decode cX1_capEnd 95 = .ok (.invokevirtual 93, 3) := by decide +kernel
theorem dX1_capEnd_98 : decode cX1_capEnd 98 = .ok (.aload_n 0, 1) := by decide +kernel
theorem dX1_capEnd_99 : decode cX1_capEnd 99 = .ok (.getfield 25, 3) := by decide +kernel
theorem dX1_capEnd_102 : decode cX1_capEnd 102 = .ok (.aload_n 0, 1) := by decide +kernel
theorem dX1_capEnd_103 : decode cX1_capEnd 103 = .ok (.getfield 12, 3) := by decide +kernel
theorem dX1_capEnd_106 : decode cX1_capEnd 106 = .ok (.getfield 97, 3) := by decide +kernel
theorem dX1_capEnd_109 : decode cX1_capEnd 109 = .ok (.aload_n 0, 1) := by decide +kernel
theorem dX1_capEnd_110 : decode cX1_capEnd 110 = .ok (.getfield 12, 3) := by decide +kernel
theorem dX1_capEnd_113 : decode cX1_capEnd 113 = .ok (.getfield 84, 3) := by decide +kernel
theorem dX1_capEnd_116 : decode cX1_capEnd 116 = .ok (.lsub, 1) := by decide +kernel
theorem dX1_capEnd_117 : decode cX1_capEnd 117 = .ok (.aload_n 0, 1) := by decide +kernel
theorem dX1_capEnd_118 : decode cX1_capEnd 118 = .ok (.getfield 12, 3) := by decide +kernel
theorem dX1_capEnd_121 : decode cX1_capEnd 121 = .ok (.getfield 103, 3) := by decide +kernel
theorem dX1_capEnd_124 : decode cX1_capEnd 124 = .ok (.ladd, 1) := by decide +kernel
theorem dX1_capEnd_125 : decode cX1_capEnd 125 = .ok (.aload_n 0, 1) := by decide +kernel
theorem dX1_capEnd_126 : decode cX1_capEnd 126 = .ok (.getfield 12, 3) := by decide +kernel
theorem dX1_capEnd_129 : decode cX1_capEnd 129 = .ok (.getfield 100, 3) := by decide +kernel
theorem dX1_capEnd_132 : decode cX1_capEnd 132 = .ok (.aload_n 0, 1) := by decide +kernel
theorem dX1_capEnd_133 : decode cX1_capEnd 133 = .ok (.getfield 12, 3) := by decide +kernel
theorem dX1_capEnd_136 : decode cX1_capEnd 136 = .ok (.getfield 90, 3) := by decide +kernel
theorem dX1_capEnd_139 : decode cX1_capEnd 139 = .ok (.lsub, 1) := by decide +kernel
theorem dX1_capEnd_140 : decode cX1_capEnd 140 = .ok (.aload_n 0, 1) := by decide +kernel
theorem dX1_capEnd_141 : decode cX1_capEnd 141 = .ok (.getfield 12, 3) := by decide +kernel
theorem dX1_capEnd_144 : decode cX1_capEnd 144 = .ok (.getfield 106, 3) := by decide +kernel
theorem dX1_capEnd_147 : decode cX1_capEnd 147 = .ok (.ladd, 1) := by decide +kernel
theorem dX1_capEnd_148 : decode cX1_capEnd 148 = .ok (.invokevirtual 93, 3) := by decide +kernel
theorem dX1_capEnd_151 : decode cX1_capEnd 151 = .ok (.aload_n 0, 1) := by decide +kernel
theorem dX1_capEnd_152 : decode cX1_capEnd 152 = .ok (.getfield 25, 3) := by decide +kernel
theorem dX1_capEnd_155 : decode cX1_capEnd 155 = .ok (.aload_n 0, 1) := by decide +kernel
theorem dX1_capEnd_156 : decode cX1_capEnd 156 = .ok (.getfield 12, 3) := by decide +kernel
theorem dX1_capEnd_159 : decode cX1_capEnd 159 = .ok (.getfield 97, 3) := by decide +kernel
theorem dX1_capEnd_162 : decode cX1_capEnd 162 = .ok (.aload_n 0, 1) := by decide +kernel
theorem dX1_capEnd_163 : decode cX1_capEnd 163 = .ok (.getfield 12, 3) := by decide +kernel
theorem dX1_capEnd_166 : decode cX1_capEnd 166 = .ok (.getfield 84, 3) := by decide +kernel
theorem dX1_capEnd_169 : decode cX1_capEnd 169 = .ok (.lsub, 1) := by decide +kernel
theorem dX1_capEnd_170 : decode cX1_capEnd 170 = .ok (.aload_n 0, 1) := by decide +kernel
theorem dX1_capEnd_171 : decode cX1_capEnd 171 = .ok (.getfield 12, 3) := by decide +kernel
theorem dX1_capEnd_174 : decode cX1_capEnd 174 = .ok (.getfield 100, 3) := by decide +kernel
theorem dX1_capEnd_177 : decode cX1_capEnd 177 = .ok (.aload_n 0, 1) := by decide +kernel
theorem dX1_capEnd_178 : decode cX1_capEnd 178 = .ok (.getfield 12, 3) := by decide +kernel
theorem dX1_capEnd_181 : decode cX1_capEnd 181 = .ok (.getfield 90, 3) := by decide +kernel
theorem dX1_capEnd_184 : decode cX1_capEnd 184 = .ok (.lsub, 1) := by decide +kernel
theorem dX1_capEnd_185 : decode cX1_capEnd 185 = .ok (.invokevirtual 93, 3) := by decide +kernel
theorem dX1_capEnd_188 : decode cX1_capEnd 188 = .ok (.return_, 1) := by decide +kernel
theorem dX1_goOn_0 : decode cX1_goOn 0 = .ok (.aload_n 0, 1) := by decide +kernel
theorem dX1_goOn_1 : decode cX1_goOn 1 = .ok (.getfield 12, 3) := by decide +kernel
theorem dX1_goOn_4 : decode cX1_goOn 4 = .ok (.astore_n 1, 1) := by decide +kernel
theorem dX1_goOn_5 : decode cX1_goOn 5 = .ok (.aload_n 0, 1) := by decide +kernel
theorem dX1_goOn_6 : decode cX1_goOn 6 = .ok (.aload_n 0, 1) := by decide +kernel
theorem dX1_goOn_7 : decode cX1_goOn 7 = .ok (.getfield 18, 3) := by decide +kernel
theorem dX1_goOn_10 : decode cX1_goOn 10 = .ok (.putfield 12, 3) := by decide +kernel
theorem dX1_goOn_13 : decode cX1_goOn 13 = .ok (.aload_n 0, 1) := by decide +kernel
theorem dX1_goOn_14 : decode cX1_goOn 14 = .ok (.aload_n 1, 1) := by decide +kernel
theorem dX1_goOn_15 : decode cX1_goOn 15 = .ok (.putfield 18, 3) := by decide +kernel
theorem dX1_goOn_18 : decode cX1_goOn 18 = .ok (.return_, 1) := by decide +kernel
theorem dX1_init_0 : decode cX1_init 0 = .ok (.aload_n 0, 1) := by decide +kernel
theorem dX1_init_1 : decode cX1_init 1 = .ok (.invokespecial 3, 3) := by decide +kernel
theorem dX1_init_4 : decode cX1_init 4 = .ok (.aload_n 0, 1) := by decide +kernel
theorem dX1_init_5 : decode cX1_init 5 = .ok (.new 9, 3) := by decide +kernel
theorem dX1_init_8 : decode cX1_init 8 = .ok (.dup, 1) := by decide +kernel
theorem dX1_init_9 : decode cX1_init 9 = .ok (.invokespecial 11, 3) := by decide +kernel
theorem dX1_init_12 : decode cX1_init 12 = .ok (.putfield 12, 3) := by decide +kernel
theorem dX1_init_15 : decode cX1_init 15 = .ok (.aload_n 0, 1) := by decide +kernel
theorem dX1_init_16 : decode cX1_init 16 = .ok (.new 9, 3) := by decide +kernel
theorem dX1_init_19 : decode cX1_init 19 = .ok (.dup, 1) := by decide +kernel
theorem dX1_init_20 : decode cX1_init 20 = .ok (.invokespecial 11, 3) := by decide +kernel
theorem dX1_init_23 : decode cX1_init 23 = .ok (.putfield 18, 3) := by decide +kernel
theorem dX1_init_26 : decode cX1_init 26 = .ok (.aload_n 0, 1) := by decide +kernel
theorem dX1_init_27 : decode cX1_init 27 = .ok (.aload_n 1, 1) := by decide +kernel
theorem dX1_init_28 : decode cX1_init 28 = .ok (.putfield 21, 3) := by decide +kernel
theorem dX1_init_31 : decode cX1_init 31 = .ok (.aload_n 0, 1) := by decide +kernel
theorem dX1_init_32 : decode cX1_init 32 = .ok (.aload_n 2, 1) := by decide +kernel
theorem dX1_init_33 : decode cX1_init 33 = .ok (.putfield 25, 3) := by decide +kernel
theorem dX1_init_36 : decode cX1_init 36 = .ok (.return_, 1) := by decide +kernel
theorem dX1_joinBoth_0 : decode cX1_joinBoth 0 = .ok (.aload_n 0, 1) := by decide +kernel
theorem dX1_joinBoth_1 : decode cX1_joinBoth 1 = .ok (.getfield 12, 3) := by decide +kernel
theorem dX1_joinBoth_4 : decode cX1_joinBoth 4 = .ok (.getfield 109, 3) := by decide +kernel
theorem dX1_joinBoth_7 : decode cX1_joinBoth 7 = .ok (.aload_n 0, 1) := by decide +kernel
theorem dX1_joinBoth_8 : decode cX1_joinBoth 8 = .ok (.getfield 18, 3) := by decide +kernel
theorem dX1_joinBoth_11 : decode cX1_joinBoth 11 = .ok (.getfield 112, 3) := by decide +kernel
theorem dX1_joinBoth_14 : decode cX1_joinBoth 14 = .ok (.lmul, 1) := by decide +kernel
theorem dX1_joinBoth_15 : decode cX1_joinBoth 15 = .ok (.aload_n 0, 1) := by decide +kernel
theorem dX1_joinBoth_16 : decode cX1_joinBoth 16 = .ok (.getfield 12, 3) := by decide +kernel
theorem dX1_joinBoth_19 : decode cX1_joinBoth 19 = .ok (.getfield 112, 3) := by decide +kernel
theorem dX1_joinBoth_22 : decode cX1_joinBoth 22 = .ok (.aload_n 0, 1) := by decide +kernel
theorem dX1_joinBoth_23 : decode cX1_joinBoth 23 = .ok (.getfield 18, 3) := by decide +kernel
theorem dX1_joinBoth_26 : decode cX1_joinBoth 26 = .ok (.getfield 109, 3) := by decide +kernel
theorem dX1_joinBoth_29 : decode cX1_joinBoth 29 = .ok (.lmul, 1) := by decide +kernel
theorem dX1_joinBoth_30 : decode cX1_joinBoth 30 = .ok (.lsub, 1) := by decide +kernel
theorem dX1_joinBoth_31 : decode cX1_joinBoth 31 = .ok (.lstore_n 1, 1) := by decide +kernel
theorem dX1_joinBoth_32 : decode cX1_joinBoth 32 = .ok (.lload_n 1, 1) := by decide +kernel
theorem dX1_joinBoth_33 : decode cX1_joinBoth 33 = .ok (.lconst 0, 1) := by decide +kernel
theorem dX1_joinBoth_34 : decode cX1_joinBoth 34 = .ok (.lcmp, 1) := by decide +kernel
theorem dX1_joinBoth_35 : decode cX1_joinBoth 35 = .ok (.ifCond .ne 4, 3) := by decide +kernel
theorem dX1_joinBoth_38 : decode cX1_joinBoth 38 = .ok (.return_, 1) := by decide +kernel
theorem dX1_joinBoth_39 : decode cX1_joinBoth 39 = .ok (.lload_n 1, 1) := by decide +kernel
theorem dX1_joinBoth_40 : decode cX1_joinBoth 40 = .ok (.lconst 0, 1) := by decide +kernel
theorem dX1_joinBoth_41 : decode cX1_joinBoth 41 = .ok (.lcmp, 1) := by decide +kernel
theorem dX1_joinBoth_42 : decode cX1_joinBoth 42 = .ok (.ifCond .le 9, 3) := by decide +kernel
theorem dX1_joinBoth_45 : decode cX1_joinBoth 45 = .ok (.ldc2_w 115, 3) := by decide +kernel
theorem dX1_joinBoth_48 : decode cX1_joinBoth 48 = .ok (.goto 4, 3) := by decide +kernel
theorem dX1_joinBoth_51 : decode cX1_joinBoth 51 = .ok (.lconst 1, 1) := by decide +kernel
theorem dX1_joinBoth_52 : decode cX1_joinBoth 52 = .ok (.lstore_n 3, 1) := by decide +kernel
theorem dX1_joinBoth_53 : decode cX1_joinBoth 53 = .ok (.aload_n 0, 1) := by decide +kernel
theorem dX1_joinBoth_54 : decode cX1_joinBoth 54 = .ok (.getfield 12, 3) := by decide +kernel
theorem dX1_joinBoth_57 : decode cX1_joinBoth 57 = .ok (.getfield 84, 3) := by decide +kernel
theorem dX1_joinBoth_60 : decode cX1_joinBoth 60 = .ok (.aload_n 0, 1) := by decide +kernel
theorem dX1_joinBoth_61 : decode cX1_joinBoth 61 = .ok (.getfield 18, 3) := by decide +kernel
theorem dX1_joinBoth_64 : decode cX1_joinBoth 64 = .ok (.getfield 84, 3) := by decide +kernel
theorem dX1_joinBoth_67 : decode cX1_joinBoth 67 = .ok (.lmul, 1) := by decide +kernel
theorem dX1_joinBoth_68 : decode cX1_joinBoth 68 = .ok (.aload_n 0, 1) := by decide +kernel
theorem dX1_joinBoth_69 : decode cX1_joinBoth 69 = .ok (.getfield 12, 3) := by decide +kernel
theorem dX1_joinBoth_72 : decode cX1_joinBoth 72 = .ok (.getfield 90, 3) := by decide +kernel
theorem dX1_joinBoth_75 : decode cX1_joinBoth 75 = .ok (.aload_n 0, 1) := by decide +kernel
theorem dX1_joinBoth_76 : decode cX1_joinBoth 76 = .ok (.getfield 18, 3) := by decide +kernel
theorem dX1_joinBoth_79 : decode cX1_joinBoth 79 = .ok (.getfield 90, 3) := by decide +kernel
theorem dX1_joinBoth_82 : decode cX1_joinBoth 82 = .ok (.lmul, 1) := by decide +kernel
theorem dX1_joinBoth_83 : decode cX1_joinBoth 83 = .ok (.ladd, 1) := by decide +kernel
theorem dX1_joinBoth_84 : decode cX1_joinBoth 84 = .ok (.lstore 5, 2) := by decide +kernel
theorem dX1_joinBoth_86 : decode cX1_joinBoth 86 = .ok (.aload_n 0, 1) := by decide +kernel
theorem dX1_joinBoth_87 : decode cX1_joinBoth 87 = .ok (.getfield 21, 3) := by decide +kernel
theorem dX1_joinBoth_90 : decode cX1_joinBoth 90 = .ok (.lload 5, 2) := by decide +kernel
theorem dX1_joinBoth_92 : decode cX1_joinBoth 92 = .ok (.invokevirtual 117, 3) := by decide +kernel
theorem dX1_joinBoth_95 : decode cX1_joinBoth 95 = .ok (.istore 7, 2) := by decide +kernel
theorem dX1_joinBoth_97 : decode cX1_joinBoth 97 = .ok (.aload_n 0, 1) := by decide +kernel
theorem dX1_joinBoth_98 : decode cX1_joinBoth 98 = .ok (.getfield 25, 3) := by decide +kernel
theorem dX1_joinBoth_101 : decode cX1_joinBoth 101 = .ok (.iload 7, 2) := by decide +kernel
theorem dX1_joinBoth_103 : decode cX1_joinBoth 103 = .ok (.ifCond .eq 7, 3) := by decide +kernel
theorem dX1_joinBoth_106 : decode cX1_joinBoth 106 = .ok (.iconst 2, 1) := by decide +kernel
theorem dX1_joinBoth_107 : decode cX1_joinBoth 107 = .ok (.goto 4, 3) := by decide +kernel
theorem dX1_joinBoth_110 : decode cX1_joinBoth 110 = .ok (.iconst 1, 1) := by decide +kernel
theorem dX1_joinBoth_111 : decode cX1_joinBoth 111 = .ok (.invokevirtual 76, 3) := by decide +kernel
theorem dX1_joinBoth_114 : decode cX1_joinBoth 114 = .ok (.aload_n 0, 1) := by decide +kernel
theorem dX1_joinBoth_115 : decode cX1_joinBoth 115 = .ok (.getfield 25, 3) := by decide +kernel
theorem dX1_joinBoth_118 : decode cX1_joinBoth 118 = .ok (.aload_n 0, 1) := by decide +kernel
theorem dX1_joinBoth_119 : decode cX1_joinBoth 119 = .ok (.getfield 12, 3) := by decide +kernel
theorem dX1_joinBoth_122 : decode cX1_joinBoth 122 = .ok (.getfield 97, 3) := by decide +kernel
theorem dX1_joinBoth_125 : decode cX1_joinBoth 125 = .ok (.aload_n 0, 1) := by decide +kernel
theorem dX1_joinBoth_126 : decode cX1_joinBoth 126 = .ok (.getfield 12, 3) := by decide +kernel
theorem dX1_joinBoth_129 : decode cX1_joinBoth 129 = .ok (.getfield 100, 3) := by decide +kernel
theorem dX1_joinBoth_132 : decode cX1_joinBoth 132 = .ok (.invokevirtual 93, 3) := by decide +kernel
theorem dX1_joinBoth_135 : decode cX1_joinBoth 135 = .ok (.aload_n 0, 1) := by decide +kernel
theorem dX1_joinBoth_136 : decode cX1_joinBoth 136 = .ok (.getfield 25, 3) := by decide +kernel
theorem dX1_joinBoth_139 : decode cX1_joinBoth 139 = .ok (.aload_n 0, 1) := by decide +kernel
theorem dX1_joinBoth_140 : decode cX1_joinBoth 140 = .ok (.getfield 12, 3) := by decide +kernel
theorem dX1_joinBoth_143 : decode cX1_joinBoth 143 = .ok (.getfield 97, 3) := by decide +kernel
theorem dX1_joinBoth_146 : decode cX1_joinBoth 146 = .ok (.lload_n 3, 1) := by decide +kernel
theorem dX1_joinBoth_147 : decode cX1_joinBoth 147 = .ok (.aload_n 0, 1) := by decide +kernel
theorem dX1_joinBoth_148 : decode cX1_joinBoth 148 = .ok (.getfield 12, 3) := by decide +kernel
theorem dX1_joinBoth_151 : decode cX1_joinBoth 151 = .ok (.getfield 84, 3) := by decide +kernel
theorem dX1_joinBoth_154 : decode cX1_joinBoth 154 = .ok (.lmul, 1) := by decide +kernel
theorem dX1_joinBoth_155 : decode cX1_joinBoth 155 = .ok (.ladd, 1) := by decide +kernel
theorem dX1_joinBoth_156 : decode cX1_joinBoth 156 = .ok (.aload_n 0, 1) := by decide +kernel
theorem dX1_joinBoth_157 : decode cX1_joinBoth 157 = .ok (.getfield 12, 3) := by decide +kernel
theorem dX1_joinBoth_160 : decode cX1_joinBoth 160 = .ok (.getfield 100, 3) := by decide +kernel
theorem dX1_joinBoth_163 : decode cX1_joinBoth 163 = .ok (.lload_n 3, 1) := by decide +kernel
theorem dX1_joinBoth_164 : decode cX1_joinBoth 164 = .ok (.aload_n 0, 1) := by decide +kernel
theorem dX1_joinBoth_165 : decode cX1_joinBoth 165 = .ok (.getfield 12, 3) := by decide +kernel
theorem dX1_joinBoth_168 : decode cX1_joinBoth 168 = .ok (.getfield 90, 3) := by decide +kernel
theorem dX1_joinBoth_171 : decode cX1_joinBoth 171 = .ok (.lmul, 1) := by decide +kernel
theorem dX1_joinBoth_172 : decode cX1_joinBoth 172 = .ok (.ladd, 1) := by decide +kernel
theorem dX1_joinBoth_173 : decode cX1_joinBoth 173 = .ok (.invokevirtual 93, 3) := by decide +kernel
theorem dX1_joinBoth_176 : decode cX1_joinBoth 176 = .ok (.iload 7, 2) := by decide +kernel
theorem dX1_joinBoth_178 : decode cX1_joinBoth 178 = .ok (.ifCond .eq 97, 3) := by decide +kernel
theorem dX1_joinBoth_181 : decode cX1_joinBoth 181 = .ok (.aload_n 0, 1) := by decide +kernel
theorem dX1_joinBoth_182 : decode cX1_joinBoth 182 = .ok (.getfield 21, 3) := by decide +kernel
theorem dX1_joinBoth_185 : decode cX1_joinBoth 185 = .ok (.lload 5, 2) := by decide +kernel
theorem dX1_joinBoth_187 : decode cX1_joinBoth 187 = .ok (.invokevirtual 121, 3) := by decide +kernel
theorem dX1_joinBoth_190 : decode cX1_joinBoth 190 = .ok (.lstore 8, 2) := by decide +kernel
theorem dX1_joinBoth_192 : decode cX1_joinBoth 192 = .ok (.aload_n 0, 1) := by decide +kernel
theorem dX1_joinBoth_193 : decode cX1_joinBoth 193 = .ok (.getfield 12, 3) := by decide +kernel
theorem dX1_joinBoth_196 : decode cX1_joinBoth 196 = .ok (.getfield 84, 3) := by decide +kernel
theorem dX1_joinBoth_199 : decode cX1_joinBoth 199 = .ok (.aload_n 0, 1) := by decide +kernel
theorem dX1_joinBoth_200 : decode cX1_joinBoth 200 = .ok (.getfield 18, 3) := by decide +kernel
theorem dX1_joinBoth_203 : decode cX1_joinBoth 203 = .ok (.getfield 84, 3) := by decide +kernel
theorem dX1_joinBoth_206 : decode cX1_joinBoth 206 = .ok (.ladd, 1) := by decide +kernel
theorem dX1_joinBoth_207 : decode cX1_joinBoth 207 = .ok (.lload 8, 2) := by decide +kernel
theorem dX1_joinBoth_209 : decode cX1_joinBoth 209 = .ok (.lmul, 1) := by decide +kernel
theorem dX1_joinBoth_210 : decode cX1_joinBoth 210 = .ok (.ldc2_w 125, 3) := by decide +kernel
theorem dX1_joinBoth_213 : decode cX1_joinBoth 213 = .ok (.invokestatic 127, 3) := by decide +kernel
theorem dX1_joinBoth_216 : decode cX1_joinBoth 216 = .ok (.lstore 10, 2) := by decide +kernel
theorem dX1_joinBoth_218 : decode cX1_joinBoth 218 = .ok (.aload_n 0, 1) := by decide +kernel
theorem dX1_joinBoth_219 : decode cX1_joinBoth 219 = .ok (.getfield 12, 3) := by decide +kernel
theorem dX1_joinBoth_222 : decode cX1_joinBoth 222 = .ok (.getfield 90, 3) := by decide +kernel
theorem dX1_joinBoth_225 : decode cX1_joinBoth 225 = .ok (.aload_n 0, 1) := by decide +kernel
theorem dX1_joinBoth_226 : decode cX1_joinBoth 226 = .ok (.getfield 18, 3) := by decide +kernel
theorem dX1_joinBoth_229 : decode cX1_joinBoth 229 = .ok (.getfield 90, 3) := by decide +kernel
theorem dX1_joinBoth_232 : decode cX1_joinBoth 232 = .ok (.ladd, 1) := by decide +kernel
theorem dX1_joinBoth_233 : decode cX1_joinBoth 233 = .ok (.lload 8, 2) := by decide +kernel
theorem dX1_joinBoth_235 : decode cX1_joinBoth 235 = .ok (.lmul, 1) := by decide +kernel
theorem dX1_joinBoth_236 : decode cX1_joinBoth 236 = .ok (.ldc2_w 125, 3) := by decide +kernel
theorem dX1_joinBoth_239 : decode cX1_joinBoth 239 = .ok (.invokestatic 127, 3) := by decide +kernel
theorem dX1_joinBoth_242 : decode cX1_joinBoth 242 = .ok (.lstore 12, 2) := by decide +kernel
theorem dX1_joinBoth_244 : decode cX1_joinBoth 244 = .ok (.aload_n 0, 1) := by decide +kernel
theorem dX1_joinBoth_245 : decode cX1_joinBoth 245 = .ok (.getfield 25, 3) := by decide +kernel
theorem dX1_joinBoth_248 : decode cX1_joinBoth 248 = .ok (.aload_n 0, 1) := by decide +kernel
theorem dX1_joinBoth_249 : decode cX1_joinBoth 249 = .ok (.getfield 12, 3) := by decide +kernel
theorem dX1_joinBoth_252 : decode cX1_joinBoth 252 = .ok (.getfield 97, 3) := by decide +kernel
theorem dX1_joinBoth_255 : decode cX1_joinBoth 255 = .ok (.lload_n 3, 1) := by decide +kernel
theorem dX1_joinBoth_256 : decode cX1_joinBoth 256 = .ok (.lload 10, 2) := by decide +kernel
theorem dX1_joinBoth_258 : decode cX1_joinBoth 258 = .ok (.lmul, 1) := by decide +kernel
theorem dX1_joinBoth_259 : decode cX1_joinBoth 259 = .ok (.ladd, 1) := by decide +kernel
theorem dX1_joinBoth_260 : decode cX1_joinBoth 260 = .ok (.aload_n 0, 1) := by decide +kernel
theorem dX1_joinBoth_261 : decode cX1_joinBoth 261 = .ok (.getfield 12, 3) := by decide +kernel
theorem dX1_joinBoth_264 : decode cX1_joinBoth 264 = .ok (.getfield 100, 3) := by decide +kernel
theorem dX1_joinBoth_267 : decode cX1_joinBoth 267 = .ok (.lload_n 3, 1) := by decide +kernel
theorem dX1_joinBoth_268 : decode cX1_joinBoth 268 = .ok (.lload 12, 2) := by decide +kernel
theorem dX1_joinBoth_270 : decode cX1_joinBoth 270 = .ok (.lmul, 1) := by decide +kernel
theorem dX1_joinBoth_271 : decode cX1_joinBoth 271 = .ok (.ladd, 1) := by decide +kernel
theorem dX1_joinBoth_272 : decode cX1_joinBoth 272 = .ok (.invokevirtual 93, 3) := by decide +kernel
theorem dX1_joinBoth_275 : decode cX1_joinBoth 275 = .ok (.aload_n 0, 1) := by decide +kernel
theorem dX1_joinBoth_276 : decode cX1_joinBoth 276 = .ok (.getfield 25, 3) := by decide +kernel
theorem dX1_joinBoth_279 : decode cX1_joinBoth 279 = .ok (.aload_n 0, 1) := by decide +kernel
theorem dX1_joinBoth_280 : decode cX1_joinBoth 280 = .ok (.getfield 12, 3) := by decide +kernel
theorem dX1_joinBoth_283 : decode cX1_joinBoth 283 = .ok (.getfield 97, 3) := by decide +kernel
theorem dX1_joinBoth_286 : decode cX1_joinBoth 286 = .ok (.lload_n 3, 1) := by decide +kernel
theorem dX1_joinBoth_287 : decode cX1_joinBoth 287 = .ok (.aload_n 0, 1) := by decide +kernel
theorem dX1_joinBoth_288 : decode cX1_joinBoth 288 = .ok (.getfield 18, 3) := by decide +kernel
theorem dX1_joinBoth_291 : decode cX1_joinBoth 291 = .ok (.getfield 84, 3) := by decide +kernel
theorem dX1_joinBoth_294 : decode cX1_joinBoth 294 = .ok (.lmul, 1) := by decide +kernel
theorem dX1_joinBoth_295 : decode cX1_joinBoth 295 = .ok (.ladd, 1) := by decide +kernel
theorem dX1_joinBoth_296 : decode cX1_joinBoth 296 = .ok (.aload_n 0, 1) := by decide +kernel
theorem dX1_joinBoth_297 : decode cX1_joinBoth 297 = .ok (.getfield 12, 3) := by decide +kernel
theorem dX1_joinBoth_300 : decode cX1_joinBoth 300 = .ok (.getfield 100, 3) := by decide +kernel
theorem dX1_joinBoth_303 : decode cX1_joinBoth 303 = .ok (.lload_n 3, 1) := by decide +kernel
theorem dX1_joinBoth_304 : decode cX1_joinBoth 304 = .ok (.aload_n 0, 1) := by decide +kernel
theorem dX1_joinBoth_305 : decode cX1_joinBoth 305 = .ok (.getfield 18, 3) := by decide +kernel
theorem dX1_joinBoth_308 : decode cX1_joinBoth 308 = .ok (.getfield 90, 3) := by decide +kernel
theorem dX1_joinBoth_311 : decode cX1_joinBoth 311 = .ok (.lmul, 1) := by decide +kernel
theorem dX1_joinBoth_312 : decode cX1_joinBoth 312 = .ok (.ladd, 1) := by decide +kernel
theorem dX1_joinBoth_313 : decode cX1_joinBoth 313 = .ok (.invokevirtual 93, 3) := by decide +kernel
theorem dX1_joinBoth_316 : decode cX1_joinBoth 316 = .ok (.return_, 1) := by decide +kernel
theorem dX1_make_0 : decode cX1_make 0 = .ok (.aload_n 1, 1) := by decide +kernel
theorem dX1_make_1 : decode cX1_make 1 = .ok (.invokevirtual 29, 3) := by decide +kernel
theorem dX1_make_4 : decode cX1_make 4 = .ok (.istore_n 2, 1) := by decide +kernel
theorem dX1_make_5 : decode cX1_make 5 = .ok (.iload_n 2, 1) := by decide +kernel
theorem dX1_make_6 : decode cX1_make 6 = .ok (.ifCond .ne 4, 3) := by decide +kernel
theorem dX1_make_9 : decode cX1_make 9 = .ok (.return_, 1) := by decide +kernel
theorem dX1_make_10 : decode cX1_make 10 = .ok (.aload_n 0, 1) := by decide +kernel
theorem dX1_make_11 : decode cX1_make 11 = .ok (.getfield 21, 3) := by decide +kernel
theorem dX1_make_14 : decode cX1_make 14 = .ok (.invokevirtual 35, 3) := by decide +kernel
theorem dX1_make_17 : decode cX1_make 17 = .ok (.ifCond .eq 14, 3) := by decide +kernel
theorem dX1_make_20 : decode cX1_make 20 = .ok (.aload_n 1, 1) := by decide +kernel
theorem dX1_make_21 : decode cX1_make 21 = .ok (.invokevirtual 41, 3) := by decide +kernel
theorem dX1_make_24 : decode cX1_make 24 = .ok (.ifCond .ne 7, 3) := by decide +kernel
theorem dX1_make_27 : decode cX1_make 27 = .ok (.iconst 1, 1) := by decide +kernel
theorem dX1_make_28 : decode cX1_make 28 = .ok (.goto 4, 3) := by decide +kernel
theorem dX1_make_31 : decode cX1_make 31 = .ok (.iconst 0, 1) := by decide +kernel
theorem dX1_make_32 : decode cX1_make 32 = .ok (.istore_n 3, 1) := by decide +kernel
theorem dX1_make_33 : decode cX1_make 33 = .ok (.aload_n 0, 1) := by decide +kernel
theorem dX1_make_34 : decode cX1_make 34 = .ok (.getfield 12, 3) := by decide +kernel
theorem dX1_make_37 : decode cX1_make 37 = .ok (.aload_n 1, 1) := by decide +kernel
theorem dX1_make_38 : decode cX1_make 38 = .ok (.iconst 0, 1) := by decide +kernel
theorem dX1_make_39 : decode cX1_make 39 = .ok (.invokevirtual 44, 3) := by decide +kernel
theorem dX1_make_42 : decode cX1_make 42 = .ok (.aload_n 0, 1) := by decide +kernel
theorem dX1_make_43 : decode cX1_make 43 = .ok (.getfield 12, 3) := by decide +kernel
theorem dX1_make_46 : decode cX1_make 46 = .ok (.aload_n 0, 1) := by decide +kernel
theorem dX1_make_47 : decode cX1_make 47 = .ok (.getfield 21, 3) := by decide +kernel
theorem dX1_make_50 : decode cX1_make 50 = .ok (.invokevirtual 48, 3) := by decide +kernel
theorem dX1_make_53 : decode cX1_make 53 = .ok (.invokevirtual 52, 3) := by decide +kernel
theorem dX1_make_56 : decode cX1_make 56 = .ok (.iload_n 3, 1) := by decide +kernel
theorem dX1_make_57 : decode cX1_make 57 = .ok (.ifCond .eq 7, 3) := by decide +kernel
theorem dX1_make_60 : decode cX1_make 60 = .ok (.aload_n 0, 1) := by decide +kernel
theorem dX1_make_61 : decode cX1_make 61 = .ok (.invokevirtual 56, 3) := by decide +kernel
theorem dX1_make_64 : decode cX1_make 64 = .ok (.iconst 0, 1) := by decide +kernel
theorem dX1_make_65 : decode cX1_make 65 = .ok (.istore 4, 2) := by decide +kernel
theorem dX1_make_67 : decode cX1_make 67 = .ok (.iload 4, 2) := by decide +kernel
theorem dX1_make_69 : decode cX1_make 69 = .ok (.iload_n 2, 1) := by decide +kernel
theorem dX1_make_70 : decode cX1_make 70 = .ok (.if_icmp .ge 84, 3) := by decide +kernel
theorem dX1_make_73 : decode cX1_make 73 = .ok (.aload_n 0, 1) := by decide +kernel
theorem dX1_make_74 : decode cX1_make 74 = .ok (.getfield 25, 3) := by decide +kernel
theorem dX1_make_77 : decode cX1_make 77 = .ok (.invokevirtual 59, 3) := by decide +kernel
theorem dX1_make_80 : decode cX1_make 80 = .ok (.ifCond .eq 74, 3) := by decide +kernel
theorem dX1_make_83 : decode cX1_make 83 = .ok (.aload_n 0, 1) := by decide +kernel
theorem dX1_make_84 : decode cX1_make 84 = .ok (.invokevirtual 64, 3) := by decide +kernel
theorem dX1_make_87 : decode cX1_make 87 = .ok (.iload 4, 2) := by decide +kernel
theorem dX1_make_89 : decode cX1_make 89 = .ok (.iconst 1, 1) := by decide +kernel
theorem dX1_make_90 : decode cX1_make 90 = .ok (.iadd, 1) := by decide +kernel
theorem dX1_make_91 : decode cX1_make 91 = .ok (.iload_n 2, 1) := by decide +kernel
theorem dX1_make_92 : decode cX1_make 92 = .ok (.if_icmp .lt 10, 3) := by decide +kernel
theorem dX1_make_95 : decode cX1_make 95 = .ok (.aload_n 1, 1) := by decide +kernel
theorem dX1_make_96 : decode cX1_make 96 = .ok (.invokevirtual 41, 3) := by decide +kernel
theorem dX1_make_99 : decode cX1_make 99 = .ok (.ifCond .eq 49, 3) := by decide +kernel
theorem dX1_make_102 : decode cX1_make 102 = .ok (.aload_n 0, 1) := by decide +kernel
theorem dX1_make_103 : decode cX1_make 103 = .ok (.getfield 18, 3) := by decide +kernel
theorem dX1_make_106 : decode cX1_make 106 = .ok (.aload_n 1, 1) := by decide +kernel
theorem dX1_make_107 : decode cX1_make 107 = .ok (.iload 4, 2) := by decide +kernel
theorem dX1_make_109 : decode cX1_make 109 = .ok (.iconst 1, 1) := by decide +kernel
theorem dX1_make_110 : decode cX1_make 110 = .ok (.iadd, 1) := by decide +kernel
theorem dX1_make_111 : decode cX1_make 111 = .ok (.iload_n 2, 1) := by decide +kernel
theorem dX1_make_112 : decode cX1_make 112 = .ok (.if_icmp .ge 10, 3) := by decide +kernel
theorem dX1_make_115 : decode cX1_make 115 = .ok (.iload 4, 2) := by decide +kernel
theorem dX1_make_117 : decode cX1_make 117 = .ok (.iconst 1, 1) := by decide +kernel
theorem dX1_make_118 : decode cX1_make 118 = .ok (.iadd, 1) := by decide +kernel
theorem dX1_make_119 : decode cX1_make 119 = .ok (.goto 4, 3) := by decide +kernel
theorem dX1_make_122 : decode cX1_make 122 = .ok (.iconst 0, 1) := by decide +kernel
theorem dX1_make_123 : decode cX1_make 123 = .ok (.invokevirtual 44, 3) := by decide +kernel
theorem dX1_make_126 : decode cX1_make 126 = .ok (.aload_n 0, 1) := by decide +kernel
theorem dX1_make_127 : decode cX1_make 127 = .ok (.getfield 18, 3) := by decide +kernel
theorem dX1_make_130 : decode cX1_make 130 = .ok (.aload_n 0, 1) := by decide +kernel
theorem dX1_make_131 : decode cX1_make 131 = .ok (.getfield 21, 3) := by decide +kernel
theorem dX1_make_134 : decode cX1_make 134 = .ok (.invokevirtual 48, 3) := by decide +kernel
theorem dX1_make_137 : decode cX1_make 137 = .ok (.invokevirtual 52, 3) := by decide +kernel
theorem dX1_make_140 : decode cX1_make 140 = .ok (.aload_n 0, 1) := by decide +kernel
theorem dX1_make_141 : decode cX1_make 141 = .ok (.invokevirtual 67, 3) := by decide +kernel
theorem dX1_make_144 : decode cX1_make 144 = .ok (.aload_n 0, 1) := by decide +kernel
theorem dX1_make_145 : decode cX1_make 145 = .ok (.invokevirtual 70, 3) := by decide +kernel
theorem dX1_make_148 : decode cX1_make 148 = .ok (.iinc 4 1, 3) := by decide +kernel
theorem dX1_make_151 : decode cX1_make 151 = .ok (.goto (-84), 3) := by decide +kernel
theorem dX1_make_154 : decode cX1_make 154 = .ok (.iload_n 3, 1) := by decide +kernel
theorem dX1_make_155 : decode cX1_make 155 = .ok (.ifCond .eq 7, 3) := by decide +kernel
theorem dX1_make_158 : decode cX1_make 158 = .ok (.aload_n 0, 1) := by decide +kernel
theorem dX1_make_159 : decode cX1_make 159 = .ok (.invokevirtual 73, 3) := by decide +kernel
theorem dX1_make_162 : decode cX1_make 162 = .ok (.return_, 1) := by decide +kernel
theorem dX1_side_0 : decode cX1_side 0 = .ok (.aload_n 0, 1) := by decide +kernel
theorem dX1_side_1 : decode cX1_side 1 = .ok (.getfield 25, 3) := by decide +kernel
theorem dX1_side_4 : decode cX1_side 4 = .ok (.iconst 0, 1) := by decide +kernel
theorem dX1_side_5 : decode cX1_side 5 = .ok (.invokevirtual 76, 3) := by decide +kernel
theorem dX1_side_8 : decode cX1_side 8 = .ok (.aload_n 0, 1) := by decide +kernel
theorem dX1_side_9 : decode cX1_side 9 = .ok (.getfield 25, 3) := by decide +kernel
theorem dX1_side_12 : decode cX1_side 12 = .ok (.aload_n 0, 1) := by decide +kernel
theorem dX1_side_13 : decode cX1_side 13 = .ok (.getfield 12, 3) := by decide +kernel
theorem dX1_side_16 : decode cX1_side 16 = .ok (.getfield 80, 3) := by decide +kernel
theorem dX1_side_19 : decode cX1_side 19 = .ok (.aload_n 0, 1) := by decide +kernel
theorem dX1_side_20 : decode cX1_side 20 = .ok (.getfield 12, 3) := by decide +kernel
theorem dX1_side_23 : decode cX1_side 23 = .ok (.getfield 84, 3) := by decide +kernel
theorem dX1_side_26 : decode cX1_side 26 = .ok (.ladd, 1) := by decide +kernel
theorem dX1_side_27 : decode cX1_side 27 = .ok (.aload_n 0, 1) := by decide +kernel
theorem dX1_side_28 : decode cX1_side 28 = .ok (.getfield 12, 3) := by decide +kernel
theorem dX1_side_31 : decode cX1_side 31 = .ok (.getfield 87, 3) := by decide +kernel
theorem dX1_side_34 : decode cX1_side 34 = .ok (.aload_n 0, 1) := by decide +kernel
theorem dX1_side_35 : decode cX1_side 35 = .ok (.getfield 12, 3) := by decide +kernel
theorem dX1_side_38 : decode cX1_side 38 = .ok (.getfield 90, 3) := by decide +kernel
theorem dX1_side_41 : decode cX1_side 41 = .ok (.ladd, 1) := by decide +kernel
theorem dX1_side_42 : decode cX1_side 42 = .ok (.invokevirtual 93, 3) := by decide +kernel
theorem dX1_side_45 : decode cX1_side 45 = .ok (.aload_n 0, 1) := by decide +kernel
theorem dX1_side_46 : decode cX1_side 46 = .ok (.getfield 25, 3) := by decide +kernel
theorem dX1_side_49 : decode cX1_side 49 = .ok (.aload_n 0, 1) := by decide +kernel
theorem dX1_side_50 : decode cX1_side 50 = .ok (.getfield 12, 3) := by decide +kernel
theorem dX1_side_53 : decode cX1_side 53 = .ok (.getfield 97, 3) := by decide +kernel
theorem dX1_side_56 : decode cX1_side 56 = .ok (.aload_n 0, 1) := by decide +kernel
theorem dX1_side_57 : decode cX1_side 57 = .ok (.getfield 12, 3) := by decide +kernel
theorem dX1_side_60 : decode cX1_side 60 = .ok (.getfield 84, 3) := by decide +kernel
theorem dX1_side_63 : decode cX1_side 63 = .ok (.ladd, 1) := by decide +kernel
theorem dX1_side_64 : decode cX1_side 64 = .ok (.aload_n 0, 1) := by decide +kernel
theorem dX1_side_65 : decode cX1_side 65 = .ok (.getfield 12, 3) := by decide +kernel
end
section
theorem dX1_side_68 : decode cX1_side 68 = .ok (.getfield 100, 3) := by decide +kernel
theorem dX1_side_71 : decode cX1_side 71 = .ok (.aload_n 0, 1) := by decide +kernel
theorem dX1_side_72 : decode cX1_side 72 = .ok (.getfield 12, 3) := by decide +kernel
theorem dX1_side_75 : decode cX1_side 75 = .ok (.getfield 90, 3) := by decide +kernel
theorem dX1_side_78 : decode cX1_side 78 = .ok (.ladd, 1) := by decide +kernel
theorem dX1_side_79 : decode cX1_side 79 = .ok (.invokevirtual 93, 3) := by decide +kernel
theorem dX1_side_82 : decode cX1_side 82 = .ok (.aload_n 0, 1) := by decide +kernel
theorem dX1_side_83 : decode cX1_side 83 = .ok (.getfield 25, 3) := by decide +kernel
theorem dX1_side_86 : decode cX1_side 86 = .ok (.aload_n 0, 1) := by decide +kernel
theorem dX1_side_87 : decode cX1_side 87 = .ok (.getfield 12, 3) := by decide +kernel
theorem dX1_side_90 : decode cX1_side 90 = .ok (.getfield 97, 3) := by decide +kernel
theorem dX1_side_93 : decode cX1_side 93 = .ok (.aload_n 0, 1) := by decide +kernel
theorem dX1_side_94 : decode cX1_side 94 = .ok (.getfield 12, 3) := by decide +kernel
theorem dX1_side_97 : decode cX1_side 97 = .ok (.getfield 84, 3) := by decide +kernel
theorem dX1_side_100 : decode cX1_side 100 = .ok (.lsub, 1) := by decide +kernel
theorem dX1_side_101 : decode cX1_side 101 = .ok (.aload_n 0, 1) := by decide +kernel
theorem dX1_side_102 : decode cX1_side 102 = .ok (.getfield 12, 3) := by decide +kernel
theorem dX1_side_105 : decode cX1_side 105 = .ok (.getfield 100, 3) := by decide +kernel
theorem dX1_side_108 : decode cX1_side 108 = .ok (.aload_n 0, 1) := by decide +kernel
theorem dX1_side_109 : decode cX1_side 109 = .ok (.getfield 12, 3) := by decide +kernel
theorem dX1_side_112 : decode cX1_side 112 = .ok (.getfield 90, 3) := by decide +kernel
theorem dX1_side_115 : decode cX1_side 115 = .ok (.lsub, 1) := by decide +kernel
theorem dX1_side_116 : decode cX1_side 116 = .ok (.invokevirtual 93, 3) := by decide +kernel
theorem dX1_side_119 : decode cX1_side 119 = .ok (.aload_n 0, 1) := by decide +kernel
theorem dX1_side_120 : decode cX1_side 120 = .ok (.getfield 25, 3) := by decide +kernel
theorem dX1_side_123 : decode cX1_side 123 = .ok (.aload_n 0, 1) := by decide +kernel
theorem dX1_side_124 : decode cX1_side 124 = .ok (.getfield 12, 3) := by decide +kernel
theorem dX1_side_127 : decode cX1_side 127 = .ok (.getfield 80, 3) := by decide +kernel
theorem dX1_side_130 : decode cX1_side 130 = .ok (.aload_n 0, 1) := by decide +kernel
theorem dX1_side_131 : decode cX1_side 131 = .ok (.getfield 12, 3) := by decide +kernel
theorem dX1_side_134 : decode cX1_side 134 = .ok (.getfield 84, 3) := by decide +kernel
theorem dX1_side_137 : decode cX1_side 137 = .ok (.lsub, 1) := by decide +kernel
theorem dX1_side_138 : decode cX1_side 138 = .ok (.aload_n 0, 1) := by decide +kernel
theorem dX1_side_139 : decode cX1_side 139 = .ok (.getfield 12, 3) := by decide +kernel
theorem dX1_side_142 : decode cX1_side 142 = .ok (.getfield 87, 3) := by decide +kernel
theorem dX1_side_145 : decode cX1_side 145 = .ok (.aload_n 0, 1) := by decide +kernel
theorem dX1_side_146 : decode cX1_side 146 = .ok (.getfield 12, 3) := by decide +kernel
theorem dX1_side_149 : decode cX1_side 149 = .ok (.getfield 90, 3) := by decide +kernel
theorem dX1_side_152 : decode cX1_side 152 = .ok (.lsub, 1) := by decide +kernel
theorem dX1_side_153 : decode cX1_side 153 = .ok (.invokevirtual 93, 3) := by decide +kernel
theorem dX1_side_156 : decode cX1_side 156 = .ok (.return_, 1) := by decide +kernel
theorem dX2_behind_0 : decode cX2_behind 0 = .ok (.iload_n 1, 1) := by decide +kernel
theorem dX2_behind_1 : decode cX2_behind 1 = .ok (.iconst 1, 1) := by decide +kernel
theorem dX2_behind_2 : decode cX2_behind 2 = .ok (.iadd, 1) := by decide +kernel
theorem dX2_behind_3 : decode cX2_behind 3 = .ok (.aload_n 0, 1) := by decide +kernel
theorem dX2_behind_4 : decode cX2_behind 4 = .ok (.getfield 22, 3) := by decide +kernel
theorem dX2_behind_7 : decode cX2_behind 7 = .ok (.if_icmp .ge 9, 3) := by decide +kernel
theorem dX2_behind_10 : decode cX2_behind 10 = .ok (.iload_n 1, 1) := by decide +kernel
theorem dX2_behind_11 : decode cX2_behind 11 = .ok (.iconst 1, 1) := by decide +kernel
theorem dX2_behind_12 : decode cX2_behind 12 = .ok (.iadd, 1) := by decide +kernel
theorem dX2_behind_13 : decode cX2_behind 13 = .ok (.goto 4, 3) := by decide +kernel
theorem dX2_behind_16 : decode cX2_behind 16 = .ok (.iconst 0, 1) := by decide +kernel
theorem dX2_behind_17 : decode cX2_behind 17 = .ok (.ireturn, 1) := by decide +kernel
theorem dX2_firstAt_0 : decode cX2_firstAt 0 = .ok (.aload_n 0, 1) := by decide +kernel
theorem dX2_firstAt_1 : decode cX2_firstAt 1 = .ok (.getfield 30, 3) := by decide +kernel
theorem dX2_firstAt_4 : decode cX2_firstAt 4 = .ok (.ireturn, 1) := by decide +kernel
theorem dX2_firstGap_0 : decode cX2_firstGap 0 = .ok (.aload_n 0, 1) := by decide +kernel
theorem dX2_firstGap_1 : decode cX2_firstGap 1 = .ok (.getfield 37, 3) := by decide +kernel
theorem dX2_firstGap_4 : decode cX2_firstGap 4 = .ok (.ireturn, 1) := by decide +kernel
theorem dX2_firstLeft_0 : decode cX2_firstLeft 0 = .ok (.aload_n 0, 1) := by decide +kernel
theorem dX2_firstLeft_1 : decode cX2_firstLeft 1 = .ok (.getfield 33, 3) := by decide +kernel
theorem dX2_firstLeft_4 : decode cX2_firstLeft 4 = .ok (.lreturn, 1) := by decide +kernel
theorem dX2_give_0 : decode cX2_give 0 = .ok (.iload_n 1, 1) := by decide +kernel
theorem dX2_give_1 : decode cX2_give 1 = .ok (.ifCond .lt 16, 3) := by decide +kernel
theorem dX2_give_4 : decode cX2_give 4 = .ok (.iload_n 1, 1) := by decide +kernel
theorem dX2_give_5 : decode cX2_give 5 = .ok (.bipush 8, 2) := by decide +kernel
theorem dX2_give_7 : decode cX2_give 7 = .ok (.if_icmp .ge 10, 3) := by decide +kernel
theorem dX2_give_10 : decode cX2_give 10 = .ok (.iload_n 2, 1) := by decide +kernel
theorem dX2_give_11 : decode cX2_give 11 = .ok (.invokestatic 18, 3) := by decide +kernel
theorem dX2_give_14 : decode cX2_give 14 = .ok (.ifCond .ne 5, 3) := by decide +kernel
theorem dX2_give_17 : decode cX2_give 17 = .ok (.iconst 0, 1) := by decide +kernel
theorem dX2_give_18 : decode cX2_give 18 = .ok (.ireturn, 1) := by decide +kernel
theorem dX2_give_19 : decode cX2_give 19 = .ok (.aload_n 0, 1) := by decide +kernel
theorem dX2_give_20 : decode cX2_give 20 = .ok (.getfield 9, 3) := by decide +kernel
theorem dX2_give_23 : decode cX2_give 23 = .ok (.iload_n 1, 1) := by decide +kernel
theorem dX2_give_24 : decode cX2_give 24 = .ok (.iload_n 2, 1) := by decide +kernel
theorem dX2_give_25 : decode cX2_give 25 = .ok (.iastore, 1) := by decide +kernel
theorem dX2_give_26 : decode cX2_give 26 = .ok (.iconst 1, 1) := by decide +kernel
theorem dX2_give_27 : decode cX2_give 27 = .ok (.ireturn, 1) := by decide +kernel
theorem dX2_init_0 : decode cX2_init 0 = .ok (.aload_n 0, 1) := by decide +kernel
theorem dX2_init_1 : decode cX2_init 1 = .ok (.invokespecial 3, 3) := by decide +kernel
theorem dX2_init_4 : decode cX2_init 4 = .ok (.aload_n 0, 1) := by decide +kernel
theorem dX2_init_5 : decode cX2_init 5 = .ok (.bipush 8, 2) := by decide +kernel
theorem dX2_init_7 : decode cX2_init 7 = .ok (.newarray .int, 2) := by decide +kernel
theorem dX2_init_9 : decode cX2_init 9 = .ok (.putfield 9, 3) := by decide +kernel
theorem dX2_init_12 : decode cX2_init 12 = .ok (.aload_n 0, 1) := by decide +kernel
theorem dX2_init_13 : decode cX2_init 13 = .ok (.bipush 8, 2) := by decide +kernel
theorem dX2_init_15 : decode cX2_init 15 = .ok (.newarray .int, 2) := by decide +kernel
theorem dX2_init_17 : decode cX2_init 17 = .ok (.putfield 15, 3) := by decide +kernel
theorem dX2_init_20 : decode cX2_init 20 = .ok (.return_, 1) := by decide +kernel
theorem dX2_isUsed_0 : decode cX2_isUsed 0 = .ok (.aload_n 0, 1) := by decide +kernel
theorem dX2_isUsed_1 : decode cX2_isUsed 1 = .ok (.getfield 22, 3) := by decide +kernel
theorem dX2_isUsed_4 : decode cX2_isUsed 4 = .ok (.ifCond .le 7, 3) := by decide +kernel
theorem dX2_isUsed_7 : decode cX2_isUsed 7 = .ok (.iconst 1, 1) := by decide +kernel
theorem dX2_isUsed_8 : decode cX2_isUsed 8 = .ok (.goto 4, 3) := by decide +kernel
theorem dX2_isUsed_11 : decode cX2_isUsed 11 = .ok (.iconst 0, 1) := by decide +kernel
theorem dX2_isUsed_12 : decode cX2_isUsed 12 = .ok (.ireturn, 1) := by decide +kernel
theorem dX2_lengthOf_0 : decode cX2_lengthOf 0 = .ok (.iload_n 1, 1) := by decide +kernel
theorem dX2_lengthOf_1 : decode cX2_lengthOf 1 = .ok (.ifCond .lt 19, 3) := by decide +kernel
theorem dX2_lengthOf_4 : decode cX2_lengthOf 4 = .ok (.iload_n 1, 1) := by decide +kernel
theorem dX2_lengthOf_5 : decode cX2_lengthOf 5 = .ok (.bipush 8, 2) := by decide +kernel
theorem dX2_lengthOf_7 : decode cX2_lengthOf 7 = .ok (.if_icmp .ge 13, 3) := by decide +kernel
theorem dX2_lengthOf_10 : decode cX2_lengthOf 10 = .ok (.aload_n 0, 1) := by decide +kernel
theorem dX2_lengthOf_11 : decode cX2_lengthOf 11 = .ok (.getfield 15, 3) := by decide +kernel
theorem dX2_lengthOf_14 : decode cX2_lengthOf 14 = .ok (.iload_n 1, 1) := by decide +kernel
theorem dX2_lengthOf_15 : decode cX2_lengthOf 15 = .ok (.iaload, 1) := by decide +kernel
theorem dX2_lengthOf_16 : decode cX2_lengthOf 16 = .ok (.i2l, 1) := by decide +kernel
theorem dX2_lengthOf_17 : decode cX2_lengthOf 17 = .ok (.goto 4, 3) := by decide +kernel
theorem dX2_lengthOf_20 : decode cX2_lengthOf 20 = .ok (.lconst 0, 1) := by decide +kernel
theorem dX2_lengthOf_21 : decode cX2_lengthOf 21 = .ok (.lreturn, 1) := by decide +kernel
theorem dX2_passOffset_0 : decode cX2_passOffset 0 = .ok (.lload_n 2, 1) := by decide +kernel
theorem dX2_passOffset_1 : decode cX2_passOffset 1 = .ok (.lconst 0, 1) := by decide +kernel
theorem dX2_passOffset_2 : decode cX2_passOffset 2 = .ok (.lcmp, 1) := by decide +kernel
theorem dX2_passOffset_3 : decode cX2_passOffset 3 = .ok (.ifCond .gt 4, 3) := by decide +kernel
theorem dX2_passOffset_6 : decode cX2_passOffset 6 = .ok (.return_, 1) := by decide +kernel
theorem dX2_passOffset_7 : decode cX2_passOffset 7 = .ok (.iload_n 1, 1) := by decide +kernel
theorem dX2_passOffset_8 : decode cX2_passOffset 8 = .ok (.i2l, 1) := by decide +kernel
theorem dX2_passOffset_9 : decode cX2_passOffset 9 = .ok (.lload_n 2, 1) := by decide +kernel
theorem dX2_passOffset_10 : decode cX2_passOffset 10 = .ok (.ldiv, 1) := by decide +kernel
theorem dX2_passOffset_11 : decode cX2_passOffset 11 = .ok (.lstore 4, 2) := by decide +kernel
theorem dX2_passOffset_13 : decode cX2_passOffset 13 = .ok (.iload_n 1, 1) := by decide +kernel
theorem dX2_passOffset_14 : decode cX2_passOffset 14 = .ok (.i2l, 1) := by decide +kernel
theorem dX2_passOffset_15 : decode cX2_passOffset 15 = .ok (.lload 4, 2) := by decide +kernel
theorem dX2_passOffset_17 : decode cX2_passOffset 17 = .ok (.lload_n 2, 1) := by decide +kernel
theorem dX2_passOffset_18 : decode cX2_passOffset 18 = .ok (.lmul, 1) := by decide +kernel
theorem dX2_passOffset_19 : decode cX2_passOffset 19 = .ok (.lsub, 1) := by decide +kernel
theorem dX2_passOffset_20 : decode cX2_passOffset 20 = .ok (.lstore 6, 2) := by decide +kernel
theorem dX2_passOffset_22 : decode cX2_passOffset 22 = .ok (.iconst 0, 1) := by decide +kernel
theorem dX2_passOffset_23 : decode cX2_passOffset 23 = .ok (.istore 8, 2) := by decide +kernel
theorem dX2_passOffset_25 : decode cX2_passOffset 25 = .ok (.iload 8, 2) := by decide +kernel
theorem dX2_passOffset_27 : decode cX2_passOffset 27 = .ok (.aload_n 0, 1) := by decide +kernel
theorem dX2_passOffset_28 : decode cX2_passOffset 28 = .ok (.getfield 22, 3) := by decide +kernel
theorem dX2_passOffset_31 : decode cX2_passOffset 31 = .ok (.iconst 1, 1) := by decide +kernel
theorem dX2_passOffset_32 : decode cX2_passOffset 32 = .ok (.isub, 1) := by decide +kernel
theorem dX2_passOffset_33 : decode cX2_passOffset 33 = .ok (.if_icmp .ge 43, 3) := by decide +kernel
theorem dX2_passOffset_36 : decode cX2_passOffset 36 = .ok (.iload 8, 2) := by decide +kernel
theorem dX2_passOffset_38 : decode cX2_passOffset 38 = .ok (.bipush 7, 2) := by decide +kernel
theorem dX2_passOffset_40 : decode cX2_passOffset 40 = .ok (.if_icmp .ge 36, 3) := by decide +kernel
theorem dX2_passOffset_43 : decode cX2_passOffset 43 = .ok (.aload_n 0, 1) := by decide +kernel
theorem dX2_passOffset_44 : decode cX2_passOffset 44 = .ok (.getfield 15, 3) := by decide +kernel
theorem dX2_passOffset_47 : decode cX2_passOffset 47 = .ok (.iload 8, 2) := by decide +kernel
theorem dX2_passOffset_49 : decode cX2_passOffset 49 = .ok (.iaload, 1) := by decide +kernel
theorem dX2_passOffset_50 : decode cX2_passOffset 50 = .ok (.i2l, 1) := by decide +kernel
theorem dX2_passOffset_51 : decode cX2_passOffset 51 = .ok (.lload 6, 2) := by decide +kernel
theorem dX2_passOffset_53 : decode cX2_passOffset 53 = .ok (.lcmp, 1) := by decide +kernel
theorem dX2_passOffset_54 : decode cX2_passOffset 54 = .ok (.ifCond .gt 22, 3) := by decide +kernel
theorem dX2_passOffset_57 : decode cX2_passOffset 57 = .ok (.lload 6, 2) := by decide +kernel
theorem dX2_passOffset_59 : decode cX2_passOffset 59 = .ok (.aload_n 0, 1) := by decide +kernel
theorem dX2_passOffset_60 : decode cX2_passOffset 60 = .ok (.getfield 15, 3) := by decide +kernel
theorem dX2_passOffset_63 : decode cX2_passOffset 63 = .ok (.iload 8, 2) := by decide +kernel
theorem dX2_passOffset_65 : decode cX2_passOffset 65 = .ok (.iaload, 1) := by decide +kernel
theorem dX2_passOffset_66 : decode cX2_passOffset 66 = .ok (.i2l, 1) := by decide +kernel
theorem dX2_passOffset_67 : decode cX2_passOffset 67 = .ok (.lsub, 1) := by decide +kernel
theorem dX2_passOffset_68 : decode cX2_passOffset 68 = .ok (.lstore 6, 2) := by decide +kernel
theorem dX2_passOffset_70 : decode cX2_passOffset 70 = .ok (.iinc 8 1, 3) := by decide +kernel
theorem dX2_passOffset_73 : decode cX2_passOffset 73 = .ok (.goto (-48), 3) := by decide +kernel
theorem dX2_passOffset_76 : decode cX2_passOffset 76 = .ok (.aload_n 0, 1) := by decide +kernel
theorem dX2_passOffset_77 : decode cX2_passOffset 77 = .ok (.iload 8, 2) := by decide +kernel
theorem dX2_passOffset_79 : decode cX2_passOffset 79 = .ok (.putfield 30, 3) := by decide +kernel
theorem dX2_passOffset_82 : decode cX2_passOffset 82 = .ok (.aload_n 0, 1) := by decide +kernel
theorem dX2_passOffset_83 : decode cX2_passOffset 83 = .ok (.aload_n 0, 1) := by decide +kernel
theorem dX2_passOffset_84 : decode cX2_passOffset 84 = .ok (.getfield 15, 3) := by decide +kernel
theorem dX2_passOffset_87 : decode cX2_passOffset 87 = .ok (.iload 8, 2) := by decide +kernel
theorem dX2_passOffset_89 : decode cX2_passOffset 89 = .ok (.iaload, 1) := by decide +kernel
theorem dX2_passOffset_90 : decode cX2_passOffset 90 = .ok (.i2l, 1) := by decide +kernel
theorem dX2_passOffset_91 : decode cX2_passOffset 91 = .ok (.lload 6, 2) := by decide +kernel
theorem dX2_passOffset_93 : decode cX2_passOffset 93 = .ok (.lsub, 1) := by decide +kernel
theorem dX2_passOffset_94 : decode cX2_passOffset 94 = .ok (.putfield 33, 3) := by decide +kernel
theorem dX2_passOffset_97 : decode cX2_passOffset 97 = .ok (.aload_n 0, 1) := by decide +kernel
theorem dX2_passOffset_98 : decode cX2_passOffset 98 = .ok (.lload 4, 2) := by decide +kernel
theorem dX2_passOffset_100 : decode cX2_passOffset 100 = .ok (.aload_n 0, 1) := by decide +kernel
theorem dX2_passOffset_101 : decode cX2_passOffset 101 = .ok (.getfield 22, 3) := by decide +kernel
theorem dX2_passOffset_104 : decode cX2_passOffset 104 = .ok (.i2l, 1) := by decide +kernel
theorem dX2_passOffset_105 : decode cX2_passOffset 105 = .ok (.lmul, 1) := by decide +kernel
theorem dX2_passOffset_106 : decode cX2_passOffset 106 = .ok (.iload 8, 2) := by decide +kernel
theorem dX2_passOffset_108 : decode cX2_passOffset 108 = .ok (.i2l, 1) := by decide +kernel
theorem dX2_passOffset_109 : decode cX2_passOffset 109 = .ok (.ladd, 1) := by decide +kernel
theorem dX2_passOffset_110 : decode cX2_passOffset 110 = .ok (.lconst 1, 1) := by decide +kernel
theorem dX2_passOffset_111 : decode cX2_passOffset 111 = .ok (.land, 1) := by decide +kernel
theorem dX2_passOffset_112 : decode cX2_passOffset 112 = .ok (.lconst 1, 1) := by decide +kernel
theorem dX2_passOffset_113 : decode cX2_passOffset 113 = .ok (.lcmp, 1) := by decide +kernel
theorem dX2_passOffset_114 : decode cX2_passOffset 114 = .ok (.ifCond .ne 7, 3) := by decide +kernel
theorem dX2_passOffset_117 : decode cX2_passOffset 117 = .ok (.iconst 1, 1) := by decide +kernel
theorem dX2_passOffset_118 : decode cX2_passOffset 118 = .ok (.goto 4, 3) := by decide +kernel
theorem dX2_passOffset_121 : decode cX2_passOffset 121 = .ok (.iconst 0, 1) := by decide +kernel
theorem dX2_passOffset_122 : decode cX2_passOffset 122 = .ok (.putfield 37, 3) := by decide +kernel
theorem dX2_passOffset_125 : decode cX2_passOffset 125 = .ok (.return_, 1) := by decide +kernel
theorem dX2_use_0 : decode cX2_use 0 = .ok (.iload_n 1, 1) := by decide +kernel
theorem dX2_use_1 : decode cX2_use 1 = .ok (.ifCond .lt 16, 3) := by decide +kernel
theorem dX2_use_4 : decode cX2_use 4 = .ok (.iload_n 1, 1) := by decide +kernel
theorem dX2_use_5 : decode cX2_use 5 = .ok (.bipush 8, 2) := by decide +kernel
theorem dX2_use_7 : decode cX2_use 7 = .ok (.if_icmp .gt 10, 3) := by decide +kernel
theorem dX2_use_10 : decode cX2_use 10 = .ok (.iload_n 2, 1) := by decide +kernel
theorem dX2_use_11 : decode cX2_use 11 = .ok (.invokestatic 18, 3) := by decide +kernel
theorem dX2_use_14 : decode cX2_use 14 = .ok (.ifCond .ne 5, 3) := by decide +kernel
theorem dX2_use_17 : decode cX2_use 17 = .ok (.iconst 0, 1) := by decide +kernel
theorem dX2_use_18 : decode cX2_use 18 = .ok (.ireturn, 1) := by decide +kernel
theorem dX2_use_19 : decode cX2_use 19 = .ok (.lconst 0, 1) := by decide +kernel
theorem dX2_use_20 : decode cX2_use 20 = .ok (.lstore_n 3, 1) := by decide +kernel
theorem dX2_use_21 : decode cX2_use 21 = .ok (.iconst 0, 1) := by decide +kernel
theorem dX2_use_22 : decode cX2_use 22 = .ok (.istore 5, 2) := by decide +kernel
theorem dX2_use_24 : decode cX2_use 24 = .ok (.iload 5, 2) := by decide +kernel
theorem dX2_use_26 : decode cX2_use 26 = .ok (.iload_n 1, 1) := by decide +kernel
theorem dX2_use_27 : decode cX2_use 27 = .ok (.if_icmp .ge 20, 3) := by decide +kernel
theorem dX2_use_30 : decode cX2_use 30 = .ok (.lload_n 3, 1) := by decide +kernel
theorem dX2_use_31 : decode cX2_use 31 = .ok (.aload_n 0, 1) := by decide +kernel
theorem dX2_use_32 : decode cX2_use 32 = .ok (.getfield 9, 3) := by decide +kernel
theorem dX2_use_35 : decode cX2_use 35 = .ok (.iload 5, 2) := by decide +kernel
theorem dX2_use_37 : decode cX2_use 37 = .ok (.iaload, 1) := by decide +kernel
theorem dX2_use_38 : decode cX2_use 38 = .ok (.i2l, 1) := by decide +kernel
theorem dX2_use_39 : decode cX2_use 39 = .ok (.ladd, 1) := by decide +kernel
theorem dX2_use_40 : decode cX2_use 40 = .ok (.lstore_n 3, 1) := by decide +kernel
theorem dX2_use_41 : decode cX2_use 41 = .ok (.iinc 5 1, 3) := by decide +kernel
theorem dX2_use_44 : decode cX2_use 44 = .ok (.goto (-20), 3) := by decide +kernel
theorem dX2_use_47 : decode cX2_use 47 = .ok (.iload_n 1, 1) := by decide +kernel
theorem dX2_use_48 : decode cX2_use 48 = .ok (.ifCond .le 11, 3) := by decide +kernel
theorem dX2_use_51 : decode cX2_use 51 = .ok (.lload_n 3, 1) := by decide +kernel
theorem dX2_use_52 : decode cX2_use 52 = .ok (.lconst 0, 1) := by decide +kernel
theorem dX2_use_53 : decode cX2_use 53 = .ok (.lcmp, 1) := by decide +kernel
theorem dX2_use_54 : decode cX2_use 54 = .ok (.ifCond .ne 5, 3) := by decide +kernel
theorem dX2_use_57 : decode cX2_use 57 = .ok (.iconst 0, 1) := by decide +kernel
theorem dX2_use_58 : decode cX2_use 58 = .ok (.ireturn, 1) := by decide +kernel
theorem dX2_use_59 : decode cX2_use 59 = .ok (.aload_n 0, 1) := by decide +kernel
theorem dX2_use_60 : decode cX2_use 60 = .ok (.iload_n 1, 1) := by decide +kernel
theorem dX2_use_61 : decode cX2_use 61 = .ok (.putfield 22, 3) := by decide +kernel
theorem dX2_use_64 : decode cX2_use 64 = .ok (.iconst 0, 1) := by decide +kernel
theorem dX2_use_65 : decode cX2_use 65 = .ok (.istore 5, 2) := by decide +kernel
theorem dX2_use_67 : decode cX2_use 67 = .ok (.iload 5, 2) := by decide +kernel
theorem dX2_use_69 : decode cX2_use 69 = .ok (.iload_n 1, 1) := by decide +kernel
theorem dX2_use_70 : decode cX2_use 70 = .ok (.if_icmp .ge 23, 3) := by decide +kernel
theorem dX2_use_73 : decode cX2_use 73 = .ok (.aload_n 0, 1) := by decide +kernel
theorem dX2_use_74 : decode cX2_use 74 = .ok (.getfield 15, 3) := by decide +kernel
theorem dX2_use_77 : decode cX2_use 77 = .ok (.iload 5, 2) := by decide +kernel
theorem dX2_use_79 : decode cX2_use 79 = .ok (.aload_n 0, 1) := by decide +kernel
theorem dX2_use_80 : decode cX2_use 80 = .ok (.getfield 9, 3) := by decide +kernel
theorem dX2_use_83 : decode cX2_use 83 = .ok (.iload 5, 2) := by decide +kernel
theorem dX2_use_85 : decode cX2_use 85 = .ok (.iaload, 1) := by decide +kernel
theorem dX2_use_86 : decode cX2_use 86 = .ok (.iastore, 1) := by decide +kernel
theorem dX2_use_87 : decode cX2_use 87 = .ok (.iinc 5 1, 3) := by decide +kernel
theorem dX2_use_90 : decode cX2_use 90 = .ok (.goto (-23), 3) := by decide +kernel
theorem dX2_use_93 : decode cX2_use 93 = .ok (.aload_n 0, 1) := by decide +kernel
theorem dX2_use_94 : decode cX2_use 94 = .ok (.iload_n 2, 1) := by decide +kernel
theorem dX2_use_95 : decode cX2_use 95 = .ok (.lload_n 3, 1) := by decide +kernel
theorem dX2_use_96 : decode cX2_use 96 = .ok (.invokevirtual 26, 3) := by decide +kernel
theorem dX2_use_99 : decode cX2_use 99 = .ok (.iconst 1, 1) := by decide +kernel
theorem dX2_use_100 : decode cX2_use 100 = .ok (.ireturn, 1) := by decide +kernel
theorem dX3_add_0 : decode cX3_add 0 = .ok (.aload_n 0, 1) := by decide +kernel
theorem dX3_add_1 : decode cX3_add 1 = .ok (.getfield 18, 3) := by decide +kernel
theorem dX3_add_4 : decode cX3_add 4 = .ok (.ifCond .eq 4, 3) := by decide +kernel
theorem dX3_add_7 : decode cX3_add 7 = .ok (.return_, 1) := by decide +kernel
theorem dX3_add_8 : decode cX3_add 8 = .ok (.lload_n 1, 1) := by decide +kernel
theorem dX3_add_9 : decode cX3_add 9 = .ok (.invokestatic 32, 3) := by decide +kernel
theorem dX3_add_12 : decode cX3_add 12 = .ok (.ifCond .eq 10, 3) := by decide +kernel
theorem dX3_add_15 : decode cX3_add 15 = .ok (.lload_n 3, 1) := by decide +kernel
theorem dX3_add_16 : decode cX3_add 16 = .ok (.invokestatic 32, 3) := by decide +kernel
theorem dX3_add_19 : decode cX3_add 19 = .ok (.ifCond .ne 10, 3) := by decide +kernel
theorem dX3_add_22 : decode cX3_add 22 = .ok (.aload_n 0, 1) := by decide +kernel
theorem dX3_add_23 : decode cX3_add 23 = .ok (.bipush (-4), 2) := by decide +kernel
theorem dX3_add_25 : decode cX3_add 25 = .ok (.invokevirtual 28, 3) := by decide +kernel
theorem dX3_add_28 : decode cX3_add 28 = .ok (.return_, 1) := by decide +kernel
theorem dX3_add_29 : decode cX3_add 29 = .ok (.aload_n 0, 1) := by decide +kernel
theorem dX3_add_30 : decode cX3_add 30 = .ok (.getfield 22, 3) := by decide +kernel
theorem dX3_add_33 : decode cX3_add 33 = .ok (.iconst 1, 1) := by decide +kernel
theorem dX3_add_34 : decode cX3_add 34 = .ok (.isub, 1) := by decide +kernel
theorem dX3_add_35 : decode cX3_add 35 = .ok (.bipush 8, 2) := by decide +kernel
theorem dX3_add_37 : decode cX3_add 37 = .ok (.imul, 1) := by decide +kernel
theorem dX3_add_38 : decode cX3_add 38 = .ok (.iconst 2, 1) := by decide +kernel
theorem dX3_add_39 : decode cX3_add 39 = .ok (.aload_n 0, 1) := by decide +kernel
theorem dX3_add_40 : decode cX3_add 40 = .ok (.getfield 25, 3) := by decide +kernel
theorem dX3_add_43 : decode cX3_add 43 = .ok (.imul, 1) := by decide +kernel
theorem dX3_add_44 : decode cX3_add 44 = .ok (.iadd, 1) := by decide +kernel
theorem dX3_add_45 : decode cX3_add 45 = .ok (.istore 5, 2) := by decide +kernel
theorem dX3_add_47 : decode cX3_add 47 = .ok (.iload 5, 2) := by decide +kernel
theorem dX3_add_49 : decode cX3_add 49 = .ok (.ifCond .lt 23, 3) := by decide +kernel
theorem dX3_add_52 : decode cX3_add 52 = .ok (.iload 5, 2) := by decide +kernel
theorem dX3_add_54 : decode cX3_add 54 = .ok (.iconst 1, 1) := by decide +kernel
theorem dX3_add_55 : decode cX3_add 55 = .ok (.iadd, 1) := by decide +kernel
theorem dX3_add_56 : decode cX3_add 56 = .ok (.aload_n 0, 1) := by decide +kernel
theorem dX3_add_57 : decode cX3_add 57 = .ok (.getfield 15, 3) := by decide +kernel
theorem dX3_add_60 : decode cX3_add 60 = .ok (.arraylength, 1) := by decide +kernel
theorem dX3_add_61 : decode cX3_add 61 = .ok (.if_icmp .ge 11, 3) := by decide +kernel
theorem dX3_add_64 : decode cX3_add 64 = .ok (.aload_n 0, 1) := by decide +kernel
theorem dX3_add_65 : decode cX3_add 65 = .ok (.getfield 25, 3) := by decide +kernel
theorem dX3_add_68 : decode cX3_add 68 = .ok (.iconst 4, 1) := by decide +kernel
theorem dX3_add_69 : decode cX3_add 69 = .ok (.if_icmp .lt 4, 3) := by decide +kernel
theorem dX3_add_72 : decode cX3_add 72 = .ok (.return_, 1) := by decide +kernel
theorem dX3_add_73 : decode cX3_add 73 = .ok (.aload_n 0, 1) := by decide +kernel
theorem dX3_add_74 : decode cX3_add 74 = .ok (.getfield 15, 3) := by decide +kernel
theorem dX3_add_77 : decode cX3_add 77 = .ok (.iload 5, 2) := by decide +kernel
theorem dX3_add_79 : decode cX3_add 79 = .ok (.lload_n 1, 1) := by decide +kernel
theorem dX3_add_80 : decode cX3_add 80 = .ok (.l2i, 1) := by decide +kernel
theorem dX3_add_81 : decode cX3_add 81 = .ok (.iastore, 1) := by decide +kernel
theorem dX3_add_82 : decode cX3_add 82 = .ok (.aload_n 0, 1) := by decide +kernel
theorem dX3_add_83 : decode cX3_add 83 = .ok (.getfield 15, 3) := by decide +kernel
theorem dX3_add_86 : decode cX3_add 86 = .ok (.iload 5, 2) := by decide +kernel
theorem dX3_add_88 : decode cX3_add 88 = .ok (.iconst 1, 1) := by decide +kernel
theorem dX3_add_89 : decode cX3_add 89 = .ok (.iadd, 1) := by decide +kernel
theorem dX3_add_90 : decode cX3_add 90 = .ok (.lload_n 3, 1) := by decide +kernel
theorem dX3_add_91 : decode cX3_add 91 = .ok (.l2i, 1) := by decide +kernel
theorem dX3_add_92 : decode cX3_add 92 = .ok (.iastore, 1) := by decide +kernel
theorem dX3_add_93 : decode cX3_add 93 = .ok (.aload_n 0, 1) := by decide +kernel
theorem dX3_add_94 : decode cX3_add 94 = .ok (.dup, 1) := by decide +kernel
theorem dX3_add_95 : decode cX3_add 95 = .ok (.getfield 25, 3) := by decide +kernel
theorem dX3_add_98 : decode cX3_add 98 = .ok (.iconst 1, 1) := by decide +kernel
theorem dX3_add_99 : decode cX3_add 99 = .ok (.iadd, 1) := by decide +kernel
theorem dX3_add_100 : decode cX3_add 100 = .ok (.putfield 25, 3) := by decide +kernel
theorem dX3_add_103 : decode cX3_add 103 = .ok (.return_, 1) := by decide +kernel
theorem dX3_count_0 : decode cX3_count 0 = .ok (.aload_n 0, 1) := by decide +kernel
theorem dX3_count_1 : decode cX3_count 1 = .ok (.getfield 22, 3) := by decide +kernel
theorem dX3_count_4 : decode cX3_count 4 = .ok (.ireturn, 1) := by decide +kernel
theorem dX3_empty_0 : decode cX3_empty 0 = .ok (.aload_n 0, 1) := by decide +kernel
theorem dX3_empty_1 : decode cX3_empty 1 = .ok (.iconst 0, 1) := by decide +kernel
theorem dX3_empty_2 : decode cX3_empty 2 = .ok (.putfield 22, 3) := by decide +kernel
theorem dX3_empty_5 : decode cX3_empty 5 = .ok (.aload_n 0, 1) := by decide +kernel
theorem dX3_empty_6 : decode cX3_empty 6 = .ok (.iconst 0, 1) := by decide +kernel
theorem dX3_empty_7 : decode cX3_empty 7 = .ok (.putfield 25, 3) := by decide +kernel
theorem dX3_empty_10 : decode cX3_empty 10 = .ok (.aload_n 0, 1) := by decide +kernel
theorem dX3_empty_11 : decode cX3_empty 11 = .ok (.iconst 0, 1) := by decide +kernel
theorem dX3_empty_12 : decode cX3_empty 12 = .ok (.putfield 18, 3) := by decide +kernel
theorem dX3_empty_15 : decode cX3_empty 15 = .ok (.return_, 1) := by decide +kernel
theorem dX3_init_0 : decode cX3_init 0 = .ok (.aload_n 0, 1) := by decide +kernel
theorem dX3_init_1 : decode cX3_init 1 = .ok (.invokespecial 3, 3) := by decide +kernel
theorem dX3_init_4 : decode cX3_init 4 = .ok (.aload_n 0, 1) := by decide +kernel
theorem dX3_init_5 : decode cX3_init 5 = .ok (.sipush 2000, 3) := by decide +kernel
theorem dX3_init_8 : decode cX3_init 8 = .ok (.newarray .int, 2) := by decide +kernel
theorem dX3_init_10 : decode cX3_init 10 = .ok (.putfield 9, 3) := by decide +kernel
theorem dX3_init_13 : decode cX3_init 13 = .ok (.aload_n 0, 1) := by decide +kernel
theorem dX3_init_14 : decode cX3_init 14 = .ok (.sipush 16000, 3) := by decide +kernel
theorem dX3_init_17 : decode cX3_init 17 = .ok (.newarray .int, 2) := by decide +kernel
theorem dX3_init_19 : decode cX3_init 19 = .ok (.putfield 15, 3) := by decide +kernel
theorem dX3_init_22 : decode cX3_init 22 = .ok (.aload_n 0, 1) := by decide +kernel
theorem dX3_init_23 : decode cX3_init 23 = .ok (.iconst 0, 1) := by decide +kernel
theorem dX3_init_24 : decode cX3_init 24 = .ok (.putfield 18, 3) := by decide +kernel
theorem dX3_init_27 : decode cX3_init 27 = .ok (.return_, 1) := by decide +kernel
theorem dX3_isGoing_0 : decode cX3_isGoing 0 = .ok (.aload_n 0, 1) := by decide +kernel
theorem dX3_isGoing_1 : decode cX3_isGoing 1 = .ok (.getfield 18, 3) := by decide +kernel
theorem dX3_isGoing_4 : decode cX3_isGoing 4 = .ok (.ifCond .ne 7, 3) := by decide +kernel
theorem dX3_isGoing_7 : decode cX3_isGoing 7 = .ok (.iconst 1, 1) := by decide +kernel
theorem dX3_isGoing_8 : decode cX3_isGoing 8 = .ok (.goto 4, 3) := by decide +kernel
theorem dX3_isGoing_11 : decode cX3_isGoing 11 = .ok (.iconst 0, 1) := by decide +kernel
theorem dX3_isGoing_12 : decode cX3_isGoing 12 = .ok (.ireturn, 1) := by decide +kernel
theorem dX3_kindOf_0 : decode cX3_kindOf 0 = .ok (.iload_n 1, 1) := by decide +kernel
theorem dX3_kindOf_1 : decode cX3_kindOf 1 = .ok (.ifCond .lt 27, 3) := by decide +kernel
theorem dX3_kindOf_4 : decode cX3_kindOf 4 = .ok (.iload_n 1, 1) := by decide +kernel
theorem dX3_kindOf_5 : decode cX3_kindOf 5 = .ok (.aload_n 0, 1) := by decide +kernel
theorem dX3_kindOf_6 : decode cX3_kindOf 6 = .ok (.getfield 22, 3) := by decide +kernel
theorem dX3_kindOf_9 : decode cX3_kindOf 9 = .ok (.if_icmp .ge 19, 3) := by decide +kernel
theorem dX3_kindOf_12 : decode cX3_kindOf 12 = .ok (.iload_n 1, 1) := by decide +kernel
theorem dX3_kindOf_13 : decode cX3_kindOf 13 = .ok (.sipush 2000, 3) := by decide +kernel
theorem dX3_kindOf_16 : decode cX3_kindOf 16 = .ok (.if_icmp .ge 12, 3) := by decide +kernel
theorem dX3_kindOf_19 : decode cX3_kindOf 19 = .ok (.aload_n 0, 1) := by decide +kernel
theorem dX3_kindOf_20 : decode cX3_kindOf 20 = .ok (.getfield 9, 3) := by decide +kernel
theorem dX3_kindOf_23 : decode cX3_kindOf 23 = .ok (.iload_n 1, 1) := by decide +kernel
theorem dX3_kindOf_24 : decode cX3_kindOf 24 = .ok (.iaload, 1) := by decide +kernel
theorem dX3_kindOf_25 : decode cX3_kindOf 25 = .ok (.goto 4, 3) := by decide +kernel
theorem dX3_kindOf_28 : decode cX3_kindOf 28 = .ok (.iconst (-1), 1) := by decide +kernel
theorem dX3_kindOf_29 : decode cX3_kindOf 29 = .ok (.ireturn, 1) := by decide +kernel
theorem dX3_placeOf_0 : decode cX3_placeOf 0 = .ok (.aload_n 0, 1) := by decide +kernel
theorem dX3_placeOf_1 : decode cX3_placeOf 1 = .ok (.iload_n 1, 1) := by decide +kernel
theorem dX3_placeOf_2 : decode cX3_placeOf 2 = .ok (.invokevirtual 36, 3) := by decide +kernel
theorem dX3_placeOf_5 : decode cX3_placeOf 5 = .ok (.istore 4, 2) := by decide +kernel
theorem dX3_placeOf_7 : decode cX3_placeOf 7 = .ok (.iload 4, 2) := by decide +kernel
theorem dX3_placeOf_9 : decode cX3_placeOf 9 = .ok (.iconst (-1), 1) := by decide +kernel
theorem dX3_placeOf_10 : decode cX3_placeOf 10 = .ok (.if_icmp .eq 22, 3) := by decide +kernel
theorem dX3_placeOf_13 : decode cX3_placeOf 13 = .ok (.iload_n 2, 1) := by decide +kernel
theorem dX3_placeOf_14 : decode cX3_placeOf 14 = .ok (.ifCond .lt 18, 3) := by decide +kernel
theorem dX3_placeOf_17 : decode cX3_placeOf 17 = .ok (.iload_n 2, 1) := by decide +kernel
theorem dX3_placeOf_18 : decode cX3_placeOf 18 = .ok (.iload 4, 2) := by decide +kernel
theorem dX3_placeOf_20 : decode cX3_placeOf 20 = .ok (.iconst 1, 1) := by decide +kernel
theorem dX3_placeOf_21 : decode cX3_placeOf 21 = .ok (.if_icmp .ne 7, 3) := by decide +kernel
theorem dX3_placeOf_24 : decode cX3_placeOf 24 = .ok (.iconst 3, 1) := by decide +kernel
theorem dX3_placeOf_25 : decode cX3_placeOf 25 = .ok (.goto 4, 3) := by decide +kernel
theorem dX3_placeOf_28 : decode cX3_placeOf 28 = .ok (.iconst 4, 1) := by decide +kernel
theorem dX3_placeOf_29 : decode cX3_placeOf 29 = .ok (.if_icmp .lt 5, 3) := by decide +kernel
theorem dX3_placeOf_32 : decode cX3_placeOf 32 = .ok (.iconst 0, 1) := by decide +kernel
theorem dX3_placeOf_33 : decode cX3_placeOf 33 = .ok (.ireturn, 1) := by decide +kernel
theorem dX3_placeOf_34 : decode cX3_placeOf 34 = .ok (.iload_n 3, 1) := by decide +kernel
theorem dX3_placeOf_35 : decode cX3_placeOf 35 = .ok (.ifCond .lt 8, 3) := by decide +kernel
theorem dX3_placeOf_38 : decode cX3_placeOf 38 = .ok (.iload_n 3, 1) := by decide +kernel
theorem dX3_placeOf_39 : decode cX3_placeOf 39 = .ok (.iconst 1, 1) := by decide +kernel
theorem dX3_placeOf_40 : decode cX3_placeOf 40 = .ok (.if_icmp .le 5, 3) := by decide +kernel
theorem dX3_placeOf_43 : decode cX3_placeOf 43 = .ok (.iconst 0, 1) := by decide +kernel
theorem dX3_placeOf_44 : decode cX3_placeOf 44 = .ok (.ireturn, 1) := by decide +kernel
theorem dX3_placeOf_45 : decode cX3_placeOf 45 = .ok (.iload_n 1, 1) := by decide +kernel
theorem dX3_placeOf_46 : decode cX3_placeOf 46 = .ok (.bipush 8, 2) := by decide +kernel
theorem dX3_placeOf_48 : decode cX3_placeOf 48 = .ok (.imul, 1) := by decide +kernel
theorem dX3_placeOf_49 : decode cX3_placeOf 49 = .ok (.iconst 2, 1) := by decide +kernel
theorem dX3_placeOf_50 : decode cX3_placeOf 50 = .ok (.iload_n 2, 1) := by decide +kernel
theorem dX3_placeOf_51 : decode cX3_placeOf 51 = .ok (.imul, 1) := by decide +kernel
theorem dX3_placeOf_52 : decode cX3_placeOf 52 = .ok (.iadd, 1) := by decide +kernel
theorem dX3_placeOf_53 : decode cX3_placeOf 53 = .ok (.iload_n 3, 1) := by decide +kernel
theorem dX3_placeOf_54 : decode cX3_placeOf 54 = .ok (.iadd, 1) := by decide +kernel
theorem dX3_placeOf_55 : decode cX3_placeOf 55 = .ok (.istore 5, 2) := by decide +kernel
theorem dX3_placeOf_57 : decode cX3_placeOf 57 = .ok (.iload 5, 2) := by decide +kernel
theorem dX3_placeOf_59 : decode cX3_placeOf 59 = .ok (.ifCond .lt 23, 3) := by decide +kernel
theorem dX3_placeOf_62 : decode cX3_placeOf 62 = .ok (.iload 5, 2) := by decide +kernel
theorem dX3_placeOf_64 : decode cX3_placeOf 64 = .ok (.aload_n 0, 1) := by decide +kernel
theorem dX3_placeOf_65 : decode cX3_placeOf 65 = .ok (.getfield 15, 3) := by decide +kernel
theorem dX3_placeOf_68 : decode cX3_placeOf 68 = .ok (.arraylength, 1) := by decide +kernel
theorem dX3_placeOf_69 : decode cX3_placeOf 69 = .ok (.if_icmp .ge 13, 3) := by decide +kernel
theorem dX3_placeOf_72 : decode cX3_placeOf 72 = .ok (.aload_n 0, 1) := by decide +kernel
theorem dX3_placeOf_73 : decode cX3_placeOf 73 = .ok (.getfield 15, 3) := by decide +kernel
theorem dX3_placeOf_76 : decode cX3_placeOf 76 = .ok (.iload 5, 2) := by decide +kernel
theorem dX3_placeOf_78 : decode cX3_placeOf 78 = .ok (.iaload, 1) := by decide +kernel
theorem dX3_placeOf_79 : decode cX3_placeOf 79 = .ok (.goto 4, 3) := by decide +kernel
theorem dX3_placeOf_82 : decode cX3_placeOf 82 = .ok (.iconst 0, 1) := by decide +kernel
theorem dX3_placeOf_83 : decode cX3_placeOf 83 = .ok (.ireturn, 1) := by decide +kernel
theorem dX3_start_0 : decode cX3_start 0 = .ok (.aload_n 0, 1) := by decide +kernel
theorem dX3_start_1 : decode cX3_start 1 = .ok (.getfield 18, 3) := by decide +kernel
theorem dX3_start_4 : decode cX3_start 4 = .ok (.ifCond .eq 4, 3) := by decide +kernel
theorem dX3_start_7 : decode cX3_start 7 = .ok (.return_, 1) := by decide +kernel
theorem dX3_start_8 : decode cX3_start 8 = .ok (.aload_n 0, 1) := by decide +kernel
theorem dX3_start_9 : decode cX3_start 9 = .ok (.getfield 22, 3) := by decide +kernel
theorem dX3_start_12 : decode cX3_start 12 = .ok (.ifCond .lt 13, 3) := by decide +kernel
theorem dX3_start_15 : decode cX3_start 15 = .ok (.aload_n 0, 1) := by decide +kernel
theorem dX3_start_16 : decode cX3_start 16 = .ok (.getfield 22, 3) := by decide +kernel
theorem dX3_start_19 : decode cX3_start 19 = .ok (.sipush 2000, 3) := by decide +kernel
theorem dX3_start_22 : decode cX3_start 22 = .ok (.if_icmp .lt 10, 3) := by decide +kernel
theorem dX3_start_25 : decode cX3_start 25 = .ok (.aload_n 0, 1) := by decide +kernel
theorem dX3_start_26 : decode cX3_start 26 = .ok (.bipush (-3), 2) := by decide +kernel
theorem dX3_start_28 : decode cX3_start 28 = .ok (.invokevirtual 28, 3) := by decide +kernel
theorem dX3_start_31 : decode cX3_start 31 = .ok (.return_, 1) := by decide +kernel
theorem dX3_start_32 : decode cX3_start 32 = .ok (.aload_n 0, 1) := by decide +kernel
theorem dX3_start_33 : decode cX3_start 33 = .ok (.getfield 9, 3) := by decide +kernel
theorem dX3_start_36 : decode cX3_start 36 = .ok (.aload_n 0, 1) := by decide +kernel
theorem dX3_start_37 : decode cX3_start 37 = .ok (.getfield 22, 3) := by decide +kernel
theorem dX3_start_40 : decode cX3_start 40 = .ok (.iload_n 1, 1) := by decide +kernel
theorem dX3_start_41 : decode cX3_start 41 = .ok (.iastore, 1) := by decide +kernel
theorem dX3_start_42 : decode cX3_start 42 = .ok (.aload_n 0, 1) := by decide +kernel
theorem dX3_start_43 : decode cX3_start 43 = .ok (.dup, 1) := by decide +kernel
theorem dX3_start_44 : decode cX3_start 44 = .ok (.getfield 22, 3) := by decide +kernel
theorem dX3_start_47 : decode cX3_start 47 = .ok (.iconst 1, 1) := by decide +kernel
theorem dX3_start_48 : decode cX3_start 48 = .ok (.iadd, 1) := by decide +kernel
theorem dX3_start_49 : decode cX3_start 49 = .ok (.putfield 22, 3) := by decide +kernel
theorem dX3_start_52 : decode cX3_start 52 = .ok (.aload_n 0, 1) := by decide +kernel
theorem dX3_start_53 : decode cX3_start 53 = .ok (.iconst 0, 1) := by decide +kernel
theorem dX3_start_54 : decode cX3_start 54 = .ok (.putfield 25, 3) := by decide +kernel
theorem dX3_start_57 : decode cX3_start 57 = .ok (.return_, 1) := by decide +kernel
theorem dX3_state_0 : decode cX3_state 0 = .ok (.aload_n 0, 1) := by decide +kernel
theorem dX3_state_1 : decode cX3_state 1 = .ok (.getfield 18, 3) := by decide +kernel
theorem dX3_state_4 : decode cX3_state 4 = .ok (.ireturn, 1) := by decide +kernel
theorem dX3_stop_0 : decode cX3_stop 0 = .ok (.aload_n 0, 1) := by decide +kernel
theorem dX3_stop_1 : decode cX3_stop 1 = .ok (.getfield 18, 3) := by decide +kernel
theorem dX3_stop_4 : decode cX3_stop 4 = .ok (.ifCond .ne 8, 3) := by decide +kernel
theorem dX3_stop_7 : decode cX3_stop 7 = .ok (.aload_n 0, 1) := by decide +kernel
theorem dX3_stop_8 : decode cX3_stop 8 = .ok (.iload_n 1, 1) := by decide +kernel
theorem dX3_stop_9 : decode cX3_stop 9 = .ok (.putfield 18, 3) := by decide +kernel
theorem dX3_stop_12 : decode cX3_stop 12 = .ok (.return_, 1) := by decide +kernel
theorem dX4_add_0 : decode cX4_add 0 = .ok (.aload_n 0, 1) := by decide +kernel
theorem dX4_add_1 : decode cX4_add 1 = .ok (.getfield 18, 3) := by decide +kernel
theorem dX4_add_4 : decode cX4_add 4 = .ok (.iconst 1, 1) := by decide +kernel
theorem dX4_add_5 : decode cX4_add 5 = .ok (.isub, 1) := by decide +kernel
theorem dX4_add_6 : decode cX4_add 6 = .ok (.istore_n 3, 1) := by decide +kernel
theorem dX4_add_7 : decode cX4_add 7 = .ok (.iload_n 3, 1) := by decide +kernel
theorem dX4_add_8 : decode cX4_add 8 = .ok (.ifCond .lt 31, 3) := by decide +kernel
theorem dX4_add_11 : decode cX4_add 11 = .ok (.iload_n 3, 1) := by decide +kernel
theorem dX4_add_12 : decode cX4_add 12 = .ok (.sipush 2002, 3) := by decide +kernel
theorem dX4_add_15 : decode cX4_add 15 = .ok (.if_icmp .ge 24, 3) := by decide +kernel
theorem dX4_add_18 : decode cX4_add 18 = .ok (.aload_n 0, 1) := by decide +kernel
theorem dX4_add_19 : decode cX4_add 19 = .ok (.getfield 9, 3) := by decide +kernel
theorem dX4_add_22 : decode cX4_add 22 = .ok (.iload_n 3, 1) := by decide +kernel
theorem dX4_add_23 : decode cX4_add 23 = .ok (.iaload, 1) := by decide +kernel
theorem dX4_add_24 : decode cX4_add 24 = .ok (.iload_n 1, 1) := by decide +kernel
theorem dX4_add_25 : decode cX4_add 25 = .ok (.if_icmp .ne 14, 3) := by decide +kernel
theorem dX4_add_28 : decode cX4_add 28 = .ok (.aload_n 0, 1) := by decide +kernel
theorem dX4_add_29 : decode cX4_add 29 = .ok (.getfield 15, 3) := by decide +kernel
theorem dX4_add_32 : decode cX4_add 32 = .ok (.iload_n 3, 1) := by decide +kernel
theorem dX4_add_33 : decode cX4_add 33 = .ok (.iaload, 1) := by decide +kernel
theorem dX4_add_34 : decode cX4_add 34 = .ok (.iload_n 2, 1) := by decide +kernel
theorem dX4_add_35 : decode cX4_add 35 = .ok (.if_icmp .ne 4, 3) := by decide +kernel
theorem dX4_add_38 : decode cX4_add 38 = .ok (.return_, 1) := by decide +kernel
theorem dX4_add_39 : decode cX4_add 39 = .ok (.aload_n 0, 1) := by decide +kernel
theorem dX4_add_40 : decode cX4_add 40 = .ok (.getfield 18, 3) := by decide +kernel
theorem dX4_add_43 : decode cX4_add 43 = .ok (.ifCond .lt 13, 3) := by decide +kernel
theorem dX4_add_46 : decode cX4_add 46 = .ok (.aload_n 0, 1) := by decide +kernel
theorem dX4_add_47 : decode cX4_add 47 = .ok (.getfield 18, 3) := by decide +kernel
theorem dX4_add_50 : decode cX4_add 50 = .ok (.sipush 2002, 3) := by decide +kernel
theorem dX4_add_53 : decode cX4_add 53 = .ok (.if_icmp .lt 4, 3) := by decide +kernel
theorem dX4_add_56 : decode cX4_add 56 = .ok (.return_, 1) := by decide +kernel
theorem dX4_add_57 : decode cX4_add 57 = .ok (.aload_n 0, 1) := by decide +kernel
theorem dX4_add_58 : decode cX4_add 58 = .ok (.getfield 9, 3) := by decide +kernel
theorem dX4_add_61 : decode cX4_add 61 = .ok (.aload_n 0, 1) := by decide +kernel
theorem dX4_add_62 : decode cX4_add 62 = .ok (.getfield 18, 3) := by decide +kernel
theorem dX4_add_65 : decode cX4_add 65 = .ok (.iload_n 1, 1) := by decide +kernel
theorem dX4_add_66 : decode cX4_add 66 = .ok (.iastore, 1) := by decide +kernel
theorem dX4_add_67 : decode cX4_add 67 = .ok (.aload_n 0, 1) := by decide +kernel
theorem dX4_add_68 : decode cX4_add 68 = .ok (.getfield 15, 3) := by decide +kernel
theorem dX4_add_71 : decode cX4_add 71 = .ok (.aload_n 0, 1) := by decide +kernel
theorem dX4_add_72 : decode cX4_add 72 = .ok (.getfield 18, 3) := by decide +kernel
theorem dX4_add_75 : decode cX4_add 75 = .ok (.iload_n 2, 1) := by decide +kernel
theorem dX4_add_76 : decode cX4_add 76 = .ok (.iastore, 1) := by decide +kernel
theorem dX4_add_77 : decode cX4_add 77 = .ok (.aload_n 0, 1) := by decide +kernel
theorem dX4_add_78 : decode cX4_add 78 = .ok (.dup, 1) := by decide +kernel
theorem dX4_add_79 : decode cX4_add 79 = .ok (.getfield 18, 3) := by decide +kernel
theorem dX4_add_82 : decode cX4_add 82 = .ok (.iconst 1, 1) := by decide +kernel
theorem dX4_add_83 : decode cX4_add 83 = .ok (.iadd, 1) := by decide +kernel
theorem dX4_add_84 : decode cX4_add 84 = .ok (.putfield 18, 3) := by decide +kernel
theorem dX4_add_87 : decode cX4_add 87 = .ok (.return_, 1) := by decide +kernel
theorem dX4_dropLastLikeFirst_0 : decode cX4_dropLastLikeFirst 0 = .ok (.aload_n 0, 1) := by decide +kernel
theorem dX4_dropLastLikeFirst_1 : decode cX4_dropLastLikeFirst 1 = .ok (.getfield 18, 3) := by decide +kernel
end
section
theorem dX4_dropLastLikeFirst_4 : decode cX4_dropLastLikeFirst 4 = .ok (.iconst 1, 1) := by decide +kernel
theorem dX4_dropLastLikeFirst_5 : decode cX4_dropLastLikeFirst 5 = .ok (.isub, 1) := by decide +kernel
theorem dX4_dropLastLikeFirst_6 : decode cX4_dropLastLikeFirst 6 = .ok (.istore_n 1, 1) := by decide +kernel
theorem dX4_dropLastLikeFirst_7 : decode cX4_dropLastLikeFirst 7 = .ok (.aload_n 0, 1) := by decide +kernel
theorem dX4_dropLastLikeFirst_8 : decode cX4_dropLastLikeFirst 8 = .ok (.getfield 22, 3) := by decide +kernel
theorem dX4_dropLastLikeFirst_11 : decode cX4_dropLastLikeFirst 11 = .ok (.ifCond .eq 55, 3) := by decide +kernel
theorem dX4_dropLastLikeFirst_14 : decode cX4_dropLastLikeFirst 14 = .ok (.iload_n 1, 1) := by decide +kernel
theorem dX4_dropLastLikeFirst_15 : decode cX4_dropLastLikeFirst 15 = .ok (.ifCond .le 51, 3) := by decide +kernel
theorem dX4_dropLastLikeFirst_18 : decode cX4_dropLastLikeFirst 18 = .ok (.iload_n 1, 1) := by decide +kernel
theorem dX4_dropLastLikeFirst_19 : decode cX4_dropLastLikeFirst 19 = .ok (.sipush 2002, 3) := by decide +kernel
theorem dX4_dropLastLikeFirst_22 : decode cX4_dropLastLikeFirst 22 = .ok (.if_icmp .ge 44, 3) := by decide +kernel
theorem dX4_dropLastLikeFirst_25 : decode cX4_dropLastLikeFirst 25 = .ok (.aload_n 0, 1) := by decide +kernel
theorem dX4_dropLastLikeFirst_26 : decode cX4_dropLastLikeFirst 26 = .ok (.getfield 9, 3) := by decide +kernel
theorem dX4_dropLastLikeFirst_29 : decode cX4_dropLastLikeFirst 29 = .ok (.iload_n 1, 1) := by decide +kernel
theorem dX4_dropLastLikeFirst_30 : decode cX4_dropLastLikeFirst 30 = .ok (.iaload, 1) := by decide +kernel
theorem dX4_dropLastLikeFirst_31 : decode cX4_dropLastLikeFirst 31 = .ok (.aload_n 0, 1) := by decide +kernel
theorem dX4_dropLastLikeFirst_32 : decode cX4_dropLastLikeFirst 32 = .ok (.getfield 9, 3) := by decide +kernel
theorem dX4_dropLastLikeFirst_35 : decode cX4_dropLastLikeFirst 35 = .ok (.iconst 0, 1) := by decide +kernel
theorem dX4_dropLastLikeFirst_36 : decode cX4_dropLastLikeFirst 36 = .ok (.iaload, 1) := by decide +kernel
theorem dX4_dropLastLikeFirst_37 : decode cX4_dropLastLikeFirst 37 = .ok (.if_icmp .ne 29, 3) := by decide +kernel
theorem dX4_dropLastLikeFirst_40 : decode cX4_dropLastLikeFirst 40 = .ok (.aload_n 0, 1) := by decide +kernel
theorem dX4_dropLastLikeFirst_41 : decode cX4_dropLastLikeFirst 41 = .ok (.getfield 15, 3) := by decide +kernel
theorem dX4_dropLastLikeFirst_44 : decode cX4_dropLastLikeFirst 44 = .ok (.iload_n 1, 1) := by decide +kernel
theorem dX4_dropLastLikeFirst_45 : decode cX4_dropLastLikeFirst 45 = .ok (.iaload, 1) := by decide +kernel
theorem dX4_dropLastLikeFirst_46 : decode cX4_dropLastLikeFirst 46 = .ok (.aload_n 0, 1) := by decide +kernel
theorem dX4_dropLastLikeFirst_47 : decode cX4_dropLastLikeFirst 47 = .ok (.getfield 15, 3) := by decide +kernel
theorem dX4_dropLastLikeFirst_50 : decode cX4_dropLastLikeFirst 50 = .ok (.iconst 0, 1) := by decide +kernel
theorem dX4_dropLastLikeFirst_51 : decode cX4_dropLastLikeFirst 51 = .ok (.iaload, 1) := by decide +kernel
theorem dX4_dropLastLikeFirst_52 : decode cX4_dropLastLikeFirst 52 = .ok (.if_icmp .ne 14, 3) := by decide +kernel
theorem dX4_dropLastLikeFirst_55 : decode cX4_dropLastLikeFirst 55 = .ok (.aload_n 0, 1) := by decide +kernel
theorem dX4_dropLastLikeFirst_56 : decode cX4_dropLastLikeFirst 56 = .ok (.iload_n 1, 1) := by decide +kernel
theorem dX4_dropLastLikeFirst_57 : decode cX4_dropLastLikeFirst 57 = .ok (.putfield 18, 3) := by decide +kernel
theorem dX4_dropLastLikeFirst_60 : decode cX4_dropLastLikeFirst 60 = .ok (.iinc 1 (-1), 3) := by decide +kernel
theorem dX4_dropLastLikeFirst_63 : decode cX4_dropLastLikeFirst 63 = .ok (.goto (-56), 3) := by decide +kernel
theorem dX4_dropLastLikeFirst_66 : decode cX4_dropLastLikeFirst 66 = .ok (.return_, 1) := by decide +kernel
theorem dX4_init_0 : decode cX4_init 0 = .ok (.aload_n 0, 1) := by decide +kernel
theorem dX4_init_1 : decode cX4_init 1 = .ok (.invokespecial 3, 3) := by decide +kernel
theorem dX4_init_4 : decode cX4_init 4 = .ok (.aload_n 0, 1) := by decide +kernel
theorem dX4_init_5 : decode cX4_init 5 = .ok (.sipush 2002, 3) := by decide +kernel
theorem dX4_init_8 : decode cX4_init 8 = .ok (.newarray .int, 2) := by decide +kernel
theorem dX4_init_10 : decode cX4_init 10 = .ok (.putfield 9, 3) := by decide +kernel
theorem dX4_init_13 : decode cX4_init 13 = .ok (.aload_n 0, 1) := by decide +kernel
theorem dX4_init_14 : decode cX4_init 14 = .ok (.sipush 2002, 3) := by decide +kernel
theorem dX4_init_17 : decode cX4_init 17 = .ok (.newarray .int, 2) := by decide +kernel
theorem dX4_init_19 : decode cX4_init 19 = .ok (.putfield 15, 3) := by decide +kernel
theorem dX4_init_22 : decode cX4_init 22 = .ok (.return_, 1) := by decide +kernel
theorem dX4_inside_0 : decode cX4_inside 0 = .ok (.iload_n 1, 1) := by decide +kernel
theorem dX4_inside_1 : decode cX4_inside 1 = .ok (.ifCond .lt 22, 3) := by decide +kernel
theorem dX4_inside_4 : decode cX4_inside 4 = .ok (.iload_n 1, 1) := by decide +kernel
theorem dX4_inside_5 : decode cX4_inside 5 = .ok (.aload_n 0, 1) := by decide +kernel
theorem dX4_inside_6 : decode cX4_inside 6 = .ok (.getfield 18, 3) := by decide +kernel
theorem dX4_inside_9 : decode cX4_inside 9 = .ok (.if_icmp .ge 14, 3) := by decide +kernel
theorem dX4_inside_12 : decode cX4_inside 12 = .ok (.iload_n 1, 1) := by decide +kernel
theorem dX4_inside_13 : decode cX4_inside 13 = .ok (.sipush 2002, 3) := by decide +kernel
theorem dX4_inside_16 : decode cX4_inside 16 = .ok (.if_icmp .ge 7, 3) := by decide +kernel
theorem dX4_inside_19 : decode cX4_inside 19 = .ok (.iload_n 1, 1) := by decide +kernel
theorem dX4_inside_20 : decode cX4_inside 20 = .ok (.goto 4, 3) := by decide +kernel
theorem dX4_inside_23 : decode cX4_inside 23 = .ok (.iconst 0, 1) := by decide +kernel
theorem dX4_inside_24 : decode cX4_inside 24 = .ok (.ireturn, 1) := by decide +kernel
theorem dX4_isRing_0 : decode cX4_isRing 0 = .ok (.aload_n 0, 1) := by decide +kernel
theorem dX4_isRing_1 : decode cX4_isRing 1 = .ok (.getfield 22, 3) := by decide +kernel
theorem dX4_isRing_4 : decode cX4_isRing 4 = .ok (.ireturn, 1) := by decide +kernel
theorem dX4_segments_0 : decode cX4_segments 0 = .ok (.aload_n 0, 1) := by decide +kernel
theorem dX4_segments_1 : decode cX4_segments 1 = .ok (.getfield 18, 3) := by decide +kernel
theorem dX4_segments_4 : decode cX4_segments 4 = .ok (.iconst 2, 1) := by decide +kernel
theorem dX4_segments_5 : decode cX4_segments 5 = .ok (.if_icmp .ge 5, 3) := by decide +kernel
theorem dX4_segments_8 : decode cX4_segments 8 = .ok (.iconst 0, 1) := by decide +kernel
theorem dX4_segments_9 : decode cX4_segments 9 = .ok (.ireturn, 1) := by decide +kernel
theorem dX4_segments_10 : decode cX4_segments 10 = .ok (.aload_n 0, 1) := by decide +kernel
theorem dX4_segments_11 : decode cX4_segments 11 = .ok (.getfield 22, 3) := by decide +kernel
theorem dX4_segments_14 : decode cX4_segments 14 = .ok (.ifCond .eq 10, 3) := by decide +kernel
theorem dX4_segments_17 : decode cX4_segments 17 = .ok (.aload_n 0, 1) := by decide +kernel
theorem dX4_segments_18 : decode cX4_segments 18 = .ok (.getfield 18, 3) := by decide +kernel
theorem dX4_segments_21 : decode cX4_segments 21 = .ok (.goto 9, 3) := by decide +kernel
theorem dX4_segments_24 : decode cX4_segments 24 = .ok (.aload_n 0, 1) := by decide +kernel
theorem dX4_segments_25 : decode cX4_segments 25 = .ok (.getfield 18, 3) := by decide +kernel
theorem dX4_segments_28 : decode cX4_segments 28 = .ok (.iconst 1, 1) := by decide +kernel
theorem dX4_segments_29 : decode cX4_segments 29 = .ok (.isub, 1) := by decide +kernel
theorem dX4_segments_30 : decode cX4_segments 30 = .ok (.ireturn, 1) := by decide +kernel
theorem dX4_start_0 : decode cX4_start 0 = .ok (.aload_n 0, 1) := by decide +kernel
theorem dX4_start_1 : decode cX4_start 1 = .ok (.iconst 0, 1) := by decide +kernel
theorem dX4_start_2 : decode cX4_start 2 = .ok (.putfield 18, 3) := by decide +kernel
theorem dX4_start_5 : decode cX4_start 5 = .ok (.aload_n 0, 1) := by decide +kernel
theorem dX4_start_6 : decode cX4_start 6 = .ok (.iload_n 1, 1) := by decide +kernel
theorem dX4_start_7 : decode cX4_start 7 = .ok (.putfield 22, 3) := by decide +kernel
theorem dX4_start_10 : decode cX4_start 10 = .ok (.return_, 1) := by decide +kernel
theorem dX4_xAt_0 : decode cX4_xAt 0 = .ok (.aload_n 0, 1) := by decide +kernel
theorem dX4_xAt_1 : decode cX4_xAt 1 = .ok (.getfield 9, 3) := by decide +kernel
theorem dX4_xAt_4 : decode cX4_xAt 4 = .ok (.aload_n 0, 1) := by decide +kernel
theorem dX4_xAt_5 : decode cX4_xAt 5 = .ok (.iload_n 1, 1) := by decide +kernel
theorem dX4_xAt_6 : decode cX4_xAt 6 = .ok (.invokevirtual 26, 3) := by decide +kernel
theorem dX4_xAt_9 : decode cX4_xAt 9 = .ok (.iaload, 1) := by decide +kernel
theorem dX4_xAt_10 : decode cX4_xAt 10 = .ok (.ireturn, 1) := by decide +kernel
theorem dX4_yAt_0 : decode cX4_yAt 0 = .ok (.aload_n 0, 1) := by decide +kernel
theorem dX4_yAt_1 : decode cX4_yAt 1 = .ok (.getfield 15, 3) := by decide +kernel
theorem dX4_yAt_4 : decode cX4_yAt 4 = .ok (.aload_n 0, 1) := by decide +kernel
theorem dX4_yAt_5 : decode cX4_yAt 5 = .ok (.iload_n 1, 1) := by decide +kernel
theorem dX4_yAt_6 : decode cX4_yAt 6 = .ok (.invokevirtual 26, 3) := by decide +kernel
theorem dX4_yAt_9 : decode cX4_yAt 9 = .ok (.iaload, 1) := by decide +kernel
theorem dX4_yAt_10 : decode cX4_yAt 10 = .ok (.ireturn, 1) := by decide +kernel
theorem dX5_cutX_0 : decode cX5_cutX 0 = .ok (.aload_n 0, 1) := by decide +kernel
theorem dX5_cutX_1 : decode cX5_cutX 1 = .ok (.getfield 13, 3) := by decide +kernel
theorem dX5_cutX_4 : decode cX5_cutX 4 = .ok (.aload_n 0, 1) := by decide +kernel
theorem dX5_cutX_5 : decode cX5_cutX 5 = .ok (.getfield 31, 3) := by decide +kernel
theorem dX5_cutX_8 : decode cX5_cutX 8 = .ok (.lload_n 1, 1) := by decide +kernel
theorem dX5_cutX_9 : decode cX5_cutX 9 = .ok (.lmul, 1) := by decide +kernel
theorem dX5_cutX_10 : decode cX5_cutX 10 = .ok (.aload_n 0, 1) := by decide +kernel
theorem dX5_cutX_11 : decode cX5_cutX 11 = .ok (.getfield 43, 3) := by decide +kernel
theorem dX5_cutX_14 : decode cX5_cutX 14 = .ok (.invokestatic 46, 3) := by decide +kernel
theorem dX5_cutX_17 : decode cX5_cutX 17 = .ok (.ladd, 1) := by decide +kernel
theorem dX5_cutX_18 : decode cX5_cutX 18 = .ok (.l2i, 1) := by decide +kernel
theorem dX5_cutX_19 : decode cX5_cutX 19 = .ok (.ireturn, 1) := by decide +kernel
theorem dX5_cutY_0 : decode cX5_cutY 0 = .ok (.aload_n 0, 1) := by decide +kernel
theorem dX5_cutY_1 : decode cX5_cutY 1 = .ok (.getfield 22, 3) := by decide +kernel
theorem dX5_cutY_4 : decode cX5_cutY 4 = .ok (.aload_n 0, 1) := by decide +kernel
theorem dX5_cutY_5 : decode cX5_cutY 5 = .ok (.getfield 34, 3) := by decide +kernel
theorem dX5_cutY_8 : decode cX5_cutY 8 = .ok (.lload_n 1, 1) := by decide +kernel
theorem dX5_cutY_9 : decode cX5_cutY 9 = .ok (.lmul, 1) := by decide +kernel
theorem dX5_cutY_10 : decode cX5_cutY 10 = .ok (.aload_n 0, 1) := by decide +kernel
theorem dX5_cutY_11 : decode cX5_cutY 11 = .ok (.getfield 43, 3) := by decide +kernel
theorem dX5_cutY_14 : decode cX5_cutY 14 = .ok (.invokestatic 46, 3) := by decide +kernel
theorem dX5_cutY_17 : decode cX5_cutY 17 = .ok (.ladd, 1) := by decide +kernel
theorem dX5_cutY_18 : decode cX5_cutY 18 = .ok (.l2i, 1) := by decide +kernel
theorem dX5_cutY_19 : decode cX5_cutY 19 = .ok (.ireturn, 1) := by decide +kernel
theorem dX5_init_0 : decode cX5_init 0 = .ok (.aload_n 0, 1) := by decide +kernel
theorem dX5_init_1 : decode cX5_init 1 = .ok (.invokespecial 1, 3) := by decide +kernel
theorem dX5_init_4 : decode cX5_init 4 = .ok (.return_, 1) := by decide +kernel
theorem dX5_set_0 : decode cX5_set 0 = .ok (.aload_n 0, 1) := by decide +kernel
theorem dX5_set_1 : decode cX5_set 1 = .ok (.aload_n 1, 1) := by decide +kernel
theorem dX5_set_2 : decode cX5_set 2 = .ok (.iload_n 2, 1) := by decide +kernel
theorem dX5_set_3 : decode cX5_set 3 = .ok (.invokevirtual 7, 3) := by decide +kernel
theorem dX5_set_6 : decode cX5_set 6 = .ok (.i2l, 1) := by decide +kernel
theorem dX5_set_7 : decode cX5_set 7 = .ok (.putfield 13, 3) := by decide +kernel
theorem dX5_set_10 : decode cX5_set 10 = .ok (.aload_n 0, 1) := by decide +kernel
theorem dX5_set_11 : decode cX5_set 11 = .ok (.aload_n 1, 1) := by decide +kernel
theorem dX5_set_12 : decode cX5_set 12 = .ok (.iload_n 2, 1) := by decide +kernel
theorem dX5_set_13 : decode cX5_set 13 = .ok (.invokevirtual 19, 3) := by decide +kernel
theorem dX5_set_16 : decode cX5_set 16 = .ok (.i2l, 1) := by decide +kernel
theorem dX5_set_17 : decode cX5_set 17 = .ok (.putfield 22, 3) := by decide +kernel
theorem dX5_set_20 : decode cX5_set 20 = .ok (.aload_n 0, 1) := by decide +kernel
theorem dX5_set_21 : decode cX5_set 21 = .ok (.aload_n 1, 1) := by decide +kernel
theorem dX5_set_22 : decode cX5_set 22 = .ok (.iload_n 2, 1) := by decide +kernel
theorem dX5_set_23 : decode cX5_set 23 = .ok (.iconst 1, 1) := by decide +kernel
theorem dX5_set_24 : decode cX5_set 24 = .ok (.iadd, 1) := by decide +kernel
theorem dX5_set_25 : decode cX5_set 25 = .ok (.invokevirtual 7, 3) := by decide +kernel
theorem dX5_set_28 : decode cX5_set 28 = .ok (.i2l, 1) := by decide +kernel
theorem dX5_set_29 : decode cX5_set 29 = .ok (.putfield 25, 3) := by decide +kernel
theorem dX5_set_32 : decode cX5_set 32 = .ok (.aload_n 0, 1) := by decide +kernel
theorem dX5_set_33 : decode cX5_set 33 = .ok (.aload_n 1, 1) := by decide +kernel
theorem dX5_set_34 : decode cX5_set 34 = .ok (.iload_n 2, 1) := by decide +kernel
theorem dX5_set_35 : decode cX5_set 35 = .ok (.iconst 1, 1) := by decide +kernel
theorem dX5_set_36 : decode cX5_set 36 = .ok (.iadd, 1) := by decide +kernel
theorem dX5_set_37 : decode cX5_set 37 = .ok (.invokevirtual 19, 3) := by decide +kernel
theorem dX5_set_40 : decode cX5_set 40 = .ok (.i2l, 1) := by decide +kernel
theorem dX5_set_41 : decode cX5_set 41 = .ok (.putfield 28, 3) := by decide +kernel
theorem dX5_set_44 : decode cX5_set 44 = .ok (.aload_n 0, 1) := by decide +kernel
theorem dX5_set_45 : decode cX5_set 45 = .ok (.aload_n 0, 1) := by decide +kernel
theorem dX5_set_46 : decode cX5_set 46 = .ok (.getfield 25, 3) := by decide +kernel
theorem dX5_set_49 : decode cX5_set 49 = .ok (.aload_n 0, 1) := by decide +kernel
theorem dX5_set_50 : decode cX5_set 50 = .ok (.getfield 13, 3) := by decide +kernel
theorem dX5_set_53 : decode cX5_set 53 = .ok (.lsub, 1) := by decide +kernel
theorem dX5_set_54 : decode cX5_set 54 = .ok (.putfield 31, 3) := by decide +kernel
theorem dX5_set_57 : decode cX5_set 57 = .ok (.aload_n 0, 1) := by decide +kernel
theorem dX5_set_58 : decode cX5_set 58 = .ok (.aload_n 0, 1) := by decide +kernel
theorem dX5_set_59 : decode cX5_set 59 = .ok (.getfield 28, 3) := by decide +kernel
theorem dX5_set_62 : decode cX5_set 62 = .ok (.aload_n 0, 1) := by decide +kernel
theorem dX5_set_63 : decode cX5_set 63 = .ok (.getfield 22, 3) := by decide +kernel
theorem dX5_set_66 : decode cX5_set 66 = .ok (.lsub, 1) := by decide +kernel
theorem dX5_set_67 : decode cX5_set 67 = .ok (.putfield 34, 3) := by decide +kernel
theorem dX5_set_70 : decode cX5_set 70 = .ok (.aload_n 0, 1) := by decide +kernel
theorem dX5_set_71 : decode cX5_set 71 = .ok (.aload_n 0, 1) := by decide +kernel
theorem dX5_set_72 : decode cX5_set 72 = .ok (.getfield 31, 3) := by decide +kernel
theorem dX5_set_75 : decode cX5_set 75 = .ok (.aload_n 0, 1) := by decide +kernel
theorem dX5_set_76 : decode cX5_set 76 = .ok (.getfield 31, 3) := by decide +kernel
theorem dX5_set_79 : decode cX5_set 79 = .ok (.lmul, 1) := by decide +kernel
theorem dX5_set_80 : decode cX5_set 80 = .ok (.aload_n 0, 1) := by decide +kernel
theorem dX5_set_81 : decode cX5_set 81 = .ok (.getfield 34, 3) := by decide +kernel
theorem dX5_set_84 : decode cX5_set 84 = .ok (.aload_n 0, 1) := by decide +kernel
theorem dX5_set_85 : decode cX5_set 85 = .ok (.getfield 34, 3) := by decide +kernel
theorem dX5_set_88 : decode cX5_set 88 = .ok (.lmul, 1) := by decide +kernel
theorem dX5_set_89 : decode cX5_set 89 = .ok (.ladd, 1) := by decide +kernel
theorem dX5_set_90 : decode cX5_set 90 = .ok (.invokestatic 37, 3) := by decide +kernel
theorem dX5_set_93 : decode cX5_set 93 = .ok (.putfield 43, 3) := by decide +kernel
theorem dX5_set_96 : decode cX5_set 96 = .ok (.return_, 1) := by decide +kernel
theorem dX5_widen_0 : decode cX5_widen 0 = .ok (.aload_n 0, 1) := by decide +kernel
theorem dX5_widen_1 : decode cX5_widen 1 = .ok (.aload_n 0, 1) := by decide +kernel
theorem dX5_widen_2 : decode cX5_widen 2 = .ok (.getfield 34, 3) := by decide +kernel
theorem dX5_widen_5 : decode cX5_widen 5 = .ok (.lneg, 1) := by decide +kernel
theorem dX5_widen_6 : decode cX5_widen 6 = .ok (.lload_n 1, 1) := by decide +kernel
theorem dX5_widen_7 : decode cX5_widen 7 = .ok (.lmul, 1) := by decide +kernel
theorem dX5_widen_8 : decode cX5_widen 8 = .ok (.aload_n 0, 1) := by decide +kernel
theorem dX5_widen_9 : decode cX5_widen 9 = .ok (.getfield 43, 3) := by decide +kernel
theorem dX5_widen_12 : decode cX5_widen 12 = .ok (.invokestatic 46, 3) := by decide +kernel
theorem dX5_widen_15 : decode cX5_widen 15 = .ok (.putfield 50, 3) := by decide +kernel
theorem dX5_widen_18 : decode cX5_widen 18 = .ok (.aload_n 0, 1) := by decide +kernel
theorem dX5_widen_19 : decode cX5_widen 19 = .ok (.aload_n 0, 1) := by decide +kernel
theorem dX5_widen_20 : decode cX5_widen 20 = .ok (.getfield 31, 3) := by decide +kernel
theorem dX5_widen_23 : decode cX5_widen 23 = .ok (.lload_n 1, 1) := by decide +kernel
theorem dX5_widen_24 : decode cX5_widen 24 = .ok (.lmul, 1) := by decide +kernel
theorem dX5_widen_25 : decode cX5_widen 25 = .ok (.aload_n 0, 1) := by decide +kernel
theorem dX5_widen_26 : decode cX5_widen 26 = .ok (.getfield 43, 3) := by decide +kernel
theorem dX5_widen_29 : decode cX5_widen 29 = .ok (.invokestatic 46, 3) := by decide +kernel
theorem dX5_widen_32 : decode cX5_widen 32 = .ok (.putfield 53, 3) := by decide +kernel
theorem dX5_widen_35 : decode cX5_widen 35 = .ok (.aload_n 0, 1) := by decide +kernel
theorem dX5_widen_36 : decode cX5_widen 36 = .ok (.aload_n 0, 1) := by decide +kernel
theorem dX5_widen_37 : decode cX5_widen 37 = .ok (.getfield 53, 3) := by decide +kernel
theorem dX5_widen_40 : decode cX5_widen 40 = .ok (.putfield 56, 3) := by decide +kernel
theorem dX5_widen_43 : decode cX5_widen 43 = .ok (.aload_n 0, 1) := by decide +kernel
theorem dX5_widen_44 : decode cX5_widen 44 = .ok (.aload_n 0, 1) := by decide +kernel
theorem dX5_widen_45 : decode cX5_widen 45 = .ok (.getfield 34, 3) := by decide +kernel
theorem dX5_widen_48 : decode cX5_widen 48 = .ok (.lload_n 1, 1) := by decide +kernel
theorem dX5_widen_49 : decode cX5_widen 49 = .ok (.lmul, 1) := by decide +kernel
theorem dX5_widen_50 : decode cX5_widen 50 = .ok (.aload_n 0, 1) := by decide +kernel
theorem dX5_widen_51 : decode cX5_widen 51 = .ok (.getfield 43, 3) := by decide +kernel
theorem dX5_widen_54 : decode cX5_widen 54 = .ok (.invokestatic 46, 3) := by decide +kernel
theorem dX5_widen_57 : decode cX5_widen 57 = .ok (.putfield 59, 3) := by decide +kernel
theorem dX5_widen_60 : decode cX5_widen 60 = .ok (.return_, 1) := by decide +kernel
theorem dX6_allowsMitre_0 : decode cX6_allowsMitre 0 = .ok (.aload_n 0, 1) := by decide +kernel
theorem dX6_allowsMitre_1 : decode cX6_allowsMitre 1 = .ok (.getfield 32, 3) := by decide +kernel
theorem dX6_allowsMitre_4 : decode cX6_allowsMitre 4 = .ok (.ifCond .ne 30, 3) := by decide +kernel
theorem dX6_allowsMitre_7 : decode cX6_allowsMitre 7 = .ok (.lload_n 1, 1) := by decide +kernel
theorem dX6_allowsMitre_8 : decode cX6_allowsMitre 8 = .ok (.ldc2_w 35, 3) := by decide +kernel
theorem dX6_allowsMitre_11 : decode cX6_allowsMitre 11 = .ok (.lmul, 1) := by decide +kernel
theorem dX6_allowsMitre_12 : decode cX6_allowsMitre 12 = .ok (.aload_n 0, 1) := by decide +kernel
theorem dX6_allowsMitre_13 : decode cX6_allowsMitre 13 = .ok (.getfield 22, 3) := by decide +kernel
theorem dX6_allowsMitre_16 : decode cX6_allowsMitre 16 = .ok (.aload_n 0, 1) := by decide +kernel
theorem dX6_allowsMitre_17 : decode cX6_allowsMitre 17 = .ok (.getfield 11, 3) := by decide +kernel
theorem dX6_allowsMitre_20 : decode cX6_allowsMitre 20 = .ok (.lmul, 1) := by decide +kernel
theorem dX6_allowsMitre_21 : decode cX6_allowsMitre 21 = .ok (.aload_n 0, 1) := by decide +kernel
theorem dX6_allowsMitre_22 : decode cX6_allowsMitre 22 = .ok (.getfield 11, 3) := by decide +kernel
theorem dX6_allowsMitre_25 : decode cX6_allowsMitre 25 = .ok (.lmul, 1) := by decide +kernel
theorem dX6_allowsMitre_26 : decode cX6_allowsMitre 26 = .ok (.lcmp, 1) := by decide +kernel
theorem dX6_allowsMitre_27 : decode cX6_allowsMitre 27 = .ok (.ifCond .lt 7, 3) := by decide +kernel
theorem dX6_allowsMitre_30 : decode cX6_allowsMitre 30 = .ok (.iconst 1, 1) := by decide +kernel
theorem dX6_allowsMitre_31 : decode cX6_allowsMitre 31 = .ok (.goto 4, 3) := by decide +kernel
theorem dX6_allowsMitre_34 : decode cX6_allowsMitre 34 = .ok (.iconst 0, 1) := by decide +kernel
theorem dX6_allowsMitre_35 : decode cX6_allowsMitre 35 = .ok (.ireturn, 1) := by decide +kernel
theorem dX6_half_0 : decode cX6_half 0 = .ok (.aload_n 0, 1) := by decide +kernel
theorem dX6_half_1 : decode cX6_half 1 = .ok (.getfield 11, 3) := by decide +kernel
theorem dX6_half_4 : decode cX6_half 4 = .ok (.lreturn, 1) := by decide +kernel
theorem dX6_hasCaps_0 : decode cX6_hasCaps 0 = .ok (.aload_n 0, 1) := by decide +kernel
theorem dX6_hasCaps_1 : decode cX6_hasCaps 1 = .ok (.getfield 28, 3) := by decide +kernel
theorem dX6_hasCaps_4 : decode cX6_hasCaps 4 = .ok (.ireturn, 1) := by decide +kernel
theorem dX6_init_0 : decode cX6_init 0 = .ok (.aload_n 0, 1) := by decide +kernel
theorem dX6_init_1 : decode cX6_init 1 = .ok (.invokespecial 3, 3) := by decide +kernel
theorem dX6_init_4 : decode cX6_init 4 = .ok (.aload_n 0, 1) := by decide +kernel
theorem dX6_init_5 : decode cX6_init 5 = .ok (.ldc2_w 9, 3) := by decide +kernel
theorem dX6_init_8 : decode cX6_init 8 = .ok (.putfield 11, 3) := by decide +kernel
theorem dX6_init_11 : decode cX6_init 11 = .ok (.aload_n 0, 1) := by decide +kernel
theorem dX6_init_12 : decode cX6_init 12 = .ok (.ldc 17, 2) := by decide +kernel
theorem dX6_init_14 : decode cX6_init 14 = .ok (.invokestatic 18, 3) := by decide +kernel
theorem dX6_init_17 : decode cX6_init 17 = .ok (.putfield 22, 3) := by decide +kernel
theorem dX6_init_20 : decode cX6_init 20 = .ok (.return_, 1) := by decide +kernel
theorem dX6_leastCosine_0 : decode cX6_leastCosine 0 = .ok (.iload_n 0, 1) := by decide +kernel
theorem dX6_leastCosine_1 : decode cX6_leastCosine 1 = .ok (.i2l, 1) := by decide +kernel
theorem dX6_leastCosine_2 : decode cX6_leastCosine 2 = .ok (.iload_n 0, 1) := by decide +kernel
theorem dX6_leastCosine_3 : decode cX6_leastCosine 3 = .ok (.i2l, 1) := by decide +kernel
theorem dX6_leastCosine_4 : decode cX6_leastCosine 4 = .ok (.lmul, 1) := by decide +kernel
theorem dX6_leastCosine_5 : decode cX6_leastCosine 5 = .ok (.lstore_n 1, 1) := by decide +kernel
theorem dX6_leastCosine_6 : decode cX6_leastCosine 6 = .ok (.lload_n 1, 1) := by decide +kernel
theorem dX6_leastCosine_7 : decode cX6_leastCosine 7 = .ok (.lconst 0, 1) := by decide +kernel
theorem dX6_leastCosine_8 : decode cX6_leastCosine 8 = .ok (.lcmp, 1) := by decide +kernel
theorem dX6_leastCosine_9 : decode cX6_leastCosine 9 = .ok (.ifCond .gt 7, 3) := by decide +kernel
theorem dX6_leastCosine_12 : decode cX6_leastCosine 12 = .ok (.ldc2_w 35, 3) := by decide +kernel
theorem dX6_leastCosine_15 : decode cX6_leastCosine 15 = .ok (.lreturn, 1) := by decide +kernel
theorem dX6_leastCosine_16 : decode cX6_leastCosine 16 = .ok (.ldc2_w 37, 3) := by decide +kernel
theorem dX6_leastCosine_19 : decode cX6_leastCosine 19 = .ok (.lload_n 1, 1) := by decide +kernel
theorem dX6_leastCosine_20 : decode cX6_leastCosine 20 = .ok (.ldiv, 1) := by decide +kernel
theorem dX6_leastCosine_21 : decode cX6_leastCosine 21 = .ok (.ldc2_w 35, 3) := by decide +kernel
theorem dX6_leastCosine_24 : decode cX6_leastCosine 24 = .ok (.lsub, 1) := by decide +kernel
theorem dX6_leastCosine_25 : decode cX6_leastCosine 25 = .ok (.lreturn, 1) := by decide +kernel
theorem dX6_reach_0 : decode cX6_reach 0 = .ok (.aload_n 0, 1) := by decide +kernel
theorem dX6_reach_1 : decode cX6_reach 1 = .ok (.getfield 11, 3) := by decide +kernel
theorem dX6_reach_4 : decode cX6_reach 4 = .ok (.aload_n 0, 1) := by decide +kernel
theorem dX6_reach_5 : decode cX6_reach 5 = .ok (.getfield 11, 3) := by decide +kernel
theorem dX6_reach_8 : decode cX6_reach 8 = .ok (.lmul, 1) := by decide +kernel
theorem dX6_reach_9 : decode cX6_reach 9 = .ok (.ldc2_w 35, 3) := by decide +kernel
theorem dX6_reach_12 : decode cX6_reach 12 = .ok (.lmul, 1) := by decide +kernel
theorem dX6_reach_13 : decode cX6_reach 13 = .ok (.aload_n 0, 1) := by decide +kernel
theorem dX6_reach_14 : decode cX6_reach 14 = .ok (.getfield 11, 3) := by decide +kernel
theorem dX6_reach_17 : decode cX6_reach 17 = .ok (.aload_n 0, 1) := by decide +kernel
theorem dX6_reach_18 : decode cX6_reach 18 = .ok (.getfield 11, 3) := by decide +kernel
theorem dX6_reach_21 : decode cX6_reach 21 = .ok (.lmul, 1) := by decide +kernel
theorem dX6_reach_22 : decode cX6_reach 22 = .ok (.lload_n 1, 1) := by decide +kernel
theorem dX6_reach_23 : decode cX6_reach 23 = .ok (.ladd, 1) := by decide +kernel
theorem dX6_reach_24 : decode cX6_reach 24 = .ok (.invokestatic 39, 3) := by decide +kernel
theorem dX6_reach_27 : decode cX6_reach 27 = .ok (.lreturn, 1) := by decide +kernel
theorem dX6_set_0 : decode cX6_set 0 = .ok (.iload_n 1, 1) := by decide +kernel
theorem dX6_set_1 : decode cX6_set 1 = .ok (.iconst 1, 1) := by decide +kernel
theorem dX6_set_2 : decode cX6_set 2 = .ok (.if_icmp .lt 18, 3) := by decide +kernel
theorem dX6_set_5 : decode cX6_set 5 = .ok (.iload_n 1, 1) := by decide +kernel
theorem dX6_set_6 : decode cX6_set 6 = .ok (.ldc 25, 2) := by decide +kernel
theorem dX6_set_8 : decode cX6_set 8 = .ok (.if_icmp .gt 12, 3) := by decide +kernel
theorem dX6_set_11 : decode cX6_set 11 = .ok (.iload_n 2, 1) := by decide +kernel
theorem dX6_set_12 : decode cX6_set 12 = .ok (.ifCond .lt 8, 3) := by decide +kernel
theorem dX6_set_15 : decode cX6_set 15 = .ok (.iload_n 2, 1) := by decide +kernel
theorem dX6_set_16 : decode cX6_set 16 = .ok (.iconst 1, 1) := by decide +kernel
theorem dX6_set_17 : decode cX6_set 17 = .ok (.if_icmp .le 5, 3) := by decide +kernel
theorem dX6_set_20 : decode cX6_set 20 = .ok (.iconst 0, 1) := by decide +kernel
theorem dX6_set_21 : decode cX6_set 21 = .ok (.ireturn, 1) := by decide +kernel
theorem dX6_set_22 : decode cX6_set 22 = .ok (.iload_n 3, 1) := by decide +kernel
theorem dX6_set_23 : decode cX6_set 23 = .ok (.ifCond .lt 22, 3) := by decide +kernel
theorem dX6_set_26 : decode cX6_set 26 = .ok (.iload_n 3, 1) := by decide +kernel
theorem dX6_set_27 : decode cX6_set 27 = .ok (.iconst 1, 1) := by decide +kernel
theorem dX6_set_28 : decode cX6_set 28 = .ok (.if_icmp .gt 17, 3) := by decide +kernel
theorem dX6_set_31 : decode cX6_set 31 = .ok (.iload 4, 2) := by decide +kernel
theorem dX6_set_33 : decode cX6_set 33 = .ok (.ldc 26, 2) := by decide +kernel
theorem dX6_set_35 : decode cX6_set 35 = .ok (.if_icmp .lt 10, 3) := by decide +kernel
theorem dX6_set_38 : decode cX6_set 38 = .ok (.iload 4, 2) := by decide +kernel
theorem dX6_set_40 : decode cX6_set 40 = .ok (.ldc 27, 2) := by decide +kernel
theorem dX6_set_42 : decode cX6_set 42 = .ok (.if_icmp .le 5, 3) := by decide +kernel
theorem dX6_set_45 : decode cX6_set 45 = .ok (.iconst 0, 1) := by decide +kernel
theorem dX6_set_46 : decode cX6_set 46 = .ok (.ireturn, 1) := by decide +kernel
theorem dX6_set_47 : decode cX6_set 47 = .ok (.aload_n 0, 1) := by decide +kernel
theorem dX6_set_48 : decode cX6_set 48 = .ok (.iload_n 1, 1) := by decide +kernel
theorem dX6_set_49 : decode cX6_set 49 = .ok (.i2l, 1) := by decide +kernel
theorem dX6_set_50 : decode cX6_set 50 = .ok (.putfield 11, 3) := by decide +kernel
theorem dX6_set_53 : decode cX6_set 53 = .ok (.aload_n 0, 1) := by decide +kernel
theorem dX6_set_54 : decode cX6_set 54 = .ok (.iload_n 2, 1) := by decide +kernel
theorem dX6_set_55 : decode cX6_set 55 = .ok (.iconst 1, 1) := by decide +kernel
theorem dX6_set_56 : decode cX6_set 56 = .ok (.if_icmp .ne 7, 3) := by decide +kernel
theorem dX6_set_59 : decode cX6_set 59 = .ok (.iconst 1, 1) := by decide +kernel
theorem dX6_set_60 : decode cX6_set 60 = .ok (.goto 4, 3) := by decide +kernel
theorem dX6_set_63 : decode cX6_set 63 = .ok (.iconst 0, 1) := by decide +kernel
theorem dX6_set_64 : decode cX6_set 64 = .ok (.putfield 28, 3) := by decide +kernel
theorem dX6_set_67 : decode cX6_set 67 = .ok (.aload_n 0, 1) := by decide +kernel
theorem dX6_set_68 : decode cX6_set 68 = .ok (.iload_n 3, 1) := by decide +kernel
theorem dX6_set_69 : decode cX6_set 69 = .ok (.iconst 1, 1) := by decide +kernel
theorem dX6_set_70 : decode cX6_set 70 = .ok (.if_icmp .ne 7, 3) := by decide +kernel
theorem dX6_set_73 : decode cX6_set 73 = .ok (.iconst 1, 1) := by decide +kernel
theorem dX6_set_74 : decode cX6_set 74 = .ok (.goto 4, 3) := by decide +kernel
theorem dX6_set_77 : decode cX6_set 77 = .ok (.iconst 0, 1) := by decide +kernel
theorem dX6_set_78 : decode cX6_set 78 = .ok (.putfield 32, 3) := by decide +kernel
theorem dX6_set_81 : decode cX6_set 81 = .ok (.aload_n 0, 1) := by decide +kernel
theorem dX6_set_82 : decode cX6_set 82 = .ok (.iload 4, 2) := by decide +kernel
theorem dX6_set_84 : decode cX6_set 84 = .ok (.invokestatic 18, 3) := by decide +kernel
theorem dX6_set_87 : decode cX6_set 87 = .ok (.putfield 22, 3) := by decide +kernel
theorem dX6_set_90 : decode cX6_set 90 = .ok (.iconst 1, 1) := by decide +kernel
theorem dX6_set_91 : decode cX6_set 91 = .ok (.ireturn, 1) := by decide +kernel
theorem dX7_along_0 : decode cX7_along 0 = .ok (.aload_n 1, 1) := by decide +kernel
theorem dX7_along_1 : decode cX7_along 1 = .ok (.invokevirtual 41, 3) := by decide +kernel
theorem dX7_along_4 : decode cX7_along 4 = .ok (.istore_n 2, 1) := by decide +kernel
theorem dX7_along_5 : decode cX7_along 5 = .ok (.iload_n 2, 1) := by decide +kernel
theorem dX7_along_6 : decode cX7_along 6 = .ok (.ifCond .ne 4, 3) := by decide +kernel
theorem dX7_along_9 : decode cX7_along 9 = .ok (.return_, 1) := by decide +kernel
theorem dX7_along_10 : decode cX7_along 10 = .ok (.aload_n 0, 1) := by decide +kernel
theorem dX7_along_11 : decode cX7_along 11 = .ok (.aload_n 0, 1) := by decide +kernel
theorem dX7_along_12 : decode cX7_along 12 = .ok (.getfield 25, 3) := by decide +kernel
theorem dX7_along_15 : decode cX7_along 15 = .ok (.invokevirtual 45, 3) := by decide +kernel
theorem dX7_along_18 : decode cX7_along 18 = .ok (.putfield 50, 3) := by decide +kernel
theorem dX7_along_21 : decode cX7_along 21 = .ok (.aload_n 0, 1) := by decide +kernel
theorem dX7_along_22 : decode cX7_along 22 = .ok (.aload_n 0, 1) := by decide +kernel
theorem dX7_along_23 : decode cX7_along 23 = .ok (.getfield 25, 3) := by decide +kernel
theorem dX7_along_26 : decode cX7_along 26 = .ok (.invokevirtual 53, 3) := by decide +kernel
theorem dX7_along_29 : decode cX7_along 29 = .ok (.putfield 57, 3) := by decide +kernel
theorem dX7_along_32 : decode cX7_along 32 = .ok (.aload_n 0, 1) := by decide +kernel
theorem dX7_along_33 : decode cX7_along 33 = .ok (.aload_n 0, 1) := by decide +kernel
theorem dX7_along_34 : decode cX7_along 34 = .ok (.getfield 25, 3) := by decide +kernel
theorem dX7_along_37 : decode cX7_along 37 = .ok (.invokevirtual 61, 3) := by decide +kernel
theorem dX7_along_40 : decode cX7_along 40 = .ok (.putfield 65, 3) := by decide +kernel
theorem dX7_along_43 : decode cX7_along 43 = .ok (.aload_n 0, 1) := by decide +kernel
theorem dX7_along_44 : decode cX7_along 44 = .ok (.invokevirtual 69, 3) := by decide +kernel
theorem dX7_along_47 : decode cX7_along 47 = .ok (.aload_n 0, 1) := by decide +kernel
theorem dX7_along_48 : decode cX7_along 48 = .ok (.aload_n 1, 1) := by decide +kernel
theorem dX7_along_49 : decode cX7_along 49 = .ok (.iconst 0, 1) := by decide +kernel
theorem dX7_along_50 : decode cX7_along 50 = .ok (.invokevirtual 72, 3) := by decide +kernel
theorem dX7_along_53 : decode cX7_along 53 = .ok (.aload_n 1, 1) := by decide +kernel
theorem dX7_along_54 : decode cX7_along 54 = .ok (.iconst 0, 1) := by decide +kernel
theorem dX7_along_55 : decode cX7_along 55 = .ok (.invokevirtual 76, 3) := by decide +kernel
theorem dX7_along_58 : decode cX7_along 58 = .ok (.invokevirtual 79, 3) := by decide +kernel
theorem dX7_along_61 : decode cX7_along 61 = .ok (.iconst 0, 1) := by decide +kernel
theorem dX7_along_62 : decode cX7_along 62 = .ok (.istore_n 3, 1) := by decide +kernel
theorem dX7_along_63 : decode cX7_along 63 = .ok (.iload_n 3, 1) := by decide +kernel
theorem dX7_along_64 : decode cX7_along 64 = .ok (.iload_n 2, 1) := by decide +kernel
theorem dX7_along_65 : decode cX7_along 65 = .ok (.if_icmp .ge 32, 3) := by decide +kernel
theorem dX7_along_68 : decode cX7_along 68 = .ok (.aload_n 0, 1) := by decide +kernel
theorem dX7_along_69 : decode cX7_along 69 = .ok (.getfield 33, 3) := by decide +kernel
theorem dX7_along_72 : decode cX7_along 72 = .ok (.invokevirtual 83, 3) := by decide +kernel
theorem dX7_along_75 : decode cX7_along 75 = .ok (.ifCond .eq 22, 3) := by decide +kernel
theorem dX7_along_78 : decode cX7_along 78 = .ok (.aload_n 0, 1) := by decide +kernel
theorem dX7_along_79 : decode cX7_along 79 = .ok (.getfield 12, 3) := by decide +kernel
theorem dX7_along_82 : decode cX7_along 82 = .ok (.aload_n 1, 1) := by decide +kernel
theorem dX7_along_83 : decode cX7_along 83 = .ok (.iload_n 3, 1) := by decide +kernel
theorem dX7_along_84 : decode cX7_along 84 = .ok (.invokevirtual 88, 3) := by decide +kernel
theorem dX7_along_87 : decode cX7_along 87 = .ok (.aload_n 0, 1) := by decide +kernel
theorem dX7_along_88 : decode cX7_along 88 = .ok (.invokevirtual 92, 3) := by decide +kernel
theorem dX7_along_91 : decode cX7_along 91 = .ok (.iinc 3 1, 3) := by decide +kernel
theorem dX7_along_94 : decode cX7_along 94 = .ok (.goto (-31), 3) := by decide +kernel
theorem dX7_along_97 : decode cX7_along 97 = .ok (.aload_n 0, 1) := by decide +kernel
theorem dX7_along_98 : decode cX7_along 98 = .ok (.getfield 65, 3) := by decide +kernel
theorem dX7_along_101 : decode cX7_along 101 = .ok (.ifCond .ne 14, 3) := by decide +kernel
theorem dX7_along_104 : decode cX7_along 104 = .ok (.aload_n 0, 1) := by decide +kernel
theorem dX7_along_105 : decode cX7_along 105 = .ok (.getfield 29, 3) := by decide +kernel
theorem dX7_along_108 : decode cX7_along 108 = .ok (.aload_n 0, 1) := by decide +kernel
theorem dX7_along_109 : decode cX7_along 109 = .ok (.getfield 21, 3) := by decide +kernel
theorem dX7_along_112 : decode cX7_along 112 = .ok (.invokevirtual 95, 3) := by decide +kernel
theorem dX7_along_115 : decode cX7_along 115 = .ok (.return_, 1) := by decide +kernel
theorem dX7_beginDash_0 : decode cX7_beginDash 0 = .ok (.aload_n 0, 1) := by decide +kernel
theorem dX7_beginDash_1 : decode cX7_beginDash 1 = .ok (.getfield 21, 3) := by decide +kernel
theorem dX7_beginDash_4 : decode cX7_beginDash 4 = .ok (.iconst 0, 1) := by decide +kernel
theorem dX7_beginDash_5 : decode cX7_beginDash 5 = .ok (.invokevirtual 130, 3) := by decide +kernel
theorem dX7_beginDash_8 : decode cX7_beginDash 8 = .ok (.aload_n 0, 1) := by decide +kernel
theorem dX7_beginDash_9 : decode cX7_beginDash 9 = .ok (.getfield 65, 3) := by decide +kernel
theorem dX7_beginDash_12 : decode cX7_beginDash 12 = .ok (.ifCond .ne 12, 3) := by decide +kernel
theorem dX7_beginDash_15 : decode cX7_beginDash 15 = .ok (.aload_n 0, 1) := by decide +kernel
theorem dX7_beginDash_16 : decode cX7_beginDash 16 = .ok (.getfield 21, 3) := by decide +kernel
theorem dX7_beginDash_19 : decode cX7_beginDash 19 = .ok (.iload_n 1, 1) := by decide +kernel
theorem dX7_beginDash_20 : decode cX7_beginDash 20 = .ok (.iload_n 2, 1) := by decide +kernel
theorem dX7_beginDash_21 : decode cX7_beginDash 21 = .ok (.invokevirtual 111, 3) := by decide +kernel
theorem dX7_beginDash_24 : decode cX7_beginDash 24 = .ok (.return_, 1) := by decide +kernel
theorem dX7_countOne_0 : decode cX7_countOne 0 = .ok (.aload_n 0, 1) := by decide +kernel
theorem dX7_countOne_1 : decode cX7_countOne 1 = .ok (.getfield 37, 3) := by decide +kernel
theorem dX7_countOne_4 : decode cX7_countOne 4 = .ok (.sipush 20000, 3) := by decide +kernel
theorem dX7_countOne_7 : decode cX7_countOne 7 = .ok (.if_icmp .lt 13, 3) := by decide +kernel
theorem dX7_countOne_10 : decode cX7_countOne 10 = .ok (.aload_n 0, 1) := by decide +kernel
theorem dX7_countOne_11 : decode cX7_countOne 11 = .ok (.getfield 33, 3) := by decide +kernel
theorem dX7_countOne_14 : decode cX7_countOne 14 = .ok (.bipush (-3), 2) := by decide +kernel
theorem dX7_countOne_16 : decode cX7_countOne 16 = .ok (.invokevirtual 134, 3) := by decide +kernel
theorem dX7_countOne_19 : decode cX7_countOne 19 = .ok (.return_, 1) := by decide +kernel
theorem dX7_countOne_20 : decode cX7_countOne 20 = .ok (.aload_n 0, 1) := by decide +kernel
theorem dX7_countOne_21 : decode cX7_countOne 21 = .ok (.dup, 1) := by decide +kernel
theorem dX7_countOne_22 : decode cX7_countOne 22 = .ok (.getfield 37, 3) := by decide +kernel
theorem dX7_countOne_25 : decode cX7_countOne 25 = .ok (.iconst 1, 1) := by decide +kernel
theorem dX7_countOne_26 : decode cX7_countOne 26 = .ok (.iadd, 1) := by decide +kernel
theorem dX7_countOne_27 : decode cX7_countOne 27 = .ok (.putfield 37, 3) := by decide +kernel
theorem dX7_countOne_30 : decode cX7_countOne 30 = .ok (.return_, 1) := by decide +kernel
theorem dX7_init_0 : decode cX7_init 0 = .ok (.aload_n 0, 1) := by decide +kernel
theorem dX7_init_1 : decode cX7_init 1 = .ok (.invokespecial 3, 3) := by decide +kernel
theorem dX7_init_4 : decode cX7_init 4 = .ok (.aload_n 0, 1) := by decide +kernel
theorem dX7_init_5 : decode cX7_init 5 = .ok (.new 9, 3) := by decide +kernel
theorem dX7_init_8 : decode cX7_init 8 = .ok (.dup, 1) := by decide +kernel
theorem dX7_init_9 : decode cX7_init 9 = .ok (.invokespecial 11, 3) := by decide +kernel
theorem dX7_init_12 : decode cX7_init 12 = .ok (.putfield 12, 3) := by decide +kernel
theorem dX7_init_15 : decode cX7_init 15 = .ok (.aload_n 0, 1) := by decide +kernel
theorem dX7_init_16 : decode cX7_init 16 = .ok (.new 18, 3) := by decide +kernel
theorem dX7_init_19 : decode cX7_init 19 = .ok (.dup, 1) := by decide +kernel
theorem dX7_init_20 : decode cX7_init 20 = .ok (.invokespecial 20, 3) := by decide +kernel
theorem dX7_init_23 : decode cX7_init 23 = .ok (.putfield 21, 3) := by decide +kernel
theorem dX7_init_26 : decode cX7_init 26 = .ok (.aload_n 0, 1) := by decide +kernel
theorem dX7_init_27 : decode cX7_init 27 = .ok (.aload_n 1, 1) := by decide +kernel
theorem dX7_init_28 : decode cX7_init 28 = .ok (.putfield 25, 3) := by decide +kernel
theorem dX7_init_31 : decode cX7_init 31 = .ok (.aload_n 0, 1) := by decide +kernel
theorem dX7_init_32 : decode cX7_init 32 = .ok (.aload_n 2, 1) := by decide +kernel
theorem dX7_init_33 : decode cX7_init 33 = .ok (.putfield 29, 3) := by decide +kernel
theorem dX7_init_36 : decode cX7_init 36 = .ok (.aload_n 0, 1) := by decide +kernel
theorem dX7_init_37 : decode cX7_init 37 = .ok (.aload_n 3, 1) := by decide +kernel
theorem dX7_init_38 : decode cX7_init 38 = .ok (.putfield 33, 3) := by decide +kernel
theorem dX7_init_41 : decode cX7_init 41 = .ok (.return_, 1) := by decide +kernel
theorem dX7_pass_0 : decode cX7_pass 0 = .ok (.lconst 0, 1) := by decide +kernel
theorem dX7_pass_1 : decode cX7_pass 1 = .ok (.lstore_n 1, 1) := by decide +kernel
theorem dX7_pass_2 : decode cX7_pass 2 = .ok (.iconst 0, 1) := by decide +kernel
theorem dX7_pass_3 : decode cX7_pass 3 = .ok (.istore_n 3, 1) := by decide +kernel
theorem dX7_pass_4 : decode cX7_pass 4 = .ok (.iload_n 3, 1) := by decide +kernel
theorem dX7_pass_5 : decode cX7_pass 5 = .ok (.sipush 20000, 3) := by decide +kernel
theorem dX7_pass_8 : decode cX7_pass 8 = .ok (.if_icmp .gt 104, 3) := by decide +kernel
theorem dX7_pass_11 : decode cX7_pass 11 = .ok (.aload_n 0, 1) := by decide +kernel
theorem dX7_pass_12 : decode cX7_pass 12 = .ok (.getfield 57, 3) := by decide +kernel
theorem dX7_pass_15 : decode cX7_pass 15 = .ok (.aload_n 0, 1) := by decide +kernel
theorem dX7_pass_16 : decode cX7_pass 16 = .ok (.getfield 12, 3) := by decide +kernel
theorem dX7_pass_19 : decode cX7_pass 19 = .ok (.getfield 101, 3) := by decide +kernel
theorem dX7_pass_22 : decode cX7_pass 22 = .ok (.lload_n 1, 1) := by decide +kernel
theorem dX7_pass_23 : decode cX7_pass 23 = .ok (.lsub, 1) := by decide +kernel
theorem dX7_pass_24 : decode cX7_pass 24 = .ok (.lcmp, 1) := by decide +kernel
theorem dX7_pass_25 : decode cX7_pass 25 = .ok (.ifCond .ge 87, 3) := by decide +kernel
theorem dX7_pass_28 : decode cX7_pass 28 = .ok (.aload_n 0, 1) := by decide +kernel
theorem dX7_pass_29 : decode cX7_pass 29 = .ok (.getfield 33, 3) := by decide +kernel
theorem dX7_pass_32 : decode cX7_pass 32 = .ok (.invokevirtual 83, 3) := by decide +kernel
theorem dX7_pass_35 : decode cX7_pass 35 = .ok (.ifCond .eq 77, 3) := by decide +kernel
theorem dX7_pass_38 : decode cX7_pass 38 = .ok (.lload_n 1, 1) := by decide +kernel
theorem dX7_pass_39 : decode cX7_pass 39 = .ok (.aload_n 0, 1) := by decide +kernel
theorem dX7_pass_40 : decode cX7_pass 40 = .ok (.getfield 57, 3) := by decide +kernel
theorem dX7_pass_43 : decode cX7_pass 43 = .ok (.ladd, 1) := by decide +kernel
theorem dX7_pass_44 : decode cX7_pass 44 = .ok (.lstore_n 1, 1) := by decide +kernel
theorem dX7_pass_45 : decode cX7_pass 45 = .ok (.aload_n 0, 1) := by decide +kernel
theorem dX7_pass_46 : decode cX7_pass 46 = .ok (.getfield 12, 3) := by decide +kernel
theorem dX7_pass_49 : decode cX7_pass 49 = .ok (.lload_n 1, 1) := by decide +kernel
theorem dX7_pass_50 : decode cX7_pass 50 = .ok (.invokevirtual 104, 3) := by decide +kernel
theorem dX7_pass_53 : decode cX7_pass 53 = .ok (.istore 4, 2) := by decide +kernel
theorem dX7_pass_55 : decode cX7_pass 55 = .ok (.aload_n 0, 1) := by decide +kernel
theorem dX7_pass_56 : decode cX7_pass 56 = .ok (.getfield 12, 3) := by decide +kernel
theorem dX7_pass_59 : decode cX7_pass 59 = .ok (.lload_n 1, 1) := by decide +kernel
theorem dX7_pass_60 : decode cX7_pass 60 = .ok (.invokevirtual 108, 3) := by decide +kernel
theorem dX7_pass_63 : decode cX7_pass 63 = .ok (.istore 5, 2) := by decide +kernel
theorem dX7_pass_65 : decode cX7_pass 65 = .ok (.aload_n 0, 1) := by decide +kernel
theorem dX7_pass_66 : decode cX7_pass 66 = .ok (.getfield 65, 3) := by decide +kernel
theorem dX7_pass_69 : decode cX7_pass 69 = .ok (.ifCond .ne 25, 3) := by decide +kernel
theorem dX7_pass_72 : decode cX7_pass 72 = .ok (.aload_n 0, 1) := by decide +kernel
theorem dX7_pass_73 : decode cX7_pass 73 = .ok (.getfield 21, 3) := by decide +kernel
theorem dX7_pass_76 : decode cX7_pass 76 = .ok (.iload 4, 2) := by decide +kernel
theorem dX7_pass_78 : decode cX7_pass 78 = .ok (.iload 5, 2) := by decide +kernel
theorem dX7_pass_80 : decode cX7_pass 80 = .ok (.invokevirtual 111, 3) := by decide +kernel
theorem dX7_pass_83 : decode cX7_pass 83 = .ok (.aload_n 0, 1) := by decide +kernel
theorem dX7_pass_84 : decode cX7_pass 84 = .ok (.getfield 29, 3) := by decide +kernel
theorem dX7_pass_87 : decode cX7_pass 87 = .ok (.aload_n 0, 1) := by decide +kernel
theorem dX7_pass_88 : decode cX7_pass 88 = .ok (.getfield 21, 3) := by decide +kernel
theorem dX7_pass_91 : decode cX7_pass 91 = .ok (.invokevirtual 95, 3) := by decide +kernel
theorem dX7_pass_94 : decode cX7_pass 94 = .ok (.aload_n 0, 1) := by decide +kernel
theorem dX7_pass_95 : decode cX7_pass 95 = .ok (.invokevirtual 114, 3) := by decide +kernel
theorem dX7_pass_98 : decode cX7_pass 98 = .ok (.aload_n 0, 1) := by decide +kernel
theorem dX7_pass_99 : decode cX7_pass 99 = .ok (.iload 4, 2) := by decide +kernel
end
section
theorem dX7_pass_101 : decode cX7_pass 101 = .ok (.iload 5, 2) := by decide +kernel
theorem dX7_pass_103 : decode cX7_pass 103 = .ok (.invokevirtual 79, 3) := by decide +kernel
theorem dX7_pass_106 : decode cX7_pass 106 = .ok (.iinc 3 1, 3) := by decide +kernel
theorem dX7_pass_109 : decode cX7_pass 109 = .ok (.goto (-105), 3) := by decide +kernel
theorem dX7_pass_112 : decode cX7_pass 112 = .ok (.aload_n 0, 1) := by decide +kernel
theorem dX7_pass_113 : decode cX7_pass 113 = .ok (.dup, 1) := by decide +kernel
theorem dX7_pass_114 : decode cX7_pass 114 = .ok (.getfield 57, 3) := by decide +kernel
theorem dX7_pass_117 : decode cX7_pass 117 = .ok (.aload_n 0, 1) := by decide +kernel
theorem dX7_pass_118 : decode cX7_pass 118 = .ok (.getfield 12, 3) := by decide +kernel
theorem dX7_pass_121 : decode cX7_pass 121 = .ok (.getfield 101, 3) := by decide +kernel
theorem dX7_pass_124 : decode cX7_pass 124 = .ok (.lload_n 1, 1) := by decide +kernel
theorem dX7_pass_125 : decode cX7_pass 125 = .ok (.lsub, 1) := by decide +kernel
theorem dX7_pass_126 : decode cX7_pass 126 = .ok (.lsub, 1) := by decide +kernel
theorem dX7_pass_127 : decode cX7_pass 127 = .ok (.putfield 57, 3) := by decide +kernel
theorem dX7_pass_130 : decode cX7_pass 130 = .ok (.aload_n 0, 1) := by decide +kernel
theorem dX7_pass_131 : decode cX7_pass 131 = .ok (.getfield 65, 3) := by decide +kernel
theorem dX7_pass_134 : decode cX7_pass 134 = .ok (.ifCond .ne 26, 3) := by decide +kernel
theorem dX7_pass_137 : decode cX7_pass 137 = .ok (.aload_n 0, 1) := by decide +kernel
theorem dX7_pass_138 : decode cX7_pass 138 = .ok (.getfield 21, 3) := by decide +kernel
theorem dX7_pass_141 : decode cX7_pass 141 = .ok (.aload_n 0, 1) := by decide +kernel
theorem dX7_pass_142 : decode cX7_pass 142 = .ok (.getfield 12, 3) := by decide +kernel
theorem dX7_pass_145 : decode cX7_pass 145 = .ok (.getfield 117, 3) := by decide +kernel
theorem dX7_pass_148 : decode cX7_pass 148 = .ok (.l2i, 1) := by decide +kernel
theorem dX7_pass_149 : decode cX7_pass 149 = .ok (.aload_n 0, 1) := by decide +kernel
theorem dX7_pass_150 : decode cX7_pass 150 = .ok (.getfield 12, 3) := by decide +kernel
theorem dX7_pass_153 : decode cX7_pass 153 = .ok (.getfield 120, 3) := by decide +kernel
theorem dX7_pass_156 : decode cX7_pass 156 = .ok (.l2i, 1) := by decide +kernel
theorem dX7_pass_157 : decode cX7_pass 157 = .ok (.invokevirtual 111, 3) := by decide +kernel
theorem dX7_pass_160 : decode cX7_pass 160 = .ok (.return_, 1) := by decide +kernel
theorem dX7_reset_0 : decode cX7_reset 0 = .ok (.aload_n 0, 1) := by decide +kernel
theorem dX7_reset_1 : decode cX7_reset 1 = .ok (.iconst 0, 1) := by decide +kernel
theorem dX7_reset_2 : decode cX7_reset 2 = .ok (.putfield 37, 3) := by decide +kernel
theorem dX7_reset_5 : decode cX7_reset 5 = .ok (.return_, 1) := by decide +kernel
theorem dX7_takeNext_0 : decode cX7_takeNext 0 = .ok (.aload_n 0, 1) := by decide +kernel
theorem dX7_takeNext_1 : decode cX7_takeNext 1 = .ok (.invokevirtual 69, 3) := by decide +kernel
theorem dX7_takeNext_4 : decode cX7_takeNext 4 = .ok (.aload_n 0, 1) := by decide +kernel
theorem dX7_takeNext_5 : decode cX7_takeNext 5 = .ok (.aload_n 0, 1) := by decide +kernel
theorem dX7_takeNext_6 : decode cX7_takeNext 6 = .ok (.getfield 25, 3) := by decide +kernel
theorem dX7_takeNext_9 : decode cX7_takeNext 9 = .ok (.aload_n 0, 1) := by decide +kernel
theorem dX7_takeNext_10 : decode cX7_takeNext 10 = .ok (.getfield 50, 3) := by decide +kernel
theorem dX7_takeNext_13 : decode cX7_takeNext 13 = .ok (.invokevirtual 123, 3) := by decide +kernel
theorem dX7_takeNext_16 : decode cX7_takeNext 16 = .ok (.putfield 50, 3) := by decide +kernel
theorem dX7_takeNext_19 : decode cX7_takeNext 19 = .ok (.aload_n 0, 1) := by decide +kernel
theorem dX7_takeNext_20 : decode cX7_takeNext 20 = .ok (.aload_n 0, 1) := by decide +kernel
theorem dX7_takeNext_21 : decode cX7_takeNext 21 = .ok (.getfield 25, 3) := by decide +kernel
theorem dX7_takeNext_24 : decode cX7_takeNext 24 = .ok (.aload_n 0, 1) := by decide +kernel
theorem dX7_takeNext_25 : decode cX7_takeNext 25 = .ok (.getfield 50, 3) := by decide +kernel
theorem dX7_takeNext_28 : decode cX7_takeNext 28 = .ok (.invokevirtual 126, 3) := by decide +kernel
theorem dX7_takeNext_31 : decode cX7_takeNext 31 = .ok (.putfield 57, 3) := by decide +kernel
theorem dX7_takeNext_34 : decode cX7_takeNext 34 = .ok (.aload_n 0, 1) := by decide +kernel
theorem dX7_takeNext_35 : decode cX7_takeNext 35 = .ok (.aload_n 0, 1) := by decide +kernel
theorem dX7_takeNext_36 : decode cX7_takeNext 36 = .ok (.getfield 65, 3) := by decide +kernel
theorem dX7_takeNext_39 : decode cX7_takeNext 39 = .ok (.ifCond .ne 7, 3) := by decide +kernel
theorem dX7_takeNext_42 : decode cX7_takeNext 42 = .ok (.iconst 1, 1) := by decide +kernel
theorem dX7_takeNext_43 : decode cX7_takeNext 43 = .ok (.goto 4, 3) := by decide +kernel
theorem dX7_takeNext_46 : decode cX7_takeNext 46 = .ok (.iconst 0, 1) := by decide +kernel
theorem dX7_takeNext_47 : decode cX7_takeNext 47 = .ok (.putfield 65, 3) := by decide +kernel
theorem dX7_takeNext_50 : decode cX7_takeNext 50 = .ok (.return_, 1) := by decide +kernel
theorem dX7_taken_0 : decode cX7_taken 0 = .ok (.aload_n 0, 1) := by decide +kernel
theorem dX7_taken_1 : decode cX7_taken 1 = .ok (.getfield 37, 3) := by decide +kernel
theorem dX7_taken_4 : decode cX7_taken 4 = .ok (.ireturn, 1) := by decide +kernel
theorem dX8_clear_0 : decode cX8_clear 0 = .ok (.aload_n 0, 1) := by decide +kernel
theorem dX8_clear_1 : decode cX8_clear 1 = .ok (.getfield 33, 3) := by decide +kernel
theorem dX8_clear_4 : decode cX8_clear 4 = .ok (.invokevirtual 73, 3) := by decide +kernel
theorem dX8_clear_7 : decode cX8_clear 7 = .ok (.aload_n 0, 1) := by decide +kernel
theorem dX8_clear_8 : decode cX8_clear 8 = .ok (.getfield 12, 3) := by decide +kernel
theorem dX8_clear_11 : decode cX8_clear 11 = .ok (.invokevirtual 76, 3) := by decide +kernel
theorem dX8_clear_14 : decode cX8_clear 14 = .ok (.ireturn, 1) := by decide +kernel
theorem dX8_close_0 : decode cX8_close 0 = .ok (.aload_n 0, 1) := by decide +kernel
theorem dX8_close_1 : decode cX8_close 1 = .ok (.getfield 12, 3) := by decide +kernel
theorem dX8_close_4 : decode cX8_close 4 = .ok (.invokevirtual 69, 3) := by decide +kernel
theorem dX8_close_7 : decode cX8_close 7 = .ok (.ireturn, 1) := by decide +kernel
theorem dX8_corner_0 : decode cX8_corner 0 = .ok (.aload_n 0, 1) := by decide +kernel
theorem dX8_corner_1 : decode cX8_corner 1 = .ok (.getfield 33, 3) := by decide +kernel
theorem dX8_corner_4 : decode cX8_corner 4 = .ok (.iload_n 1, 1) := by decide +kernel
theorem dX8_corner_5 : decode cX8_corner 5 = .ok (.iload_n 2, 1) := by decide +kernel
theorem dX8_corner_6 : decode cX8_corner 6 = .ok (.iload_n 3, 1) := by decide +kernel
theorem dX8_corner_7 : decode cX8_corner 7 = .ok (.invokevirtual 121, 3) := by decide +kernel
theorem dX8_corner_10 : decode cX8_corner 10 = .ok (.ireturn, 1) := by decide +kernel
theorem dX8_dashes_0 : decode cX8_dashes 0 = .ok (.aload_n 0, 1) := by decide +kernel
theorem dX8_dashes_1 : decode cX8_dashes 1 = .ok (.getfield 26, 3) := by decide +kernel
theorem dX8_dashes_4 : decode cX8_dashes 4 = .ok (.iload_n 1, 1) := by decide +kernel
theorem dX8_dashes_5 : decode cX8_dashes 5 = .ok (.iload_n 2, 1) := by decide +kernel
theorem dX8_dashes_6 : decode cX8_dashes 6 = .ok (.invokevirtual 86, 3) := by decide +kernel
theorem dX8_dashes_9 : decode cX8_dashes 9 = .ok (.ireturn, 1) := by decide +kernel
theorem dX8_init_0 : decode cX8_init 0 = .ok (.aload_n 0, 1) := by decide +kernel
theorem dX8_init_1 : decode cX8_init 1 = .ok (.invokespecial 3, 3) := by decide +kernel
theorem dX8_init_4 : decode cX8_init 4 = .ok (.aload_n 0, 1) := by decide +kernel
theorem dX8_init_5 : decode cX8_init 5 = .ok (.new 9, 3) := by decide +kernel
theorem dX8_init_8 : decode cX8_init 8 = .ok (.dup, 1) := by decide +kernel
theorem dX8_init_9 : decode cX8_init 9 = .ok (.invokespecial 11, 3) := by decide +kernel
theorem dX8_init_12 : decode cX8_init 12 = .ok (.putfield 12, 3) := by decide +kernel
theorem dX8_init_15 : decode cX8_init 15 = .ok (.aload_n 0, 1) := by decide +kernel
theorem dX8_init_16 : decode cX8_init 16 = .ok (.new 16, 3) := by decide +kernel
theorem dX8_init_19 : decode cX8_init 19 = .ok (.dup, 1) := by decide +kernel
theorem dX8_init_20 : decode cX8_init 20 = .ok (.invokespecial 18, 3) := by decide +kernel
theorem dX8_init_23 : decode cX8_init 23 = .ok (.putfield 19, 3) := by decide +kernel
theorem dX8_init_26 : decode cX8_init 26 = .ok (.aload_n 0, 1) := by decide +kernel
theorem dX8_init_27 : decode cX8_init 27 = .ok (.new 23, 3) := by decide +kernel
theorem dX8_init_30 : decode cX8_init 30 = .ok (.dup, 1) := by decide +kernel
theorem dX8_init_31 : decode cX8_init 31 = .ok (.invokespecial 25, 3) := by decide +kernel
theorem dX8_init_34 : decode cX8_init 34 = .ok (.putfield 26, 3) := by decide +kernel
theorem dX8_init_37 : decode cX8_init 37 = .ok (.aload_n 0, 1) := by decide +kernel
theorem dX8_init_38 : decode cX8_init 38 = .ok (.new 30, 3) := by decide +kernel
theorem dX8_init_41 : decode cX8_init 41 = .ok (.dup, 1) := by decide +kernel
theorem dX8_init_42 : decode cX8_init 42 = .ok (.invokespecial 32, 3) := by decide +kernel
theorem dX8_init_45 : decode cX8_init 45 = .ok (.putfield 33, 3) := by decide +kernel
theorem dX8_init_48 : decode cX8_init 48 = .ok (.aload_n 0, 1) := by decide +kernel
theorem dX8_init_49 : decode cX8_init 49 = .ok (.new 37, 3) := by decide +kernel
theorem dX8_init_52 : decode cX8_init 52 = .ok (.dup, 1) := by decide +kernel
theorem dX8_init_53 : decode cX8_init 53 = .ok (.aload_n 0, 1) := by decide +kernel
theorem dX8_init_54 : decode cX8_init 54 = .ok (.getfield 19, 3) := by decide +kernel
theorem dX8_init_57 : decode cX8_init 57 = .ok (.aload_n 0, 1) := by decide +kernel
theorem dX8_init_58 : decode cX8_init 58 = .ok (.getfield 33, 3) := by decide +kernel
theorem dX8_init_61 : decode cX8_init 61 = .ok (.invokespecial 39, 3) := by decide +kernel
theorem dX8_init_64 : decode cX8_init 64 = .ok (.putfield 42, 3) := by decide +kernel
theorem dX8_init_67 : decode cX8_init 67 = .ok (.aload_n 0, 1) := by decide +kernel
theorem dX8_init_68 : decode cX8_init 68 = .ok (.new 46, 3) := by decide +kernel
theorem dX8_init_71 : decode cX8_init 71 = .ok (.dup, 1) := by decide +kernel
theorem dX8_init_72 : decode cX8_init 72 = .ok (.aload_n 0, 1) := by decide +kernel
theorem dX8_init_73 : decode cX8_init 73 = .ok (.getfield 26, 3) := by decide +kernel
theorem dX8_init_76 : decode cX8_init 76 = .ok (.aload_n 0, 1) := by decide +kernel
theorem dX8_init_77 : decode cX8_init 77 = .ok (.getfield 42, 3) := by decide +kernel
theorem dX8_init_80 : decode cX8_init 80 = .ok (.aload_n 0, 1) := by decide +kernel
theorem dX8_init_81 : decode cX8_init 81 = .ok (.getfield 33, 3) := by decide +kernel
theorem dX8_init_84 : decode cX8_init 84 = .ok (.invokespecial 48, 3) := by decide +kernel
theorem dX8_init_87 : decode cX8_init 87 = .ok (.putfield 51, 3) := by decide +kernel
theorem dX8_init_90 : decode cX8_init 90 = .ok (.aload_n 0, 1) := by decide +kernel
theorem dX8_init_91 : decode cX8_init 91 = .ok (.new 55, 3) := by decide +kernel
theorem dX8_init_94 : decode cX8_init 94 = .ok (.dup, 1) := by decide +kernel
theorem dX8_init_95 : decode cX8_init 95 = .ok (.invokespecial 57, 3) := by decide +kernel
theorem dX8_init_98 : decode cX8_init 98 = .ok (.putfield 58, 3) := by decide +kernel
theorem dX8_init_101 : decode cX8_init 101 = .ok (.return_, 1) := by decide +kernel
theorem dX8_isPlace_0 : decode cX8_isPlace 0 = .ok (.lload_n 0, 1) := by decide +kernel
theorem dX8_isPlace_1 : decode cX8_isPlace 1 = .ok (.ldc2_w 128, 3) := by decide +kernel
theorem dX8_isPlace_4 : decode cX8_isPlace 4 = .ok (.lcmp, 1) := by decide +kernel
theorem dX8_isPlace_5 : decode cX8_isPlace 5 = .ok (.ifCond .lt 15, 3) := by decide +kernel
theorem dX8_isPlace_8 : decode cX8_isPlace 8 = .ok (.lload_n 0, 1) := by decide +kernel
theorem dX8_isPlace_9 : decode cX8_isPlace 9 = .ok (.ldc2_w 130, 3) := by decide +kernel
theorem dX8_isPlace_12 : decode cX8_isPlace 12 = .ok (.lcmp, 1) := by decide +kernel
theorem dX8_isPlace_13 : decode cX8_isPlace 13 = .ok (.ifCond .gt 7, 3) := by decide +kernel
theorem dX8_isPlace_16 : decode cX8_isPlace 16 = .ok (.iconst 1, 1) := by decide +kernel
theorem dX8_isPlace_17 : decode cX8_isPlace 17 = .ok (.goto 4, 3) := by decide +kernel
theorem dX8_isPlace_20 : decode cX8_isPlace 20 = .ok (.iconst 0, 1) := by decide +kernel
theorem dX8_isPlace_21 : decode cX8_isPlace 21 = .ok (.ireturn, 1) := by decide +kernel
theorem dX8_isUnits_0 : decode cX8_isUnits 0 = .ok (.iload_n 0, 1) := by decide +kernel
theorem dX8_isUnits_1 : decode cX8_isUnits 1 = .ok (.ifCond .lt 13, 3) := by decide +kernel
theorem dX8_isUnits_4 : decode cX8_isUnits 4 = .ok (.iload_n 0, 1) := by decide +kernel
theorem dX8_isUnits_5 : decode cX8_isUnits 5 = .ok (.ldc 132, 2) := by decide +kernel
theorem dX8_isUnits_7 : decode cX8_isUnits 7 = .ok (.if_icmp .gt 7, 3) := by decide +kernel
theorem dX8_isUnits_10 : decode cX8_isUnits 10 = .ok (.iconst 1, 1) := by decide +kernel
theorem dX8_isUnits_11 : decode cX8_isUnits 11 = .ok (.goto 4, 3) := by decide +kernel
theorem dX8_isUnits_14 : decode cX8_isUnits 14 = .ok (.iconst 0, 1) := by decide +kernel
theorem dX8_isUnits_15 : decode cX8_isUnits 15 = .ok (.ireturn, 1) := by decide +kernel
theorem dX8_length_0 : decode cX8_length 0 = .ok (.aload_n 0, 1) := by decide +kernel
theorem dX8_length_1 : decode cX8_length 1 = .ok (.getfield 26, 3) := by decide +kernel
theorem dX8_length_4 : decode cX8_length 4 = .ok (.iload_n 1, 1) := by decide +kernel
theorem dX8_length_5 : decode cX8_length 5 = .ok (.iload_n 2, 1) := by decide +kernel
theorem dX8_length_6 : decode cX8_length 6 = .ok (.invokevirtual 82, 3) := by decide +kernel
theorem dX8_length_9 : decode cX8_length 9 = .ok (.ireturn, 1) := by decide +kernel
theorem dX8_line_0 : decode cX8_line 0 = .ok (.aload_n 0, 1) := by decide +kernel
theorem dX8_line_1 : decode cX8_line 1 = .ok (.getfield 12, 3) := by decide +kernel
theorem dX8_line_4 : decode cX8_line 4 = .ok (.iload_n 1, 1) := by decide +kernel
theorem dX8_line_5 : decode cX8_line 5 = .ok (.iload_n 2, 1) := by decide +kernel
theorem dX8_line_6 : decode cX8_line 6 = .ok (.invokevirtual 66, 3) := by decide +kernel
theorem dX8_line_9 : decode cX8_line 9 = .ok (.ireturn, 1) := by decide +kernel
theorem dX8_move_0 : decode cX8_move 0 = .ok (.aload_n 0, 1) := by decide +kernel
theorem dX8_move_1 : decode cX8_move 1 = .ok (.getfield 12, 3) := by decide +kernel
theorem dX8_move_4 : decode cX8_move 4 = .ok (.iload_n 1, 1) := by decide +kernel
theorem dX8_move_5 : decode cX8_move 5 = .ok (.iload_n 2, 1) := by decide +kernel
theorem dX8_move_6 : decode cX8_move 6 = .ok (.invokevirtual 62, 3) := by decide +kernel
theorem dX8_move_9 : decode cX8_move 9 = .ok (.ireturn, 1) := by decide +kernel
theorem dX8_pen_0 : decode cX8_pen 0 = .ok (.aload_n 0, 1) := by decide +kernel
theorem dX8_pen_1 : decode cX8_pen 1 = .ok (.getfield 19, 3) := by decide +kernel
theorem dX8_pen_4 : decode cX8_pen 4 = .ok (.iload_n 1, 1) := by decide +kernel
theorem dX8_pen_5 : decode cX8_pen 5 = .ok (.iload_n 2, 1) := by decide +kernel
theorem dX8_pen_6 : decode cX8_pen 6 = .ok (.iload_n 3, 1) := by decide +kernel
theorem dX8_pen_7 : decode cX8_pen 7 = .ok (.iload 4, 2) := by decide +kernel
theorem dX8_pen_9 : decode cX8_pen 9 = .ok (.invokevirtual 78, 3) := by decide +kernel
theorem dX8_pen_12 : decode cX8_pen 12 = .ok (.ireturn, 1) := by decide +kernel
theorem dX8_pieces_0 : decode cX8_pieces 0 = .ok (.aload_n 0, 1) := by decide +kernel
theorem dX8_pieces_1 : decode cX8_pieces 1 = .ok (.getfield 33, 3) := by decide +kernel
theorem dX8_pieces_4 : decode cX8_pieces 4 = .ok (.invokevirtual 113, 3) := by decide +kernel
theorem dX8_pieces_7 : decode cX8_pieces 7 = .ok (.ireturn, 1) := by decide +kernel
theorem dX8_root_0 : decode cX8_root 0 = .ok (.lload_n 0, 1) := by decide +kernel
theorem dX8_root_1 : decode cX8_root 1 = .ok (.lstore_n 2, 1) := by decide +kernel
theorem dX8_root_2 : decode cX8_root 2 = .ok (.lconst 0, 1) := by decide +kernel
theorem dX8_root_3 : decode cX8_root 3 = .ok (.lstore 4, 2) := by decide +kernel
theorem dX8_root_5 : decode cX8_root 5 = .ok (.ldc2_w 141, 3) := by decide +kernel
theorem dX8_root_8 : decode cX8_root 8 = .ok (.lstore 6, 2) := by decide +kernel
theorem dX8_root_10 : decode cX8_root 10 = .ok (.lload 6, 2) := by decide +kernel
theorem dX8_root_12 : decode cX8_root 12 = .ok (.lconst 0, 1) := by decide +kernel
theorem dX8_root_13 : decode cX8_root 13 = .ok (.lcmp, 1) := by decide +kernel
theorem dX8_root_14 : decode cX8_root 14 = .ok (.ifCond .le 48, 3) := by decide +kernel
theorem dX8_root_17 : decode cX8_root 17 = .ok (.lload_n 2, 1) := by decide +kernel
theorem dX8_root_18 : decode cX8_root 18 = .ok (.lload 4, 2) := by decide +kernel
theorem dX8_root_20 : decode cX8_root 20 = .ok (.lload 6, 2) := by decide +kernel
theorem dX8_root_22 : decode cX8_root 22 = .ok (.ladd, 1) := by decide +kernel
theorem dX8_root_23 : decode cX8_root 23 = .ok (.lcmp, 1) := by decide +kernel
theorem dX8_root_24 : decode cX8_root 24 = .ok (.ifCond .lt 23, 3) := by decide +kernel
theorem dX8_root_27 : decode cX8_root 27 = .ok (.lload_n 2, 1) := by decide +kernel
theorem dX8_root_28 : decode cX8_root 28 = .ok (.lload 4, 2) := by decide +kernel
theorem dX8_root_30 : decode cX8_root 30 = .ok (.lload 6, 2) := by decide +kernel
theorem dX8_root_32 : decode cX8_root 32 = .ok (.ladd, 1) := by decide +kernel
theorem dX8_root_33 : decode cX8_root 33 = .ok (.lsub, 1) := by decide +kernel
theorem dX8_root_34 : decode cX8_root 34 = .ok (.lstore_n 2, 1) := by decide +kernel
theorem dX8_root_35 : decode cX8_root 35 = .ok (.lload 4, 2) := by decide +kernel
theorem dX8_root_37 : decode cX8_root 37 = .ok (.iconst 1, 1) := by decide +kernel
theorem dX8_root_38 : decode cX8_root 38 = .ok (.lshr, 1) := by decide +kernel
theorem dX8_root_39 : decode cX8_root 39 = .ok (.lload 6, 2) := by decide +kernel
theorem dX8_root_41 : decode cX8_root 41 = .ok (.ladd, 1) := by decide +kernel
theorem dX8_root_42 : decode cX8_root 42 = .ok (.lstore 4, 2) := by decide +kernel
theorem dX8_root_44 : decode cX8_root 44 = .ok (.goto 9, 3) := by decide +kernel
theorem dX8_root_47 : decode cX8_root 47 = .ok (.lload 4, 2) := by decide +kernel
theorem dX8_root_49 : decode cX8_root 49 = .ok (.iconst 1, 1) := by decide +kernel
theorem dX8_root_50 : decode cX8_root 50 = .ok (.lshr, 1) := by decide +kernel
theorem dX8_root_51 : decode cX8_root 51 = .ok (.lstore 4, 2) := by decide +kernel
theorem dX8_root_53 : decode cX8_root 53 = .ok (.lload 6, 2) := by decide +kernel
theorem dX8_root_55 : decode cX8_root 55 = .ok (.iconst 2, 1) := by decide +kernel
theorem dX8_root_56 : decode cX8_root 56 = .ok (.lshr, 1) := by decide +kernel
theorem dX8_root_57 : decode cX8_root 57 = .ok (.lstore 6, 2) := by decide +kernel
theorem dX8_root_59 : decode cX8_root 59 = .ok (.goto (-49), 3) := by decide +kernel
theorem dX8_root_62 : decode cX8_root 62 = .ok (.lload 4, 2) := by decide +kernel
theorem dX8_root_64 : decode cX8_root 64 = .ok (.lreturn, 1) := by decide +kernel
theorem dX8_rounded_0 : decode cX8_rounded 0 = .ok (.lload_n 2, 1) := by decide +kernel
theorem dX8_rounded_1 : decode cX8_rounded 1 = .ok (.lconst 0, 1) := by decide +kernel
theorem dX8_rounded_2 : decode cX8_rounded 2 = .ok (.lcmp, 1) := by decide +kernel
theorem dX8_rounded_3 : decode cX8_rounded 3 = .ok (.ifCond .gt 5, 3) := by decide +kernel
theorem dX8_rounded_6 : decode cX8_rounded 6 = .ok (.lconst 0, 1) := by decide +kernel
theorem dX8_rounded_7 : decode cX8_rounded 7 = .ok (.lreturn, 1) := by decide +kernel
theorem dX8_rounded_8 : decode cX8_rounded 8 = .ok (.ldc2_w 133, 3) := by decide +kernel
theorem dX8_rounded_11 : decode cX8_rounded 11 = .ok (.lload_n 0, 1) := by decide +kernel
theorem dX8_rounded_12 : decode cX8_rounded 12 = .ok (.lmul, 1) := by decide +kernel
theorem dX8_rounded_13 : decode cX8_rounded 13 = .ok (.lload_n 2, 1) := by decide +kernel
theorem dX8_rounded_14 : decode cX8_rounded 14 = .ok (.ladd, 1) := by decide +kernel
theorem dX8_rounded_15 : decode cX8_rounded 15 = .ok (.ldc2_w 133, 3) := by decide +kernel
theorem dX8_rounded_18 : decode cX8_rounded 18 = .ok (.lload_n 2, 1) := by decide +kernel
theorem dX8_rounded_19 : decode cX8_rounded 19 = .ok (.lmul, 1) := by decide +kernel
theorem dX8_rounded_20 : decode cX8_rounded 20 = .ok (.invokestatic 135, 3) := by decide +kernel
theorem dX8_rounded_23 : decode cX8_rounded 23 = .ok (.lreturn, 1) := by decide +kernel
theorem dX8_sort_0 : decode cX8_sort 0 = .ok (.aload_n 0, 1) := by decide +kernel
theorem dX8_sort_1 : decode cX8_sort 1 = .ok (.getfield 33, 3) := by decide +kernel
theorem dX8_sort_4 : decode cX8_sort 4 = .ok (.iload_n 1, 1) := by decide +kernel
theorem dX8_sort_5 : decode cX8_sort 5 = .ok (.invokevirtual 117, 3) := by decide +kernel
theorem dX8_sort_8 : decode cX8_sort 8 = .ok (.ireturn, 1) := by decide +kernel
theorem dX8_stroke_0 : decode cX8_stroke 0 = .ok (.aload_n 0, 1) := by decide +kernel
theorem dX8_stroke_1 : decode cX8_stroke 1 = .ok (.getfield 33, 3) := by decide +kernel
theorem dX8_stroke_4 : decode cX8_stroke 4 = .ok (.invokevirtual 73, 3) := by decide +kernel
theorem dX8_stroke_7 : decode cX8_stroke 7 = .ok (.aload_n 0, 1) := by decide +kernel
theorem dX8_stroke_8 : decode cX8_stroke 8 = .ok (.getfield 51, 3) := by decide +kernel
theorem dX8_stroke_11 : decode cX8_stroke 11 = .ok (.invokevirtual 89, 3) := by decide +kernel
theorem dX8_stroke_14 : decode cX8_stroke 14 = .ok (.aload_n 0, 1) := by decide +kernel
theorem dX8_stroke_15 : decode cX8_stroke 15 = .ok (.getfield 12, 3) := by decide +kernel
theorem dX8_stroke_18 : decode cX8_stroke 18 = .ok (.invokevirtual 92, 3) := by decide +kernel
theorem dX8_stroke_21 : decode cX8_stroke 21 = .ok (.istore_n 1, 1) := by decide +kernel
theorem dX8_stroke_22 : decode cX8_stroke 22 = .ok (.iconst 0, 1) := by decide +kernel
theorem dX8_stroke_23 : decode cX8_stroke 23 = .ok (.istore_n 2, 1) := by decide +kernel
theorem dX8_stroke_24 : decode cX8_stroke 24 = .ok (.iload_n 2, 1) := by decide +kernel
theorem dX8_stroke_25 : decode cX8_stroke 25 = .ok (.iload_n 1, 1) := by decide +kernel
theorem dX8_stroke_26 : decode cX8_stroke 26 = .ok (.if_icmp .ge 66, 3) := by decide +kernel
theorem dX8_stroke_29 : decode cX8_stroke 29 = .ok (.aload_n 0, 1) := by decide +kernel
theorem dX8_stroke_30 : decode cX8_stroke 30 = .ok (.getfield 33, 3) := by decide +kernel
theorem dX8_stroke_33 : decode cX8_stroke 33 = .ok (.invokevirtual 95, 3) := by decide +kernel
theorem dX8_stroke_36 : decode cX8_stroke 36 = .ok (.ifCond .eq 56, 3) := by decide +kernel
theorem dX8_stroke_39 : decode cX8_stroke 39 = .ok (.aload_n 0, 1) := by decide +kernel
theorem dX8_stroke_40 : decode cX8_stroke 40 = .ok (.getfield 12, 3) := by decide +kernel
theorem dX8_stroke_43 : decode cX8_stroke 43 = .ok (.aload_n 0, 1) := by decide +kernel
theorem dX8_stroke_44 : decode cX8_stroke 44 = .ok (.getfield 58, 3) := by decide +kernel
theorem dX8_stroke_47 : decode cX8_stroke 47 = .ok (.iload_n 2, 1) := by decide +kernel
theorem dX8_stroke_48 : decode cX8_stroke 48 = .ok (.invokevirtual 99, 3) := by decide +kernel
theorem dX8_stroke_51 : decode cX8_stroke 51 = .ok (.aload_n 0, 1) := by decide +kernel
theorem dX8_stroke_52 : decode cX8_stroke 52 = .ok (.getfield 26, 3) := by decide +kernel
theorem dX8_stroke_55 : decode cX8_stroke 55 = .ok (.invokevirtual 103, 3) := by decide +kernel
theorem dX8_stroke_58 : decode cX8_stroke 58 = .ok (.ifCond .eq 17, 3) := by decide +kernel
theorem dX8_stroke_61 : decode cX8_stroke 61 = .ok (.aload_n 0, 1) := by decide +kernel
theorem dX8_stroke_62 : decode cX8_stroke 62 = .ok (.getfield 51, 3) := by decide +kernel
theorem dX8_stroke_65 : decode cX8_stroke 65 = .ok (.aload_n 0, 1) := by decide +kernel
theorem dX8_stroke_66 : decode cX8_stroke 66 = .ok (.getfield 58, 3) := by decide +kernel
theorem dX8_stroke_69 : decode cX8_stroke 69 = .ok (.invokevirtual 106, 3) := by decide +kernel
theorem dX8_stroke_72 : decode cX8_stroke 72 = .ok (.goto 14, 3) := by decide +kernel
theorem dX8_stroke_75 : decode cX8_stroke 75 = .ok (.aload_n 0, 1) := by decide +kernel
theorem dX8_stroke_76 : decode cX8_stroke 76 = .ok (.getfield 42, 3) := by decide +kernel
theorem dX8_stroke_79 : decode cX8_stroke 79 = .ok (.aload_n 0, 1) := by decide +kernel
theorem dX8_stroke_80 : decode cX8_stroke 80 = .ok (.getfield 58, 3) := by decide +kernel
theorem dX8_stroke_83 : decode cX8_stroke 83 = .ok (.invokevirtual 110, 3) := by decide +kernel
theorem dX8_stroke_86 : decode cX8_stroke 86 = .ok (.iinc 2 1, 3) := by decide +kernel
theorem dX8_stroke_89 : decode cX8_stroke 89 = .ok (.goto (-65), 3) := by decide +kernel
theorem dX8_stroke_92 : decode cX8_stroke 92 = .ok (.aload_n 0, 1) := by decide +kernel
theorem dX8_stroke_93 : decode cX8_stroke 93 = .ok (.getfield 33, 3) := by decide +kernel
theorem dX8_stroke_96 : decode cX8_stroke 96 = .ok (.invokevirtual 95, 3) := by decide +kernel
theorem dX8_stroke_99 : decode cX8_stroke 99 = .ok (.ifCond .eq 11, 3) := by decide +kernel
theorem dX8_stroke_102 : decode cX8_stroke 102 = .ok (.aload_n 0, 1) := by decide +kernel
theorem dX8_stroke_103 : decode cX8_stroke 103 = .ok (.getfield 33, 3) := by decide +kernel
theorem dX8_stroke_106 : decode cX8_stroke 106 = .ok (.invokevirtual 113, 3) := by decide +kernel
theorem dX8_stroke_109 : decode cX8_stroke 109 = .ok (.ireturn, 1) := by decide +kernel
theorem dX8_stroke_110 : decode cX8_stroke 110 = .ok (.aload_n 0, 1) := by decide +kernel
theorem dX8_stroke_111 : decode cX8_stroke 111 = .ok (.getfield 33, 3) := by decide +kernel
theorem dX8_stroke_114 : decode cX8_stroke 114 = .ok (.invokevirtual 114, 3) := by decide +kernel
theorem dX8_stroke_117 : decode cX8_stroke 117 = .ok (.istore_n 2, 1) := by decide +kernel
theorem dX8_stroke_118 : decode cX8_stroke 118 = .ok (.aload_n 0, 1) := by decide +kernel
theorem dX8_stroke_119 : decode cX8_stroke 119 = .ok (.getfield 33, 3) := by decide +kernel
theorem dX8_stroke_122 : decode cX8_stroke 122 = .ok (.invokevirtual 73, 3) := by decide +kernel
theorem dX8_stroke_125 : decode cX8_stroke 125 = .ok (.aload_n 0, 1) := by decide +kernel
theorem dX8_stroke_126 : decode cX8_stroke 126 = .ok (.getfield 51, 3) := by decide +kernel
theorem dX8_stroke_129 : decode cX8_stroke 129 = .ok (.invokevirtual 89, 3) := by decide +kernel
theorem dX8_stroke_132 : decode cX8_stroke 132 = .ok (.iload_n 2, 1) := by decide +kernel
theorem dX8_stroke_133 : decode cX8_stroke 133 = .ok (.ireturn, 1) := by decide +kernel
theorem dX8_walked_0 : decode cX8_walked 0 = .ok (.aload_n 0, 1) := by decide +kernel
theorem dX8_walked_1 : decode cX8_walked 1 = .ok (.getfield 51, 3) := by decide +kernel
theorem dX8_walked_4 : decode cX8_walked 4 = .ok (.invokevirtual 125, 3) := by decide +kernel
theorem dX8_walked_7 : decode cX8_walked 7 = .ok (.ireturn, 1) := by decide +kernel
theorem dX9_across_0 : decode cX9_across 0 = .ok (.iload_n 2, 1) := by decide +kernel
theorem dX9_across_1 : decode cX9_across 1 = .ok (.ifCond .eq 11, 3) := by decide +kernel
theorem dX9_across_4 : decode cX9_across 4 = .ok (.aload_n 0, 1) := by decide +kernel
theorem dX9_across_5 : decode cX9_across 5 = .ok (.iload_n 1, 1) := by decide +kernel
theorem dX9_across_6 : decode cX9_across 6 = .ok (.invokevirtual 109, 3) := by decide +kernel
theorem dX9_across_9 : decode cX9_across 9 = .ok (.goto 9, 3) := by decide +kernel
theorem dX9_across_12 : decode cX9_across 12 = .ok (.aload_n 0, 1) := by decide +kernel
theorem dX9_across_13 : decode cX9_across 13 = .ok (.iload_n 1, 1) := by decide +kernel
theorem dX9_across_14 : decode cX9_across 14 = .ok (.invokevirtual 113, 3) := by decide +kernel
theorem dX9_across_17 : decode cX9_across 17 = .ok (.lneg, 1) := by decide +kernel
theorem dX9_across_18 : decode cX9_across 18 = .ok (.aload_n 0, 1) := by decide +kernel
theorem dX9_across_19 : decode cX9_across 19 = .ok (.getfield 21, 3) := by decide +kernel
theorem dX9_across_22 : decode cX9_across 22 = .ok (.i2l, 1) := by decide +kernel
theorem dX9_across_23 : decode cX9_across 23 = .ok (.lmul, 1) := by decide +kernel
theorem dX9_across_24 : decode cX9_across 24 = .ok (.aload_n 0, 1) := by decide +kernel
theorem dX9_across_25 : decode cX9_across 25 = .ok (.iload_n 1, 1) := by decide +kernel
theorem dX9_across_26 : decode cX9_across 26 = .ok (.invokevirtual 109, 3) := by decide +kernel
theorem dX9_across_29 : decode cX9_across 29 = .ok (.aload_n 0, 1) := by decide +kernel
theorem dX9_across_30 : decode cX9_across 30 = .ok (.iload_n 1, 1) := by decide +kernel
theorem dX9_across_31 : decode cX9_across 31 = .ok (.invokevirtual 113, 3) := by decide +kernel
theorem dX9_across_34 : decode cX9_across 34 = .ok (.invokestatic 116, 3) := by decide +kernel
theorem dX9_across_37 : decode cX9_across 37 = .ok (.invokestatic 119, 3) := by decide +kernel
theorem dX9_across_40 : decode cX9_across 40 = .ok (.lreturn, 1) := by decide +kernel
theorem dX9_addRun_0 : decode cX9_addRun 0 = .ok (.aload_n 0, 1) := by decide +kernel
theorem dX9_addRun_1 : decode cX9_addRun 1 = .ok (.getfield 34, 3) := by decide +kernel
theorem dX9_addRun_4 : decode cX9_addRun 4 = .ok (.aload_n 0, 1) := by decide +kernel
theorem dX9_addRun_5 : decode cX9_addRun 5 = .ok (.getfield 146, 3) := by decide +kernel
theorem dX9_addRun_8 : decode cX9_addRun 8 = .ok (.lload_n 1, 1) := by decide +kernel
theorem dX9_addRun_9 : decode cX9_addRun 9 = .ok (.lastore, 1) := by decide +kernel
theorem dX9_addRun_10 : decode cX9_addRun 10 = .ok (.aload_n 0, 1) := by decide +kernel
theorem dX9_addRun_11 : decode cX9_addRun 11 = .ok (.getfield 38, 3) := by decide +kernel
theorem dX9_addRun_14 : decode cX9_addRun 14 = .ok (.aload_n 0, 1) := by decide +kernel
theorem dX9_addRun_15 : decode cX9_addRun 15 = .ok (.getfield 146, 3) := by decide +kernel
theorem dX9_addRun_18 : decode cX9_addRun 18 = .ok (.lload_n 3, 1) := by decide +kernel
theorem dX9_addRun_19 : decode cX9_addRun 19 = .ok (.lastore, 1) := by decide +kernel
theorem dX9_addRun_20 : decode cX9_addRun 20 = .ok (.aload_n 0, 1) := by decide +kernel
theorem dX9_addRun_21 : decode cX9_addRun 21 = .ok (.dup, 1) := by decide +kernel
theorem dX9_addRun_22 : decode cX9_addRun 22 = .ok (.getfield 146, 3) := by decide +kernel
theorem dX9_addRun_25 : decode cX9_addRun 25 = .ok (.iconst 1, 1) := by decide +kernel
theorem dX9_addRun_26 : decode cX9_addRun 26 = .ok (.iadd, 1) := by decide +kernel
theorem dX9_addRun_27 : decode cX9_addRun 27 = .ok (.putfield 146, 3) := by decide +kernel
theorem dX9_addRun_30 : decode cX9_addRun 30 = .ok (.return_, 1) := by decide +kernel
theorem dX9_along_0 : decode cX9_along 0 = .ok (.iload_n 2, 1) := by decide +kernel
theorem dX9_along_1 : decode cX9_along 1 = .ok (.ifCond .eq 11, 3) := by decide +kernel
theorem dX9_along_4 : decode cX9_along 4 = .ok (.aload_n 0, 1) := by decide +kernel
theorem dX9_along_5 : decode cX9_along 5 = .ok (.iload_n 1, 1) := by decide +kernel
theorem dX9_along_6 : decode cX9_along 6 = .ok (.invokevirtual 113, 3) := by decide +kernel
theorem dX9_along_9 : decode cX9_along 9 = .ok (.goto 8, 3) := by decide +kernel
theorem dX9_along_12 : decode cX9_along 12 = .ok (.aload_n 0, 1) := by decide +kernel
theorem dX9_along_13 : decode cX9_along 13 = .ok (.iload_n 1, 1) := by decide +kernel
theorem dX9_along_14 : decode cX9_along 14 = .ok (.invokevirtual 109, 3) := by decide +kernel
theorem dX9_along_17 : decode cX9_along 17 = .ok (.aload_n 0, 1) := by decide +kernel
theorem dX9_along_18 : decode cX9_along 18 = .ok (.getfield 21, 3) := by decide +kernel
theorem dX9_along_21 : decode cX9_along 21 = .ok (.i2l, 1) := by decide +kernel
theorem dX9_along_22 : decode cX9_along 22 = .ok (.lmul, 1) := by decide +kernel
theorem dX9_along_23 : decode cX9_along 23 = .ok (.aload_n 0, 1) := by decide +kernel
theorem dX9_along_24 : decode cX9_along 24 = .ok (.iload_n 1, 1) := by decide +kernel
theorem dX9_along_25 : decode cX9_along 25 = .ok (.invokevirtual 109, 3) := by decide +kernel
theorem dX9_along_28 : decode cX9_along 28 = .ok (.aload_n 0, 1) := by decide +kernel
theorem dX9_along_29 : decode cX9_along 29 = .ok (.iload_n 1, 1) := by decide +kernel
theorem dX9_along_30 : decode cX9_along 30 = .ok (.invokevirtual 113, 3) := by decide +kernel
theorem dX9_along_33 : decode cX9_along 33 = .ok (.invokestatic 116, 3) := by decide +kernel
theorem dX9_along_36 : decode cX9_along 36 = .ok (.invokestatic 119, 3) := by decide +kernel
theorem dX9_along_39 : decode cX9_along 39 = .ok (.lreturn, 1) := by decide +kernel
theorem dX9_begin_0 : decode cX9_begin 0 = .ok (.aload_n 0, 1) := by decide +kernel
theorem dX9_begin_1 : decode cX9_begin 1 = .ok (.getfield 102, 3) := by decide +kernel
theorem dX9_begin_4 : decode cX9_begin 4 = .ok (.ifCond .ne 19, 3) := by decide +kernel
theorem dX9_begin_7 : decode cX9_begin 7 = .ok (.aload_n 0, 1) := by decide +kernel
theorem dX9_begin_8 : decode cX9_begin 8 = .ok (.getfield 74, 3) := by decide +kernel
theorem dX9_begin_11 : decode cX9_begin 11 = .ok (.sipush 2000, 3) := by decide +kernel
theorem dX9_begin_14 : decode cX9_begin 14 = .ok (.if_icmp .ne 9, 3) := by decide +kernel
theorem dX9_begin_17 : decode cX9_begin 17 = .ok (.aload_n 0, 1) := by decide +kernel
theorem dX9_begin_18 : decode cX9_begin 18 = .ok (.bipush (-3), 2) := by decide +kernel
theorem dX9_begin_20 : decode cX9_begin 20 = .ok (.putfield 102, 3) := by decide +kernel
theorem dX9_begin_23 : decode cX9_begin 23 = .ok (.aload_n 0, 1) := by decide +kernel
theorem dX9_begin_24 : decode cX9_begin 24 = .ok (.getfield 102, 3) := by decide +kernel
theorem dX9_begin_27 : decode cX9_begin 27 = .ok (.ifCond .eq 5, 3) := by decide +kernel
theorem dX9_begin_30 : decode cX9_begin 30 = .ok (.iconst 0, 1) := by decide +kernel
theorem dX9_begin_31 : decode cX9_begin 31 = .ok (.ireturn, 1) := by decide +kernel
theorem dX9_begin_32 : decode cX9_begin 32 = .ok (.aload_n 0, 1) := by decide +kernel
theorem dX9_begin_33 : decode cX9_begin 33 = .ok (.getfield 47, 3) := by decide +kernel
theorem dX9_begin_36 : decode cX9_begin 36 = .ok (.aload_n 0, 1) := by decide +kernel
theorem dX9_begin_37 : decode cX9_begin 37 = .ok (.getfield 74, 3) := by decide +kernel
theorem dX9_begin_40 : decode cX9_begin 40 = .ok (.iload_n 1, 1) := by decide +kernel
theorem dX9_begin_41 : decode cX9_begin 41 = .ok (.i2b, 1) := by decide +kernel
theorem dX9_begin_42 : decode cX9_begin 42 = .ok (.bastore, 1) := by decide +kernel
theorem dX9_begin_43 : decode cX9_begin 43 = .ok (.iconst 1, 1) := by decide +kernel
theorem dX9_begin_44 : decode cX9_begin 44 = .ok (.ireturn, 1) := by decide +kernel
theorem dX9_capBeginning_0 : decode cX9_capBeginning 0 = .ok (.aload_n 0, 1) := by decide +kernel
theorem dX9_capBeginning_1 : decode cX9_capBeginning 1 = .ok (.getfield 80, 3) := by decide +kernel
theorem dX9_capBeginning_4 : decode cX9_capBeginning 4 = .ok (.ifCond .eq 11, 3) := by decide +kernel
theorem dX9_capBeginning_7 : decode cX9_capBeginning 7 = .ok (.aload_n 0, 1) := by decide +kernel
theorem dX9_capBeginning_8 : decode cX9_capBeginning 8 = .ok (.iconst 3, 1) := by decide +kernel
theorem dX9_capBeginning_9 : decode cX9_capBeginning 9 = .ok (.invokevirtual 122, 3) := by decide +kernel
theorem dX9_capBeginning_12 : decode cX9_capBeginning 12 = .ok (.ifCond .ne 4, 3) := by decide +kernel
theorem dX9_capBeginning_15 : decode cX9_capBeginning 15 = .ok (.return_, 1) := by decide +kernel
theorem dX9_capBeginning_16 : decode cX9_capBeginning 16 = .ok (.aload_n 0, 1) := by decide +kernel
theorem dX9_capBeginning_17 : decode cX9_capBeginning 17 = .ok (.iconst 0, 1) := by decide +kernel
theorem dX9_capBeginning_18 : decode cX9_capBeginning 18 = .ok (.iconst 0, 1) := by decide +kernel
theorem dX9_capBeginning_19 : decode cX9_capBeginning 19 = .ok (.invokevirtual 126, 3) := by decide +kernel
theorem dX9_capBeginning_22 : decode cX9_capBeginning 22 = .ok (.lstore_n 1, 1) := by decide +kernel
theorem dX9_capBeginning_23 : decode cX9_capBeginning 23 = .ok (.aload_n 0, 1) := by decide +kernel
theorem dX9_capBeginning_24 : decode cX9_capBeginning 24 = .ok (.iconst 0, 1) := by decide +kernel
theorem dX9_capBeginning_25 : decode cX9_capBeginning 25 = .ok (.iconst 1, 1) := by decide +kernel
theorem dX9_capBeginning_26 : decode cX9_capBeginning 26 = .ok (.invokevirtual 126, 3) := by decide +kernel
theorem dX9_capBeginning_29 : decode cX9_capBeginning 29 = .ok (.lstore_n 3, 1) := by decide +kernel
theorem dX9_capBeginning_30 : decode cX9_capBeginning 30 = .ok (.aload_n 0, 1) := by decide +kernel
theorem dX9_capBeginning_31 : decode cX9_capBeginning 31 = .ok (.getfield 34, 3) := by decide +kernel
theorem dX9_capBeginning_34 : decode cX9_capBeginning 34 = .ok (.iconst 0, 1) := by decide +kernel
theorem dX9_capBeginning_35 : decode cX9_capBeginning 35 = .ok (.laload, 1) := by decide +kernel
theorem dX9_capBeginning_36 : decode cX9_capBeginning 36 = .ok (.lstore 5, 2) := by decide +kernel
theorem dX9_capBeginning_38 : decode cX9_capBeginning 38 = .ok (.aload_n 0, 1) := by decide +kernel
theorem dX9_capBeginning_39 : decode cX9_capBeginning 39 = .ok (.getfield 38, 3) := by decide +kernel
theorem dX9_capBeginning_42 : decode cX9_capBeginning 42 = .ok (.iconst 0, 1) := by decide +kernel
theorem dX9_capBeginning_43 : decode cX9_capBeginning 43 = .ok (.laload, 1) := by decide +kernel
theorem dX9_capBeginning_44 : decode cX9_capBeginning 44 = .ok (.lstore 7, 2) := by decide +kernel
theorem dX9_capBeginning_46 : decode cX9_capBeginning 46 = .ok (.aload_n 0, 1) := by decide +kernel
theorem dX9_capBeginning_47 : decode cX9_capBeginning 47 = .ok (.iconst 0, 1) := by decide +kernel
theorem dX9_capBeginning_48 : decode cX9_capBeginning 48 = .ok (.lload 5, 2) := by decide +kernel
theorem dX9_capBeginning_50 : decode cX9_capBeginning 50 = .ok (.lload_n 1, 1) := by decide +kernel
theorem dX9_capBeginning_51 : decode cX9_capBeginning 51 = .ok (.lsub, 1) := by decide +kernel
theorem dX9_capBeginning_52 : decode cX9_capBeginning 52 = .ok (.lload 7, 2) := by decide +kernel
theorem dX9_capBeginning_54 : decode cX9_capBeginning 54 = .ok (.lload_n 3, 1) := by decide +kernel
theorem dX9_capBeginning_55 : decode cX9_capBeginning 55 = .ok (.lsub, 1) := by decide +kernel
theorem dX9_capBeginning_56 : decode cX9_capBeginning 56 = .ok (.invokevirtual 130, 3) := by decide +kernel
theorem dX9_capBeginning_59 : decode cX9_capBeginning 59 = .ok (.aload_n 0, 1) := by decide +kernel
theorem dX9_capBeginning_60 : decode cX9_capBeginning 60 = .ok (.iconst 1, 1) := by decide +kernel
theorem dX9_capBeginning_61 : decode cX9_capBeginning 61 = .ok (.lload 5, 2) := by decide +kernel
theorem dX9_capBeginning_63 : decode cX9_capBeginning 63 = .ok (.lload_n 1, 1) := by decide +kernel
theorem dX9_capBeginning_64 : decode cX9_capBeginning 64 = .ok (.lsub, 1) := by decide +kernel
theorem dX9_capBeginning_65 : decode cX9_capBeginning 65 = .ok (.aload_n 0, 1) := by decide +kernel
theorem dX9_capBeginning_66 : decode cX9_capBeginning 66 = .ok (.iconst 0, 1) := by decide +kernel
theorem dX9_capBeginning_67 : decode cX9_capBeginning 67 = .ok (.iconst 0, 1) := by decide +kernel
theorem dX9_capBeginning_68 : decode cX9_capBeginning 68 = .ok (.invokevirtual 137, 3) := by decide +kernel
theorem dX9_capBeginning_71 : decode cX9_capBeginning 71 = .ok (.lsub, 1) := by decide +kernel
theorem dX9_capBeginning_72 : decode cX9_capBeginning 72 = .ok (.lload 7, 2) := by decide +kernel
theorem dX9_capBeginning_74 : decode cX9_capBeginning 74 = .ok (.lload_n 3, 1) := by decide +kernel
theorem dX9_capBeginning_75 : decode cX9_capBeginning 75 = .ok (.lsub, 1) := by decide +kernel
theorem dX9_capBeginning_76 : decode cX9_capBeginning 76 = .ok (.aload_n 0, 1) := by decide +kernel
theorem dX9_capBeginning_77 : decode cX9_capBeginning 77 = .ok (.iconst 0, 1) := by decide +kernel
theorem dX9_capBeginning_78 : decode cX9_capBeginning 78 = .ok (.iconst 1, 1) := by decide +kernel
theorem dX9_capBeginning_79 : decode cX9_capBeginning 79 = .ok (.invokevirtual 137, 3) := by decide +kernel
theorem dX9_capBeginning_82 : decode cX9_capBeginning 82 = .ok (.lsub, 1) := by decide +kernel
theorem dX9_capBeginning_83 : decode cX9_capBeginning 83 = .ok (.invokevirtual 130, 3) := by decide +kernel
theorem dX9_capBeginning_86 : decode cX9_capBeginning 86 = .ok (.aload_n 0, 1) := by decide +kernel
theorem dX9_capBeginning_87 : decode cX9_capBeginning 87 = .ok (.iconst 2, 1) := by decide +kernel
theorem dX9_capBeginning_88 : decode cX9_capBeginning 88 = .ok (.lload 5, 2) := by decide +kernel
theorem dX9_capBeginning_90 : decode cX9_capBeginning 90 = .ok (.lload_n 1, 1) := by decide +kernel
theorem dX9_capBeginning_91 : decode cX9_capBeginning 91 = .ok (.ladd, 1) := by decide +kernel
theorem dX9_capBeginning_92 : decode cX9_capBeginning 92 = .ok (.aload_n 0, 1) := by decide +kernel
theorem dX9_capBeginning_93 : decode cX9_capBeginning 93 = .ok (.iconst 0, 1) := by decide +kernel
theorem dX9_capBeginning_94 : decode cX9_capBeginning 94 = .ok (.iconst 0, 1) := by decide +kernel
theorem dX9_capBeginning_95 : decode cX9_capBeginning 95 = .ok (.invokevirtual 137, 3) := by decide +kernel
theorem dX9_capBeginning_98 : decode cX9_capBeginning 98 = .ok (.lsub, 1) := by decide +kernel
theorem dX9_capBeginning_99 : decode cX9_capBeginning 99 = .ok (.lload 7, 2) := by decide +kernel
theorem dX9_capBeginning_101 : decode cX9_capBeginning 101 = .ok (.lload_n 3, 1) := by decide +kernel
theorem dX9_capBeginning_102 : decode cX9_capBeginning 102 = .ok (.ladd, 1) := by decide +kernel
theorem dX9_capBeginning_103 : decode cX9_capBeginning 103 = .ok (.aload_n 0, 1) := by decide +kernel
theorem dX9_capBeginning_104 : decode cX9_capBeginning 104 = .ok (.iconst 0, 1) := by decide +kernel
theorem dX9_capBeginning_105 : decode cX9_capBeginning 105 = .ok (.iconst 1, 1) := by decide +kernel
theorem dX9_capBeginning_106 : decode cX9_capBeginning 106 = .ok (.invokevirtual 137, 3) := by decide +kernel
theorem dX9_capBeginning_109 : decode cX9_capBeginning 109 = .ok (.lsub, 1) := by decide +kernel
theorem dX9_capBeginning_110 : decode cX9_capBeginning 110 = .ok (.invokevirtual 130, 3) := by decide +kernel
theorem dX9_capBeginning_113 : decode cX9_capBeginning 113 = .ok (.aload_n 0, 1) := by decide +kernel
theorem dX9_capBeginning_114 : decode cX9_capBeginning 114 = .ok (.iconst 3, 1) := by decide +kernel
theorem dX9_capBeginning_115 : decode cX9_capBeginning 115 = .ok (.lload 5, 2) := by decide +kernel
theorem dX9_capBeginning_117 : decode cX9_capBeginning 117 = .ok (.lload_n 1, 1) := by decide +kernel
theorem dX9_capBeginning_118 : decode cX9_capBeginning 118 = .ok (.ladd, 1) := by decide +kernel
theorem dX9_capBeginning_119 : decode cX9_capBeginning 119 = .ok (.lload 7, 2) := by decide +kernel
theorem dX9_capBeginning_121 : decode cX9_capBeginning 121 = .ok (.lload_n 3, 1) := by decide +kernel
theorem dX9_capBeginning_122 : decode cX9_capBeginning 122 = .ok (.ladd, 1) := by decide +kernel
theorem dX9_capBeginning_123 : decode cX9_capBeginning 123 = .ok (.invokevirtual 130, 3) := by decide +kernel
theorem dX9_capBeginning_126 : decode cX9_capBeginning 126 = .ok (.aload_n 0, 1) := by decide +kernel
theorem dX9_capBeginning_127 : decode cX9_capBeginning 127 = .ok (.invokevirtual 134, 3) := by decide +kernel
theorem dX9_capBeginning_130 : decode cX9_capBeginning 130 = .ok (.return_, 1) := by decide +kernel
theorem dX9_capEnd_0 : decode cX9_capEnd 0 = .ok (.aload_n 0, 1) := by decide +kernel
theorem dX9_capEnd_1 : decode cX9_capEnd 1 = .ok (.getfield 80, 3) := by decide +kernel
theorem dX9_capEnd_4 : decode cX9_capEnd 4 = .ok (.ifCond .eq 11, 3) := by decide +kernel
theorem dX9_capEnd_7 : decode cX9_capEnd 7 = .ok (.aload_n 0, 1) := by decide +kernel
theorem dX9_capEnd_8 : decode cX9_capEnd 8 = .ok (.iconst 3, 1) := by decide +kernel
theorem dX9_capEnd_9 : decode cX9_capEnd 9 = .ok (.invokevirtual 122, 3) := by decide +kernel
theorem dX9_capEnd_12 : decode cX9_capEnd 12 = .ok (.ifCond .ne 4, 3) := by decide +kernel
theorem dX9_capEnd_15 : decode cX9_capEnd 15 = .ok (.return_, 1) := by decide +kernel
theorem dX9_capEnd_16 : decode cX9_capEnd 16 = .ok (.aload_n 0, 1) := by decide +kernel
theorem dX9_capEnd_17 : decode cX9_capEnd 17 = .ok (.iload_n 1, 1) := by decide +kernel
theorem dX9_capEnd_18 : decode cX9_capEnd 18 = .ok (.iconst 0, 1) := by decide +kernel
theorem dX9_capEnd_19 : decode cX9_capEnd 19 = .ok (.invokevirtual 126, 3) := by decide +kernel
theorem dX9_capEnd_22 : decode cX9_capEnd 22 = .ok (.lstore_n 2, 1) := by decide +kernel
theorem dX9_capEnd_23 : decode cX9_capEnd 23 = .ok (.aload_n 0, 1) := by decide +kernel
end
section
theorem dX9_capEnd_24 : decode cX9_capEnd 24 = .ok (.iload_n 1, 1) := by decide +kernel
theorem dX9_capEnd_25 : decode cX9_capEnd 25 = .ok (.iconst 1, 1) := by decide +kernel
theorem dX9_capEnd_26 : decode cX9_capEnd 26 = .ok (.invokevirtual 126, 3) := by decide +kernel
theorem dX9_capEnd_29 : decode cX9_capEnd 29 = .ok (.lstore 4, 2) := by decide +kernel
theorem dX9_capEnd_31 : decode cX9_capEnd 31 = .ok (.aload_n 0, 1) := by decide +kernel
theorem dX9_capEnd_32 : decode cX9_capEnd 32 = .ok (.getfield 34, 3) := by decide +kernel
theorem dX9_capEnd_35 : decode cX9_capEnd 35 = .ok (.iload_n 1, 1) := by decide +kernel
theorem dX9_capEnd_36 : decode cX9_capEnd 36 = .ok (.iconst 1, 1) := by decide +kernel
theorem dX9_capEnd_37 : decode cX9_capEnd 37 = .ok (.iadd, 1) := by decide +kernel
theorem dX9_capEnd_38 : decode cX9_capEnd 38 = .ok (.laload, 1) := by decide +kernel
theorem dX9_capEnd_39 : decode cX9_capEnd 39 = .ok (.lstore 6, 2) := by decide +kernel
theorem dX9_capEnd_41 : decode cX9_capEnd 41 = .ok (.aload_n 0, 1) := by decide +kernel
theorem dX9_capEnd_42 : decode cX9_capEnd 42 = .ok (.getfield 38, 3) := by decide +kernel
theorem dX9_capEnd_45 : decode cX9_capEnd 45 = .ok (.iload_n 1, 1) := by decide +kernel
theorem dX9_capEnd_46 : decode cX9_capEnd 46 = .ok (.iconst 1, 1) := by decide +kernel
theorem dX9_capEnd_47 : decode cX9_capEnd 47 = .ok (.iadd, 1) := by decide +kernel
theorem dX9_capEnd_48 : decode cX9_capEnd 48 = .ok (.laload, 1) := by decide +kernel
theorem dX9_capEnd_49 : decode cX9_capEnd 49 = .ok (.lstore 8, 2) := by decide +kernel
theorem dX9_capEnd_51 : decode cX9_capEnd 51 = .ok (.aload_n 0, 1) := by decide +kernel
theorem dX9_capEnd_52 : decode cX9_capEnd 52 = .ok (.iconst 0, 1) := by decide +kernel
theorem dX9_capEnd_53 : decode cX9_capEnd 53 = .ok (.lload 6, 2) := by decide +kernel
theorem dX9_capEnd_55 : decode cX9_capEnd 55 = .ok (.lload_n 2, 1) := by decide +kernel
theorem dX9_capEnd_56 : decode cX9_capEnd 56 = .ok (.ladd, 1) := by decide +kernel
theorem dX9_capEnd_57 : decode cX9_capEnd 57 = .ok (.lload 8, 2) := by decide +kernel
theorem dX9_capEnd_59 : decode cX9_capEnd 59 = .ok (.lload 4, 2) := by decide +kernel
theorem dX9_capEnd_61 : decode cX9_capEnd 61 = .ok (.ladd, 1) := by decide +kernel
theorem dX9_capEnd_62 : decode cX9_capEnd 62 = .ok (.invokevirtual 130, 3) := by decide +kernel
theorem dX9_capEnd_65 : decode cX9_capEnd 65 = .ok (.aload_n 0, 1) := by decide +kernel
theorem dX9_capEnd_66 : decode cX9_capEnd 66 = .ok (.iconst 1, 1) := by decide +kernel
theorem dX9_capEnd_67 : decode cX9_capEnd 67 = .ok (.lload 6, 2) := by decide +kernel
theorem dX9_capEnd_69 : decode cX9_capEnd 69 = .ok (.lload_n 2, 1) := by decide +kernel
theorem dX9_capEnd_70 : decode cX9_capEnd 70 = .ok (.ladd, 1) := by decide +kernel
theorem dX9_capEnd_71 : decode cX9_capEnd 71 = .ok (.aload_n 0, 1) := by decide +kernel
theorem dX9_capEnd_72 : decode cX9_capEnd 72 = .ok (.iload_n 1, 1) := by decide +kernel
theorem dX9_capEnd_73 : decode cX9_capEnd 73 = .ok (.iconst 0, 1) := by decide +kernel
theorem dX9_capEnd_74 : decode cX9_capEnd 74 = .ok (.invokevirtual 137, 3) := by decide +kernel
theorem dX9_capEnd_77 : decode cX9_capEnd 77 = .ok (.ladd, 1) := by decide +kernel
theorem dX9_capEnd_78 : decode cX9_capEnd 78 = .ok (.lload 8, 2) := by decide +kernel
theorem dX9_capEnd_80 : decode cX9_capEnd 80 = .ok (.lload 4, 2) := by decide +kernel
theorem dX9_capEnd_82 : decode cX9_capEnd 82 = .ok (.ladd, 1) := by decide +kernel
theorem dX9_capEnd_83 : decode cX9_capEnd 83 = .ok (.aload_n 0, 1) := by decide +kernel
theorem dX9_capEnd_84 : decode cX9_capEnd 84 = .ok (.iload_n 1, 1) := by decide +kernel
theorem dX9_capEnd_85 : decode cX9_capEnd 85 = .ok (.iconst 1, 1) := by decide +kernel
theorem dX9_capEnd_86 : decode cX9_capEnd 86 = .ok (.invokevirtual 137, 3) := by decide +kernel
theorem dX9_capEnd_89 : decode cX9_capEnd 89 = .ok (.ladd, 1) := by decide +kernel
theorem dX9_capEnd_90 : decode cX9_capEnd 90 = .ok (.invokevirtual 130, 3) := by decide +kernel
theorem dX9_capEnd_93 : decode cX9_capEnd 93 = .ok (.aload_n 0, 1) := by decide +kernel
theorem dX9_capEnd_94 : decode cX9_capEnd 94 = .ok (.iconst 2, 1) := by decide +kernel
theorem dX9_capEnd_95 : decode cX9_capEnd 95 = .ok (.lload 6, 2) := by decide +kernel
theorem dX9_capEnd_97 : decode cX9_capEnd 97 = .ok (.lload_n 2, 1) := by decide +kernel
theorem dX9_capEnd_98 : decode cX9_capEnd 98 = .ok (.lsub, 1) := by decide +kernel
theorem dX9_capEnd_99 : decode cX9_capEnd 99 = .ok (.aload_n 0, 1) := by decide +kernel
theorem dX9_capEnd_100 : decode cX9_capEnd 100 = .ok (.iload_n 1, 1) := by decide +kernel
theorem dX9_capEnd_101 : decode cX9_capEnd 101 = .ok (.iconst 0, 1) := by decide +kernel
theorem dX9_capEnd_102 : decode cX9_capEnd 102 = .ok (.invokevirtual 137, 3) := by decide +kernel
theorem dX9_capEnd_105 : decode cX9_capEnd 105 = .ok (.ladd, 1) := by decide +kernel
theorem dX9_capEnd_106 : decode cX9_capEnd 106 = .ok (.lload 8, 2) := by decide +kernel
theorem dX9_capEnd_108 : decode cX9_capEnd 108 = .ok (.lload 4, 2) := by decide +kernel
theorem dX9_capEnd_110 : decode cX9_capEnd 110 = .ok (.lsub, 1) := by decide +kernel
theorem dX9_capEnd_111 : decode cX9_capEnd 111 = .ok (.aload_n 0, 1) := by decide +kernel
theorem dX9_capEnd_112 : decode cX9_capEnd 112 = .ok (.iload_n 1, 1) := by decide +kernel
theorem dX9_capEnd_113 : decode cX9_capEnd 113 = .ok (.iconst 1, 1) := by decide +kernel
theorem dX9_capEnd_114 : decode cX9_capEnd 114 = .ok (.invokevirtual 137, 3) := by decide +kernel
theorem dX9_capEnd_117 : decode cX9_capEnd 117 = .ok (.ladd, 1) := by decide +kernel
theorem dX9_capEnd_118 : decode cX9_capEnd 118 = .ok (.invokevirtual 130, 3) := by decide +kernel
theorem dX9_capEnd_121 : decode cX9_capEnd 121 = .ok (.aload_n 0, 1) := by decide +kernel
theorem dX9_capEnd_122 : decode cX9_capEnd 122 = .ok (.iconst 3, 1) := by decide +kernel
theorem dX9_capEnd_123 : decode cX9_capEnd 123 = .ok (.lload 6, 2) := by decide +kernel
theorem dX9_capEnd_125 : decode cX9_capEnd 125 = .ok (.lload_n 2, 1) := by decide +kernel
theorem dX9_capEnd_126 : decode cX9_capEnd 126 = .ok (.lsub, 1) := by decide +kernel
theorem dX9_capEnd_127 : decode cX9_capEnd 127 = .ok (.lload 8, 2) := by decide +kernel
theorem dX9_capEnd_129 : decode cX9_capEnd 129 = .ok (.lload 4, 2) := by decide +kernel
theorem dX9_capEnd_131 : decode cX9_capEnd 131 = .ok (.lsub, 1) := by decide +kernel
theorem dX9_capEnd_132 : decode cX9_capEnd 132 = .ok (.invokevirtual 130, 3) := by decide +kernel
theorem dX9_capEnd_135 : decode cX9_capEnd 135 = .ok (.aload_n 0, 1) := by decide +kernel
theorem dX9_capEnd_136 : decode cX9_capEnd 136 = .ok (.invokevirtual 134, 3) := by decide +kernel
theorem dX9_capEnd_139 : decode cX9_capEnd 139 = .ok (.return_, 1) := by decide +kernel
theorem dX9_clear_0 : decode cX9_clear 0 = .ok (.aload_n 0, 1) := by decide +kernel
theorem dX9_clear_1 : decode cX9_clear 1 = .ok (.getfield 60, 3) := by decide +kernel
theorem dX9_clear_4 : decode cX9_clear 4 = .ok (.istore_n 1, 1) := by decide +kernel
theorem dX9_clear_5 : decode cX9_clear 5 = .ok (.aload_n 0, 1) := by decide +kernel
theorem dX9_clear_6 : decode cX9_clear 6 = .ok (.iconst 0, 1) := by decide +kernel
theorem dX9_clear_7 : decode cX9_clear 7 = .ok (.putfield 60, 3) := by decide +kernel
theorem dX9_clear_10 : decode cX9_clear 10 = .ok (.aload_n 0, 1) := by decide +kernel
theorem dX9_clear_11 : decode cX9_clear 11 = .ok (.iconst 0, 1) := by decide +kernel
theorem dX9_clear_12 : decode cX9_clear 12 = .ok (.putfield 74, 3) := by decide +kernel
theorem dX9_clear_15 : decode cX9_clear 15 = .ok (.iload_n 1, 1) := by decide +kernel
theorem dX9_clear_16 : decode cX9_clear 16 = .ok (.ireturn, 1) := by decide +kernel
theorem dX9_close_0 : decode cX9_close 0 = .ok (.aload_n 0, 1) := by decide +kernel
theorem dX9_close_1 : decode cX9_close 1 = .ok (.getfield 60, 3) := by decide +kernel
theorem dX9_close_4 : decode cX9_close 4 = .ok (.ifCond .ne 6, 3) := by decide +kernel
theorem dX9_close_7 : decode cX9_close 7 = .ok (.bipush (-2), 2) := by decide +kernel
theorem dX9_close_9 : decode cX9_close 9 = .ok (.ireturn, 1) := by decide +kernel
theorem dX9_close_10 : decode cX9_close 10 = .ok (.aload_n 0, 1) := by decide +kernel
theorem dX9_close_11 : decode cX9_close 11 = .ok (.getfield 16, 3) := by decide +kernel
theorem dX9_close_14 : decode cX9_close 14 = .ok (.aload_n 0, 1) := by decide +kernel
theorem dX9_close_15 : decode cX9_close 15 = .ok (.getfield 71, 3) := by decide +kernel
theorem dX9_close_18 : decode cX9_close 18 = .ok (.iconst 3, 1) := by decide +kernel
theorem dX9_close_19 : decode cX9_close 19 = .ok (.bastore, 1) := by decide +kernel
theorem dX9_close_20 : decode cX9_close 20 = .ok (.aload_n 0, 1) := by decide +kernel
theorem dX9_close_21 : decode cX9_close 21 = .ok (.getfield 60, 3) := by decide +kernel
theorem dX9_close_24 : decode cX9_close 24 = .ok (.ireturn, 1) := by decide +kernel
theorem dX9_collect_0 : decode cX9_collect 0 = .ok (.aload_n 0, 1) := by decide +kernel
theorem dX9_collect_1 : decode cX9_collect 1 = .ok (.iconst 0, 1) := by decide +kernel
theorem dX9_collect_2 : decode cX9_collect 2 = .ok (.putfield 199, 3) := by decide +kernel
theorem dX9_collect_5 : decode cX9_collect 5 = .ok (.iload_n 1, 1) := by decide +kernel
theorem dX9_collect_6 : decode cX9_collect 6 = .ok (.istore_n 2, 1) := by decide +kernel
theorem dX9_collect_7 : decode cX9_collect 7 = .ok (.iload_n 2, 1) := by decide +kernel
theorem dX9_collect_8 : decode cX9_collect 8 = .ok (.aload_n 0, 1) := by decide +kernel
theorem dX9_collect_9 : decode cX9_collect 9 = .ok (.getfield 60, 3) := by decide +kernel
theorem dX9_collect_12 : decode cX9_collect 12 = .ok (.if_icmp .ge 110, 3) := by decide +kernel
theorem dX9_collect_15 : decode cX9_collect 15 = .ok (.iload_n 2, 1) := by decide +kernel
theorem dX9_collect_16 : decode cX9_collect 16 = .ok (.iload_n 1, 1) := by decide +kernel
theorem dX9_collect_17 : decode cX9_collect 17 = .ok (.if_icmp .eq 12, 3) := by decide +kernel
theorem dX9_collect_20 : decode cX9_collect 20 = .ok (.aload_n 0, 1) := by decide +kernel
theorem dX9_collect_21 : decode cX9_collect 21 = .ok (.getfield 16, 3) := by decide +kernel
theorem dX9_collect_24 : decode cX9_collect 24 = .ok (.iload_n 2, 1) := by decide +kernel
theorem dX9_collect_25 : decode cX9_collect 25 = .ok (.baload, 1) := by decide +kernel
theorem dX9_collect_26 : decode cX9_collect 26 = .ok (.ifCond .ne 96, 3) := by decide +kernel
theorem dX9_collect_29 : decode cX9_collect 29 = .ok (.aload_n 0, 1) := by decide +kernel
theorem dX9_collect_30 : decode cX9_collect 30 = .ok (.getfield 199, 3) := by decide +kernel
theorem dX9_collect_33 : decode cX9_collect 33 = .ok (.ifCond .eq 43, 3) := by decide +kernel
theorem dX9_collect_36 : decode cX9_collect 36 = .ok (.aload_n 0, 1) := by decide +kernel
theorem dX9_collect_37 : decode cX9_collect 37 = .ok (.getfield 41, 3) := by decide +kernel
theorem dX9_collect_40 : decode cX9_collect 40 = .ok (.aload_n 0, 1) := by decide +kernel
theorem dX9_collect_41 : decode cX9_collect 41 = .ok (.getfield 199, 3) := by decide +kernel
theorem dX9_collect_44 : decode cX9_collect 44 = .ok (.iconst 1, 1) := by decide +kernel
theorem dX9_collect_45 : decode cX9_collect 45 = .ok (.isub, 1) := by decide +kernel
theorem dX9_collect_46 : decode cX9_collect 46 = .ok (.iaload, 1) := by decide +kernel
theorem dX9_collect_47 : decode cX9_collect 47 = .ok (.aload_n 0, 1) := by decide +kernel
theorem dX9_collect_48 : decode cX9_collect 48 = .ok (.getfield 7, 3) := by decide +kernel
theorem dX9_collect_51 : decode cX9_collect 51 = .ok (.iload_n 2, 1) := by decide +kernel
theorem dX9_collect_52 : decode cX9_collect 52 = .ok (.iaload, 1) := by decide +kernel
theorem dX9_collect_53 : decode cX9_collect 53 = .ok (.if_icmp .ne 23, 3) := by decide +kernel
theorem dX9_collect_56 : decode cX9_collect 56 = .ok (.aload_n 0, 1) := by decide +kernel
theorem dX9_collect_57 : decode cX9_collect 57 = .ok (.getfield 44, 3) := by decide +kernel
theorem dX9_collect_60 : decode cX9_collect 60 = .ok (.aload_n 0, 1) := by decide +kernel
theorem dX9_collect_61 : decode cX9_collect 61 = .ok (.getfield 199, 3) := by decide +kernel
theorem dX9_collect_64 : decode cX9_collect 64 = .ok (.iconst 1, 1) := by decide +kernel
theorem dX9_collect_65 : decode cX9_collect 65 = .ok (.isub, 1) := by decide +kernel
theorem dX9_collect_66 : decode cX9_collect 66 = .ok (.iaload, 1) := by decide +kernel
theorem dX9_collect_67 : decode cX9_collect 67 = .ok (.aload_n 0, 1) := by decide +kernel
theorem dX9_collect_68 : decode cX9_collect 68 = .ok (.getfield 13, 3) := by decide +kernel
theorem dX9_collect_71 : decode cX9_collect 71 = .ok (.iload_n 2, 1) := by decide +kernel
theorem dX9_collect_72 : decode cX9_collect 72 = .ok (.iaload, 1) := by decide +kernel
theorem dX9_collect_73 : decode cX9_collect 73 = .ok (.if_icmp .eq 43, 3) := by decide +kernel
theorem dX9_collect_76 : decode cX9_collect 76 = .ok (.aload_n 0, 1) := by decide +kernel
theorem dX9_collect_77 : decode cX9_collect 77 = .ok (.getfield 41, 3) := by decide +kernel
theorem dX9_collect_80 : decode cX9_collect 80 = .ok (.aload_n 0, 1) := by decide +kernel
theorem dX9_collect_81 : decode cX9_collect 81 = .ok (.getfield 199, 3) := by decide +kernel
theorem dX9_collect_84 : decode cX9_collect 84 = .ok (.aload_n 0, 1) := by decide +kernel
theorem dX9_collect_85 : decode cX9_collect 85 = .ok (.getfield 7, 3) := by decide +kernel
theorem dX9_collect_88 : decode cX9_collect 88 = .ok (.iload_n 2, 1) := by decide +kernel
theorem dX9_collect_89 : decode cX9_collect 89 = .ok (.iaload, 1) := by decide +kernel
theorem dX9_collect_90 : decode cX9_collect 90 = .ok (.iastore, 1) := by decide +kernel
theorem dX9_collect_91 : decode cX9_collect 91 = .ok (.aload_n 0, 1) := by decide +kernel
theorem dX9_collect_92 : decode cX9_collect 92 = .ok (.getfield 44, 3) := by decide +kernel
theorem dX9_collect_95 : decode cX9_collect 95 = .ok (.aload_n 0, 1) := by decide +kernel
theorem dX9_collect_96 : decode cX9_collect 96 = .ok (.getfield 199, 3) := by decide +kernel
theorem dX9_collect_99 : decode cX9_collect 99 = .ok (.aload_n 0, 1) := by decide +kernel
theorem dX9_collect_100 : decode cX9_collect 100 = .ok (.getfield 13, 3) := by decide +kernel
theorem dX9_collect_103 : decode cX9_collect 103 = .ok (.iload_n 2, 1) := by decide +kernel
theorem dX9_collect_104 : decode cX9_collect 104 = .ok (.iaload, 1) := by decide +kernel
theorem dX9_collect_105 : decode cX9_collect 105 = .ok (.iastore, 1) := by decide +kernel
theorem dX9_collect_106 : decode cX9_collect 106 = .ok (.aload_n 0, 1) := by decide +kernel
theorem dX9_collect_107 : decode cX9_collect 107 = .ok (.dup, 1) := by decide +kernel
theorem dX9_collect_108 : decode cX9_collect 108 = .ok (.getfield 199, 3) := by decide +kernel
theorem dX9_collect_111 : decode cX9_collect 111 = .ok (.iconst 1, 1) := by decide +kernel
theorem dX9_collect_112 : decode cX9_collect 112 = .ok (.iadd, 1) := by decide +kernel
theorem dX9_collect_113 : decode cX9_collect 113 = .ok (.putfield 199, 3) := by decide +kernel
theorem dX9_collect_116 : decode cX9_collect 116 = .ok (.iinc 2 1, 3) := by decide +kernel
theorem dX9_collect_119 : decode cX9_collect 119 = .ok (.goto (-112), 3) := by decide +kernel
theorem dX9_collect_122 : decode cX9_collect 122 = .ok (.aload_n 0, 1) := by decide +kernel
theorem dX9_collect_123 : decode cX9_collect 123 = .ok (.getfield 16, 3) := by decide +kernel
theorem dX9_collect_126 : decode cX9_collect 126 = .ok (.iload_n 1, 1) := by decide +kernel
theorem dX9_collect_127 : decode cX9_collect 127 = .ok (.baload, 1) := by decide +kernel
theorem dX9_collect_128 : decode cX9_collect 128 = .ok (.iconst 3, 1) := by decide +kernel
theorem dX9_collect_129 : decode cX9_collect 129 = .ok (.if_icmp .ne 64, 3) := by decide +kernel
theorem dX9_collect_132 : decode cX9_collect 132 = .ok (.aload_n 0, 1) := by decide +kernel
theorem dX9_collect_133 : decode cX9_collect 133 = .ok (.getfield 199, 3) := by decide +kernel
theorem dX9_collect_136 : decode cX9_collect 136 = .ok (.iconst 1, 1) := by decide +kernel
theorem dX9_collect_137 : decode cX9_collect 137 = .ok (.if_icmp .le 56, 3) := by decide +kernel
theorem dX9_collect_140 : decode cX9_collect 140 = .ok (.aload_n 0, 1) := by decide +kernel
theorem dX9_collect_141 : decode cX9_collect 141 = .ok (.getfield 41, 3) := by decide +kernel
theorem dX9_collect_144 : decode cX9_collect 144 = .ok (.aload_n 0, 1) := by decide +kernel
theorem dX9_collect_145 : decode cX9_collect 145 = .ok (.getfield 199, 3) := by decide +kernel
theorem dX9_collect_148 : decode cX9_collect 148 = .ok (.iconst 1, 1) := by decide +kernel
theorem dX9_collect_149 : decode cX9_collect 149 = .ok (.isub, 1) := by decide +kernel
theorem dX9_collect_150 : decode cX9_collect 150 = .ok (.iaload, 1) := by decide +kernel
theorem dX9_collect_151 : decode cX9_collect 151 = .ok (.aload_n 0, 1) := by decide +kernel
theorem dX9_collect_152 : decode cX9_collect 152 = .ok (.getfield 41, 3) := by decide +kernel
theorem dX9_collect_155 : decode cX9_collect 155 = .ok (.iconst 0, 1) := by decide +kernel
theorem dX9_collect_156 : decode cX9_collect 156 = .ok (.iaload, 1) := by decide +kernel
theorem dX9_collect_157 : decode cX9_collect 157 = .ok (.if_icmp .ne 36, 3) := by decide +kernel
theorem dX9_collect_160 : decode cX9_collect 160 = .ok (.aload_n 0, 1) := by decide +kernel
theorem dX9_collect_161 : decode cX9_collect 161 = .ok (.getfield 44, 3) := by decide +kernel
theorem dX9_collect_164 : decode cX9_collect 164 = .ok (.aload_n 0, 1) := by decide +kernel
theorem dX9_collect_165 : decode cX9_collect 165 = .ok (.getfield 199, 3) := by decide +kernel
theorem dX9_collect_168 : decode cX9_collect 168 = .ok (.iconst 1, 1) := by decide +kernel
theorem dX9_collect_169 : decode cX9_collect 169 = .ok (.isub, 1) := by decide +kernel
theorem dX9_collect_170 : decode cX9_collect 170 = .ok (.iaload, 1) := by decide +kernel
theorem dX9_collect_171 : decode cX9_collect 171 = .ok (.aload_n 0, 1) := by decide +kernel
theorem dX9_collect_172 : decode cX9_collect 172 = .ok (.getfield 44, 3) := by decide +kernel
theorem dX9_collect_175 : decode cX9_collect 175 = .ok (.iconst 0, 1) := by decide +kernel
theorem dX9_collect_176 : decode cX9_collect 176 = .ok (.iaload, 1) := by decide +kernel
theorem dX9_collect_177 : decode cX9_collect 177 = .ok (.if_icmp .ne 16, 3) := by decide +kernel
theorem dX9_collect_180 : decode cX9_collect 180 = .ok (.aload_n 0, 1) := by decide +kernel
theorem dX9_collect_181 : decode cX9_collect 181 = .ok (.dup, 1) := by decide +kernel
theorem dX9_collect_182 : decode cX9_collect 182 = .ok (.getfield 199, 3) := by decide +kernel
theorem dX9_collect_185 : decode cX9_collect 185 = .ok (.iconst 1, 1) := by decide +kernel
theorem dX9_collect_186 : decode cX9_collect 186 = .ok (.isub, 1) := by decide +kernel
theorem dX9_collect_187 : decode cX9_collect 187 = .ok (.putfield 199, 3) := by decide +kernel
theorem dX9_collect_190 : decode cX9_collect 190 = .ok (.goto (-68), 3) := by decide +kernel
theorem dX9_collect_193 : decode cX9_collect 193 = .ok (.iload_n 2, 1) := by decide +kernel
theorem dX9_collect_194 : decode cX9_collect 194 = .ok (.ireturn, 1) := by decide +kernel
theorem dX9_corner_0 : decode cX9_corner 0 = .ok (.iload_n 1, 1) := by decide +kernel
theorem dX9_corner_1 : decode cX9_corner 1 = .ok (.ifCond .lt 43, 3) := by decide +kernel
theorem dX9_corner_4 : decode cX9_corner 4 = .ok (.iload_n 1, 1) := by decide +kernel
theorem dX9_corner_5 : decode cX9_corner 5 = .ok (.aload_n 0, 1) := by decide +kernel
theorem dX9_corner_6 : decode cX9_corner 6 = .ok (.getfield 74, 3) := by decide +kernel
theorem dX9_corner_9 : decode cX9_corner 9 = .ok (.if_icmp .ge 35, 3) := by decide +kernel
theorem dX9_corner_12 : decode cX9_corner 12 = .ok (.iload_n 2, 1) := by decide +kernel
theorem dX9_corner_13 : decode cX9_corner 13 = .ok (.ifCond .lt 31, 3) := by decide +kernel
theorem dX9_corner_16 : decode cX9_corner 16 = .ok (.iload_n 2, 1) := by decide +kernel
theorem dX9_corner_17 : decode cX9_corner 17 = .ok (.aload_n 0, 1) := by decide +kernel
theorem dX9_corner_18 : decode cX9_corner 18 = .ok (.getfield 47, 3) := by decide +kernel
theorem dX9_corner_21 : decode cX9_corner 21 = .ok (.iload_n 1, 1) := by decide +kernel
theorem dX9_corner_22 : decode cX9_corner 22 = .ok (.baload, 1) := by decide +kernel
theorem dX9_corner_23 : decode cX9_corner 23 = .ok (.iconst 1, 1) := by decide +kernel
theorem dX9_corner_24 : decode cX9_corner 24 = .ok (.if_icmp .ne 7, 3) := by decide +kernel
theorem dX9_corner_27 : decode cX9_corner 27 = .ok (.iconst 3, 1) := by decide +kernel
theorem dX9_corner_28 : decode cX9_corner 28 = .ok (.goto 4, 3) := by decide +kernel
theorem dX9_corner_31 : decode cX9_corner 31 = .ok (.iconst 4, 1) := by decide +kernel
theorem dX9_corner_32 : decode cX9_corner 32 = .ok (.if_icmp .ge 12, 3) := by decide +kernel
theorem dX9_corner_35 : decode cX9_corner 35 = .ok (.iload_n 3, 1) := by decide +kernel
theorem dX9_corner_36 : decode cX9_corner 36 = .ok (.ifCond .lt 8, 3) := by decide +kernel
theorem dX9_corner_39 : decode cX9_corner 39 = .ok (.iload_n 3, 1) := by decide +kernel
theorem dX9_corner_40 : decode cX9_corner 40 = .ok (.iconst 1, 1) := by decide +kernel
theorem dX9_corner_41 : decode cX9_corner 41 = .ok (.if_icmp .le 5, 3) := by decide +kernel
theorem dX9_corner_44 : decode cX9_corner 44 = .ok (.iconst 0, 1) := by decide +kernel
theorem dX9_corner_45 : decode cX9_corner 45 = .ok (.ireturn, 1) := by decide +kernel
theorem dX9_corner_46 : decode cX9_corner 46 = .ok (.aload_n 0, 1) := by decide +kernel
theorem dX9_corner_47 : decode cX9_corner 47 = .ok (.getfield 50, 3) := by decide +kernel
theorem dX9_corner_50 : decode cX9_corner 50 = .ok (.bipush 8, 2) := by decide +kernel
theorem dX9_corner_52 : decode cX9_corner 52 = .ok (.iload_n 1, 1) := by decide +kernel
theorem dX9_corner_53 : decode cX9_corner 53 = .ok (.imul, 1) := by decide +kernel
theorem dX9_corner_54 : decode cX9_corner 54 = .ok (.iconst 2, 1) := by decide +kernel
theorem dX9_corner_55 : decode cX9_corner 55 = .ok (.iload_n 2, 1) := by decide +kernel
theorem dX9_corner_56 : decode cX9_corner 56 = .ok (.imul, 1) := by decide +kernel
theorem dX9_corner_57 : decode cX9_corner 57 = .ok (.iadd, 1) := by decide +kernel
theorem dX9_corner_58 : decode cX9_corner 58 = .ok (.iload_n 3, 1) := by decide +kernel
theorem dX9_corner_59 : decode cX9_corner 59 = .ok (.iadd, 1) := by decide +kernel
theorem dX9_corner_60 : decode cX9_corner 60 = .ok (.iaload, 1) := by decide +kernel
theorem dX9_corner_61 : decode cX9_corner 61 = .ok (.ireturn, 1) := by decide +kernel
theorem dX9_dashes_0 : decode cX9_dashes 0 = .ok (.iload_n 1, 1) := by decide +kernel
theorem dX9_dashes_1 : decode cX9_dashes 1 = .ok (.ifCond .lt 22, 3) := by decide +kernel
theorem dX9_dashes_4 : decode cX9_dashes 4 = .ok (.iload_n 1, 1) := by decide +kernel
theorem dX9_dashes_5 : decode cX9_dashes 5 = .ok (.bipush 8, 2) := by decide +kernel
theorem dX9_dashes_7 : decode cX9_dashes 7 = .ok (.if_icmp .gt 16, 3) := by decide +kernel
theorem dX9_dashes_10 : decode cX9_dashes 10 = .ok (.iload_n 2, 1) := by decide +kernel
theorem dX9_dashes_11 : decode cX9_dashes 11 = .ok (.ifCond .lt 12, 3) := by decide +kernel
theorem dX9_dashes_14 : decode cX9_dashes 14 = .ok (.iload_n 2, 1) := by decide +kernel
theorem dX9_dashes_15 : decode cX9_dashes 15 = .ok (.i2l, 1) := by decide +kernel
theorem dX9_dashes_16 : decode cX9_dashes 16 = .ok (.ldc2_w 58, 3) := by decide +kernel
theorem dX9_dashes_19 : decode cX9_dashes 19 = .ok (.lcmp, 1) := by decide +kernel
theorem dX9_dashes_20 : decode cX9_dashes 20 = .ok (.ifCond .le 5, 3) := by decide +kernel
theorem dX9_dashes_23 : decode cX9_dashes 23 = .ok (.iconst 0, 1) := by decide +kernel
theorem dX9_dashes_24 : decode cX9_dashes 24 = .ok (.ireturn, 1) := by decide +kernel
theorem dX9_dashes_25 : decode cX9_dashes 25 = .ok (.lconst 0, 1) := by decide +kernel
theorem dX9_dashes_26 : decode cX9_dashes 26 = .ok (.lstore_n 3, 1) := by decide +kernel
theorem dX9_dashes_27 : decode cX9_dashes 27 = .ok (.iconst 0, 1) := by decide +kernel
theorem dX9_dashes_28 : decode cX9_dashes 28 = .ok (.istore 5, 2) := by decide +kernel
theorem dX9_dashes_30 : decode cX9_dashes 30 = .ok (.iload 5, 2) := by decide +kernel
theorem dX9_dashes_32 : decode cX9_dashes 32 = .ok (.iload_n 1, 1) := by decide +kernel
theorem dX9_dashes_33 : decode cX9_dashes 33 = .ok (.if_icmp .ge 20, 3) := by decide +kernel
theorem dX9_dashes_36 : decode cX9_dashes 36 = .ok (.lload_n 3, 1) := by decide +kernel
theorem dX9_dashes_37 : decode cX9_dashes 37 = .ok (.aload_n 0, 1) := by decide +kernel
theorem dX9_dashes_38 : decode cX9_dashes 38 = .ok (.getfield 31, 3) := by decide +kernel
theorem dX9_dashes_41 : decode cX9_dashes 41 = .ok (.iload 5, 2) := by decide +kernel
theorem dX9_dashes_43 : decode cX9_dashes 43 = .ok (.iaload, 1) := by decide +kernel
theorem dX9_dashes_44 : decode cX9_dashes 44 = .ok (.i2l, 1) := by decide +kernel
theorem dX9_dashes_45 : decode cX9_dashes 45 = .ok (.ladd, 1) := by decide +kernel
theorem dX9_dashes_46 : decode cX9_dashes 46 = .ok (.lstore_n 3, 1) := by decide +kernel
theorem dX9_dashes_47 : decode cX9_dashes 47 = .ok (.iinc 5 1, 3) := by decide +kernel
theorem dX9_dashes_50 : decode cX9_dashes 50 = .ok (.goto (-20), 3) := by decide +kernel
theorem dX9_dashes_53 : decode cX9_dashes 53 = .ok (.iload_n 1, 1) := by decide +kernel
theorem dX9_dashes_54 : decode cX9_dashes 54 = .ok (.ifCond .le 11, 3) := by decide +kernel
theorem dX9_dashes_57 : decode cX9_dashes 57 = .ok (.lload_n 3, 1) := by decide +kernel
theorem dX9_dashes_58 : decode cX9_dashes 58 = .ok (.lconst 0, 1) := by decide +kernel
theorem dX9_dashes_59 : decode cX9_dashes 59 = .ok (.lcmp, 1) := by decide +kernel
theorem dX9_dashes_60 : decode cX9_dashes 60 = .ok (.ifCond .ne 5, 3) := by decide +kernel
theorem dX9_dashes_63 : decode cX9_dashes 63 = .ok (.iconst 0, 1) := by decide +kernel
theorem dX9_dashes_64 : decode cX9_dashes 64 = .ok (.ireturn, 1) := by decide +kernel
theorem dX9_dashes_65 : decode cX9_dashes 65 = .ok (.iconst 0, 1) := by decide +kernel
theorem dX9_dashes_66 : decode cX9_dashes 66 = .ok (.istore 5, 2) := by decide +kernel
theorem dX9_dashes_68 : decode cX9_dashes 68 = .ok (.iload 5, 2) := by decide +kernel
theorem dX9_dashes_70 : decode cX9_dashes 70 = .ok (.iload_n 1, 1) := by decide +kernel
theorem dX9_dashes_71 : decode cX9_dashes 71 = .ok (.if_icmp .ge 23, 3) := by decide +kernel
theorem dX9_dashes_74 : decode cX9_dashes 74 = .ok (.aload_n 0, 1) := by decide +kernel
theorem dX9_dashes_75 : decode cX9_dashes 75 = .ok (.getfield 53, 3) := by decide +kernel
theorem dX9_dashes_78 : decode cX9_dashes 78 = .ok (.iload 5, 2) := by decide +kernel
theorem dX9_dashes_80 : decode cX9_dashes 80 = .ok (.aload_n 0, 1) := by decide +kernel
theorem dX9_dashes_81 : decode cX9_dashes 81 = .ok (.getfield 31, 3) := by decide +kernel
theorem dX9_dashes_84 : decode cX9_dashes 84 = .ok (.iload 5, 2) := by decide +kernel
theorem dX9_dashes_86 : decode cX9_dashes 86 = .ok (.iaload, 1) := by decide +kernel
theorem dX9_dashes_87 : decode cX9_dashes 87 = .ok (.iastore, 1) := by decide +kernel
theorem dX9_dashes_88 : decode cX9_dashes 88 = .ok (.iinc 5 1, 3) := by decide +kernel
theorem dX9_dashes_91 : decode cX9_dashes 91 = .ok (.goto (-23), 3) := by decide +kernel
theorem dX9_dashes_94 : decode cX9_dashes 94 = .ok (.aload_n 0, 1) := by decide +kernel
theorem dX9_dashes_95 : decode cX9_dashes 95 = .ok (.iload_n 1, 1) := by decide +kernel
theorem dX9_dashes_96 : decode cX9_dashes 96 = .ok (.putfield 86, 3) := by decide +kernel
theorem dX9_dashes_99 : decode cX9_dashes 99 = .ok (.aload_n 0, 1) := by decide +kernel
theorem dX9_dashes_100 : decode cX9_dashes 100 = .ok (.iload_n 2, 1) := by decide +kernel
theorem dX9_dashes_101 : decode cX9_dashes 101 = .ok (.putfield 89, 3) := by decide +kernel
theorem dX9_dashes_104 : decode cX9_dashes 104 = .ok (.iconst 1, 1) := by decide +kernel
theorem dX9_dashes_105 : decode cX9_dashes 105 = .ok (.ireturn, 1) := by decide +kernel
theorem dX9_dx_0 : decode cX9_dx 0 = .ok (.aload_n 0, 1) := by decide +kernel
theorem dX9_dx_1 : decode cX9_dx 1 = .ok (.getfield 34, 3) := by decide +kernel
theorem dX9_dx_4 : decode cX9_dx 4 = .ok (.iload_n 1, 1) := by decide +kernel
theorem dX9_dx_5 : decode cX9_dx 5 = .ok (.iconst 1, 1) := by decide +kernel
theorem dX9_dx_6 : decode cX9_dx 6 = .ok (.iadd, 1) := by decide +kernel
theorem dX9_dx_7 : decode cX9_dx 7 = .ok (.laload, 1) := by decide +kernel
theorem dX9_dx_8 : decode cX9_dx 8 = .ok (.aload_n 0, 1) := by decide +kernel
theorem dX9_dx_9 : decode cX9_dx 9 = .ok (.getfield 34, 3) := by decide +kernel
theorem dX9_dx_12 : decode cX9_dx 12 = .ok (.iload_n 1, 1) := by decide +kernel
theorem dX9_dx_13 : decode cX9_dx 13 = .ok (.laload, 1) := by decide +kernel
theorem dX9_dx_14 : decode cX9_dx 14 = .ok (.lsub, 1) := by decide +kernel
theorem dX9_dx_15 : decode cX9_dx 15 = .ok (.lreturn, 1) := by decide +kernel
theorem dX9_dy_0 : decode cX9_dy 0 = .ok (.aload_n 0, 1) := by decide +kernel
theorem dX9_dy_1 : decode cX9_dy 1 = .ok (.getfield 38, 3) := by decide +kernel
theorem dX9_dy_4 : decode cX9_dy 4 = .ok (.iload_n 1, 1) := by decide +kernel
theorem dX9_dy_5 : decode cX9_dy 5 = .ok (.iconst 1, 1) := by decide +kernel
theorem dX9_dy_6 : decode cX9_dy 6 = .ok (.iadd, 1) := by decide +kernel
theorem dX9_dy_7 : decode cX9_dy 7 = .ok (.laload, 1) := by decide +kernel
theorem dX9_dy_8 : decode cX9_dy 8 = .ok (.aload_n 0, 1) := by decide +kernel
theorem dX9_dy_9 : decode cX9_dy 9 = .ok (.getfield 38, 3) := by decide +kernel
theorem dX9_dy_12 : decode cX9_dy 12 = .ok (.iload_n 1, 1) := by decide +kernel
theorem dX9_dy_13 : decode cX9_dy 13 = .ok (.laload, 1) := by decide +kernel
theorem dX9_dy_14 : decode cX9_dy 14 = .ok (.lsub, 1) := by decide +kernel
theorem dX9_dy_15 : decode cX9_dy 15 = .ok (.lreturn, 1) := by decide +kernel
theorem dX9_end_0 : decode cX9_end 0 = .ok (.aload_n 0, 1) := by decide +kernel
theorem dX9_end_1 : decode cX9_end 1 = .ok (.dup, 1) := by decide +kernel
theorem dX9_end_2 : decode cX9_end 2 = .ok (.getfield 74, 3) := by decide +kernel
theorem dX9_end_5 : decode cX9_end 5 = .ok (.aload_n 0, 1) := by decide +kernel
theorem dX9_end_6 : decode cX9_end 6 = .ok (.getfield 102, 3) := by decide +kernel
theorem dX9_end_9 : decode cX9_end 9 = .ok (.ifCond .ne 7, 3) := by decide +kernel
theorem dX9_end_12 : decode cX9_end 12 = .ok (.iconst 1, 1) := by decide +kernel
theorem dX9_end_13 : decode cX9_end 13 = .ok (.goto 4, 3) := by decide +kernel
theorem dX9_end_16 : decode cX9_end 16 = .ok (.iconst 0, 1) := by decide +kernel
theorem dX9_end_17 : decode cX9_end 17 = .ok (.iadd, 1) := by decide +kernel
theorem dX9_end_18 : decode cX9_end 18 = .ok (.putfield 74, 3) := by decide +kernel
theorem dX9_end_21 : decode cX9_end 21 = .ok (.return_, 1) := by decide +kernel
theorem dX9_endDash_0 : decode cX9_endDash 0 = .ok (.aload_n 0, 1) := by decide +kernel
theorem dX9_endDash_1 : decode cX9_endDash 1 = .ok (.getfield 170, 3) := by decide +kernel
theorem dX9_endDash_4 : decode cX9_endDash 4 = .ok (.ifCond .ne 8, 3) := by decide +kernel
theorem dX9_endDash_7 : decode cX9_endDash 7 = .ok (.aload_n 0, 1) := by decide +kernel
theorem dX9_endDash_8 : decode cX9_endDash 8 = .ok (.iconst 0, 1) := by decide +kernel
theorem dX9_endDash_9 : decode cX9_endDash 9 = .ok (.invokevirtual 186, 3) := by decide +kernel
theorem dX9_endDash_12 : decode cX9_endDash 12 = .ok (.aload_n 0, 1) := by decide +kernel
theorem dX9_endDash_13 : decode cX9_endDash 13 = .ok (.iconst 0, 1) := by decide +kernel
theorem dX9_endDash_14 : decode cX9_endDash 14 = .ok (.putfield 146, 3) := by decide +kernel
theorem dX9_endDash_17 : decode cX9_endDash 17 = .ok (.return_, 1) := by decide +kernel
theorem dX9_init_0 : decode cX9_init 0 = .ok (.aload_n 0, 1) := by decide +kernel
theorem dX9_init_1 : decode cX9_init 1 = .ok (.invokespecial 1, 3) := by decide +kernel
theorem dX9_init_4 : decode cX9_init 4 = .ok (.aload_n 0, 1) := by decide +kernel
theorem dX9_init_5 : decode cX9_init 5 = .ok (.sipush 2000, 3) := by decide +kernel
theorem dX9_init_8 : decode cX9_init 8 = .ok (.newarray .int, 2) := by decide +kernel
theorem dX9_init_10 : decode cX9_init 10 = .ok (.putfield 7, 3) := by decide +kernel
theorem dX9_init_13 : decode cX9_init 13 = .ok (.aload_n 0, 1) := by decide +kernel
theorem dX9_init_14 : decode cX9_init 14 = .ok (.sipush 2000, 3) := by decide +kernel
theorem dX9_init_17 : decode cX9_init 17 = .ok (.newarray .int, 2) := by decide +kernel
theorem dX9_init_19 : decode cX9_init 19 = .ok (.putfield 13, 3) := by decide +kernel
theorem dX9_init_22 : decode cX9_init 22 = .ok (.aload_n 0, 1) := by decide +kernel
theorem dX9_init_23 : decode cX9_init 23 = .ok (.sipush 2000, 3) := by decide +kernel
theorem dX9_init_26 : decode cX9_init 26 = .ok (.newarray .byte, 2) := by decide +kernel
theorem dX9_init_28 : decode cX9_init 28 = .ok (.putfield 16, 3) := by decide +kernel
theorem dX9_init_31 : decode cX9_init 31 = .ok (.aload_n 0, 1) := by decide +kernel
theorem dX9_init_32 : decode cX9_init 32 = .ok (.ldc 20, 2) := by decide +kernel
theorem dX9_init_34 : decode cX9_init 34 = .ok (.putfield 21, 3) := by decide +kernel
theorem dX9_init_37 : decode cX9_init 37 = .ok (.aload_n 0, 1) := by decide +kernel
theorem dX9_init_38 : decode cX9_init 38 = .ok (.ldc2_w 25, 3) := by decide +kernel
theorem dX9_init_41 : decode cX9_init 41 = .ok (.putfield 27, 3) := by decide +kernel
theorem dX9_init_44 : decode cX9_init 44 = .ok (.aload_n 0, 1) := by decide +kernel
theorem dX9_init_45 : decode cX9_init 45 = .ok (.bipush 8, 2) := by decide +kernel
theorem dX9_init_47 : decode cX9_init 47 = .ok (.newarray .int, 2) := by decide +kernel
theorem dX9_init_49 : decode cX9_init 49 = .ok (.putfield 31, 3) := by decide +kernel
theorem dX9_init_52 : decode cX9_init 52 = .ok (.aload_n 0, 1) := by decide +kernel
theorem dX9_init_53 : decode cX9_init 53 = .ok (.sipush 2004, 3) := by decide +kernel
theorem dX9_init_56 : decode cX9_init 56 = .ok (.newarray .long, 2) := by decide +kernel
theorem dX9_init_58 : decode cX9_init 58 = .ok (.putfield 34, 3) := by decide +kernel
theorem dX9_init_61 : decode cX9_init 61 = .ok (.aload_n 0, 1) := by decide +kernel
theorem dX9_init_62 : decode cX9_init 62 = .ok (.sipush 2004, 3) := by decide +kernel
theorem dX9_init_65 : decode cX9_init 65 = .ok (.newarray .long, 2) := by decide +kernel
theorem dX9_init_67 : decode cX9_init 67 = .ok (.putfield 38, 3) := by decide +kernel
theorem dX9_init_70 : decode cX9_init 70 = .ok (.aload_n 0, 1) := by decide +kernel
theorem dX9_init_71 : decode cX9_init 71 = .ok (.sipush 2000, 3) := by decide +kernel
theorem dX9_init_74 : decode cX9_init 74 = .ok (.newarray .int, 2) := by decide +kernel
theorem dX9_init_76 : decode cX9_init 76 = .ok (.putfield 41, 3) := by decide +kernel
theorem dX9_init_79 : decode cX9_init 79 = .ok (.aload_n 0, 1) := by decide +kernel
theorem dX9_init_80 : decode cX9_init 80 = .ok (.sipush 2000, 3) := by decide +kernel
theorem dX9_init_83 : decode cX9_init 83 = .ok (.newarray .int, 2) := by decide +kernel
theorem dX9_init_85 : decode cX9_init 85 = .ok (.putfield 44, 3) := by decide +kernel
theorem dX9_init_88 : decode cX9_init 88 = .ok (.aload_n 0, 1) := by decide +kernel
theorem dX9_init_89 : decode cX9_init 89 = .ok (.sipush 2000, 3) := by decide +kernel
theorem dX9_init_92 : decode cX9_init 92 = .ok (.newarray .byte, 2) := by decide +kernel
theorem dX9_init_94 : decode cX9_init 94 = .ok (.putfield 47, 3) := by decide +kernel
theorem dX9_init_97 : decode cX9_init 97 = .ok (.aload_n 0, 1) := by decide +kernel
theorem dX9_init_98 : decode cX9_init 98 = .ok (.sipush 16000, 3) := by decide +kernel
theorem dX9_init_101 : decode cX9_init 101 = .ok (.newarray .int, 2) := by decide +kernel
theorem dX9_init_103 : decode cX9_init 103 = .ok (.putfield 50, 3) := by decide +kernel
theorem dX9_init_106 : decode cX9_init 106 = .ok (.aload_n 0, 1) := by decide +kernel
theorem dX9_init_107 : decode cX9_init 107 = .ok (.bipush 8, 2) := by decide +kernel
theorem dX9_init_109 : decode cX9_init 109 = .ok (.newarray .int, 2) := by decide +kernel
theorem dX9_init_111 : decode cX9_init 111 = .ok (.putfield 53, 3) := by decide +kernel
theorem dX9_init_114 : decode cX9_init 114 = .ok (.return_, 1) := by decide +kernel
theorem dX9_isFar_0 : decode cX9_isFar 0 = .ok (.lload_n 0, 1) := by decide +kernel
theorem dX9_isFar_1 : decode cX9_isFar 1 = .ok (.ldc2_w 56, 3) := by decide +kernel
theorem dX9_isFar_4 : decode cX9_isFar 4 = .ok (.lcmp, 1) := by decide +kernel
theorem dX9_isFar_5 : decode cX9_isFar 5 = .ok (.ifCond .lt 11, 3) := by decide +kernel
theorem dX9_isFar_8 : decode cX9_isFar 8 = .ok (.lload_n 0, 1) := by decide +kernel
theorem dX9_isFar_9 : decode cX9_isFar 9 = .ok (.ldc2_w 58, 3) := by decide +kernel
theorem dX9_isFar_12 : decode cX9_isFar 12 = .ok (.lcmp, 1) := by decide +kernel
theorem dX9_isFar_13 : decode cX9_isFar 13 = .ok (.ifCond .le 7, 3) := by decide +kernel
theorem dX9_isFar_16 : decode cX9_isFar 16 = .ok (.iconst 1, 1) := by decide +kernel
theorem dX9_isFar_17 : decode cX9_isFar 17 = .ok (.goto 4, 3) := by decide +kernel
theorem dX9_isFar_20 : decode cX9_isFar 20 = .ok (.iconst 0, 1) := by decide +kernel
theorem dX9_isFar_21 : decode cX9_isFar 21 = .ok (.ireturn, 1) := by decide +kernel
theorem dX9_length_0 : decode cX9_length 0 = .ok (.iload_n 1, 1) := by decide +kernel
theorem dX9_length_1 : decode cX9_length 1 = .ok (.ifCond .lt 22, 3) := by decide +kernel
theorem dX9_length_4 : decode cX9_length 4 = .ok (.iload_n 1, 1) := by decide +kernel
theorem dX9_length_5 : decode cX9_length 5 = .ok (.bipush 7, 2) := by decide +kernel
theorem dX9_length_7 : decode cX9_length 7 = .ok (.if_icmp .gt 16, 3) := by decide +kernel
theorem dX9_length_10 : decode cX9_length 10 = .ok (.iload_n 2, 1) := by decide +kernel
theorem dX9_length_11 : decode cX9_length 11 = .ok (.ifCond .lt 12, 3) := by decide +kernel
theorem dX9_length_14 : decode cX9_length 14 = .ok (.iload_n 2, 1) := by decide +kernel
theorem dX9_length_15 : decode cX9_length 15 = .ok (.i2l, 1) := by decide +kernel
theorem dX9_length_16 : decode cX9_length 16 = .ok (.ldc2_w 58, 3) := by decide +kernel
theorem dX9_length_19 : decode cX9_length 19 = .ok (.lcmp, 1) := by decide +kernel
theorem dX9_length_20 : decode cX9_length 20 = .ok (.ifCond .le 5, 3) := by decide +kernel
theorem dX9_length_23 : decode cX9_length 23 = .ok (.iconst 0, 1) := by decide +kernel
theorem dX9_length_24 : decode cX9_length 24 = .ok (.ireturn, 1) := by decide +kernel
theorem dX9_length_25 : decode cX9_length 25 = .ok (.aload_n 0, 1) := by decide +kernel
theorem dX9_length_26 : decode cX9_length 26 = .ok (.getfield 31, 3) := by decide +kernel
theorem dX9_length_29 : decode cX9_length 29 = .ok (.iload_n 1, 1) := by decide +kernel
theorem dX9_length_30 : decode cX9_length 30 = .ok (.iload_n 2, 1) := by decide +kernel
theorem dX9_length_31 : decode cX9_length 31 = .ok (.iastore, 1) := by decide +kernel
theorem dX9_length_32 : decode cX9_length 32 = .ok (.iconst 1, 1) := by decide +kernel
theorem dX9_length_33 : decode cX9_length 33 = .ok (.ireturn, 1) := by decide +kernel
theorem dX9_lengthOf_0 : decode cX9_lengthOf 0 = .ok (.lload_n 0, 1) := by decide +kernel
theorem dX9_lengthOf_1 : decode cX9_lengthOf 1 = .ok (.lload_n 0, 1) := by decide +kernel
theorem dX9_lengthOf_2 : decode cX9_lengthOf 2 = .ok (.lmul, 1) := by decide +kernel
theorem dX9_lengthOf_3 : decode cX9_lengthOf 3 = .ok (.lload_n 2, 1) := by decide +kernel
theorem dX9_lengthOf_4 : decode cX9_lengthOf 4 = .ok (.lload_n 2, 1) := by decide +kernel
theorem dX9_lengthOf_5 : decode cX9_lengthOf 5 = .ok (.lmul, 1) := by decide +kernel
theorem dX9_lengthOf_6 : decode cX9_lengthOf 6 = .ok (.ladd, 1) := by decide +kernel
theorem dX9_lengthOf_7 : decode cX9_lengthOf 7 = .ok (.invokestatic 105, 3) := by decide +kernel
theorem dX9_lengthOf_10 : decode cX9_lengthOf 10 = .ok (.lreturn, 1) := by decide +kernel
theorem dX9_line_0 : decode cX9_line 0 = .ok (.aload_n 0, 1) := by decide +kernel
theorem dX9_line_1 : decode cX9_line 1 = .ok (.getfield 60, 3) := by decide +kernel
theorem dX9_line_4 : decode cX9_line 4 = .ok (.ifCond .eq 16, 3) := by decide +kernel
theorem dX9_line_7 : decode cX9_line 7 = .ok (.aload_n 0, 1) := by decide +kernel
theorem dX9_line_8 : decode cX9_line 8 = .ok (.getfield 16, 3) := by decide +kernel
theorem dX9_line_11 : decode cX9_line 11 = .ok (.aload_n 0, 1) := by decide +kernel
theorem dX9_line_12 : decode cX9_line 12 = .ok (.getfield 71, 3) := by decide +kernel
theorem dX9_line_15 : decode cX9_line 15 = .ok (.baload, 1) := by decide +kernel
theorem dX9_line_16 : decode cX9_line 16 = .ok (.iconst 3, 1) := by decide +kernel
theorem dX9_line_17 : decode cX9_line 17 = .ok (.if_icmp .ne 6, 3) := by decide +kernel
theorem dX9_line_20 : decode cX9_line 20 = .ok (.bipush (-2), 2) := by decide +kernel
theorem dX9_line_22 : decode cX9_line 22 = .ok (.ireturn, 1) := by decide +kernel
theorem dX9_line_23 : decode cX9_line 23 = .ok (.iload_n 1, 1) := by decide +kernel
theorem dX9_line_24 : decode cX9_line 24 = .ok (.i2l, 1) := by decide +kernel
theorem dX9_line_25 : decode cX9_line 25 = .ok (.invokestatic 63, 3) := by decide +kernel
theorem dX9_line_28 : decode cX9_line 28 = .ok (.ifCond .ne 11, 3) := by decide +kernel
theorem dX9_line_31 : decode cX9_line 31 = .ok (.iload_n 2, 1) := by decide +kernel
theorem dX9_line_32 : decode cX9_line 32 = .ok (.i2l, 1) := by decide +kernel
theorem dX9_line_33 : decode cX9_line 33 = .ok (.invokestatic 63, 3) := by decide +kernel
theorem dX9_line_36 : decode cX9_line 36 = .ok (.ifCond .eq 8, 3) := by decide +kernel
theorem dX9_line_39 : decode cX9_line 39 = .ok (.bipush (-4), 2) := by decide +kernel
theorem dX9_line_41 : decode cX9_line 41 = .ok (.goto 10, 3) := by decide +kernel
theorem dX9_line_44 : decode cX9_line 44 = .ok (.aload_n 0, 1) := by decide +kernel
theorem dX9_line_45 : decode cX9_line 45 = .ok (.iload_n 1, 1) := by decide +kernel
theorem dX9_line_46 : decode cX9_line 46 = .ok (.iload_n 2, 1) := by decide +kernel
theorem dX9_line_47 : decode cX9_line 47 = .ok (.iconst 0, 1) := by decide +kernel
theorem dX9_line_48 : decode cX9_line 48 = .ok (.invokevirtual 67, 3) := by decide +kernel
theorem dX9_line_51 : decode cX9_line 51 = .ok (.ireturn, 1) := by decide +kernel
theorem dX9_make_0 : decode cX9_make 0 = .ok (.iload_n 1, 1) := by decide +kernel
theorem dX9_make_1 : decode cX9_make 1 = .ok (.ifCond .eq 10, 3) := by decide +kernel
theorem dX9_make_4 : decode cX9_make 4 = .ok (.aload_n 0, 1) := by decide +kernel
theorem dX9_make_5 : decode cX9_make 5 = .ok (.getfield 146, 3) := by decide +kernel
theorem dX9_make_8 : decode cX9_make 8 = .ok (.goto 9, 3) := by decide +kernel
theorem dX9_make_11 : decode cX9_make 11 = .ok (.aload_n 0, 1) := by decide +kernel
theorem dX9_make_12 : decode cX9_make 12 = .ok (.getfield 146, 3) := by decide +kernel
theorem dX9_make_15 : decode cX9_make 15 = .ok (.iconst 1, 1) := by decide +kernel
theorem dX9_make_16 : decode cX9_make 16 = .ok (.isub, 1) := by decide +kernel
theorem dX9_make_17 : decode cX9_make 17 = .ok (.istore_n 2, 1) := by decide +kernel
theorem dX9_make_18 : decode cX9_make 18 = .ok (.aload_n 0, 1) := by decide +kernel
theorem dX9_make_19 : decode cX9_make 19 = .ok (.getfield 146, 3) := by decide +kernel
theorem dX9_make_22 : decode cX9_make 22 = .ok (.iconst 2, 1) := by decide +kernel
theorem dX9_make_23 : decode cX9_make 23 = .ok (.if_icmp .ge 4, 3) := by decide +kernel
theorem dX9_make_26 : decode cX9_make 26 = .ok (.return_, 1) := by decide +kernel
end
section
theorem dX9_make_27 : decode cX9_make 27 = .ok (.iload_n 1, 1) := by decide +kernel
theorem dX9_make_28 : decode cX9_make 28 = .ok (.ifCond .eq 38, 3) := by decide +kernel
theorem dX9_make_31 : decode cX9_make 31 = .ok (.aload_n 0, 1) := by decide +kernel
theorem dX9_make_32 : decode cX9_make 32 = .ok (.aload_n 0, 1) := by decide +kernel
theorem dX9_make_33 : decode cX9_make 33 = .ok (.getfield 34, 3) := by decide +kernel
theorem dX9_make_36 : decode cX9_make 36 = .ok (.iconst 0, 1) := by decide +kernel
theorem dX9_make_37 : decode cX9_make 37 = .ok (.laload, 1) := by decide +kernel
theorem dX9_make_38 : decode cX9_make 38 = .ok (.aload_n 0, 1) := by decide +kernel
theorem dX9_make_39 : decode cX9_make 39 = .ok (.getfield 38, 3) := by decide +kernel
theorem dX9_make_42 : decode cX9_make 42 = .ok (.iconst 0, 1) := by decide +kernel
theorem dX9_make_43 : decode cX9_make 43 = .ok (.laload, 1) := by decide +kernel
theorem dX9_make_44 : decode cX9_make 44 = .ok (.invokevirtual 149, 3) := by decide +kernel
theorem dX9_make_47 : decode cX9_make 47 = .ok (.aload_n 0, 1) := by decide +kernel
theorem dX9_make_48 : decode cX9_make 48 = .ok (.aload_n 0, 1) := by decide +kernel
theorem dX9_make_49 : decode cX9_make 49 = .ok (.getfield 34, 3) := by decide +kernel
theorem dX9_make_52 : decode cX9_make 52 = .ok (.iconst 1, 1) := by decide +kernel
theorem dX9_make_53 : decode cX9_make 53 = .ok (.laload, 1) := by decide +kernel
theorem dX9_make_54 : decode cX9_make 54 = .ok (.aload_n 0, 1) := by decide +kernel
theorem dX9_make_55 : decode cX9_make 55 = .ok (.getfield 38, 3) := by decide +kernel
theorem dX9_make_58 : decode cX9_make 58 = .ok (.iconst 1, 1) := by decide +kernel
theorem dX9_make_59 : decode cX9_make 59 = .ok (.laload, 1) := by decide +kernel
theorem dX9_make_60 : decode cX9_make 60 = .ok (.invokevirtual 149, 3) := by decide +kernel
theorem dX9_make_63 : decode cX9_make 63 = .ok (.goto 7, 3) := by decide +kernel
theorem dX9_make_66 : decode cX9_make 66 = .ok (.aload_n 0, 1) := by decide +kernel
theorem dX9_make_67 : decode cX9_make 67 = .ok (.invokevirtual 153, 3) := by decide +kernel
theorem dX9_make_70 : decode cX9_make 70 = .ok (.iconst 0, 1) := by decide +kernel
theorem dX9_make_71 : decode cX9_make 71 = .ok (.istore_n 3, 1) := by decide +kernel
theorem dX9_make_72 : decode cX9_make 72 = .ok (.iload_n 3, 1) := by decide +kernel
theorem dX9_make_73 : decode cX9_make 73 = .ok (.iload_n 2, 1) := by decide +kernel
theorem dX9_make_74 : decode cX9_make 74 = .ok (.if_icmp .ge 33, 3) := by decide +kernel
theorem dX9_make_77 : decode cX9_make 77 = .ok (.aload_n 0, 1) := by decide +kernel
theorem dX9_make_78 : decode cX9_make 78 = .ok (.iload_n 3, 1) := by decide +kernel
theorem dX9_make_79 : decode cX9_make 79 = .ok (.invokevirtual 156, 3) := by decide +kernel
theorem dX9_make_82 : decode cX9_make 82 = .ok (.iload_n 1, 1) := by decide +kernel
theorem dX9_make_83 : decode cX9_make 83 = .ok (.ifCond .ne 10, 3) := by decide +kernel
theorem dX9_make_86 : decode cX9_make 86 = .ok (.iload_n 3, 1) := by decide +kernel
theorem dX9_make_87 : decode cX9_make 87 = .ok (.iconst 1, 1) := by decide +kernel
theorem dX9_make_88 : decode cX9_make 88 = .ok (.iadd, 1) := by decide +kernel
theorem dX9_make_89 : decode cX9_make 89 = .ok (.iload_n 2, 1) := by decide +kernel
theorem dX9_make_90 : decode cX9_make 90 = .ok (.if_icmp .ge 11, 3) := by decide +kernel
theorem dX9_make_93 : decode cX9_make 93 = .ok (.aload_n 0, 1) := by decide +kernel
theorem dX9_make_94 : decode cX9_make 94 = .ok (.iload_n 3, 1) := by decide +kernel
theorem dX9_make_95 : decode cX9_make 95 = .ok (.iload_n 3, 1) := by decide +kernel
theorem dX9_make_96 : decode cX9_make 96 = .ok (.iconst 1, 1) := by decide +kernel
theorem dX9_make_97 : decode cX9_make 97 = .ok (.iadd, 1) := by decide +kernel
theorem dX9_make_98 : decode cX9_make 98 = .ok (.invokevirtual 160, 3) := by decide +kernel
theorem dX9_make_101 : decode cX9_make 101 = .ok (.iinc 3 1, 3) := by decide +kernel
theorem dX9_make_104 : decode cX9_make 104 = .ok (.goto (-32), 3) := by decide +kernel
theorem dX9_make_107 : decode cX9_make 107 = .ok (.iload_n 1, 1) := by decide +kernel
theorem dX9_make_108 : decode cX9_make 108 = .ok (.ifCond .ne 10, 3) := by decide +kernel
theorem dX9_make_111 : decode cX9_make 111 = .ok (.aload_n 0, 1) := by decide +kernel
theorem dX9_make_112 : decode cX9_make 112 = .ok (.iload_n 2, 1) := by decide +kernel
theorem dX9_make_113 : decode cX9_make 113 = .ok (.iconst 1, 1) := by decide +kernel
theorem dX9_make_114 : decode cX9_make 114 = .ok (.isub, 1) := by decide +kernel
theorem dX9_make_115 : decode cX9_make 115 = .ok (.invokevirtual 164, 3) := by decide +kernel
theorem dX9_make_118 : decode cX9_make 118 = .ok (.return_, 1) := by decide +kernel
theorem dX9_meet_0 : decode cX9_meet 0 = .ok (.aload_n 0, 1) := by decide +kernel
theorem dX9_meet_1 : decode cX9_meet 1 = .ok (.iload_n 1, 1) := by decide +kernel
theorem dX9_meet_2 : decode cX9_meet 2 = .ok (.invokevirtual 109, 3) := by decide +kernel
theorem dX9_meet_5 : decode cX9_meet 5 = .ok (.aload_n 0, 1) := by decide +kernel
theorem dX9_meet_6 : decode cX9_meet 6 = .ok (.iload_n 2, 1) := by decide +kernel
theorem dX9_meet_7 : decode cX9_meet 7 = .ok (.invokevirtual 113, 3) := by decide +kernel
theorem dX9_meet_10 : decode cX9_meet 10 = .ok (.lmul, 1) := by decide +kernel
theorem dX9_meet_11 : decode cX9_meet 11 = .ok (.aload_n 0, 1) := by decide +kernel
theorem dX9_meet_12 : decode cX9_meet 12 = .ok (.iload_n 1, 1) := by decide +kernel
theorem dX9_meet_13 : decode cX9_meet 13 = .ok (.invokevirtual 113, 3) := by decide +kernel
theorem dX9_meet_16 : decode cX9_meet 16 = .ok (.aload_n 0, 1) := by decide +kernel
theorem dX9_meet_17 : decode cX9_meet 17 = .ok (.iload_n 2, 1) := by decide +kernel
theorem dX9_meet_18 : decode cX9_meet 18 = .ok (.invokevirtual 109, 3) := by decide +kernel
theorem dX9_meet_21 : decode cX9_meet 21 = .ok (.lmul, 1) := by decide +kernel
theorem dX9_meet_22 : decode cX9_meet 22 = .ok (.lsub, 1) := by decide +kernel
theorem dX9_meet_23 : decode cX9_meet 23 = .ok (.lstore_n 3, 1) := by decide +kernel
theorem dX9_meet_24 : decode cX9_meet 24 = .ok (.aload_n 0, 1) := by decide +kernel
theorem dX9_meet_25 : decode cX9_meet 25 = .ok (.getfield 102, 3) := by decide +kernel
theorem dX9_meet_28 : decode cX9_meet 28 = .ok (.ifCond .ne 9, 3) := by decide +kernel
theorem dX9_meet_31 : decode cX9_meet 31 = .ok (.lload_n 3, 1) := by decide +kernel
theorem dX9_meet_32 : decode cX9_meet 32 = .ok (.lconst 0, 1) := by decide +kernel
theorem dX9_meet_33 : decode cX9_meet 33 = .ok (.lcmp, 1) := by decide +kernel
theorem dX9_meet_34 : decode cX9_meet 34 = .ok (.ifCond .ne 4, 3) := by decide +kernel
theorem dX9_meet_37 : decode cX9_meet 37 = .ok (.return_, 1) := by decide +kernel
theorem dX9_meet_38 : decode cX9_meet 38 = .ok (.lload_n 3, 1) := by decide +kernel
theorem dX9_meet_39 : decode cX9_meet 39 = .ok (.lconst 0, 1) := by decide +kernel
theorem dX9_meet_40 : decode cX9_meet 40 = .ok (.lcmp, 1) := by decide +kernel
theorem dX9_meet_41 : decode cX9_meet 41 = .ok (.ifCond .le 9, 3) := by decide +kernel
theorem dX9_meet_44 : decode cX9_meet 44 = .ok (.ldc2_w 140, 3) := by decide +kernel
theorem dX9_meet_47 : decode cX9_meet 47 = .ok (.goto 4, 3) := by decide +kernel
theorem dX9_meet_50 : decode cX9_meet 50 = .ok (.lconst 1, 1) := by decide +kernel
theorem dX9_meet_51 : decode cX9_meet 51 = .ok (.lstore 5, 2) := by decide +kernel
theorem dX9_meet_53 : decode cX9_meet 53 = .ok (.aload_n 0, 1) := by decide +kernel
theorem dX9_meet_54 : decode cX9_meet 54 = .ok (.iload_n 1, 1) := by decide +kernel
theorem dX9_meet_55 : decode cX9_meet 55 = .ok (.iconst 0, 1) := by decide +kernel
theorem dX9_meet_56 : decode cX9_meet 56 = .ok (.invokevirtual 126, 3) := by decide +kernel
theorem dX9_meet_59 : decode cX9_meet 59 = .ok (.lstore 7, 2) := by decide +kernel
theorem dX9_meet_61 : decode cX9_meet 61 = .ok (.aload_n 0, 1) := by decide +kernel
theorem dX9_meet_62 : decode cX9_meet 62 = .ok (.iload_n 1, 1) := by decide +kernel
theorem dX9_meet_63 : decode cX9_meet 63 = .ok (.iconst 1, 1) := by decide +kernel
theorem dX9_meet_64 : decode cX9_meet 64 = .ok (.invokevirtual 126, 3) := by decide +kernel
theorem dX9_meet_67 : decode cX9_meet 67 = .ok (.lstore 9, 2) := by decide +kernel
theorem dX9_meet_69 : decode cX9_meet 69 = .ok (.aload_n 0, 1) := by decide +kernel
theorem dX9_meet_70 : decode cX9_meet 70 = .ok (.iload_n 2, 1) := by decide +kernel
theorem dX9_meet_71 : decode cX9_meet 71 = .ok (.iconst 0, 1) := by decide +kernel
theorem dX9_meet_72 : decode cX9_meet 72 = .ok (.invokevirtual 126, 3) := by decide +kernel
theorem dX9_meet_75 : decode cX9_meet 75 = .ok (.lstore 11, 2) := by decide +kernel
theorem dX9_meet_77 : decode cX9_meet 77 = .ok (.aload_n 0, 1) := by decide +kernel
theorem dX9_meet_78 : decode cX9_meet 78 = .ok (.iload_n 2, 1) := by decide +kernel
theorem dX9_meet_79 : decode cX9_meet 79 = .ok (.iconst 1, 1) := by decide +kernel
theorem dX9_meet_80 : decode cX9_meet 80 = .ok (.invokevirtual 126, 3) := by decide +kernel
theorem dX9_meet_83 : decode cX9_meet 83 = .ok (.lstore 13, 2) := by decide +kernel
theorem dX9_meet_85 : decode cX9_meet 85 = .ok (.lload 7, 2) := by decide +kernel
theorem dX9_meet_87 : decode cX9_meet 87 = .ok (.lload 11, 2) := by decide +kernel
theorem dX9_meet_89 : decode cX9_meet 89 = .ok (.lmul, 1) := by decide +kernel
theorem dX9_meet_90 : decode cX9_meet 90 = .ok (.lload 9, 2) := by decide +kernel
theorem dX9_meet_92 : decode cX9_meet 92 = .ok (.lload 13, 2) := by decide +kernel
theorem dX9_meet_94 : decode cX9_meet 94 = .ok (.lmul, 1) := by decide +kernel
theorem dX9_meet_95 : decode cX9_meet 95 = .ok (.ladd, 1) := by decide +kernel
theorem dX9_meet_96 : decode cX9_meet 96 = .ok (.lstore 15, 2) := by decide +kernel
theorem dX9_meet_98 : decode cX9_meet 98 = .ok (.aload_n 0, 1) := by decide +kernel
theorem dX9_meet_99 : decode cX9_meet 99 = .ok (.getfield 21, 3) := by decide +kernel
theorem dX9_meet_102 : decode cX9_meet 102 = .ok (.i2l, 1) := by decide +kernel
theorem dX9_meet_103 : decode cX9_meet 103 = .ok (.aload_n 0, 1) := by decide +kernel
theorem dX9_meet_104 : decode cX9_meet 104 = .ok (.getfield 21, 3) := by decide +kernel
theorem dX9_meet_107 : decode cX9_meet 107 = .ok (.i2l, 1) := by decide +kernel
theorem dX9_meet_108 : decode cX9_meet 108 = .ok (.lmul, 1) := by decide +kernel
theorem dX9_meet_109 : decode cX9_meet 109 = .ok (.lstore 17, 2) := by decide +kernel
theorem dX9_meet_111 : decode cX9_meet 111 = .ok (.aload_n 0, 1) := by decide +kernel
theorem dX9_meet_112 : decode cX9_meet 112 = .ok (.getfield 83, 3) := by decide +kernel
theorem dX9_meet_115 : decode cX9_meet 115 = .ok (.ifCond .ne 37, 3) := by decide +kernel
theorem dX9_meet_118 : decode cX9_meet 118 = .ok (.lload 15, 2) := by decide +kernel
theorem dX9_meet_120 : decode cX9_meet 120 = .ok (.ldc2_w 142, 3) := by decide +kernel
theorem dX9_meet_123 : decode cX9_meet 123 = .ok (.lmul, 1) := by decide +kernel
theorem dX9_meet_124 : decode cX9_meet 124 = .ok (.ldc2_w 144, 3) := by decide +kernel
theorem dX9_meet_127 : decode cX9_meet 127 = .ok (.aload_n 0, 1) := by decide +kernel
theorem dX9_meet_128 : decode cX9_meet 128 = .ok (.getfield 27, 3) := by decide +kernel
theorem dX9_meet_131 : decode cX9_meet 131 = .ok (.aload_n 0, 1) := by decide +kernel
theorem dX9_meet_132 : decode cX9_meet 132 = .ok (.getfield 27, 3) := by decide +kernel
theorem dX9_meet_135 : decode cX9_meet 135 = .ok (.lmul, 1) := by decide +kernel
theorem dX9_meet_136 : decode cX9_meet 136 = .ok (.ldiv, 1) := by decide +kernel
theorem dX9_meet_137 : decode cX9_meet 137 = .ok (.ldc2_w 142, 3) := by decide +kernel
theorem dX9_meet_140 : decode cX9_meet 140 = .ok (.lsub, 1) := by decide +kernel
theorem dX9_meet_141 : decode cX9_meet 141 = .ok (.lload 17, 2) := by decide +kernel
theorem dX9_meet_143 : decode cX9_meet 143 = .ok (.lmul, 1) := by decide +kernel
theorem dX9_meet_144 : decode cX9_meet 144 = .ok (.lcmp, 1) := by decide +kernel
theorem dX9_meet_145 : decode cX9_meet 145 = .ok (.ifCond .lt 7, 3) := by decide +kernel
theorem dX9_meet_148 : decode cX9_meet 148 = .ok (.iconst 1, 1) := by decide +kernel
theorem dX9_meet_149 : decode cX9_meet 149 = .ok (.goto 4, 3) := by decide +kernel
theorem dX9_meet_152 : decode cX9_meet 152 = .ok (.iconst 0, 1) := by decide +kernel
theorem dX9_meet_153 : decode cX9_meet 153 = .ok (.istore 19, 2) := by decide +kernel
theorem dX9_meet_155 : decode cX9_meet 155 = .ok (.aload_n 0, 1) := by decide +kernel
theorem dX9_meet_156 : decode cX9_meet 156 = .ok (.iload 19, 2) := by decide +kernel
theorem dX9_meet_158 : decode cX9_meet 158 = .ok (.ifCond .eq 7, 3) := by decide +kernel
theorem dX9_meet_161 : decode cX9_meet 161 = .ok (.iconst 2, 1) := by decide +kernel
theorem dX9_meet_162 : decode cX9_meet 162 = .ok (.goto 4, 3) := by decide +kernel
theorem dX9_meet_165 : decode cX9_meet 165 = .ok (.iconst 1, 1) := by decide +kernel
theorem dX9_meet_166 : decode cX9_meet 166 = .ok (.invokevirtual 122, 3) := by decide +kernel
theorem dX9_meet_169 : decode cX9_meet 169 = .ok (.ifCond .ne 4, 3) := by decide +kernel
theorem dX9_meet_172 : decode cX9_meet 172 = .ok (.return_, 1) := by decide +kernel
theorem dX9_meet_173 : decode cX9_meet 173 = .ok (.aload_n 0, 1) := by decide +kernel
theorem dX9_meet_174 : decode cX9_meet 174 = .ok (.getfield 34, 3) := by decide +kernel
theorem dX9_meet_177 : decode cX9_meet 177 = .ok (.iload_n 1, 1) := by decide +kernel
theorem dX9_meet_178 : decode cX9_meet 178 = .ok (.iconst 1, 1) := by decide +kernel
theorem dX9_meet_179 : decode cX9_meet 179 = .ok (.iadd, 1) := by decide +kernel
theorem dX9_meet_180 : decode cX9_meet 180 = .ok (.laload, 1) := by decide +kernel
theorem dX9_meet_181 : decode cX9_meet 181 = .ok (.lstore 20, 2) := by decide +kernel
theorem dX9_meet_183 : decode cX9_meet 183 = .ok (.aload_n 0, 1) := by decide +kernel
theorem dX9_meet_184 : decode cX9_meet 184 = .ok (.getfield 38, 3) := by decide +kernel
theorem dX9_meet_187 : decode cX9_meet 187 = .ok (.iload_n 1, 1) := by decide +kernel
theorem dX9_meet_188 : decode cX9_meet 188 = .ok (.iconst 1, 1) := by decide +kernel
theorem dX9_meet_189 : decode cX9_meet 189 = .ok (.iadd, 1) := by decide +kernel
theorem dX9_meet_190 : decode cX9_meet 190 = .ok (.laload, 1) := by decide +kernel
theorem dX9_meet_191 : decode cX9_meet 191 = .ok (.lstore 22, 2) := by decide +kernel
theorem dX9_meet_193 : decode cX9_meet 193 = .ok (.aload_n 0, 1) := by decide +kernel
theorem dX9_meet_194 : decode cX9_meet 194 = .ok (.iconst 0, 1) := by decide +kernel
theorem dX9_meet_195 : decode cX9_meet 195 = .ok (.lload 20, 2) := by decide +kernel
theorem dX9_meet_197 : decode cX9_meet 197 = .ok (.lload 22, 2) := by decide +kernel
theorem dX9_meet_199 : decode cX9_meet 199 = .ok (.invokevirtual 130, 3) := by decide +kernel
theorem dX9_meet_202 : decode cX9_meet 202 = .ok (.aload_n 0, 1) := by decide +kernel
theorem dX9_meet_203 : decode cX9_meet 203 = .ok (.iconst 1, 1) := by decide +kernel
theorem dX9_meet_204 : decode cX9_meet 204 = .ok (.lload 20, 2) := by decide +kernel
theorem dX9_meet_206 : decode cX9_meet 206 = .ok (.lload 5, 2) := by decide +kernel
theorem dX9_meet_208 : decode cX9_meet 208 = .ok (.lload 7, 2) := by decide +kernel
theorem dX9_meet_210 : decode cX9_meet 210 = .ok (.lmul, 1) := by decide +kernel
theorem dX9_meet_211 : decode cX9_meet 211 = .ok (.ladd, 1) := by decide +kernel
theorem dX9_meet_212 : decode cX9_meet 212 = .ok (.lload 22, 2) := by decide +kernel
theorem dX9_meet_214 : decode cX9_meet 214 = .ok (.lload 5, 2) := by decide +kernel
theorem dX9_meet_216 : decode cX9_meet 216 = .ok (.lload 9, 2) := by decide +kernel
theorem dX9_meet_218 : decode cX9_meet 218 = .ok (.lmul, 1) := by decide +kernel
theorem dX9_meet_219 : decode cX9_meet 219 = .ok (.ladd, 1) := by decide +kernel
theorem dX9_meet_220 : decode cX9_meet 220 = .ok (.invokevirtual 130, 3) := by decide +kernel
theorem dX9_meet_223 : decode cX9_meet 223 = .ok (.iload 19, 2) := by decide +kernel
theorem dX9_meet_225 : decode cX9_meet 225 = .ok (.ifCond .eq 64, 3) := by decide +kernel
theorem dX9_meet_228 : decode cX9_meet 228 = .ok (.lload 17, 2) := by decide +kernel
theorem dX9_meet_230 : decode cX9_meet 230 = .ok (.ldc2_w 142, 3) := by decide +kernel
theorem dX9_meet_233 : decode cX9_meet 233 = .ok (.lmul, 1) := by decide +kernel
theorem dX9_meet_234 : decode cX9_meet 234 = .ok (.lload 17, 2) := by decide +kernel
theorem dX9_meet_236 : decode cX9_meet 236 = .ok (.lload 15, 2) := by decide +kernel
theorem dX9_meet_238 : decode cX9_meet 238 = .ok (.ladd, 1) := by decide +kernel
theorem dX9_meet_239 : decode cX9_meet 239 = .ok (.invokestatic 119, 3) := by decide +kernel
theorem dX9_meet_242 : decode cX9_meet 242 = .ok (.lstore 24, 2) := by decide +kernel
theorem dX9_meet_244 : decode cX9_meet 244 = .ok (.aload_n 0, 1) := by decide +kernel
theorem dX9_meet_245 : decode cX9_meet 245 = .ok (.iconst 2, 1) := by decide +kernel
theorem dX9_meet_246 : decode cX9_meet 246 = .ok (.lload 20, 2) := by decide +kernel
theorem dX9_meet_248 : decode cX9_meet 248 = .ok (.lload 5, 2) := by decide +kernel
theorem dX9_meet_250 : decode cX9_meet 250 = .ok (.lload 7, 2) := by decide +kernel
theorem dX9_meet_252 : decode cX9_meet 252 = .ok (.lload 11, 2) := by decide +kernel
theorem dX9_meet_254 : decode cX9_meet 254 = .ok (.ladd, 1) := by decide +kernel
theorem dX9_meet_255 : decode cX9_meet 255 = .ok (.lload 24, 2) := by decide +kernel
theorem dX9_meet_257 : decode cX9_meet 257 = .ok (.lmul, 1) := by decide +kernel
theorem dX9_meet_258 : decode cX9_meet 258 = .ok (.ldc2_w 142, 3) := by decide +kernel
theorem dX9_meet_261 : decode cX9_meet 261 = .ok (.invokestatic 119, 3) := by decide +kernel
theorem dX9_meet_264 : decode cX9_meet 264 = .ok (.lmul, 1) := by decide +kernel
theorem dX9_meet_265 : decode cX9_meet 265 = .ok (.ladd, 1) := by decide +kernel
theorem dX9_meet_266 : decode cX9_meet 266 = .ok (.lload 22, 2) := by decide +kernel
theorem dX9_meet_268 : decode cX9_meet 268 = .ok (.lload 5, 2) := by decide +kernel
theorem dX9_meet_270 : decode cX9_meet 270 = .ok (.lload 9, 2) := by decide +kernel
theorem dX9_meet_272 : decode cX9_meet 272 = .ok (.lload 13, 2) := by decide +kernel
theorem dX9_meet_274 : decode cX9_meet 274 = .ok (.ladd, 1) := by decide +kernel
theorem dX9_meet_275 : decode cX9_meet 275 = .ok (.lload 24, 2) := by decide +kernel
theorem dX9_meet_277 : decode cX9_meet 277 = .ok (.lmul, 1) := by decide +kernel
theorem dX9_meet_278 : decode cX9_meet 278 = .ok (.ldc2_w 142, 3) := by decide +kernel
theorem dX9_meet_281 : decode cX9_meet 281 = .ok (.invokestatic 119, 3) := by decide +kernel
theorem dX9_meet_284 : decode cX9_meet 284 = .ok (.lmul, 1) := by decide +kernel
theorem dX9_meet_285 : decode cX9_meet 285 = .ok (.ladd, 1) := by decide +kernel
theorem dX9_meet_286 : decode cX9_meet 286 = .ok (.invokevirtual 130, 3) := by decide +kernel
theorem dX9_meet_289 : decode cX9_meet 289 = .ok (.aload_n 0, 1) := by decide +kernel
theorem dX9_meet_290 : decode cX9_meet 290 = .ok (.iload 19, 2) := by decide +kernel
theorem dX9_meet_292 : decode cX9_meet 292 = .ok (.ifCond .eq 7, 3) := by decide +kernel
theorem dX9_meet_295 : decode cX9_meet 295 = .ok (.iconst 3, 1) := by decide +kernel
theorem dX9_meet_296 : decode cX9_meet 296 = .ok (.goto 4, 3) := by decide +kernel
theorem dX9_meet_299 : decode cX9_meet 299 = .ok (.iconst 2, 1) := by decide +kernel
theorem dX9_meet_300 : decode cX9_meet 300 = .ok (.lload 20, 2) := by decide +kernel
theorem dX9_meet_302 : decode cX9_meet 302 = .ok (.lload 5, 2) := by decide +kernel
theorem dX9_meet_304 : decode cX9_meet 304 = .ok (.lload 11, 2) := by decide +kernel
theorem dX9_meet_306 : decode cX9_meet 306 = .ok (.lmul, 1) := by decide +kernel
theorem dX9_meet_307 : decode cX9_meet 307 = .ok (.ladd, 1) := by decide +kernel
theorem dX9_meet_308 : decode cX9_meet 308 = .ok (.lload 22, 2) := by decide +kernel
theorem dX9_meet_310 : decode cX9_meet 310 = .ok (.lload 5, 2) := by decide +kernel
theorem dX9_meet_312 : decode cX9_meet 312 = .ok (.lload 13, 2) := by decide +kernel
theorem dX9_meet_314 : decode cX9_meet 314 = .ok (.lmul, 1) := by decide +kernel
theorem dX9_meet_315 : decode cX9_meet 315 = .ok (.ladd, 1) := by decide +kernel
theorem dX9_meet_316 : decode cX9_meet 316 = .ok (.invokevirtual 130, 3) := by decide +kernel
theorem dX9_meet_319 : decode cX9_meet 319 = .ok (.aload_n 0, 1) := by decide +kernel
theorem dX9_meet_320 : decode cX9_meet 320 = .ok (.invokevirtual 134, 3) := by decide +kernel
theorem dX9_meet_323 : decode cX9_meet 323 = .ok (.return_, 1) := by decide +kernel
theorem dX9_move_0 : decode cX9_move 0 = .ok (.iload_n 1, 1) := by decide +kernel
theorem dX9_move_1 : decode cX9_move 1 = .ok (.i2l, 1) := by decide +kernel
theorem dX9_move_2 : decode cX9_move 2 = .ok (.invokestatic 63, 3) := by decide +kernel
theorem dX9_move_5 : decode cX9_move 5 = .ok (.ifCond .ne 11, 3) := by decide +kernel
theorem dX9_move_8 : decode cX9_move 8 = .ok (.iload_n 2, 1) := by decide +kernel
theorem dX9_move_9 : decode cX9_move 9 = .ok (.i2l, 1) := by decide +kernel
theorem dX9_move_10 : decode cX9_move 10 = .ok (.invokestatic 63, 3) := by decide +kernel
theorem dX9_move_13 : decode cX9_move 13 = .ok (.ifCond .eq 6, 3) := by decide +kernel
theorem dX9_move_16 : decode cX9_move 16 = .ok (.bipush (-4), 2) := by decide +kernel
theorem dX9_move_18 : decode cX9_move 18 = .ok (.ireturn, 1) := by decide +kernel
theorem dX9_move_19 : decode cX9_move 19 = .ok (.aload_n 0, 1) := by decide +kernel
theorem dX9_move_20 : decode cX9_move 20 = .ok (.iload_n 1, 1) := by decide +kernel
theorem dX9_move_21 : decode cX9_move 21 = .ok (.iload_n 2, 1) := by decide +kernel
theorem dX9_move_22 : decode cX9_move 22 = .ok (.iconst 1, 1) := by decide +kernel
theorem dX9_move_23 : decode cX9_move 23 = .ok (.invokevirtual 67, 3) := by decide +kernel
theorem dX9_move_26 : decode cX9_move 26 = .ok (.istore_n 3, 1) := by decide +kernel
theorem dX9_move_27 : decode cX9_move 27 = .ok (.iload_n 3, 1) := by decide +kernel
theorem dX9_move_28 : decode cX9_move 28 = .ok (.ifCond .le 13, 3) := by decide +kernel
theorem dX9_move_31 : decode cX9_move 31 = .ok (.aload_n 0, 1) := by decide +kernel
theorem dX9_move_32 : decode cX9_move 32 = .ok (.aload_n 0, 1) := by decide +kernel
theorem dX9_move_33 : decode cX9_move 33 = .ok (.getfield 60, 3) := by decide +kernel
theorem dX9_move_36 : decode cX9_move 36 = .ok (.iconst 1, 1) := by decide +kernel
theorem dX9_move_37 : decode cX9_move 37 = .ok (.isub, 1) := by decide +kernel
theorem dX9_move_38 : decode cX9_move 38 = .ok (.putfield 71, 3) := by decide +kernel
theorem dX9_move_41 : decode cX9_move 41 = .ok (.iload_n 3, 1) := by decide +kernel
theorem dX9_move_42 : decode cX9_move 42 = .ok (.ireturn, 1) := by decide +kernel
theorem dX9_next_0 : decode cX9_next 0 = .ok (.aload_n 0, 1) := by decide +kernel
theorem dX9_next_1 : decode cX9_next 1 = .ok (.aload_n 0, 1) := by decide +kernel
theorem dX9_next_2 : decode cX9_next 2 = .ok (.getfield 167, 3) := by decide +kernel
theorem dX9_next_5 : decode cX9_next 5 = .ok (.iconst 1, 1) := by decide +kernel
theorem dX9_next_6 : decode cX9_next 6 = .ok (.iadd, 1) := by decide +kernel
theorem dX9_next_7 : decode cX9_next 7 = .ok (.aload_n 0, 1) := by decide +kernel
theorem dX9_next_8 : decode cX9_next 8 = .ok (.getfield 86, 3) := by decide +kernel
theorem dX9_next_11 : decode cX9_next 11 = .ok (.if_icmp .ne 7, 3) := by decide +kernel
theorem dX9_next_14 : decode cX9_next 14 = .ok (.iconst 0, 1) := by decide +kernel
theorem dX9_next_15 : decode cX9_next 15 = .ok (.goto 9, 3) := by decide +kernel
theorem dX9_next_18 : decode cX9_next 18 = .ok (.aload_n 0, 1) := by decide +kernel
theorem dX9_next_19 : decode cX9_next 19 = .ok (.getfield 167, 3) := by decide +kernel
theorem dX9_next_22 : decode cX9_next 22 = .ok (.iconst 1, 1) := by decide +kernel
theorem dX9_next_23 : decode cX9_next 23 = .ok (.iadd, 1) := by decide +kernel
theorem dX9_next_24 : decode cX9_next 24 = .ok (.putfield 167, 3) := by decide +kernel
theorem dX9_next_27 : decode cX9_next 27 = .ok (.aload_n 0, 1) := by decide +kernel
theorem dX9_next_28 : decode cX9_next 28 = .ok (.aload_n 0, 1) := by decide +kernel
theorem dX9_next_29 : decode cX9_next 29 = .ok (.getfield 170, 3) := by decide +kernel
theorem dX9_next_32 : decode cX9_next 32 = .ok (.ifCond .ne 7, 3) := by decide +kernel
theorem dX9_next_35 : decode cX9_next 35 = .ok (.iconst 1, 1) := by decide +kernel
theorem dX9_next_36 : decode cX9_next 36 = .ok (.goto 4, 3) := by decide +kernel
theorem dX9_next_39 : decode cX9_next 39 = .ok (.iconst 0, 1) := by decide +kernel
theorem dX9_next_40 : decode cX9_next 40 = .ok (.putfield 170, 3) := by decide +kernel
theorem dX9_next_43 : decode cX9_next 43 = .ok (.aload_n 0, 1) := by decide +kernel
theorem dX9_next_44 : decode cX9_next 44 = .ok (.aload_n 0, 1) := by decide +kernel
theorem dX9_next_45 : decode cX9_next 45 = .ok (.getfield 53, 3) := by decide +kernel
theorem dX9_next_48 : decode cX9_next 48 = .ok (.aload_n 0, 1) := by decide +kernel
theorem dX9_next_49 : decode cX9_next 49 = .ok (.getfield 167, 3) := by decide +kernel
theorem dX9_next_52 : decode cX9_next 52 = .ok (.iaload, 1) := by decide +kernel
theorem dX9_next_53 : decode cX9_next 53 = .ok (.i2l, 1) := by decide +kernel
theorem dX9_next_54 : decode cX9_next 54 = .ok (.putfield 174, 3) := by decide +kernel
theorem dX9_next_57 : decode cX9_next 57 = .ok (.return_, 1) := by decide +kernel
theorem dX9_pass_0 : decode cX9_pass 0 = .ok (.aload_n 0, 1) := by decide +kernel
theorem dX9_pass_1 : decode cX9_pass 1 = .ok (.getfield 146, 3) := by decide +kernel
theorem dX9_pass_4 : decode cX9_pass 4 = .ok (.ifCond .eq 35, 3) := by decide +kernel
theorem dX9_pass_7 : decode cX9_pass 7 = .ok (.aload_n 0, 1) := by decide +kernel
theorem dX9_pass_8 : decode cX9_pass 8 = .ok (.getfield 34, 3) := by decide +kernel
theorem dX9_pass_11 : decode cX9_pass 11 = .ok (.aload_n 0, 1) := by decide +kernel
theorem dX9_pass_12 : decode cX9_pass 12 = .ok (.getfield 146, 3) := by decide +kernel
theorem dX9_pass_15 : decode cX9_pass 15 = .ok (.iconst 1, 1) := by decide +kernel
theorem dX9_pass_16 : decode cX9_pass 16 = .ok (.isub, 1) := by decide +kernel
theorem dX9_pass_17 : decode cX9_pass 17 = .ok (.laload, 1) := by decide +kernel
theorem dX9_pass_18 : decode cX9_pass 18 = .ok (.lload_n 1, 1) := by decide +kernel
theorem dX9_pass_19 : decode cX9_pass 19 = .ok (.lcmp, 1) := by decide +kernel
theorem dX9_pass_20 : decode cX9_pass 20 = .ok (.ifCond .ne 19, 3) := by decide +kernel
theorem dX9_pass_23 : decode cX9_pass 23 = .ok (.aload_n 0, 1) := by decide +kernel
theorem dX9_pass_24 : decode cX9_pass 24 = .ok (.getfield 38, 3) := by decide +kernel
theorem dX9_pass_27 : decode cX9_pass 27 = .ok (.aload_n 0, 1) := by decide +kernel
theorem dX9_pass_28 : decode cX9_pass 28 = .ok (.getfield 146, 3) := by decide +kernel
theorem dX9_pass_31 : decode cX9_pass 31 = .ok (.iconst 1, 1) := by decide +kernel
theorem dX9_pass_32 : decode cX9_pass 32 = .ok (.isub, 1) := by decide +kernel
theorem dX9_pass_33 : decode cX9_pass 33 = .ok (.laload, 1) := by decide +kernel
theorem dX9_pass_34 : decode cX9_pass 34 = .ok (.lload_n 3, 1) := by decide +kernel
theorem dX9_pass_35 : decode cX9_pass 35 = .ok (.lcmp, 1) := by decide +kernel
theorem dX9_pass_36 : decode cX9_pass 36 = .ok (.ifCond .eq 9, 3) := by decide +kernel
theorem dX9_pass_39 : decode cX9_pass 39 = .ok (.aload_n 0, 1) := by decide +kernel
theorem dX9_pass_40 : decode cX9_pass 40 = .ok (.lload_n 1, 1) := by decide +kernel
theorem dX9_pass_41 : decode cX9_pass 41 = .ok (.lload_n 3, 1) := by decide +kernel
theorem dX9_pass_42 : decode cX9_pass 42 = .ok (.invokevirtual 149, 3) := by decide +kernel
theorem dX9_pass_45 : decode cX9_pass 45 = .ok (.return_, 1) := by decide +kernel
theorem dX9_pen_0 : decode cX9_pen 0 = .ok (.iload_n 1, 1) := by decide +kernel
theorem dX9_pen_1 : decode cX9_pen 1 = .ok (.iconst 1, 1) := by decide +kernel
theorem dX9_pen_2 : decode cX9_pen 2 = .ok (.if_icmp .lt 41, 3) := by decide +kernel
theorem dX9_pen_5 : decode cX9_pen 5 = .ok (.iload_n 1, 1) := by decide +kernel
theorem dX9_pen_6 : decode cX9_pen 6 = .ok (.ldc 77, 2) := by decide +kernel
theorem dX9_pen_8 : decode cX9_pen 8 = .ok (.if_icmp .gt 35, 3) := by decide +kernel
theorem dX9_pen_11 : decode cX9_pen 11 = .ok (.iload_n 2, 1) := by decide +kernel
theorem dX9_pen_12 : decode cX9_pen 12 = .ok (.ifCond .lt 31, 3) := by decide +kernel
theorem dX9_pen_15 : decode cX9_pen 15 = .ok (.iload_n 2, 1) := by decide +kernel
theorem dX9_pen_16 : decode cX9_pen 16 = .ok (.iconst 1, 1) := by decide +kernel
theorem dX9_pen_17 : decode cX9_pen 17 = .ok (.if_icmp .gt 26, 3) := by decide +kernel
theorem dX9_pen_20 : decode cX9_pen 20 = .ok (.iload_n 3, 1) := by decide +kernel
theorem dX9_pen_21 : decode cX9_pen 21 = .ok (.ifCond .lt 22, 3) := by decide +kernel
theorem dX9_pen_24 : decode cX9_pen 24 = .ok (.iload_n 3, 1) := by decide +kernel
theorem dX9_pen_25 : decode cX9_pen 25 = .ok (.iconst 1, 1) := by decide +kernel
theorem dX9_pen_26 : decode cX9_pen 26 = .ok (.if_icmp .gt 17, 3) := by decide +kernel
theorem dX9_pen_29 : decode cX9_pen 29 = .ok (.iload 4, 2) := by decide +kernel
theorem dX9_pen_31 : decode cX9_pen 31 = .ok (.ldc 78, 2) := by decide +kernel
theorem dX9_pen_33 : decode cX9_pen 33 = .ok (.if_icmp .lt 10, 3) := by decide +kernel
theorem dX9_pen_36 : decode cX9_pen 36 = .ok (.iload 4, 2) := by decide +kernel
theorem dX9_pen_38 : decode cX9_pen 38 = .ok (.ldc 79, 2) := by decide +kernel
theorem dX9_pen_40 : decode cX9_pen 40 = .ok (.if_icmp .le 5, 3) := by decide +kernel
theorem dX9_pen_43 : decode cX9_pen 43 = .ok (.iconst 0, 1) := by decide +kernel
theorem dX9_pen_44 : decode cX9_pen 44 = .ok (.ireturn, 1) := by decide +kernel
theorem dX9_pen_45 : decode cX9_pen 45 = .ok (.aload_n 0, 1) := by decide +kernel
theorem dX9_pen_46 : decode cX9_pen 46 = .ok (.iload_n 1, 1) := by decide +kernel
theorem dX9_pen_47 : decode cX9_pen 47 = .ok (.putfield 21, 3) := by decide +kernel
theorem dX9_pen_50 : decode cX9_pen 50 = .ok (.aload_n 0, 1) := by decide +kernel
theorem dX9_pen_51 : decode cX9_pen 51 = .ok (.iload_n 2, 1) := by decide +kernel
theorem dX9_pen_52 : decode cX9_pen 52 = .ok (.putfield 80, 3) := by decide +kernel
theorem dX9_pen_55 : decode cX9_pen 55 = .ok (.aload_n 0, 1) := by decide +kernel
theorem dX9_pen_56 : decode cX9_pen 56 = .ok (.iload_n 3, 1) := by decide +kernel
theorem dX9_pen_57 : decode cX9_pen 57 = .ok (.putfield 83, 3) := by decide +kernel
theorem dX9_pen_60 : decode cX9_pen 60 = .ok (.aload_n 0, 1) := by decide +kernel
theorem dX9_pen_61 : decode cX9_pen 61 = .ok (.iload 4, 2) := by decide +kernel
theorem dX9_pen_63 : decode cX9_pen 63 = .ok (.i2l, 1) := by decide +kernel
theorem dX9_pen_64 : decode cX9_pen 64 = .ok (.putfield 27, 3) := by decide +kernel
theorem dX9_pen_67 : decode cX9_pen 67 = .ok (.iconst 1, 1) := by decide +kernel
theorem dX9_pen_68 : decode cX9_pen 68 = .ok (.ireturn, 1) := by decide +kernel
theorem dX9_pieces_0 : decode cX9_pieces 0 = .ok (.aload_n 0, 1) := by decide +kernel
theorem dX9_pieces_1 : decode cX9_pieces 1 = .ok (.getfield 74, 3) := by decide +kernel
theorem dX9_pieces_4 : decode cX9_pieces 4 = .ok (.ireturn, 1) := by decide +kernel
theorem dX9_put_0 : decode cX9_put 0 = .ok (.aload_n 0, 1) := by decide +kernel
theorem dX9_put_1 : decode cX9_put 1 = .ok (.getfield 60, 3) := by decide +kernel
theorem dX9_put_4 : decode cX9_put 4 = .ok (.sipush 2000, 3) := by decide +kernel
theorem dX9_put_7 : decode cX9_put 7 = .ok (.if_icmp .ne 6, 3) := by decide +kernel
theorem dX9_put_10 : decode cX9_put 10 = .ok (.bipush (-3), 2) := by decide +kernel
theorem dX9_put_12 : decode cX9_put 12 = .ok (.ireturn, 1) := by decide +kernel
theorem dX9_put_13 : decode cX9_put 13 = .ok (.aload_n 0, 1) := by decide +kernel
theorem dX9_put_14 : decode cX9_put 14 = .ok (.getfield 7, 3) := by decide +kernel
theorem dX9_put_17 : decode cX9_put 17 = .ok (.aload_n 0, 1) := by decide +kernel
theorem dX9_put_18 : decode cX9_put 18 = .ok (.getfield 60, 3) := by decide +kernel
theorem dX9_put_21 : decode cX9_put 21 = .ok (.iload_n 1, 1) := by decide +kernel
theorem dX9_put_22 : decode cX9_put 22 = .ok (.iastore, 1) := by decide +kernel
theorem dX9_put_23 : decode cX9_put 23 = .ok (.aload_n 0, 1) := by decide +kernel
theorem dX9_put_24 : decode cX9_put 24 = .ok (.getfield 13, 3) := by decide +kernel
theorem dX9_put_27 : decode cX9_put 27 = .ok (.aload_n 0, 1) := by decide +kernel
theorem dX9_put_28 : decode cX9_put 28 = .ok (.getfield 60, 3) := by decide +kernel
theorem dX9_put_31 : decode cX9_put 31 = .ok (.iload_n 2, 1) := by decide +kernel
theorem dX9_put_32 : decode cX9_put 32 = .ok (.iastore, 1) := by decide +kernel
theorem dX9_put_33 : decode cX9_put 33 = .ok (.aload_n 0, 1) := by decide +kernel
theorem dX9_put_34 : decode cX9_put 34 = .ok (.getfield 16, 3) := by decide +kernel
theorem dX9_put_37 : decode cX9_put 37 = .ok (.aload_n 0, 1) := by decide +kernel
theorem dX9_put_38 : decode cX9_put 38 = .ok (.getfield 60, 3) := by decide +kernel
theorem dX9_put_41 : decode cX9_put 41 = .ok (.iload_n 3, 1) := by decide +kernel
theorem dX9_put_42 : decode cX9_put 42 = .ok (.i2b, 1) := by decide +kernel
theorem dX9_put_43 : decode cX9_put 43 = .ok (.bastore, 1) := by decide +kernel
theorem dX9_put_44 : decode cX9_put 44 = .ok (.aload_n 0, 1) := by decide +kernel
theorem dX9_put_45 : decode cX9_put 45 = .ok (.dup, 1) := by decide +kernel
theorem dX9_put_46 : decode cX9_put 46 = .ok (.getfield 60, 3) := by decide +kernel
theorem dX9_put_49 : decode cX9_put 49 = .ok (.iconst 1, 1) := by decide +kernel
theorem dX9_put_50 : decode cX9_put 50 = .ok (.iadd, 1) := by decide +kernel
theorem dX9_put_51 : decode cX9_put 51 = .ok (.putfield 60, 3) := by decide +kernel
theorem dX9_put_54 : decode cX9_put 54 = .ok (.aload_n 0, 1) := by decide +kernel
theorem dX9_put_55 : decode cX9_put 55 = .ok (.getfield 60, 3) := by decide +kernel
theorem dX9_put_58 : decode cX9_put 58 = .ok (.ireturn, 1) := by decide +kernel
theorem dX9_root_0 : decode cX9_root 0 = .ok (.lconst 0, 1) := by decide +kernel
theorem dX9_root_1 : decode cX9_root 1 = .ok (.lstore_n 2, 1) := by decide +kernel
theorem dX9_root_2 : decode cX9_root 2 = .ok (.ldc2_w 100, 3) := by decide +kernel
theorem dX9_root_5 : decode cX9_root 5 = .ok (.lstore 4, 2) := by decide +kernel
theorem dX9_root_7 : decode cX9_root 7 = .ok (.lload 4, 2) := by decide +kernel
theorem dX9_root_9 : decode cX9_root 9 = .ok (.lload_n 2, 1) := by decide +kernel
theorem dX9_root_10 : decode cX9_root 10 = .ok (.lsub, 1) := by decide +kernel
theorem dX9_root_11 : decode cX9_root 11 = .ok (.lconst 1, 1) := by decide +kernel
theorem dX9_root_12 : decode cX9_root 12 = .ok (.lcmp, 1) := by decide +kernel
theorem dX9_root_13 : decode cX9_root 13 = .ok (.ifCond .le 34, 3) := by decide +kernel
theorem dX9_root_16 : decode cX9_root 16 = .ok (.lload_n 2, 1) := by decide +kernel
theorem dX9_root_17 : decode cX9_root 17 = .ok (.lload 4, 2) := by decide +kernel
theorem dX9_root_19 : decode cX9_root 19 = .ok (.ladd, 1) := by decide +kernel
theorem dX9_root_20 : decode cX9_root 20 = .ok (.iconst 1, 1) := by decide +kernel
theorem dX9_root_21 : decode cX9_root 21 = .ok (.lshr, 1) := by decide +kernel
theorem dX9_root_22 : decode cX9_root 22 = .ok (.lstore 6, 2) := by decide +kernel
theorem dX9_root_24 : decode cX9_root 24 = .ok (.lload 6, 2) := by decide +kernel
theorem dX9_root_26 : decode cX9_root 26 = .ok (.lload 6, 2) := by decide +kernel
theorem dX9_root_28 : decode cX9_root 28 = .ok (.lmul, 1) := by decide +kernel
theorem dX9_root_29 : decode cX9_root 29 = .ok (.lload_n 0, 1) := by decide +kernel
theorem dX9_root_30 : decode cX9_root 30 = .ok (.lcmp, 1) := by decide +kernel
theorem dX9_root_31 : decode cX9_root 31 = .ok (.ifCond .gt 9, 3) := by decide +kernel
theorem dX9_root_34 : decode cX9_root 34 = .ok (.lload 6, 2) := by decide +kernel
theorem dX9_root_36 : decode cX9_root 36 = .ok (.lstore_n 2, 1) := by decide +kernel
theorem dX9_root_37 : decode cX9_root 37 = .ok (.goto 7, 3) := by decide +kernel
theorem dX9_root_40 : decode cX9_root 40 = .ok (.lload 6, 2) := by decide +kernel
theorem dX9_root_42 : decode cX9_root 42 = .ok (.lstore 4, 2) := by decide +kernel
theorem dX9_root_44 : decode cX9_root 44 = .ok (.goto (-37), 3) := by decide +kernel
theorem dX9_root_47 : decode cX9_root 47 = .ok (.lload_n 2, 1) := by decide +kernel
theorem dX9_root_48 : decode cX9_root 48 = .ok (.lreturn, 1) := by decide +kernel
theorem dX9_rounded_0 : decode cX9_rounded 0 = .ok (.ldc2_w 92, 3) := by decide +kernel
theorem dX9_rounded_3 : decode cX9_rounded 3 = .ok (.lload_n 0, 1) := by decide +kernel
theorem dX9_rounded_4 : decode cX9_rounded 4 = .ok (.lmul, 1) := by decide +kernel
theorem dX9_rounded_5 : decode cX9_rounded 5 = .ok (.lload_n 2, 1) := by decide +kernel
theorem dX9_rounded_6 : decode cX9_rounded 6 = .ok (.ladd, 1) := by decide +kernel
theorem dX9_rounded_7 : decode cX9_rounded 7 = .ok (.ldc2_w 92, 3) := by decide +kernel
theorem dX9_rounded_10 : decode cX9_rounded 10 = .ok (.lload_n 2, 1) := by decide +kernel
theorem dX9_rounded_11 : decode cX9_rounded 11 = .ok (.lmul, 1) := by decide +kernel
theorem dX9_rounded_12 : decode cX9_rounded 12 = .ok (.invokestatic 94, 3) := by decide +kernel
theorem dX9_rounded_15 : decode cX9_rounded 15 = .ok (.lreturn, 1) := by decide +kernel
theorem dX9_setCorner_0 : decode cX9_setCorner 0 = .ok (.lload_n 2, 1) := by decide +kernel
theorem dX9_setCorner_1 : decode cX9_setCorner 1 = .ok (.invokestatic 63, 3) := by decide +kernel
theorem dX9_setCorner_4 : decode cX9_setCorner 4 = .ok (.ifCond .ne 11, 3) := by decide +kernel
theorem dX9_setCorner_7 : decode cX9_setCorner 7 = .ok (.lload 4, 2) := by decide +kernel
theorem dX9_setCorner_9 : decode cX9_setCorner 9 = .ok (.invokestatic 63, 3) := by decide +kernel
theorem dX9_setCorner_12 : decode cX9_setCorner 12 = .ok (.ifCond .eq 23, 3) := by decide +kernel
theorem dX9_setCorner_15 : decode cX9_setCorner 15 = .ok (.aload_n 0, 1) := by decide +kernel
theorem dX9_setCorner_16 : decode cX9_setCorner 16 = .ok (.aload_n 0, 1) := by decide +kernel
theorem dX9_setCorner_17 : decode cX9_setCorner 17 = .ok (.getfield 102, 3) := by decide +kernel
theorem dX9_setCorner_20 : decode cX9_setCorner 20 = .ok (.ifCond .ne 8, 3) := by decide +kernel
theorem dX9_setCorner_23 : decode cX9_setCorner 23 = .ok (.bipush (-4), 2) := by decide +kernel
theorem dX9_setCorner_25 : decode cX9_setCorner 25 = .ok (.goto 7, 3) := by decide +kernel
theorem dX9_setCorner_28 : decode cX9_setCorner 28 = .ok (.aload_n 0, 1) := by decide +kernel
theorem dX9_setCorner_29 : decode cX9_setCorner 29 = .ok (.getfield 102, 3) := by decide +kernel
theorem dX9_setCorner_32 : decode cX9_setCorner 32 = .ok (.putfield 102, 3) := by decide +kernel
theorem dX9_setCorner_35 : decode cX9_setCorner 35 = .ok (.aload_n 0, 1) := by decide +kernel
theorem dX9_setCorner_36 : decode cX9_setCorner 36 = .ok (.getfield 102, 3) := by decide +kernel
theorem dX9_setCorner_39 : decode cX9_setCorner 39 = .ok (.ifCond .eq 4, 3) := by decide +kernel
theorem dX9_setCorner_42 : decode cX9_setCorner 42 = .ok (.return_, 1) := by decide +kernel
theorem dX9_setCorner_43 : decode cX9_setCorner 43 = .ok (.aload_n 0, 1) := by decide +kernel
theorem dX9_setCorner_44 : decode cX9_setCorner 44 = .ok (.getfield 50, 3) := by decide +kernel
theorem dX9_setCorner_47 : decode cX9_setCorner 47 = .ok (.bipush 8, 2) := by decide +kernel
theorem dX9_setCorner_49 : decode cX9_setCorner 49 = .ok (.aload_n 0, 1) := by decide +kernel
theorem dX9_setCorner_50 : decode cX9_setCorner 50 = .ok (.getfield 74, 3) := by decide +kernel
theorem dX9_setCorner_53 : decode cX9_setCorner 53 = .ok (.imul, 1) := by decide +kernel
theorem dX9_setCorner_54 : decode cX9_setCorner 54 = .ok (.iconst 2, 1) := by decide +kernel
theorem dX9_setCorner_55 : decode cX9_setCorner 55 = .ok (.iload_n 1, 1) := by decide +kernel
theorem dX9_setCorner_56 : decode cX9_setCorner 56 = .ok (.imul, 1) := by decide +kernel
theorem dX9_setCorner_57 : decode cX9_setCorner 57 = .ok (.iadd, 1) := by decide +kernel
theorem dX9_setCorner_58 : decode cX9_setCorner 58 = .ok (.lload_n 2, 1) := by decide +kernel
theorem dX9_setCorner_59 : decode cX9_setCorner 59 = .ok (.l2i, 1) := by decide +kernel
theorem dX9_setCorner_60 : decode cX9_setCorner 60 = .ok (.iastore, 1) := by decide +kernel
theorem dX9_setCorner_61 : decode cX9_setCorner 61 = .ok (.aload_n 0, 1) := by decide +kernel
theorem dX9_setCorner_62 : decode cX9_setCorner 62 = .ok (.getfield 50, 3) := by decide +kernel
theorem dX9_setCorner_65 : decode cX9_setCorner 65 = .ok (.bipush 8, 2) := by decide +kernel
theorem dX9_setCorner_67 : decode cX9_setCorner 67 = .ok (.aload_n 0, 1) := by decide +kernel
theorem dX9_setCorner_68 : decode cX9_setCorner 68 = .ok (.getfield 74, 3) := by decide +kernel
theorem dX9_setCorner_71 : decode cX9_setCorner 71 = .ok (.imul, 1) := by decide +kernel
theorem dX9_setCorner_72 : decode cX9_setCorner 72 = .ok (.iconst 2, 1) := by decide +kernel
theorem dX9_setCorner_73 : decode cX9_setCorner 73 = .ok (.iload_n 1, 1) := by decide +kernel
theorem dX9_setCorner_74 : decode cX9_setCorner 74 = .ok (.imul, 1) := by decide +kernel
theorem dX9_setCorner_75 : decode cX9_setCorner 75 = .ok (.iadd, 1) := by decide +kernel
theorem dX9_setCorner_76 : decode cX9_setCorner 76 = .ok (.iconst 1, 1) := by decide +kernel
theorem dX9_setCorner_77 : decode cX9_setCorner 77 = .ok (.iadd, 1) := by decide +kernel
theorem dX9_setCorner_78 : decode cX9_setCorner 78 = .ok (.lload 4, 2) := by decide +kernel
theorem dX9_setCorner_80 : decode cX9_setCorner 80 = .ok (.l2i, 1) := by decide +kernel
theorem dX9_setCorner_81 : decode cX9_setCorner 81 = .ok (.iastore, 1) := by decide +kernel
theorem dX9_setCorner_82 : decode cX9_setCorner 82 = .ok (.return_, 1) := by decide +kernel
theorem dX9_side_0 : decode cX9_side 0 = .ok (.aload_n 0, 1) := by decide +kernel
theorem dX9_side_1 : decode cX9_side 1 = .ok (.iconst 0, 1) := by decide +kernel
theorem dX9_side_2 : decode cX9_side 2 = .ok (.invokevirtual 122, 3) := by decide +kernel
theorem dX9_side_5 : decode cX9_side 5 = .ok (.ifCond .ne 4, 3) := by decide +kernel
theorem dX9_side_8 : decode cX9_side 8 = .ok (.return_, 1) := by decide +kernel
theorem dX9_side_9 : decode cX9_side 9 = .ok (.aload_n 0, 1) := by decide +kernel
theorem dX9_side_10 : decode cX9_side 10 = .ok (.iload_n 1, 1) := by decide +kernel
end
section
theorem dX9_side_11 : decode cX9_side 11 = .ok (.iconst 0, 1) := by decide +kernel
theorem dX9_side_12 : decode cX9_side 12 = .ok (.invokevirtual 126, 3) := by decide +kernel
theorem dX9_side_15 : decode cX9_side 15 = .ok (.lstore_n 2, 1) := by decide +kernel
theorem dX9_side_16 : decode cX9_side 16 = .ok (.aload_n 0, 1) := by decide +kernel
theorem dX9_side_17 : decode cX9_side 17 = .ok (.iload_n 1, 1) := by decide +kernel
theorem dX9_side_18 : decode cX9_side 18 = .ok (.iconst 1, 1) := by decide +kernel
theorem dX9_side_19 : decode cX9_side 19 = .ok (.invokevirtual 126, 3) := by decide +kernel
theorem dX9_side_22 : decode cX9_side 22 = .ok (.lstore 4, 2) := by decide +kernel
theorem dX9_side_24 : decode cX9_side 24 = .ok (.aload_n 0, 1) := by decide +kernel
theorem dX9_side_25 : decode cX9_side 25 = .ok (.iconst 0, 1) := by decide +kernel
theorem dX9_side_26 : decode cX9_side 26 = .ok (.aload_n 0, 1) := by decide +kernel
theorem dX9_side_27 : decode cX9_side 27 = .ok (.getfield 34, 3) := by decide +kernel
theorem dX9_side_30 : decode cX9_side 30 = .ok (.iload_n 1, 1) := by decide +kernel
theorem dX9_side_31 : decode cX9_side 31 = .ok (.laload, 1) := by decide +kernel
theorem dX9_side_32 : decode cX9_side 32 = .ok (.lload_n 2, 1) := by decide +kernel
theorem dX9_side_33 : decode cX9_side 33 = .ok (.ladd, 1) := by decide +kernel
theorem dX9_side_34 : decode cX9_side 34 = .ok (.aload_n 0, 1) := by decide +kernel
theorem dX9_side_35 : decode cX9_side 35 = .ok (.getfield 38, 3) := by decide +kernel
theorem dX9_side_38 : decode cX9_side 38 = .ok (.iload_n 1, 1) := by decide +kernel
theorem dX9_side_39 : decode cX9_side 39 = .ok (.laload, 1) := by decide +kernel
theorem dX9_side_40 : decode cX9_side 40 = .ok (.lload 4, 2) := by decide +kernel
theorem dX9_side_42 : decode cX9_side 42 = .ok (.ladd, 1) := by decide +kernel
theorem dX9_side_43 : decode cX9_side 43 = .ok (.invokevirtual 130, 3) := by decide +kernel
theorem dX9_side_46 : decode cX9_side 46 = .ok (.aload_n 0, 1) := by decide +kernel
theorem dX9_side_47 : decode cX9_side 47 = .ok (.iconst 1, 1) := by decide +kernel
theorem dX9_side_48 : decode cX9_side 48 = .ok (.aload_n 0, 1) := by decide +kernel
theorem dX9_side_49 : decode cX9_side 49 = .ok (.getfield 34, 3) := by decide +kernel
theorem dX9_side_52 : decode cX9_side 52 = .ok (.iload_n 1, 1) := by decide +kernel
theorem dX9_side_53 : decode cX9_side 53 = .ok (.iconst 1, 1) := by decide +kernel
theorem dX9_side_54 : decode cX9_side 54 = .ok (.iadd, 1) := by decide +kernel
theorem dX9_side_55 : decode cX9_side 55 = .ok (.laload, 1) := by decide +kernel
theorem dX9_side_56 : decode cX9_side 56 = .ok (.lload_n 2, 1) := by decide +kernel
theorem dX9_side_57 : decode cX9_side 57 = .ok (.ladd, 1) := by decide +kernel
theorem dX9_side_58 : decode cX9_side 58 = .ok (.aload_n 0, 1) := by decide +kernel
theorem dX9_side_59 : decode cX9_side 59 = .ok (.getfield 38, 3) := by decide +kernel
theorem dX9_side_62 : decode cX9_side 62 = .ok (.iload_n 1, 1) := by decide +kernel
theorem dX9_side_63 : decode cX9_side 63 = .ok (.iconst 1, 1) := by decide +kernel
theorem dX9_side_64 : decode cX9_side 64 = .ok (.iadd, 1) := by decide +kernel
theorem dX9_side_65 : decode cX9_side 65 = .ok (.laload, 1) := by decide +kernel
theorem dX9_side_66 : decode cX9_side 66 = .ok (.lload 4, 2) := by decide +kernel
theorem dX9_side_68 : decode cX9_side 68 = .ok (.ladd, 1) := by decide +kernel
theorem dX9_side_69 : decode cX9_side 69 = .ok (.invokevirtual 130, 3) := by decide +kernel
theorem dX9_side_72 : decode cX9_side 72 = .ok (.aload_n 0, 1) := by decide +kernel
theorem dX9_side_73 : decode cX9_side 73 = .ok (.iconst 2, 1) := by decide +kernel
theorem dX9_side_74 : decode cX9_side 74 = .ok (.aload_n 0, 1) := by decide +kernel
theorem dX9_side_75 : decode cX9_side 75 = .ok (.getfield 34, 3) := by decide +kernel
theorem dX9_side_78 : decode cX9_side 78 = .ok (.iload_n 1, 1) := by decide +kernel
theorem dX9_side_79 : decode cX9_side 79 = .ok (.iconst 1, 1) := by decide +kernel
theorem dX9_side_80 : decode cX9_side 80 = .ok (.iadd, 1) := by decide +kernel
theorem dX9_side_81 : decode cX9_side 81 = .ok (.laload, 1) := by decide +kernel
theorem dX9_side_82 : decode cX9_side 82 = .ok (.lload_n 2, 1) := by decide +kernel
theorem dX9_side_83 : decode cX9_side 83 = .ok (.lsub, 1) := by decide +kernel
theorem dX9_side_84 : decode cX9_side 84 = .ok (.aload_n 0, 1) := by decide +kernel
theorem dX9_side_85 : decode cX9_side 85 = .ok (.getfield 38, 3) := by decide +kernel
theorem dX9_side_88 : decode cX9_side 88 = .ok (.iload_n 1, 1) := by decide +kernel
theorem dX9_side_89 : decode cX9_side 89 = .ok (.iconst 1, 1) := by decide +kernel
theorem dX9_side_90 : decode cX9_side 90 = .ok (.iadd, 1) := by decide +kernel
theorem dX9_side_91 : decode cX9_side 91 = .ok (.laload, 1) := by decide +kernel
theorem dX9_side_92 : decode cX9_side 92 = .ok (.lload 4, 2) := by decide +kernel
theorem dX9_side_94 : decode cX9_side 94 = .ok (.lsub, 1) := by decide +kernel
theorem dX9_side_95 : decode cX9_side 95 = .ok (.invokevirtual 130, 3) := by decide +kernel
theorem dX9_side_98 : decode cX9_side 98 = .ok (.aload_n 0, 1) := by decide +kernel
theorem dX9_side_99 : decode cX9_side 99 = .ok (.iconst 3, 1) := by decide +kernel
theorem dX9_side_100 : decode cX9_side 100 = .ok (.aload_n 0, 1) := by decide +kernel
theorem dX9_side_101 : decode cX9_side 101 = .ok (.getfield 34, 3) := by decide +kernel
theorem dX9_side_104 : decode cX9_side 104 = .ok (.iload_n 1, 1) := by decide +kernel
theorem dX9_side_105 : decode cX9_side 105 = .ok (.laload, 1) := by decide +kernel
theorem dX9_side_106 : decode cX9_side 106 = .ok (.lload_n 2, 1) := by decide +kernel
theorem dX9_side_107 : decode cX9_side 107 = .ok (.lsub, 1) := by decide +kernel
theorem dX9_side_108 : decode cX9_side 108 = .ok (.aload_n 0, 1) := by decide +kernel
theorem dX9_side_109 : decode cX9_side 109 = .ok (.getfield 38, 3) := by decide +kernel
theorem dX9_side_112 : decode cX9_side 112 = .ok (.iload_n 1, 1) := by decide +kernel
theorem dX9_side_113 : decode cX9_side 113 = .ok (.laload, 1) := by decide +kernel
theorem dX9_side_114 : decode cX9_side 114 = .ok (.lload 4, 2) := by decide +kernel
theorem dX9_side_116 : decode cX9_side 116 = .ok (.lsub, 1) := by decide +kernel
theorem dX9_side_117 : decode cX9_side 117 = .ok (.invokevirtual 130, 3) := by decide +kernel
theorem dX9_side_120 : decode cX9_side 120 = .ok (.aload_n 0, 1) := by decide +kernel
theorem dX9_side_121 : decode cX9_side 121 = .ok (.invokevirtual 134, 3) := by decide +kernel
theorem dX9_side_124 : decode cX9_side 124 = .ok (.return_, 1) := by decide +kernel
theorem dX9_sort_0 : decode cX9_sort 0 = .ok (.iload_n 1, 1) := by decide +kernel
theorem dX9_sort_1 : decode cX9_sort 1 = .ok (.ifCond .lt 20, 3) := by decide +kernel
theorem dX9_sort_4 : decode cX9_sort 4 = .ok (.iload_n 1, 1) := by decide +kernel
theorem dX9_sort_5 : decode cX9_sort 5 = .ok (.aload_n 0, 1) := by decide +kernel
theorem dX9_sort_6 : decode cX9_sort 6 = .ok (.getfield 74, 3) := by decide +kernel
theorem dX9_sort_9 : decode cX9_sort 9 = .ok (.if_icmp .ge 12, 3) := by decide +kernel
theorem dX9_sort_12 : decode cX9_sort 12 = .ok (.aload_n 0, 1) := by decide +kernel
theorem dX9_sort_13 : decode cX9_sort 13 = .ok (.getfield 47, 3) := by decide +kernel
theorem dX9_sort_16 : decode cX9_sort 16 = .ok (.iload_n 1, 1) := by decide +kernel
theorem dX9_sort_17 : decode cX9_sort 17 = .ok (.baload, 1) := by decide +kernel
theorem dX9_sort_18 : decode cX9_sort 18 = .ok (.goto 4, 3) := by decide +kernel
theorem dX9_sort_21 : decode cX9_sort 21 = .ok (.iconst (-1), 1) := by decide +kernel
theorem dX9_sort_22 : decode cX9_sort 22 = .ok (.ireturn, 1) := by decide +kernel
theorem dX9_start_0 : decode cX9_start 0 = .ok (.lconst 0, 1) := by decide +kernel
theorem dX9_start_1 : decode cX9_start 1 = .ok (.lstore_n 1, 1) := by decide +kernel
theorem dX9_start_2 : decode cX9_start 2 = .ok (.iconst 0, 1) := by decide +kernel
theorem dX9_start_3 : decode cX9_start 3 = .ok (.istore_n 3, 1) := by decide +kernel
theorem dX9_start_4 : decode cX9_start 4 = .ok (.iload_n 3, 1) := by decide +kernel
theorem dX9_start_5 : decode cX9_start 5 = .ok (.aload_n 0, 1) := by decide +kernel
theorem dX9_start_6 : decode cX9_start 6 = .ok (.getfield 86, 3) := by decide +kernel
theorem dX9_start_9 : decode cX9_start 9 = .ok (.if_icmp .ge 19, 3) := by decide +kernel
theorem dX9_start_12 : decode cX9_start 12 = .ok (.lload_n 1, 1) := by decide +kernel
theorem dX9_start_13 : decode cX9_start 13 = .ok (.aload_n 0, 1) := by decide +kernel
theorem dX9_start_14 : decode cX9_start 14 = .ok (.getfield 53, 3) := by decide +kernel
theorem dX9_start_17 : decode cX9_start 17 = .ok (.iload_n 3, 1) := by decide +kernel
theorem dX9_start_18 : decode cX9_start 18 = .ok (.iaload, 1) := by decide +kernel
theorem dX9_start_19 : decode cX9_start 19 = .ok (.i2l, 1) := by decide +kernel
theorem dX9_start_20 : decode cX9_start 20 = .ok (.ladd, 1) := by decide +kernel
theorem dX9_start_21 : decode cX9_start 21 = .ok (.lstore_n 1, 1) := by decide +kernel
theorem dX9_start_22 : decode cX9_start 22 = .ok (.iinc 3 1, 3) := by decide +kernel
theorem dX9_start_25 : decode cX9_start 25 = .ok (.goto (-21), 3) := by decide +kernel
theorem dX9_start_28 : decode cX9_start 28 = .ok (.aload_n 0, 1) := by decide +kernel
theorem dX9_start_29 : decode cX9_start 29 = .ok (.getfield 89, 3) := by decide +kernel
theorem dX9_start_32 : decode cX9_start 32 = .ok (.i2l, 1) := by decide +kernel
theorem dX9_start_33 : decode cX9_start 33 = .ok (.ldc2_w 92, 3) := by decide +kernel
theorem dX9_start_36 : decode cX9_start 36 = .ok (.lload_n 1, 1) := by decide +kernel
theorem dX9_start_37 : decode cX9_start 37 = .ok (.lmul, 1) := by decide +kernel
theorem dX9_start_38 : decode cX9_start 38 = .ok (.lrem, 1) := by decide +kernel
theorem dX9_start_39 : decode cX9_start 39 = .ok (.lstore_n 3, 1) := by decide +kernel
theorem dX9_start_40 : decode cX9_start 40 = .ok (.aload_n 0, 1) := by decide +kernel
theorem dX9_start_41 : decode cX9_start 41 = .ok (.iconst 0, 1) := by decide +kernel
theorem dX9_start_42 : decode cX9_start 42 = .ok (.putfield 167, 3) := by decide +kernel
theorem dX9_start_45 : decode cX9_start 45 = .ok (.aload_n 0, 1) := by decide +kernel
theorem dX9_start_46 : decode cX9_start 46 = .ok (.iconst 0, 1) := by decide +kernel
theorem dX9_start_47 : decode cX9_start 47 = .ok (.putfield 170, 3) := by decide +kernel
theorem dX9_start_50 : decode cX9_start 50 = .ok (.aload_n 0, 1) := by decide +kernel
theorem dX9_start_51 : decode cX9_start 51 = .ok (.aload_n 0, 1) := by decide +kernel
theorem dX9_start_52 : decode cX9_start 52 = .ok (.getfield 53, 3) := by decide +kernel
theorem dX9_start_55 : decode cX9_start 55 = .ok (.iconst 0, 1) := by decide +kernel
theorem dX9_start_56 : decode cX9_start 56 = .ok (.iaload, 1) := by decide +kernel
theorem dX9_start_57 : decode cX9_start 57 = .ok (.i2l, 1) := by decide +kernel
theorem dX9_start_58 : decode cX9_start 58 = .ok (.putfield 174, 3) := by decide +kernel
theorem dX9_start_61 : decode cX9_start 61 = .ok (.aload_n 0, 1) := by decide +kernel
theorem dX9_start_62 : decode cX9_start 62 = .ok (.getfield 174, 3) := by decide +kernel
theorem dX9_start_65 : decode cX9_start 65 = .ok (.lload_n 3, 1) := by decide +kernel
theorem dX9_start_66 : decode cX9_start 66 = .ok (.lcmp, 1) := by decide +kernel
theorem dX9_start_67 : decode cX9_start 67 = .ok (.ifCond .gt 17, 3) := by decide +kernel
theorem dX9_start_70 : decode cX9_start 70 = .ok (.lload_n 3, 1) := by decide +kernel
theorem dX9_start_71 : decode cX9_start 71 = .ok (.aload_n 0, 1) := by decide +kernel
theorem dX9_start_72 : decode cX9_start 72 = .ok (.getfield 174, 3) := by decide +kernel
theorem dX9_start_75 : decode cX9_start 75 = .ok (.lsub, 1) := by decide +kernel
theorem dX9_start_76 : decode cX9_start 76 = .ok (.lstore_n 3, 1) := by decide +kernel
theorem dX9_start_77 : decode cX9_start 77 = .ok (.aload_n 0, 1) := by decide +kernel
theorem dX9_start_78 : decode cX9_start 78 = .ok (.invokevirtual 180, 3) := by decide +kernel
theorem dX9_start_81 : decode cX9_start 81 = .ok (.goto (-20), 3) := by decide +kernel
theorem dX9_start_84 : decode cX9_start 84 = .ok (.aload_n 0, 1) := by decide +kernel
theorem dX9_start_85 : decode cX9_start 85 = .ok (.dup, 1) := by decide +kernel
theorem dX9_start_86 : decode cX9_start 86 = .ok (.getfield 174, 3) := by decide +kernel
theorem dX9_start_89 : decode cX9_start 89 = .ok (.lload_n 3, 1) := by decide +kernel
theorem dX9_start_90 : decode cX9_start 90 = .ok (.lsub, 1) := by decide +kernel
theorem dX9_start_91 : decode cX9_start 91 = .ok (.putfield 174, 3) := by decide +kernel
theorem dX9_start_94 : decode cX9_start 94 = .ok (.aload_n 0, 1) := by decide +kernel
theorem dX9_start_95 : decode cX9_start 95 = .ok (.invokevirtual 183, 3) := by decide +kernel
theorem dX9_start_98 : decode cX9_start 98 = .ok (.return_, 1) := by decide +kernel
theorem dX9_stroke_0 : decode cX9_stroke 0 = .ok (.aload_n 0, 1) := by decide +kernel
theorem dX9_stroke_1 : decode cX9_stroke 1 = .ok (.iconst 0, 1) := by decide +kernel
theorem dX9_stroke_2 : decode cX9_stroke 2 = .ok (.putfield 74, 3) := by decide +kernel
theorem dX9_stroke_5 : decode cX9_stroke 5 = .ok (.aload_n 0, 1) := by decide +kernel
theorem dX9_stroke_6 : decode cX9_stroke 6 = .ok (.iconst 0, 1) := by decide +kernel
theorem dX9_stroke_7 : decode cX9_stroke 7 = .ok (.putfield 102, 3) := by decide +kernel
theorem dX9_stroke_10 : decode cX9_stroke 10 = .ok (.aload_n 0, 1) := by decide +kernel
theorem dX9_stroke_11 : decode cX9_stroke 11 = .ok (.iconst 0, 1) := by decide +kernel
theorem dX9_stroke_12 : decode cX9_stroke 12 = .ok (.putfield 177, 3) := by decide +kernel
theorem dX9_stroke_15 : decode cX9_stroke 15 = .ok (.iconst 0, 1) := by decide +kernel
theorem dX9_stroke_16 : decode cX9_stroke 16 = .ok (.istore_n 1, 1) := by decide +kernel
theorem dX9_stroke_17 : decode cX9_stroke 17 = .ok (.iload_n 1, 1) := by decide +kernel
theorem dX9_stroke_18 : decode cX9_stroke 18 = .ok (.aload_n 0, 1) := by decide +kernel
theorem dX9_stroke_19 : decode cX9_stroke 19 = .ok (.getfield 60, 3) := by decide +kernel
theorem dX9_stroke_22 : decode cX9_stroke 22 = .ok (.if_icmp .ge 40, 3) := by decide +kernel
theorem dX9_stroke_25 : decode cX9_stroke 25 = .ok (.aload_n 0, 1) := by decide +kernel
theorem dX9_stroke_26 : decode cX9_stroke 26 = .ok (.getfield 102, 3) := by decide +kernel
theorem dX9_stroke_29 : decode cX9_stroke 29 = .ok (.ifCond .ne 33, 3) := by decide +kernel
theorem dX9_stroke_32 : decode cX9_stroke 32 = .ok (.iload_n 1, 1) := by decide +kernel
theorem dX9_stroke_33 : decode cX9_stroke 33 = .ok (.istore_n 2, 1) := by decide +kernel
theorem dX9_stroke_34 : decode cX9_stroke 34 = .ok (.aload_n 0, 1) := by decide +kernel
theorem dX9_stroke_35 : decode cX9_stroke 35 = .ok (.iload_n 1, 1) := by decide +kernel
theorem dX9_stroke_36 : decode cX9_stroke 36 = .ok (.invokevirtual 209, 3) := by decide +kernel
theorem dX9_stroke_39 : decode cX9_stroke 39 = .ok (.istore_n 1, 1) := by decide +kernel
theorem dX9_stroke_40 : decode cX9_stroke 40 = .ok (.aload_n 0, 1) := by decide +kernel
theorem dX9_stroke_41 : decode cX9_stroke 41 = .ok (.aload_n 0, 1) := by decide +kernel
theorem dX9_stroke_42 : decode cX9_stroke 42 = .ok (.getfield 16, 3) := by decide +kernel
theorem dX9_stroke_45 : decode cX9_stroke 45 = .ok (.iload_n 2, 1) := by decide +kernel
theorem dX9_stroke_46 : decode cX9_stroke 46 = .ok (.baload, 1) := by decide +kernel
theorem dX9_stroke_47 : decode cX9_stroke 47 = .ok (.iconst 3, 1) := by decide +kernel
theorem dX9_stroke_48 : decode cX9_stroke 48 = .ok (.if_icmp .ne 7, 3) := by decide +kernel
theorem dX9_stroke_51 : decode cX9_stroke 51 = .ok (.iconst 1, 1) := by decide +kernel
theorem dX9_stroke_52 : decode cX9_stroke 52 = .ok (.goto 4, 3) := by decide +kernel
theorem dX9_stroke_55 : decode cX9_stroke 55 = .ok (.iconst 0, 1) := by decide +kernel
theorem dX9_stroke_56 : decode cX9_stroke 56 = .ok (.invokevirtual 213, 3) := by decide +kernel
theorem dX9_stroke_59 : decode cX9_stroke 59 = .ok (.goto (-42), 3) := by decide +kernel
theorem dX9_stroke_62 : decode cX9_stroke 62 = .ok (.aload_n 0, 1) := by decide +kernel
theorem dX9_stroke_63 : decode cX9_stroke 63 = .ok (.aload_n 0, 1) := by decide +kernel
theorem dX9_stroke_64 : decode cX9_stroke 64 = .ok (.getfield 102, 3) := by decide +kernel
theorem dX9_stroke_67 : decode cX9_stroke 67 = .ok (.ifCond .ne 10, 3) := by decide +kernel
theorem dX9_stroke_70 : decode cX9_stroke 70 = .ok (.aload_n 0, 1) := by decide +kernel
theorem dX9_stroke_71 : decode cX9_stroke 71 = .ok (.getfield 177, 3) := by decide +kernel
theorem dX9_stroke_74 : decode cX9_stroke 74 = .ok (.goto 4, 3) := by decide +kernel
theorem dX9_stroke_77 : decode cX9_stroke 77 = .ok (.iconst 0, 1) := by decide +kernel
theorem dX9_stroke_78 : decode cX9_stroke 78 = .ok (.putfield 216, 3) := by decide +kernel
theorem dX9_stroke_81 : decode cX9_stroke 81 = .ok (.aload_n 0, 1) := by decide +kernel
theorem dX9_stroke_82 : decode cX9_stroke 82 = .ok (.getfield 102, 3) := by decide +kernel
theorem dX9_stroke_85 : decode cX9_stroke 85 = .ok (.ifCond .eq 8, 3) := by decide +kernel
theorem dX9_stroke_88 : decode cX9_stroke 88 = .ok (.aload_n 0, 1) := by decide +kernel
theorem dX9_stroke_89 : decode cX9_stroke 89 = .ok (.iconst 0, 1) := by decide +kernel
theorem dX9_stroke_90 : decode cX9_stroke 90 = .ok (.putfield 74, 3) := by decide +kernel
theorem dX9_stroke_93 : decode cX9_stroke 93 = .ok (.aload_n 0, 1) := by decide +kernel
theorem dX9_stroke_94 : decode cX9_stroke 94 = .ok (.getfield 102, 3) := by decide +kernel
theorem dX9_stroke_97 : decode cX9_stroke 97 = .ok (.ifCond .eq 10, 3) := by decide +kernel
theorem dX9_stroke_100 : decode cX9_stroke 100 = .ok (.aload_n 0, 1) := by decide +kernel
theorem dX9_stroke_101 : decode cX9_stroke 101 = .ok (.getfield 102, 3) := by decide +kernel
theorem dX9_stroke_104 : decode cX9_stroke 104 = .ok (.goto 7, 3) := by decide +kernel
theorem dX9_stroke_107 : decode cX9_stroke 107 = .ok (.aload_n 0, 1) := by decide +kernel
theorem dX9_stroke_108 : decode cX9_stroke 108 = .ok (.getfield 74, 3) := by decide +kernel
theorem dX9_stroke_111 : decode cX9_stroke 111 = .ok (.ireturn, 1) := by decide +kernel
theorem dX9_strokeRow_0 : decode cX9_strokeRow 0 = .ok (.aload_n 0, 1) := by decide +kernel
theorem dX9_strokeRow_1 : decode cX9_strokeRow 1 = .ok (.getfield 199, 3) := by decide +kernel
theorem dX9_strokeRow_4 : decode cX9_strokeRow 4 = .ok (.iconst 2, 1) := by decide +kernel
theorem dX9_strokeRow_5 : decode cX9_strokeRow 5 = .ok (.if_icmp .ge 4, 3) := by decide +kernel
theorem dX9_strokeRow_8 : decode cX9_strokeRow 8 = .ok (.return_, 1) := by decide +kernel
theorem dX9_strokeRow_9 : decode cX9_strokeRow 9 = .ok (.aload_n 0, 1) := by decide +kernel
theorem dX9_strokeRow_10 : decode cX9_strokeRow 10 = .ok (.getfield 86, 3) := by decide +kernel
theorem dX9_strokeRow_13 : decode cX9_strokeRow 13 = .ok (.ifCond .le 9, 3) := by decide +kernel
theorem dX9_strokeRow_16 : decode cX9_strokeRow 16 = .ok (.aload_n 0, 1) := by decide +kernel
theorem dX9_strokeRow_17 : decode cX9_strokeRow 17 = .ok (.iload_n 1, 1) := by decide +kernel
theorem dX9_strokeRow_18 : decode cX9_strokeRow 18 = .ok (.invokevirtual 206, 3) := by decide +kernel
theorem dX9_strokeRow_21 : decode cX9_strokeRow 21 = .ok (.return_, 1) := by decide +kernel
theorem dX9_strokeRow_22 : decode cX9_strokeRow 22 = .ok (.aload_n 0, 1) := by decide +kernel
theorem dX9_strokeRow_23 : decode cX9_strokeRow 23 = .ok (.iconst 0, 1) := by decide +kernel
theorem dX9_strokeRow_24 : decode cX9_strokeRow 24 = .ok (.putfield 146, 3) := by decide +kernel
theorem dX9_strokeRow_27 : decode cX9_strokeRow 27 = .ok (.iconst 0, 1) := by decide +kernel
theorem dX9_strokeRow_28 : decode cX9_strokeRow 28 = .ok (.istore_n 2, 1) := by decide +kernel
theorem dX9_strokeRow_29 : decode cX9_strokeRow 29 = .ok (.iload_n 2, 1) := by decide +kernel
theorem dX9_strokeRow_30 : decode cX9_strokeRow 30 = .ok (.aload_n 0, 1) := by decide +kernel
theorem dX9_strokeRow_31 : decode cX9_strokeRow 31 = .ok (.getfield 199, 3) := by decide +kernel
theorem dX9_strokeRow_34 : decode cX9_strokeRow 34 = .ok (.if_icmp .ge 27, 3) := by decide +kernel
theorem dX9_strokeRow_37 : decode cX9_strokeRow 37 = .ok (.aload_n 0, 1) := by decide +kernel
theorem dX9_strokeRow_38 : decode cX9_strokeRow 38 = .ok (.aload_n 0, 1) := by decide +kernel
theorem dX9_strokeRow_39 : decode cX9_strokeRow 39 = .ok (.getfield 41, 3) := by decide +kernel
theorem dX9_strokeRow_42 : decode cX9_strokeRow 42 = .ok (.iload_n 2, 1) := by decide +kernel
theorem dX9_strokeRow_43 : decode cX9_strokeRow 43 = .ok (.iaload, 1) := by decide +kernel
theorem dX9_strokeRow_44 : decode cX9_strokeRow 44 = .ok (.i2l, 1) := by decide +kernel
theorem dX9_strokeRow_45 : decode cX9_strokeRow 45 = .ok (.aload_n 0, 1) := by decide +kernel
theorem dX9_strokeRow_46 : decode cX9_strokeRow 46 = .ok (.getfield 44, 3) := by decide +kernel
theorem dX9_strokeRow_49 : decode cX9_strokeRow 49 = .ok (.iload_n 2, 1) := by decide +kernel
theorem dX9_strokeRow_50 : decode cX9_strokeRow 50 = .ok (.iaload, 1) := by decide +kernel
theorem dX9_strokeRow_51 : decode cX9_strokeRow 51 = .ok (.i2l, 1) := by decide +kernel
theorem dX9_strokeRow_52 : decode cX9_strokeRow 52 = .ok (.invokevirtual 149, 3) := by decide +kernel
theorem dX9_strokeRow_55 : decode cX9_strokeRow 55 = .ok (.iinc 2 1, 3) := by decide +kernel
theorem dX9_strokeRow_58 : decode cX9_strokeRow 58 = .ok (.goto (-29), 3) := by decide +kernel
theorem dX9_strokeRow_61 : decode cX9_strokeRow 61 = .ok (.aload_n 0, 1) := by decide +kernel
theorem dX9_strokeRow_62 : decode cX9_strokeRow 62 = .ok (.iload_n 1, 1) := by decide +kernel
theorem dX9_strokeRow_63 : decode cX9_strokeRow 63 = .ok (.invokevirtual 186, 3) := by decide +kernel
theorem dX9_strokeRow_66 : decode cX9_strokeRow 66 = .ok (.return_, 1) := by decide +kernel
theorem dX9_take_0 : decode cX9_take 0 = .ok (.aload_n 0, 1) := by decide +kernel
theorem dX9_take_1 : decode cX9_take 1 = .ok (.getfield 102, 3) := by decide +kernel
theorem dX9_take_4 : decode cX9_take 4 = .ok (.ifCond .eq 4, 3) := by decide +kernel
theorem dX9_take_7 : decode cX9_take 7 = .ok (.return_, 1) := by decide +kernel
theorem dX9_take_8 : decode cX9_take 8 = .ok (.aload_n 0, 1) := by decide +kernel
theorem dX9_take_9 : decode cX9_take 9 = .ok (.getfield 177, 3) := by decide +kernel
theorem dX9_take_12 : decode cX9_take 12 = .ok (.sipush 20000, 3) := by decide +kernel
theorem dX9_take_15 : decode cX9_take 15 = .ok (.if_icmp .ne 12, 3) := by decide +kernel
theorem dX9_take_18 : decode cX9_take 18 = .ok (.aload_n 0, 1) := by decide +kernel
theorem dX9_take_19 : decode cX9_take 19 = .ok (.bipush (-3), 2) := by decide +kernel
theorem dX9_take_21 : decode cX9_take 21 = .ok (.putfield 102, 3) := by decide +kernel
theorem dX9_take_24 : decode cX9_take 24 = .ok (.goto 13, 3) := by decide +kernel
theorem dX9_take_27 : decode cX9_take 27 = .ok (.aload_n 0, 1) := by decide +kernel
theorem dX9_take_28 : decode cX9_take 28 = .ok (.dup, 1) := by decide +kernel
theorem dX9_take_29 : decode cX9_take 29 = .ok (.getfield 177, 3) := by decide +kernel
theorem dX9_take_32 : decode cX9_take 32 = .ok (.iconst 1, 1) := by decide +kernel
theorem dX9_take_33 : decode cX9_take 33 = .ok (.iadd, 1) := by decide +kernel
theorem dX9_take_34 : decode cX9_take 34 = .ok (.putfield 177, 3) := by decide +kernel
theorem dX9_take_37 : decode cX9_take 37 = .ok (.return_, 1) := by decide +kernel
theorem dX9_walk_0 : decode cX9_walk 0 = .ok (.lload 5, 2) := by decide +kernel
theorem dX9_walk_2 : decode cX9_walk 2 = .ok (.lload_n 1, 1) := by decide +kernel
theorem dX9_walk_3 : decode cX9_walk 3 = .ok (.lsub, 1) := by decide +kernel
theorem dX9_walk_4 : decode cX9_walk 4 = .ok (.lstore 9, 2) := by decide +kernel
theorem dX9_walk_6 : decode cX9_walk 6 = .ok (.lload 7, 2) := by decide +kernel
theorem dX9_walk_8 : decode cX9_walk 8 = .ok (.lload_n 3, 1) := by decide +kernel
theorem dX9_walk_9 : decode cX9_walk 9 = .ok (.lsub, 1) := by decide +kernel
theorem dX9_walk_10 : decode cX9_walk 10 = .ok (.lstore 11, 2) := by decide +kernel
theorem dX9_walk_12 : decode cX9_walk 12 = .ok (.lload 9, 2) := by decide +kernel
theorem dX9_walk_14 : decode cX9_walk 14 = .ok (.lload 11, 2) := by decide +kernel
theorem dX9_walk_16 : decode cX9_walk 16 = .ok (.invokestatic 116, 3) := by decide +kernel
theorem dX9_walk_19 : decode cX9_walk 19 = .ok (.lstore 13, 2) := by decide +kernel
theorem dX9_walk_21 : decode cX9_walk 21 = .ok (.lconst 0, 1) := by decide +kernel
theorem dX9_walk_22 : decode cX9_walk 22 = .ok (.lstore 15, 2) := by decide +kernel
theorem dX9_walk_24 : decode cX9_walk 24 = .ok (.aload_n 0, 1) := by decide +kernel
theorem dX9_walk_25 : decode cX9_walk 25 = .ok (.getfield 102, 3) := by decide +kernel
theorem dX9_walk_28 : decode cX9_walk 28 = .ok (.ifCond .ne 98, 3) := by decide +kernel
theorem dX9_walk_31 : decode cX9_walk 31 = .ok (.aload_n 0, 1) := by decide +kernel
theorem dX9_walk_32 : decode cX9_walk 32 = .ok (.getfield 174, 3) := by decide +kernel
theorem dX9_walk_35 : decode cX9_walk 35 = .ok (.lload 13, 2) := by decide +kernel
theorem dX9_walk_37 : decode cX9_walk 37 = .ok (.lload 15, 2) := by decide +kernel
theorem dX9_walk_39 : decode cX9_walk 39 = .ok (.lsub, 1) := by decide +kernel
theorem dX9_walk_40 : decode cX9_walk 40 = .ok (.lcmp, 1) := by decide +kernel
theorem dX9_walk_41 : decode cX9_walk 41 = .ok (.ifCond .ge 85, 3) := by decide +kernel
theorem dX9_walk_44 : decode cX9_walk 44 = .ok (.lload 15, 2) := by decide +kernel
theorem dX9_walk_46 : decode cX9_walk 46 = .ok (.aload_n 0, 1) := by decide +kernel
theorem dX9_walk_47 : decode cX9_walk 47 = .ok (.getfield 174, 3) := by decide +kernel
theorem dX9_walk_50 : decode cX9_walk 50 = .ok (.ladd, 1) := by decide +kernel
theorem dX9_walk_51 : decode cX9_walk 51 = .ok (.lstore 15, 2) := by decide +kernel
theorem dX9_walk_53 : decode cX9_walk 53 = .ok (.lload_n 1, 1) := by decide +kernel
theorem dX9_walk_54 : decode cX9_walk 54 = .ok (.lload 9, 2) := by decide +kernel
theorem dX9_walk_56 : decode cX9_walk 56 = .ok (.lload 15, 2) := by decide +kernel
theorem dX9_walk_58 : decode cX9_walk 58 = .ok (.lmul, 1) := by decide +kernel
theorem dX9_walk_59 : decode cX9_walk 59 = .ok (.lload 13, 2) := by decide +kernel
theorem dX9_walk_61 : decode cX9_walk 61 = .ok (.invokestatic 119, 3) := by decide +kernel
theorem dX9_walk_64 : decode cX9_walk 64 = .ok (.ladd, 1) := by decide +kernel
theorem dX9_walk_65 : decode cX9_walk 65 = .ok (.lstore 17, 2) := by decide +kernel
theorem dX9_walk_67 : decode cX9_walk 67 = .ok (.lload_n 3, 1) := by decide +kernel
theorem dX9_walk_68 : decode cX9_walk 68 = .ok (.lload 11, 2) := by decide +kernel
theorem dX9_walk_70 : decode cX9_walk 70 = .ok (.lload 15, 2) := by decide +kernel
theorem dX9_walk_72 : decode cX9_walk 72 = .ok (.lmul, 1) := by decide +kernel
theorem dX9_walk_73 : decode cX9_walk 73 = .ok (.lload 13, 2) := by decide +kernel
theorem dX9_walk_75 : decode cX9_walk 75 = .ok (.invokestatic 119, 3) := by decide +kernel
theorem dX9_walk_78 : decode cX9_walk 78 = .ok (.ladd, 1) := by decide +kernel
theorem dX9_walk_79 : decode cX9_walk 79 = .ok (.lstore 19, 2) := by decide +kernel
theorem dX9_walk_81 : decode cX9_walk 81 = .ok (.aload_n 0, 1) := by decide +kernel
theorem dX9_walk_82 : decode cX9_walk 82 = .ok (.getfield 170, 3) := by decide +kernel
theorem dX9_walk_85 : decode cX9_walk 85 = .ok (.ifCond .ne 11, 3) := by decide +kernel
theorem dX9_walk_88 : decode cX9_walk 88 = .ok (.aload_n 0, 1) := by decide +kernel
theorem dX9_walk_89 : decode cX9_walk 89 = .ok (.lload 17, 2) := by decide +kernel
theorem dX9_walk_91 : decode cX9_walk 91 = .ok (.lload 19, 2) := by decide +kernel
theorem dX9_walk_93 : decode cX9_walk 93 = .ok (.invokevirtual 190, 3) := by decide +kernel
theorem dX9_walk_96 : decode cX9_walk 96 = .ok (.aload_n 0, 1) := by decide +kernel
theorem dX9_walk_97 : decode cX9_walk 97 = .ok (.invokevirtual 193, 3) := by decide +kernel
theorem dX9_walk_100 : decode cX9_walk 100 = .ok (.aload_n 0, 1) := by decide +kernel
theorem dX9_walk_101 : decode cX9_walk 101 = .ok (.invokevirtual 183, 3) := by decide +kernel
theorem dX9_walk_104 : decode cX9_walk 104 = .ok (.aload_n 0, 1) := by decide +kernel
theorem dX9_walk_105 : decode cX9_walk 105 = .ok (.invokevirtual 180, 3) := by decide +kernel
theorem dX9_walk_108 : decode cX9_walk 108 = .ok (.aload_n 0, 1) := by decide +kernel
theorem dX9_walk_109 : decode cX9_walk 109 = .ok (.getfield 170, 3) := by decide +kernel
theorem dX9_walk_112 : decode cX9_walk 112 = .ok (.ifCond .ne 11, 3) := by decide +kernel
theorem dX9_walk_115 : decode cX9_walk 115 = .ok (.aload_n 0, 1) := by decide +kernel
theorem dX9_walk_116 : decode cX9_walk 116 = .ok (.lload 17, 2) := by decide +kernel
theorem dX9_walk_118 : decode cX9_walk 118 = .ok (.lload 19, 2) := by decide +kernel
theorem dX9_walk_120 : decode cX9_walk 120 = .ok (.invokevirtual 190, 3) := by decide +kernel
theorem dX9_walk_123 : decode cX9_walk 123 = .ok (.goto (-99), 3) := by decide +kernel
theorem dX9_walk_126 : decode cX9_walk 126 = .ok (.aload_n 0, 1) := by decide +kernel
theorem dX9_walk_127 : decode cX9_walk 127 = .ok (.dup, 1) := by decide +kernel
theorem dX9_walk_128 : decode cX9_walk 128 = .ok (.getfield 174, 3) := by decide +kernel
theorem dX9_walk_131 : decode cX9_walk 131 = .ok (.lload 13, 2) := by decide +kernel
theorem dX9_walk_133 : decode cX9_walk 133 = .ok (.lload 15, 2) := by decide +kernel
theorem dX9_walk_135 : decode cX9_walk 135 = .ok (.lsub, 1) := by decide +kernel
theorem dX9_walk_136 : decode cX9_walk 136 = .ok (.lsub, 1) := by decide +kernel
theorem dX9_walk_137 : decode cX9_walk 137 = .ok (.putfield 174, 3) := by decide +kernel
theorem dX9_walk_140 : decode cX9_walk 140 = .ok (.aload_n 0, 1) := by decide +kernel
theorem dX9_walk_141 : decode cX9_walk 141 = .ok (.getfield 170, 3) := by decide +kernel
theorem dX9_walk_144 : decode cX9_walk 144 = .ok (.ifCond .ne 11, 3) := by decide +kernel
theorem dX9_walk_147 : decode cX9_walk 147 = .ok (.aload_n 0, 1) := by decide +kernel
theorem dX9_walk_148 : decode cX9_walk 148 = .ok (.lload 5, 2) := by decide +kernel
theorem dX9_walk_150 : decode cX9_walk 150 = .ok (.lload 7, 2) := by decide +kernel
theorem dX9_walk_152 : decode cX9_walk 152 = .ok (.invokevirtual 190, 3) := by decide +kernel
theorem dX9_walk_155 : decode cX9_walk 155 = .ok (.return_, 1) := by decide +kernel
theorem dX9_walkRow_0 : decode cX9_walkRow 0 = .ok (.aload_n 0, 1) := by decide +kernel
theorem dX9_walkRow_1 : decode cX9_walkRow 1 = .ok (.invokevirtual 196, 3) := by decide +kernel
theorem dX9_walkRow_4 : decode cX9_walkRow 4 = .ok (.aload_n 0, 1) := by decide +kernel
theorem dX9_walkRow_5 : decode cX9_walkRow 5 = .ok (.iconst 0, 1) := by decide +kernel
theorem dX9_walkRow_6 : decode cX9_walkRow 6 = .ok (.putfield 146, 3) := by decide +kernel
theorem dX9_walkRow_9 : decode cX9_walkRow 9 = .ok (.aload_n 0, 1) := by decide +kernel
theorem dX9_walkRow_10 : decode cX9_walkRow 10 = .ok (.getfield 170, 3) := by decide +kernel
theorem dX9_walkRow_13 : decode cX9_walkRow 13 = .ok (.ifCond .ne 21, 3) := by decide +kernel
theorem dX9_walkRow_16 : decode cX9_walkRow 16 = .ok (.aload_n 0, 1) := by decide +kernel
theorem dX9_walkRow_17 : decode cX9_walkRow 17 = .ok (.aload_n 0, 1) := by decide +kernel
theorem dX9_walkRow_18 : decode cX9_walkRow 18 = .ok (.getfield 41, 3) := by decide +kernel
theorem dX9_walkRow_21 : decode cX9_walkRow 21 = .ok (.iconst 0, 1) := by decide +kernel
theorem dX9_walkRow_22 : decode cX9_walkRow 22 = .ok (.iaload, 1) := by decide +kernel
theorem dX9_walkRow_23 : decode cX9_walkRow 23 = .ok (.i2l, 1) := by decide +kernel
theorem dX9_walkRow_24 : decode cX9_walkRow 24 = .ok (.aload_n 0, 1) := by decide +kernel
theorem dX9_walkRow_25 : decode cX9_walkRow 25 = .ok (.getfield 44, 3) := by decide +kernel
theorem dX9_walkRow_28 : decode cX9_walkRow 28 = .ok (.iconst 0, 1) := by decide +kernel
theorem dX9_walkRow_29 : decode cX9_walkRow 29 = .ok (.iaload, 1) := by decide +kernel
theorem dX9_walkRow_30 : decode cX9_walkRow 30 = .ok (.i2l, 1) := by decide +kernel
theorem dX9_walkRow_31 : decode cX9_walkRow 31 = .ok (.invokevirtual 190, 3) := by decide +kernel
theorem dX9_walkRow_34 : decode cX9_walkRow 34 = .ok (.iconst 0, 1) := by decide +kernel
theorem dX9_walkRow_35 : decode cX9_walkRow 35 = .ok (.istore_n 2, 1) := by decide +kernel
theorem dX9_walkRow_36 : decode cX9_walkRow 36 = .ok (.iload_n 2, 1) := by decide +kernel
theorem dX9_walkRow_37 : decode cX9_walkRow 37 = .ok (.iconst 1, 1) := by decide +kernel
theorem dX9_walkRow_38 : decode cX9_walkRow 38 = .ok (.iadd, 1) := by decide +kernel
theorem dX9_walkRow_39 : decode cX9_walkRow 39 = .ok (.aload_n 0, 1) := by decide +kernel
theorem dX9_walkRow_40 : decode cX9_walkRow 40 = .ok (.getfield 199, 3) := by decide +kernel
theorem dX9_walkRow_43 : decode cX9_walkRow 43 = .ok (.if_icmp .ge 45, 3) := by decide +kernel
theorem dX9_walkRow_46 : decode cX9_walkRow 46 = .ok (.aload_n 0, 1) := by decide +kernel
theorem dX9_walkRow_47 : decode cX9_walkRow 47 = .ok (.aload_n 0, 1) := by decide +kernel
theorem dX9_walkRow_48 : decode cX9_walkRow 48 = .ok (.getfield 41, 3) := by decide +kernel
theorem dX9_walkRow_51 : decode cX9_walkRow 51 = .ok (.iload_n 2, 1) := by decide +kernel
theorem dX9_walkRow_52 : decode cX9_walkRow 52 = .ok (.iaload, 1) := by decide +kernel
theorem dX9_walkRow_53 : decode cX9_walkRow 53 = .ok (.i2l, 1) := by decide +kernel
theorem dX9_walkRow_54 : decode cX9_walkRow 54 = .ok (.aload_n 0, 1) := by decide +kernel
theorem dX9_walkRow_55 : decode cX9_walkRow 55 = .ok (.getfield 44, 3) := by decide +kernel
theorem dX9_walkRow_58 : decode cX9_walkRow 58 = .ok (.iload_n 2, 1) := by decide +kernel
theorem dX9_walkRow_59 : decode cX9_walkRow 59 = .ok (.iaload, 1) := by decide +kernel
theorem dX9_walkRow_60 : decode cX9_walkRow 60 = .ok (.i2l, 1) := by decide +kernel
theorem dX9_walkRow_61 : decode cX9_walkRow 61 = .ok (.aload_n 0, 1) := by decide +kernel
theorem dX9_walkRow_62 : decode cX9_walkRow 62 = .ok (.getfield 41, 3) := by decide +kernel
theorem dX9_walkRow_65 : decode cX9_walkRow 65 = .ok (.iload_n 2, 1) := by decide +kernel
theorem dX9_walkRow_66 : decode cX9_walkRow 66 = .ok (.iconst 1, 1) := by decide +kernel
theorem dX9_walkRow_67 : decode cX9_walkRow 67 = .ok (.iadd, 1) := by decide +kernel
theorem dX9_walkRow_68 : decode cX9_walkRow 68 = .ok (.iaload, 1) := by decide +kernel
theorem dX9_walkRow_69 : decode cX9_walkRow 69 = .ok (.i2l, 1) := by decide +kernel
theorem dX9_walkRow_70 : decode cX9_walkRow 70 = .ok (.aload_n 0, 1) := by decide +kernel
theorem dX9_walkRow_71 : decode cX9_walkRow 71 = .ok (.getfield 44, 3) := by decide +kernel
theorem dX9_walkRow_74 : decode cX9_walkRow 74 = .ok (.iload_n 2, 1) := by decide +kernel
theorem dX9_walkRow_75 : decode cX9_walkRow 75 = .ok (.iconst 1, 1) := by decide +kernel
theorem dX9_walkRow_76 : decode cX9_walkRow 76 = .ok (.iadd, 1) := by decide +kernel
theorem dX9_walkRow_77 : decode cX9_walkRow 77 = .ok (.iaload, 1) := by decide +kernel
theorem dX9_walkRow_78 : decode cX9_walkRow 78 = .ok (.i2l, 1) := by decide +kernel
theorem dX9_walkRow_79 : decode cX9_walkRow 79 = .ok (.invokevirtual 202, 3) := by decide +kernel
theorem dX9_walkRow_82 : decode cX9_walkRow 82 = .ok (.iinc 2 1, 3) := by decide +kernel
theorem dX9_walkRow_85 : decode cX9_walkRow 85 = .ok (.goto (-49), 3) := by decide +kernel
theorem dX9_walkRow_88 : decode cX9_walkRow 88 = .ok (.iload_n 1, 1) := by decide +kernel
theorem dX9_walkRow_89 : decode cX9_walkRow 89 = .ok (.ifCond .eq 45, 3) := by decide +kernel
theorem dX9_walkRow_92 : decode cX9_walkRow 92 = .ok (.aload_n 0, 1) := by decide +kernel
theorem dX9_walkRow_93 : decode cX9_walkRow 93 = .ok (.aload_n 0, 1) := by decide +kernel
theorem dX9_walkRow_94 : decode cX9_walkRow 94 = .ok (.getfield 41, 3) := by decide +kernel
theorem dX9_walkRow_97 : decode cX9_walkRow 97 = .ok (.aload_n 0, 1) := by decide +kernel
theorem dX9_walkRow_98 : decode cX9_walkRow 98 = .ok (.getfield 199, 3) := by decide +kernel
theorem dX9_walkRow_101 : decode cX9_walkRow 101 = .ok (.iconst 1, 1) := by decide +kernel
theorem dX9_walkRow_102 : decode cX9_walkRow 102 = .ok (.isub, 1) := by decide +kernel
theorem dX9_walkRow_103 : decode cX9_walkRow 103 = .ok (.iaload, 1) := by decide +kernel
theorem dX9_walkRow_104 : decode cX9_walkRow 104 = .ok (.i2l, 1) := by decide +kernel
theorem dX9_walkRow_105 : decode cX9_walkRow 105 = .ok (.aload_n 0, 1) := by decide +kernel
theorem dX9_walkRow_106 : decode cX9_walkRow 106 = .ok (.getfield 44, 3) := by decide +kernel
theorem dX9_walkRow_109 : decode cX9_walkRow 109 = .ok (.aload_n 0, 1) := by decide +kernel
theorem dX9_walkRow_110 : decode cX9_walkRow 110 = .ok (.getfield 199, 3) := by decide +kernel
theorem dX9_walkRow_113 : decode cX9_walkRow 113 = .ok (.iconst 1, 1) := by decide +kernel
theorem dX9_walkRow_114 : decode cX9_walkRow 114 = .ok (.isub, 1) := by decide +kernel
theorem dX9_walkRow_115 : decode cX9_walkRow 115 = .ok (.iaload, 1) := by decide +kernel
theorem dX9_walkRow_116 : decode cX9_walkRow 116 = .ok (.i2l, 1) := by decide +kernel
theorem dX9_walkRow_117 : decode cX9_walkRow 117 = .ok (.aload_n 0, 1) := by decide +kernel
theorem dX9_walkRow_118 : decode cX9_walkRow 118 = .ok (.getfield 41, 3) := by decide +kernel
theorem dX9_walkRow_121 : decode cX9_walkRow 121 = .ok (.iconst 0, 1) := by decide +kernel
theorem dX9_walkRow_122 : decode cX9_walkRow 122 = .ok (.iaload, 1) := by decide +kernel
theorem dX9_walkRow_123 : decode cX9_walkRow 123 = .ok (.i2l, 1) := by decide +kernel
theorem dX9_walkRow_124 : decode cX9_walkRow 124 = .ok (.aload_n 0, 1) := by decide +kernel
theorem dX9_walkRow_125 : decode cX9_walkRow 125 = .ok (.getfield 44, 3) := by decide +kernel
theorem dX9_walkRow_128 : decode cX9_walkRow 128 = .ok (.iconst 0, 1) := by decide +kernel
theorem dX9_walkRow_129 : decode cX9_walkRow 129 = .ok (.iaload, 1) := by decide +kernel
theorem dX9_walkRow_130 : decode cX9_walkRow 130 = .ok (.i2l, 1) := by decide +kernel
theorem dX9_walkRow_131 : decode cX9_walkRow 131 = .ok (.invokevirtual 202, 3) := by decide +kernel
theorem dX9_walkRow_134 : decode cX9_walkRow 134 = .ok (.aload_n 0, 1) := by decide +kernel
theorem dX9_walkRow_135 : decode cX9_walkRow 135 = .ok (.invokevirtual 193, 3) := by decide +kernel
theorem dX9_walkRow_138 : decode cX9_walkRow 138 = .ok (.return_, 1) := by decide +kernel
theorem dX9_walked_0 : decode cX9_walked 0 = .ok (.aload_n 0, 1) := by decide +kernel
theorem dX9_walked_1 : decode cX9_walked 1 = .ok (.getfield 216, 3) := by decide +kernel
theorem dX9_walked_4 : decode cX9_walked 4 = .ok (.ireturn, 1) := by decide +kernel
end
