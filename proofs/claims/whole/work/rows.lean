section
-- ===== PART A: goes FIRST, ahead of the names: the tables' words, and 'selects' of the private methods out of them =====
/-- a private method of a class that the tables say can be made, by its rows of tables_1 -/
def lw_okq (q : MethodName × Nat) : Prop := (q.1.cls ≠ "java/lang/invoke/MethodHandle" ∧ q.1.cls ≠ "java/lang/invoke/VarHandle") ∧ Cond.instantiable q.1.cls q.2 ∈ tables_1 ∧ Cond.privateMethod q.1 ∈ tables_1 ∧ Cond.instanceMethod q.1 ∈ tables_1
theorem lw_p0 : lw_okq (⟨"RingPieces$Kinds", "isFull", "()Z"⟩, 4) := ⟨⟨by decide +kernel, by decide +kernel⟩, List.mem_of_getElem? (i := 21) (by decide +kernel), List.mem_of_getElem? (i := 147) (by decide +kernel), List.mem_of_getElem? (i := 148) (by decide +kernel)⟩
theorem lw_p1 : lw_okq (⟨"RingPieces$Kinds", "add", "(II)I"⟩, 4) := ⟨⟨by decide +kernel, by decide +kernel⟩, List.mem_of_getElem? (i := 21) (by decide +kernel), List.mem_of_getElem? (i := 151) (by decide +kernel), List.mem_of_getElem? (i := 152) (by decide +kernel)⟩
theorem lw_p2 : lw_okq (⟨"RingPieces$Kinds", "has", "(I)Z"⟩, 4) := ⟨⟨by decide +kernel, by decide +kernel⟩, List.mem_of_getElem? (i := 21) (by decide +kernel), List.mem_of_getElem? (i := 159) (by decide +kernel), List.mem_of_getElem? (i := 160) (by decide +kernel)⟩
theorem lw_p3 : lw_okq (⟨"RingPieces$Kinds", "enlarge", "(II)I"⟩, 4) := ⟨⟨by decide +kernel, by decide +kernel⟩, List.mem_of_getElem? (i := 21) (by decide +kernel), List.mem_of_getElem? (i := 163) (by decide +kernel), List.mem_of_getElem? (i := 164) (by decide +kernel)⟩
theorem lw_p4 : lw_okq (⟨"RingPieces$Keys", "permit", "(IZ)Z"⟩, 3) := ⟨⟨by decide +kernel, by decide +kernel⟩, List.mem_of_getElem? (i := 43) (by decide +kernel), List.mem_of_getElem? (i := 175) (by decide +kernel), List.mem_of_getElem? (i := 176) (by decide +kernel)⟩
theorem lw_p5 : lw_okq (⟨"RingPieces", "openPlanned", "()V"⟩, 7) := ⟨⟨by decide +kernel, by decide +kernel⟩, List.mem_of_getElem? (i := 13) (by decide +kernel), List.mem_of_getElem? (i := 190) (by decide +kernel), List.mem_of_getElem? (i := 191) (by decide +kernel)⟩
theorem lw_p6 : lw_okq (⟨"RingPieces$Tunnel", "standing", "()I"⟩, 11) := ⟨⟨by decide +kernel, by decide +kernel⟩, List.mem_of_getElem? (i := 62) (by decide +kernel), List.mem_of_getElem? (i := 194) (by decide +kernel), List.mem_of_getElem? (i := 195) (by decide +kernel)⟩
theorem lw_p7 : lw_okq (⟨"RingPieces$Kinds", "giveBack", "(I)V"⟩, 4) := ⟨⟨by decide +kernel, by decide +kernel⟩, List.mem_of_getElem? (i := 21) (by decide +kernel), List.mem_of_getElem? (i := 198) (by decide +kernel), List.mem_of_getElem? (i := 199) (by decide +kernel)⟩
theorem lw_p8 : lw_okq (⟨"RingPieces", "planRing", "(I)Z"⟩, 7) := ⟨⟨by decide +kernel, by decide +kernel⟩, List.mem_of_getElem? (i := 13) (by decide +kernel), List.mem_of_getElem? (i := 202) (by decide +kernel), List.mem_of_getElem? (i := 203) (by decide +kernel)⟩
theorem lw_p9 : lw_okq (⟨"RingPieces", "leastSum", "(II)J"⟩, 7) := ⟨⟨by decide +kernel, by decide +kernel⟩, List.mem_of_getElem? (i := 13) (by decide +kernel), List.mem_of_getElem? (i := 206) (by decide +kernel), List.mem_of_getElem? (i := 207) (by decide +kernel)⟩
theorem lw_p10 : lw_okq (⟨"RingPieces$Tunnel", "turnBefore", "(I)I"⟩, 11) := ⟨⟨by decide +kernel, by decide +kernel⟩, List.mem_of_getElem? (i := 62) (by decide +kernel), List.mem_of_getElem? (i := 211) (by decide +kernel), List.mem_of_getElem? (i := 212) (by decide +kernel)⟩
theorem lw_p11 : lw_okq (⟨"RingPieces$Kinds", "unused", "(I)I"⟩, 4) := ⟨⟨by decide +kernel, by decide +kernel⟩, List.mem_of_getElem? (i := 21) (by decide +kernel), List.mem_of_getElem? (i := 215) (by decide +kernel), List.mem_of_getElem? (i := 216) (by decide +kernel)⟩
theorem lw_p12 : lw_okq (⟨"RingPieces$Keys", "fits", "(II)Z"⟩, 3) := ⟨⟨by decide +kernel, by decide +kernel⟩, List.mem_of_getElem? (i := 43) (by decide +kernel), List.mem_of_getElem? (i := 219) (by decide +kernel), List.mem_of_getElem? (i := 220) (by decide +kernel)⟩
theorem lw_p13 : lw_okq (⟨"RingPieces", "sumWith", "(IIIIJ)J"⟩, 7) := ⟨⟨by decide +kernel, by decide +kernel⟩, List.mem_of_getElem? (i := 13) (by decide +kernel), List.mem_of_getElem? (i := 223) (by decide +kernel), List.mem_of_getElem? (i := 224) (by decide +kernel)⟩
theorem lw_p14 : lw_okq (⟨"RingPieces$Tunnel", "lay", "(IIII)V"⟩, 11) := ⟨⟨by decide +kernel, by decide +kernel⟩, List.mem_of_getElem? (i := 62) (by decide +kernel), List.mem_of_getElem? (i := 227) (by decide +kernel), List.mem_of_getElem? (i := 228) (by decide +kernel)⟩
theorem lw_p15 : lw_okq (⟨"RingPieces$Tunnel", "offAt", "(I)J"⟩, 11) := ⟨⟨by decide +kernel, by decide +kernel⟩, List.mem_of_getElem? (i := 62) (by decide +kernel), List.mem_of_getElem? (i := 239) (by decide +kernel), List.mem_of_getElem? (i := 240) (by decide +kernel)⟩
def lw_privs_1 : List (MethodName × Nat) := [(⟨"RingPieces$Kinds", "isFull", "()Z"⟩, 4), (⟨"RingPieces$Kinds", "add", "(II)I"⟩, 4), (⟨"RingPieces$Kinds", "has", "(I)Z"⟩, 4), (⟨"RingPieces$Kinds", "enlarge", "(II)I"⟩, 4), (⟨"RingPieces$Keys", "permit", "(IZ)Z"⟩, 3), (⟨"RingPieces", "openPlanned", "()V"⟩, 7), (⟨"RingPieces$Tunnel", "standing", "()I"⟩, 11), (⟨"RingPieces$Kinds", "giveBack", "(I)V"⟩, 4), (⟨"RingPieces", "planRing", "(I)Z"⟩, 7), (⟨"RingPieces", "leastSum", "(II)J"⟩, 7), (⟨"RingPieces$Tunnel", "turnBefore", "(I)I"⟩, 11), (⟨"RingPieces$Kinds", "unused", "(I)I"⟩, 4), (⟨"RingPieces$Keys", "fits", "(II)Z"⟩, 3), (⟨"RingPieces", "sumWith", "(IIIIJ)J"⟩, 7), (⟨"RingPieces$Tunnel", "lay", "(IIII)V"⟩, 11), (⟨"RingPieces$Tunnel", "offAt", "(I)J"⟩, 11)]
theorem lw_r1 : ∀ q ∈ lw_privs_1, lw_okq q := List.forall_mem_cons.mpr ⟨lw_p0, List.forall_mem_cons.mpr ⟨lw_p1, List.forall_mem_cons.mpr ⟨lw_p2, List.forall_mem_cons.mpr ⟨lw_p3, List.forall_mem_cons.mpr ⟨lw_p4, List.forall_mem_cons.mpr ⟨lw_p5, List.forall_mem_cons.mpr ⟨lw_p6, List.forall_mem_cons.mpr ⟨lw_p7, List.forall_mem_cons.mpr ⟨lw_p8, List.forall_mem_cons.mpr ⟨lw_p9, List.forall_mem_cons.mpr ⟨lw_p10, List.forall_mem_cons.mpr ⟨lw_p11, List.forall_mem_cons.mpr ⟨lw_p12, List.forall_mem_cons.mpr ⟨lw_p13, List.forall_mem_cons.mpr ⟨lw_p14, List.forall_mem_cons.mpr ⟨lw_p15, fun _ h => absurd h List.not_mem_nil⟩⟩⟩⟩⟩⟩⟩⟩⟩⟩⟩⟩⟩⟩⟩⟩
theorem lw_p16 : lw_okq (⟨"RingPieces$Kinds", "take", "(I)V"⟩, 4) := ⟨⟨by decide +kernel, by decide +kernel⟩, List.mem_of_getElem? (i := 21) (by decide +kernel), List.mem_of_getElem? (i := 243) (by decide +kernel), List.mem_of_getElem? (i := 244) (by decide +kernel)⟩
theorem lw_p17 : lw_okq (⟨"RingPieces$Tunnel", "stands", "(I)Z"⟩, 11) := ⟨⟨by decide +kernel, by decide +kernel⟩, List.mem_of_getElem? (i := 62) (by decide +kernel), List.mem_of_getElem? (i := 255) (by decide +kernel), List.mem_of_getElem? (i := 256) (by decide +kernel)⟩
theorem lw_p18 : lw_okq (⟨"RingPieces$Tunnel", "has", "(I)Z"⟩, 11) := ⟨⟨by decide +kernel, by decide +kernel⟩, List.mem_of_getElem? (i := 62) (by decide +kernel), List.mem_of_getElem? (i := 268) (by decide +kernel), List.mem_of_getElem? (i := 269) (by decide +kernel)⟩
theorem lw_p19 : lw_okq (⟨"RingPieces$Tunnel", "stateAt", "(I)I"⟩, 11) := ⟨⟨by decide +kernel, by decide +kernel⟩, List.mem_of_getElem? (i := 62) (by decide +kernel), List.mem_of_getElem? (i := 272) (by decide +kernel), List.mem_of_getElem? (i := 273) (by decide +kernel)⟩
theorem lw_p20 : lw_okq (⟨"RingPieces", "needRing", "(I)V"⟩, 7) := ⟨⟨by decide +kernel, by decide +kernel⟩, List.mem_of_getElem? (i := 13) (by decide +kernel), List.mem_of_getElem? (i := 308) (by decide +kernel), List.mem_of_getElem? (i := 309) (by decide +kernel)⟩
theorem lw_p21 : lw_okq (⟨"java/lang/Throwable", "fillInStackTrace", "(I)Ljava/lang/Throwable;"⟩, 6) := ⟨⟨by decide +kernel, by decide +kernel⟩, List.mem_of_getElem? (i := 350) (by decide +kernel), List.mem_of_getElem? (i := 348) (by decide +kernel), List.mem_of_getElem? (i := 349) (by decide +kernel)⟩
theorem lw_p22 : lw_okq (⟨"RingPieces$Tunnel", "setPoint", "(III)V"⟩, 11) := ⟨⟨by decide +kernel, by decide +kernel⟩, List.mem_of_getElem? (i := 62) (by decide +kernel), List.mem_of_getElem? (i := 385) (by decide +kernel), List.mem_of_getElem? (i := 386) (by decide +kernel)⟩
theorem lw_p23 : lw_okq (⟨"RingPieces$Tunnel", "shiftBuilt", "(III)V"⟩, 11) := ⟨⟨by decide +kernel, by decide +kernel⟩, List.mem_of_getElem? (i := 62) (by decide +kernel), List.mem_of_getElem? (i := 398) (by decide +kernel), List.mem_of_getElem? (i := 399) (by decide +kernel)⟩
theorem lw_p24 : lw_okq (⟨"RingPieces", "layAgainFrom", "(I)V"⟩, 7) := ⟨⟨by decide +kernel, by decide +kernel⟩, List.mem_of_getElem? (i := 13) (by decide +kernel), List.mem_of_getElem? (i := 409) (by decide +kernel), List.mem_of_getElem? (i := 410) (by decide +kernel)⟩
theorem lw_p25 : lw_okq (⟨"RingPieces", "needStanding", "(I)V"⟩, 7) := ⟨⟨by decide +kernel, by decide +kernel⟩, List.mem_of_getElem? (i := 13) (by decide +kernel), List.mem_of_getElem? (i := 420) (by decide +kernel), List.mem_of_getElem? (i := 421) (by decide +kernel)⟩
theorem lw_p26 : lw_okq (⟨"RingPiecesModel", "isKind", "(I)Z"⟩, 23) := ⟨⟨by decide +kernel, by decide +kernel⟩, List.mem_of_getElem? (i := 441) (by decide +kernel), List.mem_of_getElem? (i := 534) (by decide +kernel), List.mem_of_getElem? (i := 535) (by decide +kernel)⟩
theorem lw_p27 : lw_okq (⟨"RingPiecesModel", "isRing", "(I)Z"⟩, 23) := ⟨⟨by decide +kernel, by decide +kernel⟩, List.mem_of_getElem? (i := 441) (by decide +kernel), List.mem_of_getElem? (i := 542) (by decide +kernel), List.mem_of_getElem? (i := 543) (by decide +kernel)⟩
theorem lw_p28 : lw_okq (⟨"RingPiecesModel", "planOne", "()Z"⟩, 23) := ⟨⟨by decide +kernel, by decide +kernel⟩, List.mem_of_getElem? (i := 441) (by decide +kernel), List.mem_of_getElem? (i := 567) (by decide +kernel), List.mem_of_getElem? (i := 568) (by decide +kernel)⟩
theorem lw_p29 : lw_okq (⟨"RingPiecesModel", "mayStand", "(IIII)Z"⟩, 23) := ⟨⟨by decide +kernel, by decide +kernel⟩, List.mem_of_getElem? (i := 441) (by decide +kernel), List.mem_of_getElem? (i := 571) (by decide +kernel), List.mem_of_getElem? (i := 572) (by decide +kernel)⟩
theorem lw_p30 : lw_okq (⟨"RingPiecesModel", "usedOf", "(I)I"⟩, 23) := ⟨⟨by decide +kernel, by decide +kernel⟩, List.mem_of_getElem? (i := 441) (by decide +kernel), List.mem_of_getElem? (i := 575) (by decide +kernel), List.mem_of_getElem? (i := 576) (by decide +kernel)⟩
theorem lw_p31 : lw_okq (⟨"RingPiecesModel", "set", "(III)V"⟩, 23) := ⟨⟨by decide +kernel, by decide +kernel⟩, List.mem_of_getElem? (i := 441) (by decide +kernel), List.mem_of_getElem? (i := 579) (by decide +kernel), List.mem_of_getElem? (i := 580) (by decide +kernel)⟩
def lw_privs_2 : List (MethodName × Nat) := [(⟨"RingPieces$Kinds", "take", "(I)V"⟩, 4), (⟨"RingPieces$Tunnel", "stands", "(I)Z"⟩, 11), (⟨"RingPieces$Tunnel", "has", "(I)Z"⟩, 11), (⟨"RingPieces$Tunnel", "stateAt", "(I)I"⟩, 11), (⟨"RingPieces", "needRing", "(I)V"⟩, 7), (⟨"java/lang/Throwable", "fillInStackTrace", "(I)Ljava/lang/Throwable;"⟩, 6), (⟨"RingPieces$Tunnel", "setPoint", "(III)V"⟩, 11), (⟨"RingPieces$Tunnel", "shiftBuilt", "(III)V"⟩, 11), (⟨"RingPieces", "layAgainFrom", "(I)V"⟩, 7), (⟨"RingPieces", "needStanding", "(I)V"⟩, 7), (⟨"RingPiecesModel", "isKind", "(I)Z"⟩, 23), (⟨"RingPiecesModel", "isRing", "(I)Z"⟩, 23), (⟨"RingPiecesModel", "planOne", "()Z"⟩, 23), (⟨"RingPiecesModel", "mayStand", "(IIII)Z"⟩, 23), (⟨"RingPiecesModel", "usedOf", "(I)I"⟩, 23), (⟨"RingPiecesModel", "set", "(III)V"⟩, 23)]
theorem lw_r2 : ∀ q ∈ lw_privs_2, lw_okq q := List.forall_mem_cons.mpr ⟨lw_p16, List.forall_mem_cons.mpr ⟨lw_p17, List.forall_mem_cons.mpr ⟨lw_p18, List.forall_mem_cons.mpr ⟨lw_p19, List.forall_mem_cons.mpr ⟨lw_p20, List.forall_mem_cons.mpr ⟨lw_p21, List.forall_mem_cons.mpr ⟨lw_p22, List.forall_mem_cons.mpr ⟨lw_p23, List.forall_mem_cons.mpr ⟨lw_p24, List.forall_mem_cons.mpr ⟨lw_p25, List.forall_mem_cons.mpr ⟨lw_p26, List.forall_mem_cons.mpr ⟨lw_p27, List.forall_mem_cons.mpr ⟨lw_p28, List.forall_mem_cons.mpr ⟨lw_p29, List.forall_mem_cons.mpr ⟨lw_p30, List.forall_mem_cons.mpr ⟨lw_p31, fun _ h => absurd h List.not_mem_nil⟩⟩⟩⟩⟩⟩⟩⟩⟩⟩⟩⟩⟩⟩⟩⟩
theorem lw_p32 : lw_okq (⟨"RingPiecesModel", "offOf", "(I)J"⟩, 23) := ⟨⟨by decide +kernel, by decide +kernel⟩, List.mem_of_getElem? (i := 441) (by decide +kernel), List.mem_of_getElem? (i := 586) (by decide +kernel), List.mem_of_getElem? (i := 587) (by decide +kernel)⟩
theorem lw_p33 : lw_okq (⟨"RingPiecesModel", "note", "(IJII)V"⟩, 23) := ⟨⟨by decide +kernel, by decide +kernel⟩, List.mem_of_getElem? (i := 441) (by decide +kernel), List.mem_of_getElem? (i := 590) (by decide +kernel), List.mem_of_getElem? (i := 591) (by decide +kernel)⟩
theorem lw_p34 : lw_okq (⟨"RingPiecesModel", "trySecond", "(IJII)V"⟩, 23) := ⟨⟨by decide +kernel, by decide +kernel⟩, List.mem_of_getElem? (i := 441) (by decide +kernel), List.mem_of_getElem? (i := 594) (by decide +kernel), List.mem_of_getElem? (i := 595) (by decide +kernel)⟩
theorem lw_p35 : lw_okq (⟨"RingPiecesModel", "isThere", "(I)Z"⟩, 23) := ⟨⟨by decide +kernel, by decide +kernel⟩, List.mem_of_getElem? (i := 441) (by decide +kernel), List.mem_of_getElem? (i := 616) (by decide +kernel), List.mem_of_getElem? (i := 617) (by decide +kernel)⟩
def lw_privs_3 : List (MethodName × Nat) := [(⟨"RingPiecesModel", "offOf", "(I)J"⟩, 23), (⟨"RingPiecesModel", "note", "(IJII)V"⟩, 23), (⟨"RingPiecesModel", "trySecond", "(IJII)V"⟩, 23), (⟨"RingPiecesModel", "isThere", "(I)Z"⟩, 23)]
theorem lw_r3 : ∀ q ∈ lw_privs_3, lw_okq q := List.forall_mem_cons.mpr ⟨lw_p32, List.forall_mem_cons.mpr ⟨lw_p33, List.forall_mem_cons.mpr ⟨lw_p34, List.forall_mem_cons.mpr ⟨lw_p35, fun _ h => absurd h List.not_mem_nil⟩⟩⟩⟩
def lw_privs : List (MethodName × Nat) := lw_privs_1 ++ (lw_privs_2 ++ (lw_privs_3))
def lw_tbl : List Cond := k2_sels lw_privs ++ tables_1
theorem lw_privs_ok : ∀ q ∈ lw_privs, lw_okq q := by
  show ∀ q ∈ lw_privs_1 ++ (lw_privs_2 ++ (lw_privs_3)), lw_okq q
  exact List.forall_mem_append.mpr ⟨lw_r1, List.forall_mem_append.mpr ⟨lw_r2, lw_r3⟩⟩
end
section

def RX0 : String := "RingPieces$Keys"
def TX0 : u_T := fun k => match k with
  | 0 => ("RingPieces$Keys", "forbidden", "[Z", true)
  | 1 => ("RingPieces$Keys", "permitted", "I", false)
  | _ => ("RingPieces$Keys", "jointsApart", "I", false)
def tyX0 : Nat → FieldType := fun k => match k with
  | 0 => .array .boolean
  | 1 => .int
  | _ => .int
abbrev wsX00 : List Cond := u_ws RX0 TX0 3
theorem nmX0 : ∀ a, a < 3 → ∀ b, b < 3 → a ≠ b → (TX0 a).2.1 ≠ (TX0 b).2.1 := by decide +kernel
theorem tyX0_ok : ∀ k, k < 3 → parseFieldDescriptor (TX0 k).2.2.1 = some (tyX0 k) := by decide +kernel
abbrev cX0_init : ByteArray := prog_2_method_1_code
def yX0_init : MethodName := ⟨RX0, "<init>", "()V"⟩
abbrev cX0_isPosition : ByteArray := prog_2_method_2_code
def yX0_isPosition : MethodName := ⟨RX0, "isPosition", "(I)Z"⟩
abbrev cX0_c : ByteArray := prog_2_method_3_code
def yX0_c : MethodName := ⟨RX0, "c", "(I)I"⟩
abbrev cX0_s : ByteArray := prog_2_method_4_code
def yX0_s : MethodName := ⟨RX0, "s", "(I)I"⟩
abbrev cX0_permit : ByteArray := prog_2_method_5_code
def yX0_permit : MethodName := ⟨RX0, "permit", "(IZ)Z"⟩
abbrev cX0_fits : ByteArray := prog_2_method_6_code
def yX0_fits : MethodName := ⟨RX0, "fits", "(II)Z"⟩
def RX1 : String := "RingPieces$Kinds"
def TX1 : u_T := fun k => match k with
  | 0 => ("RingPieces$Kinds", "taper", "[I", true)
  | 1 => ("RingPieces$Kinds", "stock", "[I", true)
  | 2 => ("RingPieces$Kinds", "used", "[I", true)
  | _ => ("RingPieces$Kinds", "number", "I", false)
def tyX1 : Nat → FieldType := fun k => match k with
  | 0 => .array .int
  | 1 => .array .int
  | 2 => .array .int
  | _ => .int
abbrev wsX10 : List Cond := u_ws RX1 TX1 4
theorem nmX1 : ∀ a, a < 4 → ∀ b, b < 4 → a ≠ b → (TX1 a).2.1 ≠ (TX1 b).2.1 := by decide +kernel
theorem tyX1_ok : ∀ k, k < 4 → parseFieldDescriptor (TX1 k).2.2.1 = some (tyX1 k) := by decide +kernel
abbrev cX1_init : ByteArray := prog_3_method_1_code
def yX1_init : MethodName := ⟨RX1, "<init>", "()V"⟩
abbrev cX1_has : ByteArray := prog_3_method_2_code
def yX1_has : MethodName := ⟨RX1, "has", "(I)Z"⟩
abbrev cX1_isFull : ByteArray := prog_3_method_3_code
def yX1_isFull : MethodName := ⟨RX1, "isFull", "()Z"⟩
abbrev cX1_add : ByteArray := prog_3_method_4_code
def yX1_add : MethodName := ⟨RX1, "add", "(II)I"⟩
abbrev cX1_enlarge : ByteArray := prog_3_method_5_code
def yX1_enlarge : MethodName := ⟨RX1, "enlarge", "(II)I"⟩
abbrev cX1_unused : ByteArray := prog_3_method_6_code
def yX1_unused : MethodName := ⟨RX1, "unused", "(I)I"⟩
abbrev cX1_take : ByteArray := prog_3_method_7_code
def yX1_take : MethodName := ⟨RX1, "take", "(I)V"⟩
abbrev cX1_giveBack : ByteArray := prog_3_method_8_code
def yX1_giveBack : MethodName := ⟨RX1, "giveBack", "(I)V"⟩
def RX2 : String := "RingPieces$Tunnel"
def TX2 : u_T := fun k => match k with
  | 0 => ("RingPieces$Tunnel", "rings", "I", true)
  | 1 => ("RingPieces$Tunnel", "built", "I", false)
  | 2 => ("RingPieces$Tunnel", "planned", "I", false)
  | 3 => ("RingPieces$Tunnel", "kindAt", "[I", true)
  | 4 => ("RingPieces$Tunnel", "turnAt", "[I", true)
  | 5 => ("RingPieces$Tunnel", "lineX", "[J", true)
  | 6 => ("RingPieces$Tunnel", "lineY", "[J", true)
  | 7 => ("RingPieces$Tunnel", "x", "[J", true)
  | 8 => ("RingPieces$Tunnel", "y", "[J", true)
  | 9 => ("RingPieces$Tunnel", "dx", "[J", true)
  | _ => ("RingPieces$Tunnel", "dy", "[J", true)
def tyX2 : Nat → FieldType := fun k => match k with
  | 0 => .int
  | 1 => .int
  | 2 => .int
  | 3 => .array .int
  | 4 => .array .int
  | 5 => .array .long
  | 6 => .array .long
  | 7 => .array .long
  | 8 => .array .long
  | 9 => .array .long
  | _ => .array .long
abbrev wsX20 : List Cond := u_ws RX2 TX2 11
theorem nmX2 : ∀ a, a < 11 → ∀ b, b < 11 → a ≠ b → (TX2 a).2.1 ≠ (TX2 b).2.1 := by decide +kernel
theorem tyX2_ok : ∀ k, k < 11 → parseFieldDescriptor (TX2 k).2.2.1 = some (tyX2 k) := by decide +kernel
abbrev cX2_init : ByteArray := prog_4_method_1_code
def yX2_init : MethodName := ⟨RX2, "<init>", "(I)V"⟩
abbrev cX2_has : ByteArray := prog_4_method_2_code
def yX2_has : MethodName := ⟨RX2, "has", "(I)Z"⟩
abbrev cX2_standing : ByteArray := prog_4_method_3_code
def yX2_standing : MethodName := ⟨RX2, "standing", "()I"⟩
abbrev cX2_stands : ByteArray := prog_4_method_4_code
def yX2_stands : MethodName := ⟨RX2, "stands", "(I)Z"⟩
abbrev cX2_stateAt : ByteArray := prog_4_method_5_code
def yX2_stateAt : MethodName := ⟨RX2, "stateAt", "(I)I"⟩
abbrev cX2_turnBefore : ByteArray := prog_4_method_6_code
def yX2_turnBefore : MethodName := ⟨RX2, "turnBefore", "(I)I"⟩
abbrev cX2_setPoint : ByteArray := prog_4_method_7_code
def yX2_setPoint : MethodName := ⟨RX2, "setPoint", "(III)V"⟩
abbrev cX2_lay : ByteArray := prog_4_method_8_code
def yX2_lay : MethodName := ⟨RX2, "lay", "(IIII)V"⟩
abbrev cX2_shiftBuilt : ByteArray := prog_4_method_9_code
def yX2_shiftBuilt : MethodName := ⟨RX2, "shiftBuilt", "(III)V"⟩
abbrev cX2_offAt : ByteArray := prog_4_method_10_code
def yX2_offAt : MethodName := ⟨RX2, "offAt", "(I)J"⟩
def RX3 : String := "RingPieces"
def TX3 : u_T := fun k => match k with
  | 0 => ("RingPieces", "kinds", "LRingPieces$Kinds;", true)
  | 1 => ("RingPieces", "keys", "LRingPieces$Keys;", true)
  | 2 => ("RingPieces", "tunnel", "LRingPieces$Tunnel;", true)
  | 3 => ("RingPieces", "ahead", "I", false)
  | 4 => ("RingPieces", "plans", "I", false)
  | 5 => ("RingPieces", "chosenKind", "I", false)
  | _ => ("RingPieces", "chosenTurn", "I", false)
def tyX3 : Nat → FieldType := fun k => match k with
  | 0 => .object "RingPieces$Kinds"
  | 1 => .object "RingPieces$Keys"
  | 2 => .object "RingPieces$Tunnel"
  | 3 => .int
  | 4 => .int
  | 5 => .int
  | _ => .int
abbrev wsX30 : List Cond := u_ws RX3 TX3 7
theorem nmX3 : ∀ a, a < 7 → ∀ b, b < 7 → a ≠ b → (TX3 a).2.1 ≠ (TX3 b).2.1 := by decide +kernel
theorem tyX3_ok : ∀ k, k < 7 → parseFieldDescriptor (TX3 k).2.2.1 = some (tyX3 k) := by decide +kernel
abbrev cX3_init : ByteArray := prog_1_method_1_code
def yX3_init : MethodName := ⟨RX3, "<init>", "(I)V"⟩
abbrev cX3_kind : ByteArray := prog_1_method_2_code
def yX3_kind : MethodName := ⟨RX3, "kind", "(II)I"⟩
abbrev cX3_more : ByteArray := prog_1_method_3_code
def yX3_more : MethodName := ⟨RX3, "more", "(II)I"⟩
abbrev cX3_line : ByteArray := prog_1_method_4_code
def yX3_line : MethodName := ⟨RX3, "line", "(III)I"⟩
abbrev cX3_apart : ByteArray := prog_1_method_5_code
def yX3_apart : MethodName := ⟨RX3, "apart", "(I)I"⟩
abbrev cX3_allow : ByteArray := prog_1_method_6_code
def yX3_allow : MethodName := ⟨RX3, "allow", "(IZ)Z"⟩
abbrev cX3_look : ByteArray := prog_1_method_7_code
def yX3_look : MethodName := ⟨RX3, "look", "(I)I"⟩
abbrev cX3_run : ByteArray := prog_1_method_8_code
def yX3_run : MethodName := ⟨RX3, "run", "()I"⟩
abbrev cX3_build : ByteArray := prog_1_method_9_code
def yX3_build : MethodName := ⟨RX3, "build", "(I)I"⟩
abbrev cX3_survey : ByteArray := prog_1_method_10_code
def yX3_survey : MethodName := ⟨RX3, "survey", "(III)I"⟩
abbrev cX3_replace : ByteArray := prog_1_method_11_code
def yX3_replace : MethodName := ⟨RX3, "replace", "(II)I"⟩
abbrev cX3_kindOf : ByteArray := prog_1_method_12_code
def yX3_kindOf : MethodName := ⟨RX3, "kindOf", "(I)I"⟩
abbrev cX3_turnOf : ByteArray := prog_1_method_13_code
def yX3_turnOf : MethodName := ⟨RX3, "turnOf", "(I)I"⟩
abbrev cX3_state : ByteArray := prog_1_method_14_code
def yX3_state : MethodName := ⟨RX3, "state", "(I)I"⟩
abbrev cX3_place : ByteArray := prog_1_method_15_code
def yX3_place : MethodName := ⟨RX3, "place", "(II)J"⟩
abbrev cX3_off : ByteArray := prog_1_method_16_code
def yX3_off : MethodName := ⟨RX3, "off", "(I)J"⟩
abbrev cX3_sum : ByteArray := prog_1_method_17_code
def yX3_sum : MethodName := ⟨RX3, "sum", "()J"⟩
abbrev cX3_stroke : ByteArray := prog_1_method_18_code
def yX3_stroke : MethodName := ⟨RX3, "stroke", "(II)I"⟩
abbrev cX3_left : ByteArray := prog_1_method_19_code
def yX3_left : MethodName := ⟨RX3, "left", "(I)I"⟩
abbrev cX3_list : ByteArray := prog_1_method_20_code
def yX3_list : MethodName := ⟨RX3, "list", "(II)I"⟩
abbrev cX3_count : ByteArray := prog_1_method_21_code
def yX3_count : MethodName := ⟨RX3, "count", "(I)I"⟩
abbrev cX3_isWithin : ByteArray := prog_1_method_22_code
def yX3_isWithin : MethodName := ⟨RX3, "isWithin", "(III)Z"⟩
abbrev cX3_needRing : ByteArray := prog_1_method_23_code
def yX3_needRing : MethodName := ⟨RX3, "needRing", "(I)V"⟩
abbrev cX3_needStanding : ByteArray := prog_1_method_24_code
def yX3_needStanding : MethodName := ⟨RX3, "needStanding", "(I)V"⟩
abbrev cX3_openPlanned : ByteArray := prog_1_method_25_code
def yX3_openPlanned : MethodName := ⟨RX3, "openPlanned", "()V"⟩
abbrev cX3_layAgainFrom : ByteArray := prog_1_method_26_code
def yX3_layAgainFrom : MethodName := ⟨RX3, "layAgainFrom", "(I)V"⟩
abbrev cX3_planRing : ByteArray := prog_1_method_27_code
def yX3_planRing : MethodName := ⟨RX3, "planRing", "(I)Z"⟩
abbrev cX3_leastSum : ByteArray := prog_1_method_28_code
def yX3_leastSum : MethodName := ⟨RX3, "leastSum", "(II)J"⟩
abbrev cX3_sumWith : ByteArray := prog_1_method_29_code
def yX3_sumWith : MethodName := ⟨RX3, "sumWith", "(IIIIJ)J"⟩
def RX4 : String := "RingPiecesModel"
def TX4 : u_T := fun k => match k with
  | 0 => ("RingPiecesModel", "fault", "I", false)
  | 1 => ("RingPiecesModel", "rings", "I", true)
  | 2 => ("RingPiecesModel", "built", "I", false)
  | 3 => ("RingPiecesModel", "planned", "I", false)
  | 4 => ("RingPiecesModel", "plans", "I", false)
  | 5 => ("RingPiecesModel", "apart", "I", false)
  | 6 => ("RingPiecesModel", "look", "I", false)
  | 7 => ("RingPiecesModel", "allowed", "[Z", true)
  | 8 => ("RingPiecesModel", "kinds", "I", false)
  | 9 => ("RingPiecesModel", "taper", "[I", true)
  | 10 => ("RingPiecesModel", "stock", "[I", true)
  | 11 => ("RingPiecesModel", "lineX", "[I", true)
  | 12 => ("RingPiecesModel", "lineY", "[I", true)
  | 13 => ("RingPiecesModel", "kind", "[I", true)
  | 14 => ("RingPiecesModel", "key", "[I", true)
  | 15 => ("RingPiecesModel", "x", "[J", true)
  | 16 => ("RingPiecesModel", "y", "[J", true)
  | 17 => ("RingPiecesModel", "dx", "[J", true)
  | 18 => ("RingPiecesModel", "dy", "[J", true)
  | 19 => ("RingPiecesModel", "bestLength", "I", false)
  | 20 => ("RingPiecesModel", "bestSum", "J", false)
  | 21 => ("RingPiecesModel", "bestKind", "I", false)
  | _ => ("RingPiecesModel", "bestKey", "I", false)
def tyX4 : Nat → FieldType := fun k => match k with
  | 0 => .int
  | 1 => .int
  | 2 => .int
  | 3 => .int
  | 4 => .int
  | 5 => .int
  | 6 => .int
  | 7 => .array .boolean
  | 8 => .int
  | 9 => .array .int
  | 10 => .array .int
  | 11 => .array .int
  | 12 => .array .int
  | 13 => .array .int
  | 14 => .array .int
  | 15 => .array .long
  | 16 => .array .long
  | 17 => .array .long
  | 18 => .array .long
  | 19 => .int
  | 20 => .long
  | 21 => .int
  | _ => .int
abbrev wsX40 : List Cond := u_ws RX4 TX4 23
theorem nmX4 : ∀ a, a < 23 → ∀ b, b < 23 → a ≠ b → (TX4 a).2.1 ≠ (TX4 b).2.1 := by decide +kernel
theorem tyX4_ok : ∀ k, k < 23 → parseFieldDescriptor (TX4 k).2.2.1 = some (tyX4 k) := by decide +kernel
abbrev cX4_init : ByteArray := prog_6_method_1_code
def yX4_init : MethodName := ⟨RX4, "<init>", "(I)V"⟩
abbrev cX4_thrown : ByteArray := prog_6_method_2_code
def yX4_thrown : MethodName := ⟨RX4, "thrown", "()I"⟩
abbrev cX4_in : ByteArray := prog_6_method_3_code
def yX4_in : MethodName := ⟨RX4, "in", "(JJJ)Z"⟩
abbrev cX4_c : ByteArray := prog_6_method_4_code
def yX4_c : MethodName := ⟨RX4, "c", "(I)I"⟩
abbrev cX4_isRing : ByteArray := prog_6_method_5_code
def yX4_isRing : MethodName := ⟨RX4, "isRing", "(I)Z"⟩
abbrev cX4_isKind : ByteArray := prog_6_method_6_code
def yX4_isKind : MethodName := ⟨RX4, "isKind", "(I)Z"⟩
abbrev cX4_isThere : ByteArray := prog_6_method_7_code
def yX4_isThere : MethodName := ⟨RX4, "isThere", "(I)Z"⟩
abbrev cX4_kind : ByteArray := prog_6_method_8_code
def yX4_kind : MethodName := ⟨RX4, "kind", "(II)I"⟩
abbrev cX4_more : ByteArray := prog_6_method_9_code
def yX4_more : MethodName := ⟨RX4, "more", "(II)I"⟩
abbrev cX4_line : ByteArray := prog_6_method_10_code
def yX4_line : MethodName := ⟨RX4, "line", "(III)I"⟩
abbrev cX4_apart : ByteArray := prog_6_method_11_code
def yX4_apart : MethodName := ⟨RX4, "apart", "(I)I"⟩
abbrev cX4_allow : ByteArray := prog_6_method_12_code
def yX4_allow : MethodName := ⟨RX4, "allow", "(IZ)Z"⟩
abbrev cX4_look : ByteArray := prog_6_method_13_code
def yX4_look : MethodName := ⟨RX4, "look", "(I)I"⟩
abbrev cX4_usedOf : ByteArray := prog_6_method_14_code
def yX4_usedOf : MethodName := ⟨RX4, "usedOf", "(I)I"⟩
abbrev cX4_set : ByteArray := prog_6_method_15_code
def yX4_set : MethodName := ⟨RX4, "set", "(III)V"⟩
abbrev cX4_mayStand : ByteArray := prog_6_method_16_code
def yX4_mayStand : MethodName := ⟨RX4, "mayStand", "(IIII)Z"⟩
abbrev cX4_offOf : ByteArray := prog_6_method_17_code
def yX4_offOf : MethodName := ⟨RX4, "offOf", "(I)J"⟩
abbrev cX4_note : ByteArray := prog_6_method_18_code
def yX4_note : MethodName := ⟨RX4, "note", "(IJII)V"⟩
abbrev cX4_trySecond : ByteArray := prog_6_method_19_code
def yX4_trySecond : MethodName := ⟨RX4, "trySecond", "(IJII)V"⟩
abbrev cX4_planOne : ByteArray := prog_6_method_20_code
def yX4_planOne : MethodName := ⟨RX4, "planOne", "()Z"⟩
abbrev cX4_run : ByteArray := prog_6_method_21_code
def yX4_run : MethodName := ⟨RX4, "run", "()I"⟩
abbrev cX4_build : ByteArray := prog_6_method_22_code
def yX4_build : MethodName := ⟨RX4, "build", "(I)I"⟩
abbrev cX4_survey : ByteArray := prog_6_method_23_code
def yX4_survey : MethodName := ⟨RX4, "survey", "(III)I"⟩
abbrev cX4_replace : ByteArray := prog_6_method_24_code
def yX4_replace : MethodName := ⟨RX4, "replace", "(II)I"⟩
abbrev cX4_kindOf : ByteArray := prog_6_method_25_code
def yX4_kindOf : MethodName := ⟨RX4, "kindOf", "(I)I"⟩
abbrev cX4_turnOf : ByteArray := prog_6_method_26_code
def yX4_turnOf : MethodName := ⟨RX4, "turnOf", "(I)I"⟩
abbrev cX4_state : ByteArray := prog_6_method_27_code
def yX4_state : MethodName := ⟨RX4, "state", "(I)I"⟩
abbrev cX4_place : ByteArray := prog_6_method_28_code
def yX4_place : MethodName := ⟨RX4, "place", "(II)J"⟩
abbrev cX4_off : ByteArray := prog_6_method_29_code
def yX4_off : MethodName := ⟨RX4, "off", "(I)J"⟩
abbrev cX4_sum : ByteArray := prog_6_method_30_code
def yX4_sum : MethodName := ⟨RX4, "sum", "()J"⟩
abbrev cX4_stroke : ByteArray := prog_6_method_31_code
def yX4_stroke : MethodName := ⟨RX4, "stroke", "(II)I"⟩
abbrev cX4_left : ByteArray := prog_6_method_32_code
def yX4_left : MethodName := ⟨RX4, "left", "(I)I"⟩
abbrev cX4_list : ByteArray := prog_6_method_33_code
def yX4_list : MethodName := ⟨RX4, "list", "(II)I"⟩
abbrev cX4_count : ByteArray := prog_6_method_34_code
def yX4_count : MethodName := ⟨RX4, "count", "(I)I"⟩
def RJx00060 : String := "java/lang/ArrayIndexOutOfBoundsException"
def TJx00060 : u_T := fun k => match k with
  | 0 => ("java/lang/Throwable", "cause", "Ljava/lang/Throwable;", false)
  | 1 => ("java/lang/Throwable", "stackTrace", "[Ljava/lang/StackTraceElement;", false)
  | 2 => ("java/lang/Throwable", "suppressedExceptions", "Ljava/util/List;", false)
  | 3 => ("java/lang/Throwable", "detailMessage", "Ljava/lang/String;", false)
  | 4 => ("java/lang/Throwable", "backtrace", "Ljava/lang/Object;", false)
  | _ => ("java/lang/Throwable", "depth", "I", false)
def tyJx00060 : Nat → FieldType := fun k => match k with
  | 0 => .object "java/lang/Throwable"
  | 1 => .array (.object "java/lang/StackTraceElement")
  | 2 => .object "java/util/List"
  | 3 => .object "java/lang/String"
  | 4 => .object "java/lang/Object"
  | _ => .int
abbrev wsJx000600 : List Cond := u_ws RJx00060 TJx00060 6
theorem nmJx00060 : ∀ a, a < 6 → ∀ b, b < 6 → a ≠ b → (TJx00060 a).2.1 ≠ (TJx00060 b).2.1 := by decide +kernel
theorem tyJx00060_ok : ∀ k, k < 6 → parseFieldDescriptor (TJx00060 k).2.2.1 = some (tyJx00060 k) := by decide +kernel
abbrev cJx00060_init_a7421 : ByteArray := prog_7_method_2_code
def yJx00060_init_a7421 : MethodName := ⟨RJx00060, "<init>", "(Ljava/lang/String;)V"⟩
def RJ9 : String := "java/lang/Math"
def TJ9 : u_T := fun k => match k with
  | _ => ("", "", "", false)
def tyJ9 : Nat → FieldType := fun k => match k with
  | _ => .int
abbrev wsJ90 : List Cond := u_ws RJ9 TJ9 0
theorem nmJ9 : ∀ a, a < 0 → ∀ b, b < 0 → a ≠ b → (TJ9 a).2.1 ≠ (TJ9 b).2.1 := by decide +kernel
theorem tyJ9_ok : ∀ k, k < 0 → parseFieldDescriptor (TJ9 k).2.2.1 = some (tyJ9 k) := by decide +kernel
abbrev cJ9_floorDiv_7cf53 : ByteArray := prog_10_method_47_code
def yJ9_floorDiv_7cf53 : MethodName := ⟨RJ9, "floorDiv", "(II)I"⟩
abbrev cJ9_max_7cf53 : ByteArray := prog_10_method_65_code
def yJ9_max_7cf53 : MethodName := ⟨RJ9, "max", "(II)I"⟩
abbrev cJ9_min_7cf53 : ByteArray := prog_10_method_69_code
def yJ9_min_7cf53 : MethodName := ⟨RJ9, "min", "(II)I"⟩
def RJ0 : String := "java/lang/String"
def TJ0 : u_T := fun k => match k with
  | _ => ("", "", "", false)
def tyJ0 : Nat → FieldType := fun k => match k with
  | _ => .int
abbrev wsJ00 : List Cond := u_ws RJ0 TJ0 0
theorem nmJ0 : ∀ a, a < 0 → ∀ b, b < 0 → a ≠ b → (TJ0 a).2.1 ≠ (TJ0 b).2.1 := by decide +kernel
theorem tyJ0_ok : ∀ k, k < 0 → parseFieldDescriptor (TJ0 k).2.2.1 = some (tyJ0 k) := by decide +kernel
def RL : String := "RingPiecesLaw"
abbrev cL_cell : ByteArray := method_2_code
def yL_cell : MethodName := ⟨RL, "cell", "([II)I"⟩
abbrev cL_line : ByteArray := method_3_code
def yL_line : MethodName := ⟨RL, "line", "(LRingPieces;III[J)I"⟩
abbrev cL_survey : ByteArray := method_4_code
def yL_survey : MethodName := ⟨RL, "survey", "(LRingPieces;III[J)I"⟩
abbrev cL_replace : ByteArray := method_5_code
def yL_replace : MethodName := ⟨RL, "replace", "(LRingPieces;II[J)I"⟩
abbrev cL_place : ByteArray := method_6_code
def yL_place : MethodName := ⟨RL, "place", "(LRingPieces;II[J)I"⟩
abbrev cL_off : ByteArray := method_7_code
def yL_off : MethodName := ⟨RL, "off", "(LRingPieces;I[J)I"⟩
abbrev cL_count : ByteArray := method_8_code
def yL_count : MethodName := ⟨RL, "count", "(LRingPieces;I[J)I"⟩
abbrev cL_law : ByteArray := code
def yL_law : MethodName := ⟨RL, "law", "([I)Z"⟩
abbrev vwCl : List vw_C := [(RJx00060, TJx00060, 6), (RX0, TX0, 3), (RX1, TX1, 4), (RX2, TX2, 11), (RX3, TX3, 7), (RX4, TX4, 23)]
end
section
theorem dX0_init_0 : decode cX0_init 0 = .ok (.aload_n 0, 1) := by decide +kernel
theorem dX0_init_1 : decode cX0_init 1 = .ok (.invokespecial 3, 3) := by decide +kernel
theorem dX0_init_4 : decode cX0_init 4 = .ok (.aload_n 0, 1) := by decide +kernel
theorem dX0_init_5 : decode cX0_init 5 = .ok (.bipush 16, 2) := by decide +kernel
theorem dX0_init_7 : decode cX0_init 7 = .ok (.newarray .boolean, 2) := by decide +kernel
theorem dX0_init_9 : decode cX0_init 9 = .ok (.putfield 11, 3) := by decide +kernel
theorem dX0_init_12 : decode cX0_init 12 = .ok (.aload_n 0, 1) := by decide +kernel
theorem dX0_init_13 : decode cX0_init 13 = .ok (.bipush 16, 2) := by decide +kernel
theorem dX0_init_15 : decode cX0_init 15 = .ok (.putfield 15, 3) := by decide +kernel
theorem dX0_init_18 : decode cX0_init 18 = .ok (.aload_n 0, 1) := by decide +kernel
theorem dX0_init_19 : decode cX0_init 19 = .ok (.bipush 16, 2) := by decide +kernel
theorem dX0_init_21 : decode cX0_init 21 = .ok (.putfield 19, 3) := by decide +kernel
theorem dX0_init_24 : decode cX0_init 24 = .ok (.return_, 1) := by decide +kernel
theorem dX0_isPosition_0 : decode cX0_isPosition 0 = .ok (.iload_n 0, 1) := by decide +kernel
theorem dX0_isPosition_1 : decode cX0_isPosition 1 = .ok (.ifCond .lt 13, 3) := by decide +kernel
theorem dX0_isPosition_4 : decode cX0_isPosition 4 = .ok (.iload_n 0, 1) := by decide +kernel
theorem dX0_isPosition_5 : decode cX0_isPosition 5 = .ok (.bipush 16, 2) := by decide +kernel
theorem dX0_isPosition_7 : decode cX0_isPosition 7 = .ok (.if_icmp .ge 7, 3) := by decide +kernel
theorem dX0_isPosition_10 : decode cX0_isPosition 10 = .ok (.iconst 1, 1) := by decide +kernel
theorem dX0_isPosition_11 : decode cX0_isPosition 11 = .ok (.goto 4, 3) := by decide +kernel
theorem dX0_isPosition_14 : decode cX0_isPosition 14 = .ok (.iconst 0, 1) := by decide +kernel
theorem dX0_isPosition_15 : decode cX0_isPosition 15 = .ok (.ireturn, 1) := by decide +kernel
theorem dX0_c_0 : decode cX0_c 0 = .ok (.getstatic 22, 3) := by decide +kernel
theorem dX0_c_3 : decode cX0_c 3 = .ok (.iload_n 0, 1) := by decide +kernel
theorem dX0_c_4 : decode cX0_c 4 = .ok (.bipush 15, 2) := by decide +kernel
theorem dX0_c_6 : decode cX0_c 6 = .ok (.iand, 1) := by decide +kernel
theorem dX0_c_7 : decode cX0_c 7 = .ok (.iaload, 1) := by decide +kernel
theorem dX0_c_8 : decode cX0_c 8 = .ok (.ireturn, 1) := by decide +kernel
theorem dX0_s_0 : decode cX0_s 0 = .ok (.getstatic 22, 3) := by decide +kernel
theorem dX0_s_3 : decode cX0_s 3 = .ok (.iload_n 0, 1) := by decide +kernel
theorem dX0_s_4 : decode cX0_s 4 = .ok (.iconst 4, 1) := by decide +kernel
theorem dX0_s_5 : decode cX0_s 5 = .ok (.isub, 1) := by decide +kernel
theorem dX0_s_6 : decode cX0_s 6 = .ok (.bipush 15, 2) := by decide +kernel
theorem dX0_s_8 : decode cX0_s 8 = .ok (.iand, 1) := by decide +kernel
theorem dX0_s_9 : decode cX0_s 9 = .ok (.iaload, 1) := by decide +kernel
theorem dX0_s_10 : decode cX0_s 10 = .ok (.ireturn, 1) := by decide +kernel
theorem dX0_permit_0 : decode cX0_permit 0 = .ok (.iload_n 1, 1) := by decide +kernel
theorem dX0_permit_1 : decode cX0_permit 1 = .ok (.invokestatic 26, 3) := by decide +kernel
theorem dX0_permit_4 : decode cX0_permit 4 = .ok (.ifCond .ne 5, 3) := by decide +kernel
theorem dX0_permit_7 : decode cX0_permit 7 = .ok (.iconst 0, 1) := by decide +kernel
theorem dX0_permit_8 : decode cX0_permit 8 = .ok (.ireturn, 1) := by decide +kernel
theorem dX0_permit_9 : decode cX0_permit 9 = .ok (.aload_n 0, 1) := by decide +kernel
theorem dX0_permit_10 : decode cX0_permit 10 = .ok (.getfield 11, 3) := by decide +kernel
theorem dX0_permit_13 : decode cX0_permit 13 = .ok (.iload_n 1, 1) := by decide +kernel
theorem dX0_permit_14 : decode cX0_permit 14 = .ok (.baload, 1) := by decide +kernel
theorem dX0_permit_15 : decode cX0_permit 15 = .ok (.ifCond .ne 7, 3) := by decide +kernel
theorem dX0_permit_18 : decode cX0_permit 18 = .ok (.iconst 1, 1) := by decide +kernel
theorem dX0_permit_19 : decode cX0_permit 19 = .ok (.goto 4, 3) := by decide +kernel
theorem dX0_permit_22 : decode cX0_permit 22 = .ok (.iconst 0, 1) := by decide +kernel
theorem dX0_permit_23 : decode cX0_permit 23 = .ok (.istore_n 3, 1) := by decide +kernel
theorem dX0_permit_24 : decode cX0_permit 24 = .ok (.iload_n 2, 1) := by decide +kernel
theorem dX0_permit_25 : decode cX0_permit 25 = .ok (.iload_n 3, 1) := by decide +kernel
theorem dX0_permit_26 : decode cX0_permit 26 = .ok (.if_icmp .ne 5, 3) := by decide +kernel
theorem dX0_permit_29 : decode cX0_permit 29 = .ok (.iconst 0, 1) := by decide +kernel
theorem dX0_permit_30 : decode cX0_permit 30 = .ok (.ireturn, 1) := by decide +kernel
theorem dX0_permit_31 : decode cX0_permit 31 = .ok (.aload_n 0, 1) := by decide +kernel
theorem dX0_permit_32 : decode cX0_permit 32 = .ok (.getfield 11, 3) := by decide +kernel
theorem dX0_permit_35 : decode cX0_permit 35 = .ok (.iload_n 1, 1) := by decide +kernel
theorem dX0_permit_36 : decode cX0_permit 36 = .ok (.iload_n 2, 1) := by decide +kernel
theorem dX0_permit_37 : decode cX0_permit 37 = .ok (.ifCond .ne 7, 3) := by decide +kernel
theorem dX0_permit_40 : decode cX0_permit 40 = .ok (.iconst 1, 1) := by decide +kernel
theorem dX0_permit_41 : decode cX0_permit 41 = .ok (.goto 4, 3) := by decide +kernel
theorem dX0_permit_44 : decode cX0_permit 44 = .ok (.iconst 0, 1) := by decide +kernel
theorem dX0_permit_45 : decode cX0_permit 45 = .ok (.bastore, 1) := by decide +kernel
theorem dX0_permit_46 : decode cX0_permit 46 = .ok (.aload_n 0, 1) := by decide +kernel
theorem dX0_permit_47 : decode cX0_permit 47 = .ok (.dup, 1) := by decide +kernel
theorem dX0_permit_48 : decode cX0_permit 48 = .ok (.getfield 15, 3) := by decide +kernel
theorem dX0_permit_51 : decode cX0_permit 51 = .ok (.iload_n 2, 1) := by decide +kernel
theorem dX0_permit_52 : decode cX0_permit 52 = .ok (.ifCond .eq 7, 3) := by decide +kernel
theorem dX0_permit_55 : decode cX0_permit 55 = .ok (.iconst 1, 1) := by decide +kernel
theorem dX0_permit_56 : decode cX0_permit 56 = .ok (.goto 4, 3) := by decide +kernel
theorem dX0_permit_59 : decode cX0_permit 59 = .ok (.iconst (-1), 1) := by decide +kernel
theorem dX0_permit_60 : decode cX0_permit 60 = .ok (.iadd, 1) := by decide +kernel
theorem dX0_permit_61 : decode cX0_permit 61 = .ok (.putfield 15, 3) := by decide +kernel
theorem dX0_permit_64 : decode cX0_permit 64 = .ok (.iconst 1, 1) := by decide +kernel
theorem dX0_permit_65 : decode cX0_permit 65 = .ok (.ireturn, 1) := by decide +kernel
theorem dX0_fits_0 : decode cX0_fits 0 = .ok (.aload_n 0, 1) := by decide +kernel
theorem dX0_fits_1 : decode cX0_fits 1 = .ok (.getfield 11, 3) := by decide +kernel
theorem dX0_fits_4 : decode cX0_fits 4 = .ok (.iload_n 1, 1) := by decide +kernel
theorem dX0_fits_5 : decode cX0_fits 5 = .ok (.baload, 1) := by decide +kernel
theorem dX0_fits_6 : decode cX0_fits 6 = .ok (.ifCond .ne 23, 3) := by decide +kernel
theorem dX0_fits_9 : decode cX0_fits 9 = .ok (.iload_n 2, 1) := by decide +kernel
theorem dX0_fits_10 : decode cX0_fits 10 = .ok (.iconst (-1), 1) := by decide +kernel
theorem dX0_fits_11 : decode cX0_fits 11 = .ok (.if_icmp .eq 14, 3) := by decide +kernel
theorem dX0_fits_14 : decode cX0_fits 14 = .ok (.iload_n 1, 1) := by decide +kernel
theorem dX0_fits_15 : decode cX0_fits 15 = .ok (.iload_n 2, 1) := by decide +kernel
theorem dX0_fits_16 : decode cX0_fits 16 = .ok (.isub, 1) := by decide +kernel
theorem dX0_fits_17 : decode cX0_fits 17 = .ok (.aload_n 0, 1) := by decide +kernel
theorem dX0_fits_18 : decode cX0_fits 18 = .ok (.getfield 19, 3) := by decide +kernel
theorem dX0_fits_21 : decode cX0_fits 21 = .ok (.irem, 1) := by decide +kernel
theorem dX0_fits_22 : decode cX0_fits 22 = .ok (.ifCond .eq 7, 3) := by decide +kernel
theorem dX0_fits_25 : decode cX0_fits 25 = .ok (.iconst 1, 1) := by decide +kernel
theorem dX0_fits_26 : decode cX0_fits 26 = .ok (.goto 4, 3) := by decide +kernel
theorem dX0_fits_29 : decode cX0_fits 29 = .ok (.iconst 0, 1) := by decide +kernel
theorem dX0_fits_30 : decode cX0_fits 30 = .ok (.ireturn, 1) := by decide +kernel
theorem dX1_init_0 : decode cX1_init 0 = .ok (.aload_n 0, 1) := by decide +kernel
theorem dX1_init_1 : decode cX1_init 1 = .ok (.invokespecial 1, 3) := by decide +kernel
theorem dX1_init_4 : decode cX1_init 4 = .ok (.aload_n 0, 1) := by decide +kernel
theorem dX1_init_5 : decode cX1_init 5 = .ok (.iconst 4, 1) := by decide +kernel
theorem dX1_init_6 : decode cX1_init 6 = .ok (.newarray .int, 2) := by decide +kernel
theorem dX1_init_8 : decode cX1_init 8 = .ok (.putfield 9, 3) := by decide +kernel
theorem dX1_init_11 : decode cX1_init 11 = .ok (.aload_n 0, 1) := by decide +kernel
theorem dX1_init_12 : decode cX1_init 12 = .ok (.iconst 4, 1) := by decide +kernel
theorem dX1_init_13 : decode cX1_init 13 = .ok (.newarray .int, 2) := by decide +kernel
theorem dX1_init_15 : decode cX1_init 15 = .ok (.putfield 13, 3) := by decide +kernel
theorem dX1_init_18 : decode cX1_init 18 = .ok (.aload_n 0, 1) := by decide +kernel
theorem dX1_init_19 : decode cX1_init 19 = .ok (.iconst 4, 1) := by decide +kernel
theorem dX1_init_20 : decode cX1_init 20 = .ok (.newarray .int, 2) := by decide +kernel
theorem dX1_init_22 : decode cX1_init 22 = .ok (.putfield 16, 3) := by decide +kernel
theorem dX1_init_25 : decode cX1_init 25 = .ok (.aload_n 0, 1) := by decide +kernel
theorem dX1_init_26 : decode cX1_init 26 = .ok (.iconst 0, 1) := by decide +kernel
theorem dX1_init_27 : decode cX1_init 27 = .ok (.putfield 19, 3) := by decide +kernel
theorem dX1_init_30 : decode cX1_init 30 = .ok (.return_, 1) := by decide +kernel
theorem dX1_has_0 : decode cX1_has 0 = .ok (.iload_n 1, 1) := by decide +kernel
theorem dX1_has_1 : decode cX1_has 1 = .ok (.ifCond .lt 15, 3) := by decide +kernel
theorem dX1_has_4 : decode cX1_has 4 = .ok (.iload_n 1, 1) := by decide +kernel
theorem dX1_has_5 : decode cX1_has 5 = .ok (.aload_n 0, 1) := by decide +kernel
theorem dX1_has_6 : decode cX1_has 6 = .ok (.getfield 19, 3) := by decide +kernel
theorem dX1_has_9 : decode cX1_has 9 = .ok (.if_icmp .ge 7, 3) := by decide +kernel
theorem dX1_has_12 : decode cX1_has 12 = .ok (.iconst 1, 1) := by decide +kernel
theorem dX1_has_13 : decode cX1_has 13 = .ok (.goto 4, 3) := by decide +kernel
theorem dX1_has_16 : decode cX1_has 16 = .ok (.iconst 0, 1) := by decide +kernel
theorem dX1_has_17 : decode cX1_has 17 = .ok (.ireturn, 1) := by decide +kernel
theorem dX1_isFull_0 : decode cX1_isFull 0 = .ok (.aload_n 0, 1) := by decide +kernel
theorem dX1_isFull_1 : decode cX1_isFull 1 = .ok (.getfield 19, 3) := by decide +kernel
theorem dX1_isFull_4 : decode cX1_isFull 4 = .ok (.iconst 4, 1) := by decide +kernel
theorem dX1_isFull_5 : decode cX1_isFull 5 = .ok (.if_icmp .lt 7, 3) := by decide +kernel
theorem dX1_isFull_8 : decode cX1_isFull 8 = .ok (.iconst 1, 1) := by decide +kernel
theorem dX1_isFull_9 : decode cX1_isFull 9 = .ok (.goto 4, 3) := by decide +kernel
theorem dX1_isFull_12 : decode cX1_isFull 12 = .ok (.iconst 0, 1) := by decide +kernel
theorem dX1_isFull_13 : decode cX1_isFull 13 = .ok (.ireturn, 1) := by decide +kernel
theorem dX1_add_0 : decode cX1_add 0 = .ok (.aload_n 0, 1) := by decide +kernel
theorem dX1_add_1 : decode cX1_add 1 = .ok (.getfield 9, 3) := by decide +kernel
theorem dX1_add_4 : decode cX1_add 4 = .ok (.aload_n 0, 1) := by decide +kernel
theorem dX1_add_5 : decode cX1_add 5 = .ok (.getfield 19, 3) := by decide +kernel
theorem dX1_add_8 : decode cX1_add 8 = .ok (.iload_n 1, 1) := by decide +kernel
theorem dX1_add_9 : decode cX1_add 9 = .ok (.iastore, 1) := by decide +kernel
theorem dX1_add_10 : decode cX1_add 10 = .ok (.aload_n 0, 1) := by decide +kernel
theorem dX1_add_11 : decode cX1_add 11 = .ok (.getfield 13, 3) := by decide +kernel
theorem dX1_add_14 : decode cX1_add 14 = .ok (.aload_n 0, 1) := by decide +kernel
theorem dX1_add_15 : decode cX1_add 15 = .ok (.getfield 19, 3) := by decide +kernel
theorem dX1_add_18 : decode cX1_add 18 = .ok (.iload_n 2, 1) := by decide +kernel
theorem dX1_add_19 : decode cX1_add 19 = .ok (.iastore, 1) := by decide +kernel
theorem dX1_add_20 : decode cX1_add 20 = .ok (.aload_n 0, 1) := by decide +kernel
theorem dX1_add_21 : decode cX1_add 21 = .ok (.dup, 1) := by decide +kernel
theorem dX1_add_22 : decode cX1_add 22 = .ok (.getfield 19, 3) := by decide +kernel
theorem dX1_add_25 : decode cX1_add 25 = .ok (.iconst 1, 1) := by decide +kernel
theorem dX1_add_26 : decode cX1_add 26 = .ok (.iadd, 1) := by decide +kernel
theorem dX1_add_27 : decode cX1_add 27 = .ok (.putfield 19, 3) := by decide +kernel
theorem dX1_add_30 : decode cX1_add 30 = .ok (.aload_n 0, 1) := by decide +kernel
theorem dX1_add_31 : decode cX1_add 31 = .ok (.getfield 19, 3) := by decide +kernel
theorem dX1_add_34 : decode cX1_add 34 = .ok (.iconst 1, 1) := by decide +kernel
theorem dX1_add_35 : decode cX1_add 35 = .ok (.isub, 1) := by decide +kernel
theorem dX1_add_36 : decode cX1_add 36 = .ok (.ireturn, 1) := by decide +kernel
theorem dX1_enlarge_0 : decode cX1_enlarge 0 = .ok (.aload_n 0, 1) := by decide +kernel
theorem dX1_enlarge_1 : decode cX1_enlarge 1 = .ok (.getfield 13, 3) := by decide +kernel
theorem dX1_enlarge_4 : decode cX1_enlarge 4 = .ok (.iload_n 1, 1) := by decide +kernel
theorem dX1_enlarge_5 : decode cX1_enlarge 5 = .ok (.dup2, 1) := by decide +kernel
theorem dX1_enlarge_6 : decode cX1_enlarge 6 = .ok (.iaload, 1) := by decide +kernel
theorem dX1_enlarge_7 : decode cX1_enlarge 7 = .ok (.iload_n 2, 1) := by decide +kernel
theorem dX1_enlarge_8 : decode cX1_enlarge 8 = .ok (.iadd, 1) := by decide +kernel
theorem dX1_enlarge_9 : decode cX1_enlarge 9 = .ok (.iastore, 1) := by decide +kernel
theorem dX1_enlarge_10 : decode cX1_enlarge 10 = .ok (.aload_n 0, 1) := by decide +kernel
theorem dX1_enlarge_11 : decode cX1_enlarge 11 = .ok (.getfield 13, 3) := by decide +kernel
theorem dX1_enlarge_14 : decode cX1_enlarge 14 = .ok (.iload_n 1, 1) := by decide +kernel
theorem dX1_enlarge_15 : decode cX1_enlarge 15 = .ok (.iaload, 1) := by decide +kernel
theorem dX1_enlarge_16 : decode cX1_enlarge 16 = .ok (.ireturn, 1) := by decide +kernel
theorem dX1_unused_0 : decode cX1_unused 0 = .ok (.aload_n 0, 1) := by decide +kernel
theorem dX1_unused_1 : decode cX1_unused 1 = .ok (.getfield 13, 3) := by decide +kernel
theorem dX1_unused_4 : decode cX1_unused 4 = .ok (.iload_n 1, 1) := by decide +kernel
theorem dX1_unused_5 : decode cX1_unused 5 = .ok (.iaload, 1) := by decide +kernel
theorem dX1_unused_6 : decode cX1_unused 6 = .ok (.aload_n 0, 1) := by decide +kernel
theorem dX1_unused_7 : decode cX1_unused 7 = .ok (.getfield 16, 3) := by decide +kernel
theorem dX1_unused_10 : decode cX1_unused 10 = .ok (.iload_n 1, 1) := by decide +kernel
theorem dX1_unused_11 : decode cX1_unused 11 = .ok (.iaload, 1) := by decide +kernel
theorem dX1_unused_12 : decode cX1_unused 12 = .ok (.isub, 1) := by decide +kernel
theorem dX1_unused_13 : decode cX1_unused 13 = .ok (.ireturn, 1) := by decide +kernel
theorem dX1_take_0 : decode cX1_take 0 = .ok (.aload_n 0, 1) := by decide +kernel
theorem dX1_take_1 : decode cX1_take 1 = .ok (.getfield 16, 3) := by decide +kernel
theorem dX1_take_4 : decode cX1_take 4 = .ok (.iload_n 1, 1) := by decide +kernel
theorem dX1_take_5 : decode cX1_take 5 = .ok (.dup2, 1) := by decide +kernel
theorem dX1_take_6 : decode cX1_take 6 = .ok (.iaload, 1) := by decide +kernel
theorem dX1_take_7 : decode cX1_take 7 = .ok (.iconst 1, 1) := by decide +kernel
theorem dX1_take_8 : decode cX1_take 8 = .ok (.iadd, 1) := by decide +kernel
theorem dX1_take_9 : decode cX1_take 9 = .ok (.iastore, 1) := by decide +kernel
theorem dX1_take_10 : decode cX1_take 10 = .ok (.return_, 1) := by decide +kernel
theorem dX1_giveBack_0 : decode cX1_giveBack 0 = .ok (.aload_n 0, 1) := by decide +kernel
theorem dX1_giveBack_1 : decode cX1_giveBack 1 = .ok (.getfield 16, 3) := by decide +kernel
theorem dX1_giveBack_4 : decode cX1_giveBack 4 = .ok (.iload_n 1, 1) := by decide +kernel
theorem dX1_giveBack_5 : decode cX1_giveBack 5 = .ok (.dup2, 1) := by decide +kernel
theorem dX1_giveBack_6 : decode cX1_giveBack 6 = .ok (.iaload, 1) := by decide +kernel
theorem dX1_giveBack_7 : decode cX1_giveBack 7 = .ok (.iconst 1, 1) := by decide +kernel
theorem dX1_giveBack_8 : decode cX1_giveBack 8 = .ok (.isub, 1) := by decide +kernel
theorem dX1_giveBack_9 : decode cX1_giveBack 9 = .ok (.iastore, 1) := by decide +kernel
theorem dX1_giveBack_10 : decode cX1_giveBack 10 = .ok (.return_, 1) := by decide +kernel
theorem dX2_init_0 : decode cX2_init 0 = .ok (.aload_n 0, 1) := by decide +kernel
theorem dX2_init_1 : decode cX2_init 1 = .ok (.invokespecial 3, 3) := by decide +kernel
theorem dX2_init_4 : decode cX2_init 4 = .ok (.aload_n 0, 1) := by decide +kernel
theorem dX2_init_5 : decode cX2_init 5 = .ok (.iconst 0, 1) := by decide +kernel
theorem dX2_init_6 : decode cX2_init 6 = .ok (.putfield 9, 3) := by decide +kernel
theorem dX2_init_9 : decode cX2_init 9 = .ok (.aload_n 0, 1) := by decide +kernel
theorem dX2_init_10 : decode cX2_init 10 = .ok (.iconst 0, 1) := by decide +kernel
theorem dX2_init_11 : decode cX2_init 11 = .ok (.putfield 15, 3) := by decide +kernel
theorem dX2_init_14 : decode cX2_init 14 = .ok (.aload_n 0, 1) := by decide +kernel
theorem dX2_init_15 : decode cX2_init 15 = .ok (.iload_n 1, 1) := by decide +kernel
theorem dX2_init_16 : decode cX2_init 16 = .ok (.putfield 18, 3) := by decide +kernel
theorem dX2_init_19 : decode cX2_init 19 = .ok (.aload_n 0, 1) := by decide +kernel
theorem dX2_init_20 : decode cX2_init 20 = .ok (.iload_n 1, 1) := by decide +kernel
theorem dX2_init_21 : decode cX2_init 21 = .ok (.newarray .int, 2) := by decide +kernel
theorem dX2_init_23 : decode cX2_init 23 = .ok (.putfield 21, 3) := by decide +kernel
theorem dX2_init_26 : decode cX2_init 26 = .ok (.aload_n 0, 1) := by decide +kernel
theorem dX2_init_27 : decode cX2_init 27 = .ok (.iload_n 1, 1) := by decide +kernel
theorem dX2_init_28 : decode cX2_init 28 = .ok (.newarray .int, 2) := by decide +kernel
theorem dX2_init_30 : decode cX2_init 30 = .ok (.putfield 25, 3) := by decide +kernel
theorem dX2_init_33 : decode cX2_init 33 = .ok (.aload_n 0, 1) := by decide +kernel
theorem dX2_init_34 : decode cX2_init 34 = .ok (.iload_n 1, 1) := by decide +kernel
theorem dX2_init_35 : decode cX2_init 35 = .ok (.newarray .long, 2) := by decide +kernel
theorem dX2_init_37 : decode cX2_init 37 = .ok (.putfield 28, 3) := by decide +kernel
theorem dX2_init_40 : decode cX2_init 40 = .ok (.aload_n 0, 1) := by decide +kernel
theorem dX2_init_41 : decode cX2_init 41 = .ok (.iload_n 1, 1) := by decide +kernel
theorem dX2_init_42 : decode cX2_init 42 = .ok (.newarray .long, 2) := by decide +kernel
theorem dX2_init_44 : decode cX2_init 44 = .ok (.putfield 32, 3) := by decide +kernel
theorem dX2_init_47 : decode cX2_init 47 = .ok (.aload_n 0, 1) := by decide +kernel
theorem dX2_init_48 : decode cX2_init 48 = .ok (.iload_n 1, 1) := by decide +kernel
theorem dX2_init_49 : decode cX2_init 49 = .ok (.iconst 1, 1) := by decide +kernel
theorem dX2_init_50 : decode cX2_init 50 = .ok (.iadd, 1) := by decide +kernel
theorem dX2_init_51 : decode cX2_init 51 = .ok (.newarray .long, 2) := by decide +kernel
theorem dX2_init_53 : decode cX2_init 53 = .ok (.putfield 35, 3) := by decide +kernel
theorem dX2_init_56 : decode cX2_init 56 = .ok (.aload_n 0, 1) := by decide +kernel
theorem dX2_init_57 : decode cX2_init 57 = .ok (.iload_n 1, 1) := by decide +kernel
theorem dX2_init_58 : decode cX2_init 58 = .ok (.iconst 1, 1) := by decide +kernel
theorem dX2_init_59 : decode cX2_init 59 = .ok (.iadd, 1) := by decide +kernel
theorem dX2_init_60 : decode cX2_init 60 = .ok (.newarray .long, 2) := by decide +kernel
theorem dX2_init_62 : decode cX2_init 62 = .ok (.putfield 38, 3) := by decide +kernel
theorem dX2_init_65 : decode cX2_init 65 = .ok (.aload_n 0, 1) := by decide +kernel
theorem dX2_init_66 : decode cX2_init 66 = .ok (.iload_n 1, 1) := by decide +kernel
theorem dX2_init_67 : decode cX2_init 67 = .ok (.iconst 1, 1) := by decide +kernel
theorem dX2_init_68 : decode cX2_init 68 = .ok (.iadd, 1) := by decide +kernel
theorem dX2_init_69 : decode cX2_init 69 = .ok (.newarray .long, 2) := by decide +kernel
theorem dX2_init_71 : decode cX2_init 71 = .ok (.putfield 41, 3) := by decide +kernel
theorem dX2_init_74 : decode cX2_init 74 = .ok (.aload_n 0, 1) := by decide +kernel
theorem dX2_init_75 : decode cX2_init 75 = .ok (.iload_n 1, 1) := by decide +kernel
theorem dX2_init_76 : decode cX2_init 76 = .ok (.iconst 1, 1) := by decide +kernel
theorem dX2_init_77 : decode cX2_init 77 = .ok (.iadd, 1) := by decide +kernel
theorem dX2_init_78 : decode cX2_init 78 = .ok (.newarray .long, 2) := by decide +kernel
theorem dX2_init_80 : decode cX2_init 80 = .ok (.putfield 44, 3) := by decide +kernel
theorem dX2_init_83 : decode cX2_init 83 = .ok (.return_, 1) := by decide +kernel
theorem dX2_has_0 : decode cX2_has 0 = .ok (.iload_n 1, 1) := by decide +kernel
theorem dX2_has_1 : decode cX2_has 1 = .ok (.ifCond .lt 15, 3) := by decide +kernel
theorem dX2_has_4 : decode cX2_has 4 = .ok (.iload_n 1, 1) := by decide +kernel
theorem dX2_has_5 : decode cX2_has 5 = .ok (.aload_n 0, 1) := by decide +kernel
theorem dX2_has_6 : decode cX2_has 6 = .ok (.getfield 18, 3) := by decide +kernel
theorem dX2_has_9 : decode cX2_has 9 = .ok (.if_icmp .ge 7, 3) := by decide +kernel
theorem dX2_has_12 : decode cX2_has 12 = .ok (.iconst 1, 1) := by decide +kernel
theorem dX2_has_13 : decode cX2_has 13 = .ok (.goto 4, 3) := by decide +kernel
theorem dX2_has_16 : decode cX2_has 16 = .ok (.iconst 0, 1) := by decide +kernel
theorem dX2_has_17 : decode cX2_has 17 = .ok (.ireturn, 1) := by decide +kernel
theorem dX2_standing_0 : decode cX2_standing 0 = .ok (.aload_n 0, 1) := by decide +kernel
theorem dX2_standing_1 : decode cX2_standing 1 = .ok (.getfield 9, 3) := by decide +kernel
theorem dX2_standing_4 : decode cX2_standing 4 = .ok (.aload_n 0, 1) := by decide +kernel
theorem dX2_standing_5 : decode cX2_standing 5 = .ok (.getfield 15, 3) := by decide +kernel
theorem dX2_standing_8 : decode cX2_standing 8 = .ok (.iadd, 1) := by decide +kernel
theorem dX2_standing_9 : decode cX2_standing 9 = .ok (.ireturn, 1) := by decide +kernel
theorem dX2_stands_0 : decode cX2_stands 0 = .ok (.iload_n 1, 1) := by decide +kernel
theorem dX2_stands_1 : decode cX2_stands 1 = .ok (.ifCond .lt 15, 3) := by decide +kernel
theorem dX2_stands_4 : decode cX2_stands 4 = .ok (.iload_n 1, 1) := by decide +kernel
theorem dX2_stands_5 : decode cX2_stands 5 = .ok (.aload_n 0, 1) := by decide +kernel
theorem dX2_stands_6 : decode cX2_stands 6 = .ok (.invokevirtual 47, 3) := by decide +kernel
theorem dX2_stands_9 : decode cX2_stands 9 = .ok (.if_icmp .ge 7, 3) := by decide +kernel
theorem dX2_stands_12 : decode cX2_stands 12 = .ok (.iconst 1, 1) := by decide +kernel
theorem dX2_stands_13 : decode cX2_stands 13 = .ok (.goto 4, 3) := by decide +kernel
theorem dX2_stands_16 : decode cX2_stands 16 = .ok (.iconst 0, 1) := by decide +kernel
theorem dX2_stands_17 : decode cX2_stands 17 = .ok (.ireturn, 1) := by decide +kernel
theorem dX2_stateAt_0 : decode cX2_stateAt 0 = .ok (.iload_n 1, 1) := by decide +kernel
theorem dX2_stateAt_1 : decode cX2_stateAt 1 = .ok (.aload_n 0, 1) := by decide +kernel
theorem dX2_stateAt_2 : decode cX2_stateAt 2 = .ok (.getfield 9, 3) := by decide +kernel
theorem dX2_stateAt_5 : decode cX2_stateAt 5 = .ok (.if_icmp .ge 5, 3) := by decide +kernel
theorem dX2_stateAt_8 : decode cX2_stateAt 8 = .ok (.iconst 2, 1) := by decide +kernel
theorem dX2_stateAt_9 : decode cX2_stateAt 9 = .ok (.ireturn, 1) := by decide +kernel
theorem dX2_stateAt_10 : decode cX2_stateAt 10 = .ok (.iload_n 1, 1) := by decide +kernel
theorem dX2_stateAt_11 : decode cX2_stateAt 11 = .ok (.aload_n 0, 1) := by decide +kernel
theorem dX2_stateAt_12 : decode cX2_stateAt 12 = .ok (.invokevirtual 47, 3) := by decide +kernel
theorem dX2_stateAt_15 : decode cX2_stateAt 15 = .ok (.if_icmp .ge 7, 3) := by decide +kernel
theorem dX2_stateAt_18 : decode cX2_stateAt 18 = .ok (.iconst 1, 1) := by decide +kernel
theorem dX2_stateAt_19 : decode cX2_stateAt 19 = .ok (.goto 4, 3) := by decide +kernel
theorem dX2_stateAt_22 : decode cX2_stateAt 22 = .ok (.iconst 0, 1) := by decide +kernel
theorem dX2_stateAt_23 : decode cX2_stateAt 23 = .ok (.ireturn, 1) := by decide +kernel
theorem dX2_turnBefore_0 : decode cX2_turnBefore 0 = .ok (.iload_n 1, 1) := by decide +kernel
theorem dX2_turnBefore_1 : decode cX2_turnBefore 1 = .ok (.ifCond .le 14, 3) := by decide +kernel
theorem dX2_turnBefore_4 : decode cX2_turnBefore 4 = .ok (.aload_n 0, 1) := by decide +kernel
theorem dX2_turnBefore_5 : decode cX2_turnBefore 5 = .ok (.getfield 25, 3) := by decide +kernel
theorem dX2_turnBefore_8 : decode cX2_turnBefore 8 = .ok (.iload_n 1, 1) := by decide +kernel
theorem dX2_turnBefore_9 : decode cX2_turnBefore 9 = .ok (.iconst 1, 1) := by decide +kernel
theorem dX2_turnBefore_10 : decode cX2_turnBefore 10 = .ok (.isub, 1) := by decide +kernel
theorem dX2_turnBefore_11 : decode cX2_turnBefore 11 = .ok (.iaload, 1) := by decide +kernel
theorem dX2_turnBefore_12 : decode cX2_turnBefore 12 = .ok (.goto 4, 3) := by decide +kernel
theorem dX2_turnBefore_15 : decode cX2_turnBefore 15 = .ok (.iconst (-1), 1) := by decide +kernel
theorem dX2_turnBefore_16 : decode cX2_turnBefore 16 = .ok (.ireturn, 1) := by decide +kernel
theorem dX2_setPoint_0 : decode cX2_setPoint 0 = .ok (.aload_n 0, 1) := by decide +kernel
theorem dX2_setPoint_1 : decode cX2_setPoint 1 = .ok (.getfield 28, 3) := by decide +kernel
theorem dX2_setPoint_4 : decode cX2_setPoint 4 = .ok (.iload_n 1, 1) := by decide +kernel
theorem dX2_setPoint_5 : decode cX2_setPoint 5 = .ok (.iload_n 2, 1) := by decide +kernel
theorem dX2_setPoint_6 : decode cX2_setPoint 6 = .ok (.i2l, 1) := by decide +kernel
theorem dX2_setPoint_7 : decode cX2_setPoint 7 = .ok (.lastore, 1) := by decide +kernel
theorem dX2_setPoint_8 : decode cX2_setPoint 8 = .ok (.aload_n 0, 1) := by decide +kernel
theorem dX2_setPoint_9 : decode cX2_setPoint 9 = .ok (.getfield 32, 3) := by decide +kernel
theorem dX2_setPoint_12 : decode cX2_setPoint 12 = .ok (.iload_n 1, 1) := by decide +kernel
theorem dX2_setPoint_13 : decode cX2_setPoint 13 = .ok (.iload_n 3, 1) := by decide +kernel
theorem dX2_setPoint_14 : decode cX2_setPoint 14 = .ok (.i2l, 1) := by decide +kernel
theorem dX2_setPoint_15 : decode cX2_setPoint 15 = .ok (.lastore, 1) := by decide +kernel
theorem dX2_setPoint_16 : decode cX2_setPoint 16 = .ok (.return_, 1) := by decide +kernel
theorem dX2_lay_0 : decode cX2_lay 0 = .ok (.aload_n 0, 1) := by decide +kernel
theorem dX2_lay_1 : decode cX2_lay 1 = .ok (.getfield 21, 3) := by decide +kernel
theorem dX2_lay_4 : decode cX2_lay 4 = .ok (.iload_n 1, 1) := by decide +kernel
theorem dX2_lay_5 : decode cX2_lay 5 = .ok (.iload_n 2, 1) := by decide +kernel
theorem dX2_lay_6 : decode cX2_lay 6 = .ok (.iastore, 1) := by decide +kernel
theorem dX2_lay_7 : decode cX2_lay 7 = .ok (.aload_n 0, 1) := by decide +kernel
theorem dX2_lay_8 : decode cX2_lay 8 = .ok (.getfield 25, 3) := by decide +kernel
theorem dX2_lay_11 : decode cX2_lay 11 = .ok (.iload_n 1, 1) := by decide +kernel
theorem dX2_lay_12 : decode cX2_lay 12 = .ok (.iload 4, 2) := by decide +kernel
theorem dX2_lay_14 : decode cX2_lay 14 = .ok (.iastore, 1) := by decide +kernel
theorem dX2_lay_15 : decode cX2_lay 15 = .ok (.aload_n 0, 1) := by decide +kernel
theorem dX2_lay_16 : decode cX2_lay 16 = .ok (.getfield 41, 3) := by decide +kernel
theorem dX2_lay_19 : decode cX2_lay 19 = .ok (.iload_n 1, 1) := by decide +kernel
theorem dX2_lay_20 : decode cX2_lay 20 = .ok (.iconst 1, 1) := by decide +kernel
theorem dX2_lay_21 : decode cX2_lay 21 = .ok (.iadd, 1) := by decide +kernel
theorem dX2_lay_22 : decode cX2_lay 22 = .ok (.aload_n 0, 1) := by decide +kernel
theorem dX2_lay_23 : decode cX2_lay 23 = .ok (.getfield 41, 3) := by decide +kernel
theorem dX2_lay_26 : decode cX2_lay 26 = .ok (.iload_n 1, 1) := by decide +kernel
theorem dX2_lay_27 : decode cX2_lay 27 = .ok (.laload, 1) := by decide +kernel
theorem dX2_lay_28 : decode cX2_lay 28 = .ok (.iload_n 3, 1) := by decide +kernel
theorem dX2_lay_29 : decode cX2_lay 29 = .ok (.iload 4, 2) := by decide +kernel
theorem dX2_lay_31 : decode cX2_lay 31 = .ok (.invokestatic 51, 3) := by decide +kernel
theorem dX2_lay_34 : decode cX2_lay 34 = .ok (.imul, 1) := by decide +kernel
theorem dX2_lay_35 : decode cX2_lay 35 = .ok (.i2l, 1) := by decide +kernel
theorem dX2_lay_36 : decode cX2_lay 36 = .ok (.ladd, 1) := by decide +kernel
theorem dX2_lay_37 : decode cX2_lay 37 = .ok (.lastore, 1) := by decide +kernel
theorem dX2_lay_38 : decode cX2_lay 38 = .ok (.aload_n 0, 1) := by decide +kernel
theorem dX2_lay_39 : decode cX2_lay 39 = .ok (.getfield 44, 3) := by decide +kernel
theorem dX2_lay_42 : decode cX2_lay 42 = .ok (.iload_n 1, 1) := by decide +kernel
theorem dX2_lay_43 : decode cX2_lay 43 = .ok (.iconst 1, 1) := by decide +kernel
theorem dX2_lay_44 : decode cX2_lay 44 = .ok (.iadd, 1) := by decide +kernel
theorem dX2_lay_45 : decode cX2_lay 45 = .ok (.aload_n 0, 1) := by decide +kernel
theorem dX2_lay_46 : decode cX2_lay 46 = .ok (.getfield 44, 3) := by decide +kernel
theorem dX2_lay_49 : decode cX2_lay 49 = .ok (.iload_n 1, 1) := by decide +kernel
theorem dX2_lay_50 : decode cX2_lay 50 = .ok (.laload, 1) := by decide +kernel
theorem dX2_lay_51 : decode cX2_lay 51 = .ok (.iload_n 3, 1) := by decide +kernel
theorem dX2_lay_52 : decode cX2_lay 52 = .ok (.iload 4, 2) := by decide +kernel
theorem dX2_lay_54 : decode cX2_lay 54 = .ok (.invokestatic 57, 3) := by decide +kernel
theorem dX2_lay_57 : decode cX2_lay 57 = .ok (.imul, 1) := by decide +kernel
theorem dX2_lay_58 : decode cX2_lay 58 = .ok (.i2l, 1) := by decide +kernel
theorem dX2_lay_59 : decode cX2_lay 59 = .ok (.ladd, 1) := by decide +kernel
theorem dX2_lay_60 : decode cX2_lay 60 = .ok (.lastore, 1) := by decide +kernel
theorem dX2_lay_61 : decode cX2_lay 61 = .ok (.aload_n 0, 1) := by decide +kernel
theorem dX2_lay_62 : decode cX2_lay 62 = .ok (.getfield 35, 3) := by decide +kernel
theorem dX2_lay_65 : decode cX2_lay 65 = .ok (.iload_n 1, 1) := by decide +kernel
theorem dX2_lay_66 : decode cX2_lay 66 = .ok (.iconst 1, 1) := by decide +kernel
theorem dX2_lay_67 : decode cX2_lay 67 = .ok (.iadd, 1) := by decide +kernel
theorem dX2_lay_68 : decode cX2_lay 68 = .ok (.aload_n 0, 1) := by decide +kernel
theorem dX2_lay_69 : decode cX2_lay 69 = .ok (.getfield 35, 3) := by decide +kernel
theorem dX2_lay_72 : decode cX2_lay 72 = .ok (.iload_n 1, 1) := by decide +kernel
theorem dX2_lay_73 : decode cX2_lay 73 = .ok (.laload, 1) := by decide +kernel
theorem dX2_lay_74 : decode cX2_lay 74 = .ok (.aload_n 0, 1) := by decide +kernel
theorem dX2_lay_75 : decode cX2_lay 75 = .ok (.getfield 41, 3) := by decide +kernel
theorem dX2_lay_78 : decode cX2_lay 78 = .ok (.iload_n 1, 1) := by decide +kernel
theorem dX2_lay_79 : decode cX2_lay 79 = .ok (.laload, 1) := by decide +kernel
theorem dX2_lay_80 : decode cX2_lay 80 = .ok (.ladd, 1) := by decide +kernel
theorem dX2_lay_81 : decode cX2_lay 81 = .ok (.aload_n 0, 1) := by decide +kernel
theorem dX2_lay_82 : decode cX2_lay 82 = .ok (.getfield 41, 3) := by decide +kernel
theorem dX2_lay_85 : decode cX2_lay 85 = .ok (.iload_n 1, 1) := by decide +kernel
theorem dX2_lay_86 : decode cX2_lay 86 = .ok (.iconst 1, 1) := by decide +kernel
theorem dX2_lay_87 : decode cX2_lay 87 = .ok (.iadd, 1) := by decide +kernel
theorem dX2_lay_88 : decode cX2_lay 88 = .ok (.laload, 1) := by decide +kernel
theorem dX2_lay_89 : decode cX2_lay 89 = .ok (.ladd, 1) := by decide +kernel
theorem dX2_lay_90 : decode cX2_lay 90 = .ok (.lastore, 1) := by decide +kernel
theorem dX2_lay_91 : decode cX2_lay 91 = .ok (.aload_n 0, 1) := by decide +kernel
theorem dX2_lay_92 : decode cX2_lay 92 = .ok (.getfield 38, 3) := by decide +kernel
theorem dX2_lay_95 : decode cX2_lay 95 = .ok (.iload_n 1, 1) := by decide +kernel
theorem dX2_lay_96 : decode cX2_lay 96 = .ok (.iconst 1, 1) := by decide +kernel
theorem dX2_lay_97 : decode cX2_lay 97 = .ok (.iadd, 1) := by decide +kernel
theorem dX2_lay_98 : decode cX2_lay 98 = .ok (.aload_n 0, 1) := by decide +kernel
theorem dX2_lay_99 : decode cX2_lay 99 = .ok (.getfield 38, 3) := by decide +kernel
theorem dX2_lay_102 : decode cX2_lay 102 = .ok (.iload_n 1, 1) := by decide +kernel
theorem dX2_lay_103 : decode cX2_lay 103 = .ok (.laload, 1) := by decide +kernel
theorem dX2_lay_104 : decode cX2_lay 104 = .ok (.aload_n 0, 1) := by decide +kernel
theorem dX2_lay_105 : decode cX2_lay 105 = .ok (.getfield 44, 3) := by decide +kernel
theorem dX2_lay_108 : decode cX2_lay 108 = .ok (.iload_n 1, 1) := by decide +kernel
theorem dX2_lay_109 : decode cX2_lay 109 = .ok (.laload, 1) := by decide +kernel
theorem dX2_lay_110 : decode cX2_lay 110 = .ok (.ladd, 1) := by decide +kernel
theorem dX2_lay_111 : decode cX2_lay 111 = .ok (.aload_n 0, 1) := by decide +kernel
theorem dX2_lay_112 : decode cX2_lay 112 = .ok (.getfield 44, 3) := by decide +kernel
theorem dX2_lay_115 : decode cX2_lay 115 = .ok (.iload_n 1, 1) := by decide +kernel
theorem dX2_lay_116 : decode cX2_lay 116 = .ok (.iconst 1, 1) := by decide +kernel
theorem dX2_lay_117 : decode cX2_lay 117 = .ok (.iadd, 1) := by decide +kernel
theorem dX2_lay_118 : decode cX2_lay 118 = .ok (.laload, 1) := by decide +kernel
theorem dX2_lay_119 : decode cX2_lay 119 = .ok (.ladd, 1) := by decide +kernel
theorem dX2_lay_120 : decode cX2_lay 120 = .ok (.lastore, 1) := by decide +kernel
theorem dX2_lay_121 : decode cX2_lay 121 = .ok (.return_, 1) := by decide +kernel
theorem dX2_shiftBuilt_0 : decode cX2_shiftBuilt 0 = .ok (.iload_n 1, 1) := by decide +kernel
theorem dX2_shiftBuilt_1 : decode cX2_shiftBuilt 1 = .ok (.istore 4, 2) := by decide +kernel
theorem dX2_shiftBuilt_3 : decode cX2_shiftBuilt 3 = .ok (.iload 4, 2) := by decide +kernel
theorem dX2_shiftBuilt_5 : decode cX2_shiftBuilt 5 = .ok (.aload_n 0, 1) := by decide +kernel
theorem dX2_shiftBuilt_6 : decode cX2_shiftBuilt 6 = .ok (.getfield 9, 3) := by decide +kernel
theorem dX2_shiftBuilt_9 : decode cX2_shiftBuilt 9 = .ok (.if_icmp .ge 37, 3) := by decide +kernel
theorem dX2_shiftBuilt_12 : decode cX2_shiftBuilt 12 = .ok (.aload_n 0, 1) := by decide +kernel
theorem dX2_shiftBuilt_13 : decode cX2_shiftBuilt 13 = .ok (.getfield 35, 3) := by decide +kernel
theorem dX2_shiftBuilt_16 : decode cX2_shiftBuilt 16 = .ok (.iload 4, 2) := by decide +kernel
theorem dX2_shiftBuilt_18 : decode cX2_shiftBuilt 18 = .ok (.iconst 1, 1) := by decide +kernel
theorem dX2_shiftBuilt_19 : decode cX2_shiftBuilt 19 = .ok (.iadd, 1) := by decide +kernel
theorem dX2_shiftBuilt_20 : decode cX2_shiftBuilt 20 = .ok (.dup2, 1) := by decide +kernel
theorem dX2_shiftBuilt_21 : decode cX2_shiftBuilt 21 = .ok (.laload, 1) := by decide +kernel
theorem dX2_shiftBuilt_22 : decode cX2_shiftBuilt 22 = .ok (.iload_n 2, 1) := by decide +kernel
theorem dX2_shiftBuilt_23 : decode cX2_shiftBuilt 23 = .ok (.i2l, 1) := by decide +kernel
theorem dX2_shiftBuilt_24 : decode cX2_shiftBuilt 24 = .ok (.ladd, 1) := by decide +kernel
theorem dX2_shiftBuilt_25 : decode cX2_shiftBuilt 25 = .ok (.lastore, 1) := by decide +kernel
theorem dX2_shiftBuilt_26 : decode cX2_shiftBuilt 26 = .ok (.aload_n 0, 1) := by decide +kernel
theorem dX2_shiftBuilt_27 : decode cX2_shiftBuilt 27 = .ok (.getfield 38, 3) := by decide +kernel
theorem dX2_shiftBuilt_30 : decode cX2_shiftBuilt 30 = .ok (.iload 4, 2) := by decide +kernel
theorem dX2_shiftBuilt_32 : decode cX2_shiftBuilt 32 = .ok (.iconst 1, 1) := by decide +kernel
theorem dX2_shiftBuilt_33 : decode cX2_shiftBuilt 33 = .ok (.iadd, 1) := by decide +kernel
theorem dX2_shiftBuilt_34 : decode cX2_shiftBuilt 34 = .ok (.dup2, 1) := by decide +kernel
theorem dX2_shiftBuilt_35 : decode cX2_shiftBuilt 35 = .ok (.laload, 1) := by decide +kernel
theorem dX2_shiftBuilt_36 : decode cX2_shiftBuilt 36 = .ok (.iload_n 3, 1) := by decide +kernel
theorem dX2_shiftBuilt_37 : decode cX2_shiftBuilt 37 = .ok (.i2l, 1) := by decide +kernel
theorem dX2_shiftBuilt_38 : decode cX2_shiftBuilt 38 = .ok (.ladd, 1) := by decide +kernel
theorem dX2_shiftBuilt_39 : decode cX2_shiftBuilt 39 = .ok (.lastore, 1) := by decide +kernel
theorem dX2_shiftBuilt_40 : decode cX2_shiftBuilt 40 = .ok (.iinc 4 1, 3) := by decide +kernel
theorem dX2_shiftBuilt_43 : decode cX2_shiftBuilt 43 = .ok (.goto (-40), 3) := by decide +kernel
theorem dX2_shiftBuilt_46 : decode cX2_shiftBuilt 46 = .ok (.return_, 1) := by decide +kernel
theorem dX2_offAt_0 : decode cX2_offAt 0 = .ok (.aload_n 0, 1) := by decide +kernel
theorem dX2_offAt_1 : decode cX2_offAt 1 = .ok (.getfield 35, 3) := by decide +kernel
theorem dX2_offAt_4 : decode cX2_offAt 4 = .ok (.iload_n 1, 1) := by decide +kernel
theorem dX2_offAt_5 : decode cX2_offAt 5 = .ok (.iconst 1, 1) := by decide +kernel
theorem dX2_offAt_6 : decode cX2_offAt 6 = .ok (.iadd, 1) := by decide +kernel
theorem dX2_offAt_7 : decode cX2_offAt 7 = .ok (.laload, 1) := by decide +kernel
theorem dX2_offAt_8 : decode cX2_offAt 8 = .ok (.aload_n 0, 1) := by decide +kernel
theorem dX2_offAt_9 : decode cX2_offAt 9 = .ok (.getfield 28, 3) := by decide +kernel
theorem dX2_offAt_12 : decode cX2_offAt 12 = .ok (.iload_n 1, 1) := by decide +kernel
theorem dX2_offAt_13 : decode cX2_offAt 13 = .ok (.laload, 1) := by decide +kernel
theorem dX2_offAt_14 : decode cX2_offAt 14 = .ok (.lsub, 1) := by decide +kernel
theorem dX2_offAt_15 : decode cX2_offAt 15 = .ok (.lstore_n 2, 1) := by decide +kernel
theorem dX2_offAt_16 : decode cX2_offAt 16 = .ok (.aload_n 0, 1) := by decide +kernel
theorem dX2_offAt_17 : decode cX2_offAt 17 = .ok (.getfield 38, 3) := by decide +kernel
theorem dX2_offAt_20 : decode cX2_offAt 20 = .ok (.iload_n 1, 1) := by decide +kernel
theorem dX2_offAt_21 : decode cX2_offAt 21 = .ok (.iconst 1, 1) := by decide +kernel
theorem dX2_offAt_22 : decode cX2_offAt 22 = .ok (.iadd, 1) := by decide +kernel
theorem dX2_offAt_23 : decode cX2_offAt 23 = .ok (.laload, 1) := by decide +kernel
theorem dX2_offAt_24 : decode cX2_offAt 24 = .ok (.aload_n 0, 1) := by decide +kernel
theorem dX2_offAt_25 : decode cX2_offAt 25 = .ok (.getfield 32, 3) := by decide +kernel
theorem dX2_offAt_28 : decode cX2_offAt 28 = .ok (.iload_n 1, 1) := by decide +kernel
theorem dX2_offAt_29 : decode cX2_offAt 29 = .ok (.laload, 1) := by decide +kernel
theorem dX2_offAt_30 : decode cX2_offAt 30 = .ok (.lsub, 1) := by decide +kernel
theorem dX2_offAt_31 : decode cX2_offAt 31 = .ok (.lstore 4, 2) := by decide +kernel
theorem dX2_offAt_33 : decode cX2_offAt 33 = .ok (.lload_n 2, 1) := by decide +kernel
theorem dX2_offAt_34 : decode cX2_offAt 34 = .ok (.lload_n 2, 1) := by decide +kernel
theorem dX2_offAt_35 : decode cX2_offAt 35 = .ok (.lmul, 1) := by decide +kernel
theorem dX2_offAt_36 : decode cX2_offAt 36 = .ok (.lload 4, 2) := by decide +kernel
theorem dX2_offAt_38 : decode cX2_offAt 38 = .ok (.lload 4, 2) := by decide +kernel
theorem dX2_offAt_40 : decode cX2_offAt 40 = .ok (.lmul, 1) := by decide +kernel
theorem dX2_offAt_41 : decode cX2_offAt 41 = .ok (.ladd, 1) := by decide +kernel
theorem dX2_offAt_42 : decode cX2_offAt 42 = .ok (.lreturn, 1) := by decide +kernel
theorem dJx00060_init_a7421_0 : decode cJx00060_init_a7421 0 = .ok (.aload_n 0, 1) := by decide +kernel
theorem dJx00060_init_a7421_1 : decode cJx00060_init_a7421 1 = .ok (.aload_n 1, 1) := by decide +kernel
theorem dJx00060_init_a7421_2 : decode cJx00060_init_a7421 2 = .ok (.invokespecial 7, 3) := by decide +kernel
theorem dJx00060_init_a7421_5 : decode cJx00060_init_a7421 5 = .ok (.return_, 1) := by decide +kernel
theorem dJ9_floorDiv_7cf53_0 : decode cJ9_floorDiv_7cf53 0 = .ok (.iload_n 0, 1) := by decide +kernel
theorem dJ9_floorDiv_7cf53_1 : decode cJ9_floorDiv_7cf53 1 = .ok (.iload_n 1, 1) := by decide +kernel
theorem dJ9_floorDiv_7cf53_2 : decode cJ9_floorDiv_7cf53 2 = .ok (.idiv, 1) := by decide +kernel
theorem dJ9_floorDiv_7cf53_3 : decode cJ9_floorDiv_7cf53 3 = .ok (.istore_n 2, 1) := by decide +kernel
theorem dJ9_floorDiv_7cf53_4 : decode cJ9_floorDiv_7cf53 4 = .ok (.iload_n 0, 1) := by decide +kernel
theorem dJ9_floorDiv_7cf53_5 : decode cJ9_floorDiv_7cf53 5 = .ok (.iload_n 1, 1) := by decide +kernel
theorem dJ9_floorDiv_7cf53_6 : decode cJ9_floorDiv_7cf53 6 = .ok (.ixor, 1) := by decide +kernel
theorem dJ9_floorDiv_7cf53_7 : decode cJ9_floorDiv_7cf53 7 = .ok (.ifCond .ge 14, 3) := by decide +kernel
theorem dJ9_floorDiv_7cf53_10 : decode cJ9_floorDiv_7cf53 10 = .ok (.iload_n 2, 1) := by decide +kernel
theorem dJ9_floorDiv_7cf53_11 : decode cJ9_floorDiv_7cf53 11 = .ok (.iload_n 1, 1) := by decide +kernel
theorem dJ9_floorDiv_7cf53_12 : decode cJ9_floorDiv_7cf53 12 = .ok (.imul, 1) := by decide +kernel
theorem dJ9_floorDiv_7cf53_13 : decode cJ9_floorDiv_7cf53 13 = .ok (.iload_n 0, 1) := by decide +kernel
theorem dJ9_floorDiv_7cf53_14 : decode cJ9_floorDiv_7cf53 14 = .ok (.if_icmp .eq 7, 3) := by decide +kernel
theorem dJ9_floorDiv_7cf53_17 : decode cJ9_floorDiv_7cf53 17 = .ok (.iload_n 2, 1) := by decide +kernel
theorem dJ9_floorDiv_7cf53_18 : decode cJ9_floorDiv_7cf53 18 = .ok (.iconst 1, 1) := by decide +kernel
theorem dJ9_floorDiv_7cf53_19 : decode cJ9_floorDiv_7cf53 19 = .ok (.isub, 1) := by decide +kernel
theorem dJ9_floorDiv_7cf53_20 : decode cJ9_floorDiv_7cf53 20 = .ok (.ireturn, 1) := by decide +kernel
theorem dJ9_floorDiv_7cf53_21 : decode cJ9_floorDiv_7cf53 21 = .ok (.iload_n 2, 1) := by decide +kernel
theorem dJ9_floorDiv_7cf53_22 : decode cJ9_floorDiv_7cf53 22 = .ok (.ireturn, 1) := by decide +kernel
theorem dJ9_max_7cf53_0 : decode cJ9_max_7cf53 0 = .ok (.iload_n 0, 1) := by decide +kernel
theorem dJ9_max_7cf53_1 : decode cJ9_max_7cf53 1 = .ok (.iload_n 1, 1) := by decide +kernel
theorem dJ9_max_7cf53_2 : decode cJ9_max_7cf53 2 = .ok (.if_icmp .lt 7, 3) := by decide +kernel
theorem dJ9_max_7cf53_5 : decode cJ9_max_7cf53 5 = .ok (.iload_n 0, 1) := by decide +kernel
theorem dJ9_max_7cf53_6 : decode cJ9_max_7cf53 6 = .ok (.goto 4, 3) := by decide +kernel
theorem dJ9_max_7cf53_9 : decode cJ9_max_7cf53 9 = .ok (.iload_n 1, 1) := by decide +kernel
theorem dJ9_max_7cf53_10 : decode cJ9_max_7cf53 10 = .ok (.ireturn, 1) := by decide +kernel
theorem dJ9_min_7cf53_0 : decode cJ9_min_7cf53 0 = .ok (.iload_n 0, 1) := by decide +kernel
theorem dJ9_min_7cf53_1 : decode cJ9_min_7cf53 1 = .ok (.iload_n 1, 1) := by decide +kernel
theorem dJ9_min_7cf53_2 : decode cJ9_min_7cf53 2 = .ok (.if_icmp .gt 7, 3) := by decide +kernel
theorem dJ9_min_7cf53_5 : decode cJ9_min_7cf53 5 = .ok (.iload_n 0, 1) := by decide +kernel
theorem dJ9_min_7cf53_6 : decode cJ9_min_7cf53 6 = .ok (.goto 4, 3) := by decide +kernel
theorem dJ9_min_7cf53_9 : decode cJ9_min_7cf53 9 = .ok (.iload_n 1, 1) := by decide +kernel
theorem dJ9_min_7cf53_10 : decode cJ9_min_7cf53 10 = .ok (.ireturn, 1) := by decide +kernel
end
section
theorem dX3_init_0 : decode cX3_init 0 = .ok (.aload_n 0, 1) := by decide +kernel
theorem dX3_init_1 : decode cX3_init 1 = .ok (.invokespecial 1, 3) := by decide +kernel
theorem dX3_init_4 : decode cX3_init 4 = .ok (.aload_n 0, 1) := by decide +kernel
theorem dX3_init_5 : decode cX3_init 5 = .ok (.new 7, 3) := by decide +kernel
theorem dX3_init_8 : decode cX3_init 8 = .ok (.dup, 1) := by decide +kernel
theorem dX3_init_9 : decode cX3_init 9 = .ok (.invokespecial 9, 3) := by decide +kernel
theorem dX3_init_12 : decode cX3_init 12 = .ok (.putfield 10, 3) := by decide +kernel
theorem dX3_init_15 : decode cX3_init 15 = .ok (.aload_n 0, 1) := by decide +kernel
theorem dX3_init_16 : decode cX3_init 16 = .ok (.new 16, 3) := by decide +kernel
theorem dX3_init_19 : decode cX3_init 19 = .ok (.dup, 1) := by decide +kernel
theorem dX3_init_20 : decode cX3_init 20 = .ok (.invokespecial 18, 3) := by decide +kernel
theorem dX3_init_23 : decode cX3_init 23 = .ok (.putfield 19, 3) := by decide +kernel
theorem dX3_init_26 : decode cX3_init 26 = .ok (.aload_n 0, 1) := by decide +kernel
theorem dX3_init_27 : decode cX3_init 27 = .ok (.new 23, 3) := by decide +kernel
theorem dX3_init_30 : decode cX3_init 30 = .ok (.dup, 1) := by decide +kernel
theorem dX3_init_31 : decode cX3_init 31 = .ok (.iconst 1, 1) := by decide +kernel
theorem dX3_init_32 : decode cX3_init 32 = .ok (.bipush 24, 2) := by decide +kernel
theorem dX3_init_34 : decode cX3_init 34 = .ok (.iload_n 1, 1) := by decide +kernel
theorem dX3_init_35 : decode cX3_init 35 = .ok (.invokestatic 25, 3) := by decide +kernel
theorem dX3_init_38 : decode cX3_init 38 = .ok (.invokestatic 31, 3) := by decide +kernel
theorem dX3_init_41 : decode cX3_init 41 = .ok (.invokespecial 34, 3) := by decide +kernel
theorem dX3_init_44 : decode cX3_init 44 = .ok (.putfield 37, 3) := by decide +kernel
theorem dX3_init_47 : decode cX3_init 47 = .ok (.aload_n 0, 1) := by decide +kernel
theorem dX3_init_48 : decode cX3_init 48 = .ok (.iconst 1, 1) := by decide +kernel
theorem dX3_init_49 : decode cX3_init 49 = .ok (.putfield 41, 3) := by decide +kernel
theorem dX3_init_52 : decode cX3_init 52 = .ok (.aload_n 0, 1) := by decide +kernel
theorem dX3_init_53 : decode cX3_init 53 = .ok (.iconst 0, 1) := by decide +kernel
theorem dX3_init_54 : decode cX3_init 54 = .ok (.putfield 45, 3) := by decide +kernel
theorem dX3_init_57 : decode cX3_init 57 = .ok (.aload_n 0, 1) := by decide +kernel
theorem dX3_init_58 : decode cX3_init 58 = .ok (.iconst (-1), 1) := by decide +kernel
theorem dX3_init_59 : decode cX3_init 59 = .ok (.putfield 48, 3) := by decide +kernel
theorem dX3_init_62 : decode cX3_init 62 = .ok (.aload_n 0, 1) := by decide +kernel
theorem dX3_init_63 : decode cX3_init 63 = .ok (.iconst (-1), 1) := by decide +kernel
theorem dX3_init_64 : decode cX3_init 64 = .ok (.putfield 51, 3) := by decide +kernel
theorem dX3_init_67 : decode cX3_init 67 = .ok (.return_, 1) := by decide +kernel
theorem dX3_kind_0 : decode cX3_kind 0 = .ok (.iload_n 1, 1) := by decide +kernel
theorem dX3_kind_1 : decode cX3_kind 1 = .ok (.iconst 0, 1) := by decide +kernel
theorem dX3_kind_2 : decode cX3_kind 2 = .ok (.sipush 200, 3) := by decide +kernel
theorem dX3_kind_5 : decode cX3_kind 5 = .ok (.invokestatic 54, 3) := by decide +kernel
theorem dX3_kind_8 : decode cX3_kind 8 = .ok (.ifCond .eq 13, 3) := by decide +kernel
theorem dX3_kind_11 : decode cX3_kind 11 = .ok (.iload_n 2, 1) := by decide +kernel
theorem dX3_kind_12 : decode cX3_kind 12 = .ok (.iconst 0, 1) := by decide +kernel
theorem dX3_kind_13 : decode cX3_kind 13 = .ok (.bipush 99, 2) := by decide +kernel
theorem dX3_kind_15 : decode cX3_kind 15 = .ok (.invokestatic 54, 3) := by decide +kernel
theorem dX3_kind_18 : decode cX3_kind 18 = .ok (.ifCond .ne 6, 3) := by decide +kernel
theorem dX3_kind_21 : decode cX3_kind 21 = .ok (.bipush (-2), 2) := by decide +kernel
theorem dX3_kind_23 : decode cX3_kind 23 = .ok (.ireturn, 1) := by decide +kernel
theorem dX3_kind_24 : decode cX3_kind 24 = .ok (.aload_n 0, 1) := by decide +kernel
theorem dX3_kind_25 : decode cX3_kind 25 = .ok (.getfield 10, 3) := by decide +kernel
theorem dX3_kind_28 : decode cX3_kind 28 = .ok (.invokevirtual 58, 3) := by decide +kernel
theorem dX3_kind_31 : decode cX3_kind 31 = .ok (.ifCond .eq 8, 3) := by decide +kernel
theorem dX3_kind_34 : decode cX3_kind 34 = .ok (.bipush (-4), 2) := by decide +kernel
theorem dX3_kind_36 : decode cX3_kind 36 = .ok (.goto 12, 3) := by decide +kernel
theorem dX3_kind_39 : decode cX3_kind 39 = .ok (.aload_n 0, 1) := by decide +kernel
theorem dX3_kind_40 : decode cX3_kind 40 = .ok (.getfield 10, 3) := by decide +kernel
theorem dX3_kind_43 : decode cX3_kind 43 = .ok (.iload_n 1, 1) := by decide +kernel
theorem dX3_kind_44 : decode cX3_kind 44 = .ok (.iload_n 2, 1) := by decide +kernel
theorem dX3_kind_45 : decode cX3_kind 45 = .ok (.invokevirtual 62, 3) := by decide +kernel
theorem dX3_kind_48 : decode cX3_kind 48 = .ok (.ireturn, 1) := by decide +kernel
theorem dX3_more_0 : decode cX3_more 0 = .ok (.aload_n 0, 1) := by decide +kernel
theorem dX3_more_1 : decode cX3_more 1 = .ok (.getfield 10, 3) := by decide +kernel
theorem dX3_more_4 : decode cX3_more 4 = .ok (.iload_n 1, 1) := by decide +kernel
theorem dX3_more_5 : decode cX3_more 5 = .ok (.invokevirtual 65, 3) := by decide +kernel
theorem dX3_more_8 : decode cX3_more 8 = .ok (.ifCond .ne 5, 3) := by decide +kernel
theorem dX3_more_11 : decode cX3_more 11 = .ok (.iconst (-1), 1) := by decide +kernel
theorem dX3_more_12 : decode cX3_more 12 = .ok (.ireturn, 1) := by decide +kernel
theorem dX3_more_13 : decode cX3_more 13 = .ok (.iload_n 2, 1) := by decide +kernel
theorem dX3_more_14 : decode cX3_more 14 = .ok (.iconst 1, 1) := by decide +kernel
theorem dX3_more_15 : decode cX3_more 15 = .ok (.bipush 99, 2) := by decide +kernel
theorem dX3_more_17 : decode cX3_more 17 = .ok (.invokestatic 54, 3) := by decide +kernel
theorem dX3_more_20 : decode cX3_more 20 = .ok (.ifCond .eq 15, 3) := by decide +kernel
theorem dX3_more_23 : decode cX3_more 23 = .ok (.aload_n 0, 1) := by decide +kernel
theorem dX3_more_24 : decode cX3_more 24 = .ok (.getfield 10, 3) := by decide +kernel
theorem dX3_more_27 : decode cX3_more 27 = .ok (.iload_n 1, 1) := by decide +kernel
theorem dX3_more_28 : decode cX3_more 28 = .ok (.iload_n 2, 1) := by decide +kernel
theorem dX3_more_29 : decode cX3_more 29 = .ok (.invokevirtual 69, 3) := by decide +kernel
theorem dX3_more_32 : decode cX3_more 32 = .ok (.goto 5, 3) := by decide +kernel
theorem dX3_more_35 : decode cX3_more 35 = .ok (.bipush (-2), 2) := by decide +kernel
theorem dX3_more_37 : decode cX3_more 37 = .ok (.ireturn, 1) := by decide +kernel
theorem dX3_line_0 : decode cX3_line 0 = .ok (.aload_n 0, 1) := by decide +kernel
theorem dX3_line_1 : decode cX3_line 1 = .ok (.iload_n 1, 1) := by decide +kernel
theorem dX3_line_2 : decode cX3_line 2 = .ok (.invokevirtual 72, 3) := by decide +kernel
theorem dX3_line_5 : decode cX3_line 5 = .ok (.iload_n 2, 1) := by decide +kernel
theorem dX3_line_6 : decode cX3_line 6 = .ok (.ldc 75, 2) := by decide +kernel
theorem dX3_line_8 : decode cX3_line 8 = .ok (.ldc 76, 2) := by decide +kernel
theorem dX3_line_10 : decode cX3_line 10 = .ok (.invokestatic 54, 3) := by decide +kernel
theorem dX3_line_13 : decode cX3_line 13 = .ok (.ifCond .eq 14, 3) := by decide +kernel
theorem dX3_line_16 : decode cX3_line 16 = .ok (.iload_n 3, 1) := by decide +kernel
theorem dX3_line_17 : decode cX3_line 17 = .ok (.ldc 75, 2) := by decide +kernel
theorem dX3_line_19 : decode cX3_line 19 = .ok (.ldc 76, 2) := by decide +kernel
theorem dX3_line_21 : decode cX3_line 21 = .ok (.invokestatic 54, 3) := by decide +kernel
theorem dX3_line_24 : decode cX3_line 24 = .ok (.ifCond .ne 6, 3) := by decide +kernel
theorem dX3_line_27 : decode cX3_line 27 = .ok (.bipush (-2), 2) := by decide +kernel
theorem dX3_line_29 : decode cX3_line 29 = .ok (.ireturn, 1) := by decide +kernel
theorem dX3_line_30 : decode cX3_line 30 = .ok (.aload_n 0, 1) := by decide +kernel
theorem dX3_line_31 : decode cX3_line 31 = .ok (.getfield 37, 3) := by decide +kernel
theorem dX3_line_34 : decode cX3_line 34 = .ok (.iload_n 1, 1) := by decide +kernel
theorem dX3_line_35 : decode cX3_line 35 = .ok (.invokevirtual 77, 3) := by decide +kernel
theorem dX3_line_38 : decode cX3_line 38 = .ok (.iconst 2, 1) := by decide +kernel
theorem dX3_line_39 : decode cX3_line 39 = .ok (.if_icmp .ne 6, 3) := by decide +kernel
theorem dX3_line_42 : decode cX3_line 42 = .ok (.bipush (-3), 2) := by decide +kernel
theorem dX3_line_44 : decode cX3_line 44 = .ok (.ireturn, 1) := by decide +kernel
theorem dX3_line_45 : decode cX3_line 45 = .ok (.aload_n 0, 1) := by decide +kernel
theorem dX3_line_46 : decode cX3_line 46 = .ok (.getfield 37, 3) := by decide +kernel
theorem dX3_line_49 : decode cX3_line 49 = .ok (.iload_n 1, 1) := by decide +kernel
theorem dX3_line_50 : decode cX3_line 50 = .ok (.iload_n 2, 1) := by decide +kernel
theorem dX3_line_51 : decode cX3_line 51 = .ok (.iload_n 3, 1) := by decide +kernel
theorem dX3_line_52 : decode cX3_line 52 = .ok (.invokevirtual 81, 3) := by decide +kernel
theorem dX3_line_55 : decode cX3_line 55 = .ok (.iconst 1, 1) := by decide +kernel
theorem dX3_line_56 : decode cX3_line 56 = .ok (.ireturn, 1) := by decide +kernel
theorem dX3_apart_0 : decode cX3_apart 0 = .ok (.iload_n 1, 1) := by decide +kernel
theorem dX3_apart_1 : decode cX3_apart 1 = .ok (.iconst 1, 1) := by decide +kernel
theorem dX3_apart_2 : decode cX3_apart 2 = .ok (.bipush 16, 2) := by decide +kernel
theorem dX3_apart_4 : decode cX3_apart 4 = .ok (.invokestatic 54, 3) := by decide +kernel
theorem dX3_apart_7 : decode cX3_apart 7 = .ok (.ifCond .ne 6, 3) := by decide +kernel
theorem dX3_apart_10 : decode cX3_apart 10 = .ok (.bipush (-2), 2) := by decide +kernel
theorem dX3_apart_12 : decode cX3_apart 12 = .ok (.ireturn, 1) := by decide +kernel
theorem dX3_apart_13 : decode cX3_apart 13 = .ok (.aload_n 0, 1) := by decide +kernel
theorem dX3_apart_14 : decode cX3_apart 14 = .ok (.getfield 19, 3) := by decide +kernel
theorem dX3_apart_17 : decode cX3_apart 17 = .ok (.iload_n 1, 1) := by decide +kernel
theorem dX3_apart_18 : decode cX3_apart 18 = .ok (.putfield 85, 3) := by decide +kernel
theorem dX3_apart_21 : decode cX3_apart 21 = .ok (.iconst 1, 1) := by decide +kernel
theorem dX3_apart_22 : decode cX3_apart 22 = .ok (.ireturn, 1) := by decide +kernel
theorem dX3_allow_0 : decode cX3_allow 0 = .ok (.aload_n 0, 1) := by decide +kernel
theorem dX3_allow_1 : decode cX3_allow 1 = .ok (.getfield 19, 3) := by decide +kernel
theorem dX3_allow_4 : decode cX3_allow 4 = .ok (.iload_n 1, 1) := by decide +kernel
theorem dX3_allow_5 : decode cX3_allow 5 = .ok (.iload_n 2, 1) := by decide +kernel
theorem dX3_allow_6 : decode cX3_allow 6 = .ok (.invokevirtual 88, 3) := by decide +kernel
theorem dX3_allow_9 : decode cX3_allow 9 = .ok (.ireturn, 1) := by decide +kernel
theorem dX3_look_0 : decode cX3_look 0 = .ok (.iload_n 1, 1) := by decide +kernel
theorem dX3_look_1 : decode cX3_look 1 = .ok (.iconst 1, 1) := by decide +kernel
theorem dX3_look_2 : decode cX3_look 2 = .ok (.iconst 2, 1) := by decide +kernel
theorem dX3_look_3 : decode cX3_look 3 = .ok (.invokestatic 54, 3) := by decide +kernel
theorem dX3_look_6 : decode cX3_look 6 = .ok (.ifCond .ne 6, 3) := by decide +kernel
theorem dX3_look_9 : decode cX3_look 9 = .ok (.bipush (-2), 2) := by decide +kernel
theorem dX3_look_11 : decode cX3_look 11 = .ok (.ireturn, 1) := by decide +kernel
theorem dX3_look_12 : decode cX3_look 12 = .ok (.aload_n 0, 1) := by decide +kernel
theorem dX3_look_13 : decode cX3_look 13 = .ok (.iload_n 1, 1) := by decide +kernel
theorem dX3_look_14 : decode cX3_look 14 = .ok (.putfield 41, 3) := by decide +kernel
theorem dX3_look_17 : decode cX3_look 17 = .ok (.iconst 1, 1) := by decide +kernel
theorem dX3_look_18 : decode cX3_look 18 = .ok (.ireturn, 1) := by decide +kernel
theorem dX3_run_0 : decode cX3_run 0 = .ok (.aload_n 0, 1) := by decide +kernel
theorem dX3_run_1 : decode cX3_run 1 = .ok (.dup, 1) := by decide +kernel
theorem dX3_run_2 : decode cX3_run 2 = .ok (.getfield 45, 3) := by decide +kernel
theorem dX3_run_5 : decode cX3_run 5 = .ok (.iconst 1, 1) := by decide +kernel
theorem dX3_run_6 : decode cX3_run 6 = .ok (.iadd, 1) := by decide +kernel
theorem dX3_run_7 : decode cX3_run 7 = .ok (.putfield 45, 3) := by decide +kernel
theorem dX3_run_10 : decode cX3_run 10 = .ok (.aload_n 0, 1) := by decide +kernel
theorem dX3_run_11 : decode cX3_run 11 = .ok (.invokevirtual 92, 3) := by decide +kernel
theorem dX3_run_14 : decode cX3_run 14 = .ok (.iconst 1, 1) := by decide +kernel
theorem dX3_run_15 : decode cX3_run 15 = .ok (.istore_n 1, 1) := by decide +kernel
theorem dX3_run_16 : decode cX3_run 16 = .ok (.aload_n 0, 1) := by decide +kernel
theorem dX3_run_17 : decode cX3_run 17 = .ok (.getfield 37, 3) := by decide +kernel
theorem dX3_run_20 : decode cX3_run 20 = .ok (.getfield 95, 3) := by decide +kernel
theorem dX3_run_23 : decode cX3_run 23 = .ok (.istore_n 2, 1) := by decide +kernel
theorem dX3_run_24 : decode cX3_run 24 = .ok (.iload_n 1, 1) := by decide +kernel
theorem dX3_run_25 : decode cX3_run 25 = .ok (.ifCond .eq 26, 3) := by decide +kernel
theorem dX3_run_28 : decode cX3_run 28 = .ok (.iload_n 2, 1) := by decide +kernel
theorem dX3_run_29 : decode cX3_run 29 = .ok (.aload_n 0, 1) := by decide +kernel
theorem dX3_run_30 : decode cX3_run 30 = .ok (.getfield 37, 3) := by decide +kernel
theorem dX3_run_33 : decode cX3_run 33 = .ok (.getfield 98, 3) := by decide +kernel
theorem dX3_run_36 : decode cX3_run 36 = .ok (.if_icmp .ge 15, 3) := by decide +kernel
theorem dX3_run_39 : decode cX3_run 39 = .ok (.aload_n 0, 1) := by decide +kernel
theorem dX3_run_40 : decode cX3_run 40 = .ok (.iload_n 2, 1) := by decide +kernel
theorem dX3_run_41 : decode cX3_run 41 = .ok (.invokevirtual 101, 3) := by decide +kernel
theorem dX3_run_44 : decode cX3_run 44 = .ok (.istore_n 1, 1) := by decide +kernel
theorem dX3_run_45 : decode cX3_run 45 = .ok (.iinc 2 1, 3) := by decide +kernel
theorem dX3_run_48 : decode cX3_run 48 = .ok (.goto (-24), 3) := by decide +kernel
theorem dX3_run_51 : decode cX3_run 51 = .ok (.aload_n 0, 1) := by decide +kernel
theorem dX3_run_52 : decode cX3_run 52 = .ok (.getfield 37, 3) := by decide +kernel
theorem dX3_run_55 : decode cX3_run 55 = .ok (.getfield 104, 3) := by decide +kernel
theorem dX3_run_58 : decode cX3_run 58 = .ok (.ireturn, 1) := by decide +kernel
theorem dX3_build_0 : decode cX3_build 0 = .ok (.iload_n 1, 1) := by decide +kernel
theorem dX3_build_1 : decode cX3_build 1 = .ok (.iconst 1, 1) := by decide +kernel
theorem dX3_build_2 : decode cX3_build 2 = .ok (.if_icmp .ge 6, 3) := by decide +kernel
theorem dX3_build_5 : decode cX3_build 5 = .ok (.bipush (-2), 2) := by decide +kernel
theorem dX3_build_7 : decode cX3_build 7 = .ok (.ireturn, 1) := by decide +kernel
theorem dX3_build_8 : decode cX3_build 8 = .ok (.iload_n 1, 1) := by decide +kernel
theorem dX3_build_9 : decode cX3_build 9 = .ok (.aload_n 0, 1) := by decide +kernel
theorem dX3_build_10 : decode cX3_build 10 = .ok (.getfield 37, 3) := by decide +kernel
theorem dX3_build_13 : decode cX3_build 13 = .ok (.getfield 104, 3) := by decide +kernel
theorem dX3_build_16 : decode cX3_build 16 = .ok (.if_icmp .le 6, 3) := by decide +kernel
theorem dX3_build_19 : decode cX3_build 19 = .ok (.bipush (-3), 2) := by decide +kernel
theorem dX3_build_21 : decode cX3_build 21 = .ok (.ireturn, 1) := by decide +kernel
theorem dX3_build_22 : decode cX3_build 22 = .ok (.aload_n 0, 1) := by decide +kernel
theorem dX3_build_23 : decode cX3_build 23 = .ok (.getfield 37, 3) := by decide +kernel
theorem dX3_build_26 : decode cX3_build 26 = .ok (.dup, 1) := by decide +kernel
theorem dX3_build_27 : decode cX3_build 27 = .ok (.getfield 104, 3) := by decide +kernel
theorem dX3_build_30 : decode cX3_build 30 = .ok (.iload_n 1, 1) := by decide +kernel
theorem dX3_build_31 : decode cX3_build 31 = .ok (.isub, 1) := by decide +kernel
theorem dX3_build_32 : decode cX3_build 32 = .ok (.putfield 104, 3) := by decide +kernel
theorem dX3_build_35 : decode cX3_build 35 = .ok (.aload_n 0, 1) := by decide +kernel
theorem dX3_build_36 : decode cX3_build 36 = .ok (.getfield 37, 3) := by decide +kernel
theorem dX3_build_39 : decode cX3_build 39 = .ok (.dup, 1) := by decide +kernel
theorem dX3_build_40 : decode cX3_build 40 = .ok (.getfield 95, 3) := by decide +kernel
theorem dX3_build_43 : decode cX3_build 43 = .ok (.iload_n 1, 1) := by decide +kernel
theorem dX3_build_44 : decode cX3_build 44 = .ok (.iadd, 1) := by decide +kernel
theorem dX3_build_45 : decode cX3_build 45 = .ok (.putfield 95, 3) := by decide +kernel
theorem dX3_build_48 : decode cX3_build 48 = .ok (.aload_n 0, 1) := by decide +kernel
theorem dX3_build_49 : decode cX3_build 49 = .ok (.getfield 37, 3) := by decide +kernel
theorem dX3_build_52 : decode cX3_build 52 = .ok (.getfield 95, 3) := by decide +kernel
theorem dX3_build_55 : decode cX3_build 55 = .ok (.ireturn, 1) := by decide +kernel
theorem dX3_survey_0 : decode cX3_survey 0 = .ok (.aload_n 0, 1) := by decide +kernel
theorem dX3_survey_1 : decode cX3_survey 1 = .ok (.iload_n 1, 1) := by decide +kernel
theorem dX3_survey_2 : decode cX3_survey 2 = .ok (.invokevirtual 72, 3) := by decide +kernel
theorem dX3_survey_5 : decode cX3_survey 5 = .ok (.iload_n 2, 1) := by decide +kernel
theorem dX3_survey_6 : decode cX3_survey 6 = .ok (.ldc 107, 2) := by decide +kernel
theorem dX3_survey_8 : decode cX3_survey 8 = .ok (.ldc 108, 2) := by decide +kernel
theorem dX3_survey_10 : decode cX3_survey 10 = .ok (.invokestatic 54, 3) := by decide +kernel
theorem dX3_survey_13 : decode cX3_survey 13 = .ok (.ifCond .eq 14, 3) := by decide +kernel
theorem dX3_survey_16 : decode cX3_survey 16 = .ok (.iload_n 3, 1) := by decide +kernel
theorem dX3_survey_17 : decode cX3_survey 17 = .ok (.ldc 107, 2) := by decide +kernel
theorem dX3_survey_19 : decode cX3_survey 19 = .ok (.ldc 108, 2) := by decide +kernel
theorem dX3_survey_21 : decode cX3_survey 21 = .ok (.invokestatic 54, 3) := by decide +kernel
theorem dX3_survey_24 : decode cX3_survey 24 = .ok (.ifCond .ne 6, 3) := by decide +kernel
theorem dX3_survey_27 : decode cX3_survey 27 = .ok (.bipush (-2), 2) := by decide +kernel
theorem dX3_survey_29 : decode cX3_survey 29 = .ok (.ireturn, 1) := by decide +kernel
theorem dX3_survey_30 : decode cX3_survey 30 = .ok (.aload_n 0, 1) := by decide +kernel
theorem dX3_survey_31 : decode cX3_survey 31 = .ok (.getfield 37, 3) := by decide +kernel
theorem dX3_survey_34 : decode cX3_survey 34 = .ok (.iload_n 1, 1) := by decide +kernel
theorem dX3_survey_35 : decode cX3_survey 35 = .ok (.invokevirtual 77, 3) := by decide +kernel
theorem dX3_survey_38 : decode cX3_survey 38 = .ok (.iconst 2, 1) := by decide +kernel
theorem dX3_survey_39 : decode cX3_survey 39 = .ok (.if_icmp .eq 6, 3) := by decide +kernel
theorem dX3_survey_42 : decode cX3_survey 42 = .ok (.bipush (-3), 2) := by decide +kernel
theorem dX3_survey_44 : decode cX3_survey 44 = .ok (.ireturn, 1) := by decide +kernel
theorem dX3_survey_45 : decode cX3_survey 45 = .ok (.aload_n 0, 1) := by decide +kernel
theorem dX3_survey_46 : decode cX3_survey 46 = .ok (.invokevirtual 92, 3) := by decide +kernel
theorem dX3_survey_49 : decode cX3_survey 49 = .ok (.aload_n 0, 1) := by decide +kernel
theorem dX3_survey_50 : decode cX3_survey 50 = .ok (.getfield 37, 3) := by decide +kernel
theorem dX3_survey_53 : decode cX3_survey 53 = .ok (.iload_n 1, 1) := by decide +kernel
theorem dX3_survey_54 : decode cX3_survey 54 = .ok (.iload_n 2, 1) := by decide +kernel
theorem dX3_survey_55 : decode cX3_survey 55 = .ok (.iload_n 3, 1) := by decide +kernel
theorem dX3_survey_56 : decode cX3_survey 56 = .ok (.invokevirtual 109, 3) := by decide +kernel
theorem dX3_survey_59 : decode cX3_survey 59 = .ok (.aload_n 0, 1) := by decide +kernel
theorem dX3_survey_60 : decode cX3_survey 60 = .ok (.getfield 37, 3) := by decide +kernel
theorem dX3_survey_63 : decode cX3_survey 63 = .ok (.getfield 95, 3) := by decide +kernel
theorem dX3_survey_66 : decode cX3_survey 66 = .ok (.iload_n 1, 1) := by decide +kernel
theorem dX3_survey_67 : decode cX3_survey 67 = .ok (.isub, 1) := by decide +kernel
theorem dX3_survey_68 : decode cX3_survey 68 = .ok (.ireturn, 1) := by decide +kernel
theorem dX3_replace_0 : decode cX3_replace 0 = .ok (.aload_n 0, 1) := by decide +kernel
theorem dX3_replace_1 : decode cX3_replace 1 = .ok (.iload_n 1, 1) := by decide +kernel
theorem dX3_replace_2 : decode cX3_replace 2 = .ok (.invokevirtual 72, 3) := by decide +kernel
theorem dX3_replace_5 : decode cX3_replace 5 = .ok (.aload_n 0, 1) := by decide +kernel
theorem dX3_replace_6 : decode cX3_replace 6 = .ok (.getfield 10, 3) := by decide +kernel
theorem dX3_replace_9 : decode cX3_replace 9 = .ok (.iload_n 2, 1) := by decide +kernel
theorem dX3_replace_10 : decode cX3_replace 10 = .ok (.invokevirtual 65, 3) := by decide +kernel
theorem dX3_replace_13 : decode cX3_replace 13 = .ok (.ifCond .ne 5, 3) := by decide +kernel
theorem dX3_replace_16 : decode cX3_replace 16 = .ok (.iconst (-1), 1) := by decide +kernel
theorem dX3_replace_17 : decode cX3_replace 17 = .ok (.ireturn, 1) := by decide +kernel
theorem dX3_replace_18 : decode cX3_replace 18 = .ok (.aload_n 0, 1) := by decide +kernel
theorem dX3_replace_19 : decode cX3_replace 19 = .ok (.getfield 37, 3) := by decide +kernel
theorem dX3_replace_22 : decode cX3_replace 22 = .ok (.iload_n 1, 1) := by decide +kernel
theorem dX3_replace_23 : decode cX3_replace 23 = .ok (.invokevirtual 77, 3) := by decide +kernel
theorem dX3_replace_26 : decode cX3_replace 26 = .ok (.iconst 1, 1) := by decide +kernel
theorem dX3_replace_27 : decode cX3_replace 27 = .ok (.if_icmp .ne 28, 3) := by decide +kernel
theorem dX3_replace_30 : decode cX3_replace 30 = .ok (.aload_n 0, 1) := by decide +kernel
theorem dX3_replace_31 : decode cX3_replace 31 = .ok (.getfield 37, 3) := by decide +kernel
theorem dX3_replace_34 : decode cX3_replace 34 = .ok (.getfield 112, 3) := by decide +kernel
theorem dX3_replace_37 : decode cX3_replace 37 = .ok (.iload_n 1, 1) := by decide +kernel
theorem dX3_replace_38 : decode cX3_replace 38 = .ok (.iaload, 1) := by decide +kernel
theorem dX3_replace_39 : decode cX3_replace 39 = .ok (.iload_n 2, 1) := by decide +kernel
theorem dX3_replace_40 : decode cX3_replace 40 = .ok (.if_icmp .eq 15, 3) := by decide +kernel
theorem dX3_replace_43 : decode cX3_replace 43 = .ok (.aload_n 0, 1) := by decide +kernel
theorem dX3_replace_44 : decode cX3_replace 44 = .ok (.getfield 10, 3) := by decide +kernel
theorem dX3_replace_47 : decode cX3_replace 47 = .ok (.iload_n 2, 1) := by decide +kernel
theorem dX3_replace_48 : decode cX3_replace 48 = .ok (.invokevirtual 116, 3) := by decide +kernel
theorem dX3_replace_51 : decode cX3_replace 51 = .ok (.iconst 1, 1) := by decide +kernel
theorem dX3_replace_52 : decode cX3_replace 52 = .ok (.if_icmp .ge 6, 3) := by decide +kernel
theorem dX3_replace_55 : decode cX3_replace 55 = .ok (.bipush (-3), 2) := by decide +kernel
theorem dX3_replace_57 : decode cX3_replace 57 = .ok (.ireturn, 1) := by decide +kernel
theorem dX3_replace_58 : decode cX3_replace 58 = .ok (.aload_n 0, 1) := by decide +kernel
theorem dX3_replace_59 : decode cX3_replace 59 = .ok (.getfield 10, 3) := by decide +kernel
theorem dX3_replace_62 : decode cX3_replace 62 = .ok (.aload_n 0, 1) := by decide +kernel
theorem dX3_replace_63 : decode cX3_replace 63 = .ok (.getfield 37, 3) := by decide +kernel
theorem dX3_replace_66 : decode cX3_replace 66 = .ok (.getfield 112, 3) := by decide +kernel
theorem dX3_replace_69 : decode cX3_replace 69 = .ok (.iload_n 1, 1) := by decide +kernel
theorem dX3_replace_70 : decode cX3_replace 70 = .ok (.iaload, 1) := by decide +kernel
theorem dX3_replace_71 : decode cX3_replace 71 = .ok (.invokevirtual 119, 3) := by decide +kernel
theorem dX3_replace_74 : decode cX3_replace 74 = .ok (.aload_n 0, 1) := by decide +kernel
theorem dX3_replace_75 : decode cX3_replace 75 = .ok (.getfield 10, 3) := by decide +kernel
theorem dX3_replace_78 : decode cX3_replace 78 = .ok (.iload_n 2, 1) := by decide +kernel
theorem dX3_replace_79 : decode cX3_replace 79 = .ok (.invokevirtual 122, 3) := by decide +kernel
theorem dX3_replace_82 : decode cX3_replace 82 = .ok (.aload_n 0, 1) := by decide +kernel
theorem dX3_replace_83 : decode cX3_replace 83 = .ok (.getfield 37, 3) := by decide +kernel
theorem dX3_replace_86 : decode cX3_replace 86 = .ok (.getfield 112, 3) := by decide +kernel
theorem dX3_replace_89 : decode cX3_replace 89 = .ok (.iload_n 1, 1) := by decide +kernel
theorem dX3_replace_90 : decode cX3_replace 90 = .ok (.iload_n 2, 1) := by decide +kernel
theorem dX3_replace_91 : decode cX3_replace 91 = .ok (.iastore, 1) := by decide +kernel
theorem dX3_replace_92 : decode cX3_replace 92 = .ok (.aload_n 0, 1) := by decide +kernel
theorem dX3_replace_93 : decode cX3_replace 93 = .ok (.iload_n 1, 1) := by decide +kernel
theorem dX3_replace_94 : decode cX3_replace 94 = .ok (.invokevirtual 125, 3) := by decide +kernel
theorem dX3_replace_97 : decode cX3_replace 97 = .ok (.iconst 1, 1) := by decide +kernel
theorem dX3_replace_98 : decode cX3_replace 98 = .ok (.ireturn, 1) := by decide +kernel
theorem dX3_kindOf_0 : decode cX3_kindOf 0 = .ok (.aload_n 0, 1) := by decide +kernel
theorem dX3_kindOf_1 : decode cX3_kindOf 1 = .ok (.getfield 37, 3) := by decide +kernel
theorem dX3_kindOf_4 : decode cX3_kindOf 4 = .ok (.iload_n 1, 1) := by decide +kernel
theorem dX3_kindOf_5 : decode cX3_kindOf 5 = .ok (.invokevirtual 128, 3) := by decide +kernel
theorem dX3_kindOf_8 : decode cX3_kindOf 8 = .ok (.ifCond .eq 15, 3) := by decide +kernel
theorem dX3_kindOf_11 : decode cX3_kindOf 11 = .ok (.aload_n 0, 1) := by decide +kernel
theorem dX3_kindOf_12 : decode cX3_kindOf 12 = .ok (.getfield 37, 3) := by decide +kernel
theorem dX3_kindOf_15 : decode cX3_kindOf 15 = .ok (.getfield 112, 3) := by decide +kernel
theorem dX3_kindOf_18 : decode cX3_kindOf 18 = .ok (.iload_n 1, 1) := by decide +kernel
theorem dX3_kindOf_19 : decode cX3_kindOf 19 = .ok (.iaload, 1) := by decide +kernel
theorem dX3_kindOf_20 : decode cX3_kindOf 20 = .ok (.goto 4, 3) := by decide +kernel
theorem dX3_kindOf_23 : decode cX3_kindOf 23 = .ok (.iconst (-1), 1) := by decide +kernel
theorem dX3_kindOf_24 : decode cX3_kindOf 24 = .ok (.ireturn, 1) := by decide +kernel
theorem dX3_turnOf_0 : decode cX3_turnOf 0 = .ok (.aload_n 0, 1) := by decide +kernel
theorem dX3_turnOf_1 : decode cX3_turnOf 1 = .ok (.getfield 37, 3) := by decide +kernel
theorem dX3_turnOf_4 : decode cX3_turnOf 4 = .ok (.iload_n 1, 1) := by decide +kernel
theorem dX3_turnOf_5 : decode cX3_turnOf 5 = .ok (.invokevirtual 128, 3) := by decide +kernel
theorem dX3_turnOf_8 : decode cX3_turnOf 8 = .ok (.ifCond .eq 15, 3) := by decide +kernel
theorem dX3_turnOf_11 : decode cX3_turnOf 11 = .ok (.aload_n 0, 1) := by decide +kernel
theorem dX3_turnOf_12 : decode cX3_turnOf 12 = .ok (.getfield 37, 3) := by decide +kernel
theorem dX3_turnOf_15 : decode cX3_turnOf 15 = .ok (.getfield 131, 3) := by decide +kernel
theorem dX3_turnOf_18 : decode cX3_turnOf 18 = .ok (.iload_n 1, 1) := by decide +kernel
theorem dX3_turnOf_19 : decode cX3_turnOf 19 = .ok (.iaload, 1) := by decide +kernel
theorem dX3_turnOf_20 : decode cX3_turnOf 20 = .ok (.goto 4, 3) := by decide +kernel
theorem dX3_turnOf_23 : decode cX3_turnOf 23 = .ok (.iconst (-1), 1) := by decide +kernel
theorem dX3_turnOf_24 : decode cX3_turnOf 24 = .ok (.ireturn, 1) := by decide +kernel
theorem dX3_state_0 : decode cX3_state 0 = .ok (.aload_n 0, 1) := by decide +kernel
theorem dX3_state_1 : decode cX3_state 1 = .ok (.getfield 37, 3) := by decide +kernel
theorem dX3_state_4 : decode cX3_state 4 = .ok (.iload_n 1, 1) := by decide +kernel
theorem dX3_state_5 : decode cX3_state 5 = .ok (.invokevirtual 134, 3) := by decide +kernel
theorem dX3_state_8 : decode cX3_state 8 = .ok (.ifCond .eq 14, 3) := by decide +kernel
theorem dX3_state_11 : decode cX3_state 11 = .ok (.aload_n 0, 1) := by decide +kernel
theorem dX3_state_12 : decode cX3_state 12 = .ok (.getfield 37, 3) := by decide +kernel
theorem dX3_state_15 : decode cX3_state 15 = .ok (.iload_n 1, 1) := by decide +kernel
theorem dX3_state_16 : decode cX3_state 16 = .ok (.invokevirtual 77, 3) := by decide +kernel
theorem dX3_state_19 : decode cX3_state 19 = .ok (.goto 4, 3) := by decide +kernel
theorem dX3_state_22 : decode cX3_state 22 = .ok (.iconst (-1), 1) := by decide +kernel
theorem dX3_state_23 : decode cX3_state 23 = .ok (.ireturn, 1) := by decide +kernel
theorem dX3_place_0 : decode cX3_place 0 = .ok (.aload_n 0, 1) := by decide +kernel
theorem dX3_place_1 : decode cX3_place 1 = .ok (.iload_n 1, 1) := by decide +kernel
theorem dX3_place_2 : decode cX3_place 2 = .ok (.invokevirtual 135, 3) := by decide +kernel
theorem dX3_place_5 : decode cX3_place 5 = .ok (.iload_n 2, 1) := by decide +kernel
theorem dX3_place_6 : decode cX3_place 6 = .ok (.tableswitch 78 0 3 #[30, 42, 54, 66], 30) := by decide +kernel
theorem dX3_place_36 : decode cX3_place 36 = .ok (.aload_n 0, 1) := by decide +kernel
theorem dX3_place_37 : decode cX3_place 37 = .ok (.getfield 37, 3) := by decide +kernel
theorem dX3_place_40 : decode cX3_place 40 = .ok (.getfield 138, 3) := by decide +kernel
theorem dX3_place_43 : decode cX3_place 43 = .ok (.iload_n 1, 1) := by decide +kernel
theorem dX3_place_44 : decode cX3_place 44 = .ok (.iconst 1, 1) := by decide +kernel
theorem dX3_place_45 : decode cX3_place 45 = .ok (.iadd, 1) := by decide +kernel
theorem dX3_place_46 : decode cX3_place 46 = .ok (.laload, 1) := by decide +kernel
theorem dX3_place_47 : decode cX3_place 47 = .ok (.lreturn, 1) := by decide +kernel
theorem dX3_place_48 : decode cX3_place 48 = .ok (.aload_n 0, 1) := by decide +kernel
theorem dX3_place_49 : decode cX3_place 49 = .ok (.getfield 37, 3) := by decide +kernel
theorem dX3_place_52 : decode cX3_place 52 = .ok (.getfield 142, 3) := by decide +kernel
theorem dX3_place_55 : decode cX3_place 55 = .ok (.iload_n 1, 1) := by decide +kernel
theorem dX3_place_56 : decode cX3_place 56 = .ok (.iconst 1, 1) := by decide +kernel
theorem dX3_place_57 : decode cX3_place 57 = .ok (.iadd, 1) := by decide +kernel
theorem dX3_place_58 : decode cX3_place 58 = .ok (.laload, 1) := by decide +kernel
theorem dX3_place_59 : decode cX3_place 59 = .ok (.lreturn, 1) := by decide +kernel
theorem dX3_place_60 : decode cX3_place 60 = .ok (.aload_n 0, 1) := by decide +kernel
theorem dX3_place_61 : decode cX3_place 61 = .ok (.getfield 37, 3) := by decide +kernel
theorem dX3_place_64 : decode cX3_place 64 = .ok (.getfield 145, 3) := by decide +kernel
theorem dX3_place_67 : decode cX3_place 67 = .ok (.iload_n 1, 1) := by decide +kernel
theorem dX3_place_68 : decode cX3_place 68 = .ok (.iconst 1, 1) := by decide +kernel
theorem dX3_place_69 : decode cX3_place 69 = .ok (.iadd, 1) := by decide +kernel
theorem dX3_place_70 : decode cX3_place 70 = .ok (.laload, 1) := by decide +kernel
theorem dX3_place_71 : decode cX3_place 71 = .ok (.lreturn, 1) := by decide +kernel
theorem dX3_place_72 : decode cX3_place 72 = .ok (.aload_n 0, 1) := by decide +kernel
theorem dX3_place_73 : decode cX3_place 73 = .ok (.getfield 37, 3) := by decide +kernel
theorem dX3_place_76 : decode cX3_place 76 = .ok (.getfield 148, 3) := by decide +kernel
theorem dX3_place_79 : decode cX3_place 79 = .ok (.iload_n 1, 1) := by decide +kernel
theorem dX3_place_80 : decode cX3_place 80 = .ok (.iconst 1, 1) := by decide +kernel
theorem dX3_place_81 : decode cX3_place 81 = .ok (.iadd, 1) := by decide +kernel
theorem dX3_place_82 : decode cX3_place 82 = .ok (.laload, 1) := by decide +kernel
theorem dX3_place_83 : decode cX3_place 83 = .ok (.lreturn, 1) := by decide +kernel
theorem dX3_place_84 : decode cX3_place 84 = .ok (.new 151, 3) := by decide +kernel
theorem dX3_place_87 : decode cX3_place 87 = .ok (.dup, 1) := by decide +kernel
theorem dX3_place_88 : decode cX3_place 88 = .ok (.ldc 153, 2) := by decide +kernel
theorem dX3_place_90 : decode cX3_place 90 = .ok (.invokespecial 155, 3) := by decide +kernel
theorem dX3_place_93 : decode cX3_place 93 = .ok (.athrow, 1) := by decide +kernel
theorem dX3_off_0 : decode cX3_off 0 = .ok (.aload_n 0, 1) := by decide +kernel
theorem dX3_off_1 : decode cX3_off 1 = .ok (.iload_n 1, 1) := by decide +kernel
theorem dX3_off_2 : decode cX3_off 2 = .ok (.invokevirtual 135, 3) := by decide +kernel
theorem dX3_off_5 : decode cX3_off 5 = .ok (.aload_n 0, 1) := by decide +kernel
theorem dX3_off_6 : decode cX3_off 6 = .ok (.getfield 37, 3) := by decide +kernel
theorem dX3_off_9 : decode cX3_off 9 = .ok (.iload_n 1, 1) := by decide +kernel
theorem dX3_off_10 : decode cX3_off 10 = .ok (.invokevirtual 158, 3) := by decide +kernel
theorem dX3_off_13 : decode cX3_off 13 = .ok (.lreturn, 1) := by decide +kernel
theorem dX3_sum_0 : decode cX3_sum 0 = .ok (.lconst 0, 1) := by decide +kernel
theorem dX3_sum_1 : decode cX3_sum 1 = .ok (.lstore_n 1, 1) := by decide +kernel
theorem dX3_sum_2 : decode cX3_sum 2 = .ok (.iconst 0, 1) := by decide +kernel
theorem dX3_sum_3 : decode cX3_sum 3 = .ok (.istore_n 3, 1) := by decide +kernel
theorem dX3_sum_4 : decode cX3_sum 4 = .ok (.iload_n 3, 1) := by decide +kernel
theorem dX3_sum_5 : decode cX3_sum 5 = .ok (.aload_n 0, 1) := by decide +kernel
theorem dX3_sum_6 : decode cX3_sum 6 = .ok (.getfield 37, 3) := by decide +kernel
theorem dX3_sum_9 : decode cX3_sum 9 = .ok (.invokevirtual 162, 3) := by decide +kernel
theorem dX3_sum_12 : decode cX3_sum 12 = .ok (.if_icmp .ge 20, 3) := by decide +kernel
theorem dX3_sum_15 : decode cX3_sum 15 = .ok (.lload_n 1, 1) := by decide +kernel
theorem dX3_sum_16 : decode cX3_sum 16 = .ok (.aload_n 0, 1) := by decide +kernel
theorem dX3_sum_17 : decode cX3_sum 17 = .ok (.getfield 37, 3) := by decide +kernel
theorem dX3_sum_20 : decode cX3_sum 20 = .ok (.iload_n 3, 1) := by decide +kernel
theorem dX3_sum_21 : decode cX3_sum 21 = .ok (.invokevirtual 158, 3) := by decide +kernel
theorem dX3_sum_24 : decode cX3_sum 24 = .ok (.ladd, 1) := by decide +kernel
theorem dX3_sum_25 : decode cX3_sum 25 = .ok (.lstore_n 1, 1) := by decide +kernel
theorem dX3_sum_26 : decode cX3_sum 26 = .ok (.iinc 3 1, 3) := by decide +kernel
theorem dX3_sum_29 : decode cX3_sum 29 = .ok (.goto (-25), 3) := by decide +kernel
theorem dX3_sum_32 : decode cX3_sum 32 = .ok (.lload_n 1, 1) := by decide +kernel
theorem dX3_sum_33 : decode cX3_sum 33 = .ok (.lreturn, 1) := by decide +kernel
theorem dX3_stroke_0 : decode cX3_stroke 0 = .ok (.aload_n 0, 1) := by decide +kernel
theorem dX3_stroke_1 : decode cX3_stroke 1 = .ok (.getfield 37, 3) := by decide +kernel
theorem dX3_stroke_4 : decode cX3_stroke 4 = .ok (.iload_n 1, 1) := by decide +kernel
theorem dX3_stroke_5 : decode cX3_stroke 5 = .ok (.invokevirtual 128, 3) := by decide +kernel
theorem dX3_stroke_8 : decode cX3_stroke 8 = .ok (.ifCond .eq 10, 3) := by decide +kernel
theorem dX3_stroke_11 : decode cX3_stroke 11 = .ok (.iload_n 2, 1) := by decide +kernel
theorem dX3_stroke_12 : decode cX3_stroke 12 = .ok (.invokestatic 166, 3) := by decide +kernel
theorem dX3_stroke_15 : decode cX3_stroke 15 = .ok (.ifCond .ne 5, 3) := by decide +kernel
theorem dX3_stroke_18 : decode cX3_stroke 18 = .ok (.iconst 0, 1) := by decide +kernel
theorem dX3_stroke_19 : decode cX3_stroke 19 = .ok (.ireturn, 1) := by decide +kernel
theorem dX3_stroke_20 : decode cX3_stroke 20 = .ok (.aload_n 0, 1) := by decide +kernel
theorem dX3_stroke_21 : decode cX3_stroke 21 = .ok (.getfield 10, 3) := by decide +kernel
theorem dX3_stroke_24 : decode cX3_stroke 24 = .ok (.getfield 169, 3) := by decide +kernel
theorem dX3_stroke_27 : decode cX3_stroke 27 = .ok (.aload_n 0, 1) := by decide +kernel
theorem dX3_stroke_28 : decode cX3_stroke 28 = .ok (.getfield 37, 3) := by decide +kernel
theorem dX3_stroke_31 : decode cX3_stroke 31 = .ok (.getfield 112, 3) := by decide +kernel
theorem dX3_stroke_34 : decode cX3_stroke 34 = .ok (.iload_n 1, 1) := by decide +kernel
theorem dX3_stroke_35 : decode cX3_stroke 35 = .ok (.iaload, 1) := by decide +kernel
theorem dX3_stroke_36 : decode cX3_stroke 36 = .ok (.iaload, 1) := by decide +kernel
theorem dX3_stroke_37 : decode cX3_stroke 37 = .ok (.istore_n 3, 1) := by decide +kernel
theorem dX3_stroke_38 : decode cX3_stroke 38 = .ok (.iload_n 3, 1) := by decide +kernel
theorem dX3_stroke_39 : decode cX3_stroke 39 = .ok (.iload_n 2, 1) := by decide +kernel
theorem dX3_stroke_40 : decode cX3_stroke 40 = .ok (.aload_n 0, 1) := by decide +kernel
theorem dX3_stroke_41 : decode cX3_stroke 41 = .ok (.getfield 37, 3) := by decide +kernel
theorem dX3_stroke_44 : decode cX3_stroke 44 = .ok (.getfield 131, 3) := by decide +kernel
theorem dX3_stroke_47 : decode cX3_stroke 47 = .ok (.iload_n 1, 1) := by decide +kernel
theorem dX3_stroke_48 : decode cX3_stroke 48 = .ok (.iaload, 1) := by decide +kernel
theorem dX3_stroke_49 : decode cX3_stroke 49 = .ok (.isub, 1) := by decide +kernel
theorem dX3_stroke_50 : decode cX3_stroke 50 = .ok (.invokestatic 172, 3) := by decide +kernel
theorem dX3_stroke_53 : decode cX3_stroke 53 = .ok (.imul, 1) := by decide +kernel
theorem dX3_stroke_54 : decode cX3_stroke 54 = .ok (.bipush 64, 2) := by decide +kernel
theorem dX3_stroke_56 : decode cX3_stroke 56 = .ok (.invokestatic 175, 3) := by decide +kernel
theorem dX3_stroke_59 : decode cX3_stroke 59 = .ok (.ireturn, 1) := by decide +kernel
theorem dX3_left_0 : decode cX3_left 0 = .ok (.aload_n 0, 1) := by decide +kernel
theorem dX3_left_1 : decode cX3_left 1 = .ok (.getfield 10, 3) := by decide +kernel
theorem dX3_left_4 : decode cX3_left 4 = .ok (.iload_n 1, 1) := by decide +kernel
theorem dX3_left_5 : decode cX3_left 5 = .ok (.invokevirtual 65, 3) := by decide +kernel
theorem dX3_left_8 : decode cX3_left 8 = .ok (.ifCond .eq 14, 3) := by decide +kernel
theorem dX3_left_11 : decode cX3_left 11 = .ok (.aload_n 0, 1) := by decide +kernel
theorem dX3_left_12 : decode cX3_left 12 = .ok (.getfield 10, 3) := by decide +kernel
theorem dX3_left_15 : decode cX3_left 15 = .ok (.iload_n 1, 1) := by decide +kernel
theorem dX3_left_16 : decode cX3_left 16 = .ok (.invokevirtual 116, 3) := by decide +kernel
theorem dX3_left_19 : decode cX3_left 19 = .ok (.goto 4, 3) := by decide +kernel
theorem dX3_left_22 : decode cX3_left 22 = .ok (.iconst (-1), 1) := by decide +kernel
theorem dX3_left_23 : decode cX3_left 23 = .ok (.ireturn, 1) := by decide +kernel
theorem dX3_list_0 : decode cX3_list 0 = .ok (.iconst 0, 1) := by decide +kernel
theorem dX3_list_1 : decode cX3_list 1 = .ok (.istore_n 3, 1) := by decide +kernel
theorem dX3_list_2 : decode cX3_list 2 = .ok (.iconst 0, 1) := by decide +kernel
theorem dX3_list_3 : decode cX3_list 3 = .ok (.istore 4, 2) := by decide +kernel
theorem dX3_list_5 : decode cX3_list 5 = .ok (.iload 4, 2) := by decide +kernel
theorem dX3_list_7 : decode cX3_list 7 = .ok (.aload_n 0, 1) := by decide +kernel
theorem dX3_list_8 : decode cX3_list 8 = .ok (.getfield 37, 3) := by decide +kernel
theorem dX3_list_11 : decode cX3_list 11 = .ok (.invokevirtual 162, 3) := by decide +kernel
theorem dX3_list_14 : decode cX3_list 14 = .ok (.if_icmp .ge 34, 3) := by decide +kernel
theorem dX3_list_17 : decode cX3_list 17 = .ok (.aload_n 0, 1) := by decide +kernel
theorem dX3_list_18 : decode cX3_list 18 = .ok (.getfield 37, 3) := by decide +kernel
theorem dX3_list_21 : decode cX3_list 21 = .ok (.getfield 112, 3) := by decide +kernel
theorem dX3_list_24 : decode cX3_list 24 = .ok (.iload 4, 2) := by decide +kernel
theorem dX3_list_26 : decode cX3_list 26 = .ok (.iaload, 1) := by decide +kernel
theorem dX3_list_27 : decode cX3_list 27 = .ok (.iload_n 1, 1) := by decide +kernel
theorem dX3_list_28 : decode cX3_list 28 = .ok (.if_icmp .ne 14, 3) := by decide +kernel
theorem dX3_list_31 : decode cX3_list 31 = .ok (.iload_n 3, 1) := by decide +kernel
theorem dX3_list_32 : decode cX3_list 32 = .ok (.iload_n 2, 1) := by decide +kernel
theorem dX3_list_33 : decode cX3_list 33 = .ok (.if_icmp .ne 6, 3) := by decide +kernel
theorem dX3_list_36 : decode cX3_list 36 = .ok (.iload 4, 2) := by decide +kernel
theorem dX3_list_38 : decode cX3_list 38 = .ok (.ireturn, 1) := by decide +kernel
theorem dX3_list_39 : decode cX3_list 39 = .ok (.iinc 3 1, 3) := by decide +kernel
theorem dX3_list_42 : decode cX3_list 42 = .ok (.iinc 4 1, 3) := by decide +kernel
theorem dX3_list_45 : decode cX3_list 45 = .ok (.goto (-40), 3) := by decide +kernel
theorem dX3_list_48 : decode cX3_list 48 = .ok (.iconst (-1), 1) := by decide +kernel
theorem dX3_list_49 : decode cX3_list 49 = .ok (.ireturn, 1) := by decide +kernel
theorem dX3_count_0 : decode cX3_count 0 = .ok (.iload_n 1, 1) := by decide +kernel
theorem dX3_count_1 : decode cX3_count 1 = .ok (.tableswitch 105 0 7 #[47, 55, 63, 71, 79, 87, 92, 100], 47) := by decide +kernel
theorem dX3_count_48 : decode cX3_count 48 = .ok (.aload_n 0, 1) := by decide +kernel
theorem dX3_count_49 : decode cX3_count 49 = .ok (.getfield 37, 3) := by decide +kernel
theorem dX3_count_52 : decode cX3_count 52 = .ok (.getfield 98, 3) := by decide +kernel
theorem dX3_count_55 : decode cX3_count 55 = .ok (.ireturn, 1) := by decide +kernel
theorem dX3_count_56 : decode cX3_count 56 = .ok (.aload_n 0, 1) := by decide +kernel
theorem dX3_count_57 : decode cX3_count 57 = .ok (.getfield 37, 3) := by decide +kernel
theorem dX3_count_60 : decode cX3_count 60 = .ok (.getfield 95, 3) := by decide +kernel
theorem dX3_count_63 : decode cX3_count 63 = .ok (.ireturn, 1) := by decide +kernel
theorem dX3_count_64 : decode cX3_count 64 = .ok (.aload_n 0, 1) := by decide +kernel
theorem dX3_count_65 : decode cX3_count 65 = .ok (.getfield 37, 3) := by decide +kernel
theorem dX3_count_68 : decode cX3_count 68 = .ok (.getfield 104, 3) := by decide +kernel
theorem dX3_count_71 : decode cX3_count 71 = .ok (.ireturn, 1) := by decide +kernel
theorem dX3_count_72 : decode cX3_count 72 = .ok (.aload_n 0, 1) := by decide +kernel
theorem dX3_count_73 : decode cX3_count 73 = .ok (.getfield 10, 3) := by decide +kernel
theorem dX3_count_76 : decode cX3_count 76 = .ok (.getfield 178, 3) := by decide +kernel
theorem dX3_count_79 : decode cX3_count 79 = .ok (.ireturn, 1) := by decide +kernel
theorem dX3_count_80 : decode cX3_count 80 = .ok (.aload_n 0, 1) := by decide +kernel
theorem dX3_count_81 : decode cX3_count 81 = .ok (.getfield 19, 3) := by decide +kernel
theorem dX3_count_84 : decode cX3_count 84 = .ok (.getfield 85, 3) := by decide +kernel
theorem dX3_count_87 : decode cX3_count 87 = .ok (.ireturn, 1) := by decide +kernel
theorem dX3_count_88 : decode cX3_count 88 = .ok (.aload_n 0, 1) := by decide +kernel
theorem dX3_count_89 : decode cX3_count 89 = .ok (.getfield 41, 3) := by decide +kernel
theorem dX3_count_92 : decode cX3_count 92 = .ok (.ireturn, 1) := by decide +kernel
theorem dX3_count_93 : decode cX3_count 93 = .ok (.aload_n 0, 1) := by decide +kernel
theorem dX3_count_94 : decode cX3_count 94 = .ok (.getfield 19, 3) := by decide +kernel
theorem dX3_count_97 : decode cX3_count 97 = .ok (.getfield 181, 3) := by decide +kernel
theorem dX3_count_100 : decode cX3_count 100 = .ok (.ireturn, 1) := by decide +kernel
theorem dX3_count_101 : decode cX3_count 101 = .ok (.aload_n 0, 1) := by decide +kernel
theorem dX3_count_102 : decode cX3_count 102 = .ok (.getfield 45, 3) := by decide +kernel
theorem dX3_count_105 : decode cX3_count 105 = .ok (.ireturn, 1) := by decide +kernel
theorem dX3_count_106 : decode cX3_count 106 = .ok (.new 151, 3) := by decide +kernel
theorem dX3_count_109 : decode cX3_count 109 = .ok (.dup, 1) := by decide +kernel
theorem dX3_count_110 : decode cX3_count 110 = .ok (.ldc 184, 2) := by decide +kernel
theorem dX3_count_112 : decode cX3_count 112 = .ok (.invokespecial 155, 3) := by decide +kernel
theorem dX3_count_115 : decode cX3_count 115 = .ok (.athrow, 1) := by decide +kernel
theorem dX3_isWithin_0 : decode cX3_isWithin 0 = .ok (.iload_n 0, 1) := by decide +kernel
theorem dX3_isWithin_1 : decode cX3_isWithin 1 = .ok (.iload_n 1, 1) := by decide +kernel
theorem dX3_isWithin_2 : decode cX3_isWithin 2 = .ok (.if_icmp .lt 12, 3) := by decide +kernel
theorem dX3_isWithin_5 : decode cX3_isWithin 5 = .ok (.iload_n 0, 1) := by decide +kernel
theorem dX3_isWithin_6 : decode cX3_isWithin 6 = .ok (.iload_n 2, 1) := by decide +kernel
theorem dX3_isWithin_7 : decode cX3_isWithin 7 = .ok (.if_icmp .gt 7, 3) := by decide +kernel
theorem dX3_isWithin_10 : decode cX3_isWithin 10 = .ok (.iconst 1, 1) := by decide +kernel
theorem dX3_isWithin_11 : decode cX3_isWithin 11 = .ok (.goto 4, 3) := by decide +kernel
theorem dX3_isWithin_14 : decode cX3_isWithin 14 = .ok (.iconst 0, 1) := by decide +kernel
theorem dX3_isWithin_15 : decode cX3_isWithin 15 = .ok (.ireturn, 1) := by decide +kernel
theorem dX3_needRing_0 : decode cX3_needRing 0 = .ok (.aload_n 0, 1) := by decide +kernel
theorem dX3_needRing_1 : decode cX3_needRing 1 = .ok (.getfield 37, 3) := by decide +kernel
theorem dX3_needRing_4 : decode cX3_needRing 4 = .ok (.iload_n 1, 1) := by decide +kernel
theorem dX3_needRing_5 : decode cX3_needRing 5 = .ok (.invokevirtual 134, 3) := by decide +kernel
theorem dX3_needRing_8 : decode cX3_needRing 8 = .ok (.ifCond .ne 13, 3) := by decide +kernel
theorem dX3_needRing_11 : decode cX3_needRing 11 = .ok (.new 151, 3) := by decide +kernel
theorem dX3_needRing_14 : decode cX3_needRing 14 = .ok (.dup, 1) := by decide +kernel
theorem dX3_needRing_15 : decode cX3_needRing 15 = .ok (.ldc 186, 2) := by decide +kernel
theorem dX3_needRing_17 : decode cX3_needRing 17 = .ok (.invokespecial 155, 3) := by decide +kernel
theorem dX3_needRing_20 : decode cX3_needRing 20 = .ok (.athrow, 1) := by decide +kernel
theorem dX3_needRing_21 : decode cX3_needRing 21 = .ok (.return_, 1) := by decide +kernel
theorem dX3_needStanding_0 : decode cX3_needStanding 0 = .ok (.aload_n 0, 1) := by decide +kernel
theorem dX3_needStanding_1 : decode cX3_needStanding 1 = .ok (.getfield 37, 3) := by decide +kernel
theorem dX3_needStanding_4 : decode cX3_needStanding 4 = .ok (.iload_n 1, 1) := by decide +kernel
theorem dX3_needStanding_5 : decode cX3_needStanding 5 = .ok (.invokevirtual 128, 3) := by decide +kernel
theorem dX3_needStanding_8 : decode cX3_needStanding 8 = .ok (.ifCond .ne 13, 3) := by decide +kernel
theorem dX3_needStanding_11 : decode cX3_needStanding 11 = .ok (.new 151, 3) := by decide +kernel
theorem dX3_needStanding_14 : decode cX3_needStanding 14 = .ok (.dup, 1) := by decide +kernel
theorem dX3_needStanding_15 : decode cX3_needStanding 15 = .ok (.ldc 188, 2) := by decide +kernel
theorem dX3_needStanding_17 : decode cX3_needStanding 17 = .ok (.invokespecial 155, 3) := by decide +kernel
theorem dX3_needStanding_20 : decode cX3_needStanding 20 = .ok (.athrow, 1) := by decide +kernel
theorem dX3_needStanding_21 : decode cX3_needStanding 21 = .ok (.return_, 1) := by decide +kernel
theorem dX3_openPlanned_0 : decode cX3_openPlanned 0 = .ok (.aload_n 0, 1) := by decide +kernel
theorem dX3_openPlanned_1 : decode cX3_openPlanned 1 = .ok (.getfield 37, 3) := by decide +kernel
theorem dX3_openPlanned_4 : decode cX3_openPlanned 4 = .ok (.getfield 95, 3) := by decide +kernel
theorem dX3_openPlanned_7 : decode cX3_openPlanned 7 = .ok (.istore_n 1, 1) := by decide +kernel
theorem dX3_openPlanned_8 : decode cX3_openPlanned 8 = .ok (.iload_n 1, 1) := by decide +kernel
theorem dX3_openPlanned_9 : decode cX3_openPlanned 9 = .ok (.aload_n 0, 1) := by decide +kernel
theorem dX3_openPlanned_10 : decode cX3_openPlanned 10 = .ok (.getfield 37, 3) := by decide +kernel
theorem dX3_openPlanned_13 : decode cX3_openPlanned 13 = .ok (.invokevirtual 162, 3) := by decide +kernel
theorem dX3_openPlanned_16 : decode cX3_openPlanned 16 = .ok (.if_icmp .ge 25, 3) := by decide +kernel
theorem dX3_openPlanned_19 : decode cX3_openPlanned 19 = .ok (.aload_n 0, 1) := by decide +kernel
theorem dX3_openPlanned_20 : decode cX3_openPlanned 20 = .ok (.getfield 10, 3) := by decide +kernel
theorem dX3_openPlanned_23 : decode cX3_openPlanned 23 = .ok (.aload_n 0, 1) := by decide +kernel
theorem dX3_openPlanned_24 : decode cX3_openPlanned 24 = .ok (.getfield 37, 3) := by decide +kernel
theorem dX3_openPlanned_27 : decode cX3_openPlanned 27 = .ok (.getfield 112, 3) := by decide +kernel
theorem dX3_openPlanned_30 : decode cX3_openPlanned 30 = .ok (.iload_n 1, 1) := by decide +kernel
theorem dX3_openPlanned_31 : decode cX3_openPlanned 31 = .ok (.iaload, 1) := by decide +kernel
theorem dX3_openPlanned_32 : decode cX3_openPlanned 32 = .ok (.invokevirtual 119, 3) := by decide +kernel
theorem dX3_openPlanned_35 : decode cX3_openPlanned 35 = .ok (.iinc 1 1, 3) := by decide +kernel
theorem dX3_openPlanned_38 : decode cX3_openPlanned 38 = .ok (.goto (-30), 3) := by decide +kernel
theorem dX3_openPlanned_41 : decode cX3_openPlanned 41 = .ok (.aload_n 0, 1) := by decide +kernel
theorem dX3_openPlanned_42 : decode cX3_openPlanned 42 = .ok (.getfield 37, 3) := by decide +kernel
theorem dX3_openPlanned_45 : decode cX3_openPlanned 45 = .ok (.iconst 0, 1) := by decide +kernel
theorem dX3_openPlanned_46 : decode cX3_openPlanned 46 = .ok (.putfield 104, 3) := by decide +kernel
theorem dX3_openPlanned_49 : decode cX3_openPlanned 49 = .ok (.return_, 1) := by decide +kernel
theorem dX3_layAgainFrom_0 : decode cX3_layAgainFrom 0 = .ok (.iload_n 1, 1) := by decide +kernel
theorem dX3_layAgainFrom_1 : decode cX3_layAgainFrom 1 = .ok (.istore_n 2, 1) := by decide +kernel
theorem dX3_layAgainFrom_2 : decode cX3_layAgainFrom 2 = .ok (.iload_n 2, 1) := by decide +kernel
theorem dX3_layAgainFrom_3 : decode cX3_layAgainFrom 3 = .ok (.aload_n 0, 1) := by decide +kernel
theorem dX3_layAgainFrom_4 : decode cX3_layAgainFrom 4 = .ok (.getfield 37, 3) := by decide +kernel
theorem dX3_layAgainFrom_7 : decode cX3_layAgainFrom 7 = .ok (.invokevirtual 162, 3) := by decide +kernel
theorem dX3_layAgainFrom_10 : decode cX3_layAgainFrom 10 = .ok (.if_icmp .ge 46, 3) := by decide +kernel
theorem dX3_layAgainFrom_13 : decode cX3_layAgainFrom 13 = .ok (.aload_n 0, 1) := by decide +kernel
theorem dX3_layAgainFrom_14 : decode cX3_layAgainFrom 14 = .ok (.getfield 37, 3) := by decide +kernel
theorem dX3_layAgainFrom_17 : decode cX3_layAgainFrom 17 = .ok (.getfield 112, 3) := by decide +kernel
theorem dX3_layAgainFrom_20 : decode cX3_layAgainFrom 20 = .ok (.iload_n 2, 1) := by decide +kernel
theorem dX3_layAgainFrom_21 : decode cX3_layAgainFrom 21 = .ok (.iaload, 1) := by decide +kernel
theorem dX3_layAgainFrom_22 : decode cX3_layAgainFrom 22 = .ok (.istore_n 3, 1) := by decide +kernel
theorem dX3_layAgainFrom_23 : decode cX3_layAgainFrom 23 = .ok (.aload_n 0, 1) := by decide +kernel
theorem dX3_layAgainFrom_24 : decode cX3_layAgainFrom 24 = .ok (.getfield 37, 3) := by decide +kernel
theorem dX3_layAgainFrom_27 : decode cX3_layAgainFrom 27 = .ok (.iload_n 2, 1) := by decide +kernel
theorem dX3_layAgainFrom_28 : decode cX3_layAgainFrom 28 = .ok (.iload_n 3, 1) := by decide +kernel
theorem dX3_layAgainFrom_29 : decode cX3_layAgainFrom 29 = .ok (.aload_n 0, 1) := by decide +kernel
theorem dX3_layAgainFrom_30 : decode cX3_layAgainFrom 30 = .ok (.getfield 10, 3) := by decide +kernel
theorem dX3_layAgainFrom_33 : decode cX3_layAgainFrom 33 = .ok (.getfield 169, 3) := by decide +kernel
theorem dX3_layAgainFrom_36 : decode cX3_layAgainFrom 36 = .ok (.iload_n 3, 1) := by decide +kernel
theorem dX3_layAgainFrom_37 : decode cX3_layAgainFrom 37 = .ok (.iaload, 1) := by decide +kernel
theorem dX3_layAgainFrom_38 : decode cX3_layAgainFrom 38 = .ok (.aload_n 0, 1) := by decide +kernel
theorem dX3_layAgainFrom_39 : decode cX3_layAgainFrom 39 = .ok (.getfield 37, 3) := by decide +kernel
theorem dX3_layAgainFrom_42 : decode cX3_layAgainFrom 42 = .ok (.getfield 131, 3) := by decide +kernel
theorem dX3_layAgainFrom_45 : decode cX3_layAgainFrom 45 = .ok (.iload_n 2, 1) := by decide +kernel
theorem dX3_layAgainFrom_46 : decode cX3_layAgainFrom 46 = .ok (.iaload, 1) := by decide +kernel
theorem dX3_layAgainFrom_47 : decode cX3_layAgainFrom 47 = .ok (.invokevirtual 190, 3) := by decide +kernel
theorem dX3_layAgainFrom_50 : decode cX3_layAgainFrom 50 = .ok (.iinc 2 1, 3) := by decide +kernel
theorem dX3_layAgainFrom_53 : decode cX3_layAgainFrom 53 = .ok (.goto (-51), 3) := by decide +kernel
theorem dX3_layAgainFrom_56 : decode cX3_layAgainFrom 56 = .ok (.return_, 1) := by decide +kernel
theorem dX3_planRing_0 : decode cX3_planRing 0 = .ok (.aload_n 0, 1) := by decide +kernel
theorem dX3_planRing_1 : decode cX3_planRing 1 = .ok (.getfield 41, 3) := by decide +kernel
theorem dX3_planRing_4 : decode cX3_planRing 4 = .ok (.aload_n 0, 1) := by decide +kernel
theorem dX3_planRing_5 : decode cX3_planRing 5 = .ok (.getfield 37, 3) := by decide +kernel
theorem dX3_planRing_8 : decode cX3_planRing 8 = .ok (.getfield 98, 3) := by decide +kernel
theorem dX3_planRing_11 : decode cX3_planRing 11 = .ok (.iload_n 1, 1) := by decide +kernel
theorem dX3_planRing_12 : decode cX3_planRing 12 = .ok (.isub, 1) := by decide +kernel
theorem dX3_planRing_13 : decode cX3_planRing 13 = .ok (.invokestatic 25, 3) := by decide +kernel
theorem dX3_planRing_16 : decode cX3_planRing 16 = .ok (.istore_n 2, 1) := by decide +kernel
theorem dX3_planRing_17 : decode cX3_planRing 17 = .ok (.iload_n 2, 1) := by decide +kernel
theorem dX3_planRing_18 : decode cX3_planRing 18 = .ok (.ifCond .le 76, 3) := by decide +kernel
theorem dX3_planRing_21 : decode cX3_planRing 21 = .ok (.aload_n 0, 1) := by decide +kernel
theorem dX3_planRing_22 : decode cX3_planRing 22 = .ok (.iload_n 1, 1) := by decide +kernel
theorem dX3_planRing_23 : decode cX3_planRing 23 = .ok (.iload_n 2, 1) := by decide +kernel
theorem dX3_planRing_24 : decode cX3_planRing 24 = .ok (.invokevirtual 194, 3) := by decide +kernel
theorem dX3_planRing_27 : decode cX3_planRing 27 = .ok (.ldc2_w 198, 3) := by decide +kernel
theorem dX3_planRing_30 : decode cX3_planRing 30 = .ok (.lcmp, 1) := by decide +kernel
theorem dX3_planRing_31 : decode cX3_planRing 31 = .ok (.ifCond .eq 57, 3) := by decide +kernel
theorem dX3_planRing_34 : decode cX3_planRing 34 = .ok (.aload_n 0, 1) := by decide +kernel
theorem dX3_planRing_35 : decode cX3_planRing 35 = .ok (.getfield 37, 3) := by decide +kernel
theorem dX3_planRing_38 : decode cX3_planRing 38 = .ok (.iload_n 1, 1) := by decide +kernel
theorem dX3_planRing_39 : decode cX3_planRing 39 = .ok (.aload_n 0, 1) := by decide +kernel
theorem dX3_planRing_40 : decode cX3_planRing 40 = .ok (.getfield 48, 3) := by decide +kernel
theorem dX3_planRing_43 : decode cX3_planRing 43 = .ok (.aload_n 0, 1) := by decide +kernel
theorem dX3_planRing_44 : decode cX3_planRing 44 = .ok (.getfield 10, 3) := by decide +kernel
theorem dX3_planRing_47 : decode cX3_planRing 47 = .ok (.getfield 169, 3) := by decide +kernel
theorem dX3_planRing_50 : decode cX3_planRing 50 = .ok (.aload_n 0, 1) := by decide +kernel
theorem dX3_planRing_51 : decode cX3_planRing 51 = .ok (.getfield 48, 3) := by decide +kernel
theorem dX3_planRing_54 : decode cX3_planRing 54 = .ok (.iaload, 1) := by decide +kernel
theorem dX3_planRing_55 : decode cX3_planRing 55 = .ok (.aload_n 0, 1) := by decide +kernel
theorem dX3_planRing_56 : decode cX3_planRing 56 = .ok (.getfield 51, 3) := by decide +kernel
theorem dX3_planRing_59 : decode cX3_planRing 59 = .ok (.invokevirtual 190, 3) := by decide +kernel
theorem dX3_planRing_62 : decode cX3_planRing 62 = .ok (.aload_n 0, 1) := by decide +kernel
theorem dX3_planRing_63 : decode cX3_planRing 63 = .ok (.getfield 10, 3) := by decide +kernel
theorem dX3_planRing_66 : decode cX3_planRing 66 = .ok (.aload_n 0, 1) := by decide +kernel
theorem dX3_planRing_67 : decode cX3_planRing 67 = .ok (.getfield 48, 3) := by decide +kernel
theorem dX3_planRing_70 : decode cX3_planRing 70 = .ok (.invokevirtual 122, 3) := by decide +kernel
theorem dX3_planRing_73 : decode cX3_planRing 73 = .ok (.aload_n 0, 1) := by decide +kernel
theorem dX3_planRing_74 : decode cX3_planRing 74 = .ok (.getfield 37, 3) := by decide +kernel
theorem dX3_planRing_77 : decode cX3_planRing 77 = .ok (.dup, 1) := by decide +kernel
theorem dX3_planRing_78 : decode cX3_planRing 78 = .ok (.getfield 104, 3) := by decide +kernel
theorem dX3_planRing_81 : decode cX3_planRing 81 = .ok (.iconst 1, 1) := by decide +kernel
theorem dX3_planRing_82 : decode cX3_planRing 82 = .ok (.iadd, 1) := by decide +kernel
theorem dX3_planRing_83 : decode cX3_planRing 83 = .ok (.putfield 104, 3) := by decide +kernel
theorem dX3_planRing_86 : decode cX3_planRing 86 = .ok (.iconst 1, 1) := by decide +kernel
theorem dX3_planRing_87 : decode cX3_planRing 87 = .ok (.ireturn, 1) := by decide +kernel
theorem dX3_planRing_88 : decode cX3_planRing 88 = .ok (.iinc 2 (-1), 3) := by decide +kernel
theorem dX3_planRing_91 : decode cX3_planRing 91 = .ok (.goto (-74), 3) := by decide +kernel
theorem dX3_planRing_94 : decode cX3_planRing 94 = .ok (.iconst 0, 1) := by decide +kernel
theorem dX3_planRing_95 : decode cX3_planRing 95 = .ok (.ireturn, 1) := by decide +kernel
theorem dX3_leastSum_0 : decode cX3_leastSum 0 = .ok (.ldc2_w 198, 3) := by decide +kernel
theorem dX3_leastSum_3 : decode cX3_leastSum 3 = .ok (.lstore_n 3, 1) := by decide +kernel
theorem dX3_leastSum_4 : decode cX3_leastSum 4 = .ok (.iconst (-1), 1) := by decide +kernel
theorem dX3_leastSum_5 : decode cX3_leastSum 5 = .ok (.istore 5, 2) := by decide +kernel
theorem dX3_leastSum_7 : decode cX3_leastSum 7 = .ok (.iconst (-1), 1) := by decide +kernel
theorem dX3_leastSum_8 : decode cX3_leastSum 8 = .ok (.istore 6, 2) := by decide +kernel
theorem dX3_leastSum_10 : decode cX3_leastSum 10 = .ok (.aload_n 0, 1) := by decide +kernel
theorem dX3_leastSum_11 : decode cX3_leastSum 11 = .ok (.getfield 37, 3) := by decide +kernel
theorem dX3_leastSum_14 : decode cX3_leastSum 14 = .ok (.iload_n 1, 1) := by decide +kernel
theorem dX3_leastSum_15 : decode cX3_leastSum 15 = .ok (.invokevirtual 200, 3) := by decide +kernel
theorem dX3_leastSum_18 : decode cX3_leastSum 18 = .ok (.istore 7, 2) := by decide +kernel
theorem dX3_leastSum_20 : decode cX3_leastSum 20 = .ok (.iconst 0, 1) := by decide +kernel
theorem dX3_leastSum_21 : decode cX3_leastSum 21 = .ok (.istore 8, 2) := by decide +kernel
theorem dX3_leastSum_23 : decode cX3_leastSum 23 = .ok (.iload 8, 2) := by decide +kernel
theorem dX3_leastSum_25 : decode cX3_leastSum 25 = .ok (.aload_n 0, 1) := by decide +kernel
theorem dX3_leastSum_26 : decode cX3_leastSum 26 = .ok (.getfield 10, 3) := by decide +kernel
theorem dX3_leastSum_29 : decode cX3_leastSum 29 = .ok (.getfield 178, 3) := by decide +kernel
theorem dX3_leastSum_32 : decode cX3_leastSum 32 = .ok (.if_icmp .ge 89, 3) := by decide +kernel
theorem dX3_leastSum_35 : decode cX3_leastSum 35 = .ok (.aload_n 0, 1) := by decide +kernel
theorem dX3_leastSum_36 : decode cX3_leastSum 36 = .ok (.getfield 10, 3) := by decide +kernel
theorem dX3_leastSum_39 : decode cX3_leastSum 39 = .ok (.iload 8, 2) := by decide +kernel
theorem dX3_leastSum_41 : decode cX3_leastSum 41 = .ok (.invokevirtual 116, 3) := by decide +kernel
theorem dX3_leastSum_44 : decode cX3_leastSum 44 = .ok (.iconst 1, 1) := by decide +kernel
theorem dX3_leastSum_45 : decode cX3_leastSum 45 = .ok (.if_icmp .ge 6, 3) := by decide +kernel
theorem dX3_leastSum_48 : decode cX3_leastSum 48 = .ok (.goto 67, 3) := by decide +kernel
theorem dX3_leastSum_51 : decode cX3_leastSum 51 = .ok (.iconst 0, 1) := by decide +kernel
theorem dX3_leastSum_52 : decode cX3_leastSum 52 = .ok (.istore 9, 2) := by decide +kernel
theorem dX3_leastSum_54 : decode cX3_leastSum 54 = .ok (.iload 9, 2) := by decide +kernel
theorem dX3_leastSum_56 : decode cX3_leastSum 56 = .ok (.bipush 16, 2) := by decide +kernel
theorem dX3_leastSum_58 : decode cX3_leastSum 58 = .ok (.if_icmp .ge 57, 3) := by decide +kernel
theorem dX3_leastSum_61 : decode cX3_leastSum 61 = .ok (.aload_n 0, 1) := by decide +kernel
theorem dX3_leastSum_62 : decode cX3_leastSum 62 = .ok (.getfield 19, 3) := by decide +kernel
theorem dX3_leastSum_65 : decode cX3_leastSum 65 = .ok (.iload 9, 2) := by decide +kernel
theorem dX3_leastSum_67 : decode cX3_leastSum 67 = .ok (.iload 7, 2) := by decide +kernel
theorem dX3_leastSum_69 : decode cX3_leastSum 69 = .ok (.invokevirtual 203, 3) := by decide +kernel
theorem dX3_leastSum_72 : decode cX3_leastSum 72 = .ok (.ifCond .ne 6, 3) := by decide +kernel
theorem dX3_leastSum_75 : decode cX3_leastSum 75 = .ok (.goto 34, 3) := by decide +kernel
theorem dX3_leastSum_78 : decode cX3_leastSum 78 = .ok (.aload_n 0, 1) := by decide +kernel
theorem dX3_leastSum_79 : decode cX3_leastSum 79 = .ok (.iload_n 1, 1) := by decide +kernel
theorem dX3_leastSum_80 : decode cX3_leastSum 80 = .ok (.iload_n 2, 1) := by decide +kernel
theorem dX3_leastSum_81 : decode cX3_leastSum 81 = .ok (.iload 8, 2) := by decide +kernel
theorem dX3_leastSum_83 : decode cX3_leastSum 83 = .ok (.iload 9, 2) := by decide +kernel
theorem dX3_leastSum_85 : decode cX3_leastSum 85 = .ok (.lload_n 3, 1) := by decide +kernel
theorem dX3_leastSum_86 : decode cX3_leastSum 86 = .ok (.invokevirtual 207, 3) := by decide +kernel
theorem dX3_leastSum_89 : decode cX3_leastSum 89 = .ok (.lstore 10, 2) := by decide +kernel
theorem dX3_leastSum_91 : decode cX3_leastSum 91 = .ok (.lload 10, 2) := by decide +kernel
theorem dX3_leastSum_93 : decode cX3_leastSum 93 = .ok (.lload_n 3, 1) := by decide +kernel
theorem dX3_leastSum_94 : decode cX3_leastSum 94 = .ok (.lcmp, 1) := by decide +kernel
theorem dX3_leastSum_95 : decode cX3_leastSum 95 = .ok (.ifCond .ge 14, 3) := by decide +kernel
theorem dX3_leastSum_98 : decode cX3_leastSum 98 = .ok (.lload 10, 2) := by decide +kernel
theorem dX3_leastSum_100 : decode cX3_leastSum 100 = .ok (.lstore_n 3, 1) := by decide +kernel
theorem dX3_leastSum_101 : decode cX3_leastSum 101 = .ok (.iload 8, 2) := by decide +kernel
theorem dX3_leastSum_103 : decode cX3_leastSum 103 = .ok (.istore 5, 2) := by decide +kernel
theorem dX3_leastSum_105 : decode cX3_leastSum 105 = .ok (.iload 9, 2) := by decide +kernel
theorem dX3_leastSum_107 : decode cX3_leastSum 107 = .ok (.istore 6, 2) := by decide +kernel
theorem dX3_leastSum_109 : decode cX3_leastSum 109 = .ok (.iinc 9 1, 3) := by decide +kernel
theorem dX3_leastSum_112 : decode cX3_leastSum 112 = .ok (.goto (-58), 3) := by decide +kernel
theorem dX3_leastSum_115 : decode cX3_leastSum 115 = .ok (.iinc 8 1, 3) := by decide +kernel
theorem dX3_leastSum_118 : decode cX3_leastSum 118 = .ok (.goto (-95), 3) := by decide +kernel
theorem dX3_leastSum_121 : decode cX3_leastSum 121 = .ok (.aload_n 0, 1) := by decide +kernel
theorem dX3_leastSum_122 : decode cX3_leastSum 122 = .ok (.iload 5, 2) := by decide +kernel
theorem dX3_leastSum_124 : decode cX3_leastSum 124 = .ok (.putfield 48, 3) := by decide +kernel
theorem dX3_leastSum_127 : decode cX3_leastSum 127 = .ok (.aload_n 0, 1) := by decide +kernel
theorem dX3_leastSum_128 : decode cX3_leastSum 128 = .ok (.iload 6, 2) := by decide +kernel
theorem dX3_leastSum_130 : decode cX3_leastSum 130 = .ok (.putfield 51, 3) := by decide +kernel
theorem dX3_leastSum_133 : decode cX3_leastSum 133 = .ok (.lload_n 3, 1) := by decide +kernel
theorem dX3_leastSum_134 : decode cX3_leastSum 134 = .ok (.lreturn, 1) := by decide +kernel
theorem dX3_sumWith_0 : decode cX3_sumWith 0 = .ok (.aload_n 0, 1) := by decide +kernel
theorem dX3_sumWith_1 : decode cX3_sumWith 1 = .ok (.getfield 37, 3) := by decide +kernel
theorem dX3_sumWith_4 : decode cX3_sumWith 4 = .ok (.iload_n 1, 1) := by decide +kernel
theorem dX3_sumWith_5 : decode cX3_sumWith 5 = .ok (.iload_n 3, 1) := by decide +kernel
theorem dX3_sumWith_6 : decode cX3_sumWith 6 = .ok (.aload_n 0, 1) := by decide +kernel
theorem dX3_sumWith_7 : decode cX3_sumWith 7 = .ok (.getfield 10, 3) := by decide +kernel
theorem dX3_sumWith_10 : decode cX3_sumWith 10 = .ok (.getfield 169, 3) := by decide +kernel
theorem dX3_sumWith_13 : decode cX3_sumWith 13 = .ok (.iload_n 3, 1) := by decide +kernel
theorem dX3_sumWith_14 : decode cX3_sumWith 14 = .ok (.iaload, 1) := by decide +kernel
theorem dX3_sumWith_15 : decode cX3_sumWith 15 = .ok (.iload 4, 2) := by decide +kernel
theorem dX3_sumWith_17 : decode cX3_sumWith 17 = .ok (.invokevirtual 190, 3) := by decide +kernel
theorem dX3_sumWith_20 : decode cX3_sumWith 20 = .ok (.aload_n 0, 1) := by decide +kernel
theorem dX3_sumWith_21 : decode cX3_sumWith 21 = .ok (.getfield 37, 3) := by decide +kernel
theorem dX3_sumWith_24 : decode cX3_sumWith 24 = .ok (.iload_n 1, 1) := by decide +kernel
theorem dX3_sumWith_25 : decode cX3_sumWith 25 = .ok (.invokevirtual 158, 3) := by decide +kernel
theorem dX3_sumWith_28 : decode cX3_sumWith 28 = .ok (.lstore 7, 2) := by decide +kernel
theorem dX3_sumWith_30 : decode cX3_sumWith 30 = .ok (.lload 7, 2) := by decide +kernel
theorem dX3_sumWith_32 : decode cX3_sumWith 32 = .ok (.lload 5, 2) := by decide +kernel
theorem dX3_sumWith_34 : decode cX3_sumWith 34 = .ok (.lcmp, 1) := by decide +kernel
theorem dX3_sumWith_35 : decode cX3_sumWith 35 = .ok (.ifCond .lt 7, 3) := by decide +kernel
theorem dX3_sumWith_38 : decode cX3_sumWith 38 = .ok (.ldc2_w 198, 3) := by decide +kernel
theorem dX3_sumWith_41 : decode cX3_sumWith 41 = .ok (.lreturn, 1) := by decide +kernel
theorem dX3_sumWith_42 : decode cX3_sumWith 42 = .ok (.iload_n 2, 1) := by decide +kernel
theorem dX3_sumWith_43 : decode cX3_sumWith 43 = .ok (.iconst 2, 1) := by decide +kernel
theorem dX3_sumWith_44 : decode cX3_sumWith 44 = .ok (.if_icmp .ge 6, 3) := by decide +kernel
theorem dX3_sumWith_47 : decode cX3_sumWith 47 = .ok (.lload 7, 2) := by decide +kernel
theorem dX3_sumWith_49 : decode cX3_sumWith 49 = .ok (.lreturn, 1) := by decide +kernel
theorem dX3_sumWith_50 : decode cX3_sumWith 50 = .ok (.aload_n 0, 1) := by decide +kernel
theorem dX3_sumWith_51 : decode cX3_sumWith 51 = .ok (.getfield 10, 3) := by decide +kernel
theorem dX3_sumWith_54 : decode cX3_sumWith 54 = .ok (.iload_n 3, 1) := by decide +kernel
theorem dX3_sumWith_55 : decode cX3_sumWith 55 = .ok (.invokevirtual 122, 3) := by decide +kernel
theorem dX3_sumWith_58 : decode cX3_sumWith 58 = .ok (.aload_n 0, 1) := by decide +kernel
theorem dX3_sumWith_59 : decode cX3_sumWith 59 = .ok (.iload_n 1, 1) := by decide +kernel
theorem dX3_sumWith_60 : decode cX3_sumWith 60 = .ok (.iconst 1, 1) := by decide +kernel
theorem dX3_sumWith_61 : decode cX3_sumWith 61 = .ok (.iadd, 1) := by decide +kernel
theorem dX3_sumWith_62 : decode cX3_sumWith 62 = .ok (.iload_n 2, 1) := by decide +kernel
theorem dX3_sumWith_63 : decode cX3_sumWith 63 = .ok (.iconst 1, 1) := by decide +kernel
theorem dX3_sumWith_64 : decode cX3_sumWith 64 = .ok (.isub, 1) := by decide +kernel
theorem dX3_sumWith_65 : decode cX3_sumWith 65 = .ok (.invokevirtual 194, 3) := by decide +kernel
theorem dX3_sumWith_68 : decode cX3_sumWith 68 = .ok (.lstore 9, 2) := by decide +kernel
theorem dX3_sumWith_70 : decode cX3_sumWith 70 = .ok (.aload_n 0, 1) := by decide +kernel
theorem dX3_sumWith_71 : decode cX3_sumWith 71 = .ok (.getfield 10, 3) := by decide +kernel
theorem dX3_sumWith_74 : decode cX3_sumWith 74 = .ok (.iload_n 3, 1) := by decide +kernel
theorem dX3_sumWith_75 : decode cX3_sumWith 75 = .ok (.invokevirtual 119, 3) := by decide +kernel
theorem dX3_sumWith_78 : decode cX3_sumWith 78 = .ok (.lload 9, 2) := by decide +kernel
theorem dX3_sumWith_80 : decode cX3_sumWith 80 = .ok (.ldc2_w 198, 3) := by decide +kernel
theorem dX3_sumWith_83 : decode cX3_sumWith 83 = .ok (.lcmp, 1) := by decide +kernel
theorem dX3_sumWith_84 : decode cX3_sumWith 84 = .ok (.ifCond .ne 9, 3) := by decide +kernel
theorem dX3_sumWith_87 : decode cX3_sumWith 87 = .ok (.ldc2_w 198, 3) := by decide +kernel
theorem dX3_sumWith_90 : decode cX3_sumWith 90 = .ok (.goto 8, 3) := by decide +kernel
theorem dX3_sumWith_93 : decode cX3_sumWith 93 = .ok (.lload 7, 2) := by decide +kernel
theorem dX3_sumWith_95 : decode cX3_sumWith 95 = .ok (.lload 9, 2) := by decide +kernel
theorem dX3_sumWith_97 : decode cX3_sumWith 97 = .ok (.ladd, 1) := by decide +kernel
theorem dX3_sumWith_98 : decode cX3_sumWith 98 = .ok (.lreturn, 1) := by decide +kernel
end
section
theorem dX4_init_0 : decode cX4_init 0 = .ok (.aload_n 0, 1) := by decide +kernel
theorem dX4_init_1 : decode cX4_init 1 = .ok (.invokespecial 1, 3) := by decide +kernel
theorem dX4_init_4 : decode cX4_init 4 = .ok (.aload_n 0, 1) := by decide +kernel
theorem dX4_init_5 : decode cX4_init 5 = .ok (.bipush 16, 2) := by decide +kernel
theorem dX4_init_7 : decode cX4_init 7 = .ok (.putfield 7, 3) := by decide +kernel
theorem dX4_init_10 : decode cX4_init 10 = .ok (.aload_n 0, 1) := by decide +kernel
theorem dX4_init_11 : decode cX4_init 11 = .ok (.iconst 1, 1) := by decide +kernel
theorem dX4_init_12 : decode cX4_init 12 = .ok (.putfield 13, 3) := by decide +kernel
theorem dX4_init_15 : decode cX4_init 15 = .ok (.aload_n 0, 1) := by decide +kernel
theorem dX4_init_16 : decode cX4_init 16 = .ok (.bipush 16, 2) := by decide +kernel
theorem dX4_init_18 : decode cX4_init 18 = .ok (.newarray .boolean, 2) := by decide +kernel
theorem dX4_init_20 : decode cX4_init 20 = .ok (.putfield 16, 3) := by decide +kernel
theorem dX4_init_23 : decode cX4_init 23 = .ok (.aload_n 0, 1) := by decide +kernel
theorem dX4_init_24 : decode cX4_init 24 = .ok (.iconst 4, 1) := by decide +kernel
theorem dX4_init_25 : decode cX4_init 25 = .ok (.newarray .int, 2) := by decide +kernel
theorem dX4_init_27 : decode cX4_init 27 = .ok (.putfield 20, 3) := by decide +kernel
theorem dX4_init_30 : decode cX4_init 30 = .ok (.aload_n 0, 1) := by decide +kernel
theorem dX4_init_31 : decode cX4_init 31 = .ok (.iconst 4, 1) := by decide +kernel
theorem dX4_init_32 : decode cX4_init 32 = .ok (.newarray .int, 2) := by decide +kernel
theorem dX4_init_34 : decode cX4_init 34 = .ok (.putfield 24, 3) := by decide +kernel
theorem dX4_init_37 : decode cX4_init 37 = .ok (.aload_n 0, 1) := by decide +kernel
theorem dX4_init_38 : decode cX4_init 38 = .ok (.bipush 24, 2) := by decide +kernel
theorem dX4_init_40 : decode cX4_init 40 = .ok (.newarray .int, 2) := by decide +kernel
theorem dX4_init_42 : decode cX4_init 42 = .ok (.putfield 27, 3) := by decide +kernel
theorem dX4_init_45 : decode cX4_init 45 = .ok (.aload_n 0, 1) := by decide +kernel
theorem dX4_init_46 : decode cX4_init 46 = .ok (.bipush 24, 2) := by decide +kernel
theorem dX4_init_48 : decode cX4_init 48 = .ok (.newarray .int, 2) := by decide +kernel
theorem dX4_init_50 : decode cX4_init 50 = .ok (.putfield 30, 3) := by decide +kernel
theorem dX4_init_53 : decode cX4_init 53 = .ok (.aload_n 0, 1) := by decide +kernel
theorem dX4_init_54 : decode cX4_init 54 = .ok (.bipush 24, 2) := by decide +kernel
theorem dX4_init_56 : decode cX4_init 56 = .ok (.newarray .int, 2) := by decide +kernel
theorem dX4_init_58 : decode cX4_init 58 = .ok (.putfield 33, 3) := by decide +kernel
theorem dX4_init_61 : decode cX4_init 61 = .ok (.aload_n 0, 1) := by decide +kernel
theorem dX4_init_62 : decode cX4_init 62 = .ok (.bipush 24, 2) := by decide +kernel
theorem dX4_init_64 : decode cX4_init 64 = .ok (.newarray .int, 2) := by decide +kernel
theorem dX4_init_66 : decode cX4_init 66 = .ok (.putfield 36, 3) := by decide +kernel
theorem dX4_init_69 : decode cX4_init 69 = .ok (.aload_n 0, 1) := by decide +kernel
theorem dX4_init_70 : decode cX4_init 70 = .ok (.bipush 24, 2) := by decide +kernel
theorem dX4_init_72 : decode cX4_init 72 = .ok (.newarray .long, 2) := by decide +kernel
theorem dX4_init_74 : decode cX4_init 74 = .ok (.putfield 39, 3) := by decide +kernel
theorem dX4_init_77 : decode cX4_init 77 = .ok (.aload_n 0, 1) := by decide +kernel
theorem dX4_init_78 : decode cX4_init 78 = .ok (.bipush 24, 2) := by decide +kernel
theorem dX4_init_80 : decode cX4_init 80 = .ok (.newarray .long, 2) := by decide +kernel
theorem dX4_init_82 : decode cX4_init 82 = .ok (.putfield 43, 3) := by decide +kernel
theorem dX4_init_85 : decode cX4_init 85 = .ok (.aload_n 0, 1) := by decide +kernel
theorem dX4_init_86 : decode cX4_init 86 = .ok (.bipush 24, 2) := by decide +kernel
theorem dX4_init_88 : decode cX4_init 88 = .ok (.newarray .long, 2) := by decide +kernel
theorem dX4_init_90 : decode cX4_init 90 = .ok (.putfield 46, 3) := by decide +kernel
theorem dX4_init_93 : decode cX4_init 93 = .ok (.aload_n 0, 1) := by decide +kernel
theorem dX4_init_94 : decode cX4_init 94 = .ok (.bipush 24, 2) := by decide +kernel
theorem dX4_init_96 : decode cX4_init 96 = .ok (.newarray .long, 2) := by decide +kernel
theorem dX4_init_98 : decode cX4_init 98 = .ok (.putfield 49, 3) := by decide +kernel
theorem dX4_init_101 : decode cX4_init 101 = .ok (.aload_n 0, 1) := by decide +kernel
theorem dX4_init_102 : decode cX4_init 102 = .ok (.iload_n 1, 1) := by decide +kernel
theorem dX4_init_103 : decode cX4_init 103 = .ok (.iconst 1, 1) := by decide +kernel
theorem dX4_init_104 : decode cX4_init 104 = .ok (.if_icmp .ge 7, 3) := by decide +kernel
theorem dX4_init_107 : decode cX4_init 107 = .ok (.iconst 1, 1) := by decide +kernel
theorem dX4_init_108 : decode cX4_init 108 = .ok (.goto 15, 3) := by decide +kernel
theorem dX4_init_111 : decode cX4_init 111 = .ok (.iload_n 1, 1) := by decide +kernel
theorem dX4_init_112 : decode cX4_init 112 = .ok (.bipush 24, 2) := by decide +kernel
theorem dX4_init_114 : decode cX4_init 114 = .ok (.if_icmp .le 8, 3) := by decide +kernel
theorem dX4_init_117 : decode cX4_init 117 = .ok (.bipush 24, 2) := by decide +kernel
theorem dX4_init_119 : decode cX4_init 119 = .ok (.goto 4, 3) := by decide +kernel
theorem dX4_init_122 : decode cX4_init 122 = .ok (.iload_n 1, 1) := by decide +kernel
theorem dX4_init_123 : decode cX4_init 123 = .ok (.putfield 52, 3) := by decide +kernel
theorem dX4_init_126 : decode cX4_init 126 = .ok (.iconst 0, 1) := by decide +kernel
theorem dX4_init_127 : decode cX4_init 127 = .ok (.istore_n 2, 1) := by decide +kernel
theorem dX4_init_128 : decode cX4_init 128 = .ok (.iload_n 2, 1) := by decide +kernel
theorem dX4_init_129 : decode cX4_init 129 = .ok (.bipush 16, 2) := by decide +kernel
theorem dX4_init_131 : decode cX4_init 131 = .ok (.if_icmp .ge 16, 3) := by decide +kernel
theorem dX4_init_134 : decode cX4_init 134 = .ok (.aload_n 0, 1) := by decide +kernel
theorem dX4_init_135 : decode cX4_init 135 = .ok (.getfield 16, 3) := by decide +kernel
theorem dX4_init_138 : decode cX4_init 138 = .ok (.iload_n 2, 1) := by decide +kernel
theorem dX4_init_139 : decode cX4_init 139 = .ok (.iconst 1, 1) := by decide +kernel
theorem dX4_init_140 : decode cX4_init 140 = .ok (.bastore, 1) := by decide +kernel
theorem dX4_init_141 : decode cX4_init 141 = .ok (.iinc 2 1, 3) := by decide +kernel
theorem dX4_init_144 : decode cX4_init 144 = .ok (.goto (-16), 3) := by decide +kernel
theorem dX4_init_147 : decode cX4_init 147 = .ok (.return_, 1) := by decide +kernel
theorem dX4_thrown_0 : decode cX4_thrown 0 = .ok (.aload_n 0, 1) := by decide +kernel
theorem dX4_thrown_1 : decode cX4_thrown 1 = .ok (.getfield 55, 3) := by decide +kernel
theorem dX4_thrown_4 : decode cX4_thrown 4 = .ok (.ireturn, 1) := by decide +kernel
theorem dX4_in_0 : decode cX4_in 0 = .ok (.lload_n 0, 1) := by decide +kernel
theorem dX4_in_1 : decode cX4_in 1 = .ok (.lload_n 2, 1) := by decide +kernel
theorem dX4_in_2 : decode cX4_in 2 = .ok (.lcmp, 1) := by decide +kernel
theorem dX4_in_3 : decode cX4_in 3 = .ok (.ifCond .lt 14, 3) := by decide +kernel
theorem dX4_in_6 : decode cX4_in 6 = .ok (.lload_n 0, 1) := by decide +kernel
theorem dX4_in_7 : decode cX4_in 7 = .ok (.lload 4, 2) := by decide +kernel
theorem dX4_in_9 : decode cX4_in 9 = .ok (.lcmp, 1) := by decide +kernel
theorem dX4_in_10 : decode cX4_in 10 = .ok (.ifCond .gt 7, 3) := by decide +kernel
theorem dX4_in_13 : decode cX4_in 13 = .ok (.iconst 1, 1) := by decide +kernel
theorem dX4_in_14 : decode cX4_in 14 = .ok (.goto 4, 3) := by decide +kernel
theorem dX4_in_17 : decode cX4_in 17 = .ok (.iconst 0, 1) := by decide +kernel
theorem dX4_in_18 : decode cX4_in 18 = .ok (.ireturn, 1) := by decide +kernel
theorem dX4_c_0 : decode cX4_c 0 = .ok (.iload_n 0, 1) := by decide +kernel
theorem dX4_c_1 : decode cX4_c 1 = .ok (.bipush 15, 2) := by decide +kernel
theorem dX4_c_3 : decode cX4_c 3 = .ok (.iand, 1) := by decide +kernel
theorem dX4_c_4 : decode cX4_c 4 = .ok (.istore_n 1, 1) := by decide +kernel
theorem dX4_c_5 : decode cX4_c 5 = .ok (.iload_n 1, 1) := by decide +kernel
theorem dX4_c_6 : decode cX4_c 6 = .ok (.bipush 8, 2) := by decide +kernel
theorem dX4_c_8 : decode cX4_c 8 = .ok (.if_icmp .le 10, 3) := by decide +kernel
theorem dX4_c_11 : decode cX4_c 11 = .ok (.bipush 16, 2) := by decide +kernel
theorem dX4_c_13 : decode cX4_c 13 = .ok (.iload_n 1, 1) := by decide +kernel
theorem dX4_c_14 : decode cX4_c 14 = .ok (.isub, 1) := by decide +kernel
theorem dX4_c_15 : decode cX4_c 15 = .ok (.goto 4, 3) := by decide +kernel
theorem dX4_c_18 : decode cX4_c 18 = .ok (.iload_n 1, 1) := by decide +kernel
theorem dX4_c_19 : decode cX4_c 19 = .ok (.istore_n 2, 1) := by decide +kernel
theorem dX4_c_20 : decode cX4_c 20 = .ok (.iload_n 2, 1) := by decide +kernel
theorem dX4_c_21 : decode cX4_c 21 = .ok (.tableswitch 70 0 7 #[47, 50, 53, 56, 59, 61, 64, 67], 47) := by decide +kernel
theorem dX4_c_68 : decode cX4_c 68 = .ok (.bipush 64, 2) := by decide +kernel
theorem dX4_c_70 : decode cX4_c 70 = .ok (.ireturn, 1) := by decide +kernel
theorem dX4_c_71 : decode cX4_c 71 = .ok (.bipush 59, 2) := by decide +kernel
theorem dX4_c_73 : decode cX4_c 73 = .ok (.ireturn, 1) := by decide +kernel
theorem dX4_c_74 : decode cX4_c 74 = .ok (.bipush 45, 2) := by decide +kernel
theorem dX4_c_76 : decode cX4_c 76 = .ok (.ireturn, 1) := by decide +kernel
theorem dX4_c_77 : decode cX4_c 77 = .ok (.bipush 24, 2) := by decide +kernel
theorem dX4_c_79 : decode cX4_c 79 = .ok (.ireturn, 1) := by decide +kernel
theorem dX4_c_80 : decode cX4_c 80 = .ok (.iconst 0, 1) := by decide +kernel
theorem dX4_c_81 : decode cX4_c 81 = .ok (.ireturn, 1) := by decide +kernel
theorem dX4_c_82 : decode cX4_c 82 = .ok (.bipush (-24), 2) := by decide +kernel
theorem dX4_c_84 : decode cX4_c 84 = .ok (.ireturn, 1) := by decide +kernel
theorem dX4_c_85 : decode cX4_c 85 = .ok (.bipush (-45), 2) := by decide +kernel
theorem dX4_c_87 : decode cX4_c 87 = .ok (.ireturn, 1) := by decide +kernel
theorem dX4_c_88 : decode cX4_c 88 = .ok (.bipush (-59), 2) := by decide +kernel
theorem dX4_c_90 : decode cX4_c 90 = .ok (.ireturn, 1) := by decide +kernel
theorem dX4_c_91 : decode cX4_c 91 = .ok (.bipush (-64), 2) := by decide +kernel
theorem dX4_c_93 : decode cX4_c 93 = .ok (.ireturn, 1) := by decide +kernel
theorem dX4_isRing_0 : decode cX4_isRing 0 = .ok (.iload_n 1, 1) := by decide +kernel
theorem dX4_isRing_1 : decode cX4_isRing 1 = .ok (.ifCond .lt 15, 3) := by decide +kernel
theorem dX4_isRing_4 : decode cX4_isRing 4 = .ok (.iload_n 1, 1) := by decide +kernel
theorem dX4_isRing_5 : decode cX4_isRing 5 = .ok (.aload_n 0, 1) := by decide +kernel
theorem dX4_isRing_6 : decode cX4_isRing 6 = .ok (.getfield 52, 3) := by decide +kernel
theorem dX4_isRing_9 : decode cX4_isRing 9 = .ok (.if_icmp .ge 7, 3) := by decide +kernel
theorem dX4_isRing_12 : decode cX4_isRing 12 = .ok (.iconst 1, 1) := by decide +kernel
theorem dX4_isRing_13 : decode cX4_isRing 13 = .ok (.goto 4, 3) := by decide +kernel
theorem dX4_isRing_16 : decode cX4_isRing 16 = .ok (.iconst 0, 1) := by decide +kernel
theorem dX4_isRing_17 : decode cX4_isRing 17 = .ok (.ireturn, 1) := by decide +kernel
theorem dX4_isKind_0 : decode cX4_isKind 0 = .ok (.iload_n 1, 1) := by decide +kernel
theorem dX4_isKind_1 : decode cX4_isKind 1 = .ok (.ifCond .lt 15, 3) := by decide +kernel
theorem dX4_isKind_4 : decode cX4_isKind 4 = .ok (.iload_n 1, 1) := by decide +kernel
theorem dX4_isKind_5 : decode cX4_isKind 5 = .ok (.aload_n 0, 1) := by decide +kernel
theorem dX4_isKind_6 : decode cX4_isKind 6 = .ok (.getfield 58, 3) := by decide +kernel
theorem dX4_isKind_9 : decode cX4_isKind 9 = .ok (.if_icmp .ge 7, 3) := by decide +kernel
theorem dX4_isKind_12 : decode cX4_isKind 12 = .ok (.iconst 1, 1) := by decide +kernel
theorem dX4_isKind_13 : decode cX4_isKind 13 = .ok (.goto 4, 3) := by decide +kernel
theorem dX4_isKind_16 : decode cX4_isKind 16 = .ok (.iconst 0, 1) := by decide +kernel
theorem dX4_isKind_17 : decode cX4_isKind 17 = .ok (.ireturn, 1) := by decide +kernel
theorem dX4_isThere_0 : decode cX4_isThere 0 = .ok (.iload_n 1, 1) := by decide +kernel
theorem dX4_isThere_1 : decode cX4_isThere 1 = .ok (.ifCond .lt 20, 3) := by decide +kernel
theorem dX4_isThere_4 : decode cX4_isThere 4 = .ok (.iload_n 1, 1) := by decide +kernel
theorem dX4_isThere_5 : decode cX4_isThere 5 = .ok (.aload_n 0, 1) := by decide +kernel
theorem dX4_isThere_6 : decode cX4_isThere 6 = .ok (.getfield 61, 3) := by decide +kernel
theorem dX4_isThere_9 : decode cX4_isThere 9 = .ok (.aload_n 0, 1) := by decide +kernel
theorem dX4_isThere_10 : decode cX4_isThere 10 = .ok (.getfield 64, 3) := by decide +kernel
theorem dX4_isThere_13 : decode cX4_isThere 13 = .ok (.iadd, 1) := by decide +kernel
theorem dX4_isThere_14 : decode cX4_isThere 14 = .ok (.if_icmp .ge 7, 3) := by decide +kernel
theorem dX4_isThere_17 : decode cX4_isThere 17 = .ok (.iconst 1, 1) := by decide +kernel
theorem dX4_isThere_18 : decode cX4_isThere 18 = .ok (.goto 4, 3) := by decide +kernel
theorem dX4_isThere_21 : decode cX4_isThere 21 = .ok (.iconst 0, 1) := by decide +kernel
theorem dX4_isThere_22 : decode cX4_isThere 22 = .ok (.ireturn, 1) := by decide +kernel
theorem dX4_kind_0 : decode cX4_kind 0 = .ok (.aload_n 0, 1) := by decide +kernel
theorem dX4_kind_1 : decode cX4_kind 1 = .ok (.iconst 0, 1) := by decide +kernel
theorem dX4_kind_2 : decode cX4_kind 2 = .ok (.putfield 55, 3) := by decide +kernel
theorem dX4_kind_5 : decode cX4_kind 5 = .ok (.iload_n 1, 1) := by decide +kernel
theorem dX4_kind_6 : decode cX4_kind 6 = .ok (.i2l, 1) := by decide +kernel
theorem dX4_kind_7 : decode cX4_kind 7 = .ok (.lconst 0, 1) := by decide +kernel
theorem dX4_kind_8 : decode cX4_kind 8 = .ok (.ldc2_w 67, 3) := by decide +kernel
theorem dX4_kind_11 : decode cX4_kind 11 = .ok (.invokestatic 69, 3) := by decide +kernel
theorem dX4_kind_14 : decode cX4_kind 14 = .ok (.ifCond .eq 15, 3) := by decide +kernel
theorem dX4_kind_17 : decode cX4_kind 17 = .ok (.iload_n 2, 1) := by decide +kernel
theorem dX4_kind_18 : decode cX4_kind 18 = .ok (.i2l, 1) := by decide +kernel
theorem dX4_kind_19 : decode cX4_kind 19 = .ok (.lconst 0, 1) := by decide +kernel
theorem dX4_kind_20 : decode cX4_kind 20 = .ok (.ldc2_w 73, 3) := by decide +kernel
theorem dX4_kind_23 : decode cX4_kind 23 = .ok (.invokestatic 69, 3) := by decide +kernel
theorem dX4_kind_26 : decode cX4_kind 26 = .ok (.ifCond .ne 6, 3) := by decide +kernel
theorem dX4_kind_29 : decode cX4_kind 29 = .ok (.bipush (-2), 2) := by decide +kernel
theorem dX4_kind_31 : decode cX4_kind 31 = .ok (.ireturn, 1) := by decide +kernel
theorem dX4_kind_32 : decode cX4_kind 32 = .ok (.aload_n 0, 1) := by decide +kernel
theorem dX4_kind_33 : decode cX4_kind 33 = .ok (.getfield 58, 3) := by decide +kernel
theorem dX4_kind_36 : decode cX4_kind 36 = .ok (.iconst 4, 1) := by decide +kernel
theorem dX4_kind_37 : decode cX4_kind 37 = .ok (.if_icmp .ne 6, 3) := by decide +kernel
theorem dX4_kind_40 : decode cX4_kind 40 = .ok (.bipush (-4), 2) := by decide +kernel
theorem dX4_kind_42 : decode cX4_kind 42 = .ok (.ireturn, 1) := by decide +kernel
theorem dX4_kind_43 : decode cX4_kind 43 = .ok (.aload_n 0, 1) := by decide +kernel
theorem dX4_kind_44 : decode cX4_kind 44 = .ok (.getfield 20, 3) := by decide +kernel
theorem dX4_kind_47 : decode cX4_kind 47 = .ok (.aload_n 0, 1) := by decide +kernel
theorem dX4_kind_48 : decode cX4_kind 48 = .ok (.getfield 58, 3) := by decide +kernel
theorem dX4_kind_51 : decode cX4_kind 51 = .ok (.iload_n 1, 1) := by decide +kernel
theorem dX4_kind_52 : decode cX4_kind 52 = .ok (.iastore, 1) := by decide +kernel
theorem dX4_kind_53 : decode cX4_kind 53 = .ok (.aload_n 0, 1) := by decide +kernel
theorem dX4_kind_54 : decode cX4_kind 54 = .ok (.getfield 24, 3) := by decide +kernel
theorem dX4_kind_57 : decode cX4_kind 57 = .ok (.aload_n 0, 1) := by decide +kernel
theorem dX4_kind_58 : decode cX4_kind 58 = .ok (.getfield 58, 3) := by decide +kernel
theorem dX4_kind_61 : decode cX4_kind 61 = .ok (.iload_n 2, 1) := by decide +kernel
theorem dX4_kind_62 : decode cX4_kind 62 = .ok (.iastore, 1) := by decide +kernel
theorem dX4_kind_63 : decode cX4_kind 63 = .ok (.aload_n 0, 1) := by decide +kernel
theorem dX4_kind_64 : decode cX4_kind 64 = .ok (.dup, 1) := by decide +kernel
theorem dX4_kind_65 : decode cX4_kind 65 = .ok (.getfield 58, 3) := by decide +kernel
theorem dX4_kind_68 : decode cX4_kind 68 = .ok (.iconst 1, 1) := by decide +kernel
theorem dX4_kind_69 : decode cX4_kind 69 = .ok (.iadd, 1) := by decide +kernel
theorem dX4_kind_70 : decode cX4_kind 70 = .ok (.putfield 58, 3) := by decide +kernel
theorem dX4_kind_73 : decode cX4_kind 73 = .ok (.aload_n 0, 1) := by decide +kernel
theorem dX4_kind_74 : decode cX4_kind 74 = .ok (.getfield 58, 3) := by decide +kernel
theorem dX4_kind_77 : decode cX4_kind 77 = .ok (.iconst 1, 1) := by decide +kernel
theorem dX4_kind_78 : decode cX4_kind 78 = .ok (.isub, 1) := by decide +kernel
theorem dX4_kind_79 : decode cX4_kind 79 = .ok (.ireturn, 1) := by decide +kernel
theorem dX4_more_0 : decode cX4_more 0 = .ok (.aload_n 0, 1) := by decide +kernel
theorem dX4_more_1 : decode cX4_more 1 = .ok (.iconst 0, 1) := by decide +kernel
theorem dX4_more_2 : decode cX4_more 2 = .ok (.putfield 55, 3) := by decide +kernel
theorem dX4_more_5 : decode cX4_more 5 = .ok (.aload_n 0, 1) := by decide +kernel
theorem dX4_more_6 : decode cX4_more 6 = .ok (.iload_n 1, 1) := by decide +kernel
theorem dX4_more_7 : decode cX4_more 7 = .ok (.invokevirtual 75, 3) := by decide +kernel
theorem dX4_more_10 : decode cX4_more 10 = .ok (.ifCond .ne 5, 3) := by decide +kernel
theorem dX4_more_13 : decode cX4_more 13 = .ok (.iconst (-1), 1) := by decide +kernel
theorem dX4_more_14 : decode cX4_more 14 = .ok (.ireturn, 1) := by decide +kernel
theorem dX4_more_15 : decode cX4_more 15 = .ok (.iload_n 2, 1) := by decide +kernel
theorem dX4_more_16 : decode cX4_more 16 = .ok (.i2l, 1) := by decide +kernel
theorem dX4_more_17 : decode cX4_more 17 = .ok (.lconst 1, 1) := by decide +kernel
theorem dX4_more_18 : decode cX4_more 18 = .ok (.ldc2_w 73, 3) := by decide +kernel
theorem dX4_more_21 : decode cX4_more 21 = .ok (.invokestatic 69, 3) := by decide +kernel
theorem dX4_more_24 : decode cX4_more 24 = .ok (.ifCond .ne 6, 3) := by decide +kernel
theorem dX4_more_27 : decode cX4_more 27 = .ok (.bipush (-2), 2) := by decide +kernel
theorem dX4_more_29 : decode cX4_more 29 = .ok (.ireturn, 1) := by decide +kernel
theorem dX4_more_30 : decode cX4_more 30 = .ok (.aload_n 0, 1) := by decide +kernel
theorem dX4_more_31 : decode cX4_more 31 = .ok (.getfield 24, 3) := by decide +kernel
theorem dX4_more_34 : decode cX4_more 34 = .ok (.iload_n 1, 1) := by decide +kernel
theorem dX4_more_35 : decode cX4_more 35 = .ok (.dup2, 1) := by decide +kernel
theorem dX4_more_36 : decode cX4_more 36 = .ok (.iaload, 1) := by decide +kernel
theorem dX4_more_37 : decode cX4_more 37 = .ok (.iload_n 2, 1) := by decide +kernel
theorem dX4_more_38 : decode cX4_more 38 = .ok (.iadd, 1) := by decide +kernel
theorem dX4_more_39 : decode cX4_more 39 = .ok (.iastore, 1) := by decide +kernel
theorem dX4_more_40 : decode cX4_more 40 = .ok (.aload_n 0, 1) := by decide +kernel
theorem dX4_more_41 : decode cX4_more 41 = .ok (.getfield 24, 3) := by decide +kernel
theorem dX4_more_44 : decode cX4_more 44 = .ok (.iload_n 1, 1) := by decide +kernel
theorem dX4_more_45 : decode cX4_more 45 = .ok (.iaload, 1) := by decide +kernel
theorem dX4_more_46 : decode cX4_more 46 = .ok (.ireturn, 1) := by decide +kernel
theorem dX4_line_0 : decode cX4_line 0 = .ok (.aload_n 0, 1) := by decide +kernel
theorem dX4_line_1 : decode cX4_line 1 = .ok (.aload_n 0, 1) := by decide +kernel
theorem dX4_line_2 : decode cX4_line 2 = .ok (.iload_n 1, 1) := by decide +kernel
theorem dX4_line_3 : decode cX4_line 3 = .ok (.invokevirtual 79, 3) := by decide +kernel
theorem dX4_line_6 : decode cX4_line 6 = .ok (.ifCond .eq 7, 3) := by decide +kernel
theorem dX4_line_9 : decode cX4_line 9 = .ok (.iconst 0, 1) := by decide +kernel
theorem dX4_line_10 : decode cX4_line 10 = .ok (.goto 4, 3) := by decide +kernel
theorem dX4_line_13 : decode cX4_line 13 = .ok (.iconst 1, 1) := by decide +kernel
theorem dX4_line_14 : decode cX4_line 14 = .ok (.putfield 55, 3) := by decide +kernel
theorem dX4_line_17 : decode cX4_line 17 = .ok (.aload_n 0, 1) := by decide +kernel
theorem dX4_line_18 : decode cX4_line 18 = .ok (.getfield 55, 3) := by decide +kernel
theorem dX4_line_21 : decode cX4_line 21 = .ok (.ifCond .le 5, 3) := by decide +kernel
theorem dX4_line_24 : decode cX4_line 24 = .ok (.iconst 0, 1) := by decide +kernel
theorem dX4_line_25 : decode cX4_line 25 = .ok (.ireturn, 1) := by decide +kernel
theorem dX4_line_26 : decode cX4_line 26 = .ok (.iload_n 2, 1) := by decide +kernel
theorem dX4_line_27 : decode cX4_line 27 = .ok (.i2l, 1) := by decide +kernel
theorem dX4_line_28 : decode cX4_line 28 = .ok (.ldc2_w 82, 3) := by decide +kernel
theorem dX4_line_31 : decode cX4_line 31 = .ok (.ldc2_w 84, 3) := by decide +kernel
theorem dX4_line_34 : decode cX4_line 34 = .ok (.invokestatic 69, 3) := by decide +kernel
theorem dX4_line_37 : decode cX4_line 37 = .ok (.ifCond .eq 17, 3) := by decide +kernel
theorem dX4_line_40 : decode cX4_line 40 = .ok (.iload_n 3, 1) := by decide +kernel
theorem dX4_line_41 : decode cX4_line 41 = .ok (.i2l, 1) := by decide +kernel
theorem dX4_line_42 : decode cX4_line 42 = .ok (.ldc2_w 82, 3) := by decide +kernel
theorem dX4_line_45 : decode cX4_line 45 = .ok (.ldc2_w 84, 3) := by decide +kernel
theorem dX4_line_48 : decode cX4_line 48 = .ok (.invokestatic 69, 3) := by decide +kernel
theorem dX4_line_51 : decode cX4_line 51 = .ok (.ifCond .ne 6, 3) := by decide +kernel
theorem dX4_line_54 : decode cX4_line 54 = .ok (.bipush (-2), 2) := by decide +kernel
theorem dX4_line_56 : decode cX4_line 56 = .ok (.ireturn, 1) := by decide +kernel
theorem dX4_line_57 : decode cX4_line 57 = .ok (.iload_n 1, 1) := by decide +kernel
theorem dX4_line_58 : decode cX4_line 58 = .ok (.aload_n 0, 1) := by decide +kernel
theorem dX4_line_59 : decode cX4_line 59 = .ok (.getfield 61, 3) := by decide +kernel
theorem dX4_line_62 : decode cX4_line 62 = .ok (.if_icmp .ge 6, 3) := by decide +kernel
theorem dX4_line_65 : decode cX4_line 65 = .ok (.bipush (-3), 2) := by decide +kernel
theorem dX4_line_67 : decode cX4_line 67 = .ok (.ireturn, 1) := by decide +kernel
theorem dX4_line_68 : decode cX4_line 68 = .ok (.aload_n 0, 1) := by decide +kernel
theorem dX4_line_69 : decode cX4_line 69 = .ok (.getfield 27, 3) := by decide +kernel
theorem dX4_line_72 : decode cX4_line 72 = .ok (.iload_n 1, 1) := by decide +kernel
theorem dX4_line_73 : decode cX4_line 73 = .ok (.iload_n 2, 1) := by decide +kernel
theorem dX4_line_74 : decode cX4_line 74 = .ok (.iastore, 1) := by decide +kernel
theorem dX4_line_75 : decode cX4_line 75 = .ok (.aload_n 0, 1) := by decide +kernel
theorem dX4_line_76 : decode cX4_line 76 = .ok (.getfield 30, 3) := by decide +kernel
theorem dX4_line_79 : decode cX4_line 79 = .ok (.iload_n 1, 1) := by decide +kernel
theorem dX4_line_80 : decode cX4_line 80 = .ok (.iload_n 3, 1) := by decide +kernel
theorem dX4_line_81 : decode cX4_line 81 = .ok (.iastore, 1) := by decide +kernel
theorem dX4_line_82 : decode cX4_line 82 = .ok (.iconst 1, 1) := by decide +kernel
theorem dX4_line_83 : decode cX4_line 83 = .ok (.ireturn, 1) := by decide +kernel
theorem dX4_apart_0 : decode cX4_apart 0 = .ok (.aload_n 0, 1) := by decide +kernel
theorem dX4_apart_1 : decode cX4_apart 1 = .ok (.iconst 0, 1) := by decide +kernel
theorem dX4_apart_2 : decode cX4_apart 2 = .ok (.putfield 55, 3) := by decide +kernel
theorem dX4_apart_5 : decode cX4_apart 5 = .ok (.iload_n 1, 1) := by decide +kernel
theorem dX4_apart_6 : decode cX4_apart 6 = .ok (.i2l, 1) := by decide +kernel
theorem dX4_apart_7 : decode cX4_apart 7 = .ok (.lconst 1, 1) := by decide +kernel
theorem dX4_apart_8 : decode cX4_apart 8 = .ok (.ldc2_w 86, 3) := by decide +kernel
theorem dX4_apart_11 : decode cX4_apart 11 = .ok (.invokestatic 69, 3) := by decide +kernel
theorem dX4_apart_14 : decode cX4_apart 14 = .ok (.ifCond .ne 6, 3) := by decide +kernel
theorem dX4_apart_17 : decode cX4_apart 17 = .ok (.bipush (-2), 2) := by decide +kernel
theorem dX4_apart_19 : decode cX4_apart 19 = .ok (.ireturn, 1) := by decide +kernel
theorem dX4_apart_20 : decode cX4_apart 20 = .ok (.aload_n 0, 1) := by decide +kernel
theorem dX4_apart_21 : decode cX4_apart 21 = .ok (.iload_n 1, 1) := by decide +kernel
theorem dX4_apart_22 : decode cX4_apart 22 = .ok (.putfield 7, 3) := by decide +kernel
theorem dX4_apart_25 : decode cX4_apart 25 = .ok (.iconst 1, 1) := by decide +kernel
theorem dX4_apart_26 : decode cX4_apart 26 = .ok (.ireturn, 1) := by decide +kernel
theorem dX4_allow_0 : decode cX4_allow 0 = .ok (.aload_n 0, 1) := by decide +kernel
theorem dX4_allow_1 : decode cX4_allow 1 = .ok (.iconst 0, 1) := by decide +kernel
theorem dX4_allow_2 : decode cX4_allow 2 = .ok (.putfield 55, 3) := by decide +kernel
theorem dX4_allow_5 : decode cX4_allow 5 = .ok (.iload_n 1, 1) := by decide +kernel
theorem dX4_allow_6 : decode cX4_allow 6 = .ok (.i2l, 1) := by decide +kernel
theorem dX4_allow_7 : decode cX4_allow 7 = .ok (.lconst 0, 1) := by decide +kernel
theorem dX4_allow_8 : decode cX4_allow 8 = .ok (.ldc2_w 88, 3) := by decide +kernel
theorem dX4_allow_11 : decode cX4_allow 11 = .ok (.invokestatic 69, 3) := by decide +kernel
theorem dX4_allow_14 : decode cX4_allow 14 = .ok (.ifCond .eq 13, 3) := by decide +kernel
theorem dX4_allow_17 : decode cX4_allow 17 = .ok (.aload_n 0, 1) := by decide +kernel
theorem dX4_allow_18 : decode cX4_allow 18 = .ok (.getfield 16, 3) := by decide +kernel
theorem dX4_allow_21 : decode cX4_allow 21 = .ok (.iload_n 1, 1) := by decide +kernel
theorem dX4_allow_22 : decode cX4_allow 22 = .ok (.baload, 1) := by decide +kernel
theorem dX4_allow_23 : decode cX4_allow 23 = .ok (.iload_n 2, 1) := by decide +kernel
theorem dX4_allow_24 : decode cX4_allow 24 = .ok (.if_icmp .ne 5, 3) := by decide +kernel
theorem dX4_allow_27 : decode cX4_allow 27 = .ok (.iconst 0, 1) := by decide +kernel
theorem dX4_allow_28 : decode cX4_allow 28 = .ok (.ireturn, 1) := by decide +kernel
theorem dX4_allow_29 : decode cX4_allow 29 = .ok (.aload_n 0, 1) := by decide +kernel
theorem dX4_allow_30 : decode cX4_allow 30 = .ok (.getfield 16, 3) := by decide +kernel
theorem dX4_allow_33 : decode cX4_allow 33 = .ok (.iload_n 1, 1) := by decide +kernel
theorem dX4_allow_34 : decode cX4_allow 34 = .ok (.iload_n 2, 1) := by decide +kernel
theorem dX4_allow_35 : decode cX4_allow 35 = .ok (.bastore, 1) := by decide +kernel
theorem dX4_allow_36 : decode cX4_allow 36 = .ok (.iconst 1, 1) := by decide +kernel
theorem dX4_allow_37 : decode cX4_allow 37 = .ok (.ireturn, 1) := by decide +kernel
theorem dX4_look_0 : decode cX4_look 0 = .ok (.aload_n 0, 1) := by decide +kernel
theorem dX4_look_1 : decode cX4_look 1 = .ok (.iconst 0, 1) := by decide +kernel
theorem dX4_look_2 : decode cX4_look 2 = .ok (.putfield 55, 3) := by decide +kernel
theorem dX4_look_5 : decode cX4_look 5 = .ok (.iload_n 1, 1) := by decide +kernel
theorem dX4_look_6 : decode cX4_look 6 = .ok (.i2l, 1) := by decide +kernel
theorem dX4_look_7 : decode cX4_look 7 = .ok (.lconst 1, 1) := by decide +kernel
theorem dX4_look_8 : decode cX4_look 8 = .ok (.ldc2_w 90, 3) := by decide +kernel
theorem dX4_look_11 : decode cX4_look 11 = .ok (.invokestatic 69, 3) := by decide +kernel
theorem dX4_look_14 : decode cX4_look 14 = .ok (.ifCond .ne 6, 3) := by decide +kernel
theorem dX4_look_17 : decode cX4_look 17 = .ok (.bipush (-2), 2) := by decide +kernel
theorem dX4_look_19 : decode cX4_look 19 = .ok (.ireturn, 1) := by decide +kernel
theorem dX4_look_20 : decode cX4_look 20 = .ok (.aload_n 0, 1) := by decide +kernel
theorem dX4_look_21 : decode cX4_look 21 = .ok (.iload_n 1, 1) := by decide +kernel
theorem dX4_look_22 : decode cX4_look 22 = .ok (.putfield 13, 3) := by decide +kernel
theorem dX4_look_25 : decode cX4_look 25 = .ok (.iconst 1, 1) := by decide +kernel
theorem dX4_look_26 : decode cX4_look 26 = .ok (.ireturn, 1) := by decide +kernel
theorem dX4_usedOf_0 : decode cX4_usedOf 0 = .ok (.iconst 0, 1) := by decide +kernel
theorem dX4_usedOf_1 : decode cX4_usedOf 1 = .ok (.istore_n 2, 1) := by decide +kernel
theorem dX4_usedOf_2 : decode cX4_usedOf 2 = .ok (.iconst 0, 1) := by decide +kernel
theorem dX4_usedOf_3 : decode cX4_usedOf 3 = .ok (.istore_n 3, 1) := by decide +kernel
theorem dX4_usedOf_4 : decode cX4_usedOf 4 = .ok (.iload_n 3, 1) := by decide +kernel
theorem dX4_usedOf_5 : decode cX4_usedOf 5 = .ok (.aload_n 0, 1) := by decide +kernel
theorem dX4_usedOf_6 : decode cX4_usedOf 6 = .ok (.getfield 61, 3) := by decide +kernel
theorem dX4_usedOf_9 : decode cX4_usedOf 9 = .ok (.aload_n 0, 1) := by decide +kernel
theorem dX4_usedOf_10 : decode cX4_usedOf 10 = .ok (.getfield 64, 3) := by decide +kernel
theorem dX4_usedOf_13 : decode cX4_usedOf 13 = .ok (.iadd, 1) := by decide +kernel
theorem dX4_usedOf_14 : decode cX4_usedOf 14 = .ok (.if_icmp .ge 27, 3) := by decide +kernel
theorem dX4_usedOf_17 : decode cX4_usedOf 17 = .ok (.aload_n 0, 1) := by decide +kernel
theorem dX4_usedOf_18 : decode cX4_usedOf 18 = .ok (.getfield 33, 3) := by decide +kernel
theorem dX4_usedOf_21 : decode cX4_usedOf 21 = .ok (.iload_n 3, 1) := by decide +kernel
theorem dX4_usedOf_22 : decode cX4_usedOf 22 = .ok (.iaload, 1) := by decide +kernel
theorem dX4_usedOf_23 : decode cX4_usedOf 23 = .ok (.iload_n 1, 1) := by decide +kernel
theorem dX4_usedOf_24 : decode cX4_usedOf 24 = .ok (.if_icmp .ne 9, 3) := by decide +kernel
theorem dX4_usedOf_27 : decode cX4_usedOf 27 = .ok (.iload_n 2, 1) := by decide +kernel
theorem dX4_usedOf_28 : decode cX4_usedOf 28 = .ok (.iconst 1, 1) := by decide +kernel
theorem dX4_usedOf_29 : decode cX4_usedOf 29 = .ok (.iadd, 1) := by decide +kernel
theorem dX4_usedOf_30 : decode cX4_usedOf 30 = .ok (.goto 4, 3) := by decide +kernel
theorem dX4_usedOf_33 : decode cX4_usedOf 33 = .ok (.iload_n 2, 1) := by decide +kernel
theorem dX4_usedOf_34 : decode cX4_usedOf 34 = .ok (.istore_n 2, 1) := by decide +kernel
theorem dX4_usedOf_35 : decode cX4_usedOf 35 = .ok (.iinc 3 1, 3) := by decide +kernel
theorem dX4_usedOf_38 : decode cX4_usedOf 38 = .ok (.goto (-34), 3) := by decide +kernel
theorem dX4_usedOf_41 : decode cX4_usedOf 41 = .ok (.iload_n 2, 1) := by decide +kernel
theorem dX4_usedOf_42 : decode cX4_usedOf 42 = .ok (.ireturn, 1) := by decide +kernel
theorem dX4_set_0 : decode cX4_set 0 = .ok (.aload_n 0, 1) := by decide +kernel
theorem dX4_set_1 : decode cX4_set 1 = .ok (.getfield 33, 3) := by decide +kernel
theorem dX4_set_4 : decode cX4_set 4 = .ok (.iload_n 1, 1) := by decide +kernel
theorem dX4_set_5 : decode cX4_set 5 = .ok (.iload_n 2, 1) := by decide +kernel
theorem dX4_set_6 : decode cX4_set 6 = .ok (.iastore, 1) := by decide +kernel
theorem dX4_set_7 : decode cX4_set 7 = .ok (.aload_n 0, 1) := by decide +kernel
theorem dX4_set_8 : decode cX4_set 8 = .ok (.getfield 36, 3) := by decide +kernel
theorem dX4_set_11 : decode cX4_set 11 = .ok (.iload_n 1, 1) := by decide +kernel
theorem dX4_set_12 : decode cX4_set 12 = .ok (.iload_n 3, 1) := by decide +kernel
theorem dX4_set_13 : decode cX4_set 13 = .ok (.iastore, 1) := by decide +kernel
theorem dX4_set_14 : decode cX4_set 14 = .ok (.iload_n 1, 1) := by decide +kernel
theorem dX4_set_15 : decode cX4_set 15 = .ok (.ifCond .ne 7, 3) := by decide +kernel
theorem dX4_set_18 : decode cX4_set 18 = .ok (.lconst 0, 1) := by decide +kernel
theorem dX4_set_19 : decode cX4_set 19 = .ok (.goto 11, 3) := by decide +kernel
theorem dX4_set_22 : decode cX4_set 22 = .ok (.aload_n 0, 1) := by decide +kernel
theorem dX4_set_23 : decode cX4_set 23 = .ok (.getfield 46, 3) := by decide +kernel
theorem dX4_set_26 : decode cX4_set 26 = .ok (.iload_n 1, 1) := by decide +kernel
theorem dX4_set_27 : decode cX4_set 27 = .ok (.iconst 1, 1) := by decide +kernel
theorem dX4_set_28 : decode cX4_set 28 = .ok (.isub, 1) := by decide +kernel
theorem dX4_set_29 : decode cX4_set 29 = .ok (.laload, 1) := by decide +kernel
theorem dX4_set_30 : decode cX4_set 30 = .ok (.lstore 4, 2) := by decide +kernel
theorem dX4_set_32 : decode cX4_set 32 = .ok (.iload_n 1, 1) := by decide +kernel
theorem dX4_set_33 : decode cX4_set 33 = .ok (.ifCond .ne 7, 3) := by decide +kernel
theorem dX4_set_36 : decode cX4_set 36 = .ok (.lconst 0, 1) := by decide +kernel
theorem dX4_set_37 : decode cX4_set 37 = .ok (.goto 11, 3) := by decide +kernel
theorem dX4_set_40 : decode cX4_set 40 = .ok (.aload_n 0, 1) := by decide +kernel
theorem dX4_set_41 : decode cX4_set 41 = .ok (.getfield 49, 3) := by decide +kernel
theorem dX4_set_44 : decode cX4_set 44 = .ok (.iload_n 1, 1) := by decide +kernel
theorem dX4_set_45 : decode cX4_set 45 = .ok (.iconst 1, 1) := by decide +kernel
theorem dX4_set_46 : decode cX4_set 46 = .ok (.isub, 1) := by decide +kernel
theorem dX4_set_47 : decode cX4_set 47 = .ok (.laload, 1) := by decide +kernel
theorem dX4_set_48 : decode cX4_set 48 = .ok (.lstore 6, 2) := by decide +kernel
theorem dX4_set_50 : decode cX4_set 50 = .ok (.aload_n 0, 1) := by decide +kernel
theorem dX4_set_51 : decode cX4_set 51 = .ok (.getfield 46, 3) := by decide +kernel
theorem dX4_set_54 : decode cX4_set 54 = .ok (.iload_n 1, 1) := by decide +kernel
theorem dX4_set_55 : decode cX4_set 55 = .ok (.lload 4, 2) := by decide +kernel
theorem dX4_set_57 : decode cX4_set 57 = .ok (.aload_n 0, 1) := by decide +kernel
theorem dX4_set_58 : decode cX4_set 58 = .ok (.getfield 20, 3) := by decide +kernel
theorem dX4_set_61 : decode cX4_set 61 = .ok (.iload_n 2, 1) := by decide +kernel
theorem dX4_set_62 : decode cX4_set 62 = .ok (.iaload, 1) := by decide +kernel
theorem dX4_set_63 : decode cX4_set 63 = .ok (.iload_n 3, 1) := by decide +kernel
theorem dX4_set_64 : decode cX4_set 64 = .ok (.invokestatic 92, 3) := by decide +kernel
theorem dX4_set_67 : decode cX4_set 67 = .ok (.imul, 1) := by decide +kernel
theorem dX4_set_68 : decode cX4_set 68 = .ok (.i2l, 1) := by decide +kernel
theorem dX4_set_69 : decode cX4_set 69 = .ok (.ladd, 1) := by decide +kernel
theorem dX4_set_70 : decode cX4_set 70 = .ok (.lastore, 1) := by decide +kernel
theorem dX4_set_71 : decode cX4_set 71 = .ok (.aload_n 0, 1) := by decide +kernel
theorem dX4_set_72 : decode cX4_set 72 = .ok (.getfield 49, 3) := by decide +kernel
theorem dX4_set_75 : decode cX4_set 75 = .ok (.iload_n 1, 1) := by decide +kernel
theorem dX4_set_76 : decode cX4_set 76 = .ok (.lload 6, 2) := by decide +kernel
theorem dX4_set_78 : decode cX4_set 78 = .ok (.aload_n 0, 1) := by decide +kernel
theorem dX4_set_79 : decode cX4_set 79 = .ok (.getfield 20, 3) := by decide +kernel
theorem dX4_set_82 : decode cX4_set 82 = .ok (.iload_n 2, 1) := by decide +kernel
theorem dX4_set_83 : decode cX4_set 83 = .ok (.iaload, 1) := by decide +kernel
theorem dX4_set_84 : decode cX4_set 84 = .ok (.iload_n 3, 1) := by decide +kernel
theorem dX4_set_85 : decode cX4_set 85 = .ok (.iconst 4, 1) := by decide +kernel
theorem dX4_set_86 : decode cX4_set 86 = .ok (.isub, 1) := by decide +kernel
theorem dX4_set_87 : decode cX4_set 87 = .ok (.invokestatic 92, 3) := by decide +kernel
theorem dX4_set_90 : decode cX4_set 90 = .ok (.imul, 1) := by decide +kernel
theorem dX4_set_91 : decode cX4_set 91 = .ok (.i2l, 1) := by decide +kernel
theorem dX4_set_92 : decode cX4_set 92 = .ok (.ladd, 1) := by decide +kernel
theorem dX4_set_93 : decode cX4_set 93 = .ok (.lastore, 1) := by decide +kernel
theorem dX4_set_94 : decode cX4_set 94 = .ok (.aload_n 0, 1) := by decide +kernel
theorem dX4_set_95 : decode cX4_set 95 = .ok (.getfield 39, 3) := by decide +kernel
theorem dX4_set_98 : decode cX4_set 98 = .ok (.iload_n 1, 1) := by decide +kernel
theorem dX4_set_99 : decode cX4_set 99 = .ok (.iload_n 1, 1) := by decide +kernel
theorem dX4_set_100 : decode cX4_set 100 = .ok (.ifCond .ne 7, 3) := by decide +kernel
theorem dX4_set_103 : decode cX4_set 103 = .ok (.lconst 0, 1) := by decide +kernel
theorem dX4_set_104 : decode cX4_set 104 = .ok (.goto 11, 3) := by decide +kernel
theorem dX4_set_107 : decode cX4_set 107 = .ok (.aload_n 0, 1) := by decide +kernel
theorem dX4_set_108 : decode cX4_set 108 = .ok (.getfield 39, 3) := by decide +kernel
theorem dX4_set_111 : decode cX4_set 111 = .ok (.iload_n 1, 1) := by decide +kernel
theorem dX4_set_112 : decode cX4_set 112 = .ok (.iconst 1, 1) := by decide +kernel
theorem dX4_set_113 : decode cX4_set 113 = .ok (.isub, 1) := by decide +kernel
theorem dX4_set_114 : decode cX4_set 114 = .ok (.laload, 1) := by decide +kernel
theorem dX4_set_115 : decode cX4_set 115 = .ok (.lload 4, 2) := by decide +kernel
theorem dX4_set_117 : decode cX4_set 117 = .ok (.ladd, 1) := by decide +kernel
theorem dX4_set_118 : decode cX4_set 118 = .ok (.aload_n 0, 1) := by decide +kernel
theorem dX4_set_119 : decode cX4_set 119 = .ok (.getfield 46, 3) := by decide +kernel
theorem dX4_set_122 : decode cX4_set 122 = .ok (.iload_n 1, 1) := by decide +kernel
theorem dX4_set_123 : decode cX4_set 123 = .ok (.laload, 1) := by decide +kernel
theorem dX4_set_124 : decode cX4_set 124 = .ok (.ladd, 1) := by decide +kernel
theorem dX4_set_125 : decode cX4_set 125 = .ok (.lastore, 1) := by decide +kernel
theorem dX4_set_126 : decode cX4_set 126 = .ok (.aload_n 0, 1) := by decide +kernel
theorem dX4_set_127 : decode cX4_set 127 = .ok (.getfield 43, 3) := by decide +kernel
theorem dX4_set_130 : decode cX4_set 130 = .ok (.iload_n 1, 1) := by decide +kernel
theorem dX4_set_131 : decode cX4_set 131 = .ok (.iload_n 1, 1) := by decide +kernel
theorem dX4_set_132 : decode cX4_set 132 = .ok (.ifCond .ne 7, 3) := by decide +kernel
theorem dX4_set_135 : decode cX4_set 135 = .ok (.lconst 0, 1) := by decide +kernel
theorem dX4_set_136 : decode cX4_set 136 = .ok (.goto 11, 3) := by decide +kernel
theorem dX4_set_139 : decode cX4_set 139 = .ok (.aload_n 0, 1) := by decide +kernel
theorem dX4_set_140 : decode cX4_set 140 = .ok (.getfield 43, 3) := by decide +kernel
theorem dX4_set_143 : decode cX4_set 143 = .ok (.iload_n 1, 1) := by decide +kernel
theorem dX4_set_144 : decode cX4_set 144 = .ok (.iconst 1, 1) := by decide +kernel
theorem dX4_set_145 : decode cX4_set 145 = .ok (.isub, 1) := by decide +kernel
theorem dX4_set_146 : decode cX4_set 146 = .ok (.laload, 1) := by decide +kernel
theorem dX4_set_147 : decode cX4_set 147 = .ok (.lload 6, 2) := by decide +kernel
theorem dX4_set_149 : decode cX4_set 149 = .ok (.ladd, 1) := by decide +kernel
theorem dX4_set_150 : decode cX4_set 150 = .ok (.aload_n 0, 1) := by decide +kernel
theorem dX4_set_151 : decode cX4_set 151 = .ok (.getfield 49, 3) := by decide +kernel
theorem dX4_set_154 : decode cX4_set 154 = .ok (.iload_n 1, 1) := by decide +kernel
theorem dX4_set_155 : decode cX4_set 155 = .ok (.laload, 1) := by decide +kernel
theorem dX4_set_156 : decode cX4_set 156 = .ok (.ladd, 1) := by decide +kernel
theorem dX4_set_157 : decode cX4_set 157 = .ok (.lastore, 1) := by decide +kernel
theorem dX4_set_158 : decode cX4_set 158 = .ok (.return_, 1) := by decide +kernel
theorem dX4_mayStand_0 : decode cX4_mayStand 0 = .ok (.aload_n 0, 1) := by decide +kernel
theorem dX4_mayStand_1 : decode cX4_mayStand 1 = .ok (.getfield 16, 3) := by decide +kernel
theorem dX4_mayStand_4 : decode cX4_mayStand 4 = .ok (.iload_n 3, 1) := by decide +kernel
theorem dX4_mayStand_5 : decode cX4_mayStand 5 = .ok (.baload, 1) := by decide +kernel
theorem dX4_mayStand_6 : decode cX4_mayStand 6 = .ok (.ifCond .eq 25, 3) := by decide +kernel
theorem dX4_mayStand_9 : decode cX4_mayStand 9 = .ok (.aload_n 0, 1) := by decide +kernel
theorem dX4_mayStand_10 : decode cX4_mayStand 10 = .ok (.getfield 24, 3) := by decide +kernel
theorem dX4_mayStand_13 : decode cX4_mayStand 13 = .ok (.iload_n 2, 1) := by decide +kernel
theorem dX4_mayStand_14 : decode cX4_mayStand 14 = .ok (.iaload, 1) := by decide +kernel
theorem dX4_mayStand_15 : decode cX4_mayStand 15 = .ok (.aload_n 0, 1) := by decide +kernel
theorem dX4_mayStand_16 : decode cX4_mayStand 16 = .ok (.iload_n 2, 1) := by decide +kernel
theorem dX4_mayStand_17 : decode cX4_mayStand 17 = .ok (.invokevirtual 96, 3) := by decide +kernel
theorem dX4_mayStand_20 : decode cX4_mayStand 20 = .ok (.isub, 1) := by decide +kernel
theorem dX4_mayStand_21 : decode cX4_mayStand 21 = .ok (.iload 4, 2) := by decide +kernel
theorem dX4_mayStand_23 : decode cX4_mayStand 23 = .ok (.isub, 1) := by decide +kernel
theorem dX4_mayStand_24 : decode cX4_mayStand 24 = .ok (.ifCond .le 7, 3) := by decide +kernel
theorem dX4_mayStand_27 : decode cX4_mayStand 27 = .ok (.iconst 1, 1) := by decide +kernel
theorem dX4_mayStand_28 : decode cX4_mayStand 28 = .ok (.goto 4, 3) := by decide +kernel
theorem dX4_mayStand_31 : decode cX4_mayStand 31 = .ok (.iconst 0, 1) := by decide +kernel
theorem dX4_mayStand_32 : decode cX4_mayStand 32 = .ok (.istore 5, 2) := by decide +kernel
theorem dX4_mayStand_34 : decode cX4_mayStand 34 = .ok (.iload_n 1, 1) := by decide +kernel
theorem dX4_mayStand_35 : decode cX4_mayStand 35 = .ok (.ifCond .ne 7, 3) := by decide +kernel
theorem dX4_mayStand_38 : decode cX4_mayStand 38 = .ok (.iconst 0, 1) := by decide +kernel
theorem dX4_mayStand_39 : decode cX4_mayStand 39 = .ok (.goto 13, 3) := by decide +kernel
theorem dX4_mayStand_42 : decode cX4_mayStand 42 = .ok (.iload_n 3, 1) := by decide +kernel
theorem dX4_mayStand_43 : decode cX4_mayStand 43 = .ok (.aload_n 0, 1) := by decide +kernel
theorem dX4_mayStand_44 : decode cX4_mayStand 44 = .ok (.getfield 36, 3) := by decide +kernel
theorem dX4_mayStand_47 : decode cX4_mayStand 47 = .ok (.iload_n 1, 1) := by decide +kernel
theorem dX4_mayStand_48 : decode cX4_mayStand 48 = .ok (.iconst 1, 1) := by decide +kernel
theorem dX4_mayStand_49 : decode cX4_mayStand 49 = .ok (.isub, 1) := by decide +kernel
theorem dX4_mayStand_50 : decode cX4_mayStand 50 = .ok (.iaload, 1) := by decide +kernel
theorem dX4_mayStand_51 : decode cX4_mayStand 51 = .ok (.isub, 1) := by decide +kernel
theorem dX4_mayStand_52 : decode cX4_mayStand 52 = .ok (.istore 6, 2) := by decide +kernel
theorem dX4_mayStand_54 : decode cX4_mayStand 54 = .ok (.iload 5, 2) := by decide +kernel
theorem dX4_mayStand_56 : decode cX4_mayStand 56 = .ok (.ifCond .eq 21, 3) := by decide +kernel
theorem dX4_mayStand_59 : decode cX4_mayStand 59 = .ok (.iload_n 1, 1) := by decide +kernel
theorem dX4_mayStand_60 : decode cX4_mayStand 60 = .ok (.ifCond .eq 13, 3) := by decide +kernel
theorem dX4_mayStand_63 : decode cX4_mayStand 63 = .ok (.iload 6, 2) := by decide +kernel
theorem dX4_mayStand_65 : decode cX4_mayStand 65 = .ok (.aload_n 0, 1) := by decide +kernel
theorem dX4_mayStand_66 : decode cX4_mayStand 66 = .ok (.getfield 7, 3) := by decide +kernel
theorem dX4_mayStand_69 : decode cX4_mayStand 69 = .ok (.irem, 1) := by decide +kernel
theorem dX4_mayStand_70 : decode cX4_mayStand 70 = .ok (.ifCond .eq 7, 3) := by decide +kernel
theorem dX4_mayStand_73 : decode cX4_mayStand 73 = .ok (.iconst 1, 1) := by decide +kernel
theorem dX4_mayStand_74 : decode cX4_mayStand 74 = .ok (.goto 4, 3) := by decide +kernel
theorem dX4_mayStand_77 : decode cX4_mayStand 77 = .ok (.iconst 0, 1) := by decide +kernel
theorem dX4_mayStand_78 : decode cX4_mayStand 78 = .ok (.ireturn, 1) := by decide +kernel
theorem dX4_offOf_0 : decode cX4_offOf 0 = .ok (.aload_n 0, 1) := by decide +kernel
theorem dX4_offOf_1 : decode cX4_offOf 1 = .ok (.getfield 39, 3) := by decide +kernel
theorem dX4_offOf_4 : decode cX4_offOf 4 = .ok (.iload_n 1, 1) := by decide +kernel
theorem dX4_offOf_5 : decode cX4_offOf 5 = .ok (.laload, 1) := by decide +kernel
theorem dX4_offOf_6 : decode cX4_offOf 6 = .ok (.aload_n 0, 1) := by decide +kernel
theorem dX4_offOf_7 : decode cX4_offOf 7 = .ok (.getfield 27, 3) := by decide +kernel
theorem dX4_offOf_10 : decode cX4_offOf 10 = .ok (.iload_n 1, 1) := by decide +kernel
theorem dX4_offOf_11 : decode cX4_offOf 11 = .ok (.iaload, 1) := by decide +kernel
theorem dX4_offOf_12 : decode cX4_offOf 12 = .ok (.i2l, 1) := by decide +kernel
theorem dX4_offOf_13 : decode cX4_offOf 13 = .ok (.lsub, 1) := by decide +kernel
theorem dX4_offOf_14 : decode cX4_offOf 14 = .ok (.lstore_n 2, 1) := by decide +kernel
theorem dX4_offOf_15 : decode cX4_offOf 15 = .ok (.aload_n 0, 1) := by decide +kernel
theorem dX4_offOf_16 : decode cX4_offOf 16 = .ok (.getfield 43, 3) := by decide +kernel
theorem dX4_offOf_19 : decode cX4_offOf 19 = .ok (.iload_n 1, 1) := by decide +kernel
theorem dX4_offOf_20 : decode cX4_offOf 20 = .ok (.laload, 1) := by decide +kernel
theorem dX4_offOf_21 : decode cX4_offOf 21 = .ok (.aload_n 0, 1) := by decide +kernel
theorem dX4_offOf_22 : decode cX4_offOf 22 = .ok (.getfield 30, 3) := by decide +kernel
theorem dX4_offOf_25 : decode cX4_offOf 25 = .ok (.iload_n 1, 1) := by decide +kernel
theorem dX4_offOf_26 : decode cX4_offOf 26 = .ok (.iaload, 1) := by decide +kernel
theorem dX4_offOf_27 : decode cX4_offOf 27 = .ok (.i2l, 1) := by decide +kernel
theorem dX4_offOf_28 : decode cX4_offOf 28 = .ok (.lsub, 1) := by decide +kernel
theorem dX4_offOf_29 : decode cX4_offOf 29 = .ok (.lstore 4, 2) := by decide +kernel
theorem dX4_offOf_31 : decode cX4_offOf 31 = .ok (.lload_n 2, 1) := by decide +kernel
theorem dX4_offOf_32 : decode cX4_offOf 32 = .ok (.lload_n 2, 1) := by decide +kernel
theorem dX4_offOf_33 : decode cX4_offOf 33 = .ok (.lmul, 1) := by decide +kernel
theorem dX4_offOf_34 : decode cX4_offOf 34 = .ok (.lload 4, 2) := by decide +kernel
theorem dX4_offOf_36 : decode cX4_offOf 36 = .ok (.lload 4, 2) := by decide +kernel
theorem dX4_offOf_38 : decode cX4_offOf 38 = .ok (.lmul, 1) := by decide +kernel
theorem dX4_offOf_39 : decode cX4_offOf 39 = .ok (.ladd, 1) := by decide +kernel
theorem dX4_offOf_40 : decode cX4_offOf 40 = .ok (.lreturn, 1) := by decide +kernel
theorem dX4_note_0 : decode cX4_note 0 = .ok (.iload_n 1, 1) := by decide +kernel
theorem dX4_note_1 : decode cX4_note 1 = .ok (.aload_n 0, 1) := by decide +kernel
theorem dX4_note_2 : decode cX4_note 2 = .ok (.getfield 99, 3) := by decide +kernel
theorem dX4_note_5 : decode cX4_note 5 = .ok (.if_icmp .gt 20, 3) := by decide +kernel
theorem dX4_note_8 : decode cX4_note 8 = .ok (.iload_n 1, 1) := by decide +kernel
theorem dX4_note_9 : decode cX4_note 9 = .ok (.aload_n 0, 1) := by decide +kernel
theorem dX4_note_10 : decode cX4_note 10 = .ok (.getfield 99, 3) := by decide +kernel
theorem dX4_note_13 : decode cX4_note 13 = .ok (.if_icmp .ne 34, 3) := by decide +kernel
theorem dX4_note_16 : decode cX4_note 16 = .ok (.lload_n 2, 1) := by decide +kernel
theorem dX4_note_17 : decode cX4_note 17 = .ok (.aload_n 0, 1) := by decide +kernel
theorem dX4_note_18 : decode cX4_note 18 = .ok (.getfield 102, 3) := by decide +kernel
theorem dX4_note_21 : decode cX4_note 21 = .ok (.lcmp, 1) := by decide +kernel
theorem dX4_note_22 : decode cX4_note 22 = .ok (.ifCond .ge 25, 3) := by decide +kernel
theorem dX4_note_25 : decode cX4_note 25 = .ok (.aload_n 0, 1) := by decide +kernel
theorem dX4_note_26 : decode cX4_note 26 = .ok (.iload_n 1, 1) := by decide +kernel
theorem dX4_note_27 : decode cX4_note 27 = .ok (.putfield 99, 3) := by decide +kernel
theorem dX4_note_30 : decode cX4_note 30 = .ok (.aload_n 0, 1) := by decide +kernel
theorem dX4_note_31 : decode cX4_note 31 = .ok (.lload_n 2, 1) := by decide +kernel
theorem dX4_note_32 : decode cX4_note 32 = .ok (.putfield 102, 3) := by decide +kernel
theorem dX4_note_35 : decode cX4_note 35 = .ok (.aload_n 0, 1) := by decide +kernel
theorem dX4_note_36 : decode cX4_note 36 = .ok (.iload 4, 2) := by decide +kernel
theorem dX4_note_38 : decode cX4_note 38 = .ok (.putfield 106, 3) := by decide +kernel
theorem dX4_note_41 : decode cX4_note 41 = .ok (.aload_n 0, 1) := by decide +kernel
theorem dX4_note_42 : decode cX4_note 42 = .ok (.iload 5, 2) := by decide +kernel
theorem dX4_note_44 : decode cX4_note 44 = .ok (.putfield 109, 3) := by decide +kernel
theorem dX4_note_47 : decode cX4_note 47 = .ok (.return_, 1) := by decide +kernel
theorem dX4_trySecond_0 : decode cX4_trySecond 0 = .ok (.iconst 0, 1) := by decide +kernel
theorem dX4_trySecond_1 : decode cX4_trySecond 1 = .ok (.istore 6, 2) := by decide +kernel
theorem dX4_trySecond_3 : decode cX4_trySecond 3 = .ok (.iload 6, 2) := by decide +kernel
theorem dX4_trySecond_5 : decode cX4_trySecond 5 = .ok (.aload_n 0, 1) := by decide +kernel
theorem dX4_trySecond_6 : decode cX4_trySecond 6 = .ok (.getfield 58, 3) := by decide +kernel
theorem dX4_trySecond_9 : decode cX4_trySecond 9 = .ok (.if_icmp .ge 74, 3) := by decide +kernel
theorem dX4_trySecond_12 : decode cX4_trySecond 12 = .ok (.iconst 0, 1) := by decide +kernel
theorem dX4_trySecond_13 : decode cX4_trySecond 13 = .ok (.istore 7, 2) := by decide +kernel
theorem dX4_trySecond_15 : decode cX4_trySecond 15 = .ok (.iload 7, 2) := by decide +kernel
theorem dX4_trySecond_17 : decode cX4_trySecond 17 = .ok (.bipush 16, 2) := by decide +kernel
theorem dX4_trySecond_19 : decode cX4_trySecond 19 = .ok (.if_icmp .ge 58, 3) := by decide +kernel
theorem dX4_trySecond_22 : decode cX4_trySecond 22 = .ok (.aload_n 0, 1) := by decide +kernel
theorem dX4_trySecond_23 : decode cX4_trySecond 23 = .ok (.iload_n 1, 1) := by decide +kernel
theorem dX4_trySecond_24 : decode cX4_trySecond 24 = .ok (.iload 6, 2) := by decide +kernel
theorem dX4_trySecond_26 : decode cX4_trySecond 26 = .ok (.iload 7, 2) := by decide +kernel
theorem dX4_trySecond_28 : decode cX4_trySecond 28 = .ok (.iload 6, 2) := by decide +kernel
theorem dX4_trySecond_30 : decode cX4_trySecond 30 = .ok (.iload 4, 2) := by decide +kernel
theorem dX4_trySecond_32 : decode cX4_trySecond 32 = .ok (.if_icmp .ne 7, 3) := by decide +kernel
theorem dX4_trySecond_35 : decode cX4_trySecond 35 = .ok (.iconst 1, 1) := by decide +kernel
theorem dX4_trySecond_36 : decode cX4_trySecond 36 = .ok (.goto 4, 3) := by decide +kernel
theorem dX4_trySecond_39 : decode cX4_trySecond 39 = .ok (.iconst 0, 1) := by decide +kernel
theorem dX4_trySecond_40 : decode cX4_trySecond 40 = .ok (.invokevirtual 112, 3) := by decide +kernel
theorem dX4_trySecond_43 : decode cX4_trySecond 43 = .ok (.ifCond .eq 28, 3) := by decide +kernel
theorem dX4_trySecond_46 : decode cX4_trySecond 46 = .ok (.aload_n 0, 1) := by decide +kernel
theorem dX4_trySecond_47 : decode cX4_trySecond 47 = .ok (.iload_n 1, 1) := by decide +kernel
theorem dX4_trySecond_48 : decode cX4_trySecond 48 = .ok (.iload 6, 2) := by decide +kernel
theorem dX4_trySecond_50 : decode cX4_trySecond 50 = .ok (.iload 7, 2) := by decide +kernel
theorem dX4_trySecond_52 : decode cX4_trySecond 52 = .ok (.invokevirtual 116, 3) := by decide +kernel
theorem dX4_trySecond_55 : decode cX4_trySecond 55 = .ok (.aload_n 0, 1) := by decide +kernel
theorem dX4_trySecond_56 : decode cX4_trySecond 56 = .ok (.iconst 2, 1) := by decide +kernel
theorem dX4_trySecond_57 : decode cX4_trySecond 57 = .ok (.lload_n 2, 1) := by decide +kernel
theorem dX4_trySecond_58 : decode cX4_trySecond 58 = .ok (.aload_n 0, 1) := by decide +kernel
theorem dX4_trySecond_59 : decode cX4_trySecond 59 = .ok (.iload_n 1, 1) := by decide +kernel
theorem dX4_trySecond_60 : decode cX4_trySecond 60 = .ok (.invokevirtual 120, 3) := by decide +kernel
theorem dX4_trySecond_63 : decode cX4_trySecond 63 = .ok (.ladd, 1) := by decide +kernel
theorem dX4_trySecond_64 : decode cX4_trySecond 64 = .ok (.iload 4, 2) := by decide +kernel
theorem dX4_trySecond_66 : decode cX4_trySecond 66 = .ok (.iload 5, 2) := by decide +kernel
theorem dX4_trySecond_68 : decode cX4_trySecond 68 = .ok (.invokevirtual 124, 3) := by decide +kernel
theorem dX4_trySecond_71 : decode cX4_trySecond 71 = .ok (.iinc 7 1, 3) := by decide +kernel
theorem dX4_trySecond_74 : decode cX4_trySecond 74 = .ok (.goto (-59), 3) := by decide +kernel
theorem dX4_trySecond_77 : decode cX4_trySecond 77 = .ok (.iinc 6 1, 3) := by decide +kernel
theorem dX4_trySecond_80 : decode cX4_trySecond 80 = .ok (.goto (-77), 3) := by decide +kernel
theorem dX4_trySecond_83 : decode cX4_trySecond 83 = .ok (.return_, 1) := by decide +kernel
theorem dX4_planOne_0 : decode cX4_planOne 0 = .ok (.aload_n 0, 1) := by decide +kernel
theorem dX4_planOne_1 : decode cX4_planOne 1 = .ok (.getfield 61, 3) := by decide +kernel
theorem dX4_planOne_4 : decode cX4_planOne 4 = .ok (.aload_n 0, 1) := by decide +kernel
theorem dX4_planOne_5 : decode cX4_planOne 5 = .ok (.getfield 64, 3) := by decide +kernel
theorem dX4_planOne_8 : decode cX4_planOne 8 = .ok (.iadd, 1) := by decide +kernel
theorem dX4_planOne_9 : decode cX4_planOne 9 = .ok (.istore_n 1, 1) := by decide +kernel
theorem dX4_planOne_10 : decode cX4_planOne 10 = .ok (.aload_n 0, 1) := by decide +kernel
theorem dX4_planOne_11 : decode cX4_planOne 11 = .ok (.iconst 0, 1) := by decide +kernel
theorem dX4_planOne_12 : decode cX4_planOne 12 = .ok (.putfield 99, 3) := by decide +kernel
theorem dX4_planOne_15 : decode cX4_planOne 15 = .ok (.iconst 0, 1) := by decide +kernel
theorem dX4_planOne_16 : decode cX4_planOne 16 = .ok (.istore_n 2, 1) := by decide +kernel
theorem dX4_planOne_17 : decode cX4_planOne 17 = .ok (.iload_n 2, 1) := by decide +kernel
theorem dX4_planOne_18 : decode cX4_planOne 18 = .ok (.aload_n 0, 1) := by decide +kernel
theorem dX4_planOne_19 : decode cX4_planOne 19 = .ok (.getfield 58, 3) := by decide +kernel
theorem dX4_planOne_22 : decode cX4_planOne 22 = .ok (.if_icmp .ge 89, 3) := by decide +kernel
theorem dX4_planOne_25 : decode cX4_planOne 25 = .ok (.iconst 0, 1) := by decide +kernel
theorem dX4_planOne_26 : decode cX4_planOne 26 = .ok (.istore_n 3, 1) := by decide +kernel
theorem dX4_planOne_27 : decode cX4_planOne 27 = .ok (.iload_n 3, 1) := by decide +kernel
theorem dX4_planOne_28 : decode cX4_planOne 28 = .ok (.bipush 16, 2) := by decide +kernel
theorem dX4_planOne_30 : decode cX4_planOne 30 = .ok (.if_icmp .ge 75, 3) := by decide +kernel
theorem dX4_planOne_33 : decode cX4_planOne 33 = .ok (.aload_n 0, 1) := by decide +kernel
theorem dX4_planOne_34 : decode cX4_planOne 34 = .ok (.iload_n 1, 1) := by decide +kernel
theorem dX4_planOne_35 : decode cX4_planOne 35 = .ok (.iload_n 2, 1) := by decide +kernel
theorem dX4_planOne_36 : decode cX4_planOne 36 = .ok (.iload_n 3, 1) := by decide +kernel
theorem dX4_planOne_37 : decode cX4_planOne 37 = .ok (.iconst 0, 1) := by decide +kernel
theorem dX4_planOne_38 : decode cX4_planOne 38 = .ok (.invokevirtual 112, 3) := by decide +kernel
theorem dX4_planOne_41 : decode cX4_planOne 41 = .ok (.ifCond .ne 6, 3) := by decide +kernel
theorem dX4_planOne_44 : decode cX4_planOne 44 = .ok (.goto 55, 3) := by decide +kernel
theorem dX4_planOne_47 : decode cX4_planOne 47 = .ok (.aload_n 0, 1) := by decide +kernel
theorem dX4_planOne_48 : decode cX4_planOne 48 = .ok (.iload_n 1, 1) := by decide +kernel
theorem dX4_planOne_49 : decode cX4_planOne 49 = .ok (.iload_n 2, 1) := by decide +kernel
theorem dX4_planOne_50 : decode cX4_planOne 50 = .ok (.iload_n 3, 1) := by decide +kernel
theorem dX4_planOne_51 : decode cX4_planOne 51 = .ok (.invokevirtual 116, 3) := by decide +kernel
theorem dX4_planOne_54 : decode cX4_planOne 54 = .ok (.aload_n 0, 1) := by decide +kernel
theorem dX4_planOne_55 : decode cX4_planOne 55 = .ok (.iload_n 1, 1) := by decide +kernel
theorem dX4_planOne_56 : decode cX4_planOne 56 = .ok (.invokevirtual 120, 3) := by decide +kernel
theorem dX4_planOne_59 : decode cX4_planOne 59 = .ok (.lstore 4, 2) := by decide +kernel
theorem dX4_planOne_61 : decode cX4_planOne 61 = .ok (.aload_n 0, 1) := by decide +kernel
theorem dX4_planOne_62 : decode cX4_planOne 62 = .ok (.iconst 1, 1) := by decide +kernel
theorem dX4_planOne_63 : decode cX4_planOne 63 = .ok (.lload 4, 2) := by decide +kernel
theorem dX4_planOne_65 : decode cX4_planOne 65 = .ok (.iload_n 2, 1) := by decide +kernel
theorem dX4_planOne_66 : decode cX4_planOne 66 = .ok (.iload_n 3, 1) := by decide +kernel
theorem dX4_planOne_67 : decode cX4_planOne 67 = .ok (.invokevirtual 124, 3) := by decide +kernel
theorem dX4_planOne_70 : decode cX4_planOne 70 = .ok (.aload_n 0, 1) := by decide +kernel
theorem dX4_planOne_71 : decode cX4_planOne 71 = .ok (.getfield 13, 3) := by decide +kernel
theorem dX4_planOne_74 : decode cX4_planOne 74 = .ok (.iconst 2, 1) := by decide +kernel
theorem dX4_planOne_75 : decode cX4_planOne 75 = .ok (.if_icmp .ne 24, 3) := by decide +kernel
theorem dX4_planOne_78 : decode cX4_planOne 78 = .ok (.iload_n 1, 1) := by decide +kernel
theorem dX4_planOne_79 : decode cX4_planOne 79 = .ok (.iconst 1, 1) := by decide +kernel
theorem dX4_planOne_80 : decode cX4_planOne 80 = .ok (.iadd, 1) := by decide +kernel
theorem dX4_planOne_81 : decode cX4_planOne 81 = .ok (.aload_n 0, 1) := by decide +kernel
theorem dX4_planOne_82 : decode cX4_planOne 82 = .ok (.getfield 52, 3) := by decide +kernel
theorem dX4_planOne_85 : decode cX4_planOne 85 = .ok (.if_icmp .ge 14, 3) := by decide +kernel
theorem dX4_planOne_88 : decode cX4_planOne 88 = .ok (.aload_n 0, 1) := by decide +kernel
theorem dX4_planOne_89 : decode cX4_planOne 89 = .ok (.iload_n 1, 1) := by decide +kernel
theorem dX4_planOne_90 : decode cX4_planOne 90 = .ok (.iconst 1, 1) := by decide +kernel
theorem dX4_planOne_91 : decode cX4_planOne 91 = .ok (.iadd, 1) := by decide +kernel
theorem dX4_planOne_92 : decode cX4_planOne 92 = .ok (.lload 4, 2) := by decide +kernel
theorem dX4_planOne_94 : decode cX4_planOne 94 = .ok (.iload_n 2, 1) := by decide +kernel
theorem dX4_planOne_95 : decode cX4_planOne 95 = .ok (.iload_n 3, 1) := by decide +kernel
theorem dX4_planOne_96 : decode cX4_planOne 96 = .ok (.invokevirtual 128, 3) := by decide +kernel
theorem dX4_planOne_99 : decode cX4_planOne 99 = .ok (.iinc 3 1, 3) := by decide +kernel
theorem dX4_planOne_102 : decode cX4_planOne 102 = .ok (.goto (-75), 3) := by decide +kernel
theorem dX4_planOne_105 : decode cX4_planOne 105 = .ok (.iinc 2 1, 3) := by decide +kernel
theorem dX4_planOne_108 : decode cX4_planOne 108 = .ok (.goto (-91), 3) := by decide +kernel
theorem dX4_planOne_111 : decode cX4_planOne 111 = .ok (.aload_n 0, 1) := by decide +kernel
theorem dX4_planOne_112 : decode cX4_planOne 112 = .ok (.getfield 99, 3) := by decide +kernel
theorem dX4_planOne_115 : decode cX4_planOne 115 = .ok (.ifCond .ne 5, 3) := by decide +kernel
theorem dX4_planOne_118 : decode cX4_planOne 118 = .ok (.iconst 0, 1) := by decide +kernel
theorem dX4_planOne_119 : decode cX4_planOne 119 = .ok (.ireturn, 1) := by decide +kernel
theorem dX4_planOne_120 : decode cX4_planOne 120 = .ok (.aload_n 0, 1) := by decide +kernel
theorem dX4_planOne_121 : decode cX4_planOne 121 = .ok (.iload_n 1, 1) := by decide +kernel
theorem dX4_planOne_122 : decode cX4_planOne 122 = .ok (.aload_n 0, 1) := by decide +kernel
theorem dX4_planOne_123 : decode cX4_planOne 123 = .ok (.getfield 106, 3) := by decide +kernel
theorem dX4_planOne_126 : decode cX4_planOne 126 = .ok (.aload_n 0, 1) := by decide +kernel
theorem dX4_planOne_127 : decode cX4_planOne 127 = .ok (.getfield 109, 3) := by decide +kernel
theorem dX4_planOne_130 : decode cX4_planOne 130 = .ok (.invokevirtual 116, 3) := by decide +kernel
theorem dX4_planOne_133 : decode cX4_planOne 133 = .ok (.aload_n 0, 1) := by decide +kernel
theorem dX4_planOne_134 : decode cX4_planOne 134 = .ok (.dup, 1) := by decide +kernel
theorem dX4_planOne_135 : decode cX4_planOne 135 = .ok (.getfield 64, 3) := by decide +kernel
theorem dX4_planOne_138 : decode cX4_planOne 138 = .ok (.iconst 1, 1) := by decide +kernel
theorem dX4_planOne_139 : decode cX4_planOne 139 = .ok (.iadd, 1) := by decide +kernel
theorem dX4_planOne_140 : decode cX4_planOne 140 = .ok (.putfield 64, 3) := by decide +kernel
theorem dX4_planOne_143 : decode cX4_planOne 143 = .ok (.iconst 1, 1) := by decide +kernel
theorem dX4_planOne_144 : decode cX4_planOne 144 = .ok (.ireturn, 1) := by decide +kernel
theorem dX4_run_0 : decode cX4_run 0 = .ok (.aload_n 0, 1) := by decide +kernel
theorem dX4_run_1 : decode cX4_run 1 = .ok (.iconst 0, 1) := by decide +kernel
theorem dX4_run_2 : decode cX4_run 2 = .ok (.putfield 55, 3) := by decide +kernel
theorem dX4_run_5 : decode cX4_run 5 = .ok (.aload_n 0, 1) := by decide +kernel
theorem dX4_run_6 : decode cX4_run 6 = .ok (.dup, 1) := by decide +kernel
theorem dX4_run_7 : decode cX4_run 7 = .ok (.getfield 131, 3) := by decide +kernel
theorem dX4_run_10 : decode cX4_run 10 = .ok (.iconst 1, 1) := by decide +kernel
theorem dX4_run_11 : decode cX4_run 11 = .ok (.iadd, 1) := by decide +kernel
theorem dX4_run_12 : decode cX4_run 12 = .ok (.putfield 131, 3) := by decide +kernel
theorem dX4_run_15 : decode cX4_run 15 = .ok (.aload_n 0, 1) := by decide +kernel
theorem dX4_run_16 : decode cX4_run 16 = .ok (.iconst 0, 1) := by decide +kernel
theorem dX4_run_17 : decode cX4_run 17 = .ok (.putfield 64, 3) := by decide +kernel
theorem dX4_run_20 : decode cX4_run 20 = .ok (.iconst 1, 1) := by decide +kernel
theorem dX4_run_21 : decode cX4_run 21 = .ok (.istore_n 1, 1) := by decide +kernel
theorem dX4_run_22 : decode cX4_run 22 = .ok (.iload_n 1, 1) := by decide +kernel
theorem dX4_run_23 : decode cX4_run 23 = .ok (.ifCond .eq 35, 3) := by decide +kernel
theorem dX4_run_26 : decode cX4_run 26 = .ok (.aload_n 0, 1) := by decide +kernel
theorem dX4_run_27 : decode cX4_run 27 = .ok (.getfield 61, 3) := by decide +kernel
theorem dX4_run_30 : decode cX4_run 30 = .ok (.aload_n 0, 1) := by decide +kernel
theorem dX4_run_31 : decode cX4_run 31 = .ok (.getfield 64, 3) := by decide +kernel
theorem dX4_run_34 : decode cX4_run 34 = .ok (.iadd, 1) := by decide +kernel
theorem dX4_run_35 : decode cX4_run 35 = .ok (.aload_n 0, 1) := by decide +kernel
theorem dX4_run_36 : decode cX4_run 36 = .ok (.getfield 52, 3) := by decide +kernel
theorem dX4_run_39 : decode cX4_run 39 = .ok (.if_icmp .ge 14, 3) := by decide +kernel
theorem dX4_run_42 : decode cX4_run 42 = .ok (.aload_n 0, 1) := by decide +kernel
theorem dX4_run_43 : decode cX4_run 43 = .ok (.invokevirtual 134, 3) := by decide +kernel
theorem dX4_run_46 : decode cX4_run 46 = .ok (.ifCond .eq 7, 3) := by decide +kernel
theorem dX4_run_49 : decode cX4_run 49 = .ok (.iconst 1, 1) := by decide +kernel
theorem dX4_run_50 : decode cX4_run 50 = .ok (.goto 4, 3) := by decide +kernel
theorem dX4_run_53 : decode cX4_run 53 = .ok (.iconst 0, 1) := by decide +kernel
theorem dX4_run_54 : decode cX4_run 54 = .ok (.istore_n 1, 1) := by decide +kernel
theorem dX4_run_55 : decode cX4_run 55 = .ok (.goto (-33), 3) := by decide +kernel
theorem dX4_run_58 : decode cX4_run 58 = .ok (.aload_n 0, 1) := by decide +kernel
theorem dX4_run_59 : decode cX4_run 59 = .ok (.getfield 64, 3) := by decide +kernel
theorem dX4_run_62 : decode cX4_run 62 = .ok (.ireturn, 1) := by decide +kernel
theorem dX4_build_0 : decode cX4_build 0 = .ok (.aload_n 0, 1) := by decide +kernel
theorem dX4_build_1 : decode cX4_build 1 = .ok (.iconst 0, 1) := by decide +kernel
theorem dX4_build_2 : decode cX4_build 2 = .ok (.putfield 55, 3) := by decide +kernel
theorem dX4_build_5 : decode cX4_build 5 = .ok (.iload_n 1, 1) := by decide +kernel
theorem dX4_build_6 : decode cX4_build 6 = .ok (.iconst 1, 1) := by decide +kernel
theorem dX4_build_7 : decode cX4_build 7 = .ok (.if_icmp .ge 6, 3) := by decide +kernel
theorem dX4_build_10 : decode cX4_build 10 = .ok (.bipush (-2), 2) := by decide +kernel
theorem dX4_build_12 : decode cX4_build 12 = .ok (.ireturn, 1) := by decide +kernel
theorem dX4_build_13 : decode cX4_build 13 = .ok (.iload_n 1, 1) := by decide +kernel
theorem dX4_build_14 : decode cX4_build 14 = .ok (.aload_n 0, 1) := by decide +kernel
theorem dX4_build_15 : decode cX4_build 15 = .ok (.getfield 64, 3) := by decide +kernel
theorem dX4_build_18 : decode cX4_build 18 = .ok (.if_icmp .le 6, 3) := by decide +kernel
theorem dX4_build_21 : decode cX4_build 21 = .ok (.bipush (-3), 2) := by decide +kernel
theorem dX4_build_23 : decode cX4_build 23 = .ok (.ireturn, 1) := by decide +kernel
theorem dX4_build_24 : decode cX4_build 24 = .ok (.aload_n 0, 1) := by decide +kernel
theorem dX4_build_25 : decode cX4_build 25 = .ok (.dup, 1) := by decide +kernel
theorem dX4_build_26 : decode cX4_build 26 = .ok (.getfield 61, 3) := by decide +kernel
theorem dX4_build_29 : decode cX4_build 29 = .ok (.iload_n 1, 1) := by decide +kernel
theorem dX4_build_30 : decode cX4_build 30 = .ok (.iadd, 1) := by decide +kernel
theorem dX4_build_31 : decode cX4_build 31 = .ok (.putfield 61, 3) := by decide +kernel
theorem dX4_build_34 : decode cX4_build 34 = .ok (.aload_n 0, 1) := by decide +kernel
theorem dX4_build_35 : decode cX4_build 35 = .ok (.dup, 1) := by decide +kernel
theorem dX4_build_36 : decode cX4_build 36 = .ok (.getfield 64, 3) := by decide +kernel
theorem dX4_build_39 : decode cX4_build 39 = .ok (.iload_n 1, 1) := by decide +kernel
theorem dX4_build_40 : decode cX4_build 40 = .ok (.isub, 1) := by decide +kernel
theorem dX4_build_41 : decode cX4_build 41 = .ok (.putfield 64, 3) := by decide +kernel
theorem dX4_build_44 : decode cX4_build 44 = .ok (.aload_n 0, 1) := by decide +kernel
theorem dX4_build_45 : decode cX4_build 45 = .ok (.getfield 61, 3) := by decide +kernel
theorem dX4_build_48 : decode cX4_build 48 = .ok (.ireturn, 1) := by decide +kernel
theorem dX4_survey_0 : decode cX4_survey 0 = .ok (.aload_n 0, 1) := by decide +kernel
theorem dX4_survey_1 : decode cX4_survey 1 = .ok (.aload_n 0, 1) := by decide +kernel
theorem dX4_survey_2 : decode cX4_survey 2 = .ok (.iload_n 1, 1) := by decide +kernel
theorem dX4_survey_3 : decode cX4_survey 3 = .ok (.invokevirtual 79, 3) := by decide +kernel
theorem dX4_survey_6 : decode cX4_survey 6 = .ok (.ifCond .eq 7, 3) := by decide +kernel
theorem dX4_survey_9 : decode cX4_survey 9 = .ok (.iconst 0, 1) := by decide +kernel
theorem dX4_survey_10 : decode cX4_survey 10 = .ok (.goto 4, 3) := by decide +kernel
theorem dX4_survey_13 : decode cX4_survey 13 = .ok (.iconst 1, 1) := by decide +kernel
theorem dX4_survey_14 : decode cX4_survey 14 = .ok (.putfield 55, 3) := by decide +kernel
theorem dX4_survey_17 : decode cX4_survey 17 = .ok (.aload_n 0, 1) := by decide +kernel
theorem dX4_survey_18 : decode cX4_survey 18 = .ok (.getfield 55, 3) := by decide +kernel
theorem dX4_survey_21 : decode cX4_survey 21 = .ok (.ifCond .le 5, 3) := by decide +kernel
theorem dX4_survey_24 : decode cX4_survey 24 = .ok (.iconst 0, 1) := by decide +kernel
theorem dX4_survey_25 : decode cX4_survey 25 = .ok (.ireturn, 1) := by decide +kernel
theorem dX4_survey_26 : decode cX4_survey 26 = .ok (.iload_n 2, 1) := by decide +kernel
theorem dX4_survey_27 : decode cX4_survey 27 = .ok (.i2l, 1) := by decide +kernel
theorem dX4_survey_28 : decode cX4_survey 28 = .ok (.ldc2_w 138, 3) := by decide +kernel
theorem dX4_survey_31 : decode cX4_survey 31 = .ok (.ldc2_w 140, 3) := by decide +kernel
theorem dX4_survey_34 : decode cX4_survey 34 = .ok (.invokestatic 69, 3) := by decide +kernel
theorem dX4_survey_37 : decode cX4_survey 37 = .ok (.ifCond .eq 17, 3) := by decide +kernel
theorem dX4_survey_40 : decode cX4_survey 40 = .ok (.iload_n 3, 1) := by decide +kernel
theorem dX4_survey_41 : decode cX4_survey 41 = .ok (.i2l, 1) := by decide +kernel
theorem dX4_survey_42 : decode cX4_survey 42 = .ok (.ldc2_w 138, 3) := by decide +kernel
theorem dX4_survey_45 : decode cX4_survey 45 = .ok (.ldc2_w 140, 3) := by decide +kernel
theorem dX4_survey_48 : decode cX4_survey 48 = .ok (.invokestatic 69, 3) := by decide +kernel
theorem dX4_survey_51 : decode cX4_survey 51 = .ok (.ifCond .ne 6, 3) := by decide +kernel
theorem dX4_survey_54 : decode cX4_survey 54 = .ok (.bipush (-2), 2) := by decide +kernel
theorem dX4_survey_56 : decode cX4_survey 56 = .ok (.ireturn, 1) := by decide +kernel
theorem dX4_survey_57 : decode cX4_survey 57 = .ok (.iload_n 1, 1) := by decide +kernel
theorem dX4_survey_58 : decode cX4_survey 58 = .ok (.aload_n 0, 1) := by decide +kernel
theorem dX4_survey_59 : decode cX4_survey 59 = .ok (.getfield 61, 3) := by decide +kernel
theorem dX4_survey_62 : decode cX4_survey 62 = .ok (.if_icmp .lt 6, 3) := by decide +kernel
theorem dX4_survey_65 : decode cX4_survey 65 = .ok (.bipush (-3), 2) := by decide +kernel
theorem dX4_survey_67 : decode cX4_survey 67 = .ok (.ireturn, 1) := by decide +kernel
theorem dX4_survey_68 : decode cX4_survey 68 = .ok (.iload_n 1, 1) := by decide +kernel
theorem dX4_survey_69 : decode cX4_survey 69 = .ok (.istore 4, 2) := by decide +kernel
theorem dX4_survey_71 : decode cX4_survey 71 = .ok (.iload 4, 2) := by decide +kernel
theorem dX4_survey_73 : decode cX4_survey 73 = .ok (.aload_n 0, 1) := by decide +kernel
theorem dX4_survey_74 : decode cX4_survey 74 = .ok (.getfield 61, 3) := by decide +kernel
theorem dX4_survey_77 : decode cX4_survey 77 = .ok (.if_icmp .ge 33, 3) := by decide +kernel
theorem dX4_survey_80 : decode cX4_survey 80 = .ok (.aload_n 0, 1) := by decide +kernel
theorem dX4_survey_81 : decode cX4_survey 81 = .ok (.getfield 39, 3) := by decide +kernel
theorem dX4_survey_84 : decode cX4_survey 84 = .ok (.iload 4, 2) := by decide +kernel
theorem dX4_survey_86 : decode cX4_survey 86 = .ok (.dup2, 1) := by decide +kernel
theorem dX4_survey_87 : decode cX4_survey 87 = .ok (.laload, 1) := by decide +kernel
theorem dX4_survey_88 : decode cX4_survey 88 = .ok (.iload_n 2, 1) := by decide +kernel
theorem dX4_survey_89 : decode cX4_survey 89 = .ok (.i2l, 1) := by decide +kernel
theorem dX4_survey_90 : decode cX4_survey 90 = .ok (.ladd, 1) := by decide +kernel
theorem dX4_survey_91 : decode cX4_survey 91 = .ok (.lastore, 1) := by decide +kernel
theorem dX4_survey_92 : decode cX4_survey 92 = .ok (.aload_n 0, 1) := by decide +kernel
theorem dX4_survey_93 : decode cX4_survey 93 = .ok (.getfield 43, 3) := by decide +kernel
theorem dX4_survey_96 : decode cX4_survey 96 = .ok (.iload 4, 2) := by decide +kernel
theorem dX4_survey_98 : decode cX4_survey 98 = .ok (.dup2, 1) := by decide +kernel
theorem dX4_survey_99 : decode cX4_survey 99 = .ok (.laload, 1) := by decide +kernel
theorem dX4_survey_100 : decode cX4_survey 100 = .ok (.iload_n 3, 1) := by decide +kernel
theorem dX4_survey_101 : decode cX4_survey 101 = .ok (.i2l, 1) := by decide +kernel
theorem dX4_survey_102 : decode cX4_survey 102 = .ok (.ladd, 1) := by decide +kernel
theorem dX4_survey_103 : decode cX4_survey 103 = .ok (.lastore, 1) := by decide +kernel
theorem dX4_survey_104 : decode cX4_survey 104 = .ok (.iinc 4 1, 3) := by decide +kernel
theorem dX4_survey_107 : decode cX4_survey 107 = .ok (.goto (-36), 3) := by decide +kernel
theorem dX4_survey_110 : decode cX4_survey 110 = .ok (.aload_n 0, 1) := by decide +kernel
theorem dX4_survey_111 : decode cX4_survey 111 = .ok (.iconst 0, 1) := by decide +kernel
theorem dX4_survey_112 : decode cX4_survey 112 = .ok (.putfield 64, 3) := by decide +kernel
theorem dX4_survey_115 : decode cX4_survey 115 = .ok (.aload_n 0, 1) := by decide +kernel
theorem dX4_survey_116 : decode cX4_survey 116 = .ok (.getfield 61, 3) := by decide +kernel
theorem dX4_survey_119 : decode cX4_survey 119 = .ok (.iload_n 1, 1) := by decide +kernel
theorem dX4_survey_120 : decode cX4_survey 120 = .ok (.isub, 1) := by decide +kernel
theorem dX4_survey_121 : decode cX4_survey 121 = .ok (.ireturn, 1) := by decide +kernel
theorem dX4_replace_0 : decode cX4_replace 0 = .ok (.aload_n 0, 1) := by decide +kernel
theorem dX4_replace_1 : decode cX4_replace 1 = .ok (.aload_n 0, 1) := by decide +kernel
theorem dX4_replace_2 : decode cX4_replace 2 = .ok (.iload_n 1, 1) := by decide +kernel
theorem dX4_replace_3 : decode cX4_replace 3 = .ok (.invokevirtual 79, 3) := by decide +kernel
theorem dX4_replace_6 : decode cX4_replace 6 = .ok (.ifCond .eq 7, 3) := by decide +kernel
theorem dX4_replace_9 : decode cX4_replace 9 = .ok (.iconst 0, 1) := by decide +kernel
theorem dX4_replace_10 : decode cX4_replace 10 = .ok (.goto 4, 3) := by decide +kernel
theorem dX4_replace_13 : decode cX4_replace 13 = .ok (.iconst 1, 1) := by decide +kernel
theorem dX4_replace_14 : decode cX4_replace 14 = .ok (.putfield 55, 3) := by decide +kernel
theorem dX4_replace_17 : decode cX4_replace 17 = .ok (.aload_n 0, 1) := by decide +kernel
theorem dX4_replace_18 : decode cX4_replace 18 = .ok (.getfield 55, 3) := by decide +kernel
theorem dX4_replace_21 : decode cX4_replace 21 = .ok (.ifCond .le 5, 3) := by decide +kernel
theorem dX4_replace_24 : decode cX4_replace 24 = .ok (.iconst 0, 1) := by decide +kernel
theorem dX4_replace_25 : decode cX4_replace 25 = .ok (.ireturn, 1) := by decide +kernel
theorem dX4_replace_26 : decode cX4_replace 26 = .ok (.aload_n 0, 1) := by decide +kernel
theorem dX4_replace_27 : decode cX4_replace 27 = .ok (.iload_n 2, 1) := by decide +kernel
theorem dX4_replace_28 : decode cX4_replace 28 = .ok (.invokevirtual 75, 3) := by decide +kernel
theorem dX4_replace_31 : decode cX4_replace 31 = .ok (.ifCond .ne 5, 3) := by decide +kernel
theorem dX4_replace_34 : decode cX4_replace 34 = .ok (.iconst (-1), 1) := by decide +kernel
theorem dX4_replace_35 : decode cX4_replace 35 = .ok (.ireturn, 1) := by decide +kernel
theorem dX4_replace_36 : decode cX4_replace 36 = .ok (.iload_n 1, 1) := by decide +kernel
theorem dX4_replace_37 : decode cX4_replace 37 = .ok (.aload_n 0, 1) := by decide +kernel
theorem dX4_replace_38 : decode cX4_replace 38 = .ok (.getfield 61, 3) := by decide +kernel
theorem dX4_replace_41 : decode cX4_replace 41 = .ok (.if_icmp .lt 41, 3) := by decide +kernel
theorem dX4_replace_44 : decode cX4_replace 44 = .ok (.iload_n 1, 1) := by decide +kernel
theorem dX4_replace_45 : decode cX4_replace 45 = .ok (.aload_n 0, 1) := by decide +kernel
theorem dX4_replace_46 : decode cX4_replace 46 = .ok (.getfield 61, 3) := by decide +kernel
theorem dX4_replace_49 : decode cX4_replace 49 = .ok (.aload_n 0, 1) := by decide +kernel
theorem dX4_replace_50 : decode cX4_replace 50 = .ok (.getfield 64, 3) := by decide +kernel
theorem dX4_replace_53 : decode cX4_replace 53 = .ok (.iadd, 1) := by decide +kernel
theorem dX4_replace_54 : decode cX4_replace 54 = .ok (.if_icmp .ge 28, 3) := by decide +kernel
theorem dX4_replace_57 : decode cX4_replace 57 = .ok (.aload_n 0, 1) := by decide +kernel
theorem dX4_replace_58 : decode cX4_replace 58 = .ok (.getfield 33, 3) := by decide +kernel
theorem dX4_replace_61 : decode cX4_replace 61 = .ok (.iload_n 1, 1) := by decide +kernel
theorem dX4_replace_62 : decode cX4_replace 62 = .ok (.iaload, 1) := by decide +kernel
theorem dX4_replace_63 : decode cX4_replace 63 = .ok (.iload_n 2, 1) := by decide +kernel
theorem dX4_replace_64 : decode cX4_replace 64 = .ok (.if_icmp .eq 18, 3) := by decide +kernel
theorem dX4_replace_67 : decode cX4_replace 67 = .ok (.aload_n 0, 1) := by decide +kernel
theorem dX4_replace_68 : decode cX4_replace 68 = .ok (.getfield 24, 3) := by decide +kernel
theorem dX4_replace_71 : decode cX4_replace 71 = .ok (.iload_n 2, 1) := by decide +kernel
theorem dX4_replace_72 : decode cX4_replace 72 = .ok (.iaload, 1) := by decide +kernel
theorem dX4_replace_73 : decode cX4_replace 73 = .ok (.aload_n 0, 1) := by decide +kernel
theorem dX4_replace_74 : decode cX4_replace 74 = .ok (.iload_n 2, 1) := by decide +kernel
theorem dX4_replace_75 : decode cX4_replace 75 = .ok (.invokevirtual 96, 3) := by decide +kernel
theorem dX4_replace_78 : decode cX4_replace 78 = .ok (.isub, 1) := by decide +kernel
theorem dX4_replace_79 : decode cX4_replace 79 = .ok (.ifCond .gt 6, 3) := by decide +kernel
theorem dX4_replace_82 : decode cX4_replace 82 = .ok (.bipush (-3), 2) := by decide +kernel
theorem dX4_replace_84 : decode cX4_replace 84 = .ok (.ireturn, 1) := by decide +kernel
theorem dX4_replace_85 : decode cX4_replace 85 = .ok (.aload_n 0, 1) := by decide +kernel
theorem dX4_replace_86 : decode cX4_replace 86 = .ok (.getfield 33, 3) := by decide +kernel
theorem dX4_replace_89 : decode cX4_replace 89 = .ok (.iload_n 1, 1) := by decide +kernel
theorem dX4_replace_90 : decode cX4_replace 90 = .ok (.iload_n 2, 1) := by decide +kernel
theorem dX4_replace_91 : decode cX4_replace 91 = .ok (.iastore, 1) := by decide +kernel
theorem dX4_replace_92 : decode cX4_replace 92 = .ok (.iload_n 1, 1) := by decide +kernel
theorem dX4_replace_93 : decode cX4_replace 93 = .ok (.istore_n 3, 1) := by decide +kernel
theorem dX4_replace_94 : decode cX4_replace 94 = .ok (.iload_n 3, 1) := by decide +kernel
theorem dX4_replace_95 : decode cX4_replace 95 = .ok (.aload_n 0, 1) := by decide +kernel
theorem dX4_replace_96 : decode cX4_replace 96 = .ok (.getfield 61, 3) := by decide +kernel
theorem dX4_replace_99 : decode cX4_replace 99 = .ok (.aload_n 0, 1) := by decide +kernel
theorem dX4_replace_100 : decode cX4_replace 100 = .ok (.getfield 64, 3) := by decide +kernel
theorem dX4_replace_103 : decode cX4_replace 103 = .ok (.iadd, 1) := by decide +kernel
theorem dX4_replace_104 : decode cX4_replace 104 = .ok (.if_icmp .ge 26, 3) := by decide +kernel
theorem dX4_replace_107 : decode cX4_replace 107 = .ok (.aload_n 0, 1) := by decide +kernel
theorem dX4_replace_108 : decode cX4_replace 108 = .ok (.iload_n 3, 1) := by decide +kernel
theorem dX4_replace_109 : decode cX4_replace 109 = .ok (.aload_n 0, 1) := by decide +kernel
theorem dX4_replace_110 : decode cX4_replace 110 = .ok (.getfield 33, 3) := by decide +kernel
theorem dX4_replace_113 : decode cX4_replace 113 = .ok (.iload_n 3, 1) := by decide +kernel
theorem dX4_replace_114 : decode cX4_replace 114 = .ok (.iaload, 1) := by decide +kernel
theorem dX4_replace_115 : decode cX4_replace 115 = .ok (.aload_n 0, 1) := by decide +kernel
theorem dX4_replace_116 : decode cX4_replace 116 = .ok (.getfield 36, 3) := by decide +kernel
theorem dX4_replace_119 : decode cX4_replace 119 = .ok (.iload_n 3, 1) := by decide +kernel
theorem dX4_replace_120 : decode cX4_replace 120 = .ok (.iaload, 1) := by decide +kernel
theorem dX4_replace_121 : decode cX4_replace 121 = .ok (.invokevirtual 116, 3) := by decide +kernel
theorem dX4_replace_124 : decode cX4_replace 124 = .ok (.iinc 3 1, 3) := by decide +kernel
theorem dX4_replace_127 : decode cX4_replace 127 = .ok (.goto (-33), 3) := by decide +kernel
theorem dX4_replace_130 : decode cX4_replace 130 = .ok (.iconst 1, 1) := by decide +kernel
theorem dX4_replace_131 : decode cX4_replace 131 = .ok (.ireturn, 1) := by decide +kernel
theorem dX4_kindOf_0 : decode cX4_kindOf 0 = .ok (.aload_n 0, 1) := by decide +kernel
theorem dX4_kindOf_1 : decode cX4_kindOf 1 = .ok (.iconst 0, 1) := by decide +kernel
theorem dX4_kindOf_2 : decode cX4_kindOf 2 = .ok (.putfield 55, 3) := by decide +kernel
theorem dX4_kindOf_5 : decode cX4_kindOf 5 = .ok (.aload_n 0, 1) := by decide +kernel
theorem dX4_kindOf_6 : decode cX4_kindOf 6 = .ok (.iload_n 1, 1) := by decide +kernel
theorem dX4_kindOf_7 : decode cX4_kindOf 7 = .ok (.invokevirtual 142, 3) := by decide +kernel
theorem dX4_kindOf_10 : decode cX4_kindOf 10 = .ok (.ifCond .eq 12, 3) := by decide +kernel
theorem dX4_kindOf_13 : decode cX4_kindOf 13 = .ok (.aload_n 0, 1) := by decide +kernel
theorem dX4_kindOf_14 : decode cX4_kindOf 14 = .ok (.getfield 33, 3) := by decide +kernel
theorem dX4_kindOf_17 : decode cX4_kindOf 17 = .ok (.iload_n 1, 1) := by decide +kernel
theorem dX4_kindOf_18 : decode cX4_kindOf 18 = .ok (.iaload, 1) := by decide +kernel
theorem dX4_kindOf_19 : decode cX4_kindOf 19 = .ok (.goto 4, 3) := by decide +kernel
theorem dX4_kindOf_22 : decode cX4_kindOf 22 = .ok (.iconst (-1), 1) := by decide +kernel
theorem dX4_kindOf_23 : decode cX4_kindOf 23 = .ok (.ireturn, 1) := by decide +kernel
theorem dX4_turnOf_0 : decode cX4_turnOf 0 = .ok (.aload_n 0, 1) := by decide +kernel
theorem dX4_turnOf_1 : decode cX4_turnOf 1 = .ok (.iconst 0, 1) := by decide +kernel
theorem dX4_turnOf_2 : decode cX4_turnOf 2 = .ok (.putfield 55, 3) := by decide +kernel
theorem dX4_turnOf_5 : decode cX4_turnOf 5 = .ok (.aload_n 0, 1) := by decide +kernel
theorem dX4_turnOf_6 : decode cX4_turnOf 6 = .ok (.iload_n 1, 1) := by decide +kernel
theorem dX4_turnOf_7 : decode cX4_turnOf 7 = .ok (.invokevirtual 142, 3) := by decide +kernel
theorem dX4_turnOf_10 : decode cX4_turnOf 10 = .ok (.ifCond .eq 12, 3) := by decide +kernel
theorem dX4_turnOf_13 : decode cX4_turnOf 13 = .ok (.aload_n 0, 1) := by decide +kernel
theorem dX4_turnOf_14 : decode cX4_turnOf 14 = .ok (.getfield 36, 3) := by decide +kernel
theorem dX4_turnOf_17 : decode cX4_turnOf 17 = .ok (.iload_n 1, 1) := by decide +kernel
theorem dX4_turnOf_18 : decode cX4_turnOf 18 = .ok (.iaload, 1) := by decide +kernel
theorem dX4_turnOf_19 : decode cX4_turnOf 19 = .ok (.goto 4, 3) := by decide +kernel
theorem dX4_turnOf_22 : decode cX4_turnOf 22 = .ok (.iconst (-1), 1) := by decide +kernel
theorem dX4_turnOf_23 : decode cX4_turnOf 23 = .ok (.ireturn, 1) := by decide +kernel
theorem dX4_state_0 : decode cX4_state 0 = .ok (.aload_n 0, 1) := by decide +kernel
theorem dX4_state_1 : decode cX4_state 1 = .ok (.iconst 0, 1) := by decide +kernel
theorem dX4_state_2 : decode cX4_state 2 = .ok (.putfield 55, 3) := by decide +kernel
theorem dX4_state_5 : decode cX4_state 5 = .ok (.aload_n 0, 1) := by decide +kernel
theorem dX4_state_6 : decode cX4_state 6 = .ok (.iload_n 1, 1) := by decide +kernel
theorem dX4_state_7 : decode cX4_state 7 = .ok (.invokevirtual 79, 3) := by decide +kernel
theorem dX4_state_10 : decode cX4_state 10 = .ok (.ifCond .ne 7, 3) := by decide +kernel
theorem dX4_state_13 : decode cX4_state 13 = .ok (.iconst (-1), 1) := by decide +kernel
theorem dX4_state_14 : decode cX4_state 14 = .ok (.goto 33, 3) := by decide +kernel
theorem dX4_state_17 : decode cX4_state 17 = .ok (.iload_n 1, 1) := by decide +kernel
theorem dX4_state_18 : decode cX4_state 18 = .ok (.aload_n 0, 1) := by decide +kernel
theorem dX4_state_19 : decode cX4_state 19 = .ok (.getfield 61, 3) := by decide +kernel
theorem dX4_state_22 : decode cX4_state 22 = .ok (.if_icmp .ge 7, 3) := by decide +kernel
theorem dX4_state_25 : decode cX4_state 25 = .ok (.iconst 2, 1) := by decide +kernel
theorem dX4_state_26 : decode cX4_state 26 = .ok (.goto 21, 3) := by decide +kernel
theorem dX4_state_29 : decode cX4_state 29 = .ok (.iload_n 1, 1) := by decide +kernel
theorem dX4_state_30 : decode cX4_state 30 = .ok (.aload_n 0, 1) := by decide +kernel
theorem dX4_state_31 : decode cX4_state 31 = .ok (.getfield 61, 3) := by decide +kernel
theorem dX4_state_34 : decode cX4_state 34 = .ok (.aload_n 0, 1) := by decide +kernel
theorem dX4_state_35 : decode cX4_state 35 = .ok (.getfield 64, 3) := by decide +kernel
theorem dX4_state_38 : decode cX4_state 38 = .ok (.iadd, 1) := by decide +kernel
theorem dX4_state_39 : decode cX4_state 39 = .ok (.if_icmp .ge 7, 3) := by decide +kernel
theorem dX4_state_42 : decode cX4_state 42 = .ok (.iconst 1, 1) := by decide +kernel
theorem dX4_state_43 : decode cX4_state 43 = .ok (.goto 4, 3) := by decide +kernel
theorem dX4_state_46 : decode cX4_state 46 = .ok (.iconst 0, 1) := by decide +kernel
theorem dX4_state_47 : decode cX4_state 47 = .ok (.ireturn, 1) := by decide +kernel
theorem dX4_place_0 : decode cX4_place 0 = .ok (.aload_n 0, 1) := by decide +kernel
theorem dX4_place_1 : decode cX4_place 1 = .ok (.aload_n 0, 1) := by decide +kernel
theorem dX4_place_2 : decode cX4_place 2 = .ok (.iload_n 1, 1) := by decide +kernel
theorem dX4_place_3 : decode cX4_place 3 = .ok (.invokevirtual 142, 3) := by decide +kernel
theorem dX4_place_6 : decode cX4_place 6 = .ok (.ifCond .eq 19, 3) := by decide +kernel
theorem dX4_place_9 : decode cX4_place 9 = .ok (.iload_n 2, 1) := by decide +kernel
theorem dX4_place_10 : decode cX4_place 10 = .ok (.i2l, 1) := by decide +kernel
theorem dX4_place_11 : decode cX4_place 11 = .ok (.lconst 0, 1) := by decide +kernel
theorem dX4_place_12 : decode cX4_place 12 = .ok (.ldc2_w 145, 3) := by decide +kernel
theorem dX4_place_15 : decode cX4_place 15 = .ok (.invokestatic 69, 3) := by decide +kernel
theorem dX4_place_18 : decode cX4_place 18 = .ok (.ifCond .eq 7, 3) := by decide +kernel
theorem dX4_place_21 : decode cX4_place 21 = .ok (.iconst 0, 1) := by decide +kernel
theorem dX4_place_22 : decode cX4_place 22 = .ok (.goto 4, 3) := by decide +kernel
theorem dX4_place_25 : decode cX4_place 25 = .ok (.iconst 1, 1) := by decide +kernel
theorem dX4_place_26 : decode cX4_place 26 = .ok (.putfield 55, 3) := by decide +kernel
theorem dX4_place_29 : decode cX4_place 29 = .ok (.aload_n 0, 1) := by decide +kernel
theorem dX4_place_30 : decode cX4_place 30 = .ok (.getfield 55, 3) := by decide +kernel
theorem dX4_place_33 : decode cX4_place 33 = .ok (.ifCond .le 5, 3) := by decide +kernel
theorem dX4_place_36 : decode cX4_place 36 = .ok (.lconst 0, 1) := by decide +kernel
theorem dX4_place_37 : decode cX4_place 37 = .ok (.lreturn, 1) := by decide +kernel
theorem dX4_place_38 : decode cX4_place 38 = .ok (.iload_n 2, 1) := by decide +kernel
theorem dX4_place_39 : decode cX4_place 39 = .ok (.ifCond .ne 12, 3) := by decide +kernel
theorem dX4_place_42 : decode cX4_place 42 = .ok (.aload_n 0, 1) := by decide +kernel
theorem dX4_place_43 : decode cX4_place 43 = .ok (.getfield 39, 3) := by decide +kernel
theorem dX4_place_46 : decode cX4_place 46 = .ok (.iload_n 1, 1) := by decide +kernel
theorem dX4_place_47 : decode cX4_place 47 = .ok (.laload, 1) := by decide +kernel
theorem dX4_place_48 : decode cX4_place 48 = .ok (.goto 37, 3) := by decide +kernel
theorem dX4_place_51 : decode cX4_place 51 = .ok (.iload_n 2, 1) := by decide +kernel
theorem dX4_place_52 : decode cX4_place 52 = .ok (.iconst 1, 1) := by decide +kernel
theorem dX4_place_53 : decode cX4_place 53 = .ok (.if_icmp .ne 12, 3) := by decide +kernel
theorem dX4_place_56 : decode cX4_place 56 = .ok (.aload_n 0, 1) := by decide +kernel
theorem dX4_place_57 : decode cX4_place 57 = .ok (.getfield 43, 3) := by decide +kernel
theorem dX4_place_60 : decode cX4_place 60 = .ok (.iload_n 1, 1) := by decide +kernel
theorem dX4_place_61 : decode cX4_place 61 = .ok (.laload, 1) := by decide +kernel
theorem dX4_place_62 : decode cX4_place 62 = .ok (.goto 23, 3) := by decide +kernel
theorem dX4_place_65 : decode cX4_place 65 = .ok (.iload_n 2, 1) := by decide +kernel
theorem dX4_place_66 : decode cX4_place 66 = .ok (.iconst 2, 1) := by decide +kernel
theorem dX4_place_67 : decode cX4_place 67 = .ok (.if_icmp .ne 12, 3) := by decide +kernel
theorem dX4_place_70 : decode cX4_place 70 = .ok (.aload_n 0, 1) := by decide +kernel
theorem dX4_place_71 : decode cX4_place 71 = .ok (.getfield 46, 3) := by decide +kernel
theorem dX4_place_74 : decode cX4_place 74 = .ok (.iload_n 1, 1) := by decide +kernel
theorem dX4_place_75 : decode cX4_place 75 = .ok (.laload, 1) := by decide +kernel
theorem dX4_place_76 : decode cX4_place 76 = .ok (.goto 9, 3) := by decide +kernel
theorem dX4_place_79 : decode cX4_place 79 = .ok (.aload_n 0, 1) := by decide +kernel
theorem dX4_place_80 : decode cX4_place 80 = .ok (.getfield 49, 3) := by decide +kernel
theorem dX4_place_83 : decode cX4_place 83 = .ok (.iload_n 1, 1) := by decide +kernel
theorem dX4_place_84 : decode cX4_place 84 = .ok (.laload, 1) := by decide +kernel
theorem dX4_place_85 : decode cX4_place 85 = .ok (.lreturn, 1) := by decide +kernel
theorem dX4_off_0 : decode cX4_off 0 = .ok (.aload_n 0, 1) := by decide +kernel
theorem dX4_off_1 : decode cX4_off 1 = .ok (.aload_n 0, 1) := by decide +kernel
theorem dX4_off_2 : decode cX4_off 2 = .ok (.iload_n 1, 1) := by decide +kernel
theorem dX4_off_3 : decode cX4_off 3 = .ok (.invokevirtual 142, 3) := by decide +kernel
theorem dX4_off_6 : decode cX4_off 6 = .ok (.ifCond .eq 7, 3) := by decide +kernel
theorem dX4_off_9 : decode cX4_off 9 = .ok (.iconst 0, 1) := by decide +kernel
theorem dX4_off_10 : decode cX4_off 10 = .ok (.goto 4, 3) := by decide +kernel
theorem dX4_off_13 : decode cX4_off 13 = .ok (.iconst 1, 1) := by decide +kernel
theorem dX4_off_14 : decode cX4_off 14 = .ok (.putfield 55, 3) := by decide +kernel
theorem dX4_off_17 : decode cX4_off 17 = .ok (.aload_n 0, 1) := by decide +kernel
theorem dX4_off_18 : decode cX4_off 18 = .ok (.getfield 55, 3) := by decide +kernel
theorem dX4_off_21 : decode cX4_off 21 = .ok (.ifCond .le 7, 3) := by decide +kernel
theorem dX4_off_24 : decode cX4_off 24 = .ok (.lconst 0, 1) := by decide +kernel
theorem dX4_off_25 : decode cX4_off 25 = .ok (.goto 8, 3) := by decide +kernel
theorem dX4_off_28 : decode cX4_off 28 = .ok (.aload_n 0, 1) := by decide +kernel
theorem dX4_off_29 : decode cX4_off 29 = .ok (.iload_n 1, 1) := by decide +kernel
theorem dX4_off_30 : decode cX4_off 30 = .ok (.invokevirtual 120, 3) := by decide +kernel
theorem dX4_off_33 : decode cX4_off 33 = .ok (.lreturn, 1) := by decide +kernel
theorem dX4_sum_0 : decode cX4_sum 0 = .ok (.aload_n 0, 1) := by decide +kernel
theorem dX4_sum_1 : decode cX4_sum 1 = .ok (.iconst 0, 1) := by decide +kernel
theorem dX4_sum_2 : decode cX4_sum 2 = .ok (.putfield 55, 3) := by decide +kernel
theorem dX4_sum_5 : decode cX4_sum 5 = .ok (.lconst 0, 1) := by decide +kernel
theorem dX4_sum_6 : decode cX4_sum 6 = .ok (.lstore_n 1, 1) := by decide +kernel
theorem dX4_sum_7 : decode cX4_sum 7 = .ok (.iconst 0, 1) := by decide +kernel
theorem dX4_sum_8 : decode cX4_sum 8 = .ok (.istore_n 3, 1) := by decide +kernel
theorem dX4_sum_9 : decode cX4_sum 9 = .ok (.iload_n 3, 1) := by decide +kernel
theorem dX4_sum_10 : decode cX4_sum 10 = .ok (.aload_n 0, 1) := by decide +kernel
theorem dX4_sum_11 : decode cX4_sum 11 = .ok (.getfield 61, 3) := by decide +kernel
theorem dX4_sum_14 : decode cX4_sum 14 = .ok (.aload_n 0, 1) := by decide +kernel
theorem dX4_sum_15 : decode cX4_sum 15 = .ok (.getfield 64, 3) := by decide +kernel
theorem dX4_sum_18 : decode cX4_sum 18 = .ok (.iadd, 1) := by decide +kernel
theorem dX4_sum_19 : decode cX4_sum 19 = .ok (.if_icmp .ge 17, 3) := by decide +kernel
theorem dX4_sum_22 : decode cX4_sum 22 = .ok (.lload_n 1, 1) := by decide +kernel
theorem dX4_sum_23 : decode cX4_sum 23 = .ok (.aload_n 0, 1) := by decide +kernel
theorem dX4_sum_24 : decode cX4_sum 24 = .ok (.iload_n 3, 1) := by decide +kernel
theorem dX4_sum_25 : decode cX4_sum 25 = .ok (.invokevirtual 120, 3) := by decide +kernel
theorem dX4_sum_28 : decode cX4_sum 28 = .ok (.ladd, 1) := by decide +kernel
theorem dX4_sum_29 : decode cX4_sum 29 = .ok (.lstore_n 1, 1) := by decide +kernel
theorem dX4_sum_30 : decode cX4_sum 30 = .ok (.iinc 3 1, 3) := by decide +kernel
theorem dX4_sum_33 : decode cX4_sum 33 = .ok (.goto (-24), 3) := by decide +kernel
theorem dX4_sum_36 : decode cX4_sum 36 = .ok (.lload_n 1, 1) := by decide +kernel
theorem dX4_sum_37 : decode cX4_sum 37 = .ok (.lreturn, 1) := by decide +kernel
theorem dX4_stroke_0 : decode cX4_stroke 0 = .ok (.aload_n 0, 1) := by decide +kernel
theorem dX4_stroke_1 : decode cX4_stroke 1 = .ok (.iconst 0, 1) := by decide +kernel
theorem dX4_stroke_2 : decode cX4_stroke 2 = .ok (.putfield 55, 3) := by decide +kernel
theorem dX4_stroke_5 : decode cX4_stroke 5 = .ok (.aload_n 0, 1) := by decide +kernel
theorem dX4_stroke_6 : decode cX4_stroke 6 = .ok (.iload_n 1, 1) := by decide +kernel
theorem dX4_stroke_7 : decode cX4_stroke 7 = .ok (.invokevirtual 142, 3) := by decide +kernel
theorem dX4_stroke_10 : decode cX4_stroke 10 = .ok (.ifCond .eq 15, 3) := by decide +kernel
theorem dX4_stroke_13 : decode cX4_stroke 13 = .ok (.iload_n 2, 1) := by decide +kernel
theorem dX4_stroke_14 : decode cX4_stroke 14 = .ok (.i2l, 1) := by decide +kernel
theorem dX4_stroke_15 : decode cX4_stroke 15 = .ok (.lconst 0, 1) := by decide +kernel
theorem dX4_stroke_16 : decode cX4_stroke 16 = .ok (.ldc2_w 88, 3) := by decide +kernel
theorem dX4_stroke_19 : decode cX4_stroke 19 = .ok (.invokestatic 69, 3) := by decide +kernel
theorem dX4_stroke_22 : decode cX4_stroke 22 = .ok (.ifCond .ne 5, 3) := by decide +kernel
theorem dX4_stroke_25 : decode cX4_stroke 25 = .ok (.iconst 0, 1) := by decide +kernel
theorem dX4_stroke_26 : decode cX4_stroke 26 = .ok (.ireturn, 1) := by decide +kernel
theorem dX4_stroke_27 : decode cX4_stroke 27 = .ok (.aload_n 0, 1) := by decide +kernel
theorem dX4_stroke_28 : decode cX4_stroke 28 = .ok (.getfield 20, 3) := by decide +kernel
theorem dX4_stroke_31 : decode cX4_stroke 31 = .ok (.aload_n 0, 1) := by decide +kernel
theorem dX4_stroke_32 : decode cX4_stroke 32 = .ok (.getfield 33, 3) := by decide +kernel
theorem dX4_stroke_35 : decode cX4_stroke 35 = .ok (.iload_n 1, 1) := by decide +kernel
theorem dX4_stroke_36 : decode cX4_stroke 36 = .ok (.iaload, 1) := by decide +kernel
theorem dX4_stroke_37 : decode cX4_stroke 37 = .ok (.iaload, 1) := by decide +kernel
theorem dX4_stroke_38 : decode cX4_stroke 38 = .ok (.iload_n 2, 1) := by decide +kernel
theorem dX4_stroke_39 : decode cX4_stroke 39 = .ok (.aload_n 0, 1) := by decide +kernel
theorem dX4_stroke_40 : decode cX4_stroke 40 = .ok (.getfield 36, 3) := by decide +kernel
theorem dX4_stroke_43 : decode cX4_stroke 43 = .ok (.iload_n 1, 1) := by decide +kernel
theorem dX4_stroke_44 : decode cX4_stroke 44 = .ok (.iaload, 1) := by decide +kernel
theorem dX4_stroke_45 : decode cX4_stroke 45 = .ok (.isub, 1) := by decide +kernel
theorem dX4_stroke_46 : decode cX4_stroke 46 = .ok (.invokestatic 92, 3) := by decide +kernel
theorem dX4_stroke_49 : decode cX4_stroke 49 = .ok (.imul, 1) := by decide +kernel
theorem dX4_stroke_50 : decode cX4_stroke 50 = .ok (.istore_n 3, 1) := by decide +kernel
theorem dX4_stroke_51 : decode cX4_stroke 51 = .ok (.iload_n 3, 1) := by decide +kernel
theorem dX4_stroke_52 : decode cX4_stroke 52 = .ok (.bipush 64, 2) := by decide +kernel
theorem dX4_stroke_54 : decode cX4_stroke 54 = .ok (.idiv, 1) := by decide +kernel
theorem dX4_stroke_55 : decode cX4_stroke 55 = .ok (.istore 4, 2) := by decide +kernel
theorem dX4_stroke_57 : decode cX4_stroke 57 = .ok (.iload_n 3, 1) := by decide +kernel
theorem dX4_stroke_58 : decode cX4_stroke 58 = .ok (.ifCond .ge 19, 3) := by decide +kernel
theorem dX4_stroke_61 : decode cX4_stroke 61 = .ok (.iload 4, 2) := by decide +kernel
theorem dX4_stroke_63 : decode cX4_stroke 63 = .ok (.bipush 64, 2) := by decide +kernel
theorem dX4_stroke_65 : decode cX4_stroke 65 = .ok (.imul, 1) := by decide +kernel
theorem dX4_stroke_66 : decode cX4_stroke 66 = .ok (.iload_n 3, 1) := by decide +kernel
theorem dX4_stroke_67 : decode cX4_stroke 67 = .ok (.if_icmp .eq 10, 3) := by decide +kernel
theorem dX4_stroke_70 : decode cX4_stroke 70 = .ok (.iload 4, 2) := by decide +kernel
theorem dX4_stroke_72 : decode cX4_stroke 72 = .ok (.iconst 1, 1) := by decide +kernel
theorem dX4_stroke_73 : decode cX4_stroke 73 = .ok (.isub, 1) := by decide +kernel
theorem dX4_stroke_74 : decode cX4_stroke 74 = .ok (.goto 5, 3) := by decide +kernel
theorem dX4_stroke_77 : decode cX4_stroke 77 = .ok (.iload 4, 2) := by decide +kernel
theorem dX4_stroke_79 : decode cX4_stroke 79 = .ok (.ireturn, 1) := by decide +kernel
theorem dX4_left_0 : decode cX4_left 0 = .ok (.aload_n 0, 1) := by decide +kernel
theorem dX4_left_1 : decode cX4_left 1 = .ok (.iconst 0, 1) := by decide +kernel
theorem dX4_left_2 : decode cX4_left 2 = .ok (.putfield 55, 3) := by decide +kernel
theorem dX4_left_5 : decode cX4_left 5 = .ok (.aload_n 0, 1) := by decide +kernel
theorem dX4_left_6 : decode cX4_left 6 = .ok (.iload_n 1, 1) := by decide +kernel
theorem dX4_left_7 : decode cX4_left 7 = .ok (.invokevirtual 75, 3) := by decide +kernel
theorem dX4_left_10 : decode cX4_left 10 = .ok (.ifCond .eq 18, 3) := by decide +kernel
theorem dX4_left_13 : decode cX4_left 13 = .ok (.aload_n 0, 1) := by decide +kernel
theorem dX4_left_14 : decode cX4_left 14 = .ok (.getfield 24, 3) := by decide +kernel
theorem dX4_left_17 : decode cX4_left 17 = .ok (.iload_n 1, 1) := by decide +kernel
theorem dX4_left_18 : decode cX4_left 18 = .ok (.iaload, 1) := by decide +kernel
theorem dX4_left_19 : decode cX4_left 19 = .ok (.aload_n 0, 1) := by decide +kernel
theorem dX4_left_20 : decode cX4_left 20 = .ok (.iload_n 1, 1) := by decide +kernel
theorem dX4_left_21 : decode cX4_left 21 = .ok (.invokevirtual 96, 3) := by decide +kernel
theorem dX4_left_24 : decode cX4_left 24 = .ok (.isub, 1) := by decide +kernel
theorem dX4_left_25 : decode cX4_left 25 = .ok (.goto 4, 3) := by decide +kernel
theorem dX4_left_28 : decode cX4_left 28 = .ok (.iconst (-1), 1) := by decide +kernel
theorem dX4_left_29 : decode cX4_left 29 = .ok (.ireturn, 1) := by decide +kernel
theorem dX4_list_0 : decode cX4_list 0 = .ok (.aload_n 0, 1) := by decide +kernel
theorem dX4_list_1 : decode cX4_list 1 = .ok (.iconst 0, 1) := by decide +kernel
theorem dX4_list_2 : decode cX4_list 2 = .ok (.putfield 55, 3) := by decide +kernel
theorem dX4_list_5 : decode cX4_list 5 = .ok (.iconst 0, 1) := by decide +kernel
theorem dX4_list_6 : decode cX4_list 6 = .ok (.istore_n 3, 1) := by decide +kernel
theorem dX4_list_7 : decode cX4_list 7 = .ok (.iconst 0, 1) := by decide +kernel
theorem dX4_list_8 : decode cX4_list 8 = .ok (.istore 4, 2) := by decide +kernel
theorem dX4_list_10 : decode cX4_list 10 = .ok (.iload 4, 2) := by decide +kernel
theorem dX4_list_12 : decode cX4_list 12 = .ok (.aload_n 0, 1) := by decide +kernel
theorem dX4_list_13 : decode cX4_list 13 = .ok (.getfield 61, 3) := by decide +kernel
theorem dX4_list_16 : decode cX4_list 16 = .ok (.aload_n 0, 1) := by decide +kernel
theorem dX4_list_17 : decode cX4_list 17 = .ok (.getfield 64, 3) := by decide +kernel
theorem dX4_list_20 : decode cX4_list 20 = .ok (.iadd, 1) := by decide +kernel
theorem dX4_list_21 : decode cX4_list 21 = .ok (.if_icmp .ge 31, 3) := by decide +kernel
theorem dX4_list_24 : decode cX4_list 24 = .ok (.aload_n 0, 1) := by decide +kernel
theorem dX4_list_25 : decode cX4_list 25 = .ok (.getfield 33, 3) := by decide +kernel
theorem dX4_list_28 : decode cX4_list 28 = .ok (.iload 4, 2) := by decide +kernel
theorem dX4_list_30 : decode cX4_list 30 = .ok (.iaload, 1) := by decide +kernel
theorem dX4_list_31 : decode cX4_list 31 = .ok (.iload_n 1, 1) := by decide +kernel
theorem dX4_list_32 : decode cX4_list 32 = .ok (.if_icmp .ne 14, 3) := by decide +kernel
theorem dX4_list_35 : decode cX4_list 35 = .ok (.iload_n 3, 1) := by decide +kernel
theorem dX4_list_36 : decode cX4_list 36 = .ok (.iload_n 2, 1) := by decide +kernel
theorem dX4_list_37 : decode cX4_list 37 = .ok (.if_icmp .ne 6, 3) := by decide +kernel
theorem dX4_list_40 : decode cX4_list 40 = .ok (.iload 4, 2) := by decide +kernel
theorem dX4_list_42 : decode cX4_list 42 = .ok (.ireturn, 1) := by decide +kernel
theorem dX4_list_43 : decode cX4_list 43 = .ok (.iinc 3 1, 3) := by decide +kernel
theorem dX4_list_46 : decode cX4_list 46 = .ok (.iinc 4 1, 3) := by decide +kernel
theorem dX4_list_49 : decode cX4_list 49 = .ok (.goto (-39), 3) := by decide +kernel
theorem dX4_list_52 : decode cX4_list 52 = .ok (.iconst (-1), 1) := by decide +kernel
theorem dX4_list_53 : decode cX4_list 53 = .ok (.ireturn, 1) := by decide +kernel
theorem dX4_count_0 : decode cX4_count 0 = .ok (.aload_n 0, 1) := by decide +kernel
theorem dX4_count_1 : decode cX4_count 1 = .ok (.iload_n 1, 1) := by decide +kernel
theorem dX4_count_2 : decode cX4_count 2 = .ok (.i2l, 1) := by decide +kernel
theorem dX4_count_3 : decode cX4_count 3 = .ok (.lconst 0, 1) := by decide +kernel
theorem dX4_count_4 : decode cX4_count 4 = .ok (.ldc2_w 147, 3) := by decide +kernel
theorem dX4_count_7 : decode cX4_count 7 = .ok (.invokestatic 69, 3) := by decide +kernel
theorem dX4_count_10 : decode cX4_count 10 = .ok (.ifCond .eq 7, 3) := by decide +kernel
theorem dX4_count_13 : decode cX4_count 13 = .ok (.iconst 0, 1) := by decide +kernel
theorem dX4_count_14 : decode cX4_count 14 = .ok (.goto 4, 3) := by decide +kernel
theorem dX4_count_17 : decode cX4_count 17 = .ok (.iconst 1, 1) := by decide +kernel
theorem dX4_count_18 : decode cX4_count 18 = .ok (.putfield 55, 3) := by decide +kernel
theorem dX4_count_21 : decode cX4_count 21 = .ok (.aload_n 0, 1) := by decide +kernel
theorem dX4_count_22 : decode cX4_count 22 = .ok (.getfield 55, 3) := by decide +kernel
theorem dX4_count_25 : decode cX4_count 25 = .ok (.ifCond .le 5, 3) := by decide +kernel
theorem dX4_count_28 : decode cX4_count 28 = .ok (.iconst 0, 1) := by decide +kernel
theorem dX4_count_29 : decode cX4_count 29 = .ok (.ireturn, 1) := by decide +kernel
theorem dX4_count_30 : decode cX4_count 30 = .ok (.iconst 0, 1) := by decide +kernel
theorem dX4_count_31 : decode cX4_count 31 = .ok (.istore_n 2, 1) := by decide +kernel
theorem dX4_count_32 : decode cX4_count 32 = .ok (.iconst 0, 1) := by decide +kernel
theorem dX4_count_33 : decode cX4_count 33 = .ok (.istore_n 3, 1) := by decide +kernel
theorem dX4_count_34 : decode cX4_count 34 = .ok (.iload_n 3, 1) := by decide +kernel
theorem dX4_count_35 : decode cX4_count 35 = .ok (.bipush 16, 2) := by decide +kernel
theorem dX4_count_37 : decode cX4_count 37 = .ok (.if_icmp .ge 26, 3) := by decide +kernel
theorem dX4_count_40 : decode cX4_count 40 = .ok (.aload_n 0, 1) := by decide +kernel
theorem dX4_count_41 : decode cX4_count 41 = .ok (.getfield 16, 3) := by decide +kernel
theorem dX4_count_44 : decode cX4_count 44 = .ok (.iload_n 3, 1) := by decide +kernel
theorem dX4_count_45 : decode cX4_count 45 = .ok (.baload, 1) := by decide +kernel
theorem dX4_count_46 : decode cX4_count 46 = .ok (.ifCond .eq 9, 3) := by decide +kernel
theorem dX4_count_49 : decode cX4_count 49 = .ok (.iload_n 2, 1) := by decide +kernel
theorem dX4_count_50 : decode cX4_count 50 = .ok (.iconst 1, 1) := by decide +kernel
theorem dX4_count_51 : decode cX4_count 51 = .ok (.iadd, 1) := by decide +kernel
theorem dX4_count_52 : decode cX4_count 52 = .ok (.goto 4, 3) := by decide +kernel
theorem dX4_count_55 : decode cX4_count 55 = .ok (.iload_n 2, 1) := by decide +kernel
theorem dX4_count_56 : decode cX4_count 56 = .ok (.istore_n 2, 1) := by decide +kernel
theorem dX4_count_57 : decode cX4_count 57 = .ok (.iinc 3 1, 3) := by decide +kernel
theorem dX4_count_60 : decode cX4_count 60 = .ok (.goto (-26), 3) := by decide +kernel
theorem dX4_count_63 : decode cX4_count 63 = .ok (.iload_n 1, 1) := by decide +kernel
theorem dX4_count_64 : decode cX4_count 64 = .ok (.ifCond .ne 10, 3) := by decide +kernel
theorem dX4_count_67 : decode cX4_count 67 = .ok (.aload_n 0, 1) := by decide +kernel
theorem dX4_count_68 : decode cX4_count 68 = .ok (.getfield 52, 3) := by decide +kernel
theorem dX4_count_71 : decode cX4_count 71 = .ok (.goto 77, 3) := by decide +kernel
theorem dX4_count_74 : decode cX4_count 74 = .ok (.iload_n 1, 1) := by decide +kernel
theorem dX4_count_75 : decode cX4_count 75 = .ok (.iconst 1, 1) := by decide +kernel
theorem dX4_count_76 : decode cX4_count 76 = .ok (.if_icmp .ne 10, 3) := by decide +kernel
theorem dX4_count_79 : decode cX4_count 79 = .ok (.aload_n 0, 1) := by decide +kernel
theorem dX4_count_80 : decode cX4_count 80 = .ok (.getfield 61, 3) := by decide +kernel
theorem dX4_count_83 : decode cX4_count 83 = .ok (.goto 65, 3) := by decide +kernel
theorem dX4_count_86 : decode cX4_count 86 = .ok (.iload_n 1, 1) := by decide +kernel
theorem dX4_count_87 : decode cX4_count 87 = .ok (.iconst 2, 1) := by decide +kernel
theorem dX4_count_88 : decode cX4_count 88 = .ok (.if_icmp .ne 10, 3) := by decide +kernel
theorem dX4_count_91 : decode cX4_count 91 = .ok (.aload_n 0, 1) := by decide +kernel
theorem dX4_count_92 : decode cX4_count 92 = .ok (.getfield 64, 3) := by decide +kernel
theorem dX4_count_95 : decode cX4_count 95 = .ok (.goto 53, 3) := by decide +kernel
theorem dX4_count_98 : decode cX4_count 98 = .ok (.iload_n 1, 1) := by decide +kernel
theorem dX4_count_99 : decode cX4_count 99 = .ok (.iconst 3, 1) := by decide +kernel
theorem dX4_count_100 : decode cX4_count 100 = .ok (.if_icmp .ne 10, 3) := by decide +kernel
theorem dX4_count_103 : decode cX4_count 103 = .ok (.aload_n 0, 1) := by decide +kernel
theorem dX4_count_104 : decode cX4_count 104 = .ok (.getfield 58, 3) := by decide +kernel
theorem dX4_count_107 : decode cX4_count 107 = .ok (.goto 41, 3) := by decide +kernel
theorem dX4_count_110 : decode cX4_count 110 = .ok (.iload_n 1, 1) := by decide +kernel
theorem dX4_count_111 : decode cX4_count 111 = .ok (.iconst 4, 1) := by decide +kernel
theorem dX4_count_112 : decode cX4_count 112 = .ok (.if_icmp .ne 10, 3) := by decide +kernel
theorem dX4_count_115 : decode cX4_count 115 = .ok (.aload_n 0, 1) := by decide +kernel
theorem dX4_count_116 : decode cX4_count 116 = .ok (.getfield 7, 3) := by decide +kernel
theorem dX4_count_119 : decode cX4_count 119 = .ok (.goto 29, 3) := by decide +kernel
theorem dX4_count_122 : decode cX4_count 122 = .ok (.iload_n 1, 1) := by decide +kernel
theorem dX4_count_123 : decode cX4_count 123 = .ok (.iconst 5, 1) := by decide +kernel
theorem dX4_count_124 : decode cX4_count 124 = .ok (.if_icmp .ne 10, 3) := by decide +kernel
theorem dX4_count_127 : decode cX4_count 127 = .ok (.aload_n 0, 1) := by decide +kernel
theorem dX4_count_128 : decode cX4_count 128 = .ok (.getfield 13, 3) := by decide +kernel
theorem dX4_count_131 : decode cX4_count 131 = .ok (.goto 17, 3) := by decide +kernel
theorem dX4_count_134 : decode cX4_count 134 = .ok (.iload_n 1, 1) := by decide +kernel
theorem dX4_count_135 : decode cX4_count 135 = .ok (.bipush 6, 2) := by decide +kernel
theorem dX4_count_137 : decode cX4_count 137 = .ok (.if_icmp .ne 7, 3) := by decide +kernel
theorem dX4_count_140 : decode cX4_count 140 = .ok (.iload_n 2, 1) := by decide +kernel
theorem dX4_count_141 : decode cX4_count 141 = .ok (.goto 7, 3) := by decide +kernel
theorem dX4_count_144 : decode cX4_count 144 = .ok (.aload_n 0, 1) := by decide +kernel
theorem dX4_count_145 : decode cX4_count 145 = .ok (.getfield 131, 3) := by decide +kernel
theorem dX4_count_148 : decode cX4_count 148 = .ok (.ireturn, 1) := by decide +kernel
end
section
theorem dL_cell_0 : decode cL_cell 0 = .ok (.iload_n 1, 1) := by decide +kernel
theorem dL_cell_1 : decode cL_cell 1 = .ok (.aload_n 0, 1) := by decide +kernel
theorem dL_cell_2 : decode cL_cell 2 = .ok (.arraylength, 1) := by decide +kernel
theorem dL_cell_3 : decode cL_cell 3 = .ok (.if_icmp .ge 9, 3) := by decide +kernel
theorem dL_cell_6 : decode cL_cell 6 = .ok (.aload_n 0, 1) := by decide +kernel
theorem dL_cell_7 : decode cL_cell 7 = .ok (.iload_n 1, 1) := by decide +kernel
theorem dL_cell_8 : decode cL_cell 8 = .ok (.iaload, 1) := by decide +kernel
theorem dL_cell_9 : decode cL_cell 9 = .ok (.goto 4, 3) := by decide +kernel
theorem dL_cell_12 : decode cL_cell 12 = .ok (.iconst 0, 1) := by decide +kernel
theorem dL_cell_13 : decode cL_cell 13 = .ok (.ireturn, 1) := by decide +kernel
theorem dL_line_0 : decode cL_line 0 = .ok (.aload 4, 2) := by decide +kernel
theorem dL_line_2 : decode cL_line 2 = .ok (.iconst 0, 1) := by decide +kernel
theorem dL_line_3 : decode cL_line 3 = .ok (.aload_n 0, 1) := by decide +kernel
theorem dL_line_4 : decode cL_line 4 = .ok (.iload_n 1, 1) := by decide +kernel
theorem dL_line_5 : decode cL_line 5 = .ok (.iload_n 2, 1) := by decide +kernel
theorem dL_line_6 : decode cL_line 6 = .ok (.iload_n 3, 1) := by decide +kernel
theorem dL_line_7 : decode cL_line 7 = .ok (.invokevirtual 7, 3) := by decide +kernel
theorem dL_line_10 : decode cL_line 10 = .ok (.i2l, 1) := by decide +kernel
theorem dL_line_11 : decode cL_line 11 = .ok (.lastore, 1) := by decide +kernel
theorem dL_line_12 : decode cL_line 12 = .ok (.goto 7, 3) := by decide +kernel
theorem dL_line_15 : decode cL_line 15 = .ok (.astore 5, 2) := by decide +kernel
theorem dL_line_17 : decode cL_line 17 = .ok (.iconst 1, 1) := by decide +kernel
theorem dL_line_18 : decode cL_line 18 = .ok (.ireturn, 1) := by decide +kernel
theorem dL_line_19 : decode cL_line 19 = .ok (.iconst 0, 1) := by decide +kernel
theorem dL_line_20 : decode cL_line 20 = .ok (.ireturn, 1) := by decide +kernel
theorem dL_survey_0 : decode cL_survey 0 = .ok (.aload 4, 2) := by decide +kernel
theorem dL_survey_2 : decode cL_survey 2 = .ok (.iconst 0, 1) := by decide +kernel
theorem dL_survey_3 : decode cL_survey 3 = .ok (.aload_n 0, 1) := by decide +kernel
theorem dL_survey_4 : decode cL_survey 4 = .ok (.iload_n 1, 1) := by decide +kernel
theorem dL_survey_5 : decode cL_survey 5 = .ok (.iload_n 2, 1) := by decide +kernel
theorem dL_survey_6 : decode cL_survey 6 = .ok (.iload_n 3, 1) := by decide +kernel
theorem dL_survey_7 : decode cL_survey 7 = .ok (.invokevirtual 15, 3) := by decide +kernel
theorem dL_survey_10 : decode cL_survey 10 = .ok (.i2l, 1) := by decide +kernel
theorem dL_survey_11 : decode cL_survey 11 = .ok (.lastore, 1) := by decide +kernel
theorem dL_survey_12 : decode cL_survey 12 = .ok (.goto 7, 3) := by decide +kernel
theorem dL_survey_15 : decode cL_survey 15 = .ok (.astore 5, 2) := by decide +kernel
theorem dL_survey_17 : decode cL_survey 17 = .ok (.iconst 1, 1) := by decide +kernel
theorem dL_survey_18 : decode cL_survey 18 = .ok (.ireturn, 1) := by decide +kernel
theorem dL_survey_19 : decode cL_survey 19 = .ok (.iconst 0, 1) := by decide +kernel
theorem dL_survey_20 : decode cL_survey 20 = .ok (.ireturn, 1) := by decide +kernel
theorem dL_replace_0 : decode cL_replace 0 = .ok (.aload_n 3, 1) := by decide +kernel
theorem dL_replace_1 : decode cL_replace 1 = .ok (.iconst 0, 1) := by decide +kernel
theorem dL_replace_2 : decode cL_replace 2 = .ok (.aload_n 0, 1) := by decide +kernel
theorem dL_replace_3 : decode cL_replace 3 = .ok (.iload_n 1, 1) := by decide +kernel
theorem dL_replace_4 : decode cL_replace 4 = .ok (.iload_n 2, 1) := by decide +kernel
theorem dL_replace_5 : decode cL_replace 5 = .ok (.invokevirtual 18, 3) := by decide +kernel
theorem dL_replace_8 : decode cL_replace 8 = .ok (.i2l, 1) := by decide +kernel
theorem dL_replace_9 : decode cL_replace 9 = .ok (.lastore, 1) := by decide +kernel
theorem dL_replace_10 : decode cL_replace 10 = .ok (.goto 7, 3) := by decide +kernel
theorem dL_replace_13 : decode cL_replace 13 = .ok (.astore 4, 2) := by decide +kernel
theorem dL_replace_15 : decode cL_replace 15 = .ok (.iconst 1, 1) := by decide +kernel
theorem dL_replace_16 : decode cL_replace 16 = .ok (.ireturn, 1) := by decide +kernel
theorem dL_replace_17 : decode cL_replace 17 = .ok (.iconst 0, 1) := by decide +kernel
theorem dL_replace_18 : decode cL_replace 18 = .ok (.ireturn, 1) := by decide +kernel
theorem dL_place_0 : decode cL_place 0 = .ok (.aload_n 3, 1) := by decide +kernel
theorem dL_place_1 : decode cL_place 1 = .ok (.iconst 0, 1) := by decide +kernel
theorem dL_place_2 : decode cL_place 2 = .ok (.aload_n 0, 1) := by decide +kernel
theorem dL_place_3 : decode cL_place 3 = .ok (.iload_n 1, 1) := by decide +kernel
theorem dL_place_4 : decode cL_place 4 = .ok (.iload_n 2, 1) := by decide +kernel
theorem dL_place_5 : decode cL_place 5 = .ok (.invokevirtual 22, 3) := by decide +kernel
theorem dL_place_8 : decode cL_place 8 = .ok (.lastore, 1) := by decide +kernel
theorem dL_place_9 : decode cL_place 9 = .ok (.goto 7, 3) := by decide +kernel
theorem dL_place_12 : decode cL_place 12 = .ok (.astore 4, 2) := by decide +kernel
theorem dL_place_14 : decode cL_place 14 = .ok (.iconst 1, 1) := by decide +kernel
theorem dL_place_15 : decode cL_place 15 = .ok (.ireturn, 1) := by decide +kernel
theorem dL_place_16 : decode cL_place 16 = .ok (.iconst 0, 1) := by decide +kernel
theorem dL_place_17 : decode cL_place 17 = .ok (.ireturn, 1) := by decide +kernel
theorem dL_off_0 : decode cL_off 0 = .ok (.aload_n 2, 1) := by decide +kernel
theorem dL_off_1 : decode cL_off 1 = .ok (.iconst 0, 1) := by decide +kernel
theorem dL_off_2 : decode cL_off 2 = .ok (.aload_n 0, 1) := by decide +kernel
theorem dL_off_3 : decode cL_off 3 = .ok (.iload_n 1, 1) := by decide +kernel
theorem dL_off_4 : decode cL_off 4 = .ok (.invokevirtual 26, 3) := by decide +kernel
theorem dL_off_7 : decode cL_off 7 = .ok (.lastore, 1) := by decide +kernel
theorem dL_off_8 : decode cL_off 8 = .ok (.goto 6, 3) := by decide +kernel
theorem dL_off_11 : decode cL_off 11 = .ok (.astore_n 3, 1) := by decide +kernel
theorem dL_off_12 : decode cL_off 12 = .ok (.iconst 1, 1) := by decide +kernel
theorem dL_off_13 : decode cL_off 13 = .ok (.ireturn, 1) := by decide +kernel
theorem dL_off_14 : decode cL_off 14 = .ok (.iconst 0, 1) := by decide +kernel
theorem dL_off_15 : decode cL_off 15 = .ok (.ireturn, 1) := by decide +kernel
theorem dL_count_0 : decode cL_count 0 = .ok (.aload_n 2, 1) := by decide +kernel
theorem dL_count_1 : decode cL_count 1 = .ok (.iconst 0, 1) := by decide +kernel
theorem dL_count_2 : decode cL_count 2 = .ok (.aload_n 0, 1) := by decide +kernel
theorem dL_count_3 : decode cL_count 3 = .ok (.iload_n 1, 1) := by decide +kernel
theorem dL_count_4 : decode cL_count 4 = .ok (.invokevirtual 30, 3) := by decide +kernel
theorem dL_count_7 : decode cL_count 7 = .ok (.i2l, 1) := by decide +kernel
theorem dL_count_8 : decode cL_count 8 = .ok (.lastore, 1) := by decide +kernel
theorem dL_count_9 : decode cL_count 9 = .ok (.goto 6, 3) := by decide +kernel
theorem dL_count_12 : decode cL_count 12 = .ok (.astore_n 3, 1) := by decide +kernel
theorem dL_count_13 : decode cL_count 13 = .ok (.iconst 1, 1) := by decide +kernel
theorem dL_count_14 : decode cL_count 14 = .ok (.ireturn, 1) := by decide +kernel
theorem dL_count_15 : decode cL_count 15 = .ok (.iconst 0, 1) := by decide +kernel
theorem dL_count_16 : decode cL_count 16 = .ok (.ireturn, 1) := by decide +kernel
theorem dL_law_0 : decode cL_law 0 = .ok (.new 8, 3) := by decide +kernel
theorem dL_law_3 : decode cL_law 3 = .ok (.dup, 1) := by decide +kernel
theorem dL_law_4 : decode cL_law 4 = .ok (.aload_n 0, 1) := by decide +kernel
theorem dL_law_5 : decode cL_law 5 = .ok (.iconst 0, 1) := by decide +kernel
theorem dL_law_6 : decode cL_law 6 = .ok (.invokestatic 34, 3) := by decide +kernel
theorem dL_law_9 : decode cL_law 9 = .ok (.invokespecial 40, 3) := by decide +kernel
theorem dL_law_12 : decode cL_law 12 = .ok (.astore_n 1, 1) := by decide +kernel
theorem dL_law_13 : decode cL_law 13 = .ok (.new 43, 3) := by decide +kernel
theorem dL_law_16 : decode cL_law 16 = .ok (.dup, 1) := by decide +kernel
theorem dL_law_17 : decode cL_law 17 = .ok (.aload_n 0, 1) := by decide +kernel
theorem dL_law_18 : decode cL_law 18 = .ok (.iconst 0, 1) := by decide +kernel
theorem dL_law_19 : decode cL_law 19 = .ok (.invokestatic 34, 3) := by decide +kernel
theorem dL_law_22 : decode cL_law 22 = .ok (.invokespecial 45, 3) := by decide +kernel
theorem dL_law_25 : decode cL_law 25 = .ok (.astore_n 2, 1) := by decide +kernel
theorem dL_law_26 : decode cL_law 26 = .ok (.iconst 1, 1) := by decide +kernel
theorem dL_law_27 : decode cL_law 27 = .ok (.newarray .long, 2) := by decide +kernel
theorem dL_law_29 : decode cL_law 29 = .ok (.astore_n 3, 1) := by decide +kernel
theorem dL_law_30 : decode cL_law 30 = .ok (.iconst 1, 1) := by decide +kernel
theorem dL_law_31 : decode cL_law 31 = .ok (.istore 4, 2) := by decide +kernel
theorem dL_law_33 : decode cL_law 33 = .ok (.iload 4, 2) := by decide +kernel
theorem dL_law_35 : decode cL_law 35 = .ok (.aload_n 0, 1) := by decide +kernel
theorem dL_law_36 : decode cL_law 36 = .ok (.arraylength, 1) := by decide +kernel
theorem dL_law_37 : decode cL_law 37 = .ok (.iconst 4, 1) := by decide +kernel
theorem dL_law_38 : decode cL_law 38 = .ok (.isub, 1) := by decide +kernel
theorem dL_law_39 : decode cL_law 39 = .ok (.if_icmp .gt 920, 3) := by decide +kernel
theorem dL_law_42 : decode cL_law 42 = .ok (.aload_n 0, 1) := by decide +kernel
theorem dL_law_43 : decode cL_law 43 = .ok (.iload 4, 2) := by decide +kernel
theorem dL_law_45 : decode cL_law 45 = .ok (.iaload, 1) := by decide +kernel
theorem dL_law_46 : decode cL_law 46 = .ok (.bipush 31, 2) := by decide +kernel
theorem dL_law_48 : decode cL_law 48 = .ok (.iand, 1) := by decide +kernel
theorem dL_law_49 : decode cL_law 49 = .ok (.tableswitch 904 0 19 #[95, 132, 169, 249, 274, 327, 352, 365, 390, 470, 538, 563, 588, 613, 680, 735, 749, 786, 811, 848], 95) := by decide +kernel
theorem dL_law_144 : decode cL_law 144 = .ok (.aload_n 1, 1) := by decide +kernel
theorem dL_law_145 : decode cL_law 145 = .ok (.aload_n 0, 1) := by decide +kernel
theorem dL_law_146 : decode cL_law 146 = .ok (.iload 4, 2) := by decide +kernel
theorem dL_law_148 : decode cL_law 148 = .ok (.iconst 1, 1) := by decide +kernel
theorem dL_law_149 : decode cL_law 149 = .ok (.iadd, 1) := by decide +kernel
theorem dL_law_150 : decode cL_law 150 = .ok (.iaload, 1) := by decide +kernel
theorem dL_law_151 : decode cL_law 151 = .ok (.aload_n 0, 1) := by decide +kernel
theorem dL_law_152 : decode cL_law 152 = .ok (.iload 4, 2) := by decide +kernel
theorem dL_law_154 : decode cL_law 154 = .ok (.iconst 2, 1) := by decide +kernel
theorem dL_law_155 : decode cL_law 155 = .ok (.iadd, 1) := by decide +kernel
theorem dL_law_156 : decode cL_law 156 = .ok (.iaload, 1) := by decide +kernel
theorem dL_law_157 : decode cL_law 157 = .ok (.invokevirtual 46, 3) := by decide +kernel
theorem dL_law_160 : decode cL_law 160 = .ok (.aload_n 2, 1) := by decide +kernel
theorem dL_law_161 : decode cL_law 161 = .ok (.aload_n 0, 1) := by decide +kernel
theorem dL_law_162 : decode cL_law 162 = .ok (.iload 4, 2) := by decide +kernel
theorem dL_law_164 : decode cL_law 164 = .ok (.iconst 1, 1) := by decide +kernel
theorem dL_law_165 : decode cL_law 165 = .ok (.iadd, 1) := by decide +kernel
theorem dL_law_166 : decode cL_law 166 = .ok (.iaload, 1) := by decide +kernel
theorem dL_law_167 : decode cL_law 167 = .ok (.aload_n 0, 1) := by decide +kernel
theorem dL_law_168 : decode cL_law 168 = .ok (.iload 4, 2) := by decide +kernel
theorem dL_law_170 : decode cL_law 170 = .ok (.iconst 2, 1) := by decide +kernel
theorem dL_law_171 : decode cL_law 171 = .ok (.iadd, 1) := by decide +kernel
theorem dL_law_172 : decode cL_law 172 = .ok (.iaload, 1) := by decide +kernel
theorem dL_law_173 : decode cL_law 173 = .ok (.invokevirtual 49, 3) := by decide +kernel
theorem dL_law_176 : decode cL_law 176 = .ok (.if_icmp .eq 777, 3) := by decide +kernel
theorem dL_law_179 : decode cL_law 179 = .ok (.iconst 0, 1) := by decide +kernel
theorem dL_law_180 : decode cL_law 180 = .ok (.ireturn, 1) := by decide +kernel
theorem dL_law_181 : decode cL_law 181 = .ok (.aload_n 1, 1) := by decide +kernel
theorem dL_law_182 : decode cL_law 182 = .ok (.aload_n 0, 1) := by decide +kernel
theorem dL_law_183 : decode cL_law 183 = .ok (.iload 4, 2) := by decide +kernel
theorem dL_law_185 : decode cL_law 185 = .ok (.iconst 1, 1) := by decide +kernel
theorem dL_law_186 : decode cL_law 186 = .ok (.iadd, 1) := by decide +kernel
theorem dL_law_187 : decode cL_law 187 = .ok (.iaload, 1) := by decide +kernel
theorem dL_law_188 : decode cL_law 188 = .ok (.aload_n 0, 1) := by decide +kernel
theorem dL_law_189 : decode cL_law 189 = .ok (.iload 4, 2) := by decide +kernel
theorem dL_law_191 : decode cL_law 191 = .ok (.iconst 2, 1) := by decide +kernel
theorem dL_law_192 : decode cL_law 192 = .ok (.iadd, 1) := by decide +kernel
theorem dL_law_193 : decode cL_law 193 = .ok (.iaload, 1) := by decide +kernel
theorem dL_law_194 : decode cL_law 194 = .ok (.invokevirtual 50, 3) := by decide +kernel
theorem dL_law_197 : decode cL_law 197 = .ok (.aload_n 2, 1) := by decide +kernel
theorem dL_law_198 : decode cL_law 198 = .ok (.aload_n 0, 1) := by decide +kernel
theorem dL_law_199 : decode cL_law 199 = .ok (.iload 4, 2) := by decide +kernel
theorem dL_law_201 : decode cL_law 201 = .ok (.iconst 1, 1) := by decide +kernel
theorem dL_law_202 : decode cL_law 202 = .ok (.iadd, 1) := by decide +kernel
theorem dL_law_203 : decode cL_law 203 = .ok (.iaload, 1) := by decide +kernel
theorem dL_law_204 : decode cL_law 204 = .ok (.aload_n 0, 1) := by decide +kernel
theorem dL_law_205 : decode cL_law 205 = .ok (.iload 4, 2) := by decide +kernel
theorem dL_law_207 : decode cL_law 207 = .ok (.iconst 2, 1) := by decide +kernel
theorem dL_law_208 : decode cL_law 208 = .ok (.iadd, 1) := by decide +kernel
theorem dL_law_209 : decode cL_law 209 = .ok (.iaload, 1) := by decide +kernel
theorem dL_law_210 : decode cL_law 210 = .ok (.invokevirtual 53, 3) := by decide +kernel
theorem dL_law_213 : decode cL_law 213 = .ok (.if_icmp .eq 740, 3) := by decide +kernel
theorem dL_law_216 : decode cL_law 216 = .ok (.iconst 0, 1) := by decide +kernel
theorem dL_law_217 : decode cL_law 217 = .ok (.ireturn, 1) := by decide +kernel
theorem dL_law_218 : decode cL_law 218 = .ok (.aload_n 1, 1) := by decide +kernel
theorem dL_law_219 : decode cL_law 219 = .ok (.aload_n 0, 1) := by decide +kernel
theorem dL_law_220 : decode cL_law 220 = .ok (.iload 4, 2) := by decide +kernel
theorem dL_law_222 : decode cL_law 222 = .ok (.iconst 1, 1) := by decide +kernel
theorem dL_law_223 : decode cL_law 223 = .ok (.iadd, 1) := by decide +kernel
theorem dL_law_224 : decode cL_law 224 = .ok (.iaload, 1) := by decide +kernel
theorem dL_law_225 : decode cL_law 225 = .ok (.aload_n 0, 1) := by decide +kernel
theorem dL_law_226 : decode cL_law 226 = .ok (.iload 4, 2) := by decide +kernel
theorem dL_law_228 : decode cL_law 228 = .ok (.iconst 2, 1) := by decide +kernel
theorem dL_law_229 : decode cL_law 229 = .ok (.iadd, 1) := by decide +kernel
theorem dL_law_230 : decode cL_law 230 = .ok (.iaload, 1) := by decide +kernel
theorem dL_law_231 : decode cL_law 231 = .ok (.aload_n 0, 1) := by decide +kernel
theorem dL_law_232 : decode cL_law 232 = .ok (.iload 4, 2) := by decide +kernel
theorem dL_law_234 : decode cL_law 234 = .ok (.iconst 3, 1) := by decide +kernel
theorem dL_law_235 : decode cL_law 235 = .ok (.iadd, 1) := by decide +kernel
theorem dL_law_236 : decode cL_law 236 = .ok (.iaload, 1) := by decide +kernel
theorem dL_law_237 : decode cL_law 237 = .ok (.aload_n 3, 1) := by decide +kernel
theorem dL_law_238 : decode cL_law 238 = .ok (.invokestatic 54, 3) := by decide +kernel
theorem dL_law_241 : decode cL_law 241 = .ok (.istore 5, 2) := by decide +kernel
theorem dL_law_243 : decode cL_law 243 = .ok (.aload_n 2, 1) := by decide +kernel
theorem dL_law_244 : decode cL_law 244 = .ok (.aload_n 0, 1) := by decide +kernel
theorem dL_law_245 : decode cL_law 245 = .ok (.iload 4, 2) := by decide +kernel
theorem dL_law_247 : decode cL_law 247 = .ok (.iconst 1, 1) := by decide +kernel
theorem dL_law_248 : decode cL_law 248 = .ok (.iadd, 1) := by decide +kernel
theorem dL_law_249 : decode cL_law 249 = .ok (.iaload, 1) := by decide +kernel
theorem dL_law_250 : decode cL_law 250 = .ok (.aload_n 0, 1) := by decide +kernel
theorem dL_law_251 : decode cL_law 251 = .ok (.iload 4, 2) := by decide +kernel
theorem dL_law_253 : decode cL_law 253 = .ok (.iconst 2, 1) := by decide +kernel
theorem dL_law_254 : decode cL_law 254 = .ok (.iadd, 1) := by decide +kernel
theorem dL_law_255 : decode cL_law 255 = .ok (.iaload, 1) := by decide +kernel
theorem dL_law_256 : decode cL_law 256 = .ok (.aload_n 0, 1) := by decide +kernel
theorem dL_law_257 : decode cL_law 257 = .ok (.iload 4, 2) := by decide +kernel
theorem dL_law_259 : decode cL_law 259 = .ok (.iconst 3, 1) := by decide +kernel
theorem dL_law_260 : decode cL_law 260 = .ok (.iadd, 1) := by decide +kernel
theorem dL_law_261 : decode cL_law 261 = .ok (.iaload, 1) := by decide +kernel
theorem dL_law_262 : decode cL_law 262 = .ok (.invokevirtual 57, 3) := by decide +kernel
theorem dL_law_265 : decode cL_law 265 = .ok (.istore 6, 2) := by decide +kernel
theorem dL_law_267 : decode cL_law 267 = .ok (.aload_n 2, 1) := by decide +kernel
theorem dL_law_268 : decode cL_law 268 = .ok (.invokevirtual 58, 3) := by decide +kernel
theorem dL_law_271 : decode cL_law 271 = .ok (.iload 5, 2) := by decide +kernel
theorem dL_law_273 : decode cL_law 273 = .ok (.if_icmp .eq 5, 3) := by decide +kernel
theorem dL_law_276 : decode cL_law 276 = .ok (.iconst 0, 1) := by decide +kernel
theorem dL_law_277 : decode cL_law 277 = .ok (.ireturn, 1) := by decide +kernel
theorem dL_law_278 : decode cL_law 278 = .ok (.iload 5, 2) := by decide +kernel
theorem dL_law_280 : decode cL_law 280 = .ok (.ifCond .ne 15, 3) := by decide +kernel
theorem dL_law_283 : decode cL_law 283 = .ok (.aload_n 3, 1) := by decide +kernel
theorem dL_law_284 : decode cL_law 284 = .ok (.iconst 0, 1) := by decide +kernel
theorem dL_law_285 : decode cL_law 285 = .ok (.laload, 1) := by decide +kernel
theorem dL_law_286 : decode cL_law 286 = .ok (.iload 6, 2) := by decide +kernel
theorem dL_law_288 : decode cL_law 288 = .ok (.i2l, 1) := by decide +kernel
theorem dL_law_289 : decode cL_law 289 = .ok (.lcmp, 1) := by decide +kernel
theorem dL_law_290 : decode cL_law 290 = .ok (.ifCond .eq 5, 3) := by decide +kernel
theorem dL_law_293 : decode cL_law 293 = .ok (.iconst 0, 1) := by decide +kernel
theorem dL_law_294 : decode cL_law 294 = .ok (.ireturn, 1) := by decide +kernel
theorem dL_law_295 : decode cL_law 295 = .ok (.goto 658, 3) := by decide +kernel
theorem dL_law_298 : decode cL_law 298 = .ok (.aload_n 1, 1) := by decide +kernel
theorem dL_law_299 : decode cL_law 299 = .ok (.aload_n 0, 1) := by decide +kernel
theorem dL_law_300 : decode cL_law 300 = .ok (.iload 4, 2) := by decide +kernel
theorem dL_law_302 : decode cL_law 302 = .ok (.iconst 1, 1) := by decide +kernel
theorem dL_law_303 : decode cL_law 303 = .ok (.iadd, 1) := by decide +kernel
theorem dL_law_304 : decode cL_law 304 = .ok (.iaload, 1) := by decide +kernel
theorem dL_law_305 : decode cL_law 305 = .ok (.invokevirtual 62, 3) := by decide +kernel
theorem dL_law_308 : decode cL_law 308 = .ok (.aload_n 2, 1) := by decide +kernel
theorem dL_law_309 : decode cL_law 309 = .ok (.aload_n 0, 1) := by decide +kernel
theorem dL_law_310 : decode cL_law 310 = .ok (.iload 4, 2) := by decide +kernel
theorem dL_law_312 : decode cL_law 312 = .ok (.iconst 1, 1) := by decide +kernel
theorem dL_law_313 : decode cL_law 313 = .ok (.iadd, 1) := by decide +kernel
theorem dL_law_314 : decode cL_law 314 = .ok (.iaload, 1) := by decide +kernel
theorem dL_law_315 : decode cL_law 315 = .ok (.invokevirtual 65, 3) := by decide +kernel
theorem dL_law_318 : decode cL_law 318 = .ok (.if_icmp .eq 635, 3) := by decide +kernel
theorem dL_law_321 : decode cL_law 321 = .ok (.iconst 0, 1) := by decide +kernel
theorem dL_law_322 : decode cL_law 322 = .ok (.ireturn, 1) := by decide +kernel
theorem dL_law_323 : decode cL_law 323 = .ok (.aload_n 1, 1) := by decide +kernel
theorem dL_law_324 : decode cL_law 324 = .ok (.aload_n 0, 1) := by decide +kernel
theorem dL_law_325 : decode cL_law 325 = .ok (.iload 4, 2) := by decide +kernel
theorem dL_law_327 : decode cL_law 327 = .ok (.iconst 1, 1) := by decide +kernel
theorem dL_law_328 : decode cL_law 328 = .ok (.iadd, 1) := by decide +kernel
theorem dL_law_329 : decode cL_law 329 = .ok (.iaload, 1) := by decide +kernel
theorem dL_law_330 : decode cL_law 330 = .ok (.aload_n 0, 1) := by decide +kernel
theorem dL_law_331 : decode cL_law 331 = .ok (.iload 4, 2) := by decide +kernel
theorem dL_law_333 : decode cL_law 333 = .ok (.iconst 2, 1) := by decide +kernel
theorem dL_law_334 : decode cL_law 334 = .ok (.iadd, 1) := by decide +kernel
theorem dL_law_335 : decode cL_law 335 = .ok (.iaload, 1) := by decide +kernel
theorem dL_law_336 : decode cL_law 336 = .ok (.ifCond .eq 7, 3) := by decide +kernel
theorem dL_law_339 : decode cL_law 339 = .ok (.iconst 1, 1) := by decide +kernel
theorem dL_law_340 : decode cL_law 340 = .ok (.goto 4, 3) := by decide +kernel
theorem dL_law_343 : decode cL_law 343 = .ok (.iconst 0, 1) := by decide +kernel
theorem dL_law_344 : decode cL_law 344 = .ok (.invokevirtual 66, 3) := by decide +kernel
theorem dL_law_347 : decode cL_law 347 = .ok (.aload_n 2, 1) := by decide +kernel
theorem dL_law_348 : decode cL_law 348 = .ok (.aload_n 0, 1) := by decide +kernel
theorem dL_law_349 : decode cL_law 349 = .ok (.iload 4, 2) := by decide +kernel
theorem dL_law_351 : decode cL_law 351 = .ok (.iconst 1, 1) := by decide +kernel
theorem dL_law_352 : decode cL_law 352 = .ok (.iadd, 1) := by decide +kernel
theorem dL_law_353 : decode cL_law 353 = .ok (.iaload, 1) := by decide +kernel
theorem dL_law_354 : decode cL_law 354 = .ok (.aload_n 0, 1) := by decide +kernel
theorem dL_law_355 : decode cL_law 355 = .ok (.iload 4, 2) := by decide +kernel
theorem dL_law_357 : decode cL_law 357 = .ok (.iconst 2, 1) := by decide +kernel
theorem dL_law_358 : decode cL_law 358 = .ok (.iadd, 1) := by decide +kernel
theorem dL_law_359 : decode cL_law 359 = .ok (.iaload, 1) := by decide +kernel
theorem dL_law_360 : decode cL_law 360 = .ok (.ifCond .eq 7, 3) := by decide +kernel
theorem dL_law_363 : decode cL_law 363 = .ok (.iconst 1, 1) := by decide +kernel
theorem dL_law_364 : decode cL_law 364 = .ok (.goto 4, 3) := by decide +kernel
theorem dL_law_367 : decode cL_law 367 = .ok (.iconst 0, 1) := by decide +kernel
theorem dL_law_368 : decode cL_law 368 = .ok (.invokevirtual 70, 3) := by decide +kernel
theorem dL_law_371 : decode cL_law 371 = .ok (.if_icmp .eq 582, 3) := by decide +kernel
theorem dL_law_374 : decode cL_law 374 = .ok (.iconst 0, 1) := by decide +kernel
theorem dL_law_375 : decode cL_law 375 = .ok (.ireturn, 1) := by decide +kernel
theorem dL_law_376 : decode cL_law 376 = .ok (.aload_n 1, 1) := by decide +kernel
theorem dL_law_377 : decode cL_law 377 = .ok (.aload_n 0, 1) := by decide +kernel
theorem dL_law_378 : decode cL_law 378 = .ok (.iload 4, 2) := by decide +kernel
theorem dL_law_380 : decode cL_law 380 = .ok (.iconst 1, 1) := by decide +kernel
theorem dL_law_381 : decode cL_law 381 = .ok (.iadd, 1) := by decide +kernel
theorem dL_law_382 : decode cL_law 382 = .ok (.iaload, 1) := by decide +kernel
theorem dL_law_383 : decode cL_law 383 = .ok (.invokevirtual 71, 3) := by decide +kernel
theorem dL_law_386 : decode cL_law 386 = .ok (.aload_n 2, 1) := by decide +kernel
theorem dL_law_387 : decode cL_law 387 = .ok (.aload_n 0, 1) := by decide +kernel
theorem dL_law_388 : decode cL_law 388 = .ok (.iload 4, 2) := by decide +kernel
theorem dL_law_390 : decode cL_law 390 = .ok (.iconst 1, 1) := by decide +kernel
theorem dL_law_391 : decode cL_law 391 = .ok (.iadd, 1) := by decide +kernel
theorem dL_law_392 : decode cL_law 392 = .ok (.iaload, 1) := by decide +kernel
theorem dL_law_393 : decode cL_law 393 = .ok (.invokevirtual 74, 3) := by decide +kernel
theorem dL_law_396 : decode cL_law 396 = .ok (.if_icmp .eq 557, 3) := by decide +kernel
theorem dL_law_399 : decode cL_law 399 = .ok (.iconst 0, 1) := by decide +kernel
theorem dL_law_400 : decode cL_law 400 = .ok (.ireturn, 1) := by decide +kernel
theorem dL_law_401 : decode cL_law 401 = .ok (.aload_n 1, 1) := by decide +kernel
theorem dL_law_402 : decode cL_law 402 = .ok (.invokevirtual 75, 3) := by decide +kernel
theorem dL_law_405 : decode cL_law 405 = .ok (.aload_n 2, 1) := by decide +kernel
theorem dL_law_406 : decode cL_law 406 = .ok (.invokevirtual 78, 3) := by decide +kernel
theorem dL_law_409 : decode cL_law 409 = .ok (.if_icmp .eq 544, 3) := by decide +kernel
theorem dL_law_412 : decode cL_law 412 = .ok (.iconst 0, 1) := by decide +kernel
theorem dL_law_413 : decode cL_law 413 = .ok (.ireturn, 1) := by decide +kernel
theorem dL_law_414 : decode cL_law 414 = .ok (.aload_n 1, 1) := by decide +kernel
theorem dL_law_415 : decode cL_law 415 = .ok (.aload_n 0, 1) := by decide +kernel
theorem dL_law_416 : decode cL_law 416 = .ok (.iload 4, 2) := by decide +kernel
theorem dL_law_418 : decode cL_law 418 = .ok (.iconst 1, 1) := by decide +kernel
theorem dL_law_419 : decode cL_law 419 = .ok (.iadd, 1) := by decide +kernel
theorem dL_law_420 : decode cL_law 420 = .ok (.iaload, 1) := by decide +kernel
theorem dL_law_421 : decode cL_law 421 = .ok (.invokevirtual 79, 3) := by decide +kernel
theorem dL_law_424 : decode cL_law 424 = .ok (.aload_n 2, 1) := by decide +kernel
theorem dL_law_425 : decode cL_law 425 = .ok (.aload_n 0, 1) := by decide +kernel
theorem dL_law_426 : decode cL_law 426 = .ok (.iload 4, 2) := by decide +kernel
theorem dL_law_428 : decode cL_law 428 = .ok (.iconst 1, 1) := by decide +kernel
theorem dL_law_429 : decode cL_law 429 = .ok (.iadd, 1) := by decide +kernel
theorem dL_law_430 : decode cL_law 430 = .ok (.iaload, 1) := by decide +kernel
theorem dL_law_431 : decode cL_law 431 = .ok (.invokevirtual 82, 3) := by decide +kernel
theorem dL_law_434 : decode cL_law 434 = .ok (.if_icmp .eq 519, 3) := by decide +kernel
theorem dL_law_437 : decode cL_law 437 = .ok (.iconst 0, 1) := by decide +kernel
theorem dL_law_438 : decode cL_law 438 = .ok (.ireturn, 1) := by decide +kernel
theorem dL_law_439 : decode cL_law 439 = .ok (.aload_n 1, 1) := by decide +kernel
theorem dL_law_440 : decode cL_law 440 = .ok (.aload_n 0, 1) := by decide +kernel
theorem dL_law_441 : decode cL_law 441 = .ok (.iload 4, 2) := by decide +kernel
theorem dL_law_443 : decode cL_law 443 = .ok (.iconst 1, 1) := by decide +kernel
theorem dL_law_444 : decode cL_law 444 = .ok (.iadd, 1) := by decide +kernel
theorem dL_law_445 : decode cL_law 445 = .ok (.iaload, 1) := by decide +kernel
theorem dL_law_446 : decode cL_law 446 = .ok (.aload_n 0, 1) := by decide +kernel
theorem dL_law_447 : decode cL_law 447 = .ok (.iload 4, 2) := by decide +kernel
theorem dL_law_449 : decode cL_law 449 = .ok (.iconst 2, 1) := by decide +kernel
theorem dL_law_450 : decode cL_law 450 = .ok (.iadd, 1) := by decide +kernel
theorem dL_law_451 : decode cL_law 451 = .ok (.iaload, 1) := by decide +kernel
theorem dL_law_452 : decode cL_law 452 = .ok (.aload_n 0, 1) := by decide +kernel
theorem dL_law_453 : decode cL_law 453 = .ok (.iload 4, 2) := by decide +kernel
theorem dL_law_455 : decode cL_law 455 = .ok (.iconst 3, 1) := by decide +kernel
theorem dL_law_456 : decode cL_law 456 = .ok (.iadd, 1) := by decide +kernel
theorem dL_law_457 : decode cL_law 457 = .ok (.iaload, 1) := by decide +kernel
theorem dL_law_458 : decode cL_law 458 = .ok (.aload_n 3, 1) := by decide +kernel
theorem dL_law_459 : decode cL_law 459 = .ok (.invokestatic 83, 3) := by decide +kernel
theorem dL_law_462 : decode cL_law 462 = .ok (.istore 5, 2) := by decide +kernel
theorem dL_law_464 : decode cL_law 464 = .ok (.aload_n 2, 1) := by decide +kernel
theorem dL_law_465 : decode cL_law 465 = .ok (.aload_n 0, 1) := by decide +kernel
theorem dL_law_466 : decode cL_law 466 = .ok (.iload 4, 2) := by decide +kernel
theorem dL_law_468 : decode cL_law 468 = .ok (.iconst 1, 1) := by decide +kernel
theorem dL_law_469 : decode cL_law 469 = .ok (.iadd, 1) := by decide +kernel
theorem dL_law_470 : decode cL_law 470 = .ok (.iaload, 1) := by decide +kernel
theorem dL_law_471 : decode cL_law 471 = .ok (.aload_n 0, 1) := by decide +kernel
theorem dL_law_472 : decode cL_law 472 = .ok (.iload 4, 2) := by decide +kernel
theorem dL_law_474 : decode cL_law 474 = .ok (.iconst 2, 1) := by decide +kernel
theorem dL_law_475 : decode cL_law 475 = .ok (.iadd, 1) := by decide +kernel
theorem dL_law_476 : decode cL_law 476 = .ok (.iaload, 1) := by decide +kernel
theorem dL_law_477 : decode cL_law 477 = .ok (.aload_n 0, 1) := by decide +kernel
theorem dL_law_478 : decode cL_law 478 = .ok (.iload 4, 2) := by decide +kernel
theorem dL_law_480 : decode cL_law 480 = .ok (.iconst 3, 1) := by decide +kernel
theorem dL_law_481 : decode cL_law 481 = .ok (.iadd, 1) := by decide +kernel
theorem dL_law_482 : decode cL_law 482 = .ok (.iaload, 1) := by decide +kernel
theorem dL_law_483 : decode cL_law 483 = .ok (.invokevirtual 85, 3) := by decide +kernel
theorem dL_law_486 : decode cL_law 486 = .ok (.istore 6, 2) := by decide +kernel
theorem dL_law_488 : decode cL_law 488 = .ok (.aload_n 2, 1) := by decide +kernel
theorem dL_law_489 : decode cL_law 489 = .ok (.invokevirtual 58, 3) := by decide +kernel
theorem dL_law_492 : decode cL_law 492 = .ok (.iload 5, 2) := by decide +kernel
theorem dL_law_494 : decode cL_law 494 = .ok (.if_icmp .eq 5, 3) := by decide +kernel
theorem dL_law_497 : decode cL_law 497 = .ok (.iconst 0, 1) := by decide +kernel
theorem dL_law_498 : decode cL_law 498 = .ok (.ireturn, 1) := by decide +kernel
theorem dL_law_499 : decode cL_law 499 = .ok (.iload 5, 2) := by decide +kernel
theorem dL_law_501 : decode cL_law 501 = .ok (.ifCond .ne 15, 3) := by decide +kernel
theorem dL_law_504 : decode cL_law 504 = .ok (.aload_n 3, 1) := by decide +kernel
theorem dL_law_505 : decode cL_law 505 = .ok (.iconst 0, 1) := by decide +kernel
theorem dL_law_506 : decode cL_law 506 = .ok (.laload, 1) := by decide +kernel
theorem dL_law_507 : decode cL_law 507 = .ok (.iload 6, 2) := by decide +kernel
theorem dL_law_509 : decode cL_law 509 = .ok (.i2l, 1) := by decide +kernel
theorem dL_law_510 : decode cL_law 510 = .ok (.lcmp, 1) := by decide +kernel
theorem dL_law_511 : decode cL_law 511 = .ok (.ifCond .eq 5, 3) := by decide +kernel
theorem dL_law_514 : decode cL_law 514 = .ok (.iconst 0, 1) := by decide +kernel
theorem dL_law_515 : decode cL_law 515 = .ok (.ireturn, 1) := by decide +kernel
theorem dL_law_516 : decode cL_law 516 = .ok (.goto 437, 3) := by decide +kernel
theorem dL_law_519 : decode cL_law 519 = .ok (.aload_n 1, 1) := by decide +kernel
theorem dL_law_520 : decode cL_law 520 = .ok (.aload_n 0, 1) := by decide +kernel
theorem dL_law_521 : decode cL_law 521 = .ok (.iload 4, 2) := by decide +kernel
theorem dL_law_523 : decode cL_law 523 = .ok (.iconst 1, 1) := by decide +kernel
theorem dL_law_524 : decode cL_law 524 = .ok (.iadd, 1) := by decide +kernel
theorem dL_law_525 : decode cL_law 525 = .ok (.iaload, 1) := by decide +kernel
theorem dL_law_526 : decode cL_law 526 = .ok (.aload_n 0, 1) := by decide +kernel
theorem dL_law_527 : decode cL_law 527 = .ok (.iload 4, 2) := by decide +kernel
theorem dL_law_529 : decode cL_law 529 = .ok (.iconst 2, 1) := by decide +kernel
theorem dL_law_530 : decode cL_law 530 = .ok (.iadd, 1) := by decide +kernel
theorem dL_law_531 : decode cL_law 531 = .ok (.iaload, 1) := by decide +kernel
theorem dL_law_532 : decode cL_law 532 = .ok (.aload_n 3, 1) := by decide +kernel
theorem dL_law_533 : decode cL_law 533 = .ok (.invokestatic 86, 3) := by decide +kernel
theorem dL_law_536 : decode cL_law 536 = .ok (.istore 5, 2) := by decide +kernel
theorem dL_law_538 : decode cL_law 538 = .ok (.aload_n 2, 1) := by decide +kernel
theorem dL_law_539 : decode cL_law 539 = .ok (.aload_n 0, 1) := by decide +kernel
theorem dL_law_540 : decode cL_law 540 = .ok (.iload 4, 2) := by decide +kernel
theorem dL_law_542 : decode cL_law 542 = .ok (.iconst 1, 1) := by decide +kernel
theorem dL_law_543 : decode cL_law 543 = .ok (.iadd, 1) := by decide +kernel
theorem dL_law_544 : decode cL_law 544 = .ok (.iaload, 1) := by decide +kernel
theorem dL_law_545 : decode cL_law 545 = .ok (.aload_n 0, 1) := by decide +kernel
theorem dL_law_546 : decode cL_law 546 = .ok (.iload 4, 2) := by decide +kernel
theorem dL_law_548 : decode cL_law 548 = .ok (.iconst 2, 1) := by decide +kernel
theorem dL_law_549 : decode cL_law 549 = .ok (.iadd, 1) := by decide +kernel
theorem dL_law_550 : decode cL_law 550 = .ok (.iaload, 1) := by decide +kernel
theorem dL_law_551 : decode cL_law 551 = .ok (.invokevirtual 89, 3) := by decide +kernel
theorem dL_law_554 : decode cL_law 554 = .ok (.istore 6, 2) := by decide +kernel
theorem dL_law_556 : decode cL_law 556 = .ok (.aload_n 2, 1) := by decide +kernel
theorem dL_law_557 : decode cL_law 557 = .ok (.invokevirtual 58, 3) := by decide +kernel
theorem dL_law_560 : decode cL_law 560 = .ok (.iload 5, 2) := by decide +kernel
theorem dL_law_562 : decode cL_law 562 = .ok (.if_icmp .eq 5, 3) := by decide +kernel
theorem dL_law_565 : decode cL_law 565 = .ok (.iconst 0, 1) := by decide +kernel
theorem dL_law_566 : decode cL_law 566 = .ok (.ireturn, 1) := by decide +kernel
theorem dL_law_567 : decode cL_law 567 = .ok (.iload 5, 2) := by decide +kernel
theorem dL_law_569 : decode cL_law 569 = .ok (.ifCond .ne 15, 3) := by decide +kernel
theorem dL_law_572 : decode cL_law 572 = .ok (.aload_n 3, 1) := by decide +kernel
theorem dL_law_573 : decode cL_law 573 = .ok (.iconst 0, 1) := by decide +kernel
theorem dL_law_574 : decode cL_law 574 = .ok (.laload, 1) := by decide +kernel
theorem dL_law_575 : decode cL_law 575 = .ok (.iload 6, 2) := by decide +kernel
theorem dL_law_577 : decode cL_law 577 = .ok (.i2l, 1) := by decide +kernel
theorem dL_law_578 : decode cL_law 578 = .ok (.lcmp, 1) := by decide +kernel
theorem dL_law_579 : decode cL_law 579 = .ok (.ifCond .eq 5, 3) := by decide +kernel
theorem dL_law_582 : decode cL_law 582 = .ok (.iconst 0, 1) := by decide +kernel
theorem dL_law_583 : decode cL_law 583 = .ok (.ireturn, 1) := by decide +kernel
theorem dL_law_584 : decode cL_law 584 = .ok (.goto 369, 3) := by decide +kernel
theorem dL_law_587 : decode cL_law 587 = .ok (.aload_n 1, 1) := by decide +kernel
theorem dL_law_588 : decode cL_law 588 = .ok (.aload_n 0, 1) := by decide +kernel
theorem dL_law_589 : decode cL_law 589 = .ok (.iload 4, 2) := by decide +kernel
theorem dL_law_591 : decode cL_law 591 = .ok (.iconst 1, 1) := by decide +kernel
theorem dL_law_592 : decode cL_law 592 = .ok (.iadd, 1) := by decide +kernel
theorem dL_law_593 : decode cL_law 593 = .ok (.iaload, 1) := by decide +kernel
theorem dL_law_594 : decode cL_law 594 = .ok (.invokevirtual 90, 3) := by decide +kernel
theorem dL_law_597 : decode cL_law 597 = .ok (.aload_n 2, 1) := by decide +kernel
theorem dL_law_598 : decode cL_law 598 = .ok (.aload_n 0, 1) := by decide +kernel
theorem dL_law_599 : decode cL_law 599 = .ok (.iload 4, 2) := by decide +kernel
theorem dL_law_601 : decode cL_law 601 = .ok (.iconst 1, 1) := by decide +kernel
theorem dL_law_602 : decode cL_law 602 = .ok (.iadd, 1) := by decide +kernel
theorem dL_law_603 : decode cL_law 603 = .ok (.iaload, 1) := by decide +kernel
theorem dL_law_604 : decode cL_law 604 = .ok (.invokevirtual 93, 3) := by decide +kernel
theorem dL_law_607 : decode cL_law 607 = .ok (.if_icmp .eq 346, 3) := by decide +kernel
theorem dL_law_610 : decode cL_law 610 = .ok (.iconst 0, 1) := by decide +kernel
theorem dL_law_611 : decode cL_law 611 = .ok (.ireturn, 1) := by decide +kernel
theorem dL_law_612 : decode cL_law 612 = .ok (.aload_n 1, 1) := by decide +kernel
theorem dL_law_613 : decode cL_law 613 = .ok (.aload_n 0, 1) := by decide +kernel
theorem dL_law_614 : decode cL_law 614 = .ok (.iload 4, 2) := by decide +kernel
theorem dL_law_616 : decode cL_law 616 = .ok (.iconst 1, 1) := by decide +kernel
theorem dL_law_617 : decode cL_law 617 = .ok (.iadd, 1) := by decide +kernel
theorem dL_law_618 : decode cL_law 618 = .ok (.iaload, 1) := by decide +kernel
theorem dL_law_619 : decode cL_law 619 = .ok (.invokevirtual 94, 3) := by decide +kernel
theorem dL_law_622 : decode cL_law 622 = .ok (.aload_n 2, 1) := by decide +kernel
theorem dL_law_623 : decode cL_law 623 = .ok (.aload_n 0, 1) := by decide +kernel
theorem dL_law_624 : decode cL_law 624 = .ok (.iload 4, 2) := by decide +kernel
theorem dL_law_626 : decode cL_law 626 = .ok (.iconst 1, 1) := by decide +kernel
theorem dL_law_627 : decode cL_law 627 = .ok (.iadd, 1) := by decide +kernel
theorem dL_law_628 : decode cL_law 628 = .ok (.iaload, 1) := by decide +kernel
theorem dL_law_629 : decode cL_law 629 = .ok (.invokevirtual 97, 3) := by decide +kernel
theorem dL_law_632 : decode cL_law 632 = .ok (.if_icmp .eq 321, 3) := by decide +kernel
theorem dL_law_635 : decode cL_law 635 = .ok (.iconst 0, 1) := by decide +kernel
theorem dL_law_636 : decode cL_law 636 = .ok (.ireturn, 1) := by decide +kernel
theorem dL_law_637 : decode cL_law 637 = .ok (.aload_n 1, 1) := by decide +kernel
theorem dL_law_638 : decode cL_law 638 = .ok (.aload_n 0, 1) := by decide +kernel
theorem dL_law_639 : decode cL_law 639 = .ok (.iload 4, 2) := by decide +kernel
theorem dL_law_641 : decode cL_law 641 = .ok (.iconst 1, 1) := by decide +kernel
theorem dL_law_642 : decode cL_law 642 = .ok (.iadd, 1) := by decide +kernel
theorem dL_law_643 : decode cL_law 643 = .ok (.iaload, 1) := by decide +kernel
theorem dL_law_644 : decode cL_law 644 = .ok (.invokevirtual 98, 3) := by decide +kernel
theorem dL_law_647 : decode cL_law 647 = .ok (.aload_n 2, 1) := by decide +kernel
theorem dL_law_648 : decode cL_law 648 = .ok (.aload_n 0, 1) := by decide +kernel
theorem dL_law_649 : decode cL_law 649 = .ok (.iload 4, 2) := by decide +kernel
theorem dL_law_651 : decode cL_law 651 = .ok (.iconst 1, 1) := by decide +kernel
theorem dL_law_652 : decode cL_law 652 = .ok (.iadd, 1) := by decide +kernel
theorem dL_law_653 : decode cL_law 653 = .ok (.iaload, 1) := by decide +kernel
theorem dL_law_654 : decode cL_law 654 = .ok (.invokevirtual 101, 3) := by decide +kernel
theorem dL_law_657 : decode cL_law 657 = .ok (.if_icmp .eq 296, 3) := by decide +kernel
theorem dL_law_660 : decode cL_law 660 = .ok (.iconst 0, 1) := by decide +kernel
theorem dL_law_661 : decode cL_law 661 = .ok (.ireturn, 1) := by decide +kernel
theorem dL_law_662 : decode cL_law 662 = .ok (.aload_n 1, 1) := by decide +kernel
theorem dL_law_663 : decode cL_law 663 = .ok (.aload_n 0, 1) := by decide +kernel
theorem dL_law_664 : decode cL_law 664 = .ok (.iload 4, 2) := by decide +kernel
theorem dL_law_666 : decode cL_law 666 = .ok (.iconst 1, 1) := by decide +kernel
theorem dL_law_667 : decode cL_law 667 = .ok (.iadd, 1) := by decide +kernel
theorem dL_law_668 : decode cL_law 668 = .ok (.iaload, 1) := by decide +kernel
theorem dL_law_669 : decode cL_law 669 = .ok (.aload_n 0, 1) := by decide +kernel
theorem dL_law_670 : decode cL_law 670 = .ok (.iload 4, 2) := by decide +kernel
theorem dL_law_672 : decode cL_law 672 = .ok (.iconst 2, 1) := by decide +kernel
theorem dL_law_673 : decode cL_law 673 = .ok (.iadd, 1) := by decide +kernel
theorem dL_law_674 : decode cL_law 674 = .ok (.iaload, 1) := by decide +kernel
theorem dL_law_675 : decode cL_law 675 = .ok (.aload_n 3, 1) := by decide +kernel
theorem dL_law_676 : decode cL_law 676 = .ok (.invokestatic 102, 3) := by decide +kernel
theorem dL_law_679 : decode cL_law 679 = .ok (.istore 5, 2) := by decide +kernel
theorem dL_law_681 : decode cL_law 681 = .ok (.aload_n 2, 1) := by decide +kernel
theorem dL_law_682 : decode cL_law 682 = .ok (.aload_n 0, 1) := by decide +kernel
theorem dL_law_683 : decode cL_law 683 = .ok (.iload 4, 2) := by decide +kernel
theorem dL_law_685 : decode cL_law 685 = .ok (.iconst 1, 1) := by decide +kernel
theorem dL_law_686 : decode cL_law 686 = .ok (.iadd, 1) := by decide +kernel
theorem dL_law_687 : decode cL_law 687 = .ok (.iaload, 1) := by decide +kernel
theorem dL_law_688 : decode cL_law 688 = .ok (.aload_n 0, 1) := by decide +kernel
theorem dL_law_689 : decode cL_law 689 = .ok (.iload 4, 2) := by decide +kernel
theorem dL_law_691 : decode cL_law 691 = .ok (.iconst 2, 1) := by decide +kernel
theorem dL_law_692 : decode cL_law 692 = .ok (.iadd, 1) := by decide +kernel
theorem dL_law_693 : decode cL_law 693 = .ok (.iaload, 1) := by decide +kernel
theorem dL_law_694 : decode cL_law 694 = .ok (.invokevirtual 104, 3) := by decide +kernel
theorem dL_law_697 : decode cL_law 697 = .ok (.lstore 6, 2) := by decide +kernel
theorem dL_law_699 : decode cL_law 699 = .ok (.aload_n 2, 1) := by decide +kernel
theorem dL_law_700 : decode cL_law 700 = .ok (.invokevirtual 58, 3) := by decide +kernel
theorem dL_law_703 : decode cL_law 703 = .ok (.iload 5, 2) := by decide +kernel
theorem dL_law_705 : decode cL_law 705 = .ok (.if_icmp .eq 5, 3) := by decide +kernel
theorem dL_law_708 : decode cL_law 708 = .ok (.iconst 0, 1) := by decide +kernel
theorem dL_law_709 : decode cL_law 709 = .ok (.ireturn, 1) := by decide +kernel
theorem dL_law_710 : decode cL_law 710 = .ok (.iload 5, 2) := by decide +kernel
theorem dL_law_712 : decode cL_law 712 = .ok (.ifCond .ne 14, 3) := by decide +kernel
theorem dL_law_715 : decode cL_law 715 = .ok (.aload_n 3, 1) := by decide +kernel
theorem dL_law_716 : decode cL_law 716 = .ok (.iconst 0, 1) := by decide +kernel
theorem dL_law_717 : decode cL_law 717 = .ok (.laload, 1) := by decide +kernel
theorem dL_law_718 : decode cL_law 718 = .ok (.lload 6, 2) := by decide +kernel
theorem dL_law_720 : decode cL_law 720 = .ok (.lcmp, 1) := by decide +kernel
theorem dL_law_721 : decode cL_law 721 = .ok (.ifCond .eq 5, 3) := by decide +kernel
theorem dL_law_724 : decode cL_law 724 = .ok (.iconst 0, 1) := by decide +kernel
theorem dL_law_725 : decode cL_law 725 = .ok (.ireturn, 1) := by decide +kernel
theorem dL_law_726 : decode cL_law 726 = .ok (.goto 227, 3) := by decide +kernel
theorem dL_law_729 : decode cL_law 729 = .ok (.aload_n 1, 1) := by decide +kernel
theorem dL_law_730 : decode cL_law 730 = .ok (.aload_n 0, 1) := by decide +kernel
theorem dL_law_731 : decode cL_law 731 = .ok (.iload 4, 2) := by decide +kernel
theorem dL_law_733 : decode cL_law 733 = .ok (.iconst 1, 1) := by decide +kernel
theorem dL_law_734 : decode cL_law 734 = .ok (.iadd, 1) := by decide +kernel
theorem dL_law_735 : decode cL_law 735 = .ok (.iaload, 1) := by decide +kernel
theorem dL_law_736 : decode cL_law 736 = .ok (.aload_n 3, 1) := by decide +kernel
theorem dL_law_737 : decode cL_law 737 = .ok (.invokestatic 105, 3) := by decide +kernel
theorem dL_law_740 : decode cL_law 740 = .ok (.istore 5, 2) := by decide +kernel
theorem dL_law_742 : decode cL_law 742 = .ok (.aload_n 2, 1) := by decide +kernel
theorem dL_law_743 : decode cL_law 743 = .ok (.aload_n 0, 1) := by decide +kernel
theorem dL_law_744 : decode cL_law 744 = .ok (.iload 4, 2) := by decide +kernel
theorem dL_law_746 : decode cL_law 746 = .ok (.iconst 1, 1) := by decide +kernel
theorem dL_law_747 : decode cL_law 747 = .ok (.iadd, 1) := by decide +kernel
theorem dL_law_748 : decode cL_law 748 = .ok (.iaload, 1) := by decide +kernel
theorem dL_law_749 : decode cL_law 749 = .ok (.invokevirtual 108, 3) := by decide +kernel
theorem dL_law_752 : decode cL_law 752 = .ok (.lstore 6, 2) := by decide +kernel
theorem dL_law_754 : decode cL_law 754 = .ok (.aload_n 2, 1) := by decide +kernel
theorem dL_law_755 : decode cL_law 755 = .ok (.invokevirtual 58, 3) := by decide +kernel
theorem dL_law_758 : decode cL_law 758 = .ok (.iload 5, 2) := by decide +kernel
theorem dL_law_760 : decode cL_law 760 = .ok (.if_icmp .eq 5, 3) := by decide +kernel
theorem dL_law_763 : decode cL_law 763 = .ok (.iconst 0, 1) := by decide +kernel
theorem dL_law_764 : decode cL_law 764 = .ok (.ireturn, 1) := by decide +kernel
theorem dL_law_765 : decode cL_law 765 = .ok (.iload 5, 2) := by decide +kernel
theorem dL_law_767 : decode cL_law 767 = .ok (.ifCond .ne 14, 3) := by decide +kernel
theorem dL_law_770 : decode cL_law 770 = .ok (.aload_n 3, 1) := by decide +kernel
theorem dL_law_771 : decode cL_law 771 = .ok (.iconst 0, 1) := by decide +kernel
theorem dL_law_772 : decode cL_law 772 = .ok (.laload, 1) := by decide +kernel
theorem dL_law_773 : decode cL_law 773 = .ok (.lload 6, 2) := by decide +kernel
theorem dL_law_775 : decode cL_law 775 = .ok (.lcmp, 1) := by decide +kernel
theorem dL_law_776 : decode cL_law 776 = .ok (.ifCond .eq 5, 3) := by decide +kernel
theorem dL_law_779 : decode cL_law 779 = .ok (.iconst 0, 1) := by decide +kernel
theorem dL_law_780 : decode cL_law 780 = .ok (.ireturn, 1) := by decide +kernel
theorem dL_law_781 : decode cL_law 781 = .ok (.goto 172, 3) := by decide +kernel
theorem dL_law_784 : decode cL_law 784 = .ok (.aload_n 1, 1) := by decide +kernel
theorem dL_law_785 : decode cL_law 785 = .ok (.invokevirtual 109, 3) := by decide +kernel
theorem dL_law_788 : decode cL_law 788 = .ok (.aload_n 2, 1) := by decide +kernel
theorem dL_law_789 : decode cL_law 789 = .ok (.invokevirtual 113, 3) := by decide +kernel
theorem dL_law_792 : decode cL_law 792 = .ok (.lcmp, 1) := by decide +kernel
theorem dL_law_793 : decode cL_law 793 = .ok (.ifCond .eq 160, 3) := by decide +kernel
theorem dL_law_796 : decode cL_law 796 = .ok (.iconst 0, 1) := by decide +kernel
theorem dL_law_797 : decode cL_law 797 = .ok (.ireturn, 1) := by decide +kernel
theorem dL_law_798 : decode cL_law 798 = .ok (.aload_n 1, 1) := by decide +kernel
theorem dL_law_799 : decode cL_law 799 = .ok (.aload_n 0, 1) := by decide +kernel
theorem dL_law_800 : decode cL_law 800 = .ok (.iload 4, 2) := by decide +kernel
theorem dL_law_802 : decode cL_law 802 = .ok (.iconst 1, 1) := by decide +kernel
theorem dL_law_803 : decode cL_law 803 = .ok (.iadd, 1) := by decide +kernel
theorem dL_law_804 : decode cL_law 804 = .ok (.iaload, 1) := by decide +kernel
theorem dL_law_805 : decode cL_law 805 = .ok (.aload_n 0, 1) := by decide +kernel
theorem dL_law_806 : decode cL_law 806 = .ok (.iload 4, 2) := by decide +kernel
theorem dL_law_808 : decode cL_law 808 = .ok (.iconst 2, 1) := by decide +kernel
theorem dL_law_809 : decode cL_law 809 = .ok (.iadd, 1) := by decide +kernel
theorem dL_law_810 : decode cL_law 810 = .ok (.iaload, 1) := by decide +kernel
theorem dL_law_811 : decode cL_law 811 = .ok (.invokevirtual 114, 3) := by decide +kernel
theorem dL_law_814 : decode cL_law 814 = .ok (.aload_n 2, 1) := by decide +kernel
theorem dL_law_815 : decode cL_law 815 = .ok (.aload_n 0, 1) := by decide +kernel
theorem dL_law_816 : decode cL_law 816 = .ok (.iload 4, 2) := by decide +kernel
theorem dL_law_818 : decode cL_law 818 = .ok (.iconst 1, 1) := by decide +kernel
theorem dL_law_819 : decode cL_law 819 = .ok (.iadd, 1) := by decide +kernel
theorem dL_law_820 : decode cL_law 820 = .ok (.iaload, 1) := by decide +kernel
theorem dL_law_821 : decode cL_law 821 = .ok (.aload_n 0, 1) := by decide +kernel
theorem dL_law_822 : decode cL_law 822 = .ok (.iload 4, 2) := by decide +kernel
theorem dL_law_824 : decode cL_law 824 = .ok (.iconst 2, 1) := by decide +kernel
theorem dL_law_825 : decode cL_law 825 = .ok (.iadd, 1) := by decide +kernel
theorem dL_law_826 : decode cL_law 826 = .ok (.iaload, 1) := by decide +kernel
theorem dL_law_827 : decode cL_law 827 = .ok (.invokevirtual 117, 3) := by decide +kernel
theorem dL_law_830 : decode cL_law 830 = .ok (.if_icmp .eq 123, 3) := by decide +kernel
theorem dL_law_833 : decode cL_law 833 = .ok (.iconst 0, 1) := by decide +kernel
theorem dL_law_834 : decode cL_law 834 = .ok (.ireturn, 1) := by decide +kernel
theorem dL_law_835 : decode cL_law 835 = .ok (.aload_n 1, 1) := by decide +kernel
theorem dL_law_836 : decode cL_law 836 = .ok (.aload_n 0, 1) := by decide +kernel
theorem dL_law_837 : decode cL_law 837 = .ok (.iload 4, 2) := by decide +kernel
theorem dL_law_839 : decode cL_law 839 = .ok (.iconst 1, 1) := by decide +kernel
theorem dL_law_840 : decode cL_law 840 = .ok (.iadd, 1) := by decide +kernel
theorem dL_law_841 : decode cL_law 841 = .ok (.iaload, 1) := by decide +kernel
theorem dL_law_842 : decode cL_law 842 = .ok (.invokevirtual 118, 3) := by decide +kernel
theorem dL_law_845 : decode cL_law 845 = .ok (.aload_n 2, 1) := by decide +kernel
theorem dL_law_846 : decode cL_law 846 = .ok (.aload_n 0, 1) := by decide +kernel
theorem dL_law_847 : decode cL_law 847 = .ok (.iload 4, 2) := by decide +kernel
theorem dL_law_849 : decode cL_law 849 = .ok (.iconst 1, 1) := by decide +kernel
theorem dL_law_850 : decode cL_law 850 = .ok (.iadd, 1) := by decide +kernel
theorem dL_law_851 : decode cL_law 851 = .ok (.iaload, 1) := by decide +kernel
theorem dL_law_852 : decode cL_law 852 = .ok (.invokevirtual 121, 3) := by decide +kernel
theorem dL_law_855 : decode cL_law 855 = .ok (.if_icmp .eq 98, 3) := by decide +kernel
theorem dL_law_858 : decode cL_law 858 = .ok (.iconst 0, 1) := by decide +kernel
theorem dL_law_859 : decode cL_law 859 = .ok (.ireturn, 1) := by decide +kernel
theorem dL_law_860 : decode cL_law 860 = .ok (.aload_n 1, 1) := by decide +kernel
theorem dL_law_861 : decode cL_law 861 = .ok (.aload_n 0, 1) := by decide +kernel
theorem dL_law_862 : decode cL_law 862 = .ok (.iload 4, 2) := by decide +kernel
theorem dL_law_864 : decode cL_law 864 = .ok (.iconst 1, 1) := by decide +kernel
theorem dL_law_865 : decode cL_law 865 = .ok (.iadd, 1) := by decide +kernel
theorem dL_law_866 : decode cL_law 866 = .ok (.iaload, 1) := by decide +kernel
theorem dL_law_867 : decode cL_law 867 = .ok (.aload_n 0, 1) := by decide +kernel
theorem dL_law_868 : decode cL_law 868 = .ok (.iload 4, 2) := by decide +kernel
theorem dL_law_870 : decode cL_law 870 = .ok (.iconst 2, 1) := by decide +kernel
theorem dL_law_871 : decode cL_law 871 = .ok (.iadd, 1) := by decide +kernel
theorem dL_law_872 : decode cL_law 872 = .ok (.iaload, 1) := by decide +kernel
theorem dL_law_873 : decode cL_law 873 = .ok (.invokevirtual 122, 3) := by decide +kernel
theorem dL_law_876 : decode cL_law 876 = .ok (.aload_n 2, 1) := by decide +kernel
theorem dL_law_877 : decode cL_law 877 = .ok (.aload_n 0, 1) := by decide +kernel
theorem dL_law_878 : decode cL_law 878 = .ok (.iload 4, 2) := by decide +kernel
theorem dL_law_880 : decode cL_law 880 = .ok (.iconst 1, 1) := by decide +kernel
theorem dL_law_881 : decode cL_law 881 = .ok (.iadd, 1) := by decide +kernel
theorem dL_law_882 : decode cL_law 882 = .ok (.iaload, 1) := by decide +kernel
theorem dL_law_883 : decode cL_law 883 = .ok (.aload_n 0, 1) := by decide +kernel
theorem dL_law_884 : decode cL_law 884 = .ok (.iload 4, 2) := by decide +kernel
theorem dL_law_886 : decode cL_law 886 = .ok (.iconst 2, 1) := by decide +kernel
theorem dL_law_887 : decode cL_law 887 = .ok (.iadd, 1) := by decide +kernel
theorem dL_law_888 : decode cL_law 888 = .ok (.iaload, 1) := by decide +kernel
theorem dL_law_889 : decode cL_law 889 = .ok (.invokevirtual 125, 3) := by decide +kernel
theorem dL_law_892 : decode cL_law 892 = .ok (.if_icmp .eq 61, 3) := by decide +kernel
theorem dL_law_895 : decode cL_law 895 = .ok (.iconst 0, 1) := by decide +kernel
theorem dL_law_896 : decode cL_law 896 = .ok (.ireturn, 1) := by decide +kernel
theorem dL_law_897 : decode cL_law 897 = .ok (.aload_n 1, 1) := by decide +kernel
theorem dL_law_898 : decode cL_law 898 = .ok (.aload_n 0, 1) := by decide +kernel
theorem dL_law_899 : decode cL_law 899 = .ok (.iload 4, 2) := by decide +kernel
theorem dL_law_901 : decode cL_law 901 = .ok (.iconst 1, 1) := by decide +kernel
theorem dL_law_902 : decode cL_law 902 = .ok (.iadd, 1) := by decide +kernel
theorem dL_law_903 : decode cL_law 903 = .ok (.iaload, 1) := by decide +kernel
theorem dL_law_904 : decode cL_law 904 = .ok (.aload_n 3, 1) := by decide +kernel
theorem dL_law_905 : decode cL_law 905 = .ok (.invokestatic 126, 3) := by decide +kernel
theorem dL_law_908 : decode cL_law 908 = .ok (.istore 5, 2) := by decide +kernel
theorem dL_law_910 : decode cL_law 910 = .ok (.aload_n 2, 1) := by decide +kernel
theorem dL_law_911 : decode cL_law 911 = .ok (.aload_n 0, 1) := by decide +kernel
theorem dL_law_912 : decode cL_law 912 = .ok (.iload 4, 2) := by decide +kernel
theorem dL_law_914 : decode cL_law 914 = .ok (.iconst 1, 1) := by decide +kernel
theorem dL_law_915 : decode cL_law 915 = .ok (.iadd, 1) := by decide +kernel
theorem dL_law_916 : decode cL_law 916 = .ok (.iaload, 1) := by decide +kernel
theorem dL_law_917 : decode cL_law 917 = .ok (.invokevirtual 128, 3) := by decide +kernel
theorem dL_law_920 : decode cL_law 920 = .ok (.istore 6, 2) := by decide +kernel
theorem dL_law_922 : decode cL_law 922 = .ok (.aload_n 2, 1) := by decide +kernel
theorem dL_law_923 : decode cL_law 923 = .ok (.invokevirtual 58, 3) := by decide +kernel
theorem dL_law_926 : decode cL_law 926 = .ok (.iload 5, 2) := by decide +kernel
theorem dL_law_928 : decode cL_law 928 = .ok (.if_icmp .eq 5, 3) := by decide +kernel
theorem dL_law_931 : decode cL_law 931 = .ok (.iconst 0, 1) := by decide +kernel
theorem dL_law_932 : decode cL_law 932 = .ok (.ireturn, 1) := by decide +kernel
theorem dL_law_933 : decode cL_law 933 = .ok (.iload 5, 2) := by decide +kernel
theorem dL_law_935 : decode cL_law 935 = .ok (.ifCond .ne 15, 3) := by decide +kernel
theorem dL_law_938 : decode cL_law 938 = .ok (.aload_n 3, 1) := by decide +kernel
theorem dL_law_939 : decode cL_law 939 = .ok (.iconst 0, 1) := by decide +kernel
theorem dL_law_940 : decode cL_law 940 = .ok (.laload, 1) := by decide +kernel
theorem dL_law_941 : decode cL_law 941 = .ok (.iload 6, 2) := by decide +kernel
theorem dL_law_943 : decode cL_law 943 = .ok (.i2l, 1) := by decide +kernel
theorem dL_law_944 : decode cL_law 944 = .ok (.lcmp, 1) := by decide +kernel
theorem dL_law_945 : decode cL_law 945 = .ok (.ifCond .eq 5, 3) := by decide +kernel
theorem dL_law_948 : decode cL_law 948 = .ok (.iconst 0, 1) := by decide +kernel
theorem dL_law_949 : decode cL_law 949 = .ok (.ireturn, 1) := by decide +kernel
theorem dL_law_950 : decode cL_law 950 = .ok (.goto 3, 3) := by decide +kernel
theorem dL_law_953 : decode cL_law 953 = .ok (.iinc 4 4, 3) := by decide +kernel
theorem dL_law_956 : decode cL_law 956 = .ok (.goto (-923), 3) := by decide +kernel
theorem dL_law_959 : decode cL_law 959 = .ok (.iconst 1, 1) := by decide +kernel
theorem dL_law_960 : decode cL_law 960 = .ok (.ireturn, 1) := by decide +kernel
end
section
/-! THE GROUND: the tables' words as a fact on the state; the facts that every contract takes along; reading and writing contracts -/
def tb_good : Cond → Bool
  | .arrayClass _ => true
  | w => w.onTables && w.keepsH
theorem tb_move {A A' : Array Value} {s U : State} (hW : s.WarmedH U.vm) {w : Cond} (hg : tb_good w = true) (h : w.before A s = true) : w.before A' U = true := by
  have hc : (w.onTables && w.keepsH) = true ∨ ∃ ty, w = .arrayClass ty := by
    cases w <;> first | (exact Or.inr ⟨_, rfl⟩) | (exact Or.inl hg)
  rcases hc with hc | ⟨ty, rfl⟩
  · simp only [Bool.and_eq_true] at hc
    have h1 := Cond.onTables_warmH (T := U) (args' := A') hW hc.1 hc.2 h
    rwa [State.setVm_self] at h1
  · exact word_at hW (Or.inr ⟨ty, rfl⟩) h
def tb_OK (U : State) : Prop := ∀ w ∈ lw_tbl, tb_good w = true → w.before #[] U = true
theorem tb_OK.warm {s U : State} (h : tb_OK s) (hW : s.WarmedH U.vm) : tb_OK U := fun w hw hg => tb_move hW hg (h w hw hg)
theorem tb_at {s : State} (h : tb_OK s) {args : Array Value} {w : Cond} (i : Nat) (hi : lw_tbl[i]? = some w) (hg : tb_good w = true) : w.before args s = true :=
  tb_move (A := #[]) (State.WarmedH.refl s) hg (h w (List.mem_of_getElem? hi) hg)
/-- a word that hangs on one cell outside A -/
def st_L (w : Cond) (A : Nat → Prop) (U : State) (H : Heap) : Prop := ∃ (a : Nat) (cell : Cell), H[a]? = some cell ∧ ¬ A a ∧ ∀ (V : State) (args : Array Value), U.WarmedH V.vm → V.heap[a]? = some cell → w.before args V = true
theorem st_L.warm {w : Cond} {A : Nat → Prop} {s U : State} {H : Heap} (h : st_L w A s H) (hW : s.WarmedH U.vm) : st_L w A U H := by
  obtain ⟨a, cell, h1, h2, h3⟩ := h
  exact ⟨a, cell, h1, h2, fun V args hV hc => h3 V args (State.WarmedH.trans hW hV) hc⟩
theorem st_L.kept {w : Cond} {A : Nat → Prop} {U : State} {H H1 : Heap} (h : st_L w A U H) (hq : ∀ a : Nat, a < H.size → ¬ A a → H1[a]? = H[a]?) : st_L w A U H1 := by
  obtain ⟨a, cell, h1, h2, h3⟩ := h
  exact ⟨a, cell, by rw [hq a (Array.getElem?_eq_some_iff.mp h1).1 h2]; exact h1, h2, h3⟩
theorem st_L.narrow {w : Cond} {A B : Nat → Prop} {U : State} {H : Heap} (h : st_L w A U H) (hAB : ∀ q, B q → A q) : st_L w B U H := by
  obtain ⟨a, cell, h1, h2, h3⟩ := h
  exact ⟨a, cell, h1, fun q => h2 (hAB _ q), h3⟩
theorem st_L.use {w : Cond} {A : Nat → Prop} {U : State} {args : Array Value} (h : st_L w A U U.heap) : w.before args U = true := by
  obtain ⟨a, cell, h1, h2, h3⟩ := h
  exact h3 U args (State.WarmedH.refl U) h1
/-- the table c of the keys -/
def kTab (k : Nat) : Int32 := ([64, 59, 45, 24, 0, -24, -45, -59, -64, -59, -45, -24, 0, 24, 45, 59] : List Int32).getD k 0
def st_C (A : Nat → Prop) (U : State) (H : Heap) : Prop := ∃ t : Nat, va_Z RX0 "C" "[I" (.ref t) A U H ∧ va_T .int t 16 (fun k => .int (kTab k)) A U H
abbrev xcA : String := "java/lang/ArrayIndexOutOfBoundsException"
abbrev xcN : List String := ["java/lang/IndexOutOfBoundsException", "java/lang/RuntimeException", "java/lang/Exception"]
/-- the words of the exception's own making; those that hang on a statics cell apart -/
def st_X (A : Nat → Prop) (U : State) (H : Heap) : Prop := ∀ w ∈ Bundle.ownAtoms RX3 155 xcA xcN, st_L w A U H
/-- the texts of the exceptions -/
def st_S (U : State) : Prop := ∀ q ∈ ([(186, "no such ring"), (188, "no such ring, or it is open"), (153, "no such axis"), (184, "no such count")] : List (Nat × String)), ∃ a, vk_R RX3 q.1 q.2 a U
/-- WHAT EVERY CONTRACT TAKES ALONG -/
def evOK (A : Nat → Prop) (U : State) (H : Heap) : Prop := tb_OK U ∧ st_C A U H ∧ st_X A U H ∧ st_S U
theorem evOK.warm {A : Nat → Prop} {s U : State} {H : Heap} (h : evOK A s H) (hW : s.WarmedH U.vm) : evOK A U H := by
  obtain ⟨h1, ⟨t, h2, h3⟩, h4, h5⟩ := h
  exact ⟨h1.warm hW, ⟨t, h2.moved hW.alike, h3.moved hW.alike⟩, fun w hw => (h4 w hw).warm hW, fun q hq => by
    obtain ⟨a, ha⟩ := h5 q hq
    exact ⟨a, ha.warm hW⟩⟩
theorem evOK.kept {A : Nat → Prop} {U : State} {H H1 : Heap} (h : evOK A U H) (hq : ∀ a : Nat, a < H.size → ¬ A a → H1[a]? = H[a]?) : evOK A U H1 := by
  obtain ⟨h1, ⟨t, h2, h3⟩, h4, h5⟩ := h
  exact ⟨h1, ⟨t, h2.kept hq, h3.kept hq⟩, fun w hw => (h4 w hw).kept hq, h5⟩
theorem evOK.narrow {A B : Nat → Prop} {U : State} {H : Heap} (h : evOK A U H) (hAB : ∀ q, B q → A q) : evOK B U H := by
  obtain ⟨h1, ⟨t, h2, h3⟩, h4, h5⟩ := h
  exact ⟨h1, ⟨t, h2.narrow hAB, h3.narrow hAB⟩, fun w hw => (h4 w hw).narrow hAB, h5⟩
theorem evOK.none {A : Nat → Prop} {U : State} {H : Heap} (h : evOK A U H) : evOK (fun _ => False) U H := h.narrow (fun _ h => h.elim)
theorem evOK.since {A : Nat → Prop} {U : State} {H0 H : Heap} {locs : List Loc} (h : evOK A U H0) (hS : va_S A H0 H locs) : evOK A U H := h.kept hS.2.1
def rmD (d mc ms : Nat) : Room := { frames := 20 * d, cells := mc, slots := ms, locals := 400 * d }
/-- READING CONTRACTS: the answer is v, the heap stays -/
def PcR (av : List Value) (D : va_G) (tys : List (ClassId × FieldType)) (w : va_W) : Array Value → State → Prop := va_Pc av (fun U => evOK (fun _ => False) U U.heap ∧ va_P D vwCl w U.heap ∧ va_K D vwCl tys U)
def QcR (v : Option Value) : Array Value → State → Outcome → State → Prop := fun _ st o t => o = .returned v ∧ t.heap = st.heap
def RD (l : Launch) (y : MethodName) (cc : ByteArray) (maxL : Nat) (ret : Option FieldType) (d : Nat) (D : va_G) (tys : List (ClassId × FieldType)) (w : va_W) (av : List Value) (v : Option Value) : Prop :=
  Met l y [Cond.code y cc maxL ret] (rmD d 0 0) (PcR av D tys w) (QcR v) 0 0 (fun _ => False)
theorem blindR {av : List Value} {D : va_G} {tys : List (ClassId × FieldType)} {w : va_W} : FrameBlind (PcR av D tys w) := by
  intro a U g mk h
  obtain ⟨h1, h2, h3, h4⟩ := h
  exact ⟨h1, h2.warm (U := U.calling g mk a) (State.WarmedH.refl U), h3, va_K.moved (u := U) (U := U.calling g mk a) (Vm.Alike.refl U.vm) h4⟩
theorem RD.of {l : Launch} {y : MethodName} {cc : ByteArray} {maxL : Nat} {ret : Option FieldType} {d : Nat} {D : va_G} {tys : List (ClassId × FieldType)} {w : va_W} {av : List Value} {v : Option Value} (hy : plainName y.cls = true)
    (body : ∀ (p : Program) (e : Env) (s : State) (m : MethodId) (below : List Frame) (meth : Method) (c : Code), p.tables.exec = Jvm.exec → c.code = cc → meth.sig.returnType = ret → c.maxLocals = maxL → s.vm.findClass y.cls = some m.cls → meth.locks = false → evOK (fun _ => False) s s.heap → va_P D vwCl w s.heap → va_K D vwCl tys s →
      W p l e (rmD d 0 0) s m av.toArray below meth c s.heap [] 0 0 (MQ below (QcR v) av.toArray s 0 0 (fun _ => False)) (entryFrame m av.toArray maxL)) : RD l y cc maxL ret d D tys w av v := by
  refine Met.ofW (cc := cc) (maxL := maxL) (ret := ret) hy rfl ?_
  intro p e s m args below meth c s₁ B hml hv
  obtain ⟨rfl, h1, h2, h3⟩ := hv
  exact body p e s m below meth c B.exec B.bytes B.returns hml (findClass_of_methodNamed B.named) B.notSynchronized h1 h2 h3
section ROWS
variable {p : Program} {l : Launch} {e : Env} {R : Room} {s : State} {m : MethodId} {args : Array Value} {below : List Frame} {meth : Method} {c : Code} {H : Heap} {locs : List Loc} {cells slots : Nat} {Q : State → Prop} {cc : ByteArray} {pc : Nat} {ls : Array Slot}
theorem rd_i (hx : p.tables.exec = Jvm.exec) (hb : c.code = cc) (hr : meth.sig.returnType = some .int) (hlocks : meth.locks = false) (hdg : decode cc pc = .ok (.ireturn, 1)) {v r : Int32} (hv : v = r) : W p l e R s m args below meth c s.heap [] 0 0 (MQ below (QcR (some (.int r))) args s 0 0 (fun _ => False)) (F0 m pc ls [.int v]) := by
  subst hv
  exact W.iret hx hb hr (fun t ht hW => ⟨rfl, ht⟩) (fun q h => by cases h) hdg hlocks
theorem rd_z (hx : p.tables.exec = Jvm.exec) (hb : c.code = cc) (hr : meth.sig.returnType = some .boolean) (hlocks : meth.locks = false) (hdg : decode cc pc = .ok (.ireturn, 1)) {v r : Int32} (hn : narrow .boolean (.int v) = .int v) (hv : v = r) : W p l e R s m args below meth c s.heap [] 0 0 (MQ below (QcR (some (.int r))) args s 0 0 (fun _ => False)) (F0 m pc ls [.int v]) := by
  subst hv
  exact W.zret hx hb hr hn (fun t ht hW => ⟨rfl, ht⟩) (fun q h => by cases h) hdg hlocks
theorem rd_l (hx : p.tables.exec = Jvm.exec) (hb : c.code = cc) (hr : meth.sig.returnType = some .long) (hlocks : meth.locks = false) (hdg : decode cc pc = .ok (.lreturn, 1)) {v r : Int64} (hv : v = r) : W p l e R s m args below meth c s.heap [] 0 0 (MQ below (QcR (some (.long r))) args s 0 0 (fun _ => False)) (F0 m pc ls [.long v]) := by
  subst hv
  exact W.lret hx hb hr (fun t ht hW => ⟨rfl, ht⟩) (fun q h => by cases h) hdg hlocks
theorem crd {g : JFrame} {rest : List Value} {v : Option Value} {a : Array Value} (hr : CallRun p l e R s m args below meth c H locs cells slots 0 0 g rest (QcR v a) (fun _ => False)) (kk : W p l e R s m args below meth c H locs cells slots Q { g with pc := g.pc + 3, stack := v.toList ++ rest }) : W p l e R s m args below meth c H locs cells slots Q g := by
  intro T hT X
  obtain ⟨v', st₀, t, T', L, h0, X', hL, e1, ⟨hv, hh⟩, st⟩ := hr T hT X
  cases hv
  obtain ⟨t2, a1, b1⟩ := kk T' (by rw [e1, hh, h0]) (Stand.forget X' (fun q h => (hL q h).elim))
  exact ⟨t2, st t2 a1, b1⟩
end ROWS
end
section
theorem se_X1_isFull {s : State} (h : tb_OK s) {args : Array Value} : (Cond.selects RX1 yX1_isFull yX1_isFull).before args s = true := tb_at h 0 (by decide +kernel) (by decide +kernel)
theorem se_X1_add {s : State} (h : tb_OK s) {args : Array Value} : (Cond.selects RX1 yX1_add yX1_add).before args s = true := tb_at h 1 (by decide +kernel) (by decide +kernel)
theorem se_X1_has {s : State} (h : tb_OK s) {args : Array Value} : (Cond.selects RX1 yX1_has yX1_has).before args s = true := tb_at h 2 (by decide +kernel) (by decide +kernel)
theorem se_X1_enlarge {s : State} (h : tb_OK s) {args : Array Value} : (Cond.selects RX1 yX1_enlarge yX1_enlarge).before args s = true := tb_at h 3 (by decide +kernel) (by decide +kernel)
theorem se_X0_permit {s : State} (h : tb_OK s) {args : Array Value} : (Cond.selects RX0 yX0_permit yX0_permit).before args s = true := tb_at h 4 (by decide +kernel) (by decide +kernel)
theorem se_X3_openPlanned {s : State} (h : tb_OK s) {args : Array Value} : (Cond.selects RX3 yX3_openPlanned yX3_openPlanned).before args s = true := tb_at h 5 (by decide +kernel) (by decide +kernel)
theorem se_X2_standing {s : State} (h : tb_OK s) {args : Array Value} : (Cond.selects RX2 yX2_standing yX2_standing).before args s = true := tb_at h 6 (by decide +kernel) (by decide +kernel)
theorem se_X1_giveBack {s : State} (h : tb_OK s) {args : Array Value} : (Cond.selects RX1 yX1_giveBack yX1_giveBack).before args s = true := tb_at h 7 (by decide +kernel) (by decide +kernel)
theorem se_X3_planRing {s : State} (h : tb_OK s) {args : Array Value} : (Cond.selects RX3 yX3_planRing yX3_planRing).before args s = true := tb_at h 8 (by decide +kernel) (by decide +kernel)
theorem se_X3_leastSum {s : State} (h : tb_OK s) {args : Array Value} : (Cond.selects RX3 yX3_leastSum yX3_leastSum).before args s = true := tb_at h 9 (by decide +kernel) (by decide +kernel)
theorem se_X2_turnBefore {s : State} (h : tb_OK s) {args : Array Value} : (Cond.selects RX2 yX2_turnBefore yX2_turnBefore).before args s = true := tb_at h 10 (by decide +kernel) (by decide +kernel)
theorem se_X1_unused {s : State} (h : tb_OK s) {args : Array Value} : (Cond.selects RX1 yX1_unused yX1_unused).before args s = true := tb_at h 11 (by decide +kernel) (by decide +kernel)
theorem se_X0_fits {s : State} (h : tb_OK s) {args : Array Value} : (Cond.selects RX0 yX0_fits yX0_fits).before args s = true := tb_at h 12 (by decide +kernel) (by decide +kernel)
theorem se_X3_sumWith {s : State} (h : tb_OK s) {args : Array Value} : (Cond.selects RX3 yX3_sumWith yX3_sumWith).before args s = true := tb_at h 13 (by decide +kernel) (by decide +kernel)
theorem se_X2_lay {s : State} (h : tb_OK s) {args : Array Value} : (Cond.selects RX2 yX2_lay yX2_lay).before args s = true := tb_at h 14 (by decide +kernel) (by decide +kernel)
theorem se_X2_offAt {s : State} (h : tb_OK s) {args : Array Value} : (Cond.selects RX2 yX2_offAt yX2_offAt).before args s = true := tb_at h 15 (by decide +kernel) (by decide +kernel)
theorem se_X1_take {s : State} (h : tb_OK s) {args : Array Value} : (Cond.selects RX1 yX1_take yX1_take).before args s = true := tb_at h 16 (by decide +kernel) (by decide +kernel)
theorem se_X2_stands {s : State} (h : tb_OK s) {args : Array Value} : (Cond.selects RX2 yX2_stands yX2_stands).before args s = true := tb_at h 17 (by decide +kernel) (by decide +kernel)
theorem se_X2_has {s : State} (h : tb_OK s) {args : Array Value} : (Cond.selects RX2 yX2_has yX2_has).before args s = true := tb_at h 18 (by decide +kernel) (by decide +kernel)
theorem se_X2_stateAt {s : State} (h : tb_OK s) {args : Array Value} : (Cond.selects RX2 yX2_stateAt yX2_stateAt).before args s = true := tb_at h 19 (by decide +kernel) (by decide +kernel)
theorem se_X3_needRing {s : State} (h : tb_OK s) {args : Array Value} : (Cond.selects RX3 yX3_needRing yX3_needRing).before args s = true := tb_at h 20 (by decide +kernel) (by decide +kernel)
theorem se_X2_setPoint {s : State} (h : tb_OK s) {args : Array Value} : (Cond.selects RX2 yX2_setPoint yX2_setPoint).before args s = true := tb_at h 22 (by decide +kernel) (by decide +kernel)
theorem se_X2_shiftBuilt {s : State} (h : tb_OK s) {args : Array Value} : (Cond.selects RX2 yX2_shiftBuilt yX2_shiftBuilt).before args s = true := tb_at h 23 (by decide +kernel) (by decide +kernel)
theorem se_X3_layAgainFrom {s : State} (h : tb_OK s) {args : Array Value} : (Cond.selects RX3 yX3_layAgainFrom yX3_layAgainFrom).before args s = true := tb_at h 24 (by decide +kernel) (by decide +kernel)
theorem se_X3_needStanding {s : State} (h : tb_OK s) {args : Array Value} : (Cond.selects RX3 yX3_needStanding yX3_needStanding).before args s = true := tb_at h 25 (by decide +kernel) (by decide +kernel)
theorem se_X4_isKind {s : State} (h : tb_OK s) {args : Array Value} : (Cond.selects RX4 yX4_isKind yX4_isKind).before args s = true := tb_at h 26 (by decide +kernel) (by decide +kernel)
theorem se_X4_isRing {s : State} (h : tb_OK s) {args : Array Value} : (Cond.selects RX4 yX4_isRing yX4_isRing).before args s = true := tb_at h 27 (by decide +kernel) (by decide +kernel)
theorem se_X4_planOne {s : State} (h : tb_OK s) {args : Array Value} : (Cond.selects RX4 yX4_planOne yX4_planOne).before args s = true := tb_at h 28 (by decide +kernel) (by decide +kernel)
theorem se_X4_mayStand {s : State} (h : tb_OK s) {args : Array Value} : (Cond.selects RX4 yX4_mayStand yX4_mayStand).before args s = true := tb_at h 29 (by decide +kernel) (by decide +kernel)
theorem se_X4_usedOf {s : State} (h : tb_OK s) {args : Array Value} : (Cond.selects RX4 yX4_usedOf yX4_usedOf).before args s = true := tb_at h 30 (by decide +kernel) (by decide +kernel)
theorem se_X4_set {s : State} (h : tb_OK s) {args : Array Value} : (Cond.selects RX4 yX4_set yX4_set).before args s = true := tb_at h 31 (by decide +kernel) (by decide +kernel)
theorem se_X4_offOf {s : State} (h : tb_OK s) {args : Array Value} : (Cond.selects RX4 yX4_offOf yX4_offOf).before args s = true := tb_at h 32 (by decide +kernel) (by decide +kernel)
theorem se_X4_note {s : State} (h : tb_OK s) {args : Array Value} : (Cond.selects RX4 yX4_note yX4_note).before args s = true := tb_at h 33 (by decide +kernel) (by decide +kernel)
theorem se_X4_trySecond {s : State} (h : tb_OK s) {args : Array Value} : (Cond.selects RX4 yX4_trySecond yX4_trySecond).before args s = true := tb_at h 34 (by decide +kernel) (by decide +kernel)
theorem se_X4_isThere {s : State} (h : tb_OK s) {args : Array Value} : (Cond.selects RX4 yX4_isThere yX4_isThere).before args s = true := tb_at h 35 (by decide +kernel) (by decide +kernel)
theorem ini_L {s : State} (h : tb_OK s) {args : Array Value} : (Cond.initialized RL).before args s = true := tb_at h 36 (by decide +kernel) (by decide +kernel)
theorem ini_X3 {s : State} (h : tb_OK s) {args : Array Value} : (Cond.initialized RX3).before args s = true := tb_at h 37 (by decide +kernel) (by decide +kernel)
theorem ini_X1 {s : State} (h : tb_OK s) {args : Array Value} : (Cond.initialized RX1).before args s = true := tb_at h 38 (by decide +kernel) (by decide +kernel)
theorem ini_X0 {s : State} (h : tb_OK s) {args : Array Value} : (Cond.initialized RX0).before args s = true := tb_at h 39 (by decide +kernel) (by decide +kernel)
theorem ini_X2 {s : State} (h : tb_OK s) {args : Array Value} : (Cond.initialized RX2).before args s = true := tb_at h 40 (by decide +kernel) (by decide +kernel)
theorem ini_J9 {s : State} (h : tb_OK s) {args : Array Value} : (Cond.initialized RJ9).before args s = true := tb_at h 41 (by decide +kernel) (by decide +kernel)
theorem ini_X4 {s : State} (h : tb_OK s) {args : Array Value} : (Cond.initialized RX4).before args s = true := tb_at h 42 (by decide +kernel) (by decide +kernel)
theorem ini_Jx00060 {s : State} (h : tb_OK s) {args : Array Value} : (Cond.initialized RJx00060).before args s = true := tb_at h 47 (by decide +kernel) (by decide +kernel)
theorem cl_L_8 {s : State} (h : tb_OK s) {args : Array Value} : (Cond.classLink RL 8 RX3).before args s = true := tb_at h 48 (by decide +kernel) (by decide +kernel)
theorem in_X3 {s : State} (h : tb_OK s) {args : Array Value} : (Cond.instantiable RX3 7).before args s = true := tb_at h 49 (by decide +kernel) (by decide +kernel)
theorem ml_L_40 {s : State} (h : tb_OK s) {args : Array Value} : (Cond.methodLink RL 40 yX3_init).before args s = true := tb_at h 50 (by decide +kernel) (by decide +kernel)
theorem im_X3_init {s : State} (h : tb_OK s) {args : Array Value} : (Cond.instanceMethod yX3_init).before args s = true := tb_at h 51 (by decide +kernel) (by decide +kernel)
theorem cd_X3_init {s : State} (h : tb_OK s) {args : Array Value} : (Cond.code yX3_init cX3_init 2 none).before args s = true := tb_at h 52 (by decide +kernel) (by decide +kernel)
theorem ml_X3_1 {s : State} (h : tb_OK s) {args : Array Value} : (Cond.methodLink RX3 1 Lib.objectInit).before args s = true := tb_at h 53 (by decide +kernel) (by decide +kernel)
theorem im_obj {s : State} (h : tb_OK s) {args : Array Value} : (Cond.instanceMethod Lib.objectInit).before args s = true := tb_at h 54 (by decide +kernel) (by decide +kernel)
theorem cd_obj {s : State} (h : tb_OK s) {args : Array Value} : (Cond.code Lib.objectInit ⟨#[0xb1]⟩ 1 none).before args s = true := tb_at h 55 (by decide +kernel) (by decide +kernel)
theorem cl_X3_7 {s : State} (h : tb_OK s) {args : Array Value} : (Cond.classLink RX3 7 RX1).before args s = true := tb_at h 56 (by decide +kernel) (by decide +kernel)
theorem in_X1 {s : State} (h : tb_OK s) {args : Array Value} : (Cond.instantiable RX1 4).before args s = true := tb_at h 57 (by decide +kernel) (by decide +kernel)
theorem mn_X3_9 {s : State} (h : tb_OK s) {args : Array Value} : (Cond.methodLinkNest RX3 9 yX1_init "RingPieces").before args s = true := tb_at h 58 (by decide +kernel) (by decide +kernel)
theorem im_X1_init {s : State} (h : tb_OK s) {args : Array Value} : (Cond.instanceMethod yX1_init).before args s = true := tb_at h 59 (by decide +kernel) (by decide +kernel)
theorem cd_X1_init {s : State} (h : tb_OK s) {args : Array Value} : (Cond.code yX1_init cX1_init 1 none).before args s = true := tb_at h 60 (by decide +kernel) (by decide +kernel)
theorem ml_X1_1 {s : State} (h : tb_OK s) {args : Array Value} : (Cond.methodLink RX1 1 Lib.objectInit).before args s = true := tb_at h 61 (by decide +kernel) (by decide +kernel)
theorem fl_X1_9 {s : State} (h : tb_OK s) {args : Array Value} : (Cond.fieldLink RX1 9 "RingPieces$Kinds" "taper" "[I").before args s = true := tb_at h 62 (by decide +kernel) (by decide +kernel)
theorem fn_X3_169 {s : State} (h : tb_OK s) {args : Array Value} : (Cond.fieldLinkNest RX3 169 "RingPieces$Kinds" "taper" "[I" "RingPieces").before args s = true := tb_at h 63 (by decide +kernel) (by decide +kernel)
theorem fl_X1_13 {s : State} (h : tb_OK s) {args : Array Value} : (Cond.fieldLink RX1 13 "RingPieces$Kinds" "stock" "[I").before args s = true := tb_at h 64 (by decide +kernel) (by decide +kernel)
theorem fl_X1_16 {s : State} (h : tb_OK s) {args : Array Value} : (Cond.fieldLink RX1 16 "RingPieces$Kinds" "used" "[I").before args s = true := tb_at h 65 (by decide +kernel) (by decide +kernel)
theorem fl_X1_19 {s : State} (h : tb_OK s) {args : Array Value} : (Cond.fieldLink RX1 19 "RingPieces$Kinds" "number" "I").before args s = true := tb_at h 66 (by decide +kernel) (by decide +kernel)
theorem fn_X3_178 {s : State} (h : tb_OK s) {args : Array Value} : (Cond.fieldLinkNest RX3 178 "RingPieces$Kinds" "number" "I" "RingPieces").before args s = true := tb_at h 67 (by decide +kernel) (by decide +kernel)
theorem ac_int {s : State} (h : tb_OK s) {args : Array Value} : (Cond.arrayClass .int).before args s = true := tb_at h 77 (by decide +kernel) (by decide +kernel)
theorem cl_X3_16 {s : State} (h : tb_OK s) {args : Array Value} : (Cond.classLink RX3 16 RX0).before args s = true := tb_at h 78 (by decide +kernel) (by decide +kernel)
theorem in_X0 {s : State} (h : tb_OK s) {args : Array Value} : (Cond.instantiable RX0 3).before args s = true := tb_at h 79 (by decide +kernel) (by decide +kernel)
theorem mn_X3_18 {s : State} (h : tb_OK s) {args : Array Value} : (Cond.methodLinkNest RX3 18 yX0_init "RingPieces").before args s = true := tb_at h 80 (by decide +kernel) (by decide +kernel)
theorem im_X0_init {s : State} (h : tb_OK s) {args : Array Value} : (Cond.instanceMethod yX0_init).before args s = true := tb_at h 81 (by decide +kernel) (by decide +kernel)
theorem cd_X0_init {s : State} (h : tb_OK s) {args : Array Value} : (Cond.code yX0_init cX0_init 1 none).before args s = true := tb_at h 82 (by decide +kernel) (by decide +kernel)
theorem ml_X0_3 {s : State} (h : tb_OK s) {args : Array Value} : (Cond.methodLink RX0 3 Lib.objectInit).before args s = true := tb_at h 83 (by decide +kernel) (by decide +kernel)
theorem fl_X0_11 {s : State} (h : tb_OK s) {args : Array Value} : (Cond.fieldLink RX0 11 "RingPieces$Keys" "forbidden" "[Z").before args s = true := tb_at h 84 (by decide +kernel) (by decide +kernel)
theorem fl_X0_15 {s : State} (h : tb_OK s) {args : Array Value} : (Cond.fieldLink RX0 15 "RingPieces$Keys" "permitted" "I").before args s = true := tb_at h 85 (by decide +kernel) (by decide +kernel)
theorem fn_X3_181 {s : State} (h : tb_OK s) {args : Array Value} : (Cond.fieldLinkNest RX3 181 "RingPieces$Keys" "permitted" "I" "RingPieces").before args s = true := tb_at h 86 (by decide +kernel) (by decide +kernel)
theorem fl_X0_19 {s : State} (h : tb_OK s) {args : Array Value} : (Cond.fieldLink RX0 19 "RingPieces$Keys" "jointsApart" "I").before args s = true := tb_at h 87 (by decide +kernel) (by decide +kernel)
theorem fn_X3_85 {s : State} (h : tb_OK s) {args : Array Value} : (Cond.fieldLinkNest RX3 85 "RingPieces$Keys" "jointsApart" "I" "RingPieces").before args s = true := tb_at h 88 (by decide +kernel) (by decide +kernel)
theorem ac_boolean {s : State} (h : tb_OK s) {args : Array Value} : (Cond.arrayClass .boolean).before args s = true := tb_at h 96 (by decide +kernel) (by decide +kernel)
theorem cl_X3_23 {s : State} (h : tb_OK s) {args : Array Value} : (Cond.classLink RX3 23 RX2).before args s = true := tb_at h 97 (by decide +kernel) (by decide +kernel)
theorem in_X2 {s : State} (h : tb_OK s) {args : Array Value} : (Cond.instantiable RX2 11).before args s = true := tb_at h 98 (by decide +kernel) (by decide +kernel)
theorem ml_X3_25 {s : State} (h : tb_OK s) {args : Array Value} : (Cond.methodLink RX3 25 Lib.Math.min.name).before args s = true := tb_at h 99 (by decide +kernel) (by decide +kernel)
theorem sm_min {s : State} (h : tb_OK s) {args : Array Value} : (Cond.static Lib.Math.min.name).before args s = true := tb_at h 100 (by decide +kernel) (by decide +kernel)
theorem cd_min {s : State} (h : tb_OK s) {args : Array Value} : (Cond.code Lib.Math.min.name Lib.Math.min.code 2 (some .int)).before args s = true := tb_at h 101 (by decide +kernel) (by decide +kernel)
theorem ml_X3_31 {s : State} (h : tb_OK s) {args : Array Value} : (Cond.methodLink RX3 31 Lib.Math.max.name).before args s = true := tb_at h 102 (by decide +kernel) (by decide +kernel)
theorem sm_max {s : State} (h : tb_OK s) {args : Array Value} : (Cond.static Lib.Math.max.name).before args s = true := tb_at h 103 (by decide +kernel) (by decide +kernel)
theorem cd_max {s : State} (h : tb_OK s) {args : Array Value} : (Cond.code Lib.Math.max.name Lib.Math.max.code 2 (some .int)).before args s = true := tb_at h 104 (by decide +kernel) (by decide +kernel)
theorem mn_X3_34 {s : State} (h : tb_OK s) {args : Array Value} : (Cond.methodLinkNest RX3 34 yX2_init "RingPieces").before args s = true := tb_at h 105 (by decide +kernel) (by decide +kernel)
theorem im_X2_init {s : State} (h : tb_OK s) {args : Array Value} : (Cond.instanceMethod yX2_init).before args s = true := tb_at h 106 (by decide +kernel) (by decide +kernel)
theorem cd_X2_init {s : State} (h : tb_OK s) {args : Array Value} : (Cond.code yX2_init cX2_init 2 none).before args s = true := tb_at h 107 (by decide +kernel) (by decide +kernel)
theorem ml_X2_3 {s : State} (h : tb_OK s) {args : Array Value} : (Cond.methodLink RX2 3 Lib.objectInit).before args s = true := tb_at h 108 (by decide +kernel) (by decide +kernel)
theorem fl_X2_18 {s : State} (h : tb_OK s) {args : Array Value} : (Cond.fieldLink RX2 18 "RingPieces$Tunnel" "rings" "I").before args s = true := tb_at h 109 (by decide +kernel) (by decide +kernel)
theorem fn_X3_98 {s : State} (h : tb_OK s) {args : Array Value} : (Cond.fieldLinkNest RX3 98 "RingPieces$Tunnel" "rings" "I" "RingPieces").before args s = true := tb_at h 110 (by decide +kernel) (by decide +kernel)
theorem fl_X2_9 {s : State} (h : tb_OK s) {args : Array Value} : (Cond.fieldLink RX2 9 "RingPieces$Tunnel" "built" "I").before args s = true := tb_at h 111 (by decide +kernel) (by decide +kernel)
theorem fn_X3_95 {s : State} (h : tb_OK s) {args : Array Value} : (Cond.fieldLinkNest RX3 95 "RingPieces$Tunnel" "built" "I" "RingPieces").before args s = true := tb_at h 112 (by decide +kernel) (by decide +kernel)
theorem fl_X2_15 {s : State} (h : tb_OK s) {args : Array Value} : (Cond.fieldLink RX2 15 "RingPieces$Tunnel" "planned" "I").before args s = true := tb_at h 113 (by decide +kernel) (by decide +kernel)
theorem fn_X3_104 {s : State} (h : tb_OK s) {args : Array Value} : (Cond.fieldLinkNest RX3 104 "RingPieces$Tunnel" "planned" "I" "RingPieces").before args s = true := tb_at h 114 (by decide +kernel) (by decide +kernel)
theorem fl_X2_21 {s : State} (h : tb_OK s) {args : Array Value} : (Cond.fieldLink RX2 21 "RingPieces$Tunnel" "kindAt" "[I").before args s = true := tb_at h 115 (by decide +kernel) (by decide +kernel)
theorem fn_X3_112 {s : State} (h : tb_OK s) {args : Array Value} : (Cond.fieldLinkNest RX3 112 "RingPieces$Tunnel" "kindAt" "[I" "RingPieces").before args s = true := tb_at h 116 (by decide +kernel) (by decide +kernel)
theorem fl_X2_25 {s : State} (h : tb_OK s) {args : Array Value} : (Cond.fieldLink RX2 25 "RingPieces$Tunnel" "turnAt" "[I").before args s = true := tb_at h 117 (by decide +kernel) (by decide +kernel)
theorem fn_X3_131 {s : State} (h : tb_OK s) {args : Array Value} : (Cond.fieldLinkNest RX3 131 "RingPieces$Tunnel" "turnAt" "[I" "RingPieces").before args s = true := tb_at h 118 (by decide +kernel) (by decide +kernel)
theorem fl_X2_28 {s : State} (h : tb_OK s) {args : Array Value} : (Cond.fieldLink RX2 28 "RingPieces$Tunnel" "lineX" "[J").before args s = true := tb_at h 119 (by decide +kernel) (by decide +kernel)
theorem fl_X2_32 {s : State} (h : tb_OK s) {args : Array Value} : (Cond.fieldLink RX2 32 "RingPieces$Tunnel" "lineY" "[J").before args s = true := tb_at h 120 (by decide +kernel) (by decide +kernel)
theorem fl_X2_35 {s : State} (h : tb_OK s) {args : Array Value} : (Cond.fieldLink RX2 35 "RingPieces$Tunnel" "x" "[J").before args s = true := tb_at h 121 (by decide +kernel) (by decide +kernel)
theorem fn_X3_138 {s : State} (h : tb_OK s) {args : Array Value} : (Cond.fieldLinkNest RX3 138 "RingPieces$Tunnel" "x" "[J" "RingPieces").before args s = true := tb_at h 122 (by decide +kernel) (by decide +kernel)
theorem fl_X2_38 {s : State} (h : tb_OK s) {args : Array Value} : (Cond.fieldLink RX2 38 "RingPieces$Tunnel" "y" "[J").before args s = true := tb_at h 123 (by decide +kernel) (by decide +kernel)
theorem fn_X3_142 {s : State} (h : tb_OK s) {args : Array Value} : (Cond.fieldLinkNest RX3 142 "RingPieces$Tunnel" "y" "[J" "RingPieces").before args s = true := tb_at h 124 (by decide +kernel) (by decide +kernel)
theorem fl_X2_41 {s : State} (h : tb_OK s) {args : Array Value} : (Cond.fieldLink RX2 41 "RingPieces$Tunnel" "dx" "[J").before args s = true := tb_at h 125 (by decide +kernel) (by decide +kernel)
theorem fn_X3_145 {s : State} (h : tb_OK s) {args : Array Value} : (Cond.fieldLinkNest RX3 145 "RingPieces$Tunnel" "dx" "[J" "RingPieces").before args s = true := tb_at h 126 (by decide +kernel) (by decide +kernel)
theorem fl_X2_44 {s : State} (h : tb_OK s) {args : Array Value} : (Cond.fieldLink RX2 44 "RingPieces$Tunnel" "dy" "[J").before args s = true := tb_at h 127 (by decide +kernel) (by decide +kernel)
theorem fn_X3_148 {s : State} (h : tb_OK s) {args : Array Value} : (Cond.fieldLinkNest RX3 148 "RingPieces$Tunnel" "dy" "[J" "RingPieces").before args s = true := tb_at h 128 (by decide +kernel) (by decide +kernel)
theorem ac_long {s : State} (h : tb_OK s) {args : Array Value} : (Cond.arrayClass .long).before args s = true := tb_at h 152 (by decide +kernel) (by decide +kernel)
theorem fl_X3_10 {s : State} (h : tb_OK s) {args : Array Value} : (Cond.fieldLink RX3 10 "RingPieces" "kinds" "LRingPieces$Kinds;").before args s = true := tb_at h 153 (by decide +kernel) (by decide +kernel)
theorem fl_X3_19 {s : State} (h : tb_OK s) {args : Array Value} : (Cond.fieldLink RX3 19 "RingPieces" "keys" "LRingPieces$Keys;").before args s = true := tb_at h 154 (by decide +kernel) (by decide +kernel)
theorem fl_X3_37 {s : State} (h : tb_OK s) {args : Array Value} : (Cond.fieldLink RX3 37 "RingPieces" "tunnel" "LRingPieces$Tunnel;").before args s = true := tb_at h 155 (by decide +kernel) (by decide +kernel)
theorem fl_X3_41 {s : State} (h : tb_OK s) {args : Array Value} : (Cond.fieldLink RX3 41 "RingPieces" "ahead" "I").before args s = true := tb_at h 156 (by decide +kernel) (by decide +kernel)
theorem fl_X3_45 {s : State} (h : tb_OK s) {args : Array Value} : (Cond.fieldLink RX3 45 "RingPieces" "plans" "I").before args s = true := tb_at h 157 (by decide +kernel) (by decide +kernel)
theorem fl_X3_48 {s : State} (h : tb_OK s) {args : Array Value} : (Cond.fieldLink RX3 48 "RingPieces" "chosenKind" "I").before args s = true := tb_at h 158 (by decide +kernel) (by decide +kernel)
theorem fl_X3_51 {s : State} (h : tb_OK s) {args : Array Value} : (Cond.fieldLink RX3 51 "RingPieces" "chosenTurn" "I").before args s = true := tb_at h 159 (by decide +kernel) (by decide +kernel)
theorem ml_L_46 {s : State} (h : tb_OK s) {args : Array Value} : (Cond.methodLink RL 46 yX3_kind).before args s = true := tb_at h 175 (by decide +kernel) (by decide +kernel)
theorem im_X3_kind {s : State} (h : tb_OK s) {args : Array Value} : (Cond.instanceMethod yX3_kind).before args s = true := tb_at h 176 (by decide +kernel) (by decide +kernel)
theorem se_X3_kind {s : State} (h : tb_OK s) {args : Array Value} : (Cond.selects RX3 yX3_kind yX3_kind).before args s = true := tb_at h 177 (by decide +kernel) (by decide +kernel)
theorem cd_X3_kind {s : State} (h : tb_OK s) {args : Array Value} : (Cond.code yX3_kind cX3_kind 3 (some .int)).before args s = true := tb_at h 178 (by decide +kernel) (by decide +kernel)
theorem ml_X3_54 {s : State} (h : tb_OK s) {args : Array Value} : (Cond.methodLink RX3 54 yX3_isWithin).before args s = true := tb_at h 179 (by decide +kernel) (by decide +kernel)
theorem sm_X3_isWithin {s : State} (h : tb_OK s) {args : Array Value} : (Cond.static yX3_isWithin).before args s = true := tb_at h 180 (by decide +kernel) (by decide +kernel)
theorem cd_X3_isWithin {s : State} (h : tb_OK s) {args : Array Value} : (Cond.code yX3_isWithin cX3_isWithin 3 (some .boolean)).before args s = true := tb_at h 181 (by decide +kernel) (by decide +kernel)
theorem mn_X3_58 {s : State} (h : tb_OK s) {args : Array Value} : (Cond.methodLinkNest RX3 58 yX1_isFull "RingPieces").before args s = true := tb_at h 182 (by decide +kernel) (by decide +kernel)
theorem im_X1_isFull {s : State} (h : tb_OK s) {args : Array Value} : (Cond.instanceMethod yX1_isFull).before args s = true := tb_at h 184 (by decide +kernel) (by decide +kernel)
theorem cd_X1_isFull {s : State} (h : tb_OK s) {args : Array Value} : (Cond.code yX1_isFull cX1_isFull 1 (some .boolean)).before args s = true := tb_at h 185 (by decide +kernel) (by decide +kernel)
theorem mn_X3_62 {s : State} (h : tb_OK s) {args : Array Value} : (Cond.methodLinkNest RX3 62 yX1_add "RingPieces").before args s = true := tb_at h 186 (by decide +kernel) (by decide +kernel)
theorem im_X1_add {s : State} (h : tb_OK s) {args : Array Value} : (Cond.instanceMethod yX1_add).before args s = true := tb_at h 188 (by decide +kernel) (by decide +kernel)
theorem cd_X1_add {s : State} (h : tb_OK s) {args : Array Value} : (Cond.code yX1_add cX1_add 3 (some .int)).before args s = true := tb_at h 189 (by decide +kernel) (by decide +kernel)
theorem ml_L_50 {s : State} (h : tb_OK s) {args : Array Value} : (Cond.methodLink RL 50 yX3_more).before args s = true := tb_at h 190 (by decide +kernel) (by decide +kernel)
theorem im_X3_more {s : State} (h : tb_OK s) {args : Array Value} : (Cond.instanceMethod yX3_more).before args s = true := tb_at h 191 (by decide +kernel) (by decide +kernel)
theorem se_X3_more {s : State} (h : tb_OK s) {args : Array Value} : (Cond.selects RX3 yX3_more yX3_more).before args s = true := tb_at h 192 (by decide +kernel) (by decide +kernel)
theorem cd_X3_more {s : State} (h : tb_OK s) {args : Array Value} : (Cond.code yX3_more cX3_more 3 (some .int)).before args s = true := tb_at h 193 (by decide +kernel) (by decide +kernel)
theorem mn_X3_65 {s : State} (h : tb_OK s) {args : Array Value} : (Cond.methodLinkNest RX3 65 yX1_has "RingPieces").before args s = true := tb_at h 194 (by decide +kernel) (by decide +kernel)
theorem im_X1_has {s : State} (h : tb_OK s) {args : Array Value} : (Cond.instanceMethod yX1_has).before args s = true := tb_at h 196 (by decide +kernel) (by decide +kernel)
theorem cd_X1_has {s : State} (h : tb_OK s) {args : Array Value} : (Cond.code yX1_has cX1_has 2 (some .boolean)).before args s = true := tb_at h 197 (by decide +kernel) (by decide +kernel)
theorem mn_X3_69 {s : State} (h : tb_OK s) {args : Array Value} : (Cond.methodLinkNest RX3 69 yX1_enlarge "RingPieces").before args s = true := tb_at h 198 (by decide +kernel) (by decide +kernel)
theorem im_X1_enlarge {s : State} (h : tb_OK s) {args : Array Value} : (Cond.instanceMethod yX1_enlarge).before args s = true := tb_at h 200 (by decide +kernel) (by decide +kernel)
theorem cd_X1_enlarge {s : State} (h : tb_OK s) {args : Array Value} : (Cond.code yX1_enlarge cX1_enlarge 3 (some .int)).before args s = true := tb_at h 201 (by decide +kernel) (by decide +kernel)
theorem ml_L_62 {s : State} (h : tb_OK s) {args : Array Value} : (Cond.methodLink RL 62 yX3_apart).before args s = true := tb_at h 202 (by decide +kernel) (by decide +kernel)
theorem im_X3_apart {s : State} (h : tb_OK s) {args : Array Value} : (Cond.instanceMethod yX3_apart).before args s = true := tb_at h 203 (by decide +kernel) (by decide +kernel)
theorem se_X3_apart {s : State} (h : tb_OK s) {args : Array Value} : (Cond.selects RX3 yX3_apart yX3_apart).before args s = true := tb_at h 204 (by decide +kernel) (by decide +kernel)
theorem cd_X3_apart {s : State} (h : tb_OK s) {args : Array Value} : (Cond.code yX3_apart cX3_apart 2 (some .int)).before args s = true := tb_at h 205 (by decide +kernel) (by decide +kernel)
theorem ml_L_66 {s : State} (h : tb_OK s) {args : Array Value} : (Cond.methodLink RL 66 yX3_allow).before args s = true := tb_at h 206 (by decide +kernel) (by decide +kernel)
theorem im_X3_allow {s : State} (h : tb_OK s) {args : Array Value} : (Cond.instanceMethod yX3_allow).before args s = true := tb_at h 207 (by decide +kernel) (by decide +kernel)
theorem se_X3_allow {s : State} (h : tb_OK s) {args : Array Value} : (Cond.selects RX3 yX3_allow yX3_allow).before args s = true := tb_at h 208 (by decide +kernel) (by decide +kernel)
theorem cd_X3_allow {s : State} (h : tb_OK s) {args : Array Value} : (Cond.code yX3_allow cX3_allow 3 (some .boolean)).before args s = true := tb_at h 209 (by decide +kernel) (by decide +kernel)
theorem mn_X3_88 {s : State} (h : tb_OK s) {args : Array Value} : (Cond.methodLinkNest RX3 88 yX0_permit "RingPieces").before args s = true := tb_at h 210 (by decide +kernel) (by decide +kernel)
theorem im_X0_permit {s : State} (h : tb_OK s) {args : Array Value} : (Cond.instanceMethod yX0_permit).before args s = true := tb_at h 212 (by decide +kernel) (by decide +kernel)
theorem cd_X0_permit {s : State} (h : tb_OK s) {args : Array Value} : (Cond.code yX0_permit cX0_permit 4 (some .boolean)).before args s = true := tb_at h 213 (by decide +kernel) (by decide +kernel)
theorem ml_X0_26 {s : State} (h : tb_OK s) {args : Array Value} : (Cond.methodLink RX0 26 yX0_isPosition).before args s = true := tb_at h 214 (by decide +kernel) (by decide +kernel)
theorem sm_X0_isPosition {s : State} (h : tb_OK s) {args : Array Value} : (Cond.static yX0_isPosition).before args s = true := tb_at h 215 (by decide +kernel) (by decide +kernel)
theorem cd_X0_isPosition {s : State} (h : tb_OK s) {args : Array Value} : (Cond.code yX0_isPosition cX0_isPosition 1 (some .boolean)).before args s = true := tb_at h 216 (by decide +kernel) (by decide +kernel)
theorem ml_L_71 {s : State} (h : tb_OK s) {args : Array Value} : (Cond.methodLink RL 71 yX3_look).before args s = true := tb_at h 217 (by decide +kernel) (by decide +kernel)
theorem im_X3_look {s : State} (h : tb_OK s) {args : Array Value} : (Cond.instanceMethod yX3_look).before args s = true := tb_at h 218 (by decide +kernel) (by decide +kernel)
theorem se_X3_look {s : State} (h : tb_OK s) {args : Array Value} : (Cond.selects RX3 yX3_look yX3_look).before args s = true := tb_at h 219 (by decide +kernel) (by decide +kernel)
theorem cd_X3_look {s : State} (h : tb_OK s) {args : Array Value} : (Cond.code yX3_look cX3_look 2 (some .int)).before args s = true := tb_at h 220 (by decide +kernel) (by decide +kernel)
theorem ml_L_75 {s : State} (h : tb_OK s) {args : Array Value} : (Cond.methodLink RL 75 yX3_run).before args s = true := tb_at h 221 (by decide +kernel) (by decide +kernel)
theorem im_X3_run {s : State} (h : tb_OK s) {args : Array Value} : (Cond.instanceMethod yX3_run).before args s = true := tb_at h 222 (by decide +kernel) (by decide +kernel)
theorem se_X3_run {s : State} (h : tb_OK s) {args : Array Value} : (Cond.selects RX3 yX3_run yX3_run).before args s = true := tb_at h 223 (by decide +kernel) (by decide +kernel)
theorem cd_X3_run {s : State} (h : tb_OK s) {args : Array Value} : (Cond.code yX3_run cX3_run 3 (some .int)).before args s = true := tb_at h 224 (by decide +kernel) (by decide +kernel)
theorem ml_X3_92 {s : State} (h : tb_OK s) {args : Array Value} : (Cond.methodLink RX3 92 yX3_openPlanned).before args s = true := tb_at h 225 (by decide +kernel) (by decide +kernel)
theorem im_X3_openPlanned {s : State} (h : tb_OK s) {args : Array Value} : (Cond.instanceMethod yX3_openPlanned).before args s = true := tb_at h 227 (by decide +kernel) (by decide +kernel)
theorem cd_X3_openPlanned {s : State} (h : tb_OK s) {args : Array Value} : (Cond.code yX3_openPlanned cX3_openPlanned 2 none).before args s = true := tb_at h 228 (by decide +kernel) (by decide +kernel)
theorem mn_X3_162 {s : State} (h : tb_OK s) {args : Array Value} : (Cond.methodLinkNest RX3 162 yX2_standing "RingPieces").before args s = true := tb_at h 229 (by decide +kernel) (by decide +kernel)
theorem im_X2_standing {s : State} (h : tb_OK s) {args : Array Value} : (Cond.instanceMethod yX2_standing).before args s = true := tb_at h 231 (by decide +kernel) (by decide +kernel)
theorem cd_X2_standing {s : State} (h : tb_OK s) {args : Array Value} : (Cond.code yX2_standing cX2_standing 1 (some .int)).before args s = true := tb_at h 232 (by decide +kernel) (by decide +kernel)
theorem mn_X3_119 {s : State} (h : tb_OK s) {args : Array Value} : (Cond.methodLinkNest RX3 119 yX1_giveBack "RingPieces").before args s = true := tb_at h 233 (by decide +kernel) (by decide +kernel)
theorem im_X1_giveBack {s : State} (h : tb_OK s) {args : Array Value} : (Cond.instanceMethod yX1_giveBack).before args s = true := tb_at h 235 (by decide +kernel) (by decide +kernel)
theorem cd_X1_giveBack {s : State} (h : tb_OK s) {args : Array Value} : (Cond.code yX1_giveBack cX1_giveBack 2 none).before args s = true := tb_at h 236 (by decide +kernel) (by decide +kernel)
theorem ml_X3_101 {s : State} (h : tb_OK s) {args : Array Value} : (Cond.methodLink RX3 101 yX3_planRing).before args s = true := tb_at h 237 (by decide +kernel) (by decide +kernel)
theorem im_X3_planRing {s : State} (h : tb_OK s) {args : Array Value} : (Cond.instanceMethod yX3_planRing).before args s = true := tb_at h 239 (by decide +kernel) (by decide +kernel)
theorem cd_X3_planRing {s : State} (h : tb_OK s) {args : Array Value} : (Cond.code yX3_planRing cX3_planRing 3 (some .boolean)).before args s = true := tb_at h 240 (by decide +kernel) (by decide +kernel)
theorem ml_X3_194 {s : State} (h : tb_OK s) {args : Array Value} : (Cond.methodLink RX3 194 yX3_leastSum).before args s = true := tb_at h 241 (by decide +kernel) (by decide +kernel)
theorem im_X3_leastSum {s : State} (h : tb_OK s) {args : Array Value} : (Cond.instanceMethod yX3_leastSum).before args s = true := tb_at h 243 (by decide +kernel) (by decide +kernel)
theorem cd_X3_leastSum {s : State} (h : tb_OK s) {args : Array Value} : (Cond.code yX3_leastSum cX3_leastSum 12 (some .long)).before args s = true := tb_at h 244 (by decide +kernel) (by decide +kernel)
theorem kl_X3_198 {s : State} (h : tb_OK s) {args : Array Value} : (Cond.constantLong RX3 198 (4611686018427387904)).before args s = true := tb_at h 245 (by decide +kernel) (by decide +kernel)
theorem mn_X3_200 {s : State} (h : tb_OK s) {args : Array Value} : (Cond.methodLinkNest RX3 200 yX2_turnBefore "RingPieces").before args s = true := tb_at h 246 (by decide +kernel) (by decide +kernel)
theorem im_X2_turnBefore {s : State} (h : tb_OK s) {args : Array Value} : (Cond.instanceMethod yX2_turnBefore).before args s = true := tb_at h 248 (by decide +kernel) (by decide +kernel)
theorem cd_X2_turnBefore {s : State} (h : tb_OK s) {args : Array Value} : (Cond.code yX2_turnBefore cX2_turnBefore 2 (some .int)).before args s = true := tb_at h 249 (by decide +kernel) (by decide +kernel)
theorem mn_X3_116 {s : State} (h : tb_OK s) {args : Array Value} : (Cond.methodLinkNest RX3 116 yX1_unused "RingPieces").before args s = true := tb_at h 250 (by decide +kernel) (by decide +kernel)
theorem im_X1_unused {s : State} (h : tb_OK s) {args : Array Value} : (Cond.instanceMethod yX1_unused).before args s = true := tb_at h 252 (by decide +kernel) (by decide +kernel)
theorem cd_X1_unused {s : State} (h : tb_OK s) {args : Array Value} : (Cond.code yX1_unused cX1_unused 2 (some .int)).before args s = true := tb_at h 253 (by decide +kernel) (by decide +kernel)
theorem mn_X3_203 {s : State} (h : tb_OK s) {args : Array Value} : (Cond.methodLinkNest RX3 203 yX0_fits "RingPieces").before args s = true := tb_at h 254 (by decide +kernel) (by decide +kernel)
theorem im_X0_fits {s : State} (h : tb_OK s) {args : Array Value} : (Cond.instanceMethod yX0_fits).before args s = true := tb_at h 256 (by decide +kernel) (by decide +kernel)
theorem cd_X0_fits {s : State} (h : tb_OK s) {args : Array Value} : (Cond.code yX0_fits cX0_fits 3 (some .boolean)).before args s = true := tb_at h 257 (by decide +kernel) (by decide +kernel)
theorem ml_X3_207 {s : State} (h : tb_OK s) {args : Array Value} : (Cond.methodLink RX3 207 yX3_sumWith).before args s = true := tb_at h 258 (by decide +kernel) (by decide +kernel)
theorem im_X3_sumWith {s : State} (h : tb_OK s) {args : Array Value} : (Cond.instanceMethod yX3_sumWith).before args s = true := tb_at h 260 (by decide +kernel) (by decide +kernel)
theorem cd_X3_sumWith {s : State} (h : tb_OK s) {args : Array Value} : (Cond.code yX3_sumWith cX3_sumWith 11 (some .long)).before args s = true := tb_at h 261 (by decide +kernel) (by decide +kernel)
theorem mn_X3_190 {s : State} (h : tb_OK s) {args : Array Value} : (Cond.methodLinkNest RX3 190 yX2_lay "RingPieces").before args s = true := tb_at h 262 (by decide +kernel) (by decide +kernel)
theorem im_X2_lay {s : State} (h : tb_OK s) {args : Array Value} : (Cond.instanceMethod yX2_lay).before args s = true := tb_at h 264 (by decide +kernel) (by decide +kernel)
theorem cd_X2_lay {s : State} (h : tb_OK s) {args : Array Value} : (Cond.code yX2_lay cX2_lay 5 none).before args s = true := tb_at h 265 (by decide +kernel) (by decide +kernel)
theorem mn_X2_51 {s : State} (h : tb_OK s) {args : Array Value} : (Cond.methodLinkNest RX2 51 yX0_c "RingPieces").before args s = true := tb_at h 266 (by decide +kernel) (by decide +kernel)
theorem sm_X0_c {s : State} (h : tb_OK s) {args : Array Value} : (Cond.static yX0_c).before args s = true := tb_at h 267 (by decide +kernel) (by decide +kernel)
theorem cd_X0_c {s : State} (h : tb_OK s) {args : Array Value} : (Cond.code yX0_c cX0_c 1 (some .int)).before args s = true := tb_at h 268 (by decide +kernel) (by decide +kernel)
theorem fl_X0_22 {s : State} (h : tb_OK s) {args : Array Value} : (Cond.fieldLink RX0 22 "RingPieces$Keys" "C" "[I").before args s = true := tb_at h 269 (by decide +kernel) (by decide +kernel)
theorem mn_X2_57 {s : State} (h : tb_OK s) {args : Array Value} : (Cond.methodLinkNest RX2 57 yX0_s "RingPieces").before args s = true := tb_at h 271 (by decide +kernel) (by decide +kernel)
theorem sm_X0_s {s : State} (h : tb_OK s) {args : Array Value} : (Cond.static yX0_s).before args s = true := tb_at h 272 (by decide +kernel) (by decide +kernel)
theorem cd_X0_s {s : State} (h : tb_OK s) {args : Array Value} : (Cond.code yX0_s cX0_s 1 (some .int)).before args s = true := tb_at h 273 (by decide +kernel) (by decide +kernel)
theorem mn_X3_158 {s : State} (h : tb_OK s) {args : Array Value} : (Cond.methodLinkNest RX3 158 yX2_offAt "RingPieces").before args s = true := tb_at h 274 (by decide +kernel) (by decide +kernel)
theorem im_X2_offAt {s : State} (h : tb_OK s) {args : Array Value} : (Cond.instanceMethod yX2_offAt).before args s = true := tb_at h 276 (by decide +kernel) (by decide +kernel)
theorem cd_X2_offAt {s : State} (h : tb_OK s) {args : Array Value} : (Cond.code yX2_offAt cX2_offAt 6 (some .long)).before args s = true := tb_at h 277 (by decide +kernel) (by decide +kernel)
theorem mn_X3_122 {s : State} (h : tb_OK s) {args : Array Value} : (Cond.methodLinkNest RX3 122 yX1_take "RingPieces").before args s = true := tb_at h 278 (by decide +kernel) (by decide +kernel)
theorem im_X1_take {s : State} (h : tb_OK s) {args : Array Value} : (Cond.instanceMethod yX1_take).before args s = true := tb_at h 280 (by decide +kernel) (by decide +kernel)
theorem cd_X1_take {s : State} (h : tb_OK s) {args : Array Value} : (Cond.code yX1_take cX1_take 2 none).before args s = true := tb_at h 281 (by decide +kernel) (by decide +kernel)
theorem ml_L_79 {s : State} (h : tb_OK s) {args : Array Value} : (Cond.methodLink RL 79 yX3_build).before args s = true := tb_at h 282 (by decide +kernel) (by decide +kernel)
theorem im_X3_build {s : State} (h : tb_OK s) {args : Array Value} : (Cond.instanceMethod yX3_build).before args s = true := tb_at h 283 (by decide +kernel) (by decide +kernel)
theorem se_X3_build {s : State} (h : tb_OK s) {args : Array Value} : (Cond.selects RX3 yX3_build yX3_build).before args s = true := tb_at h 284 (by decide +kernel) (by decide +kernel)
theorem cd_X3_build {s : State} (h : tb_OK s) {args : Array Value} : (Cond.code yX3_build cX3_build 2 (some .int)).before args s = true := tb_at h 285 (by decide +kernel) (by decide +kernel)
theorem ml_L_90 {s : State} (h : tb_OK s) {args : Array Value} : (Cond.methodLink RL 90 yX3_kindOf).before args s = true := tb_at h 286 (by decide +kernel) (by decide +kernel)
theorem im_X3_kindOf {s : State} (h : tb_OK s) {args : Array Value} : (Cond.instanceMethod yX3_kindOf).before args s = true := tb_at h 287 (by decide +kernel) (by decide +kernel)
theorem se_X3_kindOf {s : State} (h : tb_OK s) {args : Array Value} : (Cond.selects RX3 yX3_kindOf yX3_kindOf).before args s = true := tb_at h 288 (by decide +kernel) (by decide +kernel)
theorem cd_X3_kindOf {s : State} (h : tb_OK s) {args : Array Value} : (Cond.code yX3_kindOf cX3_kindOf 2 (some .int)).before args s = true := tb_at h 289 (by decide +kernel) (by decide +kernel)
theorem mn_X3_128 {s : State} (h : tb_OK s) {args : Array Value} : (Cond.methodLinkNest RX3 128 yX2_stands "RingPieces").before args s = true := tb_at h 290 (by decide +kernel) (by decide +kernel)
theorem im_X2_stands {s : State} (h : tb_OK s) {args : Array Value} : (Cond.instanceMethod yX2_stands).before args s = true := tb_at h 292 (by decide +kernel) (by decide +kernel)
theorem cd_X2_stands {s : State} (h : tb_OK s) {args : Array Value} : (Cond.code yX2_stands cX2_stands 2 (some .boolean)).before args s = true := tb_at h 293 (by decide +kernel) (by decide +kernel)
theorem ml_X2_47 {s : State} (h : tb_OK s) {args : Array Value} : (Cond.methodLink RX2 47 yX2_standing).before args s = true := tb_at h 294 (by decide +kernel) (by decide +kernel)
theorem ml_L_94 {s : State} (h : tb_OK s) {args : Array Value} : (Cond.methodLink RL 94 yX3_turnOf).before args s = true := tb_at h 295 (by decide +kernel) (by decide +kernel)
theorem im_X3_turnOf {s : State} (h : tb_OK s) {args : Array Value} : (Cond.instanceMethod yX3_turnOf).before args s = true := tb_at h 296 (by decide +kernel) (by decide +kernel)
theorem se_X3_turnOf {s : State} (h : tb_OK s) {args : Array Value} : (Cond.selects RX3 yX3_turnOf yX3_turnOf).before args s = true := tb_at h 297 (by decide +kernel) (by decide +kernel)
theorem cd_X3_turnOf {s : State} (h : tb_OK s) {args : Array Value} : (Cond.code yX3_turnOf cX3_turnOf 2 (some .int)).before args s = true := tb_at h 298 (by decide +kernel) (by decide +kernel)
theorem ml_L_98 {s : State} (h : tb_OK s) {args : Array Value} : (Cond.methodLink RL 98 yX3_state).before args s = true := tb_at h 299 (by decide +kernel) (by decide +kernel)
theorem im_X3_state {s : State} (h : tb_OK s) {args : Array Value} : (Cond.instanceMethod yX3_state).before args s = true := tb_at h 300 (by decide +kernel) (by decide +kernel)
theorem se_X3_state {s : State} (h : tb_OK s) {args : Array Value} : (Cond.selects RX3 yX3_state yX3_state).before args s = true := tb_at h 301 (by decide +kernel) (by decide +kernel)
theorem cd_X3_state {s : State} (h : tb_OK s) {args : Array Value} : (Cond.code yX3_state cX3_state 2 (some .int)).before args s = true := tb_at h 302 (by decide +kernel) (by decide +kernel)
theorem mn_X3_134 {s : State} (h : tb_OK s) {args : Array Value} : (Cond.methodLinkNest RX3 134 yX2_has "RingPieces").before args s = true := tb_at h 303 (by decide +kernel) (by decide +kernel)
theorem im_X2_has {s : State} (h : tb_OK s) {args : Array Value} : (Cond.instanceMethod yX2_has).before args s = true := tb_at h 305 (by decide +kernel) (by decide +kernel)
theorem cd_X2_has {s : State} (h : tb_OK s) {args : Array Value} : (Cond.code yX2_has cX2_has 2 (some .boolean)).before args s = true := tb_at h 306 (by decide +kernel) (by decide +kernel)
theorem mn_X3_77 {s : State} (h : tb_OK s) {args : Array Value} : (Cond.methodLinkNest RX3 77 yX2_stateAt "RingPieces").before args s = true := tb_at h 307 (by decide +kernel) (by decide +kernel)
theorem im_X2_stateAt {s : State} (h : tb_OK s) {args : Array Value} : (Cond.instanceMethod yX2_stateAt).before args s = true := tb_at h 309 (by decide +kernel) (by decide +kernel)
theorem cd_X2_stateAt {s : State} (h : tb_OK s) {args : Array Value} : (Cond.code yX2_stateAt cX2_stateAt 2 (some .int)).before args s = true := tb_at h 310 (by decide +kernel) (by decide +kernel)
theorem ml_L_109 {s : State} (h : tb_OK s) {args : Array Value} : (Cond.methodLink RL 109 yX3_sum).before args s = true := tb_at h 311 (by decide +kernel) (by decide +kernel)
theorem im_X3_sum {s : State} (h : tb_OK s) {args : Array Value} : (Cond.instanceMethod yX3_sum).before args s = true := tb_at h 312 (by decide +kernel) (by decide +kernel)
theorem se_X3_sum {s : State} (h : tb_OK s) {args : Array Value} : (Cond.selects RX3 yX3_sum yX3_sum).before args s = true := tb_at h 313 (by decide +kernel) (by decide +kernel)
theorem cd_X3_sum {s : State} (h : tb_OK s) {args : Array Value} : (Cond.code yX3_sum cX3_sum 4 (some .long)).before args s = true := tb_at h 314 (by decide +kernel) (by decide +kernel)
theorem ml_L_114 {s : State} (h : tb_OK s) {args : Array Value} : (Cond.methodLink RL 114 yX3_stroke).before args s = true := tb_at h 315 (by decide +kernel) (by decide +kernel)
theorem im_X3_stroke {s : State} (h : tb_OK s) {args : Array Value} : (Cond.instanceMethod yX3_stroke).before args s = true := tb_at h 316 (by decide +kernel) (by decide +kernel)
theorem se_X3_stroke {s : State} (h : tb_OK s) {args : Array Value} : (Cond.selects RX3 yX3_stroke yX3_stroke).before args s = true := tb_at h 317 (by decide +kernel) (by decide +kernel)
theorem cd_X3_stroke {s : State} (h : tb_OK s) {args : Array Value} : (Cond.code yX3_stroke cX3_stroke 4 (some .int)).before args s = true := tb_at h 318 (by decide +kernel) (by decide +kernel)
theorem mn_X3_166 {s : State} (h : tb_OK s) {args : Array Value} : (Cond.methodLinkNest RX3 166 yX0_isPosition "RingPieces").before args s = true := tb_at h 319 (by decide +kernel) (by decide +kernel)
theorem mn_X3_172 {s : State} (h : tb_OK s) {args : Array Value} : (Cond.methodLinkNest RX3 172 yX0_c "RingPieces").before args s = true := tb_at h 320 (by decide +kernel) (by decide +kernel)
theorem ml_X3_175 {s : State} (h : tb_OK s) {args : Array Value} : (Cond.methodLink RX3 175 yJ9_floorDiv_7cf53).before args s = true := tb_at h 321 (by decide +kernel) (by decide +kernel)
theorem sm_J9_floorDiv_7cf53 {s : State} (h : tb_OK s) {args : Array Value} : (Cond.static yJ9_floorDiv_7cf53).before args s = true := tb_at h 322 (by decide +kernel) (by decide +kernel)
theorem cd_J9_floorDiv_7cf53 {s : State} (h : tb_OK s) {args : Array Value} : (Cond.code yJ9_floorDiv_7cf53 cJ9_floorDiv_7cf53 3 (some .int)).before args s = true := tb_at h 323 (by decide +kernel) (by decide +kernel)
theorem ml_L_118 {s : State} (h : tb_OK s) {args : Array Value} : (Cond.methodLink RL 118 yX3_left).before args s = true := tb_at h 324 (by decide +kernel) (by decide +kernel)
theorem im_X3_left {s : State} (h : tb_OK s) {args : Array Value} : (Cond.instanceMethod yX3_left).before args s = true := tb_at h 325 (by decide +kernel) (by decide +kernel)
theorem se_X3_left {s : State} (h : tb_OK s) {args : Array Value} : (Cond.selects RX3 yX3_left yX3_left).before args s = true := tb_at h 326 (by decide +kernel) (by decide +kernel)
theorem cd_X3_left {s : State} (h : tb_OK s) {args : Array Value} : (Cond.code yX3_left cX3_left 2 (some .int)).before args s = true := tb_at h 327 (by decide +kernel) (by decide +kernel)
theorem ml_L_122 {s : State} (h : tb_OK s) {args : Array Value} : (Cond.methodLink RL 122 yX3_list).before args s = true := tb_at h 328 (by decide +kernel) (by decide +kernel)
theorem im_X3_list {s : State} (h : tb_OK s) {args : Array Value} : (Cond.instanceMethod yX3_list).before args s = true := tb_at h 329 (by decide +kernel) (by decide +kernel)
theorem se_X3_list {s : State} (h : tb_OK s) {args : Array Value} : (Cond.selects RX3 yX3_list yX3_list).before args s = true := tb_at h 330 (by decide +kernel) (by decide +kernel)
theorem cd_X3_list {s : State} (h : tb_OK s) {args : Array Value} : (Cond.code yX3_list cX3_list 5 (some .int)).before args s = true := tb_at h 331 (by decide +kernel) (by decide +kernel)
theorem ml_L_34 {s : State} (h : tb_OK s) {args : Array Value} : (Cond.methodLink RL 34 yL_cell).before args s = true := tb_at h 332 (by decide +kernel) (by decide +kernel)
theorem sm_L_cell {s : State} (h : tb_OK s) {args : Array Value} : (Cond.static yL_cell).before args s = true := tb_at h 333 (by decide +kernel) (by decide +kernel)
theorem cd_L_cell {s : State} (h : tb_OK s) {args : Array Value} : (Cond.code yL_cell cL_cell 2 (some .int)).before args s = true := tb_at h 334 (by decide +kernel) (by decide +kernel)
theorem ml_L_54 {s : State} (h : tb_OK s) {args : Array Value} : (Cond.methodLink RL 54 yL_line).before args s = true := tb_at h 335 (by decide +kernel) (by decide +kernel)
theorem sm_L_line {s : State} (h : tb_OK s) {args : Array Value} : (Cond.static yL_line).before args s = true := tb_at h 336 (by decide +kernel) (by decide +kernel)
theorem cw_L_line {s : State} (h : tb_OK s) {args : Array Value} : (Cond.codeWith yL_line cL_line 6 (some .int) [(0, 12, 15, 13)]).before args s = true := tb_at h 337 (by decide +kernel) (by decide +kernel)
theorem cl_L_13 {s : State} (h : tb_OK s) {args : Array Value} : (Cond.classLink RL 13 RJx00060).before args s = true := tb_at h 338 (by decide +kernel) (by decide +kernel)
theorem ml_L_7 {s : State} (h : tb_OK s) {args : Array Value} : (Cond.methodLink RL 7 yX3_line).before args s = true := tb_at h 339 (by decide +kernel) (by decide +kernel)
theorem im_X3_line {s : State} (h : tb_OK s) {args : Array Value} : (Cond.instanceMethod yX3_line).before args s = true := tb_at h 340 (by decide +kernel) (by decide +kernel)
theorem se_X3_line {s : State} (h : tb_OK s) {args : Array Value} : (Cond.selects RX3 yX3_line yX3_line).before args s = true := tb_at h 341 (by decide +kernel) (by decide +kernel)
theorem cd_X3_line {s : State} (h : tb_OK s) {args : Array Value} : (Cond.code yX3_line cX3_line 4 (some .int)).before args s = true := tb_at h 342 (by decide +kernel) (by decide +kernel)
theorem ml_X3_72 {s : State} (h : tb_OK s) {args : Array Value} : (Cond.methodLink RX3 72 yX3_needRing).before args s = true := tb_at h 343 (by decide +kernel) (by decide +kernel)
theorem im_X3_needRing {s : State} (h : tb_OK s) {args : Array Value} : (Cond.instanceMethod yX3_needRing).before args s = true := tb_at h 345 (by decide +kernel) (by decide +kernel)
theorem cd_X3_needRing {s : State} (h : tb_OK s) {args : Array Value} : (Cond.code yX3_needRing cX3_needRing 2 none).before args s = true := tb_at h 346 (by decide +kernel) (by decide +kernel)
theorem cl_X3_151 {s : State} (h : tb_OK s) {args : Array Value} : (Cond.classLink RX3 151 RJx00060).before args s = true := tb_at h 347 (by decide +kernel) (by decide +kernel)
theorem in_Jx00060 {s : State} (h : tb_OK s) {args : Array Value} : (Cond.instantiable RJx00060 6).before args s = true := tb_at h 348 (by decide +kernel) (by decide +kernel)
theorem ml_X3_155 {s : State} (h : tb_OK s) {args : Array Value} : (Cond.methodLink RX3 155 yJx00060_init_a7421).before args s = true := tb_at h 389 (by decide +kernel) (by decide +kernel)
theorem im_Jx00060_init_a7421 {s : State} (h : tb_OK s) {args : Array Value} : (Cond.instanceMethod yJx00060_init_a7421).before args s = true := tb_at h 390 (by decide +kernel) (by decide +kernel)
theorem cd_Jx00060_init_a7421 {s : State} (h : tb_OK s) {args : Array Value} : (Cond.code yJx00060_init_a7421 cJx00060_init_a7421 2 none).before args s = true := tb_at h 391 (by decide +kernel) (by decide +kernel)
theorem kc_X3_75 {s : State} (h : tb_OK s) {args : Array Value} : (Cond.constant RX3 75 (-10000000)).before args s = true := tb_at h 418 (by decide +kernel) (by decide +kernel)
theorem kc_X3_76 {s : State} (h : tb_OK s) {args : Array Value} : (Cond.constant RX3 76 (10000000)).before args s = true := tb_at h 419 (by decide +kernel) (by decide +kernel)
theorem mn_X3_81 {s : State} (h : tb_OK s) {args : Array Value} : (Cond.methodLinkNest RX3 81 yX2_setPoint "RingPieces").before args s = true := tb_at h 420 (by decide +kernel) (by decide +kernel)
theorem im_X2_setPoint {s : State} (h : tb_OK s) {args : Array Value} : (Cond.instanceMethod yX2_setPoint).before args s = true := tb_at h 422 (by decide +kernel) (by decide +kernel)
theorem cd_X2_setPoint {s : State} (h : tb_OK s) {args : Array Value} : (Cond.code yX2_setPoint cX2_setPoint 4 none).before args s = true := tb_at h 423 (by decide +kernel) (by decide +kernel)
theorem ml_L_83 {s : State} (h : tb_OK s) {args : Array Value} : (Cond.methodLink RL 83 yL_survey).before args s = true := tb_at h 424 (by decide +kernel) (by decide +kernel)
theorem sm_L_survey {s : State} (h : tb_OK s) {args : Array Value} : (Cond.static yL_survey).before args s = true := tb_at h 425 (by decide +kernel) (by decide +kernel)
theorem cw_L_survey {s : State} (h : tb_OK s) {args : Array Value} : (Cond.codeWith yL_survey cL_survey 6 (some .int) [(0, 12, 15, 13)]).before args s = true := tb_at h 426 (by decide +kernel) (by decide +kernel)
theorem ml_L_15 {s : State} (h : tb_OK s) {args : Array Value} : (Cond.methodLink RL 15 yX3_survey).before args s = true := tb_at h 427 (by decide +kernel) (by decide +kernel)
theorem im_X3_survey {s : State} (h : tb_OK s) {args : Array Value} : (Cond.instanceMethod yX3_survey).before args s = true := tb_at h 428 (by decide +kernel) (by decide +kernel)
theorem se_X3_survey {s : State} (h : tb_OK s) {args : Array Value} : (Cond.selects RX3 yX3_survey yX3_survey).before args s = true := tb_at h 429 (by decide +kernel) (by decide +kernel)
theorem cd_X3_survey {s : State} (h : tb_OK s) {args : Array Value} : (Cond.code yX3_survey cX3_survey 4 (some .int)).before args s = true := tb_at h 430 (by decide +kernel) (by decide +kernel)
theorem kc_X3_107 {s : State} (h : tb_OK s) {args : Array Value} : (Cond.constant RX3 107 (-100000)).before args s = true := tb_at h 431 (by decide +kernel) (by decide +kernel)
theorem kc_X3_108 {s : State} (h : tb_OK s) {args : Array Value} : (Cond.constant RX3 108 (100000)).before args s = true := tb_at h 432 (by decide +kernel) (by decide +kernel)
theorem mn_X3_109 {s : State} (h : tb_OK s) {args : Array Value} : (Cond.methodLinkNest RX3 109 yX2_shiftBuilt "RingPieces").before args s = true := tb_at h 433 (by decide +kernel) (by decide +kernel)
theorem im_X2_shiftBuilt {s : State} (h : tb_OK s) {args : Array Value} : (Cond.instanceMethod yX2_shiftBuilt).before args s = true := tb_at h 435 (by decide +kernel) (by decide +kernel)
theorem cd_X2_shiftBuilt {s : State} (h : tb_OK s) {args : Array Value} : (Cond.code yX2_shiftBuilt cX2_shiftBuilt 5 none).before args s = true := tb_at h 436 (by decide +kernel) (by decide +kernel)
theorem ml_L_86 {s : State} (h : tb_OK s) {args : Array Value} : (Cond.methodLink RL 86 yL_replace).before args s = true := tb_at h 437 (by decide +kernel) (by decide +kernel)
theorem sm_L_replace {s : State} (h : tb_OK s) {args : Array Value} : (Cond.static yL_replace).before args s = true := tb_at h 438 (by decide +kernel) (by decide +kernel)
theorem cw_L_replace {s : State} (h : tb_OK s) {args : Array Value} : (Cond.codeWith yL_replace cL_replace 5 (some .int) [(0, 10, 13, 13)]).before args s = true := tb_at h 439 (by decide +kernel) (by decide +kernel)
theorem ml_L_18 {s : State} (h : tb_OK s) {args : Array Value} : (Cond.methodLink RL 18 yX3_replace).before args s = true := tb_at h 440 (by decide +kernel) (by decide +kernel)
theorem im_X3_replace {s : State} (h : tb_OK s) {args : Array Value} : (Cond.instanceMethod yX3_replace).before args s = true := tb_at h 441 (by decide +kernel) (by decide +kernel)
theorem se_X3_replace {s : State} (h : tb_OK s) {args : Array Value} : (Cond.selects RX3 yX3_replace yX3_replace).before args s = true := tb_at h 442 (by decide +kernel) (by decide +kernel)
theorem cd_X3_replace {s : State} (h : tb_OK s) {args : Array Value} : (Cond.code yX3_replace cX3_replace 3 (some .int)).before args s = true := tb_at h 443 (by decide +kernel) (by decide +kernel)
theorem ml_X3_125 {s : State} (h : tb_OK s) {args : Array Value} : (Cond.methodLink RX3 125 yX3_layAgainFrom).before args s = true := tb_at h 444 (by decide +kernel) (by decide +kernel)
theorem im_X3_layAgainFrom {s : State} (h : tb_OK s) {args : Array Value} : (Cond.instanceMethod yX3_layAgainFrom).before args s = true := tb_at h 446 (by decide +kernel) (by decide +kernel)
theorem cd_X3_layAgainFrom {s : State} (h : tb_OK s) {args : Array Value} : (Cond.code yX3_layAgainFrom cX3_layAgainFrom 4 none).before args s = true := tb_at h 447 (by decide +kernel) (by decide +kernel)
theorem ml_L_102 {s : State} (h : tb_OK s) {args : Array Value} : (Cond.methodLink RL 102 yL_place).before args s = true := tb_at h 448 (by decide +kernel) (by decide +kernel)
theorem sm_L_place {s : State} (h : tb_OK s) {args : Array Value} : (Cond.static yL_place).before args s = true := tb_at h 449 (by decide +kernel) (by decide +kernel)
theorem cw_L_place {s : State} (h : tb_OK s) {args : Array Value} : (Cond.codeWith yL_place cL_place 5 (some .int) [(0, 9, 12, 13)]).before args s = true := tb_at h 450 (by decide +kernel) (by decide +kernel)
theorem ml_L_22 {s : State} (h : tb_OK s) {args : Array Value} : (Cond.methodLink RL 22 yX3_place).before args s = true := tb_at h 451 (by decide +kernel) (by decide +kernel)
theorem im_X3_place {s : State} (h : tb_OK s) {args : Array Value} : (Cond.instanceMethod yX3_place).before args s = true := tb_at h 452 (by decide +kernel) (by decide +kernel)
theorem se_X3_place {s : State} (h : tb_OK s) {args : Array Value} : (Cond.selects RX3 yX3_place yX3_place).before args s = true := tb_at h 453 (by decide +kernel) (by decide +kernel)
theorem cd_X3_place {s : State} (h : tb_OK s) {args : Array Value} : (Cond.code yX3_place cX3_place 3 (some .long)).before args s = true := tb_at h 454 (by decide +kernel) (by decide +kernel)
theorem ml_X3_135 {s : State} (h : tb_OK s) {args : Array Value} : (Cond.methodLink RX3 135 yX3_needStanding).before args s = true := tb_at h 455 (by decide +kernel) (by decide +kernel)
theorem im_X3_needStanding {s : State} (h : tb_OK s) {args : Array Value} : (Cond.instanceMethod yX3_needStanding).before args s = true := tb_at h 457 (by decide +kernel) (by decide +kernel)
theorem cd_X3_needStanding {s : State} (h : tb_OK s) {args : Array Value} : (Cond.code yX3_needStanding cX3_needStanding 2 none).before args s = true := tb_at h 458 (by decide +kernel) (by decide +kernel)
theorem ml_L_105 {s : State} (h : tb_OK s) {args : Array Value} : (Cond.methodLink RL 105 yL_off).before args s = true := tb_at h 461 (by decide +kernel) (by decide +kernel)
theorem sm_L_off {s : State} (h : tb_OK s) {args : Array Value} : (Cond.static yL_off).before args s = true := tb_at h 462 (by decide +kernel) (by decide +kernel)
theorem cw_L_off {s : State} (h : tb_OK s) {args : Array Value} : (Cond.codeWith yL_off cL_off 4 (some .int) [(0, 8, 11, 13)]).before args s = true := tb_at h 463 (by decide +kernel) (by decide +kernel)
theorem ml_L_26 {s : State} (h : tb_OK s) {args : Array Value} : (Cond.methodLink RL 26 yX3_off).before args s = true := tb_at h 464 (by decide +kernel) (by decide +kernel)
theorem im_X3_off {s : State} (h : tb_OK s) {args : Array Value} : (Cond.instanceMethod yX3_off).before args s = true := tb_at h 465 (by decide +kernel) (by decide +kernel)
theorem se_X3_off {s : State} (h : tb_OK s) {args : Array Value} : (Cond.selects RX3 yX3_off yX3_off).before args s = true := tb_at h 466 (by decide +kernel) (by decide +kernel)
theorem cd_X3_off {s : State} (h : tb_OK s) {args : Array Value} : (Cond.code yX3_off cX3_off 2 (some .long)).before args s = true := tb_at h 467 (by decide +kernel) (by decide +kernel)
theorem ml_L_126 {s : State} (h : tb_OK s) {args : Array Value} : (Cond.methodLink RL 126 yL_count).before args s = true := tb_at h 468 (by decide +kernel) (by decide +kernel)
theorem sm_L_count {s : State} (h : tb_OK s) {args : Array Value} : (Cond.static yL_count).before args s = true := tb_at h 469 (by decide +kernel) (by decide +kernel)
theorem cw_L_count {s : State} (h : tb_OK s) {args : Array Value} : (Cond.codeWith yL_count cL_count 4 (some .int) [(0, 9, 12, 13)]).before args s = true := tb_at h 470 (by decide +kernel) (by decide +kernel)
theorem ml_L_30 {s : State} (h : tb_OK s) {args : Array Value} : (Cond.methodLink RL 30 yX3_count).before args s = true := tb_at h 471 (by decide +kernel) (by decide +kernel)
theorem im_X3_count {s : State} (h : tb_OK s) {args : Array Value} : (Cond.instanceMethod yX3_count).before args s = true := tb_at h 472 (by decide +kernel) (by decide +kernel)
theorem se_X3_count {s : State} (h : tb_OK s) {args : Array Value} : (Cond.selects RX3 yX3_count yX3_count).before args s = true := tb_at h 473 (by decide +kernel) (by decide +kernel)
theorem cd_X3_count {s : State} (h : tb_OK s) {args : Array Value} : (Cond.code yX3_count cX3_count 2 (some .int)).before args s = true := tb_at h 474 (by decide +kernel) (by decide +kernel)
theorem cl_L_43 {s : State} (h : tb_OK s) {args : Array Value} : (Cond.classLink RL 43 RX4).before args s = true := tb_at h 476 (by decide +kernel) (by decide +kernel)
theorem in_X4 {s : State} (h : tb_OK s) {args : Array Value} : (Cond.instantiable RX4 23).before args s = true := tb_at h 477 (by decide +kernel) (by decide +kernel)
theorem ml_L_45 {s : State} (h : tb_OK s) {args : Array Value} : (Cond.methodLink RL 45 yX4_init).before args s = true := tb_at h 478 (by decide +kernel) (by decide +kernel)
theorem im_X4_init {s : State} (h : tb_OK s) {args : Array Value} : (Cond.instanceMethod yX4_init).before args s = true := tb_at h 479 (by decide +kernel) (by decide +kernel)
theorem cd_X4_init {s : State} (h : tb_OK s) {args : Array Value} : (Cond.code yX4_init cX4_init 3 none).before args s = true := tb_at h 480 (by decide +kernel) (by decide +kernel)
theorem ml_X4_1 {s : State} (h : tb_OK s) {args : Array Value} : (Cond.methodLink RX4 1 Lib.objectInit).before args s = true := tb_at h 481 (by decide +kernel) (by decide +kernel)
theorem fl_X4_55 {s : State} (h : tb_OK s) {args : Array Value} : (Cond.fieldLink RX4 55 "RingPiecesModel" "fault" "I").before args s = true := tb_at h 482 (by decide +kernel) (by decide +kernel)
theorem fl_X4_52 {s : State} (h : tb_OK s) {args : Array Value} : (Cond.fieldLink RX4 52 "RingPiecesModel" "rings" "I").before args s = true := tb_at h 483 (by decide +kernel) (by decide +kernel)
theorem fl_X4_61 {s : State} (h : tb_OK s) {args : Array Value} : (Cond.fieldLink RX4 61 "RingPiecesModel" "built" "I").before args s = true := tb_at h 484 (by decide +kernel) (by decide +kernel)
theorem fl_X4_64 {s : State} (h : tb_OK s) {args : Array Value} : (Cond.fieldLink RX4 64 "RingPiecesModel" "planned" "I").before args s = true := tb_at h 485 (by decide +kernel) (by decide +kernel)
theorem fl_X4_131 {s : State} (h : tb_OK s) {args : Array Value} : (Cond.fieldLink RX4 131 "RingPiecesModel" "plans" "I").before args s = true := tb_at h 486 (by decide +kernel) (by decide +kernel)
theorem fl_X4_7 {s : State} (h : tb_OK s) {args : Array Value} : (Cond.fieldLink RX4 7 "RingPiecesModel" "apart" "I").before args s = true := tb_at h 487 (by decide +kernel) (by decide +kernel)
theorem fl_X4_13 {s : State} (h : tb_OK s) {args : Array Value} : (Cond.fieldLink RX4 13 "RingPiecesModel" "look" "I").before args s = true := tb_at h 488 (by decide +kernel) (by decide +kernel)
theorem fl_X4_16 {s : State} (h : tb_OK s) {args : Array Value} : (Cond.fieldLink RX4 16 "RingPiecesModel" "allowed" "[Z").before args s = true := tb_at h 489 (by decide +kernel) (by decide +kernel)
theorem fl_X4_58 {s : State} (h : tb_OK s) {args : Array Value} : (Cond.fieldLink RX4 58 "RingPiecesModel" "kinds" "I").before args s = true := tb_at h 490 (by decide +kernel) (by decide +kernel)
theorem fl_X4_20 {s : State} (h : tb_OK s) {args : Array Value} : (Cond.fieldLink RX4 20 "RingPiecesModel" "taper" "[I").before args s = true := tb_at h 491 (by decide +kernel) (by decide +kernel)
theorem fl_X4_24 {s : State} (h : tb_OK s) {args : Array Value} : (Cond.fieldLink RX4 24 "RingPiecesModel" "stock" "[I").before args s = true := tb_at h 492 (by decide +kernel) (by decide +kernel)
theorem fl_X4_27 {s : State} (h : tb_OK s) {args : Array Value} : (Cond.fieldLink RX4 27 "RingPiecesModel" "lineX" "[I").before args s = true := tb_at h 493 (by decide +kernel) (by decide +kernel)
theorem fl_X4_30 {s : State} (h : tb_OK s) {args : Array Value} : (Cond.fieldLink RX4 30 "RingPiecesModel" "lineY" "[I").before args s = true := tb_at h 494 (by decide +kernel) (by decide +kernel)
theorem fl_X4_33 {s : State} (h : tb_OK s) {args : Array Value} : (Cond.fieldLink RX4 33 "RingPiecesModel" "kind" "[I").before args s = true := tb_at h 495 (by decide +kernel) (by decide +kernel)
theorem fl_X4_36 {s : State} (h : tb_OK s) {args : Array Value} : (Cond.fieldLink RX4 36 "RingPiecesModel" "key" "[I").before args s = true := tb_at h 496 (by decide +kernel) (by decide +kernel)
theorem fl_X4_39 {s : State} (h : tb_OK s) {args : Array Value} : (Cond.fieldLink RX4 39 "RingPiecesModel" "x" "[J").before args s = true := tb_at h 497 (by decide +kernel) (by decide +kernel)
theorem fl_X4_43 {s : State} (h : tb_OK s) {args : Array Value} : (Cond.fieldLink RX4 43 "RingPiecesModel" "y" "[J").before args s = true := tb_at h 498 (by decide +kernel) (by decide +kernel)
theorem fl_X4_46 {s : State} (h : tb_OK s) {args : Array Value} : (Cond.fieldLink RX4 46 "RingPiecesModel" "dx" "[J").before args s = true := tb_at h 499 (by decide +kernel) (by decide +kernel)
theorem fl_X4_49 {s : State} (h : tb_OK s) {args : Array Value} : (Cond.fieldLink RX4 49 "RingPiecesModel" "dy" "[J").before args s = true := tb_at h 500 (by decide +kernel) (by decide +kernel)
theorem fl_X4_99 {s : State} (h : tb_OK s) {args : Array Value} : (Cond.fieldLink RX4 99 "RingPiecesModel" "bestLength" "I").before args s = true := tb_at h 501 (by decide +kernel) (by decide +kernel)
theorem fl_X4_102 {s : State} (h : tb_OK s) {args : Array Value} : (Cond.fieldLink RX4 102 "RingPiecesModel" "bestSum" "J").before args s = true := tb_at h 502 (by decide +kernel) (by decide +kernel)
theorem fl_X4_106 {s : State} (h : tb_OK s) {args : Array Value} : (Cond.fieldLink RX4 106 "RingPiecesModel" "bestKind" "I").before args s = true := tb_at h 503 (by decide +kernel) (by decide +kernel)
theorem fl_X4_109 {s : State} (h : tb_OK s) {args : Array Value} : (Cond.fieldLink RX4 109 "RingPiecesModel" "bestKey" "I").before args s = true := tb_at h 504 (by decide +kernel) (by decide +kernel)
theorem ml_L_58 {s : State} (h : tb_OK s) {args : Array Value} : (Cond.methodLink RL 58 yX4_thrown).before args s = true := tb_at h 552 (by decide +kernel) (by decide +kernel)
theorem im_X4_thrown {s : State} (h : tb_OK s) {args : Array Value} : (Cond.instanceMethod yX4_thrown).before args s = true := tb_at h 553 (by decide +kernel) (by decide +kernel)
theorem se_X4_thrown {s : State} (h : tb_OK s) {args : Array Value} : (Cond.selects RX4 yX4_thrown yX4_thrown).before args s = true := tb_at h 554 (by decide +kernel) (by decide +kernel)
theorem cd_X4_thrown {s : State} (h : tb_OK s) {args : Array Value} : (Cond.code yX4_thrown cX4_thrown 1 (some .int)).before args s = true := tb_at h 555 (by decide +kernel) (by decide +kernel)
theorem ml_L_49 {s : State} (h : tb_OK s) {args : Array Value} : (Cond.methodLink RL 49 yX4_kind).before args s = true := tb_at h 556 (by decide +kernel) (by decide +kernel)
theorem im_X4_kind {s : State} (h : tb_OK s) {args : Array Value} : (Cond.instanceMethod yX4_kind).before args s = true := tb_at h 557 (by decide +kernel) (by decide +kernel)
theorem se_X4_kind {s : State} (h : tb_OK s) {args : Array Value} : (Cond.selects RX4 yX4_kind yX4_kind).before args s = true := tb_at h 558 (by decide +kernel) (by decide +kernel)
theorem cd_X4_kind {s : State} (h : tb_OK s) {args : Array Value} : (Cond.code yX4_kind cX4_kind 3 (some .int)).before args s = true := tb_at h 559 (by decide +kernel) (by decide +kernel)
theorem kl_X4_67 {s : State} (h : tb_OK s) {args : Array Value} : (Cond.constantLong RX4 67 (200)).before args s = true := tb_at h 560 (by decide +kernel) (by decide +kernel)
theorem ml_X4_69 {s : State} (h : tb_OK s) {args : Array Value} : (Cond.methodLink RX4 69 yX4_in).before args s = true := tb_at h 561 (by decide +kernel) (by decide +kernel)
theorem sm_X4_in {s : State} (h : tb_OK s) {args : Array Value} : (Cond.static yX4_in).before args s = true := tb_at h 562 (by decide +kernel) (by decide +kernel)
theorem cd_X4_in {s : State} (h : tb_OK s) {args : Array Value} : (Cond.code yX4_in cX4_in 6 (some .boolean)).before args s = true := tb_at h 563 (by decide +kernel) (by decide +kernel)
theorem kl_X4_73 {s : State} (h : tb_OK s) {args : Array Value} : (Cond.constantLong RX4 73 (99)).before args s = true := tb_at h 564 (by decide +kernel) (by decide +kernel)
theorem ml_L_53 {s : State} (h : tb_OK s) {args : Array Value} : (Cond.methodLink RL 53 yX4_more).before args s = true := tb_at h 565 (by decide +kernel) (by decide +kernel)
theorem im_X4_more {s : State} (h : tb_OK s) {args : Array Value} : (Cond.instanceMethod yX4_more).before args s = true := tb_at h 566 (by decide +kernel) (by decide +kernel)
theorem se_X4_more {s : State} (h : tb_OK s) {args : Array Value} : (Cond.selects RX4 yX4_more yX4_more).before args s = true := tb_at h 567 (by decide +kernel) (by decide +kernel)
theorem cd_X4_more {s : State} (h : tb_OK s) {args : Array Value} : (Cond.code yX4_more cX4_more 3 (some .int)).before args s = true := tb_at h 568 (by decide +kernel) (by decide +kernel)
theorem ml_X4_75 {s : State} (h : tb_OK s) {args : Array Value} : (Cond.methodLink RX4 75 yX4_isKind).before args s = true := tb_at h 569 (by decide +kernel) (by decide +kernel)
theorem im_X4_isKind {s : State} (h : tb_OK s) {args : Array Value} : (Cond.instanceMethod yX4_isKind).before args s = true := tb_at h 571 (by decide +kernel) (by decide +kernel)
theorem cd_X4_isKind {s : State} (h : tb_OK s) {args : Array Value} : (Cond.code yX4_isKind cX4_isKind 2 (some .boolean)).before args s = true := tb_at h 572 (by decide +kernel) (by decide +kernel)
theorem ml_L_57 {s : State} (h : tb_OK s) {args : Array Value} : (Cond.methodLink RL 57 yX4_line).before args s = true := tb_at h 573 (by decide +kernel) (by decide +kernel)
theorem im_X4_line {s : State} (h : tb_OK s) {args : Array Value} : (Cond.instanceMethod yX4_line).before args s = true := tb_at h 574 (by decide +kernel) (by decide +kernel)
theorem se_X4_line {s : State} (h : tb_OK s) {args : Array Value} : (Cond.selects RX4 yX4_line yX4_line).before args s = true := tb_at h 575 (by decide +kernel) (by decide +kernel)
theorem cd_X4_line {s : State} (h : tb_OK s) {args : Array Value} : (Cond.code yX4_line cX4_line 4 (some .int)).before args s = true := tb_at h 576 (by decide +kernel) (by decide +kernel)
theorem ml_X4_79 {s : State} (h : tb_OK s) {args : Array Value} : (Cond.methodLink RX4 79 yX4_isRing).before args s = true := tb_at h 577 (by decide +kernel) (by decide +kernel)
theorem im_X4_isRing {s : State} (h : tb_OK s) {args : Array Value} : (Cond.instanceMethod yX4_isRing).before args s = true := tb_at h 579 (by decide +kernel) (by decide +kernel)
theorem cd_X4_isRing {s : State} (h : tb_OK s) {args : Array Value} : (Cond.code yX4_isRing cX4_isRing 2 (some .boolean)).before args s = true := tb_at h 580 (by decide +kernel) (by decide +kernel)
theorem kl_X4_82 {s : State} (h : tb_OK s) {args : Array Value} : (Cond.constantLong RX4 82 (-10000000)).before args s = true := tb_at h 581 (by decide +kernel) (by decide +kernel)
theorem kl_X4_84 {s : State} (h : tb_OK s) {args : Array Value} : (Cond.constantLong RX4 84 (10000000)).before args s = true := tb_at h 582 (by decide +kernel) (by decide +kernel)
theorem ml_L_65 {s : State} (h : tb_OK s) {args : Array Value} : (Cond.methodLink RL 65 yX4_apart).before args s = true := tb_at h 583 (by decide +kernel) (by decide +kernel)
theorem im_X4_apart {s : State} (h : tb_OK s) {args : Array Value} : (Cond.instanceMethod yX4_apart).before args s = true := tb_at h 584 (by decide +kernel) (by decide +kernel)
theorem se_X4_apart {s : State} (h : tb_OK s) {args : Array Value} : (Cond.selects RX4 yX4_apart yX4_apart).before args s = true := tb_at h 585 (by decide +kernel) (by decide +kernel)
theorem cd_X4_apart {s : State} (h : tb_OK s) {args : Array Value} : (Cond.code yX4_apart cX4_apart 2 (some .int)).before args s = true := tb_at h 586 (by decide +kernel) (by decide +kernel)
theorem kl_X4_86 {s : State} (h : tb_OK s) {args : Array Value} : (Cond.constantLong RX4 86 (16)).before args s = true := tb_at h 587 (by decide +kernel) (by decide +kernel)
theorem ml_L_70 {s : State} (h : tb_OK s) {args : Array Value} : (Cond.methodLink RL 70 yX4_allow).before args s = true := tb_at h 588 (by decide +kernel) (by decide +kernel)
theorem im_X4_allow {s : State} (h : tb_OK s) {args : Array Value} : (Cond.instanceMethod yX4_allow).before args s = true := tb_at h 589 (by decide +kernel) (by decide +kernel)
theorem se_X4_allow {s : State} (h : tb_OK s) {args : Array Value} : (Cond.selects RX4 yX4_allow yX4_allow).before args s = true := tb_at h 590 (by decide +kernel) (by decide +kernel)
theorem cd_X4_allow {s : State} (h : tb_OK s) {args : Array Value} : (Cond.code yX4_allow cX4_allow 3 (some .boolean)).before args s = true := tb_at h 591 (by decide +kernel) (by decide +kernel)
theorem kl_X4_88 {s : State} (h : tb_OK s) {args : Array Value} : (Cond.constantLong RX4 88 (15)).before args s = true := tb_at h 592 (by decide +kernel) (by decide +kernel)
theorem ml_L_74 {s : State} (h : tb_OK s) {args : Array Value} : (Cond.methodLink RL 74 yX4_look).before args s = true := tb_at h 593 (by decide +kernel) (by decide +kernel)
theorem im_X4_look {s : State} (h : tb_OK s) {args : Array Value} : (Cond.instanceMethod yX4_look).before args s = true := tb_at h 594 (by decide +kernel) (by decide +kernel)
theorem se_X4_look {s : State} (h : tb_OK s) {args : Array Value} : (Cond.selects RX4 yX4_look yX4_look).before args s = true := tb_at h 595 (by decide +kernel) (by decide +kernel)
theorem cd_X4_look {s : State} (h : tb_OK s) {args : Array Value} : (Cond.code yX4_look cX4_look 2 (some .int)).before args s = true := tb_at h 596 (by decide +kernel) (by decide +kernel)
theorem kl_X4_90 {s : State} (h : tb_OK s) {args : Array Value} : (Cond.constantLong RX4 90 (2)).before args s = true := tb_at h 597 (by decide +kernel) (by decide +kernel)
theorem ml_L_78 {s : State} (h : tb_OK s) {args : Array Value} : (Cond.methodLink RL 78 yX4_run).before args s = true := tb_at h 598 (by decide +kernel) (by decide +kernel)
theorem im_X4_run {s : State} (h : tb_OK s) {args : Array Value} : (Cond.instanceMethod yX4_run).before args s = true := tb_at h 599 (by decide +kernel) (by decide +kernel)
theorem se_X4_run {s : State} (h : tb_OK s) {args : Array Value} : (Cond.selects RX4 yX4_run yX4_run).before args s = true := tb_at h 600 (by decide +kernel) (by decide +kernel)
theorem cd_X4_run {s : State} (h : tb_OK s) {args : Array Value} : (Cond.code yX4_run cX4_run 2 (some .int)).before args s = true := tb_at h 601 (by decide +kernel) (by decide +kernel)
theorem ml_X4_134 {s : State} (h : tb_OK s) {args : Array Value} : (Cond.methodLink RX4 134 yX4_planOne).before args s = true := tb_at h 602 (by decide +kernel) (by decide +kernel)
theorem im_X4_planOne {s : State} (h : tb_OK s) {args : Array Value} : (Cond.instanceMethod yX4_planOne).before args s = true := tb_at h 604 (by decide +kernel) (by decide +kernel)
theorem cd_X4_planOne {s : State} (h : tb_OK s) {args : Array Value} : (Cond.code yX4_planOne cX4_planOne 6 (some .boolean)).before args s = true := tb_at h 605 (by decide +kernel) (by decide +kernel)
theorem ml_X4_112 {s : State} (h : tb_OK s) {args : Array Value} : (Cond.methodLink RX4 112 yX4_mayStand).before args s = true := tb_at h 606 (by decide +kernel) (by decide +kernel)
theorem im_X4_mayStand {s : State} (h : tb_OK s) {args : Array Value} : (Cond.instanceMethod yX4_mayStand).before args s = true := tb_at h 608 (by decide +kernel) (by decide +kernel)
theorem cd_X4_mayStand {s : State} (h : tb_OK s) {args : Array Value} : (Cond.code yX4_mayStand cX4_mayStand 7 (some .boolean)).before args s = true := tb_at h 609 (by decide +kernel) (by decide +kernel)
theorem ml_X4_96 {s : State} (h : tb_OK s) {args : Array Value} : (Cond.methodLink RX4 96 yX4_usedOf).before args s = true := tb_at h 610 (by decide +kernel) (by decide +kernel)
theorem im_X4_usedOf {s : State} (h : tb_OK s) {args : Array Value} : (Cond.instanceMethod yX4_usedOf).before args s = true := tb_at h 612 (by decide +kernel) (by decide +kernel)
theorem cd_X4_usedOf {s : State} (h : tb_OK s) {args : Array Value} : (Cond.code yX4_usedOf cX4_usedOf 4 (some .int)).before args s = true := tb_at h 613 (by decide +kernel) (by decide +kernel)
theorem ml_X4_116 {s : State} (h : tb_OK s) {args : Array Value} : (Cond.methodLink RX4 116 yX4_set).before args s = true := tb_at h 614 (by decide +kernel) (by decide +kernel)
theorem im_X4_set {s : State} (h : tb_OK s) {args : Array Value} : (Cond.instanceMethod yX4_set).before args s = true := tb_at h 616 (by decide +kernel) (by decide +kernel)
theorem cd_X4_set {s : State} (h : tb_OK s) {args : Array Value} : (Cond.code yX4_set cX4_set 8 none).before args s = true := tb_at h 617 (by decide +kernel) (by decide +kernel)
theorem ml_X4_92 {s : State} (h : tb_OK s) {args : Array Value} : (Cond.methodLink RX4 92 yX4_c).before args s = true := tb_at h 618 (by decide +kernel) (by decide +kernel)
theorem sm_X4_c {s : State} (h : tb_OK s) {args : Array Value} : (Cond.static yX4_c).before args s = true := tb_at h 619 (by decide +kernel) (by decide +kernel)
theorem cd_X4_c {s : State} (h : tb_OK s) {args : Array Value} : (Cond.code yX4_c cX4_c 3 (some .int)).before args s = true := tb_at h 620 (by decide +kernel) (by decide +kernel)
theorem ml_X4_120 {s : State} (h : tb_OK s) {args : Array Value} : (Cond.methodLink RX4 120 yX4_offOf).before args s = true := tb_at h 621 (by decide +kernel) (by decide +kernel)
theorem im_X4_offOf {s : State} (h : tb_OK s) {args : Array Value} : (Cond.instanceMethod yX4_offOf).before args s = true := tb_at h 623 (by decide +kernel) (by decide +kernel)
theorem cd_X4_offOf {s : State} (h : tb_OK s) {args : Array Value} : (Cond.code yX4_offOf cX4_offOf 6 (some .long)).before args s = true := tb_at h 624 (by decide +kernel) (by decide +kernel)
theorem ml_X4_124 {s : State} (h : tb_OK s) {args : Array Value} : (Cond.methodLink RX4 124 yX4_note).before args s = true := tb_at h 625 (by decide +kernel) (by decide +kernel)
theorem im_X4_note {s : State} (h : tb_OK s) {args : Array Value} : (Cond.instanceMethod yX4_note).before args s = true := tb_at h 627 (by decide +kernel) (by decide +kernel)
theorem cd_X4_note {s : State} (h : tb_OK s) {args : Array Value} : (Cond.code yX4_note cX4_note 6 none).before args s = true := tb_at h 628 (by decide +kernel) (by decide +kernel)
theorem ml_X4_128 {s : State} (h : tb_OK s) {args : Array Value} : (Cond.methodLink RX4 128 yX4_trySecond).before args s = true := tb_at h 629 (by decide +kernel) (by decide +kernel)
theorem im_X4_trySecond {s : State} (h : tb_OK s) {args : Array Value} : (Cond.instanceMethod yX4_trySecond).before args s = true := tb_at h 631 (by decide +kernel) (by decide +kernel)
theorem cd_X4_trySecond {s : State} (h : tb_OK s) {args : Array Value} : (Cond.code yX4_trySecond cX4_trySecond 8 none).before args s = true := tb_at h 632 (by decide +kernel) (by decide +kernel)
theorem ml_L_82 {s : State} (h : tb_OK s) {args : Array Value} : (Cond.methodLink RL 82 yX4_build).before args s = true := tb_at h 633 (by decide +kernel) (by decide +kernel)
theorem im_X4_build {s : State} (h : tb_OK s) {args : Array Value} : (Cond.instanceMethod yX4_build).before args s = true := tb_at h 634 (by decide +kernel) (by decide +kernel)
theorem se_X4_build {s : State} (h : tb_OK s) {args : Array Value} : (Cond.selects RX4 yX4_build yX4_build).before args s = true := tb_at h 635 (by decide +kernel) (by decide +kernel)
theorem cd_X4_build {s : State} (h : tb_OK s) {args : Array Value} : (Cond.code yX4_build cX4_build 2 (some .int)).before args s = true := tb_at h 636 (by decide +kernel) (by decide +kernel)
theorem ml_L_85 {s : State} (h : tb_OK s) {args : Array Value} : (Cond.methodLink RL 85 yX4_survey).before args s = true := tb_at h 637 (by decide +kernel) (by decide +kernel)
theorem im_X4_survey {s : State} (h : tb_OK s) {args : Array Value} : (Cond.instanceMethod yX4_survey).before args s = true := tb_at h 638 (by decide +kernel) (by decide +kernel)
theorem se_X4_survey {s : State} (h : tb_OK s) {args : Array Value} : (Cond.selects RX4 yX4_survey yX4_survey).before args s = true := tb_at h 639 (by decide +kernel) (by decide +kernel)
theorem cd_X4_survey {s : State} (h : tb_OK s) {args : Array Value} : (Cond.code yX4_survey cX4_survey 5 (some .int)).before args s = true := tb_at h 640 (by decide +kernel) (by decide +kernel)
theorem kl_X4_138 {s : State} (h : tb_OK s) {args : Array Value} : (Cond.constantLong RX4 138 (-100000)).before args s = true := tb_at h 641 (by decide +kernel) (by decide +kernel)
theorem kl_X4_140 {s : State} (h : tb_OK s) {args : Array Value} : (Cond.constantLong RX4 140 (100000)).before args s = true := tb_at h 642 (by decide +kernel) (by decide +kernel)
theorem ml_L_89 {s : State} (h : tb_OK s) {args : Array Value} : (Cond.methodLink RL 89 yX4_replace).before args s = true := tb_at h 643 (by decide +kernel) (by decide +kernel)
theorem im_X4_replace {s : State} (h : tb_OK s) {args : Array Value} : (Cond.instanceMethod yX4_replace).before args s = true := tb_at h 644 (by decide +kernel) (by decide +kernel)
theorem se_X4_replace {s : State} (h : tb_OK s) {args : Array Value} : (Cond.selects RX4 yX4_replace yX4_replace).before args s = true := tb_at h 645 (by decide +kernel) (by decide +kernel)
theorem cd_X4_replace {s : State} (h : tb_OK s) {args : Array Value} : (Cond.code yX4_replace cX4_replace 4 (some .int)).before args s = true := tb_at h 646 (by decide +kernel) (by decide +kernel)
theorem ml_L_93 {s : State} (h : tb_OK s) {args : Array Value} : (Cond.methodLink RL 93 yX4_kindOf).before args s = true := tb_at h 647 (by decide +kernel) (by decide +kernel)
theorem im_X4_kindOf {s : State} (h : tb_OK s) {args : Array Value} : (Cond.instanceMethod yX4_kindOf).before args s = true := tb_at h 648 (by decide +kernel) (by decide +kernel)
theorem se_X4_kindOf {s : State} (h : tb_OK s) {args : Array Value} : (Cond.selects RX4 yX4_kindOf yX4_kindOf).before args s = true := tb_at h 649 (by decide +kernel) (by decide +kernel)
theorem cd_X4_kindOf {s : State} (h : tb_OK s) {args : Array Value} : (Cond.code yX4_kindOf cX4_kindOf 2 (some .int)).before args s = true := tb_at h 650 (by decide +kernel) (by decide +kernel)
theorem ml_X4_142 {s : State} (h : tb_OK s) {args : Array Value} : (Cond.methodLink RX4 142 yX4_isThere).before args s = true := tb_at h 651 (by decide +kernel) (by decide +kernel)
theorem im_X4_isThere {s : State} (h : tb_OK s) {args : Array Value} : (Cond.instanceMethod yX4_isThere).before args s = true := tb_at h 653 (by decide +kernel) (by decide +kernel)
theorem cd_X4_isThere {s : State} (h : tb_OK s) {args : Array Value} : (Cond.code yX4_isThere cX4_isThere 2 (some .boolean)).before args s = true := tb_at h 654 (by decide +kernel) (by decide +kernel)
theorem ml_L_97 {s : State} (h : tb_OK s) {args : Array Value} : (Cond.methodLink RL 97 yX4_turnOf).before args s = true := tb_at h 655 (by decide +kernel) (by decide +kernel)
theorem im_X4_turnOf {s : State} (h : tb_OK s) {args : Array Value} : (Cond.instanceMethod yX4_turnOf).before args s = true := tb_at h 656 (by decide +kernel) (by decide +kernel)
theorem se_X4_turnOf {s : State} (h : tb_OK s) {args : Array Value} : (Cond.selects RX4 yX4_turnOf yX4_turnOf).before args s = true := tb_at h 657 (by decide +kernel) (by decide +kernel)
theorem cd_X4_turnOf {s : State} (h : tb_OK s) {args : Array Value} : (Cond.code yX4_turnOf cX4_turnOf 2 (some .int)).before args s = true := tb_at h 658 (by decide +kernel) (by decide +kernel)
theorem ml_L_101 {s : State} (h : tb_OK s) {args : Array Value} : (Cond.methodLink RL 101 yX4_state).before args s = true := tb_at h 659 (by decide +kernel) (by decide +kernel)
theorem im_X4_state {s : State} (h : tb_OK s) {args : Array Value} : (Cond.instanceMethod yX4_state).before args s = true := tb_at h 660 (by decide +kernel) (by decide +kernel)
theorem se_X4_state {s : State} (h : tb_OK s) {args : Array Value} : (Cond.selects RX4 yX4_state yX4_state).before args s = true := tb_at h 661 (by decide +kernel) (by decide +kernel)
theorem cd_X4_state {s : State} (h : tb_OK s) {args : Array Value} : (Cond.code yX4_state cX4_state 2 (some .int)).before args s = true := tb_at h 662 (by decide +kernel) (by decide +kernel)
theorem ml_L_104 {s : State} (h : tb_OK s) {args : Array Value} : (Cond.methodLink RL 104 yX4_place).before args s = true := tb_at h 663 (by decide +kernel) (by decide +kernel)
theorem im_X4_place {s : State} (h : tb_OK s) {args : Array Value} : (Cond.instanceMethod yX4_place).before args s = true := tb_at h 664 (by decide +kernel) (by decide +kernel)
theorem se_X4_place {s : State} (h : tb_OK s) {args : Array Value} : (Cond.selects RX4 yX4_place yX4_place).before args s = true := tb_at h 665 (by decide +kernel) (by decide +kernel)
theorem cd_X4_place {s : State} (h : tb_OK s) {args : Array Value} : (Cond.code yX4_place cX4_place 3 (some .long)).before args s = true := tb_at h 666 (by decide +kernel) (by decide +kernel)
theorem kl_X4_145 {s : State} (h : tb_OK s) {args : Array Value} : (Cond.constantLong RX4 145 (3)).before args s = true := tb_at h 667 (by decide +kernel) (by decide +kernel)
theorem ml_L_108 {s : State} (h : tb_OK s) {args : Array Value} : (Cond.methodLink RL 108 yX4_off).before args s = true := tb_at h 668 (by decide +kernel) (by decide +kernel)
theorem im_X4_off {s : State} (h : tb_OK s) {args : Array Value} : (Cond.instanceMethod yX4_off).before args s = true := tb_at h 669 (by decide +kernel) (by decide +kernel)
theorem se_X4_off {s : State} (h : tb_OK s) {args : Array Value} : (Cond.selects RX4 yX4_off yX4_off).before args s = true := tb_at h 670 (by decide +kernel) (by decide +kernel)
theorem cd_X4_off {s : State} (h : tb_OK s) {args : Array Value} : (Cond.code yX4_off cX4_off 2 (some .long)).before args s = true := tb_at h 671 (by decide +kernel) (by decide +kernel)
theorem ml_L_113 {s : State} (h : tb_OK s) {args : Array Value} : (Cond.methodLink RL 113 yX4_sum).before args s = true := tb_at h 672 (by decide +kernel) (by decide +kernel)
theorem im_X4_sum {s : State} (h : tb_OK s) {args : Array Value} : (Cond.instanceMethod yX4_sum).before args s = true := tb_at h 673 (by decide +kernel) (by decide +kernel)
theorem se_X4_sum {s : State} (h : tb_OK s) {args : Array Value} : (Cond.selects RX4 yX4_sum yX4_sum).before args s = true := tb_at h 674 (by decide +kernel) (by decide +kernel)
theorem cd_X4_sum {s : State} (h : tb_OK s) {args : Array Value} : (Cond.code yX4_sum cX4_sum 4 (some .long)).before args s = true := tb_at h 675 (by decide +kernel) (by decide +kernel)
theorem ml_L_117 {s : State} (h : tb_OK s) {args : Array Value} : (Cond.methodLink RL 117 yX4_stroke).before args s = true := tb_at h 676 (by decide +kernel) (by decide +kernel)
theorem im_X4_stroke {s : State} (h : tb_OK s) {args : Array Value} : (Cond.instanceMethod yX4_stroke).before args s = true := tb_at h 677 (by decide +kernel) (by decide +kernel)
theorem se_X4_stroke {s : State} (h : tb_OK s) {args : Array Value} : (Cond.selects RX4 yX4_stroke yX4_stroke).before args s = true := tb_at h 678 (by decide +kernel) (by decide +kernel)
theorem cd_X4_stroke {s : State} (h : tb_OK s) {args : Array Value} : (Cond.code yX4_stroke cX4_stroke 5 (some .int)).before args s = true := tb_at h 679 (by decide +kernel) (by decide +kernel)
theorem ml_L_121 {s : State} (h : tb_OK s) {args : Array Value} : (Cond.methodLink RL 121 yX4_left).before args s = true := tb_at h 680 (by decide +kernel) (by decide +kernel)
theorem im_X4_left {s : State} (h : tb_OK s) {args : Array Value} : (Cond.instanceMethod yX4_left).before args s = true := tb_at h 681 (by decide +kernel) (by decide +kernel)
theorem se_X4_left {s : State} (h : tb_OK s) {args : Array Value} : (Cond.selects RX4 yX4_left yX4_left).before args s = true := tb_at h 682 (by decide +kernel) (by decide +kernel)
theorem cd_X4_left {s : State} (h : tb_OK s) {args : Array Value} : (Cond.code yX4_left cX4_left 2 (some .int)).before args s = true := tb_at h 683 (by decide +kernel) (by decide +kernel)
theorem ml_L_125 {s : State} (h : tb_OK s) {args : Array Value} : (Cond.methodLink RL 125 yX4_list).before args s = true := tb_at h 684 (by decide +kernel) (by decide +kernel)
theorem im_X4_list {s : State} (h : tb_OK s) {args : Array Value} : (Cond.instanceMethod yX4_list).before args s = true := tb_at h 685 (by decide +kernel) (by decide +kernel)
theorem se_X4_list {s : State} (h : tb_OK s) {args : Array Value} : (Cond.selects RX4 yX4_list yX4_list).before args s = true := tb_at h 686 (by decide +kernel) (by decide +kernel)
theorem cd_X4_list {s : State} (h : tb_OK s) {args : Array Value} : (Cond.code yX4_list cX4_list 5 (some .int)).before args s = true := tb_at h 687 (by decide +kernel) (by decide +kernel)
theorem ml_L_128 {s : State} (h : tb_OK s) {args : Array Value} : (Cond.methodLink RL 128 yX4_count).before args s = true := tb_at h 688 (by decide +kernel) (by decide +kernel)
theorem im_X4_count {s : State} (h : tb_OK s) {args : Array Value} : (Cond.instanceMethod yX4_count).before args s = true := tb_at h 689 (by decide +kernel) (by decide +kernel)
theorem se_X4_count {s : State} (h : tb_OK s) {args : Array Value} : (Cond.selects RX4 yX4_count yX4_count).before args s = true := tb_at h 690 (by decide +kernel) (by decide +kernel)
theorem cd_X4_count {s : State} (h : tb_OK s) {args : Array Value} : (Cond.code yX4_count cX4_count 4 (some .int)).before args s = true := tb_at h 691 (by decide +kernel) (by decide +kernel)
theorem kl_X4_147 {s : State} (h : tb_OK s) {args : Array Value} : (Cond.constantLong RX4 147 (7)).before args s = true := tb_at h 692 (by decide +kernel) (by decide +kernel)
theorem lyX0 {s : State} (h : tb_OK s) {args : Array Value} : ∀ w ∈ u_ws RX0 TX0 3, w.before args s = true := by
  have hm : ∀ w ∈ u_ws RX0 TX0 3, w ∈ lw_tbl ∧ tb_good w = true := by decide +kernel
  exact fun w hw => tb_move (A := #[]) (State.WarmedH.refl s) (hm w hw).2 (h w (hm w hw).1 (hm w hw).2)
theorem lyX1 {s : State} (h : tb_OK s) {args : Array Value} : ∀ w ∈ u_ws RX1 TX1 4, w.before args s = true := by
  have hm : ∀ w ∈ u_ws RX1 TX1 4, w ∈ lw_tbl ∧ tb_good w = true := by decide +kernel
  exact fun w hw => tb_move (A := #[]) (State.WarmedH.refl s) (hm w hw).2 (h w (hm w hw).1 (hm w hw).2)
theorem lyX2 {s : State} (h : tb_OK s) {args : Array Value} : ∀ w ∈ u_ws RX2 TX2 11, w.before args s = true := by
  have hm : ∀ w ∈ u_ws RX2 TX2 11, w ∈ lw_tbl ∧ tb_good w = true := by decide +kernel
  exact fun w hw => tb_move (A := #[]) (State.WarmedH.refl s) (hm w hw).2 (h w (hm w hw).1 (hm w hw).2)
theorem lyX3 {s : State} (h : tb_OK s) {args : Array Value} : ∀ w ∈ u_ws RX3 TX3 7, w.before args s = true := by
  have hm : ∀ w ∈ u_ws RX3 TX3 7, w ∈ lw_tbl ∧ tb_good w = true := by decide +kernel
  exact fun w hw => tb_move (A := #[]) (State.WarmedH.refl s) (hm w hw).2 (h w (hm w hw).1 (hm w hw).2)
theorem lyX4 {s : State} (h : tb_OK s) {args : Array Value} : ∀ w ∈ u_ws RX4 TX4 23, w.before args s = true := by
  have hm : ∀ w ∈ u_ws RX4 TX4 23, w ∈ lw_tbl ∧ tb_good w = true := by decide +kernel
  exact fun w hw => tb_move (A := #[]) (State.WarmedH.refl s) (hm w hw).2 (h w (hm w hw).1 (hm w hw).2)
theorem lyJx {s : State} (h : tb_OK s) {args : Array Value} : ∀ w ∈ u_ws RJx00060 TJx00060 6, w.before args s = true := by
  have hm : ∀ w ∈ u_ws RJx00060 TJx00060 6, w ∈ lw_tbl ∧ tb_good w = true := by decide +kernel
  exact fun w hw => tb_move (A := #[]) (State.WarmedH.refl s) (hm w hw).2 (h w (hm w hw).1 (hm w hw).2)
end
section
/-! CALLS by contract: reading (heap stays) and writing (the whole world w goes in, w' comes back) -/
theorem W.st {p : Program} {l : Launch} {e : Env} {R : Room} {s : State} {m : MethodId} {args : Array Value} {below : List Frame} {meth : Method} {c : Code} {H : Heap} {locs : List Loc} {cells slots : Nat} {Q : State → Prop} {pc : Nat} {ls : Array Slot} {st st1 : List Value} (h : st = st1) (k : W p l e R s m args below meth c H locs cells slots Q (F0 m pc ls st1)) : W p l e R s m args below meth c H locs cells slots Q (F0 m pc ls st) := h ▸ k
def PcW (av : List Value) (D : va_G) (tys : List (ClassId × FieldType)) (w : va_W) (sz : Nat) : Array Value → State → Prop := va_Pc av (fun U => U.heap.size = sz ∧ evOK (va_A w sz) U U.heap ∧ va_P D vwCl w U.heap ∧ va_K D vwCl tys U ∧ va_D (fun _ => True) w)
def QcW (D : va_G) (w : va_W) (sz : Nat) (post : Option Value → va_W → Prop) : Array Value → State → Outcome → State → Prop := fun _ st o t => ∃ (v : Option Value) (w' : va_W), o = .returned v ∧ post v w' ∧ va_P D vwCl w' t.heap ∧ va_D (va_A w sz) w' ∧ va_F (va_A w sz) st t
/-- WRITING CONTRACTS -/
def WR (l : Launch) (y : MethodName) (cc : ByteArray) (maxL : Nat) (ret : Option FieldType) (d mc ms : Nat) (D : va_G) (tys : List (ClassId × FieldType)) (w : va_W) (av : List Value) (post : Option Value → va_W → Prop) : Prop :=
  ∀ sz : Nat, Met l y [Cond.code y cc maxL ret] (rmD d mc ms) (PcW av D tys w sz) (QcW D w sz post) mc ms (va_A w sz)
theorem blindW {av : List Value} {D : va_G} {tys : List (ClassId × FieldType)} {w : va_W} {sz : Nat} : FrameBlind (PcW av D tys w sz) := by
  intro a U g mk h
  obtain ⟨h1, h0, h2, h3, h4, h5⟩ := h
  exact ⟨h1, h0, h2.warm (U := U.calling g mk a) (State.WarmedH.refl U), h3, va_K.moved (u := U) (U := U.calling g mk a) (Vm.Alike.refl U.vm) h4, h5⟩
theorem WR.of {l : Launch} {y : MethodName} {cc : ByteArray} {maxL : Nat} {ret : Option FieldType} {d mc ms : Nat} {D : va_G} {tys : List (ClassId × FieldType)} {w : va_W} {av : List Value} {post : Option Value → va_W → Prop} (hy : plainName y.cls = true)
    (body : ∀ (p : Program) (e : Env) (s : State) (m : MethodId) (below : List Frame) (meth : Method) (c : Code) (A : Nat → Prop), l.admits e → p.tables.exec = Jvm.exec → c.code = cc → meth.sig.returnType = ret → c.maxLocals = maxL → s.vm.findClass y.cls = some m.cls → meth.locks = false → meth.name = y.name → evOK A s s.heap → va_P D vwCl w s.heap → va_K D vwCl tys s → va_D A w → va_S A s.heap s.heap [] → (∀ q : Nat, s.heap.size ≤ q → A q) → A = va_A w s.heap.size →
      W p l e (rmD d mc ms) s m av.toArray below meth c s.heap [] 0 0 (MQ below (QcW D w s.heap.size post) av.toArray s mc ms A) (entryFrame m av.toArray maxL)) : WR l y cc maxL ret d mc ms D tys w av post := by
  intro sz
  refine Met.ofW (cc := cc) (maxL := maxL) (ret := ret) hy rfl ?_
  intro p e s m args below meth c s₁ B hml hv
  obtain ⟨rfl, h0, h1, h2, h3, h4⟩ := hv
  subst h0
  exact body p e s m below meth c (va_A w s.heap.size) (Stand.of_body B).admits B.exec B.bytes B.returns hml (findClass_of_methodNamed B.named) B.notSynchronized (name_of_methodNamed B.named B.method).1 h1 h2 h3 h4.self va_S.rf (fun q h => Or.inr h) rfl
section ROWS
variable {p : Program} {l : Launch} {e : Env} {R : Room} {s : State} {m : MethodId} {args : Array Value} {below : List Frame} {meth : Method} {c : Code} {H H0 : Heap} {locs : List Loc} {cells slots : Nat} {Q : State → Prop} {cc : ByteArray} {pc : Nat} {ls : Array Slot} {D : va_G} {tys : List (ClassId × FieldType)} {w w' : va_W} {A : Nat → Prop} {post : Option Value → va_W → Prop}
theorem wr_i (hx : p.tables.exec = Jvm.exec) (hb : c.code = cc) (hr : meth.sig.returnType = some .int) (hlocks : meth.locks = false) (hAe : A = va_A w s.heap.size) (hP : va_P D vwCl w' H) (hD : va_D A w') (hS : va_S A s.heap H locs) (hdg : decode cc pc = .ok (.ireturn, 1)) {v : Int32} (hv : post (some (.int v)) w') : W p l e R s m args below meth c H locs cells slots (MQ below (QcW D w s.heap.size post) args s cells slots A) (F0 m pc ls [.int v]) := by
  subst hAe
  exact W.iret hx hb hr (fun t ht hW => ⟨_, w', rfl, hv, by rw [ht]; exact hP, hD, hS.F ht⟩) hS.2.2 hdg hlocks
theorem wr_z (hx : p.tables.exec = Jvm.exec) (hb : c.code = cc) (hr : meth.sig.returnType = some .boolean) (hlocks : meth.locks = false) (hAe : A = va_A w s.heap.size) (hP : va_P D vwCl w' H) (hD : va_D A w') (hS : va_S A s.heap H locs) (hdg : decode cc pc = .ok (.ireturn, 1)) {v : Int32} (hn : narrow .boolean (.int v) = .int v) (hv : post (some (.int v)) w') : W p l e R s m args below meth c H locs cells slots (MQ below (QcW D w s.heap.size post) args s cells slots A) (F0 m pc ls [.int v]) := by
  subst hAe
  exact W.zret hx hb hr hn (fun t ht hW => ⟨_, w', rfl, hv, by rw [ht]; exact hP, hD, hS.F ht⟩) hS.2.2 hdg hlocks
theorem wr_l (hx : p.tables.exec = Jvm.exec) (hb : c.code = cc) (hr : meth.sig.returnType = some .long) (hlocks : meth.locks = false) (hAe : A = va_A w s.heap.size) (hP : va_P D vwCl w' H) (hD : va_D A w') (hS : va_S A s.heap H locs) (hdg : decode cc pc = .ok (.lreturn, 1)) {v : Int64} (hv : post (some (.long v)) w') : W p l e R s m args below meth c H locs cells slots (MQ below (QcW D w s.heap.size post) args s cells slots A) (F0 m pc ls [.long v]) := by
  subst hAe
  exact W.lret hx hb hr (fun t ht hW => ⟨_, w', rfl, hv, by rw [ht]; exact hP, hD, hS.F ht⟩) hS.2.2 hdg hlocks
theorem wr_v (hx : p.tables.exec = Jvm.exec) (hb : c.code = cc) (hr : meth.sig.returnType = none) (hlocks : meth.locks = false) (hAe : A = va_A w s.heap.size) (hP : va_P D vwCl w' H) (hD : va_D A w') (hS : va_S A s.heap H locs) (hdg : decode cc pc = .ok (.return_, 1)) (hv : post none w') : W p l e R s m args below meth c H locs cells slots (MQ below (QcW D w s.heap.size post) args s cells slots A) (F0 m pc ls []) := by
  subst hAe
  exact W.vret hx hb hr (fun t ht hW => ⟨_, w', rfl, hv, by rw [ht]; exact hP, hD, hS.F ht⟩) hS.2.2 hdg hlocks
/-- a reading call goes on with the same heap -/
theorem crd2 {st0 rest : List Value} {v : Option Value} {a : Array Value} (hr : va_Run p l e R s m args below meth c H locs cells slots 0 0 (F0 m pc ls st0) rest (QcR v a) (fun _ => False)) (kk : W p l e R s m args below meth c H locs cells slots Q (F0 m (pc + 3) ls (v.toList ++ rest))) : W p l e R s m args below meth c H locs cells slots Q (F0 m pc ls st0) := crd hr.run kk
/-- a writing call of the whole world -/
theorem cwr2 {st0 rest : List Value} {mc ms : Nat} {a : Array Value} (hr : va_Run p l e R s m args below meth c H locs cells slots mc ms (F0 m pc ls st0) rest (QcW D w H.size post a) (va_A w H.size)) (hD : va_D A w) (hS : va_S A H0 H locs) (hA : ∀ q : Nat, H0.size ≤ q → A q)
    (kk : ∀ (v : Option Value) (w' : va_W) (H1 : Heap) (locs1 : List Loc), post v w' → va_P D vwCl w' H1 → va_D A w' → va_S A H0 H1 locs1 → W p l e R s m args below meth c H1 locs1 (cells + mc) (slots + ms) Q (F0 m (pc + 3) ls (v.toList ++ rest))) : W p l e R s m args below meth c H locs cells slots Q (F0 m pc ls st0) := by
  have hF : ∀ q, va_A w H.size q → A q := fun q h => by
    rcases h with ⟨k, e, hk⟩ | h
    · exact hD.2 k _ hk
    · exact hA q (Nat.le_trans hS.1 h)
  intro T hT X
  obtain ⟨v, st₀, t, T', L, h0, X', hL, e1, e2, ⟨v', w', hv, hpost, hP1, hD1, hF1⟩, st⟩ := hr T hT X
  cases hv
  have hk : ∀ q : Nat, q < H.size → ¬ va_A w H.size q → t.heap[q]? = H[q]? := fun q h1 h2 => by
    rw [← h0]; exact hF1.2 q (by rw [h0]; exact h1) h2
  have hz : H.size ≤ t.heap.size := by rw [← h0]; exact hF1.1
  obtain ⟨t2, a1, b1⟩ := kk v w' T'.heap (locs ++ L) hpost (by rw [e1]; exact hP1) (hD1.weaken (fun _ _ _ h => hF _ h))
    ⟨by rw [e1]; exact Nat.le_trans hS.1 hz, fun q hq hn => by rw [e1, hk q (Nat.lt_of_lt_of_le hq hS.1) (fun h => hn (hF q h))]; exact hS.2.1 q hq hn, fun q hq => by
      rcases List.mem_append.mp hq with h | h
      · exact hS.2.2 q h
      · exact hF _ (hL q h)⟩ T' rfl X'
  exact ⟨t2, st t2 a1, b1⟩
theorem preRS {As : List Value} (hE : evOK A s H) (hP : va_P D vwCl w H) (hK : va_K D vwCl tys s) : PreS s H (PcR As D tys w) As :=
  ⟨blindR, fun U hU hW => ⟨rfl, by rw [hU]; exact hE.none.warm hW, by rw [hU]; exact hP, va_K.moved hW.alike hK⟩⟩
theorem preRV {C : String} {b : Addr} {As : List Value} (hrc : ∃ cell : Cell, H[b]? = some cell ∧ cell.vm.isStatics = false ∧ s.vm.findClass C = some cell.cls) (hE : evOK A s H) (hP : va_P D vwCl w H) (hK : va_K D vwCl tys s) : PreV s H C b (PcR (.ref b :: As) D tys w) As :=
  ⟨blindR, hrc, fun U hU hW => ⟨rfl, by rw [hU]; exact hE.none.warm hW, by rw [hU]; exact hP, va_K.moved hW.alike hK⟩⟩
theorem preW {As : List Value} (hE : evOK A s H0) (hP : va_P D vwCl w H) (hK : va_K D vwCl tys s) (hD : va_D A w) (hS : va_S A H0 H locs) (hA : ∀ q : Nat, H0.size ≤ q → A q) : ∀ U : State, U.heap = H → s.WarmedH U.vm → PcW As D tys w H.size As.toArray U := by
  intro U hU hW
  have hF : ∀ q, va_A w H.size q → A q := fun q h => by
    rcases h with ⟨k, e, hk⟩ | h
    · exact hD.2 k _ hk
    · exact hA q (Nat.le_trans hS.1 h)
  exact ⟨rfl, by rw [hU], by rw [hU]; exact ((hE.since hS).narrow hF).warm hW, by rw [hU]; exact hP, va_K.moved hW.alike hK, hD.weaken (fun _ _ _ _ => trivial)⟩
end ROWS
end
section
/-! CALL SITES: what the tables say of each (class, pool entry); the rules for the kinds of calls -/
theorem sg_n {d : String} {n : Nat} (h : (parseMethodDescriptor d).map (fun q => q.parameters.length) = some n) : ∀ sig, parseMethodDescriptor d = some sig → n = sig.parameters.length := by
  intro sig e
  rw [e] at h
  exact (Option.some.inj h).symm
section SITES
variable {R : Room} {s : State} {args : Array Value} {own : String} {index maxL d mc ms n : Nat} {y : MethodName} {cy : ByteArray} {ret : Option FieldType} {host : String}
theorem mkB (h : tb_OK s) (hcd : ∀ (U : State) (a : Array Value), tb_OK U → (Cond.code y cy maxL ret).before a U = true) (hini : (Cond.initialized y.cls).before args s = true) (hd : y.cls ≠ "java/lang/invoke/MethodHandle" ∧ y.cls ≠ "java/lang/invoke/VarHandle" ∧ (parseMethodDescriptor y.desc).map (fun q => q.parameters.length) = some n) (hR : 20 * d + 1 ≤ R.frames ∧ 8 + (maxL + 11) + 400 * d ≤ R.locals) (hl : (Cond.methodLink own index y).before args s = true) : CallB R s args own index y cy maxL ret [Cond.code y cy maxL ret] (rmD d mc ms) mc ms n :=
  ⟨rfl, rfl, hR.1, hR.2, fun w hw a' U hW => by rw [List.mem_singleton.mp hw]; exact hcd U a' (h.warm hW), List.mem_cons_self, hcd s args h, hini, ⟨hd.1, hd.2.1⟩, sg_n hd.2.2, hl⟩
theorem mkN (h : tb_OK s) (hcd : ∀ (U : State) (a : Array Value), tb_OK U → (Cond.code y cy maxL ret).before a U = true) (hini : (Cond.initialized y.cls).before args s = true) (hd : y.cls ≠ "java/lang/invoke/MethodHandle" ∧ y.cls ≠ "java/lang/invoke/VarHandle" ∧ (parseMethodDescriptor y.desc).map (fun q => q.parameters.length) = some n) (hR : 20 * d + 1 ≤ R.frames ∧ 8 + (maxL + 11) + 400 * d ≤ R.locals) (hl : (Cond.methodLinkNest own index y host).before args s = true) : va_CN R s args own index y host cy maxL ret [Cond.code y cy maxL ret] (rmD d mc ms) mc ms n :=
  ⟨⟨rfl, rfl, hR.1, hR.2, fun w hw a' U hW => by rw [List.mem_singleton.mp hw]; exact hcd U a' (h.warm hW), List.mem_cons_self⟩, hcd s args h, hini, ⟨hd.1, hd.2.1⟩, sg_n hd.2.2, hl⟩
end SITES
section ROWS
variable {p : Program} {l : Launch} {e : Env} {R : Room} {s : State} {m : MethodId} {args : Array Value} {below : List Frame} {meth : Method} {c : Code} {H H0 : Heap} {locs : List Loc} {cells slots : Nat} {Q : State → Prop} {cc : ByteArray} {pc : Nat} {ls : Array Slot} {D : va_G} {tys : List (ClassId × FieldType)} {w : va_W} {A : Nat → Prop} {post : Option Value → va_W → Prop} {own C host : String} {index maxL d mc ms n nL b : Nat} {y : MethodName} {cy : ByteArray} {ret : Option FieldType} {As rest st0 st1 : List Value} {v : Option Value}
theorem rdV (hM : RD l y cy maxL ret d D tys w (.ref b :: As) v) (cw : CallW R s args own C index y cy maxL ret [Cond.code y cy maxL ret] (rmD d 0 0) 0 0 n) (hx : p.tables.exec = Jvm.exec) (hb : c.code = cc) (hml : c.maxLocals = nL) (hown : s.vm.findClass own = some m.cls) (hrc : ∃ cell : Cell, H[b]? = some cell ∧ cell.vm.isStatics = false ∧ s.vm.findClass C = some cell.cls) (hE : evOK A s H) (hP : va_P D vwCl w H) (hK : va_K D vwCl tys s) (hn : As.length = n) (hsz : ls.size = nL) (hst : st0 = As.reverse ++ .ref b :: rest) (hrm : (rest.map fun v => v.category).sum ≤ 8) (hc : cells ≤ R.cells ∧ slots ≤ R.slots) (hdg : decode cc pc = .ok (.invokevirtual index, 3)) (h1 : v.toList ++ rest = st1) (kk : W p l e R s m args below meth c H locs cells slots Q (F0 m (pc + 3) ls st1)) : W p l e R s m args below meth c H locs cells slots Q (F0 m pc ls st0) :=
  crd2 (va_runV (rest := rest) ⟨hx, hb, hml, hown, fun _ h => absurd h List.not_mem_nil⟩ hM cw (preRV hrc hE hP hK) rfl hn hsz hst (lv_room hrm) hdg hc) (h1 ▸ kk)
theorem rdVN (hM : RD l y cy maxL ret d D tys w (.ref b :: As) v) (cw : va_CN R s args own index y host cy maxL ret [Cond.code y cy maxL ret] (rmD d 0 0) 0 0 n ∧ (Cond.instanceMethod y).before args s = true ∧ (Cond.selects C y y).before args s = true) (hx : p.tables.exec = Jvm.exec) (hb : c.code = cc) (hml : c.maxLocals = nL) (hown : s.vm.findClass own = some m.cls) (hrc : ∃ cell : Cell, H[b]? = some cell ∧ cell.vm.isStatics = false ∧ s.vm.findClass C = some cell.cls) (hE : evOK A s H) (hP : va_P D vwCl w H) (hK : va_K D vwCl tys s) (hn : As.length = n) (hsz : ls.size = nL) (hst : st0 = As.reverse ++ .ref b :: rest) (hrm : (rest.map fun v => v.category).sum ≤ 8) (hc : cells ≤ R.cells ∧ slots ≤ R.slots) (hdg : decode cc pc = .ok (.invokevirtual index, 3)) (h1 : v.toList ++ rest = st1) (kk : W p l e R s m args below meth c H locs cells slots Q (F0 m (pc + 3) ls st1)) : W p l e R s m args below meth c H locs cells slots Q (F0 m pc ls st0) :=
  crd2 (va_runVN (rest := rest) ⟨hx, hb, hml, hown, fun _ h => absurd h List.not_mem_nil⟩ hM cw (preRV hrc hE hP hK) rfl hn hsz hst (lv_room hrm) hdg hc) (h1 ▸ kk)
theorem rdS (hM : RD l y cy maxL ret d D tys w As v) (cw : CallB R s args own index y cy maxL ret [Cond.code y cy maxL ret] (rmD d 0 0) 0 0 n ∧ (Cond.static y).before args s = true) (hx : p.tables.exec = Jvm.exec) (hb : c.code = cc) (hml : c.maxLocals = nL) (hown : s.vm.findClass own = some m.cls) (hE : evOK A s H) (hP : va_P D vwCl w H) (hK : va_K D vwCl tys s) (hn : As.length = n) (hsz : ls.size = nL) (hst : st0 = As.reverse ++ rest) (hrm : (rest.map fun v => v.category).sum ≤ 8) (hc : cells ≤ R.cells ∧ slots ≤ R.slots) (hdg : decode cc pc = .ok (.invokestatic index, 3)) (h1 : v.toList ++ rest = st1) (kk : W p l e R s m args below meth c H locs cells slots Q (F0 m (pc + 3) ls st1)) : W p l e R s m args below meth c H locs cells slots Q (F0 m pc ls st0) :=
  crd2 (va_runS (rest := rest) ⟨hx, hb, hml, hown, fun _ h => absurd h List.not_mem_nil⟩ hM cw (preRS hE hP hK) rfl hn hsz hst (lv_room hrm) hdg hc) (h1 ▸ kk)
theorem rdSN (hM : RD l y cy maxL ret d D tys w As v) (cw : va_CN R s args own index y host cy maxL ret [Cond.code y cy maxL ret] (rmD d 0 0) 0 0 n ∧ (Cond.static y).before args s = true ∧ True) (hx : p.tables.exec = Jvm.exec) (hb : c.code = cc) (hml : c.maxLocals = nL) (hown : s.vm.findClass own = some m.cls) (hE : evOK A s H) (hP : va_P D vwCl w H) (hK : va_K D vwCl tys s) (hn : As.length = n) (hsz : ls.size = nL) (hst : st0 = As.reverse ++ rest) (hrm : (rest.map fun v => v.category).sum ≤ 8) (hc : cells ≤ R.cells ∧ slots ≤ R.slots) (hdg : decode cc pc = .ok (.invokestatic index, 3)) (h1 : v.toList ++ rest = st1) (kk : W p l e R s m args below meth c H locs cells slots Q (F0 m (pc + 3) ls st1)) : W p l e R s m args below meth c H locs cells slots Q (F0 m pc ls st0) :=
  crd2 (va_runSN (rest := rest) ⟨hx, hb, hml, hown, fun _ h => absurd h List.not_mem_nil⟩ hM cw (preRS hE hP hK) rfl hn hsz hst (lv_room hrm) hdg hc) (h1 ▸ kk)
theorem wrV (hM : WR l y cy maxL ret d mc ms D tys w (.ref b :: As) post) (cw : CallW R s args own C index y cy maxL ret [Cond.code y cy maxL ret] (rmD d mc ms) mc ms n) (hx : p.tables.exec = Jvm.exec) (hb : c.code = cc) (hml : c.maxLocals = nL) (hown : s.vm.findClass own = some m.cls) (hrc : ∃ cell : Cell, H[b]? = some cell ∧ cell.vm.isStatics = false ∧ s.vm.findClass C = some cell.cls) (hE : evOK A s H0) (hP : va_P D vwCl w H) (hK : va_K D vwCl tys s) (hD : va_D A w) (hS : va_S A H0 H locs) (hA : ∀ q : Nat, H0.size ≤ q → A q) (hn : As.length = n) (hsz : ls.size = nL) (hst : st0 = As.reverse ++ .ref b :: rest) (hrm : (rest.map fun v => v.category).sum ≤ 8) (hc : cells + mc ≤ R.cells ∧ slots + ms ≤ R.slots) (hdg : decode cc pc = .ok (.invokevirtual index, 3)) (kk : ∀ (v : Option Value) (w' : va_W) (H1 : Heap) (locs1 : List Loc), post v w' → va_P D vwCl w' H1 → va_D A w' → va_S A H0 H1 locs1 → W p l e R s m args below meth c H1 locs1 (cells + mc) (slots + ms) Q (F0 m (pc + 3) ls (v.toList ++ rest))) : W p l e R s m args below meth c H locs cells slots Q (F0 m pc ls st0) :=
  cwr2 (va_runV (rest := rest) ⟨hx, hb, hml, hown, fun _ h => absurd h List.not_mem_nil⟩ (hM H.size) cw ⟨blindW, hrc, preW (As := .ref b :: As) hE hP hK hD hS hA⟩ rfl hn hsz hst (lv_room hrm) hdg hc) hD hS hA kk
theorem wrVN (hM : WR l y cy maxL ret d mc ms D tys w (.ref b :: As) post) (cw : va_CN R s args own index y host cy maxL ret [Cond.code y cy maxL ret] (rmD d mc ms) mc ms n ∧ (Cond.instanceMethod y).before args s = true ∧ (Cond.selects C y y).before args s = true) (hx : p.tables.exec = Jvm.exec) (hb : c.code = cc) (hml : c.maxLocals = nL) (hown : s.vm.findClass own = some m.cls) (hrc : ∃ cell : Cell, H[b]? = some cell ∧ cell.vm.isStatics = false ∧ s.vm.findClass C = some cell.cls) (hE : evOK A s H0) (hP : va_P D vwCl w H) (hK : va_K D vwCl tys s) (hD : va_D A w) (hS : va_S A H0 H locs) (hA : ∀ q : Nat, H0.size ≤ q → A q) (hn : As.length = n) (hsz : ls.size = nL) (hst : st0 = As.reverse ++ .ref b :: rest) (hrm : (rest.map fun v => v.category).sum ≤ 8) (hc : cells + mc ≤ R.cells ∧ slots + ms ≤ R.slots) (hdg : decode cc pc = .ok (.invokevirtual index, 3)) (kk : ∀ (v : Option Value) (w' : va_W) (H1 : Heap) (locs1 : List Loc), post v w' → va_P D vwCl w' H1 → va_D A w' → va_S A H0 H1 locs1 → W p l e R s m args below meth c H1 locs1 (cells + mc) (slots + ms) Q (F0 m (pc + 3) ls (v.toList ++ rest))) : W p l e R s m args below meth c H locs cells slots Q (F0 m pc ls st0) :=
  cwr2 (va_runVN (rest := rest) ⟨hx, hb, hml, hown, fun _ h => absurd h List.not_mem_nil⟩ (hM H.size) cw ⟨blindW, hrc, preW (As := .ref b :: As) hE hP hK hD hS hA⟩ rfl hn hsz hst (lv_room hrm) hdg hc) hD hS hA kk
theorem wrS (hM : WR l y cy maxL ret d mc ms D tys w As post) (cw : CallB R s args own index y cy maxL ret [Cond.code y cy maxL ret] (rmD d mc ms) mc ms n ∧ (Cond.static y).before args s = true) (hx : p.tables.exec = Jvm.exec) (hb : c.code = cc) (hml : c.maxLocals = nL) (hown : s.vm.findClass own = some m.cls) (hE : evOK A s H0) (hP : va_P D vwCl w H) (hK : va_K D vwCl tys s) (hD : va_D A w) (hS : va_S A H0 H locs) (hA : ∀ q : Nat, H0.size ≤ q → A q) (hn : As.length = n) (hsz : ls.size = nL) (hst : st0 = As.reverse ++ rest) (hrm : (rest.map fun v => v.category).sum ≤ 8) (hc : cells + mc ≤ R.cells ∧ slots + ms ≤ R.slots) (hdg : decode cc pc = .ok (.invokestatic index, 3)) (kk : ∀ (v : Option Value) (w' : va_W) (H1 : Heap) (locs1 : List Loc), post v w' → va_P D vwCl w' H1 → va_D A w' → va_S A H0 H1 locs1 → W p l e R s m args below meth c H1 locs1 (cells + mc) (slots + ms) Q (F0 m (pc + 3) ls (v.toList ++ rest))) : W p l e R s m args below meth c H locs cells slots Q (F0 m pc ls st0) :=
  cwr2 (va_runS (rest := rest) ⟨hx, hb, hml, hown, fun _ h => absurd h List.not_mem_nil⟩ (hM H.size) cw ⟨blindW, preW hE hP hK hD hS hA⟩ rfl hn hsz hst (lv_room hrm) hdg hc) hD hS hA kk
theorem wrSN (hM : WR l y cy maxL ret d mc ms D tys w As post) (cw : va_CN R s args own index y host cy maxL ret [Cond.code y cy maxL ret] (rmD d mc ms) mc ms n ∧ (Cond.static y).before args s = true ∧ True) (hx : p.tables.exec = Jvm.exec) (hb : c.code = cc) (hml : c.maxLocals = nL) (hown : s.vm.findClass own = some m.cls) (hE : evOK A s H0) (hP : va_P D vwCl w H) (hK : va_K D vwCl tys s) (hD : va_D A w) (hS : va_S A H0 H locs) (hA : ∀ q : Nat, H0.size ≤ q → A q) (hn : As.length = n) (hsz : ls.size = nL) (hst : st0 = As.reverse ++ rest) (hrm : (rest.map fun v => v.category).sum ≤ 8) (hc : cells + mc ≤ R.cells ∧ slots + ms ≤ R.slots) (hdg : decode cc pc = .ok (.invokestatic index, 3)) (kk : ∀ (v : Option Value) (w' : va_W) (H1 : Heap) (locs1 : List Loc), post v w' → va_P D vwCl w' H1 → va_D A w' → va_S A H0 H1 locs1 → W p l e R s m args below meth c H1 locs1 (cells + mc) (slots + ms) Q (F0 m (pc + 3) ls (v.toList ++ rest))) : W p l e R s m args below meth c H locs cells slots Q (F0 m pc ls st0) :=
  cwr2 (va_runSN (rest := rest) ⟨hx, hb, hml, hown, fun _ h => absurd h List.not_mem_nil⟩ (hM H.size) cw ⟨blindW, preW hE hP hK hD hS hA⟩ rfl hn hsz hst (lv_room hrm) hdg hc) hD hS hA kk
theorem wrI (hM : WR l y cy maxL none d mc ms D tys w (.ref b :: As) post) (cw : CallB R s args own index y cy maxL none [Cond.code y cy maxL none] (rmD d mc ms) mc ms n ∧ y.name = "<init>" ∧ (Cond.instanceMethod y).before args s = true) (hx : p.tables.exec = Jvm.exec) (hb : c.code = cc) (hml : c.maxLocals = nL) (hown : s.vm.findClass own = some m.cls) (hE : evOK A s H0) (hP : va_P D vwCl w H) (hK : va_K D vwCl tys s) (hD : va_D A w) (hS : va_S A H0 H locs) (hA : ∀ q : Nat, H0.size ≤ q → A q) (hn : As.length = n) (hsz : ls.size = nL) (hst : st0 = As.reverse ++ .ref b :: rest) (hrm : (rest.map fun v => v.category).sum ≤ 8) (hc : cells + mc ≤ R.cells ∧ slots + ms ≤ R.slots) (hdg : decode cc pc = .ok (.invokespecial index, 3)) (kk : ∀ (v : Option Value) (w' : va_W) (H1 : Heap) (locs1 : List Loc), post v w' → va_P D vwCl w' H1 → va_D A w' → va_S A H0 H1 locs1 → W p l e R s m args below meth c H1 locs1 (cells + mc) (slots + ms) Q (F0 m (pc + 3) ls (v.toList ++ rest))) : W p l e R s m args below meth c H locs cells slots Q (F0 m pc ls st0) :=
  cwr2 (va_runI (rest := rest) ⟨hx, hb, hml, hown, fun _ h => absurd h List.not_mem_nil⟩ (hM H.size) cw ⟨blindW, preW (As := .ref b :: As) hE hP hK hD hS hA⟩ rfl hn hsz hst (lv_room hrm) hdg hc) hD hS hA kk
theorem wrIN (hM : WR l y cy maxL none d mc ms D tys w (.ref b :: As) post) (cw : va_CN R s args own index y host cy maxL none [Cond.code y cy maxL none] (rmD d mc ms) mc ms n ∧ y.name = "<init>" ∧ (Cond.instanceMethod y).before args s = true) (hx : p.tables.exec = Jvm.exec) (hb : c.code = cc) (hml : c.maxLocals = nL) (hown : s.vm.findClass own = some m.cls) (hE : evOK A s H0) (hP : va_P D vwCl w H) (hK : va_K D vwCl tys s) (hD : va_D A w) (hS : va_S A H0 H locs) (hA : ∀ q : Nat, H0.size ≤ q → A q) (hn : As.length = n) (hsz : ls.size = nL) (hst : st0 = As.reverse ++ .ref b :: rest) (hrm : (rest.map fun v => v.category).sum ≤ 8) (hc : cells + mc ≤ R.cells ∧ slots + ms ≤ R.slots) (hdg : decode cc pc = .ok (.invokespecial index, 3)) (kk : ∀ (v : Option Value) (w' : va_W) (H1 : Heap) (locs1 : List Loc), post v w' → va_P D vwCl w' H1 → va_D A w' → va_S A H0 H1 locs1 → W p l e R s m args below meth c H1 locs1 (cells + mc) (slots + ms) Q (F0 m (pc + 3) ls (v.toList ++ rest))) : W p l e R s m args below meth c H locs cells slots Q (F0 m pc ls st0) :=
  cwr2 (va_runIN (rest := rest) ⟨hx, hb, hml, hown, fun _ h => absurd h List.not_mem_nil⟩ (hM H.size) cw ⟨blindW, preW (As := .ref b :: As) hE hP hK hD hS hA⟩ rfl hn hsz hst (lv_room hrm) hdg hc) hD hS hA kk
end ROWS
theorem si_L_40 {R : Room} {s : State} {args : Array Value} {d mc ms : Nat} (h : tb_OK s) (hR : 20 * d + 1 ≤ R.frames ∧ 8 + (2 + 11) + 400 * d ≤ R.locals) : CallB R s args RL 40 yX3_init cX3_init 2 none [Cond.code yX3_init cX3_init 2 none] (rmD d mc ms) mc ms 1 ∧ yX3_init.name = "<init>" ∧ (Cond.instanceMethod yX3_init).before args s = true := ⟨mkB h (fun U a h => cd_X3_init h) (ini_X3 h) ⟨by decide +kernel, by decide +kernel, by decide +kernel⟩ hR (ml_L_40 h), rfl, im_X3_init h⟩
theorem si_X3_9 {R : Room} {s : State} {args : Array Value} {d mc ms : Nat} (h : tb_OK s) (hR : 20 * d + 1 ≤ R.frames ∧ 8 + (1 + 11) + 400 * d ≤ R.locals) : va_CN R s args RX3 9 yX1_init "RingPieces" cX1_init 1 none [Cond.code yX1_init cX1_init 1 none] (rmD d mc ms) mc ms 0 ∧ yX1_init.name = "<init>" ∧ (Cond.instanceMethod yX1_init).before args s = true := ⟨mkN h (fun U a h => cd_X1_init h) (ini_X1 h) ⟨by decide +kernel, by decide +kernel, by decide +kernel⟩ hR (mn_X3_9 h), rfl, im_X1_init h⟩
theorem si_X3_18 {R : Room} {s : State} {args : Array Value} {d mc ms : Nat} (h : tb_OK s) (hR : 20 * d + 1 ≤ R.frames ∧ 8 + (1 + 11) + 400 * d ≤ R.locals) : va_CN R s args RX3 18 yX0_init "RingPieces" cX0_init 1 none [Cond.code yX0_init cX0_init 1 none] (rmD d mc ms) mc ms 0 ∧ yX0_init.name = "<init>" ∧ (Cond.instanceMethod yX0_init).before args s = true := ⟨mkN h (fun U a h => cd_X0_init h) (ini_X0 h) ⟨by decide +kernel, by decide +kernel, by decide +kernel⟩ hR (mn_X3_18 h), rfl, im_X0_init h⟩
theorem si_X3_34 {R : Room} {s : State} {args : Array Value} {d mc ms : Nat} (h : tb_OK s) (hR : 20 * d + 1 ≤ R.frames ∧ 8 + (2 + 11) + 400 * d ≤ R.locals) : va_CN R s args RX3 34 yX2_init "RingPieces" cX2_init 2 none [Cond.code yX2_init cX2_init 2 none] (rmD d mc ms) mc ms 1 ∧ yX2_init.name = "<init>" ∧ (Cond.instanceMethod yX2_init).before args s = true := ⟨mkN h (fun U a h => cd_X2_init h) (ini_X2 h) ⟨by decide +kernel, by decide +kernel, by decide +kernel⟩ hR (mn_X3_34 h), rfl, im_X2_init h⟩
theorem si_L_46 {R : Room} {s : State} {args : Array Value} {d mc ms : Nat} (h : tb_OK s) (hR : 20 * d + 1 ≤ R.frames ∧ 8 + (3 + 11) + 400 * d ≤ R.locals) : CallW R s args RL RX3 46 yX3_kind cX3_kind 3 (some .int) [Cond.code yX3_kind cX3_kind 3 (some .int)] (rmD d mc ms) mc ms 2 := ⟨mkB h (fun U a h => cd_X3_kind h) (ini_X3 h) ⟨by decide +kernel, by decide +kernel, by decide +kernel⟩ hR (ml_L_46 h), im_X3_kind h, se_X3_kind h⟩
theorem si_X3_54 {R : Room} {s : State} {args : Array Value} {d mc ms : Nat} (h : tb_OK s) (hR : 20 * d + 1 ≤ R.frames ∧ 8 + (3 + 11) + 400 * d ≤ R.locals) : CallB R s args RX3 54 yX3_isWithin cX3_isWithin 3 (some .boolean) [Cond.code yX3_isWithin cX3_isWithin 3 (some .boolean)] (rmD d mc ms) mc ms 3 ∧ (Cond.static yX3_isWithin).before args s = true := ⟨mkB h (fun U a h => cd_X3_isWithin h) (ini_X3 h) ⟨by decide +kernel, by decide +kernel, by decide +kernel⟩ hR (ml_X3_54 h), sm_X3_isWithin h⟩
theorem si_X3_58 {R : Room} {s : State} {args : Array Value} {d mc ms : Nat} (h : tb_OK s) (hR : 20 * d + 1 ≤ R.frames ∧ 8 + (1 + 11) + 400 * d ≤ R.locals) : va_CN R s args RX3 58 yX1_isFull "RingPieces" cX1_isFull 1 (some .boolean) [Cond.code yX1_isFull cX1_isFull 1 (some .boolean)] (rmD d mc ms) mc ms 0 ∧ (Cond.instanceMethod yX1_isFull).before args s = true ∧ (Cond.selects RX1 yX1_isFull yX1_isFull).before args s = true := ⟨mkN h (fun U a h => cd_X1_isFull h) (ini_X1 h) ⟨by decide +kernel, by decide +kernel, by decide +kernel⟩ hR (mn_X3_58 h), im_X1_isFull h, se_X1_isFull h⟩
theorem si_X3_62 {R : Room} {s : State} {args : Array Value} {d mc ms : Nat} (h : tb_OK s) (hR : 20 * d + 1 ≤ R.frames ∧ 8 + (3 + 11) + 400 * d ≤ R.locals) : va_CN R s args RX3 62 yX1_add "RingPieces" cX1_add 3 (some .int) [Cond.code yX1_add cX1_add 3 (some .int)] (rmD d mc ms) mc ms 2 ∧ (Cond.instanceMethod yX1_add).before args s = true ∧ (Cond.selects RX1 yX1_add yX1_add).before args s = true := ⟨mkN h (fun U a h => cd_X1_add h) (ini_X1 h) ⟨by decide +kernel, by decide +kernel, by decide +kernel⟩ hR (mn_X3_62 h), im_X1_add h, se_X1_add h⟩
theorem si_L_50 {R : Room} {s : State} {args : Array Value} {d mc ms : Nat} (h : tb_OK s) (hR : 20 * d + 1 ≤ R.frames ∧ 8 + (3 + 11) + 400 * d ≤ R.locals) : CallW R s args RL RX3 50 yX3_more cX3_more 3 (some .int) [Cond.code yX3_more cX3_more 3 (some .int)] (rmD d mc ms) mc ms 2 := ⟨mkB h (fun U a h => cd_X3_more h) (ini_X3 h) ⟨by decide +kernel, by decide +kernel, by decide +kernel⟩ hR (ml_L_50 h), im_X3_more h, se_X3_more h⟩
theorem si_X3_65 {R : Room} {s : State} {args : Array Value} {d mc ms : Nat} (h : tb_OK s) (hR : 20 * d + 1 ≤ R.frames ∧ 8 + (2 + 11) + 400 * d ≤ R.locals) : va_CN R s args RX3 65 yX1_has "RingPieces" cX1_has 2 (some .boolean) [Cond.code yX1_has cX1_has 2 (some .boolean)] (rmD d mc ms) mc ms 1 ∧ (Cond.instanceMethod yX1_has).before args s = true ∧ (Cond.selects RX1 yX1_has yX1_has).before args s = true := ⟨mkN h (fun U a h => cd_X1_has h) (ini_X1 h) ⟨by decide +kernel, by decide +kernel, by decide +kernel⟩ hR (mn_X3_65 h), im_X1_has h, se_X1_has h⟩
theorem si_X3_69 {R : Room} {s : State} {args : Array Value} {d mc ms : Nat} (h : tb_OK s) (hR : 20 * d + 1 ≤ R.frames ∧ 8 + (3 + 11) + 400 * d ≤ R.locals) : va_CN R s args RX3 69 yX1_enlarge "RingPieces" cX1_enlarge 3 (some .int) [Cond.code yX1_enlarge cX1_enlarge 3 (some .int)] (rmD d mc ms) mc ms 2 ∧ (Cond.instanceMethod yX1_enlarge).before args s = true ∧ (Cond.selects RX1 yX1_enlarge yX1_enlarge).before args s = true := ⟨mkN h (fun U a h => cd_X1_enlarge h) (ini_X1 h) ⟨by decide +kernel, by decide +kernel, by decide +kernel⟩ hR (mn_X3_69 h), im_X1_enlarge h, se_X1_enlarge h⟩
theorem si_L_62 {R : Room} {s : State} {args : Array Value} {d mc ms : Nat} (h : tb_OK s) (hR : 20 * d + 1 ≤ R.frames ∧ 8 + (2 + 11) + 400 * d ≤ R.locals) : CallW R s args RL RX3 62 yX3_apart cX3_apart 2 (some .int) [Cond.code yX3_apart cX3_apart 2 (some .int)] (rmD d mc ms) mc ms 1 := ⟨mkB h (fun U a h => cd_X3_apart h) (ini_X3 h) ⟨by decide +kernel, by decide +kernel, by decide +kernel⟩ hR (ml_L_62 h), im_X3_apart h, se_X3_apart h⟩
theorem si_L_66 {R : Room} {s : State} {args : Array Value} {d mc ms : Nat} (h : tb_OK s) (hR : 20 * d + 1 ≤ R.frames ∧ 8 + (3 + 11) + 400 * d ≤ R.locals) : CallW R s args RL RX3 66 yX3_allow cX3_allow 3 (some .boolean) [Cond.code yX3_allow cX3_allow 3 (some .boolean)] (rmD d mc ms) mc ms 2 := ⟨mkB h (fun U a h => cd_X3_allow h) (ini_X3 h) ⟨by decide +kernel, by decide +kernel, by decide +kernel⟩ hR (ml_L_66 h), im_X3_allow h, se_X3_allow h⟩
theorem si_X3_88 {R : Room} {s : State} {args : Array Value} {d mc ms : Nat} (h : tb_OK s) (hR : 20 * d + 1 ≤ R.frames ∧ 8 + (4 + 11) + 400 * d ≤ R.locals) : va_CN R s args RX3 88 yX0_permit "RingPieces" cX0_permit 4 (some .boolean) [Cond.code yX0_permit cX0_permit 4 (some .boolean)] (rmD d mc ms) mc ms 2 ∧ (Cond.instanceMethod yX0_permit).before args s = true ∧ (Cond.selects RX0 yX0_permit yX0_permit).before args s = true := ⟨mkN h (fun U a h => cd_X0_permit h) (ini_X0 h) ⟨by decide +kernel, by decide +kernel, by decide +kernel⟩ hR (mn_X3_88 h), im_X0_permit h, se_X0_permit h⟩
theorem si_X0_26 {R : Room} {s : State} {args : Array Value} {d mc ms : Nat} (h : tb_OK s) (hR : 20 * d + 1 ≤ R.frames ∧ 8 + (1 + 11) + 400 * d ≤ R.locals) : CallB R s args RX0 26 yX0_isPosition cX0_isPosition 1 (some .boolean) [Cond.code yX0_isPosition cX0_isPosition 1 (some .boolean)] (rmD d mc ms) mc ms 1 ∧ (Cond.static yX0_isPosition).before args s = true := ⟨mkB h (fun U a h => cd_X0_isPosition h) (ini_X0 h) ⟨by decide +kernel, by decide +kernel, by decide +kernel⟩ hR (ml_X0_26 h), sm_X0_isPosition h⟩
theorem si_L_71 {R : Room} {s : State} {args : Array Value} {d mc ms : Nat} (h : tb_OK s) (hR : 20 * d + 1 ≤ R.frames ∧ 8 + (2 + 11) + 400 * d ≤ R.locals) : CallW R s args RL RX3 71 yX3_look cX3_look 2 (some .int) [Cond.code yX3_look cX3_look 2 (some .int)] (rmD d mc ms) mc ms 1 := ⟨mkB h (fun U a h => cd_X3_look h) (ini_X3 h) ⟨by decide +kernel, by decide +kernel, by decide +kernel⟩ hR (ml_L_71 h), im_X3_look h, se_X3_look h⟩
theorem si_L_75 {R : Room} {s : State} {args : Array Value} {d mc ms : Nat} (h : tb_OK s) (hR : 20 * d + 1 ≤ R.frames ∧ 8 + (3 + 11) + 400 * d ≤ R.locals) : CallW R s args RL RX3 75 yX3_run cX3_run 3 (some .int) [Cond.code yX3_run cX3_run 3 (some .int)] (rmD d mc ms) mc ms 0 := ⟨mkB h (fun U a h => cd_X3_run h) (ini_X3 h) ⟨by decide +kernel, by decide +kernel, by decide +kernel⟩ hR (ml_L_75 h), im_X3_run h, se_X3_run h⟩
theorem si_X3_92 {R : Room} {s : State} {args : Array Value} {d mc ms : Nat} (h : tb_OK s) (hR : 20 * d + 1 ≤ R.frames ∧ 8 + (2 + 11) + 400 * d ≤ R.locals) : CallW R s args RX3 RX3 92 yX3_openPlanned cX3_openPlanned 2 none [Cond.code yX3_openPlanned cX3_openPlanned 2 none] (rmD d mc ms) mc ms 0 := ⟨mkB h (fun U a h => cd_X3_openPlanned h) (ini_X3 h) ⟨by decide +kernel, by decide +kernel, by decide +kernel⟩ hR (ml_X3_92 h), im_X3_openPlanned h, se_X3_openPlanned h⟩
theorem si_X3_162 {R : Room} {s : State} {args : Array Value} {d mc ms : Nat} (h : tb_OK s) (hR : 20 * d + 1 ≤ R.frames ∧ 8 + (1 + 11) + 400 * d ≤ R.locals) : va_CN R s args RX3 162 yX2_standing "RingPieces" cX2_standing 1 (some .int) [Cond.code yX2_standing cX2_standing 1 (some .int)] (rmD d mc ms) mc ms 0 ∧ (Cond.instanceMethod yX2_standing).before args s = true ∧ (Cond.selects RX2 yX2_standing yX2_standing).before args s = true := ⟨mkN h (fun U a h => cd_X2_standing h) (ini_X2 h) ⟨by decide +kernel, by decide +kernel, by decide +kernel⟩ hR (mn_X3_162 h), im_X2_standing h, se_X2_standing h⟩
theorem si_X3_119 {R : Room} {s : State} {args : Array Value} {d mc ms : Nat} (h : tb_OK s) (hR : 20 * d + 1 ≤ R.frames ∧ 8 + (2 + 11) + 400 * d ≤ R.locals) : va_CN R s args RX3 119 yX1_giveBack "RingPieces" cX1_giveBack 2 none [Cond.code yX1_giveBack cX1_giveBack 2 none] (rmD d mc ms) mc ms 1 ∧ (Cond.instanceMethod yX1_giveBack).before args s = true ∧ (Cond.selects RX1 yX1_giveBack yX1_giveBack).before args s = true := ⟨mkN h (fun U a h => cd_X1_giveBack h) (ini_X1 h) ⟨by decide +kernel, by decide +kernel, by decide +kernel⟩ hR (mn_X3_119 h), im_X1_giveBack h, se_X1_giveBack h⟩
theorem si_X3_101 {R : Room} {s : State} {args : Array Value} {d mc ms : Nat} (h : tb_OK s) (hR : 20 * d + 1 ≤ R.frames ∧ 8 + (3 + 11) + 400 * d ≤ R.locals) : CallW R s args RX3 RX3 101 yX3_planRing cX3_planRing 3 (some .boolean) [Cond.code yX3_planRing cX3_planRing 3 (some .boolean)] (rmD d mc ms) mc ms 1 := ⟨mkB h (fun U a h => cd_X3_planRing h) (ini_X3 h) ⟨by decide +kernel, by decide +kernel, by decide +kernel⟩ hR (ml_X3_101 h), im_X3_planRing h, se_X3_planRing h⟩
theorem si_X3_194 {R : Room} {s : State} {args : Array Value} {d mc ms : Nat} (h : tb_OK s) (hR : 20 * d + 1 ≤ R.frames ∧ 8 + (12 + 11) + 400 * d ≤ R.locals) : CallW R s args RX3 RX3 194 yX3_leastSum cX3_leastSum 12 (some .long) [Cond.code yX3_leastSum cX3_leastSum 12 (some .long)] (rmD d mc ms) mc ms 2 := ⟨mkB h (fun U a h => cd_X3_leastSum h) (ini_X3 h) ⟨by decide +kernel, by decide +kernel, by decide +kernel⟩ hR (ml_X3_194 h), im_X3_leastSum h, se_X3_leastSum h⟩
theorem si_X3_200 {R : Room} {s : State} {args : Array Value} {d mc ms : Nat} (h : tb_OK s) (hR : 20 * d + 1 ≤ R.frames ∧ 8 + (2 + 11) + 400 * d ≤ R.locals) : va_CN R s args RX3 200 yX2_turnBefore "RingPieces" cX2_turnBefore 2 (some .int) [Cond.code yX2_turnBefore cX2_turnBefore 2 (some .int)] (rmD d mc ms) mc ms 1 ∧ (Cond.instanceMethod yX2_turnBefore).before args s = true ∧ (Cond.selects RX2 yX2_turnBefore yX2_turnBefore).before args s = true := ⟨mkN h (fun U a h => cd_X2_turnBefore h) (ini_X2 h) ⟨by decide +kernel, by decide +kernel, by decide +kernel⟩ hR (mn_X3_200 h), im_X2_turnBefore h, se_X2_turnBefore h⟩
theorem si_X3_116 {R : Room} {s : State} {args : Array Value} {d mc ms : Nat} (h : tb_OK s) (hR : 20 * d + 1 ≤ R.frames ∧ 8 + (2 + 11) + 400 * d ≤ R.locals) : va_CN R s args RX3 116 yX1_unused "RingPieces" cX1_unused 2 (some .int) [Cond.code yX1_unused cX1_unused 2 (some .int)] (rmD d mc ms) mc ms 1 ∧ (Cond.instanceMethod yX1_unused).before args s = true ∧ (Cond.selects RX1 yX1_unused yX1_unused).before args s = true := ⟨mkN h (fun U a h => cd_X1_unused h) (ini_X1 h) ⟨by decide +kernel, by decide +kernel, by decide +kernel⟩ hR (mn_X3_116 h), im_X1_unused h, se_X1_unused h⟩
theorem si_X3_203 {R : Room} {s : State} {args : Array Value} {d mc ms : Nat} (h : tb_OK s) (hR : 20 * d + 1 ≤ R.frames ∧ 8 + (3 + 11) + 400 * d ≤ R.locals) : va_CN R s args RX3 203 yX0_fits "RingPieces" cX0_fits 3 (some .boolean) [Cond.code yX0_fits cX0_fits 3 (some .boolean)] (rmD d mc ms) mc ms 2 ∧ (Cond.instanceMethod yX0_fits).before args s = true ∧ (Cond.selects RX0 yX0_fits yX0_fits).before args s = true := ⟨mkN h (fun U a h => cd_X0_fits h) (ini_X0 h) ⟨by decide +kernel, by decide +kernel, by decide +kernel⟩ hR (mn_X3_203 h), im_X0_fits h, se_X0_fits h⟩
theorem si_X3_207 {R : Room} {s : State} {args : Array Value} {d mc ms : Nat} (h : tb_OK s) (hR : 20 * d + 1 ≤ R.frames ∧ 8 + (11 + 11) + 400 * d ≤ R.locals) : CallW R s args RX3 RX3 207 yX3_sumWith cX3_sumWith 11 (some .long) [Cond.code yX3_sumWith cX3_sumWith 11 (some .long)] (rmD d mc ms) mc ms 5 := ⟨mkB h (fun U a h => cd_X3_sumWith h) (ini_X3 h) ⟨by decide +kernel, by decide +kernel, by decide +kernel⟩ hR (ml_X3_207 h), im_X3_sumWith h, se_X3_sumWith h⟩
theorem si_X3_190 {R : Room} {s : State} {args : Array Value} {d mc ms : Nat} (h : tb_OK s) (hR : 20 * d + 1 ≤ R.frames ∧ 8 + (5 + 11) + 400 * d ≤ R.locals) : va_CN R s args RX3 190 yX2_lay "RingPieces" cX2_lay 5 none [Cond.code yX2_lay cX2_lay 5 none] (rmD d mc ms) mc ms 4 ∧ (Cond.instanceMethod yX2_lay).before args s = true ∧ (Cond.selects RX2 yX2_lay yX2_lay).before args s = true := ⟨mkN h (fun U a h => cd_X2_lay h) (ini_X2 h) ⟨by decide +kernel, by decide +kernel, by decide +kernel⟩ hR (mn_X3_190 h), im_X2_lay h, se_X2_lay h⟩
theorem si_X2_51 {R : Room} {s : State} {args : Array Value} {d mc ms : Nat} (h : tb_OK s) (hR : 20 * d + 1 ≤ R.frames ∧ 8 + (1 + 11) + 400 * d ≤ R.locals) : va_CN R s args RX2 51 yX0_c "RingPieces" cX0_c 1 (some .int) [Cond.code yX0_c cX0_c 1 (some .int)] (rmD d mc ms) mc ms 1 ∧ (Cond.static yX0_c).before args s = true ∧ True := ⟨mkN h (fun U a h => cd_X0_c h) (ini_X0 h) ⟨by decide +kernel, by decide +kernel, by decide +kernel⟩ hR (mn_X2_51 h), sm_X0_c h, trivial⟩
theorem si_X2_57 {R : Room} {s : State} {args : Array Value} {d mc ms : Nat} (h : tb_OK s) (hR : 20 * d + 1 ≤ R.frames ∧ 8 + (1 + 11) + 400 * d ≤ R.locals) : va_CN R s args RX2 57 yX0_s "RingPieces" cX0_s 1 (some .int) [Cond.code yX0_s cX0_s 1 (some .int)] (rmD d mc ms) mc ms 1 ∧ (Cond.static yX0_s).before args s = true ∧ True := ⟨mkN h (fun U a h => cd_X0_s h) (ini_X0 h) ⟨by decide +kernel, by decide +kernel, by decide +kernel⟩ hR (mn_X2_57 h), sm_X0_s h, trivial⟩
theorem si_X3_158 {R : Room} {s : State} {args : Array Value} {d mc ms : Nat} (h : tb_OK s) (hR : 20 * d + 1 ≤ R.frames ∧ 8 + (6 + 11) + 400 * d ≤ R.locals) : va_CN R s args RX3 158 yX2_offAt "RingPieces" cX2_offAt 6 (some .long) [Cond.code yX2_offAt cX2_offAt 6 (some .long)] (rmD d mc ms) mc ms 1 ∧ (Cond.instanceMethod yX2_offAt).before args s = true ∧ (Cond.selects RX2 yX2_offAt yX2_offAt).before args s = true := ⟨mkN h (fun U a h => cd_X2_offAt h) (ini_X2 h) ⟨by decide +kernel, by decide +kernel, by decide +kernel⟩ hR (mn_X3_158 h), im_X2_offAt h, se_X2_offAt h⟩
theorem si_X3_122 {R : Room} {s : State} {args : Array Value} {d mc ms : Nat} (h : tb_OK s) (hR : 20 * d + 1 ≤ R.frames ∧ 8 + (2 + 11) + 400 * d ≤ R.locals) : va_CN R s args RX3 122 yX1_take "RingPieces" cX1_take 2 none [Cond.code yX1_take cX1_take 2 none] (rmD d mc ms) mc ms 1 ∧ (Cond.instanceMethod yX1_take).before args s = true ∧ (Cond.selects RX1 yX1_take yX1_take).before args s = true := ⟨mkN h (fun U a h => cd_X1_take h) (ini_X1 h) ⟨by decide +kernel, by decide +kernel, by decide +kernel⟩ hR (mn_X3_122 h), im_X1_take h, se_X1_take h⟩
theorem si_L_79 {R : Room} {s : State} {args : Array Value} {d mc ms : Nat} (h : tb_OK s) (hR : 20 * d + 1 ≤ R.frames ∧ 8 + (2 + 11) + 400 * d ≤ R.locals) : CallW R s args RL RX3 79 yX3_build cX3_build 2 (some .int) [Cond.code yX3_build cX3_build 2 (some .int)] (rmD d mc ms) mc ms 1 := ⟨mkB h (fun U a h => cd_X3_build h) (ini_X3 h) ⟨by decide +kernel, by decide +kernel, by decide +kernel⟩ hR (ml_L_79 h), im_X3_build h, se_X3_build h⟩
theorem si_L_90 {R : Room} {s : State} {args : Array Value} {d mc ms : Nat} (h : tb_OK s) (hR : 20 * d + 1 ≤ R.frames ∧ 8 + (2 + 11) + 400 * d ≤ R.locals) : CallW R s args RL RX3 90 yX3_kindOf cX3_kindOf 2 (some .int) [Cond.code yX3_kindOf cX3_kindOf 2 (some .int)] (rmD d mc ms) mc ms 1 := ⟨mkB h (fun U a h => cd_X3_kindOf h) (ini_X3 h) ⟨by decide +kernel, by decide +kernel, by decide +kernel⟩ hR (ml_L_90 h), im_X3_kindOf h, se_X3_kindOf h⟩
theorem si_X3_128 {R : Room} {s : State} {args : Array Value} {d mc ms : Nat} (h : tb_OK s) (hR : 20 * d + 1 ≤ R.frames ∧ 8 + (2 + 11) + 400 * d ≤ R.locals) : va_CN R s args RX3 128 yX2_stands "RingPieces" cX2_stands 2 (some .boolean) [Cond.code yX2_stands cX2_stands 2 (some .boolean)] (rmD d mc ms) mc ms 1 ∧ (Cond.instanceMethod yX2_stands).before args s = true ∧ (Cond.selects RX2 yX2_stands yX2_stands).before args s = true := ⟨mkN h (fun U a h => cd_X2_stands h) (ini_X2 h) ⟨by decide +kernel, by decide +kernel, by decide +kernel⟩ hR (mn_X3_128 h), im_X2_stands h, se_X2_stands h⟩
theorem si_X2_47 {R : Room} {s : State} {args : Array Value} {d mc ms : Nat} (h : tb_OK s) (hR : 20 * d + 1 ≤ R.frames ∧ 8 + (1 + 11) + 400 * d ≤ R.locals) : CallW R s args RX2 RX2 47 yX2_standing cX2_standing 1 (some .int) [Cond.code yX2_standing cX2_standing 1 (some .int)] (rmD d mc ms) mc ms 0 := ⟨mkB h (fun U a h => cd_X2_standing h) (ini_X2 h) ⟨by decide +kernel, by decide +kernel, by decide +kernel⟩ hR (ml_X2_47 h), im_X2_standing h, se_X2_standing h⟩
theorem si_L_94 {R : Room} {s : State} {args : Array Value} {d mc ms : Nat} (h : tb_OK s) (hR : 20 * d + 1 ≤ R.frames ∧ 8 + (2 + 11) + 400 * d ≤ R.locals) : CallW R s args RL RX3 94 yX3_turnOf cX3_turnOf 2 (some .int) [Cond.code yX3_turnOf cX3_turnOf 2 (some .int)] (rmD d mc ms) mc ms 1 := ⟨mkB h (fun U a h => cd_X3_turnOf h) (ini_X3 h) ⟨by decide +kernel, by decide +kernel, by decide +kernel⟩ hR (ml_L_94 h), im_X3_turnOf h, se_X3_turnOf h⟩
theorem si_L_98 {R : Room} {s : State} {args : Array Value} {d mc ms : Nat} (h : tb_OK s) (hR : 20 * d + 1 ≤ R.frames ∧ 8 + (2 + 11) + 400 * d ≤ R.locals) : CallW R s args RL RX3 98 yX3_state cX3_state 2 (some .int) [Cond.code yX3_state cX3_state 2 (some .int)] (rmD d mc ms) mc ms 1 := ⟨mkB h (fun U a h => cd_X3_state h) (ini_X3 h) ⟨by decide +kernel, by decide +kernel, by decide +kernel⟩ hR (ml_L_98 h), im_X3_state h, se_X3_state h⟩
theorem si_X3_134 {R : Room} {s : State} {args : Array Value} {d mc ms : Nat} (h : tb_OK s) (hR : 20 * d + 1 ≤ R.frames ∧ 8 + (2 + 11) + 400 * d ≤ R.locals) : va_CN R s args RX3 134 yX2_has "RingPieces" cX2_has 2 (some .boolean) [Cond.code yX2_has cX2_has 2 (some .boolean)] (rmD d mc ms) mc ms 1 ∧ (Cond.instanceMethod yX2_has).before args s = true ∧ (Cond.selects RX2 yX2_has yX2_has).before args s = true := ⟨mkN h (fun U a h => cd_X2_has h) (ini_X2 h) ⟨by decide +kernel, by decide +kernel, by decide +kernel⟩ hR (mn_X3_134 h), im_X2_has h, se_X2_has h⟩
theorem si_X3_77 {R : Room} {s : State} {args : Array Value} {d mc ms : Nat} (h : tb_OK s) (hR : 20 * d + 1 ≤ R.frames ∧ 8 + (2 + 11) + 400 * d ≤ R.locals) : va_CN R s args RX3 77 yX2_stateAt "RingPieces" cX2_stateAt 2 (some .int) [Cond.code yX2_stateAt cX2_stateAt 2 (some .int)] (rmD d mc ms) mc ms 1 ∧ (Cond.instanceMethod yX2_stateAt).before args s = true ∧ (Cond.selects RX2 yX2_stateAt yX2_stateAt).before args s = true := ⟨mkN h (fun U a h => cd_X2_stateAt h) (ini_X2 h) ⟨by decide +kernel, by decide +kernel, by decide +kernel⟩ hR (mn_X3_77 h), im_X2_stateAt h, se_X2_stateAt h⟩
theorem si_L_109 {R : Room} {s : State} {args : Array Value} {d mc ms : Nat} (h : tb_OK s) (hR : 20 * d + 1 ≤ R.frames ∧ 8 + (4 + 11) + 400 * d ≤ R.locals) : CallW R s args RL RX3 109 yX3_sum cX3_sum 4 (some .long) [Cond.code yX3_sum cX3_sum 4 (some .long)] (rmD d mc ms) mc ms 0 := ⟨mkB h (fun U a h => cd_X3_sum h) (ini_X3 h) ⟨by decide +kernel, by decide +kernel, by decide +kernel⟩ hR (ml_L_109 h), im_X3_sum h, se_X3_sum h⟩
theorem si_L_114 {R : Room} {s : State} {args : Array Value} {d mc ms : Nat} (h : tb_OK s) (hR : 20 * d + 1 ≤ R.frames ∧ 8 + (4 + 11) + 400 * d ≤ R.locals) : CallW R s args RL RX3 114 yX3_stroke cX3_stroke 4 (some .int) [Cond.code yX3_stroke cX3_stroke 4 (some .int)] (rmD d mc ms) mc ms 2 := ⟨mkB h (fun U a h => cd_X3_stroke h) (ini_X3 h) ⟨by decide +kernel, by decide +kernel, by decide +kernel⟩ hR (ml_L_114 h), im_X3_stroke h, se_X3_stroke h⟩
theorem si_X3_166 {R : Room} {s : State} {args : Array Value} {d mc ms : Nat} (h : tb_OK s) (hR : 20 * d + 1 ≤ R.frames ∧ 8 + (1 + 11) + 400 * d ≤ R.locals) : va_CN R s args RX3 166 yX0_isPosition "RingPieces" cX0_isPosition 1 (some .boolean) [Cond.code yX0_isPosition cX0_isPosition 1 (some .boolean)] (rmD d mc ms) mc ms 1 ∧ (Cond.static yX0_isPosition).before args s = true ∧ True := ⟨mkN h (fun U a h => cd_X0_isPosition h) (ini_X0 h) ⟨by decide +kernel, by decide +kernel, by decide +kernel⟩ hR (mn_X3_166 h), sm_X0_isPosition h, trivial⟩
theorem si_X3_172 {R : Room} {s : State} {args : Array Value} {d mc ms : Nat} (h : tb_OK s) (hR : 20 * d + 1 ≤ R.frames ∧ 8 + (1 + 11) + 400 * d ≤ R.locals) : va_CN R s args RX3 172 yX0_c "RingPieces" cX0_c 1 (some .int) [Cond.code yX0_c cX0_c 1 (some .int)] (rmD d mc ms) mc ms 1 ∧ (Cond.static yX0_c).before args s = true ∧ True := ⟨mkN h (fun U a h => cd_X0_c h) (ini_X0 h) ⟨by decide +kernel, by decide +kernel, by decide +kernel⟩ hR (mn_X3_172 h), sm_X0_c h, trivial⟩
theorem si_X3_175 {R : Room} {s : State} {args : Array Value} {d mc ms : Nat} (h : tb_OK s) (hR : 20 * d + 1 ≤ R.frames ∧ 8 + (3 + 11) + 400 * d ≤ R.locals) : CallB R s args RX3 175 yJ9_floorDiv_7cf53 cJ9_floorDiv_7cf53 3 (some .int) [Cond.code yJ9_floorDiv_7cf53 cJ9_floorDiv_7cf53 3 (some .int)] (rmD d mc ms) mc ms 2 ∧ (Cond.static yJ9_floorDiv_7cf53).before args s = true := ⟨mkB h (fun U a h => cd_J9_floorDiv_7cf53 h) (ini_J9 h) ⟨by decide +kernel, by decide +kernel, by decide +kernel⟩ hR (ml_X3_175 h), sm_J9_floorDiv_7cf53 h⟩
theorem si_L_118 {R : Room} {s : State} {args : Array Value} {d mc ms : Nat} (h : tb_OK s) (hR : 20 * d + 1 ≤ R.frames ∧ 8 + (2 + 11) + 400 * d ≤ R.locals) : CallW R s args RL RX3 118 yX3_left cX3_left 2 (some .int) [Cond.code yX3_left cX3_left 2 (some .int)] (rmD d mc ms) mc ms 1 := ⟨mkB h (fun U a h => cd_X3_left h) (ini_X3 h) ⟨by decide +kernel, by decide +kernel, by decide +kernel⟩ hR (ml_L_118 h), im_X3_left h, se_X3_left h⟩
theorem si_L_122 {R : Room} {s : State} {args : Array Value} {d mc ms : Nat} (h : tb_OK s) (hR : 20 * d + 1 ≤ R.frames ∧ 8 + (5 + 11) + 400 * d ≤ R.locals) : CallW R s args RL RX3 122 yX3_list cX3_list 5 (some .int) [Cond.code yX3_list cX3_list 5 (some .int)] (rmD d mc ms) mc ms 2 := ⟨mkB h (fun U a h => cd_X3_list h) (ini_X3 h) ⟨by decide +kernel, by decide +kernel, by decide +kernel⟩ hR (ml_L_122 h), im_X3_list h, se_X3_list h⟩
theorem si_L_34 {R : Room} {s : State} {args : Array Value} {d mc ms : Nat} (h : tb_OK s) (hR : 20 * d + 1 ≤ R.frames ∧ 8 + (2 + 11) + 400 * d ≤ R.locals) : CallB R s args RL 34 yL_cell cL_cell 2 (some .int) [Cond.code yL_cell cL_cell 2 (some .int)] (rmD d mc ms) mc ms 2 ∧ (Cond.static yL_cell).before args s = true := ⟨mkB h (fun U a h => cd_L_cell h) (ini_L h) ⟨by decide +kernel, by decide +kernel, by decide +kernel⟩ hR (ml_L_34 h), sm_L_cell h⟩
theorem si_L_7 {R : Room} {s : State} {args : Array Value} {d mc ms : Nat} (h : tb_OK s) (hR : 20 * d + 1 ≤ R.frames ∧ 8 + (4 + 11) + 400 * d ≤ R.locals) : CallW R s args RL RX3 7 yX3_line cX3_line 4 (some .int) [Cond.code yX3_line cX3_line 4 (some .int)] (rmD d mc ms) mc ms 3 := ⟨mkB h (fun U a h => cd_X3_line h) (ini_X3 h) ⟨by decide +kernel, by decide +kernel, by decide +kernel⟩ hR (ml_L_7 h), im_X3_line h, se_X3_line h⟩
theorem si_X3_72 {R : Room} {s : State} {args : Array Value} {d mc ms : Nat} (h : tb_OK s) (hR : 20 * d + 1 ≤ R.frames ∧ 8 + (2 + 11) + 400 * d ≤ R.locals) : CallW R s args RX3 RX3 72 yX3_needRing cX3_needRing 2 none [Cond.code yX3_needRing cX3_needRing 2 none] (rmD d mc ms) mc ms 1 := ⟨mkB h (fun U a h => cd_X3_needRing h) (ini_X3 h) ⟨by decide +kernel, by decide +kernel, by decide +kernel⟩ hR (ml_X3_72 h), im_X3_needRing h, se_X3_needRing h⟩
theorem si_X3_155 {R : Room} {s : State} {args : Array Value} {d mc ms : Nat} (h : tb_OK s) (hR : 20 * d + 1 ≤ R.frames ∧ 8 + (2 + 11) + 400 * d ≤ R.locals) : CallB R s args RX3 155 yJx00060_init_a7421 cJx00060_init_a7421 2 none [Cond.code yJx00060_init_a7421 cJx00060_init_a7421 2 none] (rmD d mc ms) mc ms 1 ∧ yJx00060_init_a7421.name = "<init>" ∧ (Cond.instanceMethod yJx00060_init_a7421).before args s = true := ⟨mkB h (fun U a h => cd_Jx00060_init_a7421 h) (ini_Jx00060 h) ⟨by decide +kernel, by decide +kernel, by decide +kernel⟩ hR (ml_X3_155 h), rfl, im_Jx00060_init_a7421 h⟩
theorem si_X3_81 {R : Room} {s : State} {args : Array Value} {d mc ms : Nat} (h : tb_OK s) (hR : 20 * d + 1 ≤ R.frames ∧ 8 + (4 + 11) + 400 * d ≤ R.locals) : va_CN R s args RX3 81 yX2_setPoint "RingPieces" cX2_setPoint 4 none [Cond.code yX2_setPoint cX2_setPoint 4 none] (rmD d mc ms) mc ms 3 ∧ (Cond.instanceMethod yX2_setPoint).before args s = true ∧ (Cond.selects RX2 yX2_setPoint yX2_setPoint).before args s = true := ⟨mkN h (fun U a h => cd_X2_setPoint h) (ini_X2 h) ⟨by decide +kernel, by decide +kernel, by decide +kernel⟩ hR (mn_X3_81 h), im_X2_setPoint h, se_X2_setPoint h⟩
theorem si_L_15 {R : Room} {s : State} {args : Array Value} {d mc ms : Nat} (h : tb_OK s) (hR : 20 * d + 1 ≤ R.frames ∧ 8 + (4 + 11) + 400 * d ≤ R.locals) : CallW R s args RL RX3 15 yX3_survey cX3_survey 4 (some .int) [Cond.code yX3_survey cX3_survey 4 (some .int)] (rmD d mc ms) mc ms 3 := ⟨mkB h (fun U a h => cd_X3_survey h) (ini_X3 h) ⟨by decide +kernel, by decide +kernel, by decide +kernel⟩ hR (ml_L_15 h), im_X3_survey h, se_X3_survey h⟩
theorem si_X3_109 {R : Room} {s : State} {args : Array Value} {d mc ms : Nat} (h : tb_OK s) (hR : 20 * d + 1 ≤ R.frames ∧ 8 + (5 + 11) + 400 * d ≤ R.locals) : va_CN R s args RX3 109 yX2_shiftBuilt "RingPieces" cX2_shiftBuilt 5 none [Cond.code yX2_shiftBuilt cX2_shiftBuilt 5 none] (rmD d mc ms) mc ms 3 ∧ (Cond.instanceMethod yX2_shiftBuilt).before args s = true ∧ (Cond.selects RX2 yX2_shiftBuilt yX2_shiftBuilt).before args s = true := ⟨mkN h (fun U a h => cd_X2_shiftBuilt h) (ini_X2 h) ⟨by decide +kernel, by decide +kernel, by decide +kernel⟩ hR (mn_X3_109 h), im_X2_shiftBuilt h, se_X2_shiftBuilt h⟩
theorem si_L_18 {R : Room} {s : State} {args : Array Value} {d mc ms : Nat} (h : tb_OK s) (hR : 20 * d + 1 ≤ R.frames ∧ 8 + (3 + 11) + 400 * d ≤ R.locals) : CallW R s args RL RX3 18 yX3_replace cX3_replace 3 (some .int) [Cond.code yX3_replace cX3_replace 3 (some .int)] (rmD d mc ms) mc ms 2 := ⟨mkB h (fun U a h => cd_X3_replace h) (ini_X3 h) ⟨by decide +kernel, by decide +kernel, by decide +kernel⟩ hR (ml_L_18 h), im_X3_replace h, se_X3_replace h⟩
theorem si_X3_125 {R : Room} {s : State} {args : Array Value} {d mc ms : Nat} (h : tb_OK s) (hR : 20 * d + 1 ≤ R.frames ∧ 8 + (4 + 11) + 400 * d ≤ R.locals) : CallW R s args RX3 RX3 125 yX3_layAgainFrom cX3_layAgainFrom 4 none [Cond.code yX3_layAgainFrom cX3_layAgainFrom 4 none] (rmD d mc ms) mc ms 1 := ⟨mkB h (fun U a h => cd_X3_layAgainFrom h) (ini_X3 h) ⟨by decide +kernel, by decide +kernel, by decide +kernel⟩ hR (ml_X3_125 h), im_X3_layAgainFrom h, se_X3_layAgainFrom h⟩
theorem si_L_22 {R : Room} {s : State} {args : Array Value} {d mc ms : Nat} (h : tb_OK s) (hR : 20 * d + 1 ≤ R.frames ∧ 8 + (3 + 11) + 400 * d ≤ R.locals) : CallW R s args RL RX3 22 yX3_place cX3_place 3 (some .long) [Cond.code yX3_place cX3_place 3 (some .long)] (rmD d mc ms) mc ms 2 := ⟨mkB h (fun U a h => cd_X3_place h) (ini_X3 h) ⟨by decide +kernel, by decide +kernel, by decide +kernel⟩ hR (ml_L_22 h), im_X3_place h, se_X3_place h⟩
theorem si_X3_135 {R : Room} {s : State} {args : Array Value} {d mc ms : Nat} (h : tb_OK s) (hR : 20 * d + 1 ≤ R.frames ∧ 8 + (2 + 11) + 400 * d ≤ R.locals) : CallW R s args RX3 RX3 135 yX3_needStanding cX3_needStanding 2 none [Cond.code yX3_needStanding cX3_needStanding 2 none] (rmD d mc ms) mc ms 1 := ⟨mkB h (fun U a h => cd_X3_needStanding h) (ini_X3 h) ⟨by decide +kernel, by decide +kernel, by decide +kernel⟩ hR (ml_X3_135 h), im_X3_needStanding h, se_X3_needStanding h⟩
theorem si_L_26 {R : Room} {s : State} {args : Array Value} {d mc ms : Nat} (h : tb_OK s) (hR : 20 * d + 1 ≤ R.frames ∧ 8 + (2 + 11) + 400 * d ≤ R.locals) : CallW R s args RL RX3 26 yX3_off cX3_off 2 (some .long) [Cond.code yX3_off cX3_off 2 (some .long)] (rmD d mc ms) mc ms 1 := ⟨mkB h (fun U a h => cd_X3_off h) (ini_X3 h) ⟨by decide +kernel, by decide +kernel, by decide +kernel⟩ hR (ml_L_26 h), im_X3_off h, se_X3_off h⟩
theorem si_L_30 {R : Room} {s : State} {args : Array Value} {d mc ms : Nat} (h : tb_OK s) (hR : 20 * d + 1 ≤ R.frames ∧ 8 + (2 + 11) + 400 * d ≤ R.locals) : CallW R s args RL RX3 30 yX3_count cX3_count 2 (some .int) [Cond.code yX3_count cX3_count 2 (some .int)] (rmD d mc ms) mc ms 1 := ⟨mkB h (fun U a h => cd_X3_count h) (ini_X3 h) ⟨by decide +kernel, by decide +kernel, by decide +kernel⟩ hR (ml_L_30 h), im_X3_count h, se_X3_count h⟩
theorem si_L_45 {R : Room} {s : State} {args : Array Value} {d mc ms : Nat} (h : tb_OK s) (hR : 20 * d + 1 ≤ R.frames ∧ 8 + (3 + 11) + 400 * d ≤ R.locals) : CallB R s args RL 45 yX4_init cX4_init 3 none [Cond.code yX4_init cX4_init 3 none] (rmD d mc ms) mc ms 1 ∧ yX4_init.name = "<init>" ∧ (Cond.instanceMethod yX4_init).before args s = true := ⟨mkB h (fun U a h => cd_X4_init h) (ini_X4 h) ⟨by decide +kernel, by decide +kernel, by decide +kernel⟩ hR (ml_L_45 h), rfl, im_X4_init h⟩
theorem si_L_58 {R : Room} {s : State} {args : Array Value} {d mc ms : Nat} (h : tb_OK s) (hR : 20 * d + 1 ≤ R.frames ∧ 8 + (1 + 11) + 400 * d ≤ R.locals) : CallW R s args RL RX4 58 yX4_thrown cX4_thrown 1 (some .int) [Cond.code yX4_thrown cX4_thrown 1 (some .int)] (rmD d mc ms) mc ms 0 := ⟨mkB h (fun U a h => cd_X4_thrown h) (ini_X4 h) ⟨by decide +kernel, by decide +kernel, by decide +kernel⟩ hR (ml_L_58 h), im_X4_thrown h, se_X4_thrown h⟩
theorem si_L_49 {R : Room} {s : State} {args : Array Value} {d mc ms : Nat} (h : tb_OK s) (hR : 20 * d + 1 ≤ R.frames ∧ 8 + (3 + 11) + 400 * d ≤ R.locals) : CallW R s args RL RX4 49 yX4_kind cX4_kind 3 (some .int) [Cond.code yX4_kind cX4_kind 3 (some .int)] (rmD d mc ms) mc ms 2 := ⟨mkB h (fun U a h => cd_X4_kind h) (ini_X4 h) ⟨by decide +kernel, by decide +kernel, by decide +kernel⟩ hR (ml_L_49 h), im_X4_kind h, se_X4_kind h⟩
theorem si_X4_69 {R : Room} {s : State} {args : Array Value} {d mc ms : Nat} (h : tb_OK s) (hR : 20 * d + 1 ≤ R.frames ∧ 8 + (6 + 11) + 400 * d ≤ R.locals) : CallB R s args RX4 69 yX4_in cX4_in 6 (some .boolean) [Cond.code yX4_in cX4_in 6 (some .boolean)] (rmD d mc ms) mc ms 3 ∧ (Cond.static yX4_in).before args s = true := ⟨mkB h (fun U a h => cd_X4_in h) (ini_X4 h) ⟨by decide +kernel, by decide +kernel, by decide +kernel⟩ hR (ml_X4_69 h), sm_X4_in h⟩
theorem si_L_53 {R : Room} {s : State} {args : Array Value} {d mc ms : Nat} (h : tb_OK s) (hR : 20 * d + 1 ≤ R.frames ∧ 8 + (3 + 11) + 400 * d ≤ R.locals) : CallW R s args RL RX4 53 yX4_more cX4_more 3 (some .int) [Cond.code yX4_more cX4_more 3 (some .int)] (rmD d mc ms) mc ms 2 := ⟨mkB h (fun U a h => cd_X4_more h) (ini_X4 h) ⟨by decide +kernel, by decide +kernel, by decide +kernel⟩ hR (ml_L_53 h), im_X4_more h, se_X4_more h⟩
theorem si_X4_75 {R : Room} {s : State} {args : Array Value} {d mc ms : Nat} (h : tb_OK s) (hR : 20 * d + 1 ≤ R.frames ∧ 8 + (2 + 11) + 400 * d ≤ R.locals) : CallW R s args RX4 RX4 75 yX4_isKind cX4_isKind 2 (some .boolean) [Cond.code yX4_isKind cX4_isKind 2 (some .boolean)] (rmD d mc ms) mc ms 1 := ⟨mkB h (fun U a h => cd_X4_isKind h) (ini_X4 h) ⟨by decide +kernel, by decide +kernel, by decide +kernel⟩ hR (ml_X4_75 h), im_X4_isKind h, se_X4_isKind h⟩
theorem si_L_57 {R : Room} {s : State} {args : Array Value} {d mc ms : Nat} (h : tb_OK s) (hR : 20 * d + 1 ≤ R.frames ∧ 8 + (4 + 11) + 400 * d ≤ R.locals) : CallW R s args RL RX4 57 yX4_line cX4_line 4 (some .int) [Cond.code yX4_line cX4_line 4 (some .int)] (rmD d mc ms) mc ms 3 := ⟨mkB h (fun U a h => cd_X4_line h) (ini_X4 h) ⟨by decide +kernel, by decide +kernel, by decide +kernel⟩ hR (ml_L_57 h), im_X4_line h, se_X4_line h⟩
theorem si_X4_79 {R : Room} {s : State} {args : Array Value} {d mc ms : Nat} (h : tb_OK s) (hR : 20 * d + 1 ≤ R.frames ∧ 8 + (2 + 11) + 400 * d ≤ R.locals) : CallW R s args RX4 RX4 79 yX4_isRing cX4_isRing 2 (some .boolean) [Cond.code yX4_isRing cX4_isRing 2 (some .boolean)] (rmD d mc ms) mc ms 1 := ⟨mkB h (fun U a h => cd_X4_isRing h) (ini_X4 h) ⟨by decide +kernel, by decide +kernel, by decide +kernel⟩ hR (ml_X4_79 h), im_X4_isRing h, se_X4_isRing h⟩
theorem si_L_65 {R : Room} {s : State} {args : Array Value} {d mc ms : Nat} (h : tb_OK s) (hR : 20 * d + 1 ≤ R.frames ∧ 8 + (2 + 11) + 400 * d ≤ R.locals) : CallW R s args RL RX4 65 yX4_apart cX4_apart 2 (some .int) [Cond.code yX4_apart cX4_apart 2 (some .int)] (rmD d mc ms) mc ms 1 := ⟨mkB h (fun U a h => cd_X4_apart h) (ini_X4 h) ⟨by decide +kernel, by decide +kernel, by decide +kernel⟩ hR (ml_L_65 h), im_X4_apart h, se_X4_apart h⟩
theorem si_L_70 {R : Room} {s : State} {args : Array Value} {d mc ms : Nat} (h : tb_OK s) (hR : 20 * d + 1 ≤ R.frames ∧ 8 + (3 + 11) + 400 * d ≤ R.locals) : CallW R s args RL RX4 70 yX4_allow cX4_allow 3 (some .boolean) [Cond.code yX4_allow cX4_allow 3 (some .boolean)] (rmD d mc ms) mc ms 2 := ⟨mkB h (fun U a h => cd_X4_allow h) (ini_X4 h) ⟨by decide +kernel, by decide +kernel, by decide +kernel⟩ hR (ml_L_70 h), im_X4_allow h, se_X4_allow h⟩
theorem si_L_74 {R : Room} {s : State} {args : Array Value} {d mc ms : Nat} (h : tb_OK s) (hR : 20 * d + 1 ≤ R.frames ∧ 8 + (2 + 11) + 400 * d ≤ R.locals) : CallW R s args RL RX4 74 yX4_look cX4_look 2 (some .int) [Cond.code yX4_look cX4_look 2 (some .int)] (rmD d mc ms) mc ms 1 := ⟨mkB h (fun U a h => cd_X4_look h) (ini_X4 h) ⟨by decide +kernel, by decide +kernel, by decide +kernel⟩ hR (ml_L_74 h), im_X4_look h, se_X4_look h⟩
theorem si_L_78 {R : Room} {s : State} {args : Array Value} {d mc ms : Nat} (h : tb_OK s) (hR : 20 * d + 1 ≤ R.frames ∧ 8 + (2 + 11) + 400 * d ≤ R.locals) : CallW R s args RL RX4 78 yX4_run cX4_run 2 (some .int) [Cond.code yX4_run cX4_run 2 (some .int)] (rmD d mc ms) mc ms 0 := ⟨mkB h (fun U a h => cd_X4_run h) (ini_X4 h) ⟨by decide +kernel, by decide +kernel, by decide +kernel⟩ hR (ml_L_78 h), im_X4_run h, se_X4_run h⟩
theorem si_X4_134 {R : Room} {s : State} {args : Array Value} {d mc ms : Nat} (h : tb_OK s) (hR : 20 * d + 1 ≤ R.frames ∧ 8 + (6 + 11) + 400 * d ≤ R.locals) : CallW R s args RX4 RX4 134 yX4_planOne cX4_planOne 6 (some .boolean) [Cond.code yX4_planOne cX4_planOne 6 (some .boolean)] (rmD d mc ms) mc ms 0 := ⟨mkB h (fun U a h => cd_X4_planOne h) (ini_X4 h) ⟨by decide +kernel, by decide +kernel, by decide +kernel⟩ hR (ml_X4_134 h), im_X4_planOne h, se_X4_planOne h⟩
theorem si_X4_112 {R : Room} {s : State} {args : Array Value} {d mc ms : Nat} (h : tb_OK s) (hR : 20 * d + 1 ≤ R.frames ∧ 8 + (7 + 11) + 400 * d ≤ R.locals) : CallW R s args RX4 RX4 112 yX4_mayStand cX4_mayStand 7 (some .boolean) [Cond.code yX4_mayStand cX4_mayStand 7 (some .boolean)] (rmD d mc ms) mc ms 4 := ⟨mkB h (fun U a h => cd_X4_mayStand h) (ini_X4 h) ⟨by decide +kernel, by decide +kernel, by decide +kernel⟩ hR (ml_X4_112 h), im_X4_mayStand h, se_X4_mayStand h⟩
theorem si_X4_96 {R : Room} {s : State} {args : Array Value} {d mc ms : Nat} (h : tb_OK s) (hR : 20 * d + 1 ≤ R.frames ∧ 8 + (4 + 11) + 400 * d ≤ R.locals) : CallW R s args RX4 RX4 96 yX4_usedOf cX4_usedOf 4 (some .int) [Cond.code yX4_usedOf cX4_usedOf 4 (some .int)] (rmD d mc ms) mc ms 1 := ⟨mkB h (fun U a h => cd_X4_usedOf h) (ini_X4 h) ⟨by decide +kernel, by decide +kernel, by decide +kernel⟩ hR (ml_X4_96 h), im_X4_usedOf h, se_X4_usedOf h⟩
theorem si_X4_116 {R : Room} {s : State} {args : Array Value} {d mc ms : Nat} (h : tb_OK s) (hR : 20 * d + 1 ≤ R.frames ∧ 8 + (8 + 11) + 400 * d ≤ R.locals) : CallW R s args RX4 RX4 116 yX4_set cX4_set 8 none [Cond.code yX4_set cX4_set 8 none] (rmD d mc ms) mc ms 3 := ⟨mkB h (fun U a h => cd_X4_set h) (ini_X4 h) ⟨by decide +kernel, by decide +kernel, by decide +kernel⟩ hR (ml_X4_116 h), im_X4_set h, se_X4_set h⟩
theorem si_X4_92 {R : Room} {s : State} {args : Array Value} {d mc ms : Nat} (h : tb_OK s) (hR : 20 * d + 1 ≤ R.frames ∧ 8 + (3 + 11) + 400 * d ≤ R.locals) : CallB R s args RX4 92 yX4_c cX4_c 3 (some .int) [Cond.code yX4_c cX4_c 3 (some .int)] (rmD d mc ms) mc ms 1 ∧ (Cond.static yX4_c).before args s = true := ⟨mkB h (fun U a h => cd_X4_c h) (ini_X4 h) ⟨by decide +kernel, by decide +kernel, by decide +kernel⟩ hR (ml_X4_92 h), sm_X4_c h⟩
theorem si_X4_120 {R : Room} {s : State} {args : Array Value} {d mc ms : Nat} (h : tb_OK s) (hR : 20 * d + 1 ≤ R.frames ∧ 8 + (6 + 11) + 400 * d ≤ R.locals) : CallW R s args RX4 RX4 120 yX4_offOf cX4_offOf 6 (some .long) [Cond.code yX4_offOf cX4_offOf 6 (some .long)] (rmD d mc ms) mc ms 1 := ⟨mkB h (fun U a h => cd_X4_offOf h) (ini_X4 h) ⟨by decide +kernel, by decide +kernel, by decide +kernel⟩ hR (ml_X4_120 h), im_X4_offOf h, se_X4_offOf h⟩
theorem si_X4_124 {R : Room} {s : State} {args : Array Value} {d mc ms : Nat} (h : tb_OK s) (hR : 20 * d + 1 ≤ R.frames ∧ 8 + (6 + 11) + 400 * d ≤ R.locals) : CallW R s args RX4 RX4 124 yX4_note cX4_note 6 none [Cond.code yX4_note cX4_note 6 none] (rmD d mc ms) mc ms 4 := ⟨mkB h (fun U a h => cd_X4_note h) (ini_X4 h) ⟨by decide +kernel, by decide +kernel, by decide +kernel⟩ hR (ml_X4_124 h), im_X4_note h, se_X4_note h⟩
theorem si_X4_128 {R : Room} {s : State} {args : Array Value} {d mc ms : Nat} (h : tb_OK s) (hR : 20 * d + 1 ≤ R.frames ∧ 8 + (8 + 11) + 400 * d ≤ R.locals) : CallW R s args RX4 RX4 128 yX4_trySecond cX4_trySecond 8 none [Cond.code yX4_trySecond cX4_trySecond 8 none] (rmD d mc ms) mc ms 4 := ⟨mkB h (fun U a h => cd_X4_trySecond h) (ini_X4 h) ⟨by decide +kernel, by decide +kernel, by decide +kernel⟩ hR (ml_X4_128 h), im_X4_trySecond h, se_X4_trySecond h⟩
theorem si_L_82 {R : Room} {s : State} {args : Array Value} {d mc ms : Nat} (h : tb_OK s) (hR : 20 * d + 1 ≤ R.frames ∧ 8 + (2 + 11) + 400 * d ≤ R.locals) : CallW R s args RL RX4 82 yX4_build cX4_build 2 (some .int) [Cond.code yX4_build cX4_build 2 (some .int)] (rmD d mc ms) mc ms 1 := ⟨mkB h (fun U a h => cd_X4_build h) (ini_X4 h) ⟨by decide +kernel, by decide +kernel, by decide +kernel⟩ hR (ml_L_82 h), im_X4_build h, se_X4_build h⟩
theorem si_L_85 {R : Room} {s : State} {args : Array Value} {d mc ms : Nat} (h : tb_OK s) (hR : 20 * d + 1 ≤ R.frames ∧ 8 + (5 + 11) + 400 * d ≤ R.locals) : CallW R s args RL RX4 85 yX4_survey cX4_survey 5 (some .int) [Cond.code yX4_survey cX4_survey 5 (some .int)] (rmD d mc ms) mc ms 3 := ⟨mkB h (fun U a h => cd_X4_survey h) (ini_X4 h) ⟨by decide +kernel, by decide +kernel, by decide +kernel⟩ hR (ml_L_85 h), im_X4_survey h, se_X4_survey h⟩
theorem si_L_89 {R : Room} {s : State} {args : Array Value} {d mc ms : Nat} (h : tb_OK s) (hR : 20 * d + 1 ≤ R.frames ∧ 8 + (4 + 11) + 400 * d ≤ R.locals) : CallW R s args RL RX4 89 yX4_replace cX4_replace 4 (some .int) [Cond.code yX4_replace cX4_replace 4 (some .int)] (rmD d mc ms) mc ms 2 := ⟨mkB h (fun U a h => cd_X4_replace h) (ini_X4 h) ⟨by decide +kernel, by decide +kernel, by decide +kernel⟩ hR (ml_L_89 h), im_X4_replace h, se_X4_replace h⟩
theorem si_L_93 {R : Room} {s : State} {args : Array Value} {d mc ms : Nat} (h : tb_OK s) (hR : 20 * d + 1 ≤ R.frames ∧ 8 + (2 + 11) + 400 * d ≤ R.locals) : CallW R s args RL RX4 93 yX4_kindOf cX4_kindOf 2 (some .int) [Cond.code yX4_kindOf cX4_kindOf 2 (some .int)] (rmD d mc ms) mc ms 1 := ⟨mkB h (fun U a h => cd_X4_kindOf h) (ini_X4 h) ⟨by decide +kernel, by decide +kernel, by decide +kernel⟩ hR (ml_L_93 h), im_X4_kindOf h, se_X4_kindOf h⟩
theorem si_X4_142 {R : Room} {s : State} {args : Array Value} {d mc ms : Nat} (h : tb_OK s) (hR : 20 * d + 1 ≤ R.frames ∧ 8 + (2 + 11) + 400 * d ≤ R.locals) : CallW R s args RX4 RX4 142 yX4_isThere cX4_isThere 2 (some .boolean) [Cond.code yX4_isThere cX4_isThere 2 (some .boolean)] (rmD d mc ms) mc ms 1 := ⟨mkB h (fun U a h => cd_X4_isThere h) (ini_X4 h) ⟨by decide +kernel, by decide +kernel, by decide +kernel⟩ hR (ml_X4_142 h), im_X4_isThere h, se_X4_isThere h⟩
theorem si_L_97 {R : Room} {s : State} {args : Array Value} {d mc ms : Nat} (h : tb_OK s) (hR : 20 * d + 1 ≤ R.frames ∧ 8 + (2 + 11) + 400 * d ≤ R.locals) : CallW R s args RL RX4 97 yX4_turnOf cX4_turnOf 2 (some .int) [Cond.code yX4_turnOf cX4_turnOf 2 (some .int)] (rmD d mc ms) mc ms 1 := ⟨mkB h (fun U a h => cd_X4_turnOf h) (ini_X4 h) ⟨by decide +kernel, by decide +kernel, by decide +kernel⟩ hR (ml_L_97 h), im_X4_turnOf h, se_X4_turnOf h⟩
theorem si_L_101 {R : Room} {s : State} {args : Array Value} {d mc ms : Nat} (h : tb_OK s) (hR : 20 * d + 1 ≤ R.frames ∧ 8 + (2 + 11) + 400 * d ≤ R.locals) : CallW R s args RL RX4 101 yX4_state cX4_state 2 (some .int) [Cond.code yX4_state cX4_state 2 (some .int)] (rmD d mc ms) mc ms 1 := ⟨mkB h (fun U a h => cd_X4_state h) (ini_X4 h) ⟨by decide +kernel, by decide +kernel, by decide +kernel⟩ hR (ml_L_101 h), im_X4_state h, se_X4_state h⟩
theorem si_L_104 {R : Room} {s : State} {args : Array Value} {d mc ms : Nat} (h : tb_OK s) (hR : 20 * d + 1 ≤ R.frames ∧ 8 + (3 + 11) + 400 * d ≤ R.locals) : CallW R s args RL RX4 104 yX4_place cX4_place 3 (some .long) [Cond.code yX4_place cX4_place 3 (some .long)] (rmD d mc ms) mc ms 2 := ⟨mkB h (fun U a h => cd_X4_place h) (ini_X4 h) ⟨by decide +kernel, by decide +kernel, by decide +kernel⟩ hR (ml_L_104 h), im_X4_place h, se_X4_place h⟩
theorem si_L_108 {R : Room} {s : State} {args : Array Value} {d mc ms : Nat} (h : tb_OK s) (hR : 20 * d + 1 ≤ R.frames ∧ 8 + (2 + 11) + 400 * d ≤ R.locals) : CallW R s args RL RX4 108 yX4_off cX4_off 2 (some .long) [Cond.code yX4_off cX4_off 2 (some .long)] (rmD d mc ms) mc ms 1 := ⟨mkB h (fun U a h => cd_X4_off h) (ini_X4 h) ⟨by decide +kernel, by decide +kernel, by decide +kernel⟩ hR (ml_L_108 h), im_X4_off h, se_X4_off h⟩
theorem si_L_113 {R : Room} {s : State} {args : Array Value} {d mc ms : Nat} (h : tb_OK s) (hR : 20 * d + 1 ≤ R.frames ∧ 8 + (4 + 11) + 400 * d ≤ R.locals) : CallW R s args RL RX4 113 yX4_sum cX4_sum 4 (some .long) [Cond.code yX4_sum cX4_sum 4 (some .long)] (rmD d mc ms) mc ms 0 := ⟨mkB h (fun U a h => cd_X4_sum h) (ini_X4 h) ⟨by decide +kernel, by decide +kernel, by decide +kernel⟩ hR (ml_L_113 h), im_X4_sum h, se_X4_sum h⟩
theorem si_L_117 {R : Room} {s : State} {args : Array Value} {d mc ms : Nat} (h : tb_OK s) (hR : 20 * d + 1 ≤ R.frames ∧ 8 + (5 + 11) + 400 * d ≤ R.locals) : CallW R s args RL RX4 117 yX4_stroke cX4_stroke 5 (some .int) [Cond.code yX4_stroke cX4_stroke 5 (some .int)] (rmD d mc ms) mc ms 2 := ⟨mkB h (fun U a h => cd_X4_stroke h) (ini_X4 h) ⟨by decide +kernel, by decide +kernel, by decide +kernel⟩ hR (ml_L_117 h), im_X4_stroke h, se_X4_stroke h⟩
theorem si_L_121 {R : Room} {s : State} {args : Array Value} {d mc ms : Nat} (h : tb_OK s) (hR : 20 * d + 1 ≤ R.frames ∧ 8 + (2 + 11) + 400 * d ≤ R.locals) : CallW R s args RL RX4 121 yX4_left cX4_left 2 (some .int) [Cond.code yX4_left cX4_left 2 (some .int)] (rmD d mc ms) mc ms 1 := ⟨mkB h (fun U a h => cd_X4_left h) (ini_X4 h) ⟨by decide +kernel, by decide +kernel, by decide +kernel⟩ hR (ml_L_121 h), im_X4_left h, se_X4_left h⟩
theorem si_L_125 {R : Room} {s : State} {args : Array Value} {d mc ms : Nat} (h : tb_OK s) (hR : 20 * d + 1 ≤ R.frames ∧ 8 + (5 + 11) + 400 * d ≤ R.locals) : CallW R s args RL RX4 125 yX4_list cX4_list 5 (some .int) [Cond.code yX4_list cX4_list 5 (some .int)] (rmD d mc ms) mc ms 2 := ⟨mkB h (fun U a h => cd_X4_list h) (ini_X4 h) ⟨by decide +kernel, by decide +kernel, by decide +kernel⟩ hR (ml_L_125 h), im_X4_list h, se_X4_list h⟩
theorem si_L_128 {R : Room} {s : State} {args : Array Value} {d mc ms : Nat} (h : tb_OK s) (hR : 20 * d + 1 ≤ R.frames ∧ 8 + (4 + 11) + 400 * d ≤ R.locals) : CallW R s args RL RX4 128 yX4_count cX4_count 4 (some .int) [Cond.code yX4_count cX4_count 4 (some .int)] (rmD d mc ms) mc ms 1 := ⟨mkB h (fun U a h => cd_X4_count h) (ini_X4 h) ⟨by decide +kernel, by decide +kernel, by decide +kernel⟩ hR (ml_L_128 h), im_X4_count h, se_X4_count h⟩
end
section
/-! THE TWO WORLDS: the class's cells (wI), the reference's (wM) -/
abbrev tysW (cI cJ cZ : ClassId) : List (ClassId × FieldType) := [(cI, .int), (cJ, .long), (cZ, .boolean)]
abbrev wI (cI cJ cZ : ClassId) (a : Nat → Nat) (n : Nat) (ah pl ck ct nk pm ja rg bu pn : Int32) (tp st us fb kA tA : Nat → Int32) (lx ly gx gy gu gv : Nat → Int64) : va_W :=
  [(a 0, .inr (4, [.ref (a 1), .ref (a 5), .ref (a 7), .int ah, .int pl, .int ck, .int ct])),
   (a 1, .inr (2, [.ref (a 2), .ref (a 3), .ref (a 4), .int nk])),
   (a 2, .inl (cI, 4, .inl tp)), (a 3, .inl (cI, 4, .inl st)), (a 4, .inl (cI, 4, .inl us)),
   (a 5, .inr (1, [.ref (a 6), .int pm, .int ja])),
   (a 6, .inl (cZ, 16, .inl fb)),
   (a 7, .inr (3, [.int rg, .int bu, .int pn, .ref (a 8), .ref (a 9), .ref (a 10), .ref (a 11), .ref (a 12), .ref (a 13), .ref (a 14), .ref (a 15)])),
   (a 8, .inl (cI, n, .inl kA)), (a 9, .inl (cI, n, .inl tA)), (a 10, .inl (cJ, n, .inr (.inl lx))), (a 11, .inl (cJ, n, .inr (.inl ly))),
   (a 12, .inl (cJ, n + 1, .inr (.inl gx))), (a 13, .inl (cJ, n + 1, .inr (.inl gy))), (a 14, .inl (cJ, n + 1, .inr (.inl gu))), (a 15, .inl (cJ, n + 1, .inr (.inl gv)))]
abbrev wM (cI cJ cZ : ClassId) (a : Nat → Nat) (fa rg bu pn pl ja lk nk bl : Int32) (bs : Int64) (bk be : Int32) (al tp st mx my kd ky : Nat → Int32) (gx gy gu gv : Nat → Int64) : va_W :=
  [(a 0, .inr (5, [.int fa, .int rg, .int bu, .int pn, .int pl, .int ja, .int lk, .ref (a 1), .int nk, .ref (a 2), .ref (a 3), .ref (a 4), .ref (a 5), .ref (a 6), .ref (a 7), .ref (a 8), .ref (a 9), .ref (a 10), .ref (a 11), .int bl, .long bs, .int bk, .int be])),
   (a 1, .inl (cZ, 16, .inl al)), (a 2, .inl (cI, 4, .inl tp)), (a 3, .inl (cI, 4, .inl st)), (a 4, .inl (cI, 24, .inl mx)), (a 5, .inl (cI, 24, .inl my)), (a 6, .inl (cI, 24, .inl kd)), (a 7, .inl (cI, 24, .inl ky)),
   (a 8, .inl (cJ, 24, .inr (.inl gx))), (a 9, .inl (cJ, 24, .inr (.inl gy))), (a 10, .inl (cJ, 24, .inr (.inl gu))), (a 11, .inl (cJ, 24, .inr (.inl gv)))]
theorem pNil {D : va_G} {H : Heap} : va_P D vwCl [] H := fun k q h => by simp at h
end
section
def f_X0_isPosition (k : Int32) : Int32 := if k < 0 then 0 else (if 16 ≤ k then 0 else 1)
set_option maxRecDepth 20000 in
set_option maxHeartbeats 4000000 in
theorem k_X0_isPosition (l : Launch) (D : va_G) (tys : List (ClassId × FieldType)) (k : Int32) : RD l yX0_isPosition cX0_isPosition 1 (some .boolean) 0 D tys ([]) [.int k] (some (.int (f_X0_isPosition k))) := by
  refine RD.of (by decide) ?_
  intro p e s m below meth c hx hb hr hml hown hlocks hE hP hK
  have hown : s.vm.findClass RX0 = some m.cls := hown
  have ht : tb_OK s := hE.1
  have hl := lv_entry ([.int k]) (n := 1) (Nat.le_of_ble_eq_true rfl)
  rw [lg_entry_eq]
  generalize (lg_sl ([.int k]) ++ List.replicate (1 - (lg_sl ([.int k])).length) Slot.unset).toArray = ls at hl ⊢
  have hl : lv_has ls 1 [(0, .int k)] := hl
  refine lv_iload_n hx hb dX0_isPosition_0 rfl (lv_at hl 0 rfl) ?_
  refine lv_if_lt (tgt := 14) hx hb dX0_isPosition_1 (by decide) (fun c_1 => ?_) (fun c_1 => ?_)
  · skip
    refine lv_iconst (v := 0) hx hb dX0_isPosition_14 (by decide) ?_
    exact rd_z hx hb hr hlocks dX0_isPosition_15 rfl (by unfold f_X0_isPosition; rw [if_pos c_1])
  · skip
    refine lv_iload_n hx hb dX0_isPosition_4 rfl (lv_at hl 0 rfl) ?_
    refine lv_bipush (v := 16) hx hb dX0_isPosition_5 (by decide) ?_
    refine lv_icmp_ge (tgt := 14) hx hb dX0_isPosition_7 (by decide) (fun c_2 => ?_) (fun c_2 => ?_)
    · skip
      refine lv_iconst (v := 0) hx hb dX0_isPosition_14 (by decide) ?_
      exact rd_z hx hb hr hlocks dX0_isPosition_15 rfl (by unfold f_X0_isPosition; rw [if_neg c_1, if_pos c_2])
    · skip
      refine lv_iconst (v := 1) hx hb dX0_isPosition_10 (by decide) ?_
      refine lv_goto (tgt := 15) hx hb dX0_isPosition_11 (by decide) ?_
      exact rd_z hx hb hr hlocks dX0_isPosition_15 rfl (by unfold f_X0_isPosition; rw [if_neg c_1, if_neg c_2])
def f_X0_c (k : Int32) : Int32 := kTab (k &&& 15).toNatClampNeg
set_option maxRecDepth 20000 in
set_option maxHeartbeats 4000000 in
theorem k_X0_c (l : Launch) (D : va_G) (tys : List (ClassId × FieldType)) (k : Int32) : RD l yX0_c cX0_c 1 (some .int) 0 D tys ([]) [.int k] (some (.int (f_X0_c k))) := by
  refine RD.of (by decide) ?_
  intro p e s m below meth c hx hb hr hml hown hlocks hE hP hK
  have hown : s.vm.findClass RX0 = some m.cls := hown
  have ht : tb_OK s := hE.1
  obtain ⟨tC, hZ, hT⟩ := hE.2.1
  have hS : va_S (fun _ => False) s.heap s.heap [] := va_S.rf
  have hl := lv_entry ([.int k]) (n := 1) (Nat.le_of_ble_eq_true rfl)
  rw [lg_entry_eq]
  generalize (lg_sl ([.int k]) ++ List.replicate (1 - (lg_sl ([.int k])).length) Slot.unset).toArray = ls at hl ⊢
  have hl : lv_has ls 1 [(0, .int k)] := hl
  refine va_gets hx hb hZ hS hown (fl_X0_22 ht) (fun _ h9 => h9) dX0_c_0 ?_
  refine lv_iload_n hx hb dX0_c_3 rfl (lv_at hl 0 rfl) ?_
  refine lv_bipush (v := 15) hx hb dX0_c_4 (by decide) ?_
  refine lv_iand hx hb dX0_c_6 ?_
  refine va_ti hx hb hT hS (pk_andIn k 4 (by decide) (by decide)) rfl dX0_c_7 ?_
  exact rd_i hx hb hr hlocks dX0_c_8 (rfl)
def f_X0_s (k : Int32) : Int32 := kTab ((k - 4) &&& 15).toNatClampNeg
set_option maxRecDepth 20000 in
set_option maxHeartbeats 4000000 in
theorem k_X0_s (l : Launch) (D : va_G) (tys : List (ClassId × FieldType)) (k : Int32) : RD l yX0_s cX0_s 1 (some .int) 0 D tys ([]) [.int k] (some (.int (f_X0_s k))) := by
  refine RD.of (by decide) ?_
  intro p e s m below meth c hx hb hr hml hown hlocks hE hP hK
  have hown : s.vm.findClass RX0 = some m.cls := hown
  have ht : tb_OK s := hE.1
  obtain ⟨tC, hZ, hT⟩ := hE.2.1
  have hS : va_S (fun _ => False) s.heap s.heap [] := va_S.rf
  have hl := lv_entry ([.int k]) (n := 1) (Nat.le_of_ble_eq_true rfl)
  rw [lg_entry_eq]
  generalize (lg_sl ([.int k]) ++ List.replicate (1 - (lg_sl ([.int k])).length) Slot.unset).toArray = ls at hl ⊢
  have hl : lv_has ls 1 [(0, .int k)] := hl
  refine va_gets hx hb hZ hS hown (fl_X0_22 ht) (fun _ h9 => h9) dX0_s_0 ?_
  refine lv_iload_n hx hb dX0_s_3 rfl (lv_at hl 0 rfl) ?_
  refine lv_iconst (v := 4) hx hb dX0_s_4 (by decide) ?_
  refine lv_isub hx hb dX0_s_5 ?_
  refine lv_bipush (v := 15) hx hb dX0_s_6 (by decide) ?_
  refine lv_iand hx hb dX0_s_8 ?_
  refine va_ti hx hb hT hS (pk_andIn (k - 4) 4 (by decide) (by decide)) rfl dX0_s_9 ?_
  exact rd_i hx hb hr hlocks dX0_s_10 (rfl)
def f_X0_fits (k : Int32) (j : Int32) (ja : Int32) (fb : Nat → Int32) : Int32 := if (fb k.toNatClampNeg) = 0 then (if j = (-1) then 1 else (if ((k - j) - (k - j) / ja * ja) = 0 then 0 else 1)) else 0
set_option maxRecDepth 20000 in
set_option maxHeartbeats 4000000 in
theorem k_X0_fits (l : Launch) (D : va_G) (cI cJ cZ : ClassId) (a : Nat → Nat) (n : Nat) (ah pl ck ct nk pm ja rg bu pn : Int32) (tp st us fb kA tA : Nat → Int32) (lx ly gx gy gu gv : Nat → Int64) (k : Int32) (j : Int32) (hk : vp_in k 16) (hj : ¬ ja = 0) : RD l yX0_fits cX0_fits 3 (some .boolean) 0 D (tysW cI cJ cZ) (wI cI cJ cZ a n ah pl ck ct nk pm ja rg bu pn tp st us fb kA tA lx ly gx gy gu gv) [.ref (a 5), .int k, .int j] (some (.int (f_X0_fits k j ja fb))) := by
  refine RD.of (by decide) ?_
  intro p e s m below meth c hx hb hr hml hown hlocks hE hP hK
  have hown : s.vm.findClass RX0 = some m.cls := hown
  have ht : tb_OK s := hE.1
  have hl := lv_entry ([.ref (a 5), .int k, .int j]) (n := 3) (Nat.le_of_ble_eq_true rfl)
  rw [lg_entry_eq]
  generalize (lg_sl ([.ref (a 5), .int k, .int j]) ++ List.replicate (3 - (lg_sl ([.ref (a 5), .int k, .int j])).length) Slot.unset).toArray = ls at hl ⊢
  have hl : lv_has ls 3 [(0, .ref (a 5)), (1, .int k), (2, .int j)] := hl
  refine lv_aload_n hx hb dX0_fits_0 rfl (lv_at hl 0 rfl) ?_
  refine va_get (D := D) (ci := 1) (v := .ref (a 6)) (C := RX0) (T := TX0) (N := 3) hx hb (lyX0 ht) (fun _ h9 => h9) hown hK hP 5 rfl rfl 0 (by decide) (fl_X0_11 ht) (fun _ h9 => h9) rfl dX0_fits_1 ?_
  refine lv_iload_n hx hb dX0_fits_4 rfl (lv_at hl 1 rfl) ?_
  refine va_zald hx hb hK hP 6 2 rfl rfl hk dX0_fits_5 ?_
  refine lv_if_ne (tgt := 29) hx hb dX0_fits_6 (by decide) (fun c_1 => ?_) (fun c_1 => ?_)
  · skip
    refine lv_iconst (v := 0) hx hb dX0_fits_29 (by decide) ?_
    exact rd_z hx hb hr hlocks dX0_fits_30 rfl (by unfold f_X0_fits; rw [if_neg c_1])
  · skip
    refine lv_iload_n hx hb dX0_fits_9 rfl (lv_at hl 2 rfl) ?_
    refine lv_iconst (v := -1) hx hb dX0_fits_10 (by decide) ?_
    refine lv_icmp_eq (tgt := 25) hx hb dX0_fits_11 (by decide) (fun c_2 => ?_) (fun c_2 => ?_)
    · skip
      refine lv_iconst (v := 1) hx hb dX0_fits_25 (by decide) ?_
      refine lv_goto (tgt := 30) hx hb dX0_fits_26 (by decide) ?_
      exact rd_z hx hb hr hlocks dX0_fits_30 rfl (by unfold f_X0_fits; rw [if_pos c_1, if_pos c_2])
    · skip
      refine lv_iload_n hx hb dX0_fits_14 rfl (lv_at hl 1 rfl) ?_
      refine lv_iload_n hx hb dX0_fits_15 rfl (lv_at hl 2 rfl) ?_
      refine lv_isub hx hb dX0_fits_16 ?_
      refine lv_aload_n hx hb dX0_fits_17 rfl (lv_at hl 0 rfl) ?_
      refine va_get (D := D) (ci := 1) (v := .int ja) (C := RX0) (T := TX0) (N := 3) hx hb (lyX0 ht) (fun _ h9 => h9) hown hK hP 5 rfl rfl 2 (by decide) (fl_X0_19 ht) (fun _ h9 => h9) rfl dX0_fits_18 ?_
      refine lv_irem hx hb dX0_fits_21 hj ?_
      refine lv_if_eq (tgt := 29) hx hb dX0_fits_22 (by decide) (fun c_3 => ?_) (fun c_3 => ?_)
      · skip
        refine lv_iconst (v := 0) hx hb dX0_fits_29 (by decide) ?_
        exact rd_z hx hb hr hlocks dX0_fits_30 rfl (by unfold f_X0_fits; rw [if_pos c_1, if_neg c_2, if_pos c_3])
      · skip
        refine lv_iconst (v := 1) hx hb dX0_fits_25 (by decide) ?_
        refine lv_goto (tgt := 30) hx hb dX0_fits_26 (by decide) ?_
        exact rd_z hx hb hr hlocks dX0_fits_30 rfl (by unfold f_X0_fits; rw [if_pos c_1, if_neg c_2, if_neg c_3])
def f_X1_has (k : Int32) (nk : Int32) : Int32 := if k < 0 then 0 else (if nk ≤ k then 0 else 1)
set_option maxRecDepth 20000 in
set_option maxHeartbeats 4000000 in
theorem k_X1_has (l : Launch) (D : va_G) (cI cJ cZ : ClassId) (a : Nat → Nat) (n : Nat) (ah pl ck ct nk pm ja rg bu pn : Int32) (tp st us fb kA tA : Nat → Int32) (lx ly gx gy gu gv : Nat → Int64) (k : Int32) : RD l yX1_has cX1_has 2 (some .boolean) 0 D (tysW cI cJ cZ) (wI cI cJ cZ a n ah pl ck ct nk pm ja rg bu pn tp st us fb kA tA lx ly gx gy gu gv) [.ref (a 1), .int k] (some (.int (f_X1_has k nk))) := by
  refine RD.of (by decide) ?_
  intro p e s m below meth c hx hb hr hml hown hlocks hE hP hK
  have hown : s.vm.findClass RX1 = some m.cls := hown
  have ht : tb_OK s := hE.1
  have hl := lv_entry ([.ref (a 1), .int k]) (n := 2) (Nat.le_of_ble_eq_true rfl)
  rw [lg_entry_eq]
  generalize (lg_sl ([.ref (a 1), .int k]) ++ List.replicate (2 - (lg_sl ([.ref (a 1), .int k])).length) Slot.unset).toArray = ls at hl ⊢
  have hl : lv_has ls 2 [(0, .ref (a 1)), (1, .int k)] := hl
  refine lv_iload_n hx hb dX1_has_0 rfl (lv_at hl 1 rfl) ?_
  refine lv_if_lt (tgt := 16) hx hb dX1_has_1 (by decide) (fun c_1 => ?_) (fun c_1 => ?_)
  · skip
    refine lv_iconst (v := 0) hx hb dX1_has_16 (by decide) ?_
    exact rd_z hx hb hr hlocks dX1_has_17 rfl (by unfold f_X1_has; rw [if_pos c_1])
  · skip
    refine lv_iload_n hx hb dX1_has_4 rfl (lv_at hl 1 rfl) ?_
    refine lv_aload_n hx hb dX1_has_5 rfl (lv_at hl 0 rfl) ?_
    refine va_get (D := D) (ci := 2) (v := .int nk) (C := RX1) (T := TX1) (N := 4) hx hb (lyX1 ht) (fun _ h9 => h9) hown hK hP 1 rfl rfl 3 (by decide) (fl_X1_19 ht) (fun _ h9 => h9) rfl dX1_has_6 ?_
    refine lv_icmp_ge (tgt := 16) hx hb dX1_has_9 (by decide) (fun c_2 => ?_) (fun c_2 => ?_)
    · skip
      refine lv_iconst (v := 0) hx hb dX1_has_16 (by decide) ?_
      exact rd_z hx hb hr hlocks dX1_has_17 rfl (by unfold f_X1_has; rw [if_neg c_1, if_pos c_2])
    · skip
      refine lv_iconst (v := 1) hx hb dX1_has_12 (by decide) ?_
      refine lv_goto (tgt := 17) hx hb dX1_has_13 (by decide) ?_
      exact rd_z hx hb hr hlocks dX1_has_17 rfl (by unfold f_X1_has; rw [if_neg c_1, if_neg c_2])
def f_X1_isFull (nk : Int32) : Int32 := if nk < 4 then 0 else 1
set_option maxRecDepth 20000 in
set_option maxHeartbeats 4000000 in
theorem k_X1_isFull (l : Launch) (D : va_G) (cI cJ cZ : ClassId) (a : Nat → Nat) (n : Nat) (ah pl ck ct nk pm ja rg bu pn : Int32) (tp st us fb kA tA : Nat → Int32) (lx ly gx gy gu gv : Nat → Int64)  : RD l yX1_isFull cX1_isFull 1 (some .boolean) 0 D (tysW cI cJ cZ) (wI cI cJ cZ a n ah pl ck ct nk pm ja rg bu pn tp st us fb kA tA lx ly gx gy gu gv) [.ref (a 1)] (some (.int (f_X1_isFull nk))) := by
  refine RD.of (by decide) ?_
  intro p e s m below meth c hx hb hr hml hown hlocks hE hP hK
  have hown : s.vm.findClass RX1 = some m.cls := hown
  have ht : tb_OK s := hE.1
  have hl := lv_entry ([.ref (a 1)]) (n := 1) (Nat.le_of_ble_eq_true rfl)
  rw [lg_entry_eq]
  generalize (lg_sl ([.ref (a 1)]) ++ List.replicate (1 - (lg_sl ([.ref (a 1)])).length) Slot.unset).toArray = ls at hl ⊢
  have hl : lv_has ls 1 [(0, .ref (a 1))] := hl
  refine lv_aload_n hx hb dX1_isFull_0 rfl (lv_at hl 0 rfl) ?_
  refine va_get (D := D) (ci := 2) (v := .int nk) (C := RX1) (T := TX1) (N := 4) hx hb (lyX1 ht) (fun _ h9 => h9) hown hK hP 1 rfl rfl 3 (by decide) (fl_X1_19 ht) (fun _ h9 => h9) rfl dX1_isFull_1 ?_
  refine lv_iconst (v := 4) hx hb dX1_isFull_4 (by decide) ?_
  refine lv_icmp_lt (tgt := 12) hx hb dX1_isFull_5 (by decide) (fun c_1 => ?_) (fun c_1 => ?_)
  · skip
    refine lv_iconst (v := 0) hx hb dX1_isFull_12 (by decide) ?_
    exact rd_z hx hb hr hlocks dX1_isFull_13 rfl (by unfold f_X1_isFull; rw [if_pos c_1])
  · skip
    refine lv_iconst (v := 1) hx hb dX1_isFull_8 (by decide) ?_
    refine lv_goto (tgt := 13) hx hb dX1_isFull_9 (by decide) ?_
    exact rd_z hx hb hr hlocks dX1_isFull_13 rfl (by unfold f_X1_isFull; rw [if_neg c_1])
def f_X1_unused (k : Int32) (st : Nat → Int32) (us : Nat → Int32) : Int32 := (st k.toNatClampNeg) - (us k.toNatClampNeg)
set_option maxRecDepth 20000 in
set_option maxHeartbeats 4000000 in
theorem k_X1_unused (l : Launch) (D : va_G) (cI cJ cZ : ClassId) (a : Nat → Nat) (n : Nat) (ah pl ck ct nk pm ja rg bu pn : Int32) (tp st us fb kA tA : Nat → Int32) (lx ly gx gy gu gv : Nat → Int64) (k : Int32) (hk : vp_in k 4) : RD l yX1_unused cX1_unused 2 (some .int) 0 D (tysW cI cJ cZ) (wI cI cJ cZ a n ah pl ck ct nk pm ja rg bu pn tp st us fb kA tA lx ly gx gy gu gv) [.ref (a 1), .int k] (some (.int (f_X1_unused k st us))) := by
  refine RD.of (by decide) ?_
  intro p e s m below meth c hx hb hr hml hown hlocks hE hP hK
  have hown : s.vm.findClass RX1 = some m.cls := hown
  have ht : tb_OK s := hE.1
  have hl := lv_entry ([.ref (a 1), .int k]) (n := 2) (Nat.le_of_ble_eq_true rfl)
  rw [lg_entry_eq]
  generalize (lg_sl ([.ref (a 1), .int k]) ++ List.replicate (2 - (lg_sl ([.ref (a 1), .int k])).length) Slot.unset).toArray = ls at hl ⊢
  have hl : lv_has ls 2 [(0, .ref (a 1)), (1, .int k)] := hl
  refine lv_aload_n hx hb dX1_unused_0 rfl (lv_at hl 0 rfl) ?_
  refine va_get (D := D) (ci := 2) (v := .ref (a 3)) (C := RX1) (T := TX1) (N := 4) hx hb (lyX1 ht) (fun _ h9 => h9) hown hK hP 1 rfl rfl 1 (by decide) (fl_X1_13 ht) (fun _ h9 => h9) rfl dX1_unused_1 ?_
  refine lv_iload_n hx hb dX1_unused_4 rfl (lv_at hl 1 rfl) ?_
  refine va_iald hx hb hK hP 3 0 rfl rfl hk dX1_unused_5 ?_
  refine lv_aload_n hx hb dX1_unused_6 rfl (lv_at hl 0 rfl) ?_
  refine va_get (D := D) (ci := 2) (v := .ref (a 4)) (C := RX1) (T := TX1) (N := 4) hx hb (lyX1 ht) (fun _ h9 => h9) hown hK hP 1 rfl rfl 2 (by decide) (fl_X1_16 ht) (fun _ h9 => h9) rfl dX1_unused_7 ?_
  refine lv_iload_n hx hb dX1_unused_10 rfl (lv_at hl 1 rfl) ?_
  refine va_iald hx hb hK hP 4 0 rfl rfl hk dX1_unused_11 ?_
  refine lv_isub hx hb dX1_unused_12 ?_
  exact rd_i hx hb hr hlocks dX1_unused_13 (rfl)
def f_X2_has (r : Int32) (rg : Int32) : Int32 := if r < 0 then 0 else (if rg ≤ r then 0 else 1)
set_option maxRecDepth 20000 in
set_option maxHeartbeats 4000000 in
theorem k_X2_has (l : Launch) (D : va_G) (cI cJ cZ : ClassId) (a : Nat → Nat) (n : Nat) (ah pl ck ct nk pm ja rg bu pn : Int32) (tp st us fb kA tA : Nat → Int32) (lx ly gx gy gu gv : Nat → Int64) (r : Int32) : RD l yX2_has cX2_has 2 (some .boolean) 0 D (tysW cI cJ cZ) (wI cI cJ cZ a n ah pl ck ct nk pm ja rg bu pn tp st us fb kA tA lx ly gx gy gu gv) [.ref (a 7), .int r] (some (.int (f_X2_has r rg))) := by
  refine RD.of (by decide) ?_
  intro p e s m below meth c hx hb hr hml hown hlocks hE hP hK
  have hown : s.vm.findClass RX2 = some m.cls := hown
  have ht : tb_OK s := hE.1
  have hl := lv_entry ([.ref (a 7), .int r]) (n := 2) (Nat.le_of_ble_eq_true rfl)
  rw [lg_entry_eq]
  generalize (lg_sl ([.ref (a 7), .int r]) ++ List.replicate (2 - (lg_sl ([.ref (a 7), .int r])).length) Slot.unset).toArray = ls at hl ⊢
  have hl : lv_has ls 2 [(0, .ref (a 7)), (1, .int r)] := hl
  refine lv_iload_n hx hb dX2_has_0 rfl (lv_at hl 1 rfl) ?_
  refine lv_if_lt (tgt := 16) hx hb dX2_has_1 (by decide) (fun c_1 => ?_) (fun c_1 => ?_)
  · skip
    refine lv_iconst (v := 0) hx hb dX2_has_16 (by decide) ?_
    exact rd_z hx hb hr hlocks dX2_has_17 rfl (by unfold f_X2_has; rw [if_pos c_1])
  · skip
    refine lv_iload_n hx hb dX2_has_4 rfl (lv_at hl 1 rfl) ?_
    refine lv_aload_n hx hb dX2_has_5 rfl (lv_at hl 0 rfl) ?_
    refine va_get (D := D) (ci := 3) (v := .int rg) (C := RX2) (T := TX2) (N := 11) hx hb (lyX2 ht) (fun _ h9 => h9) hown hK hP 7 rfl rfl 0 (by decide) (fl_X2_18 ht) (fun _ h9 => h9) rfl dX2_has_6 ?_
    refine lv_icmp_ge (tgt := 16) hx hb dX2_has_9 (by decide) (fun c_2 => ?_) (fun c_2 => ?_)
    · skip
      refine lv_iconst (v := 0) hx hb dX2_has_16 (by decide) ?_
      exact rd_z hx hb hr hlocks dX2_has_17 rfl (by unfold f_X2_has; rw [if_neg c_1, if_pos c_2])
    · skip
      refine lv_iconst (v := 1) hx hb dX2_has_12 (by decide) ?_
      refine lv_goto (tgt := 17) hx hb dX2_has_13 (by decide) ?_
      exact rd_z hx hb hr hlocks dX2_has_17 rfl (by unfold f_X2_has; rw [if_neg c_1, if_neg c_2])
def f_X2_standing (bu : Int32) (pn : Int32) : Int32 := bu + pn
set_option maxRecDepth 20000 in
set_option maxHeartbeats 4000000 in
theorem k_X2_standing (l : Launch) (D : va_G) (cI cJ cZ : ClassId) (a : Nat → Nat) (n : Nat) (ah pl ck ct nk pm ja rg bu pn : Int32) (tp st us fb kA tA : Nat → Int32) (lx ly gx gy gu gv : Nat → Int64)  : RD l yX2_standing cX2_standing 1 (some .int) 0 D (tysW cI cJ cZ) (wI cI cJ cZ a n ah pl ck ct nk pm ja rg bu pn tp st us fb kA tA lx ly gx gy gu gv) [.ref (a 7)] (some (.int (f_X2_standing bu pn))) := by
  refine RD.of (by decide) ?_
  intro p e s m below meth c hx hb hr hml hown hlocks hE hP hK
  have hown : s.vm.findClass RX2 = some m.cls := hown
  have ht : tb_OK s := hE.1
  have hl := lv_entry ([.ref (a 7)]) (n := 1) (Nat.le_of_ble_eq_true rfl)
  rw [lg_entry_eq]
  generalize (lg_sl ([.ref (a 7)]) ++ List.replicate (1 - (lg_sl ([.ref (a 7)])).length) Slot.unset).toArray = ls at hl ⊢
  have hl : lv_has ls 1 [(0, .ref (a 7))] := hl
  refine lv_aload_n hx hb dX2_standing_0 rfl (lv_at hl 0 rfl) ?_
  refine va_get (D := D) (ci := 3) (v := .int bu) (C := RX2) (T := TX2) (N := 11) hx hb (lyX2 ht) (fun _ h9 => h9) hown hK hP 7 rfl rfl 1 (by decide) (fl_X2_9 ht) (fun _ h9 => h9) rfl dX2_standing_1 ?_
  refine lv_aload_n hx hb dX2_standing_4 rfl (lv_at hl 0 rfl) ?_
  refine va_get (D := D) (ci := 3) (v := .int pn) (C := RX2) (T := TX2) (N := 11) hx hb (lyX2 ht) (fun _ h9 => h9) hown hK hP 7 rfl rfl 2 (by decide) (fl_X2_15 ht) (fun _ h9 => h9) rfl dX2_standing_5 ?_
  refine lv_iadd hx hb dX2_standing_8 ?_
  exact rd_i hx hb hr hlocks dX2_standing_9 (rfl)
def f_X2_stands (r : Int32) (bu : Int32) (pn : Int32) : Int32 := if r < 0 then 0 else (if (f_X2_standing bu pn) ≤ r then 0 else 1)
set_option maxRecDepth 20000 in
set_option maxHeartbeats 4000000 in
theorem k_X2_stands (l : Launch) (D : va_G) (cI cJ cZ : ClassId) (a : Nat → Nat) (n : Nat) (ah pl ck ct nk pm ja rg bu pn : Int32) (tp st us fb kA tA : Nat → Int32) (lx ly gx gy gu gv : Nat → Int64) (r : Int32) : RD l yX2_stands cX2_stands 2 (some .boolean) 1 D (tysW cI cJ cZ) (wI cI cJ cZ a n ah pl ck ct nk pm ja rg bu pn tp st us fb kA tA lx ly gx gy gu gv) [.ref (a 7), .int r] (some (.int (f_X2_stands r bu pn))) := by
  refine RD.of (by decide) ?_
  intro p e s m below meth c hx hb hr hml hown hlocks hE hP hK
  have hown : s.vm.findClass RX2 = some m.cls := hown
  have ht : tb_OK s := hE.1
  have hl := lv_entry ([.ref (a 7), .int r]) (n := 2) (Nat.le_of_ble_eq_true rfl)
  rw [lg_entry_eq]
  generalize (lg_sl ([.ref (a 7), .int r]) ++ List.replicate (2 - (lg_sl ([.ref (a 7), .int r])).length) Slot.unset).toArray = ls at hl ⊢
  have hl : lv_has ls 2 [(0, .ref (a 7)), (1, .int r)] := hl
  refine lv_iload_n hx hb dX2_stands_0 rfl (lv_at hl 1 rfl) ?_
  refine lv_if_lt (tgt := 16) hx hb dX2_stands_1 (by decide) (fun c_1 => ?_) (fun c_1 => ?_)
  · skip
    refine lv_iconst (v := 0) hx hb dX2_stands_16 (by decide) ?_
    exact rd_z hx hb hr hlocks dX2_stands_17 rfl (by unfold f_X2_stands; rw [if_pos c_1])
  · skip
    refine lv_iload_n hx hb dX2_stands_4 rfl (lv_at hl 1 rfl) ?_
    refine lv_aload_n hx hb dX2_stands_5 rfl (lv_at hl 0 rfl) ?_
    refine rdV (As := []) (rest := [.int r]) (st1 := [.int (f_X2_standing bu pn), .int r]) (k_X2_standing l D cI cJ cZ a n ah pl ck ct nk pm ja rg bu pn tp st us fb kA tA lx ly gx gy gu gv) (si_X2_47 ht ⟨Nat.le_of_ble_eq_true rfl, Nat.le_of_ble_eq_true rfl⟩) hx hb hml hown (va_recv hK hP (ci := 3) (q0 := 7) rfl rfl) hE hP hK rfl hl.1 rfl (Nat.le_of_ble_eq_true rfl) ⟨Nat.zero_le _, Nat.zero_le _⟩ dX2_stands_6 rfl ?_
    refine lv_icmp_ge (tgt := 16) hx hb dX2_stands_9 (by decide) (fun c_2 => ?_) (fun c_2 => ?_)
    · skip
      refine lv_iconst (v := 0) hx hb dX2_stands_16 (by decide) ?_
      exact rd_z hx hb hr hlocks dX2_stands_17 rfl (by unfold f_X2_stands; rw [if_neg c_1, if_pos c_2])
    · skip
      refine lv_iconst (v := 1) hx hb dX2_stands_12 (by decide) ?_
      refine lv_goto (tgt := 17) hx hb dX2_stands_13 (by decide) ?_
      exact rd_z hx hb hr hlocks dX2_stands_17 rfl (by unfold f_X2_stands; rw [if_neg c_1, if_neg c_2])
def f_X2_stateAt (r : Int32) (bu : Int32) (pn : Int32) : Int32 := if bu ≤ r then (if (f_X2_standing bu pn) ≤ r then 0 else 1) else 2
set_option maxRecDepth 20000 in
set_option maxHeartbeats 4000000 in
theorem k_X2_stateAt (l : Launch) (D : va_G) (cI cJ cZ : ClassId) (a : Nat → Nat) (n : Nat) (ah pl ck ct nk pm ja rg bu pn : Int32) (tp st us fb kA tA : Nat → Int32) (lx ly gx gy gu gv : Nat → Int64) (r : Int32) : RD l yX2_stateAt cX2_stateAt 2 (some .int) 1 D (tysW cI cJ cZ) (wI cI cJ cZ a n ah pl ck ct nk pm ja rg bu pn tp st us fb kA tA lx ly gx gy gu gv) [.ref (a 7), .int r] (some (.int (f_X2_stateAt r bu pn))) := by
  refine RD.of (by decide) ?_
  intro p e s m below meth c hx hb hr hml hown hlocks hE hP hK
  have hown : s.vm.findClass RX2 = some m.cls := hown
  have ht : tb_OK s := hE.1
  have hl := lv_entry ([.ref (a 7), .int r]) (n := 2) (Nat.le_of_ble_eq_true rfl)
  rw [lg_entry_eq]
  generalize (lg_sl ([.ref (a 7), .int r]) ++ List.replicate (2 - (lg_sl ([.ref (a 7), .int r])).length) Slot.unset).toArray = ls at hl ⊢
  have hl : lv_has ls 2 [(0, .ref (a 7)), (1, .int r)] := hl
  refine lv_iload_n hx hb dX2_stateAt_0 rfl (lv_at hl 1 rfl) ?_
  refine lv_aload_n hx hb dX2_stateAt_1 rfl (lv_at hl 0 rfl) ?_
  refine va_get (D := D) (ci := 3) (v := .int bu) (C := RX2) (T := TX2) (N := 11) hx hb (lyX2 ht) (fun _ h9 => h9) hown hK hP 7 rfl rfl 1 (by decide) (fl_X2_9 ht) (fun _ h9 => h9) rfl dX2_stateAt_2 ?_
  refine lv_icmp_ge (tgt := 10) hx hb dX2_stateAt_5 (by decide) (fun c_1 => ?_) (fun c_1 => ?_)
  · skip
    refine lv_iload_n hx hb dX2_stateAt_10 rfl (lv_at hl 1 rfl) ?_
    refine lv_aload_n hx hb dX2_stateAt_11 rfl (lv_at hl 0 rfl) ?_
    refine rdV (As := []) (rest := [.int r]) (st1 := [.int (f_X2_standing bu pn), .int r]) (k_X2_standing l D cI cJ cZ a n ah pl ck ct nk pm ja rg bu pn tp st us fb kA tA lx ly gx gy gu gv) (si_X2_47 ht ⟨Nat.le_of_ble_eq_true rfl, Nat.le_of_ble_eq_true rfl⟩) hx hb hml hown (va_recv hK hP (ci := 3) (q0 := 7) rfl rfl) hE hP hK rfl hl.1 rfl (Nat.le_of_ble_eq_true rfl) ⟨Nat.zero_le _, Nat.zero_le _⟩ dX2_stateAt_12 rfl ?_
    refine lv_icmp_ge (tgt := 22) hx hb dX2_stateAt_15 (by decide) (fun c_2 => ?_) (fun c_2 => ?_)
    · skip
      refine lv_iconst (v := 0) hx hb dX2_stateAt_22 (by decide) ?_
      exact rd_i hx hb hr hlocks dX2_stateAt_23 (by unfold f_X2_stateAt; rw [if_pos c_1, if_pos c_2])
    · skip
      refine lv_iconst (v := 1) hx hb dX2_stateAt_18 (by decide) ?_
      refine lv_goto (tgt := 23) hx hb dX2_stateAt_19 (by decide) ?_
      exact rd_i hx hb hr hlocks dX2_stateAt_23 (by unfold f_X2_stateAt; rw [if_pos c_1, if_neg c_2])
  · skip
    refine lv_iconst (v := 2) hx hb dX2_stateAt_8 (by decide) ?_
    exact rd_i hx hb hr hlocks dX2_stateAt_9 (by unfold f_X2_stateAt; rw [if_neg c_1])
def f_X2_turnBefore (r : Int32) (tA : Nat → Int32) : Int32 := if r ≤ 0 then -1 else (tA (r - 1).toNatClampNeg)
set_option maxRecDepth 20000 in
set_option maxHeartbeats 4000000 in
theorem k_X2_turnBefore (l : Launch) (D : va_G) (cI cJ cZ : ClassId) (a : Nat → Nat) (n : Nat) (ah pl ck ct nk pm ja rg bu pn : Int32) (tp st us fb kA tA : Nat → Int32) (lx ly gx gy gu gv : Nat → Int64) (r : Int32) (hr0 : 0 < r → vp_in (r - 1) n) : RD l yX2_turnBefore cX2_turnBefore 2 (some .int) 0 D (tysW cI cJ cZ) (wI cI cJ cZ a n ah pl ck ct nk pm ja rg bu pn tp st us fb kA tA lx ly gx gy gu gv) [.ref (a 7), .int r] (some (.int (f_X2_turnBefore r tA))) := by
  refine RD.of (by decide) ?_
  intro p e s m below meth c hx hb hr hml hown hlocks hE hP hK
  have hown : s.vm.findClass RX2 = some m.cls := hown
  have ht : tb_OK s := hE.1
  have hl := lv_entry ([.ref (a 7), .int r]) (n := 2) (Nat.le_of_ble_eq_true rfl)
  rw [lg_entry_eq]
  generalize (lg_sl ([.ref (a 7), .int r]) ++ List.replicate (2 - (lg_sl ([.ref (a 7), .int r])).length) Slot.unset).toArray = ls at hl ⊢
  have hl : lv_has ls 2 [(0, .ref (a 7)), (1, .int r)] := hl
  refine lv_iload_n hx hb dX2_turnBefore_0 rfl (lv_at hl 1 rfl) ?_
  refine lv_if_le (tgt := 15) hx hb dX2_turnBefore_1 (by decide) (fun c_1 => ?_) (fun c_1 => ?_)
  · skip
    refine lv_iconst (v := -1) hx hb dX2_turnBefore_15 (by decide) ?_
    exact rd_i hx hb hr hlocks dX2_turnBefore_16 (by unfold f_X2_turnBefore; rw [if_pos c_1])
  · skip
    refine lv_aload_n hx hb dX2_turnBefore_4 rfl (lv_at hl 0 rfl) ?_
    refine va_get (D := D) (ci := 3) (v := .ref (a 9)) (C := RX2) (T := TX2) (N := 11) hx hb (lyX2 ht) (fun _ h9 => h9) hown hK hP 7 rfl rfl 4 (by decide) (fl_X2_25 ht) (fun _ h9 => h9) rfl dX2_turnBefore_5 ?_
    refine lv_iload_n hx hb dX2_turnBefore_8 rfl (lv_at hl 1 rfl) ?_
    refine lv_iconst (v := 1) hx hb dX2_turnBefore_9 (by decide) ?_
    refine lv_isub hx hb dX2_turnBefore_10 ?_
    refine va_iald hx hb hK hP 9 0 rfl rfl (hr0 (Int32.not_le.mp c_1)) dX2_turnBefore_11 ?_
    refine lv_goto (tgt := 16) hx hb dX2_turnBefore_12 (by decide) ?_
    exact rd_i hx hb hr hlocks dX2_turnBefore_16 (by unfold f_X2_turnBefore; rw [if_neg c_1])
end
section
def f_X0_permit (k : Int32) (z : Int32) (fb : Nat → Int32) : Int32 := if (f_X0_isPosition k) = 0 then 0 else (if (fb k.toNatClampNeg) = 0 then (if z = 1 then 0 else (if z = 0 then 1 else 1)) else (if z = 0 then 0 else 1))
def f_X0_permit_pm (k : Int32) (z : Int32) (pm : Int32) (fb : Nat → Int32) : Int32 := if (f_X0_isPosition k) = 0 then pm else (if (fb k.toNatClampNeg) = 0 then (if z = 1 then pm else (if z = 0 then (pm + (-1)) else (pm + 1))) else (if z = 0 then pm else (pm + 1)))
def f_X0_permit_fb (k : Int32) (z : Int32) (fb : Nat → Int32) : Nat → Int32 := if (f_X0_isPosition k) = 0 then fb else (if (fb k.toNatClampNeg) = 0 then (if z = 1 then fb else (if z = 0 then (upd fb k.toNatClampNeg (vp_nar .boolean 1)) else (upd fb k.toNatClampNeg (vp_nar .boolean 0)))) else (if z = 0 then fb else (upd fb k.toNatClampNeg (vp_nar .boolean 0))))
set_option maxRecDepth 20000 in
set_option maxHeartbeats 4000000 in
theorem k_X0_permit (l : Launch) (D : va_G) (cI cJ cZ : ClassId) (a : Nat → Nat) (n : Nat) (ah pl ck ct nk pm ja rg bu pn : Int32) (tp st us fb kA tA : Nat → Int32) (lx ly gx gy gu gv : Nat → Int64) (k : Int32) (z : Int32) (hk : ¬ f_X0_isPosition k = 0 → vp_in k 16) : WR l yX0_permit cX0_permit 4 (some .boolean) 1 0 0 D (tysW cI cJ cZ) (wI cI cJ cZ a n ah pl ck ct nk pm ja rg bu pn tp st us fb kA tA lx ly gx gy gu gv) [.ref (a 5), .int k, .int z] (fun ov w' => ov = some (.int (f_X0_permit k z fb)) ∧ w' = wI cI cJ cZ a n ah pl ck ct nk (f_X0_permit_pm k z pm fb) ja rg bu pn tp st us (f_X0_permit_fb k z fb) kA tA lx ly gx gy gu gv) := by
  refine WR.of (by decide) ?_
  intro p e s m below meth c A hadm hx hb hr hml hown hlocks hname hE hP hK hD hS hA hAe
  have hown : s.vm.findClass RX0 = some m.cls := hown
  have ht : tb_OK s := hE.1
  have hl := lv_entry ([.ref (a 5), .int k, .int z]) (n := 4) (Nat.le_of_ble_eq_true rfl)
  rw [lg_entry_eq]
  generalize (lg_sl ([.ref (a 5), .int k, .int z]) ++ List.replicate (4 - (lg_sl ([.ref (a 5), .int k, .int z])).length) Slot.unset).toArray = ls at hl ⊢
  have hl : lv_has ls 4 [(0, .ref (a 5)), (1, .int k), (2, .int z)] := hl
  refine lv_iload_n hx hb dX0_permit_0 rfl (lv_at hl 1 rfl) ?_
  refine rdS (As := [.int k]) (rest := []) (st1 := [.int (f_X0_isPosition k)]) (k_X0_isPosition l D (tysW cI cJ cZ) k) (si_X0_26 ht ⟨Nat.le_of_ble_eq_true rfl, Nat.le_of_ble_eq_true rfl⟩) hx hb hml hown (hE.since hS) pNil hK rfl hl.1 rfl (Nat.le_of_ble_eq_true rfl) ⟨Nat.zero_le _, Nat.zero_le _⟩ dX0_permit_1 rfl ?_
  refine lv_if_ne (tgt := 9) hx hb dX0_permit_4 (by decide) (fun c_1 => ?_) (fun c_1 => ?_)
  · skip
    refine lv_aload_n hx hb dX0_permit_9 rfl (lv_at hl 0 rfl) ?_
    refine va_get (D := D) (ci := 1) (v := .ref (a 6)) (C := RX0) (T := TX0) (N := 3) hx hb (lyX0 ht) (fun _ h9 => h9) hown hK hP 5 rfl rfl 0 (by decide) (fl_X0_11 ht) (fun _ h9 => h9) rfl dX0_permit_10 ?_
    refine lv_iload_n hx hb dX0_permit_13 rfl (lv_at hl 1 rfl) ?_
    refine va_zald hx hb hK hP 6 2 rfl rfl (hk c_1) dX0_permit_14 ?_
    refine lv_if_ne (tgt := 22) hx hb dX0_permit_15 (by decide) (fun c_2 => ?_) (fun c_2 => ?_)
    · skip
      refine lv_iconst (v := 0) hx hb dX0_permit_22 (by decide) ?_
      refine lv_istore_n (lv' := [(3, .int 0), (0, .ref (a 5)), (1, .int k), (2, .int z)]) hx hb dX0_permit_23 rfl hl (by decide) rfl (fun ls hl => ?_)
      refine lv_iload_n hx hb dX0_permit_24 rfl (lv_at hl 3 rfl) ?_
      refine lv_iload_n hx hb dX0_permit_25 rfl (lv_at hl 0 rfl) ?_
      refine lv_icmp_ne (tgt := 31) hx hb dX0_permit_26 (by decide) (fun c_3 => ?_) (fun c_3 => ?_)
      · skip
        refine lv_aload_n hx hb dX0_permit_31 rfl (lv_at hl 1 rfl) ?_
        refine va_get (D := D) (ci := 1) (v := .ref (a 6)) (C := RX0) (T := TX0) (N := 3) hx hb (lyX0 ht) (fun _ h9 => h9) hown hK hP 5 rfl rfl 0 (by decide) (fl_X0_11 ht) (fun _ h9 => h9) rfl dX0_permit_32 ?_
        refine lv_iload_n hx hb dX0_permit_35 rfl (lv_at hl 2 rfl) ?_
        refine lv_iload_n hx hb dX0_permit_36 rfl (lv_at hl 3 rfl) ?_
        refine lv_if_ne (tgt := 44) hx hb dX0_permit_37 (by decide) (fun _ => ?_) (fun c_4 => absurd c_4 c_3)
        refine lv_iconst (v := 0) hx hb dX0_permit_44 (by decide) ?_
        refine va_zast hx hb hK hP hD hS 6 2 rfl rfl (hk c_1) dX0_permit_45 (fun H locs hP hD hS => ?_)
        have hP : va_P D vwCl (wI cI cJ cZ a n ah pl ck ct nk pm ja rg bu pn tp st us (upd fb k.toNatClampNeg (vp_nar .boolean 0)) kA tA lx ly gx gy gu gv) H := hP
        have hD : va_D A (wI cI cJ cZ a n ah pl ck ct nk pm ja rg bu pn tp st us (upd fb k.toNatClampNeg (vp_nar .boolean 0)) kA tA lx ly gx gy gu gv) := hD
        refine lv_aload_n hx hb dX0_permit_46 rfl (lv_at hl 1 rfl) ?_
        refine lv_dup hx hb dX0_permit_47 rfl ?_
        refine va_get (D := D) (ci := 1) (v := .int pm) (C := RX0) (T := TX0) (N := 3) hx hb (lyX0 ht) (fun _ h9 => h9) hown hK hP 5 rfl rfl 1 (by decide) (fl_X0_15 ht) (fun _ h9 => h9) rfl dX0_permit_48 ?_
        refine lv_iload_n hx hb dX0_permit_51 rfl (lv_at hl 3 rfl) ?_
        refine lv_if_eq (tgt := 59) hx hb dX0_permit_52 (by decide) (fun c_5 => absurd c_5 c_3) (fun _ => ?_)
        refine lv_iconst (v := 1) hx hb dX0_permit_55 (by decide) ?_
        refine lv_goto (tgt := 60) hx hb dX0_permit_56 (by decide) ?_
        refine lv_iadd hx hb dX0_permit_60 ?_
        refine va_put (D := D) (ci := 1) (v := .int (pm + 1)) (ty := .int) (C := RX0) (T := TX0) (N := 3) hx hb (lyX0 ht) (fun _ h9 => h9) tyX0 tyX0_ok nmX0 hown hK hP hD hS 5 rfl rfl 1 (by decide) (fl_X0_15 ht) (fun _ h9 => h9) rfl (by decide +kernel) rfl rfl (Nat.le_of_ble_eq_true rfl) dX0_permit_61 (fun H locs hP hD hS => ?_)
        have hP : va_P D vwCl (wI cI cJ cZ a n ah pl ck ct nk (pm + 1) ja rg bu pn tp st us (upd fb k.toNatClampNeg (vp_nar .boolean 0)) kA tA lx ly gx gy gu gv) H := hP
        have hD : va_D A (wI cI cJ cZ a n ah pl ck ct nk (pm + 1) ja rg bu pn tp st us (upd fb k.toNatClampNeg (vp_nar .boolean 0)) kA tA lx ly gx gy gu gv) := hD
        refine lv_iconst (v := 1) hx hb dX0_permit_64 (by decide) ?_
        exact wr_z hx hb hr hlocks hAe hP hD hS dX0_permit_65 rfl (⟨by unfold f_X0_permit; rw [if_neg c_1, if_neg c_2, if_neg c_3], by simp only [f_X0_permit_pm, f_X0_permit_fb, if_neg c_1, if_neg c_2, if_neg c_3]⟩)
      · skip
        refine lv_iconst (v := 0) hx hb dX0_permit_29 (by decide) ?_
        exact wr_z hx hb hr hlocks hAe hP hD hS dX0_permit_30 rfl (⟨by unfold f_X0_permit; rw [if_neg c_1, if_neg c_2, if_pos c_3], by simp only [f_X0_permit_pm, f_X0_permit_fb, if_neg c_1, if_neg c_2, if_pos c_3]⟩)
    · skip
      refine lv_iconst (v := 1) hx hb dX0_permit_18 (by decide) ?_
      refine lv_goto (tgt := 23) hx hb dX0_permit_19 (by decide) ?_
      refine lv_istore_n (lv' := [(3, .int 1), (0, .ref (a 5)), (1, .int k), (2, .int z)]) hx hb dX0_permit_23 rfl hl (by decide) rfl (fun ls hl => ?_)
      refine lv_iload_n hx hb dX0_permit_24 rfl (lv_at hl 3 rfl) ?_
      refine lv_iload_n hx hb dX0_permit_25 rfl (lv_at hl 0 rfl) ?_
      refine lv_icmp_ne (tgt := 31) hx hb dX0_permit_26 (by decide) (fun c_6 => ?_) (fun c_6 => ?_)
      · skip
        refine lv_aload_n hx hb dX0_permit_31 rfl (lv_at hl 1 rfl) ?_
        refine va_get (D := D) (ci := 1) (v := .ref (a 6)) (C := RX0) (T := TX0) (N := 3) hx hb (lyX0 ht) (fun _ h9 => h9) hown hK hP 5 rfl rfl 0 (by decide) (fl_X0_11 ht) (fun _ h9 => h9) rfl dX0_permit_32 ?_
        refine lv_iload_n hx hb dX0_permit_35 rfl (lv_at hl 2 rfl) ?_
        refine lv_iload_n hx hb dX0_permit_36 rfl (lv_at hl 3 rfl) ?_
        refine lv_if_ne (tgt := 44) hx hb dX0_permit_37 (by decide) (fun c_7 => ?_) (fun c_7 => ?_)
        · skip
          refine lv_iconst (v := 0) hx hb dX0_permit_44 (by decide) ?_
          refine va_zast hx hb hK hP hD hS 6 2 rfl rfl (hk c_1) dX0_permit_45 (fun H locs hP hD hS => ?_)
          have hP : va_P D vwCl (wI cI cJ cZ a n ah pl ck ct nk pm ja rg bu pn tp st us (upd fb k.toNatClampNeg (vp_nar .boolean 0)) kA tA lx ly gx gy gu gv) H := hP
          have hD : va_D A (wI cI cJ cZ a n ah pl ck ct nk pm ja rg bu pn tp st us (upd fb k.toNatClampNeg (vp_nar .boolean 0)) kA tA lx ly gx gy gu gv) := hD
          refine lv_aload_n hx hb dX0_permit_46 rfl (lv_at hl 1 rfl) ?_
          refine lv_dup hx hb dX0_permit_47 rfl ?_
          refine va_get (D := D) (ci := 1) (v := .int pm) (C := RX0) (T := TX0) (N := 3) hx hb (lyX0 ht) (fun _ h9 => h9) hown hK hP 5 rfl rfl 1 (by decide) (fl_X0_15 ht) (fun _ h9 => h9) rfl dX0_permit_48 ?_
          refine lv_iload_n hx hb dX0_permit_51 rfl (lv_at hl 3 rfl) ?_
          refine lv_if_eq (tgt := 59) hx hb dX0_permit_52 (by decide) (fun c_8 => absurd c_8 c_7) (fun _ => ?_)
          refine lv_iconst (v := 1) hx hb dX0_permit_55 (by decide) ?_
          refine lv_goto (tgt := 60) hx hb dX0_permit_56 (by decide) ?_
          refine lv_iadd hx hb dX0_permit_60 ?_
          refine va_put (D := D) (ci := 1) (v := .int (pm + 1)) (ty := .int) (C := RX0) (T := TX0) (N := 3) hx hb (lyX0 ht) (fun _ h9 => h9) tyX0 tyX0_ok nmX0 hown hK hP hD hS 5 rfl rfl 1 (by decide) (fl_X0_15 ht) (fun _ h9 => h9) rfl (by decide +kernel) rfl rfl (Nat.le_of_ble_eq_true rfl) dX0_permit_61 (fun H locs hP hD hS => ?_)
          have hP : va_P D vwCl (wI cI cJ cZ a n ah pl ck ct nk (pm + 1) ja rg bu pn tp st us (upd fb k.toNatClampNeg (vp_nar .boolean 0)) kA tA lx ly gx gy gu gv) H := hP
          have hD : va_D A (wI cI cJ cZ a n ah pl ck ct nk (pm + 1) ja rg bu pn tp st us (upd fb k.toNatClampNeg (vp_nar .boolean 0)) kA tA lx ly gx gy gu gv) := hD
          refine lv_iconst (v := 1) hx hb dX0_permit_64 (by decide) ?_
          exact wr_z hx hb hr hlocks hAe hP hD hS dX0_permit_65 rfl (⟨by unfold f_X0_permit; rw [if_neg c_1, if_pos c_2, if_neg c_6, if_neg c_7], by simp only [f_X0_permit_pm, f_X0_permit_fb, if_neg c_1, if_pos c_2, if_neg c_6, if_neg c_7]⟩)
        · skip
          refine lv_iconst (v := 1) hx hb dX0_permit_40 (by decide) ?_
          refine lv_goto (tgt := 45) hx hb dX0_permit_41 (by decide) ?_
          refine va_zast hx hb hK hP hD hS 6 2 rfl rfl (hk c_1) dX0_permit_45 (fun H locs hP hD hS => ?_)
          have hP : va_P D vwCl (wI cI cJ cZ a n ah pl ck ct nk pm ja rg bu pn tp st us (upd fb k.toNatClampNeg (vp_nar .boolean 1)) kA tA lx ly gx gy gu gv) H := hP
          have hD : va_D A (wI cI cJ cZ a n ah pl ck ct nk pm ja rg bu pn tp st us (upd fb k.toNatClampNeg (vp_nar .boolean 1)) kA tA lx ly gx gy gu gv) := hD
          refine lv_aload_n hx hb dX0_permit_46 rfl (lv_at hl 1 rfl) ?_
          refine lv_dup hx hb dX0_permit_47 rfl ?_
          refine va_get (D := D) (ci := 1) (v := .int pm) (C := RX0) (T := TX0) (N := 3) hx hb (lyX0 ht) (fun _ h9 => h9) hown hK hP 5 rfl rfl 1 (by decide) (fl_X0_15 ht) (fun _ h9 => h9) rfl dX0_permit_48 ?_
          refine lv_iload_n hx hb dX0_permit_51 rfl (lv_at hl 3 rfl) ?_
          refine lv_if_eq (tgt := 59) hx hb dX0_permit_52 (by decide) (fun _ => ?_) (fun c_9 => absurd c_7 c_9)
          refine lv_iconst (v := -1) hx hb dX0_permit_59 (by decide) ?_
          refine lv_iadd hx hb dX0_permit_60 ?_
          refine va_put (D := D) (ci := 1) (v := .int (pm + (-1))) (ty := .int) (C := RX0) (T := TX0) (N := 3) hx hb (lyX0 ht) (fun _ h9 => h9) tyX0 tyX0_ok nmX0 hown hK hP hD hS 5 rfl rfl 1 (by decide) (fl_X0_15 ht) (fun _ h9 => h9) rfl (by decide +kernel) rfl rfl (Nat.le_of_ble_eq_true rfl) dX0_permit_61 (fun H locs hP hD hS => ?_)
          have hP : va_P D vwCl (wI cI cJ cZ a n ah pl ck ct nk (pm + (-1)) ja rg bu pn tp st us (upd fb k.toNatClampNeg (vp_nar .boolean 1)) kA tA lx ly gx gy gu gv) H := hP
          have hD : va_D A (wI cI cJ cZ a n ah pl ck ct nk (pm + (-1)) ja rg bu pn tp st us (upd fb k.toNatClampNeg (vp_nar .boolean 1)) kA tA lx ly gx gy gu gv) := hD
          refine lv_iconst (v := 1) hx hb dX0_permit_64 (by decide) ?_
          exact wr_z hx hb hr hlocks hAe hP hD hS dX0_permit_65 rfl (⟨by unfold f_X0_permit; rw [if_neg c_1, if_pos c_2, if_neg c_6, if_pos c_7], by simp only [f_X0_permit_pm, f_X0_permit_fb, if_neg c_1, if_pos c_2, if_neg c_6, if_pos c_7]⟩)
      · skip
        refine lv_iconst (v := 0) hx hb dX0_permit_29 (by decide) ?_
        exact wr_z hx hb hr hlocks hAe hP hD hS dX0_permit_30 rfl (⟨by unfold f_X0_permit; rw [if_neg c_1, if_pos c_2, if_pos c_6], by simp only [f_X0_permit_pm, f_X0_permit_fb, if_neg c_1, if_pos c_2, if_pos c_6]⟩)
  · skip
    refine lv_iconst (v := 0) hx hb dX0_permit_7 (by decide) ?_
    exact wr_z hx hb hr hlocks hAe hP hD hS dX0_permit_8 rfl (⟨by unfold f_X0_permit; rw [if_pos c_1], by simp only [f_X0_permit_pm, f_X0_permit_fb, if_pos c_1]⟩)
def f_X1_add (nk : Int32) : Int32 := (nk + 1) - 1
def f_X1_add_nk (nk : Int32) : Int32 := nk + 1
def f_X1_add_tp (k : Int32) (nk : Int32) (tp : Nat → Int32) : Nat → Int32 := upd tp nk.toNatClampNeg k
def f_X1_add_st (z : Int32) (nk : Int32) (st : Nat → Int32) : Nat → Int32 := upd st nk.toNatClampNeg z
set_option maxRecDepth 20000 in
set_option maxHeartbeats 4000000 in
theorem k_X1_add (l : Launch) (D : va_G) (cI cJ cZ : ClassId) (a : Nat → Nat) (n : Nat) (ah pl ck ct nk pm ja rg bu pn : Int32) (tp st us fb kA tA : Nat → Int32) (lx ly gx gy gu gv : Nat → Int64) (k : Int32) (z : Int32) (hk : vp_in nk 4) : WR l yX1_add cX1_add 3 (some .int) 0 0 0 D (tysW cI cJ cZ) (wI cI cJ cZ a n ah pl ck ct nk pm ja rg bu pn tp st us fb kA tA lx ly gx gy gu gv) [.ref (a 1), .int k, .int z] (fun ov w' => ov = some (.int (f_X1_add nk)) ∧ w' = wI cI cJ cZ a n ah pl ck ct (f_X1_add_nk nk) pm ja rg bu pn (f_X1_add_tp k nk tp) (f_X1_add_st z nk st) us fb kA tA lx ly gx gy gu gv) := by
  refine WR.of (by decide) ?_
  intro p e s m below meth c A hadm hx hb hr hml hown hlocks hname hE hP hK hD hS hA hAe
  have hown : s.vm.findClass RX1 = some m.cls := hown
  have ht : tb_OK s := hE.1
  have hl := lv_entry ([.ref (a 1), .int k, .int z]) (n := 3) (Nat.le_of_ble_eq_true rfl)
  rw [lg_entry_eq]
  generalize (lg_sl ([.ref (a 1), .int k, .int z]) ++ List.replicate (3 - (lg_sl ([.ref (a 1), .int k, .int z])).length) Slot.unset).toArray = ls at hl ⊢
  have hl : lv_has ls 3 [(0, .ref (a 1)), (1, .int k), (2, .int z)] := hl
  refine lv_aload_n hx hb dX1_add_0 rfl (lv_at hl 0 rfl) ?_
  refine va_get (D := D) (ci := 2) (v := .ref (a 2)) (C := RX1) (T := TX1) (N := 4) hx hb (lyX1 ht) (fun _ h9 => h9) hown hK hP 1 rfl rfl 0 (by decide) (fl_X1_9 ht) (fun _ h9 => h9) rfl dX1_add_1 ?_
  refine lv_aload_n hx hb dX1_add_4 rfl (lv_at hl 0 rfl) ?_
  refine va_get (D := D) (ci := 2) (v := .int nk) (C := RX1) (T := TX1) (N := 4) hx hb (lyX1 ht) (fun _ h9 => h9) hown hK hP 1 rfl rfl 3 (by decide) (fl_X1_19 ht) (fun _ h9 => h9) rfl dX1_add_5 ?_
  refine lv_iload_n hx hb dX1_add_8 rfl (lv_at hl 1 rfl) ?_
  refine va_iast hx hb hK hP hD hS 2 0 rfl rfl hk dX1_add_9 (fun H locs hP hD hS => ?_)
  have hP : va_P D vwCl (wI cI cJ cZ a n ah pl ck ct nk pm ja rg bu pn (upd tp nk.toNatClampNeg k) st us fb kA tA lx ly gx gy gu gv) H := hP
  have hD : va_D A (wI cI cJ cZ a n ah pl ck ct nk pm ja rg bu pn (upd tp nk.toNatClampNeg k) st us fb kA tA lx ly gx gy gu gv) := hD
  refine lv_aload_n hx hb dX1_add_10 rfl (lv_at hl 0 rfl) ?_
  refine va_get (D := D) (ci := 2) (v := .ref (a 3)) (C := RX1) (T := TX1) (N := 4) hx hb (lyX1 ht) (fun _ h9 => h9) hown hK hP 1 rfl rfl 1 (by decide) (fl_X1_13 ht) (fun _ h9 => h9) rfl dX1_add_11 ?_
  refine lv_aload_n hx hb dX1_add_14 rfl (lv_at hl 0 rfl) ?_
  refine va_get (D := D) (ci := 2) (v := .int nk) (C := RX1) (T := TX1) (N := 4) hx hb (lyX1 ht) (fun _ h9 => h9) hown hK hP 1 rfl rfl 3 (by decide) (fl_X1_19 ht) (fun _ h9 => h9) rfl dX1_add_15 ?_
  refine lv_iload_n hx hb dX1_add_18 rfl (lv_at hl 2 rfl) ?_
  refine va_iast hx hb hK hP hD hS 3 0 rfl rfl hk dX1_add_19 (fun H locs hP hD hS => ?_)
  have hP : va_P D vwCl (wI cI cJ cZ a n ah pl ck ct nk pm ja rg bu pn (upd tp nk.toNatClampNeg k) (upd st nk.toNatClampNeg z) us fb kA tA lx ly gx gy gu gv) H := hP
  have hD : va_D A (wI cI cJ cZ a n ah pl ck ct nk pm ja rg bu pn (upd tp nk.toNatClampNeg k) (upd st nk.toNatClampNeg z) us fb kA tA lx ly gx gy gu gv) := hD
  refine lv_aload_n hx hb dX1_add_20 rfl (lv_at hl 0 rfl) ?_
  refine lv_dup hx hb dX1_add_21 rfl ?_
  refine va_get (D := D) (ci := 2) (v := .int nk) (C := RX1) (T := TX1) (N := 4) hx hb (lyX1 ht) (fun _ h9 => h9) hown hK hP 1 rfl rfl 3 (by decide) (fl_X1_19 ht) (fun _ h9 => h9) rfl dX1_add_22 ?_
  refine lv_iconst (v := 1) hx hb dX1_add_25 (by decide) ?_
  refine lv_iadd hx hb dX1_add_26 ?_
  refine va_put (D := D) (ci := 2) (v := .int (nk + 1)) (ty := .int) (C := RX1) (T := TX1) (N := 4) hx hb (lyX1 ht) (fun _ h9 => h9) tyX1 tyX1_ok nmX1 hown hK hP hD hS 1 rfl rfl 3 (by decide) (fl_X1_19 ht) (fun _ h9 => h9) rfl (by decide +kernel) rfl rfl (Nat.le_of_ble_eq_true rfl) dX1_add_27 (fun H locs hP hD hS => ?_)
  have hP : va_P D vwCl (wI cI cJ cZ a n ah pl ck ct (nk + 1) pm ja rg bu pn (upd tp nk.toNatClampNeg k) (upd st nk.toNatClampNeg z) us fb kA tA lx ly gx gy gu gv) H := hP
  have hD : va_D A (wI cI cJ cZ a n ah pl ck ct (nk + 1) pm ja rg bu pn (upd tp nk.toNatClampNeg k) (upd st nk.toNatClampNeg z) us fb kA tA lx ly gx gy gu gv) := hD
  refine lv_aload_n hx hb dX1_add_30 rfl (lv_at hl 0 rfl) ?_
  refine va_get (D := D) (ci := 2) (v := .int (nk + 1)) (C := RX1) (T := TX1) (N := 4) hx hb (lyX1 ht) (fun _ h9 => h9) hown hK hP 1 rfl rfl 3 (by decide) (fl_X1_19 ht) (fun _ h9 => h9) rfl dX1_add_31 ?_
  refine lv_iconst (v := 1) hx hb dX1_add_34 (by decide) ?_
  refine lv_isub hx hb dX1_add_35 ?_
  exact wr_i hx hb hr hlocks hAe hP hD hS dX1_add_36 (⟨rfl, rfl⟩)
def f_X1_enlarge (k : Int32) (z : Int32) (st : Nat → Int32) : Int32 := (upd st k.toNatClampNeg ((st k.toNatClampNeg) + z)) k.toNatClampNeg
def f_X1_enlarge_st (k : Int32) (z : Int32) (st : Nat → Int32) : Nat → Int32 := upd st k.toNatClampNeg ((st k.toNatClampNeg) + z)
set_option maxRecDepth 20000 in
set_option maxHeartbeats 4000000 in
theorem k_X1_enlarge (l : Launch) (D : va_G) (cI cJ cZ : ClassId) (a : Nat → Nat) (n : Nat) (ah pl ck ct nk pm ja rg bu pn : Int32) (tp st us fb kA tA : Nat → Int32) (lx ly gx gy gu gv : Nat → Int64) (k : Int32) (z : Int32) (hk : vp_in k 4) : WR l yX1_enlarge cX1_enlarge 3 (some .int) 0 0 0 D (tysW cI cJ cZ) (wI cI cJ cZ a n ah pl ck ct nk pm ja rg bu pn tp st us fb kA tA lx ly gx gy gu gv) [.ref (a 1), .int k, .int z] (fun ov w' => ov = some (.int (f_X1_enlarge k z st)) ∧ w' = wI cI cJ cZ a n ah pl ck ct nk pm ja rg bu pn tp (f_X1_enlarge_st k z st) us fb kA tA lx ly gx gy gu gv) := by
  refine WR.of (by decide) ?_
  intro p e s m below meth c A hadm hx hb hr hml hown hlocks hname hE hP hK hD hS hA hAe
  have hown : s.vm.findClass RX1 = some m.cls := hown
  have ht : tb_OK s := hE.1
  have hl := lv_entry ([.ref (a 1), .int k, .int z]) (n := 3) (Nat.le_of_ble_eq_true rfl)
  rw [lg_entry_eq]
  generalize (lg_sl ([.ref (a 1), .int k, .int z]) ++ List.replicate (3 - (lg_sl ([.ref (a 1), .int k, .int z])).length) Slot.unset).toArray = ls at hl ⊢
  have hl : lv_has ls 3 [(0, .ref (a 1)), (1, .int k), (2, .int z)] := hl
  refine lv_aload_n hx hb dX1_enlarge_0 rfl (lv_at hl 0 rfl) ?_
  refine va_get (D := D) (ci := 2) (v := .ref (a 3)) (C := RX1) (T := TX1) (N := 4) hx hb (lyX1 ht) (fun _ h9 => h9) hown hK hP 1 rfl rfl 1 (by decide) (fl_X1_13 ht) (fun _ h9 => h9) rfl dX1_enlarge_1 ?_
  refine lv_iload_n hx hb dX1_enlarge_4 rfl (lv_at hl 1 rfl) ?_
  refine lv_dup2_11 hx hb dX1_enlarge_5 rfl rfl ?_
  refine va_iald hx hb hK hP 3 0 rfl rfl hk dX1_enlarge_6 ?_
  refine lv_iload_n hx hb dX1_enlarge_7 rfl (lv_at hl 2 rfl) ?_
  refine lv_iadd hx hb dX1_enlarge_8 ?_
  refine va_iast hx hb hK hP hD hS 3 0 rfl rfl hk dX1_enlarge_9 (fun H locs hP hD hS => ?_)
  have hP : va_P D vwCl (wI cI cJ cZ a n ah pl ck ct nk pm ja rg bu pn tp (upd st k.toNatClampNeg ((st k.toNatClampNeg) + z)) us fb kA tA lx ly gx gy gu gv) H := hP
  have hD : va_D A (wI cI cJ cZ a n ah pl ck ct nk pm ja rg bu pn tp (upd st k.toNatClampNeg ((st k.toNatClampNeg) + z)) us fb kA tA lx ly gx gy gu gv) := hD
  refine lv_aload_n hx hb dX1_enlarge_10 rfl (lv_at hl 0 rfl) ?_
  refine va_get (D := D) (ci := 2) (v := .ref (a 3)) (C := RX1) (T := TX1) (N := 4) hx hb (lyX1 ht) (fun _ h9 => h9) hown hK hP 1 rfl rfl 1 (by decide) (fl_X1_13 ht) (fun _ h9 => h9) rfl dX1_enlarge_11 ?_
  refine lv_iload_n hx hb dX1_enlarge_14 rfl (lv_at hl 1 rfl) ?_
  refine va_iald hx hb hK hP 3 0 rfl rfl hk dX1_enlarge_15 ?_
  exact wr_i hx hb hr hlocks hAe hP hD hS dX1_enlarge_16 (⟨rfl, rfl⟩)
def f_X1_take_us (k : Int32) (us : Nat → Int32) : Nat → Int32 := upd us k.toNatClampNeg ((us k.toNatClampNeg) + 1)
set_option maxRecDepth 20000 in
set_option maxHeartbeats 4000000 in
theorem k_X1_take (l : Launch) (D : va_G) (cI cJ cZ : ClassId) (a : Nat → Nat) (n : Nat) (ah pl ck ct nk pm ja rg bu pn : Int32) (tp st us fb kA tA : Nat → Int32) (lx ly gx gy gu gv : Nat → Int64) (k : Int32) (hk : vp_in k 4) : WR l yX1_take cX1_take 2 none 0 0 0 D (tysW cI cJ cZ) (wI cI cJ cZ a n ah pl ck ct nk pm ja rg bu pn tp st us fb kA tA lx ly gx gy gu gv) [.ref (a 1), .int k] (fun ov w' => ov = none ∧ w' = wI cI cJ cZ a n ah pl ck ct nk pm ja rg bu pn tp st (f_X1_take_us k us) fb kA tA lx ly gx gy gu gv) := by
  refine WR.of (by decide) ?_
  intro p e s m below meth c A hadm hx hb hr hml hown hlocks hname hE hP hK hD hS hA hAe
  have hown : s.vm.findClass RX1 = some m.cls := hown
  have ht : tb_OK s := hE.1
  have hl := lv_entry ([.ref (a 1), .int k]) (n := 2) (Nat.le_of_ble_eq_true rfl)
  rw [lg_entry_eq]
  generalize (lg_sl ([.ref (a 1), .int k]) ++ List.replicate (2 - (lg_sl ([.ref (a 1), .int k])).length) Slot.unset).toArray = ls at hl ⊢
  have hl : lv_has ls 2 [(0, .ref (a 1)), (1, .int k)] := hl
  refine lv_aload_n hx hb dX1_take_0 rfl (lv_at hl 0 rfl) ?_
  refine va_get (D := D) (ci := 2) (v := .ref (a 4)) (C := RX1) (T := TX1) (N := 4) hx hb (lyX1 ht) (fun _ h9 => h9) hown hK hP 1 rfl rfl 2 (by decide) (fl_X1_16 ht) (fun _ h9 => h9) rfl dX1_take_1 ?_
  refine lv_iload_n hx hb dX1_take_4 rfl (lv_at hl 1 rfl) ?_
  refine lv_dup2_11 hx hb dX1_take_5 rfl rfl ?_
  refine va_iald hx hb hK hP 4 0 rfl rfl hk dX1_take_6 ?_
  refine lv_iconst (v := 1) hx hb dX1_take_7 (by decide) ?_
  refine lv_iadd hx hb dX1_take_8 ?_
  refine va_iast hx hb hK hP hD hS 4 0 rfl rfl hk dX1_take_9 (fun H locs hP hD hS => ?_)
  have hP : va_P D vwCl (wI cI cJ cZ a n ah pl ck ct nk pm ja rg bu pn tp st (upd us k.toNatClampNeg ((us k.toNatClampNeg) + 1)) fb kA tA lx ly gx gy gu gv) H := hP
  have hD : va_D A (wI cI cJ cZ a n ah pl ck ct nk pm ja rg bu pn tp st (upd us k.toNatClampNeg ((us k.toNatClampNeg) + 1)) fb kA tA lx ly gx gy gu gv) := hD
  exact wr_v hx hb hr hlocks hAe hP hD hS dX1_take_10 (⟨rfl, rfl⟩)
def f_X1_giveBack_us (k : Int32) (us : Nat → Int32) : Nat → Int32 := upd us k.toNatClampNeg ((us k.toNatClampNeg) - 1)
set_option maxRecDepth 20000 in
set_option maxHeartbeats 4000000 in
theorem k_X1_giveBack (l : Launch) (D : va_G) (cI cJ cZ : ClassId) (a : Nat → Nat) (n : Nat) (ah pl ck ct nk pm ja rg bu pn : Int32) (tp st us fb kA tA : Nat → Int32) (lx ly gx gy gu gv : Nat → Int64) (k : Int32) (hk : vp_in k 4) : WR l yX1_giveBack cX1_giveBack 2 none 0 0 0 D (tysW cI cJ cZ) (wI cI cJ cZ a n ah pl ck ct nk pm ja rg bu pn tp st us fb kA tA lx ly gx gy gu gv) [.ref (a 1), .int k] (fun ov w' => ov = none ∧ w' = wI cI cJ cZ a n ah pl ck ct nk pm ja rg bu pn tp st (f_X1_giveBack_us k us) fb kA tA lx ly gx gy gu gv) := by
  refine WR.of (by decide) ?_
  intro p e s m below meth c A hadm hx hb hr hml hown hlocks hname hE hP hK hD hS hA hAe
  have hown : s.vm.findClass RX1 = some m.cls := hown
  have ht : tb_OK s := hE.1
  have hl := lv_entry ([.ref (a 1), .int k]) (n := 2) (Nat.le_of_ble_eq_true rfl)
  rw [lg_entry_eq]
  generalize (lg_sl ([.ref (a 1), .int k]) ++ List.replicate (2 - (lg_sl ([.ref (a 1), .int k])).length) Slot.unset).toArray = ls at hl ⊢
  have hl : lv_has ls 2 [(0, .ref (a 1)), (1, .int k)] := hl
  refine lv_aload_n hx hb dX1_giveBack_0 rfl (lv_at hl 0 rfl) ?_
  refine va_get (D := D) (ci := 2) (v := .ref (a 4)) (C := RX1) (T := TX1) (N := 4) hx hb (lyX1 ht) (fun _ h9 => h9) hown hK hP 1 rfl rfl 2 (by decide) (fl_X1_16 ht) (fun _ h9 => h9) rfl dX1_giveBack_1 ?_
  refine lv_iload_n hx hb dX1_giveBack_4 rfl (lv_at hl 1 rfl) ?_
  refine lv_dup2_11 hx hb dX1_giveBack_5 rfl rfl ?_
  refine va_iald hx hb hK hP 4 0 rfl rfl hk dX1_giveBack_6 ?_
  refine lv_iconst (v := 1) hx hb dX1_giveBack_7 (by decide) ?_
  refine lv_isub hx hb dX1_giveBack_8 ?_
  refine va_iast hx hb hK hP hD hS 4 0 rfl rfl hk dX1_giveBack_9 (fun H locs hP hD hS => ?_)
  have hP : va_P D vwCl (wI cI cJ cZ a n ah pl ck ct nk pm ja rg bu pn tp st (upd us k.toNatClampNeg ((us k.toNatClampNeg) - 1)) fb kA tA lx ly gx gy gu gv) H := hP
  have hD : va_D A (wI cI cJ cZ a n ah pl ck ct nk pm ja rg bu pn tp st (upd us k.toNatClampNeg ((us k.toNatClampNeg) - 1)) fb kA tA lx ly gx gy gu gv) := hD
  exact wr_v hx hb hr hlocks hAe hP hD hS dX1_giveBack_10 (⟨rfl, rfl⟩)
def f_X2_setPoint_lx (r : Int32) (v : Int32) (lx : Nat → Int64) : Nat → Int64 := vp_updL lx r.toNatClampNeg v.toInt64
def f_X2_setPoint_ly (r : Int32) (z : Int32) (ly : Nat → Int64) : Nat → Int64 := vp_updL ly r.toNatClampNeg z.toInt64
set_option maxRecDepth 20000 in
set_option maxHeartbeats 4000000 in
theorem k_X2_setPoint (l : Launch) (D : va_G) (cI cJ cZ : ClassId) (a : Nat → Nat) (n : Nat) (ah pl ck ct nk pm ja rg bu pn : Int32) (tp st us fb kA tA : Nat → Int32) (lx ly gx gy gu gv : Nat → Int64) (r : Int32) (v : Int32) (z : Int32) (hk : vp_in r n) : WR l yX2_setPoint cX2_setPoint 4 none 0 0 0 D (tysW cI cJ cZ) (wI cI cJ cZ a n ah pl ck ct nk pm ja rg bu pn tp st us fb kA tA lx ly gx gy gu gv) [.ref (a 7), .int r, .int v, .int z] (fun ov w' => ov = none ∧ w' = wI cI cJ cZ a n ah pl ck ct nk pm ja rg bu pn tp st us fb kA tA (f_X2_setPoint_lx r v lx) (f_X2_setPoint_ly r z ly) gx gy gu gv) := by
  refine WR.of (by decide) ?_
  intro p e s m below meth c A hadm hx hb hr hml hown hlocks hname hE hP hK hD hS hA hAe
  have hown : s.vm.findClass RX2 = some m.cls := hown
  have ht : tb_OK s := hE.1
  have hl := lv_entry ([.ref (a 7), .int r, .int v, .int z]) (n := 4) (Nat.le_of_ble_eq_true rfl)
  rw [lg_entry_eq]
  generalize (lg_sl ([.ref (a 7), .int r, .int v, .int z]) ++ List.replicate (4 - (lg_sl ([.ref (a 7), .int r, .int v, .int z])).length) Slot.unset).toArray = ls at hl ⊢
  have hl : lv_has ls 4 [(0, .ref (a 7)), (1, .int r), (2, .int v), (3, .int z)] := hl
  refine lv_aload_n hx hb dX2_setPoint_0 rfl (lv_at hl 0 rfl) ?_
  refine va_get (D := D) (ci := 3) (v := .ref (a 10)) (C := RX2) (T := TX2) (N := 11) hx hb (lyX2 ht) (fun _ h9 => h9) hown hK hP 7 rfl rfl 5 (by decide) (fl_X2_28 ht) (fun _ h9 => h9) rfl dX2_setPoint_1 ?_
  refine lv_iload_n hx hb dX2_setPoint_4 rfl (lv_at hl 1 rfl) ?_
  refine lv_iload_n hx hb dX2_setPoint_5 rfl (lv_at hl 2 rfl) ?_
  refine lv_i2l (v := v.toInt64) hx hb dX2_setPoint_6 rfl ?_
  refine va_last hx hb hK hP hD hS 10 1 rfl rfl hk dX2_setPoint_7 (fun H locs hP hD hS => ?_)
  have hP : va_P D vwCl (wI cI cJ cZ a n ah pl ck ct nk pm ja rg bu pn tp st us fb kA tA (vp_updL lx r.toNatClampNeg v.toInt64) ly gx gy gu gv) H := hP
  have hD : va_D A (wI cI cJ cZ a n ah pl ck ct nk pm ja rg bu pn tp st us fb kA tA (vp_updL lx r.toNatClampNeg v.toInt64) ly gx gy gu gv) := hD
  refine lv_aload_n hx hb dX2_setPoint_8 rfl (lv_at hl 0 rfl) ?_
  refine va_get (D := D) (ci := 3) (v := .ref (a 11)) (C := RX2) (T := TX2) (N := 11) hx hb (lyX2 ht) (fun _ h9 => h9) hown hK hP 7 rfl rfl 6 (by decide) (fl_X2_32 ht) (fun _ h9 => h9) rfl dX2_setPoint_9 ?_
  refine lv_iload_n hx hb dX2_setPoint_12 rfl (lv_at hl 1 rfl) ?_
  refine lv_iload_n hx hb dX2_setPoint_13 rfl (lv_at hl 3 rfl) ?_
  refine lv_i2l (v := z.toInt64) hx hb dX2_setPoint_14 rfl ?_
  refine va_last hx hb hK hP hD hS 11 1 rfl rfl hk dX2_setPoint_15 (fun H locs hP hD hS => ?_)
  have hP : va_P D vwCl (wI cI cJ cZ a n ah pl ck ct nk pm ja rg bu pn tp st us fb kA tA (vp_updL lx r.toNatClampNeg v.toInt64) (vp_updL ly r.toNatClampNeg z.toInt64) gx gy gu gv) H := hP
  have hD : va_D A (wI cI cJ cZ a n ah pl ck ct nk pm ja rg bu pn tp st us fb kA tA (vp_updL lx r.toNatClampNeg v.toInt64) (vp_updL ly r.toNatClampNeg z.toInt64) gx gy gu gv) := hD
  exact wr_v hx hb hr hlocks hAe hP hD hS dX2_setPoint_16 (⟨rfl, rfl⟩)
def f_X2_lay_kA (r : Int32) (k : Int32) (kA : Nat → Int32) : Nat → Int32 := upd kA r.toNatClampNeg k
def f_X2_lay_tA (r : Int32) (z : Int32) (tA : Nat → Int32) : Nat → Int32 := upd tA r.toNatClampNeg z
def f_X2_lay_gx (r : Int32) (v : Int32) (z : Int32) (gx : Nat → Int64) (gu : Nat → Int64) : Nat → Int64 := vp_updL gx (r + 1).toNatClampNeg (((gx r.toNatClampNeg) + ((vp_updL gu (r + 1).toNatClampNeg ((gu r.toNatClampNeg) + ((v * (f_X0_c z)).toInt64))) r.toNatClampNeg)) + ((vp_updL gu (r + 1).toNatClampNeg ((gu r.toNatClampNeg) + ((v * (f_X0_c z)).toInt64))) (r + 1).toNatClampNeg))
def f_X2_lay_gy (r : Int32) (v : Int32) (z : Int32) (gy : Nat → Int64) (gv : Nat → Int64) : Nat → Int64 := vp_updL gy (r + 1).toNatClampNeg (((gy r.toNatClampNeg) + ((vp_updL gv (r + 1).toNatClampNeg ((gv r.toNatClampNeg) + ((v * (f_X0_s z)).toInt64))) r.toNatClampNeg)) + ((vp_updL gv (r + 1).toNatClampNeg ((gv r.toNatClampNeg) + ((v * (f_X0_s z)).toInt64))) (r + 1).toNatClampNeg))
def f_X2_lay_gu (r : Int32) (v : Int32) (z : Int32) (gu : Nat → Int64) : Nat → Int64 := vp_updL gu (r + 1).toNatClampNeg ((gu r.toNatClampNeg) + ((v * (f_X0_c z)).toInt64))
def f_X2_lay_gv (r : Int32) (v : Int32) (z : Int32) (gv : Nat → Int64) : Nat → Int64 := vp_updL gv (r + 1).toNatClampNeg ((gv r.toNatClampNeg) + ((v * (f_X0_s z)).toInt64))
set_option maxRecDepth 20000 in
set_option maxHeartbeats 4000000 in
theorem k_X2_lay (l : Launch) (D : va_G) (cI cJ cZ : ClassId) (a : Nat → Nat) (n : Nat) (ah pl ck ct nk pm ja rg bu pn : Int32) (tp st us fb kA tA : Nat → Int32) (lx ly gx gy gu gv : Nat → Int64) (r : Int32) (k : Int32) (v : Int32) (z : Int32) (h0 : vp_in r n) (h1 : vp_in r (n + 1)) (h2 : vp_in (r + 1) (n + 1)) : WR l yX2_lay cX2_lay 5 none 1 0 0 D (tysW cI cJ cZ) (wI cI cJ cZ a n ah pl ck ct nk pm ja rg bu pn tp st us fb kA tA lx ly gx gy gu gv) [.ref (a 7), .int r, .int k, .int v, .int z] (fun ov w' => ov = none ∧ w' = wI cI cJ cZ a n ah pl ck ct nk pm ja rg bu pn tp st us fb (f_X2_lay_kA r k kA) (f_X2_lay_tA r z tA) lx ly (f_X2_lay_gx r v z gx gu) (f_X2_lay_gy r v z gy gv) (f_X2_lay_gu r v z gu) (f_X2_lay_gv r v z gv)) := by
  refine WR.of (by decide) ?_
  intro p e s m below meth c A hadm hx hb hr hml hown hlocks hname hE hP hK hD hS hA hAe
  have hown : s.vm.findClass RX2 = some m.cls := hown
  have ht : tb_OK s := hE.1
  have hl := lv_entry ([.ref (a 7), .int r, .int k, .int v, .int z]) (n := 5) (Nat.le_of_ble_eq_true rfl)
  rw [lg_entry_eq]
  generalize (lg_sl ([.ref (a 7), .int r, .int k, .int v, .int z]) ++ List.replicate (5 - (lg_sl ([.ref (a 7), .int r, .int k, .int v, .int z])).length) Slot.unset).toArray = ls at hl ⊢
  have hl : lv_has ls 5 [(0, .ref (a 7)), (1, .int r), (2, .int k), (3, .int v), (4, .int z)] := hl
  refine lv_aload_n hx hb dX2_lay_0 rfl (lv_at hl 0 rfl) ?_
  refine va_get (D := D) (ci := 3) (v := .ref (a 8)) (C := RX2) (T := TX2) (N := 11) hx hb (lyX2 ht) (fun _ h9 => h9) hown hK hP 7 rfl rfl 3 (by decide) (fl_X2_21 ht) (fun _ h9 => h9) rfl dX2_lay_1 ?_
  refine lv_iload_n hx hb dX2_lay_4 rfl (lv_at hl 1 rfl) ?_
  refine lv_iload_n hx hb dX2_lay_5 rfl (lv_at hl 2 rfl) ?_
  refine va_iast hx hb hK hP hD hS 8 0 rfl rfl h0 dX2_lay_6 (fun H locs hP hD hS => ?_)
  have hP : va_P D vwCl (wI cI cJ cZ a n ah pl ck ct nk pm ja rg bu pn tp st us fb (upd kA r.toNatClampNeg k) tA lx ly gx gy gu gv) H := hP
  have hD : va_D A (wI cI cJ cZ a n ah pl ck ct nk pm ja rg bu pn tp st us fb (upd kA r.toNatClampNeg k) tA lx ly gx gy gu gv) := hD
  refine lv_aload_n hx hb dX2_lay_7 rfl (lv_at hl 0 rfl) ?_
  refine va_get (D := D) (ci := 3) (v := .ref (a 9)) (C := RX2) (T := TX2) (N := 11) hx hb (lyX2 ht) (fun _ h9 => h9) hown hK hP 7 rfl rfl 4 (by decide) (fl_X2_25 ht) (fun _ h9 => h9) rfl dX2_lay_8 ?_
  refine lv_iload_n hx hb dX2_lay_11 rfl (lv_at hl 1 rfl) ?_
  refine lv_iload hx hb dX2_lay_12 (lv_at hl 4 rfl) ?_
  refine va_iast hx hb hK hP hD hS 9 0 rfl rfl h0 dX2_lay_14 (fun H locs hP hD hS => ?_)
  have hP : va_P D vwCl (wI cI cJ cZ a n ah pl ck ct nk pm ja rg bu pn tp st us fb (upd kA r.toNatClampNeg k) (upd tA r.toNatClampNeg z) lx ly gx gy gu gv) H := hP
  have hD : va_D A (wI cI cJ cZ a n ah pl ck ct nk pm ja rg bu pn tp st us fb (upd kA r.toNatClampNeg k) (upd tA r.toNatClampNeg z) lx ly gx gy gu gv) := hD
  refine lv_aload_n hx hb dX2_lay_15 rfl (lv_at hl 0 rfl) ?_
  refine va_get (D := D) (ci := 3) (v := .ref (a 14)) (C := RX2) (T := TX2) (N := 11) hx hb (lyX2 ht) (fun _ h9 => h9) hown hK hP 7 rfl rfl 9 (by decide) (fl_X2_41 ht) (fun _ h9 => h9) rfl dX2_lay_16 ?_
  refine lv_iload_n hx hb dX2_lay_19 rfl (lv_at hl 1 rfl) ?_
  refine lv_iconst (v := 1) hx hb dX2_lay_20 (by decide) ?_
  refine lv_iadd hx hb dX2_lay_21 ?_
  refine lv_aload_n hx hb dX2_lay_22 rfl (lv_at hl 0 rfl) ?_
  refine va_get (D := D) (ci := 3) (v := .ref (a 14)) (C := RX2) (T := TX2) (N := 11) hx hb (lyX2 ht) (fun _ h9 => h9) hown hK hP 7 rfl rfl 9 (by decide) (fl_X2_41 ht) (fun _ h9 => h9) rfl dX2_lay_23 ?_
  refine lv_iload_n hx hb dX2_lay_26 rfl (lv_at hl 1 rfl) ?_
  refine va_lald hx hb hK hP 14 1 rfl rfl h1 dX2_lay_27 ?_
  refine lv_iload_n hx hb dX2_lay_28 rfl (lv_at hl 3 rfl) ?_
  refine lv_iload hx hb dX2_lay_29 (lv_at hl 4 rfl) ?_
  refine rdSN (As := [.int z]) (rest := [.int v, .long (gu r.toNatClampNeg), .int (r + 1), .ref (a 14)]) (st1 := [.int (f_X0_c z), .int v, .long (gu r.toNatClampNeg), .int (r + 1), .ref (a 14)]) (k_X0_c l D (tysW cI cJ cZ) z) (si_X2_51 ht ⟨Nat.le_of_ble_eq_true rfl, Nat.le_of_ble_eq_true rfl⟩) hx hb hml hown (hE.since hS) pNil hK rfl hl.1 rfl (Nat.le_of_ble_eq_true rfl) ⟨Nat.zero_le _, Nat.zero_le _⟩ dX2_lay_31 rfl ?_
  refine lv_imul hx hb dX2_lay_34 ?_
  refine lv_i2l (v := (v * (f_X0_c z)).toInt64) hx hb dX2_lay_35 rfl ?_
  refine lv_ladd hx hb dX2_lay_36 ?_
  refine va_last hx hb hK hP hD hS 14 1 rfl rfl h2 dX2_lay_37 (fun H locs hP hD hS => ?_)
  have hP : va_P D vwCl (wI cI cJ cZ a n ah pl ck ct nk pm ja rg bu pn tp st us fb (upd kA r.toNatClampNeg k) (upd tA r.toNatClampNeg z) lx ly gx gy (vp_updL gu (r + 1).toNatClampNeg ((gu r.toNatClampNeg) + ((v * (f_X0_c z)).toInt64))) gv) H := hP
  have hD : va_D A (wI cI cJ cZ a n ah pl ck ct nk pm ja rg bu pn tp st us fb (upd kA r.toNatClampNeg k) (upd tA r.toNatClampNeg z) lx ly gx gy (vp_updL gu (r + 1).toNatClampNeg ((gu r.toNatClampNeg) + ((v * (f_X0_c z)).toInt64))) gv) := hD
  refine lv_aload_n hx hb dX2_lay_38 rfl (lv_at hl 0 rfl) ?_
  refine va_get (D := D) (ci := 3) (v := .ref (a 15)) (C := RX2) (T := TX2) (N := 11) hx hb (lyX2 ht) (fun _ h9 => h9) hown hK hP 7 rfl rfl 10 (by decide) (fl_X2_44 ht) (fun _ h9 => h9) rfl dX2_lay_39 ?_
  refine lv_iload_n hx hb dX2_lay_42 rfl (lv_at hl 1 rfl) ?_
  refine lv_iconst (v := 1) hx hb dX2_lay_43 (by decide) ?_
  refine lv_iadd hx hb dX2_lay_44 ?_
  refine lv_aload_n hx hb dX2_lay_45 rfl (lv_at hl 0 rfl) ?_
  refine va_get (D := D) (ci := 3) (v := .ref (a 15)) (C := RX2) (T := TX2) (N := 11) hx hb (lyX2 ht) (fun _ h9 => h9) hown hK hP 7 rfl rfl 10 (by decide) (fl_X2_44 ht) (fun _ h9 => h9) rfl dX2_lay_46 ?_
  refine lv_iload_n hx hb dX2_lay_49 rfl (lv_at hl 1 rfl) ?_
  refine va_lald hx hb hK hP 15 1 rfl rfl h1 dX2_lay_50 ?_
  refine lv_iload_n hx hb dX2_lay_51 rfl (lv_at hl 3 rfl) ?_
  refine lv_iload hx hb dX2_lay_52 (lv_at hl 4 rfl) ?_
  refine rdSN (As := [.int z]) (rest := [.int v, .long (gv r.toNatClampNeg), .int (r + 1), .ref (a 15)]) (st1 := [.int (f_X0_s z), .int v, .long (gv r.toNatClampNeg), .int (r + 1), .ref (a 15)]) (k_X0_s l D (tysW cI cJ cZ) z) (si_X2_57 ht ⟨Nat.le_of_ble_eq_true rfl, Nat.le_of_ble_eq_true rfl⟩) hx hb hml hown (hE.since hS) pNil hK rfl hl.1 rfl (Nat.le_of_ble_eq_true rfl) ⟨Nat.zero_le _, Nat.zero_le _⟩ dX2_lay_54 rfl ?_
  refine lv_imul hx hb dX2_lay_57 ?_
  refine lv_i2l (v := (v * (f_X0_s z)).toInt64) hx hb dX2_lay_58 rfl ?_
  refine lv_ladd hx hb dX2_lay_59 ?_
  refine va_last hx hb hK hP hD hS 15 1 rfl rfl h2 dX2_lay_60 (fun H locs hP hD hS => ?_)
  have hP : va_P D vwCl (wI cI cJ cZ a n ah pl ck ct nk pm ja rg bu pn tp st us fb (upd kA r.toNatClampNeg k) (upd tA r.toNatClampNeg z) lx ly gx gy (vp_updL gu (r + 1).toNatClampNeg ((gu r.toNatClampNeg) + ((v * (f_X0_c z)).toInt64))) (vp_updL gv (r + 1).toNatClampNeg ((gv r.toNatClampNeg) + ((v * (f_X0_s z)).toInt64)))) H := hP
  have hD : va_D A (wI cI cJ cZ a n ah pl ck ct nk pm ja rg bu pn tp st us fb (upd kA r.toNatClampNeg k) (upd tA r.toNatClampNeg z) lx ly gx gy (vp_updL gu (r + 1).toNatClampNeg ((gu r.toNatClampNeg) + ((v * (f_X0_c z)).toInt64))) (vp_updL gv (r + 1).toNatClampNeg ((gv r.toNatClampNeg) + ((v * (f_X0_s z)).toInt64)))) := hD
  refine lv_aload_n hx hb dX2_lay_61 rfl (lv_at hl 0 rfl) ?_
  refine va_get (D := D) (ci := 3) (v := .ref (a 12)) (C := RX2) (T := TX2) (N := 11) hx hb (lyX2 ht) (fun _ h9 => h9) hown hK hP 7 rfl rfl 7 (by decide) (fl_X2_35 ht) (fun _ h9 => h9) rfl dX2_lay_62 ?_
  refine lv_iload_n hx hb dX2_lay_65 rfl (lv_at hl 1 rfl) ?_
  refine lv_iconst (v := 1) hx hb dX2_lay_66 (by decide) ?_
  refine lv_iadd hx hb dX2_lay_67 ?_
  refine lv_aload_n hx hb dX2_lay_68 rfl (lv_at hl 0 rfl) ?_
  refine va_get (D := D) (ci := 3) (v := .ref (a 12)) (C := RX2) (T := TX2) (N := 11) hx hb (lyX2 ht) (fun _ h9 => h9) hown hK hP 7 rfl rfl 7 (by decide) (fl_X2_35 ht) (fun _ h9 => h9) rfl dX2_lay_69 ?_
  refine lv_iload_n hx hb dX2_lay_72 rfl (lv_at hl 1 rfl) ?_
  refine va_lald hx hb hK hP 12 1 rfl rfl h1 dX2_lay_73 ?_
  refine lv_aload_n hx hb dX2_lay_74 rfl (lv_at hl 0 rfl) ?_
  refine va_get (D := D) (ci := 3) (v := .ref (a 14)) (C := RX2) (T := TX2) (N := 11) hx hb (lyX2 ht) (fun _ h9 => h9) hown hK hP 7 rfl rfl 9 (by decide) (fl_X2_41 ht) (fun _ h9 => h9) rfl dX2_lay_75 ?_
  refine lv_iload_n hx hb dX2_lay_78 rfl (lv_at hl 1 rfl) ?_
  refine va_lald hx hb hK hP 14 1 rfl rfl h1 dX2_lay_79 ?_
  refine lv_ladd hx hb dX2_lay_80 ?_
  refine lv_aload_n hx hb dX2_lay_81 rfl (lv_at hl 0 rfl) ?_
  refine va_get (D := D) (ci := 3) (v := .ref (a 14)) (C := RX2) (T := TX2) (N := 11) hx hb (lyX2 ht) (fun _ h9 => h9) hown hK hP 7 rfl rfl 9 (by decide) (fl_X2_41 ht) (fun _ h9 => h9) rfl dX2_lay_82 ?_
  refine lv_iload_n hx hb dX2_lay_85 rfl (lv_at hl 1 rfl) ?_
  refine lv_iconst (v := 1) hx hb dX2_lay_86 (by decide) ?_
  refine lv_iadd hx hb dX2_lay_87 ?_
  refine va_lald hx hb hK hP 14 1 rfl rfl h2 dX2_lay_88 ?_
  refine lv_ladd hx hb dX2_lay_89 ?_
  refine va_last hx hb hK hP hD hS 12 1 rfl rfl h2 dX2_lay_90 (fun H locs hP hD hS => ?_)
  have hP : va_P D vwCl (wI cI cJ cZ a n ah pl ck ct nk pm ja rg bu pn tp st us fb (upd kA r.toNatClampNeg k) (upd tA r.toNatClampNeg z) lx ly (vp_updL gx (r + 1).toNatClampNeg (((gx r.toNatClampNeg) + ((vp_updL gu (r + 1).toNatClampNeg ((gu r.toNatClampNeg) + ((v * (f_X0_c z)).toInt64))) r.toNatClampNeg)) + ((vp_updL gu (r + 1).toNatClampNeg ((gu r.toNatClampNeg) + ((v * (f_X0_c z)).toInt64))) (r + 1).toNatClampNeg))) gy (vp_updL gu (r + 1).toNatClampNeg ((gu r.toNatClampNeg) + ((v * (f_X0_c z)).toInt64))) (vp_updL gv (r + 1).toNatClampNeg ((gv r.toNatClampNeg) + ((v * (f_X0_s z)).toInt64)))) H := hP
  have hD : va_D A (wI cI cJ cZ a n ah pl ck ct nk pm ja rg bu pn tp st us fb (upd kA r.toNatClampNeg k) (upd tA r.toNatClampNeg z) lx ly (vp_updL gx (r + 1).toNatClampNeg (((gx r.toNatClampNeg) + ((vp_updL gu (r + 1).toNatClampNeg ((gu r.toNatClampNeg) + ((v * (f_X0_c z)).toInt64))) r.toNatClampNeg)) + ((vp_updL gu (r + 1).toNatClampNeg ((gu r.toNatClampNeg) + ((v * (f_X0_c z)).toInt64))) (r + 1).toNatClampNeg))) gy (vp_updL gu (r + 1).toNatClampNeg ((gu r.toNatClampNeg) + ((v * (f_X0_c z)).toInt64))) (vp_updL gv (r + 1).toNatClampNeg ((gv r.toNatClampNeg) + ((v * (f_X0_s z)).toInt64)))) := hD
  refine lv_aload_n hx hb dX2_lay_91 rfl (lv_at hl 0 rfl) ?_
  refine va_get (D := D) (ci := 3) (v := .ref (a 13)) (C := RX2) (T := TX2) (N := 11) hx hb (lyX2 ht) (fun _ h9 => h9) hown hK hP 7 rfl rfl 8 (by decide) (fl_X2_38 ht) (fun _ h9 => h9) rfl dX2_lay_92 ?_
  refine lv_iload_n hx hb dX2_lay_95 rfl (lv_at hl 1 rfl) ?_
  refine lv_iconst (v := 1) hx hb dX2_lay_96 (by decide) ?_
  refine lv_iadd hx hb dX2_lay_97 ?_
  refine lv_aload_n hx hb dX2_lay_98 rfl (lv_at hl 0 rfl) ?_
  refine va_get (D := D) (ci := 3) (v := .ref (a 13)) (C := RX2) (T := TX2) (N := 11) hx hb (lyX2 ht) (fun _ h9 => h9) hown hK hP 7 rfl rfl 8 (by decide) (fl_X2_38 ht) (fun _ h9 => h9) rfl dX2_lay_99 ?_
  refine lv_iload_n hx hb dX2_lay_102 rfl (lv_at hl 1 rfl) ?_
  refine va_lald hx hb hK hP 13 1 rfl rfl h1 dX2_lay_103 ?_
  refine lv_aload_n hx hb dX2_lay_104 rfl (lv_at hl 0 rfl) ?_
  refine va_get (D := D) (ci := 3) (v := .ref (a 15)) (C := RX2) (T := TX2) (N := 11) hx hb (lyX2 ht) (fun _ h9 => h9) hown hK hP 7 rfl rfl 10 (by decide) (fl_X2_44 ht) (fun _ h9 => h9) rfl dX2_lay_105 ?_
  refine lv_iload_n hx hb dX2_lay_108 rfl (lv_at hl 1 rfl) ?_
  refine va_lald hx hb hK hP 15 1 rfl rfl h1 dX2_lay_109 ?_
  refine lv_ladd hx hb dX2_lay_110 ?_
  refine lv_aload_n hx hb dX2_lay_111 rfl (lv_at hl 0 rfl) ?_
  refine va_get (D := D) (ci := 3) (v := .ref (a 15)) (C := RX2) (T := TX2) (N := 11) hx hb (lyX2 ht) (fun _ h9 => h9) hown hK hP 7 rfl rfl 10 (by decide) (fl_X2_44 ht) (fun _ h9 => h9) rfl dX2_lay_112 ?_
  refine lv_iload_n hx hb dX2_lay_115 rfl (lv_at hl 1 rfl) ?_
  refine lv_iconst (v := 1) hx hb dX2_lay_116 (by decide) ?_
  refine lv_iadd hx hb dX2_lay_117 ?_
  refine va_lald hx hb hK hP 15 1 rfl rfl h2 dX2_lay_118 ?_
  refine lv_ladd hx hb dX2_lay_119 ?_
  refine va_last hx hb hK hP hD hS 13 1 rfl rfl h2 dX2_lay_120 (fun H locs hP hD hS => ?_)
  have hP : va_P D vwCl (wI cI cJ cZ a n ah pl ck ct nk pm ja rg bu pn tp st us fb (upd kA r.toNatClampNeg k) (upd tA r.toNatClampNeg z) lx ly (vp_updL gx (r + 1).toNatClampNeg (((gx r.toNatClampNeg) + ((vp_updL gu (r + 1).toNatClampNeg ((gu r.toNatClampNeg) + ((v * (f_X0_c z)).toInt64))) r.toNatClampNeg)) + ((vp_updL gu (r + 1).toNatClampNeg ((gu r.toNatClampNeg) + ((v * (f_X0_c z)).toInt64))) (r + 1).toNatClampNeg))) (vp_updL gy (r + 1).toNatClampNeg (((gy r.toNatClampNeg) + ((vp_updL gv (r + 1).toNatClampNeg ((gv r.toNatClampNeg) + ((v * (f_X0_s z)).toInt64))) r.toNatClampNeg)) + ((vp_updL gv (r + 1).toNatClampNeg ((gv r.toNatClampNeg) + ((v * (f_X0_s z)).toInt64))) (r + 1).toNatClampNeg))) (vp_updL gu (r + 1).toNatClampNeg ((gu r.toNatClampNeg) + ((v * (f_X0_c z)).toInt64))) (vp_updL gv (r + 1).toNatClampNeg ((gv r.toNatClampNeg) + ((v * (f_X0_s z)).toInt64)))) H := hP
  have hD : va_D A (wI cI cJ cZ a n ah pl ck ct nk pm ja rg bu pn tp st us fb (upd kA r.toNatClampNeg k) (upd tA r.toNatClampNeg z) lx ly (vp_updL gx (r + 1).toNatClampNeg (((gx r.toNatClampNeg) + ((vp_updL gu (r + 1).toNatClampNeg ((gu r.toNatClampNeg) + ((v * (f_X0_c z)).toInt64))) r.toNatClampNeg)) + ((vp_updL gu (r + 1).toNatClampNeg ((gu r.toNatClampNeg) + ((v * (f_X0_c z)).toInt64))) (r + 1).toNatClampNeg))) (vp_updL gy (r + 1).toNatClampNeg (((gy r.toNatClampNeg) + ((vp_updL gv (r + 1).toNatClampNeg ((gv r.toNatClampNeg) + ((v * (f_X0_s z)).toInt64))) r.toNatClampNeg)) + ((vp_updL gv (r + 1).toNatClampNeg ((gv r.toNatClampNeg) + ((v * (f_X0_s z)).toInt64))) (r + 1).toNatClampNeg))) (vp_updL gu (r + 1).toNatClampNeg ((gu r.toNatClampNeg) + ((v * (f_X0_c z)).toInt64))) (vp_updL gv (r + 1).toNatClampNeg ((gv r.toNatClampNeg) + ((v * (f_X0_s z)).toInt64)))) := hD
  exact wr_v hx hb hr hlocks hAe hP hD hS dX2_lay_121 (⟨rfl, rfl⟩)
end
section
theorem RD.ofF {l : Launch} {y : MethodName} {cc : ByteArray} {maxL : Nat} {ret : Option FieldType} {d : Nat} {D : va_G} {tys : List (ClassId × FieldType)} {w : va_W} {av : List Value} {v : Option Value} (hy : plainFor y = true)
    (body : ∀ (p : Program) (e : Env) (s : State) (m : MethodId) (below : List Frame) (meth : Method) (c : Code), p.tables.exec = Jvm.exec → c.code = cc → meth.sig.returnType = ret → c.maxLocals = maxL → s.vm.findClass y.cls = some m.cls → meth.locks = false → evOK (fun _ => False) s s.heap → va_P D vwCl w s.heap → va_K D vwCl tys s →
      W p l e (rmD d 0 0) s m av.toArray below meth c s.heap [] 0 0 (MQ below (QcR v) av.toArray s 0 0 (fun _ => False)) (entryFrame m av.toArray maxL)) : RD l y cc maxL ret d D tys w av v := by
  refine va_MetF (cc := cc) (maxL := maxL) (ret := ret) hy rfl ?_
  intro p e s m args below meth c s₁ B hml hv
  obtain ⟨rfl, h1, h2, h3⟩ := hv
  exact body p e s m below meth c B.exec B.bytes B.returns hml (findClass_of_methodNamed B.named) B.notSynchronized h1 h2 h3
def f_J9_floorDiv_7cf53 (k : Int32) (j : Int32) : Int32 := if 0 ≤ (k ^^^ j) then (k / j) else (if ((k / j) * j) = k then (k / j) else ((k / j) - 1))
set_option maxRecDepth 20000 in
set_option maxHeartbeats 4000000 in
theorem k_J9_floorDiv_7cf53 (l : Launch) (D : va_G) (tys : List (ClassId × FieldType)) (k : Int32) (j : Int32) (hj : ¬ j = 0) : RD l yJ9_floorDiv_7cf53 cJ9_floorDiv_7cf53 3 (some .int) 0 D tys ([]) [.int k, .int j] (some (.int (f_J9_floorDiv_7cf53 k j))) := by
  refine RD.ofF (by decide +kernel) ?_
  intro p e s m below meth c hx hb hr hml hown hlocks hE hP hK
  have hown : s.vm.findClass RJ9 = some m.cls := hown
  have ht : tb_OK s := hE.1
  have hl := lv_entry ([.int k, .int j]) (n := 3) (Nat.le_of_ble_eq_true rfl)
  rw [lg_entry_eq]
  generalize (lg_sl ([.int k, .int j]) ++ List.replicate (3 - (lg_sl ([.int k, .int j])).length) Slot.unset).toArray = ls at hl ⊢
  have hl : lv_has ls 3 [(0, .int k), (1, .int j)] := hl
  refine lv_iload_n hx hb dJ9_floorDiv_7cf53_0 rfl (lv_at hl 0 rfl) ?_
  refine lv_iload_n hx hb dJ9_floorDiv_7cf53_1 rfl (lv_at hl 1 rfl) ?_
  refine lv_idiv hx hb dJ9_floorDiv_7cf53_2 hj ?_
  refine lv_istore_n (lv' := [(2, .int (k / j)), (0, .int k), (1, .int j)]) hx hb dJ9_floorDiv_7cf53_3 rfl hl (by decide) rfl (fun ls hl => ?_)
  refine lv_iload_n hx hb dJ9_floorDiv_7cf53_4 rfl (lv_at hl 1 rfl) ?_
  refine lv_iload_n hx hb dJ9_floorDiv_7cf53_5 rfl (lv_at hl 2 rfl) ?_
  refine lv_ixor hx hb dJ9_floorDiv_7cf53_6 ?_
  refine lv_if_ge (tgt := 21) hx hb dJ9_floorDiv_7cf53_7 (by decide) (fun c_1 => ?_) (fun c_1 => ?_)
  · skip
    refine lv_iload_n hx hb dJ9_floorDiv_7cf53_21 rfl (lv_at hl 0 rfl) ?_
    exact rd_i hx hb hr hlocks dJ9_floorDiv_7cf53_22 (by unfold f_J9_floorDiv_7cf53; rw [if_pos c_1])
  · skip
    refine lv_iload_n hx hb dJ9_floorDiv_7cf53_10 rfl (lv_at hl 0 rfl) ?_
    refine lv_iload_n hx hb dJ9_floorDiv_7cf53_11 rfl (lv_at hl 2 rfl) ?_
    refine lv_imul hx hb dJ9_floorDiv_7cf53_12 ?_
    refine lv_iload_n hx hb dJ9_floorDiv_7cf53_13 rfl (lv_at hl 1 rfl) ?_
    refine lv_icmp_eq (tgt := 21) hx hb dJ9_floorDiv_7cf53_14 (by decide) (fun c_2 => ?_) (fun c_2 => ?_)
    · skip
      refine lv_iload_n hx hb dJ9_floorDiv_7cf53_21 rfl (lv_at hl 0 rfl) ?_
      exact rd_i hx hb hr hlocks dJ9_floorDiv_7cf53_22 (by unfold f_J9_floorDiv_7cf53; rw [if_neg c_1, if_pos c_2])
    · skip
      refine lv_iload_n hx hb dJ9_floorDiv_7cf53_17 rfl (lv_at hl 0 rfl) ?_
      refine lv_iconst (v := 1) hx hb dJ9_floorDiv_7cf53_18 (by decide) ?_
      refine lv_isub hx hb dJ9_floorDiv_7cf53_19 ?_
      exact rd_i hx hb hr hlocks dJ9_floorDiv_7cf53_20 (by unfold f_J9_floorDiv_7cf53; rw [if_neg c_1, if_neg c_2])
def f_X3_isWithin (k : Int32) (j : Int32) (z : Int32) : Int32 := if k < j then 0 else (if z < k then 0 else 1)
set_option maxRecDepth 20000 in
set_option maxHeartbeats 4000000 in
theorem k_X3_isWithin (l : Launch) (D : va_G) (tys : List (ClassId × FieldType)) (k : Int32) (j : Int32) (z : Int32) : RD l yX3_isWithin cX3_isWithin 3 (some .boolean) 0 D tys ([]) [.int k, .int j, .int z] (some (.int (f_X3_isWithin k j z))) := by
  refine RD.of (by decide) ?_
  intro p e s m below meth c hx hb hr hml hown hlocks hE hP hK
  have hown : s.vm.findClass RX3 = some m.cls := hown
  have ht : tb_OK s := hE.1
  have hl := lv_entry ([.int k, .int j, .int z]) (n := 3) (Nat.le_of_ble_eq_true rfl)
  rw [lg_entry_eq]
  generalize (lg_sl ([.int k, .int j, .int z]) ++ List.replicate (3 - (lg_sl ([.int k, .int j, .int z])).length) Slot.unset).toArray = ls at hl ⊢
  have hl : lv_has ls 3 [(0, .int k), (1, .int j), (2, .int z)] := hl
  refine lv_iload_n hx hb dX3_isWithin_0 rfl (lv_at hl 0 rfl) ?_
  refine lv_iload_n hx hb dX3_isWithin_1 rfl (lv_at hl 1 rfl) ?_
  refine lv_icmp_lt (tgt := 14) hx hb dX3_isWithin_2 (by decide) (fun c_1 => ?_) (fun c_1 => ?_)
  · skip
    refine lv_iconst (v := 0) hx hb dX3_isWithin_14 (by decide) ?_
    exact rd_z hx hb hr hlocks dX3_isWithin_15 rfl (by unfold f_X3_isWithin; rw [if_pos c_1])
  · skip
    refine lv_iload_n hx hb dX3_isWithin_5 rfl (lv_at hl 0 rfl) ?_
    refine lv_iload_n hx hb dX3_isWithin_6 rfl (lv_at hl 2 rfl) ?_
    refine lv_icmp_gt (tgt := 14) hx hb dX3_isWithin_7 (by decide) (fun c_2 => ?_) (fun c_2 => ?_)
    · skip
      refine lv_iconst (v := 0) hx hb dX3_isWithin_14 (by decide) ?_
      exact rd_z hx hb hr hlocks dX3_isWithin_15 rfl (by unfold f_X3_isWithin; rw [if_neg c_1, if_pos c_2])
    · skip
      refine lv_iconst (v := 1) hx hb dX3_isWithin_10 (by decide) ?_
      refine lv_goto (tgt := 15) hx hb dX3_isWithin_11 (by decide) ?_
      exact rd_z hx hb hr hlocks dX3_isWithin_15 rfl (by unfold f_X3_isWithin; rw [if_neg c_1, if_neg c_2])
def f_X2_offAt (r : Int32) (lx : Nat → Int64) (ly : Nat → Int64) (gx : Nat → Int64) (gy : Nat → Int64) : Int64 := (((gx (r + 1).toNatClampNeg) - (lx r.toNatClampNeg)) * ((gx (r + 1).toNatClampNeg) - (lx r.toNatClampNeg))) + (((gy (r + 1).toNatClampNeg) - (ly r.toNatClampNeg)) * ((gy (r + 1).toNatClampNeg) - (ly r.toNatClampNeg)))
set_option maxRecDepth 20000 in
set_option maxHeartbeats 4000000 in
theorem k_X2_offAt (l : Launch) (D : va_G) (cI cJ cZ : ClassId) (a : Nat → Nat) (n : Nat) (ah pl ck ct nk pm ja rg bu pn : Int32) (tp st us fb kA tA : Nat → Int32) (lx ly gx gy gu gv : Nat → Int64) (r : Int32) (h0 : vp_in r n) (h2 : vp_in (r + 1) (n + 1)) : RD l yX2_offAt cX2_offAt 6 (some .long) 0 D (tysW cI cJ cZ) (wI cI cJ cZ a n ah pl ck ct nk pm ja rg bu pn tp st us fb kA tA lx ly gx gy gu gv) [.ref (a 7), .int r] (some (.long (f_X2_offAt r lx ly gx gy))) := by
  refine RD.of (by decide) ?_
  intro p e s m below meth c hx hb hr hml hown hlocks hE hP hK
  have hown : s.vm.findClass RX2 = some m.cls := hown
  have ht : tb_OK s := hE.1
  have hl := lv_entry ([.ref (a 7), .int r]) (n := 6) (Nat.le_of_ble_eq_true rfl)
  rw [lg_entry_eq]
  generalize (lg_sl ([.ref (a 7), .int r]) ++ List.replicate (6 - (lg_sl ([.ref (a 7), .int r])).length) Slot.unset).toArray = ls at hl ⊢
  have hl : lv_has ls 6 [(0, .ref (a 7)), (1, .int r)] := hl
  refine lv_aload_n hx hb dX2_offAt_0 rfl (lv_at hl 0 rfl) ?_
  refine va_get (D := D) (ci := 3) (v := .ref (a 12)) (C := RX2) (T := TX2) (N := 11) hx hb (lyX2 ht) (fun _ h9 => h9) hown hK hP 7 rfl rfl 7 (by decide) (fl_X2_35 ht) (fun _ h9 => h9) rfl dX2_offAt_1 ?_
  refine lv_iload_n hx hb dX2_offAt_4 rfl (lv_at hl 1 rfl) ?_
  refine lv_iconst (v := 1) hx hb dX2_offAt_5 (by decide) ?_
  refine lv_iadd hx hb dX2_offAt_6 ?_
  refine va_lald hx hb hK hP 12 1 rfl rfl h2 dX2_offAt_7 ?_
  refine lv_aload_n hx hb dX2_offAt_8 rfl (lv_at hl 0 rfl) ?_
  refine va_get (D := D) (ci := 3) (v := .ref (a 10)) (C := RX2) (T := TX2) (N := 11) hx hb (lyX2 ht) (fun _ h9 => h9) hown hK hP 7 rfl rfl 5 (by decide) (fl_X2_28 ht) (fun _ h9 => h9) rfl dX2_offAt_9 ?_
  refine lv_iload_n hx hb dX2_offAt_12 rfl (lv_at hl 1 rfl) ?_
  refine va_lald hx hb hK hP 10 1 rfl rfl h0 dX2_offAt_13 ?_
  refine lv_lsub hx hb dX2_offAt_14 ?_
  refine lv_lstore_n (lv' := [(2, .long ((gx (r + 1).toNatClampNeg) - (lx r.toNatClampNeg))), (0, .ref (a 7)), (1, .int r)]) hx hb dX2_offAt_15 rfl hl (by decide) rfl (fun ls hl => ?_)
  refine lv_aload_n hx hb dX2_offAt_16 rfl (lv_at hl 1 rfl) ?_
  refine va_get (D := D) (ci := 3) (v := .ref (a 13)) (C := RX2) (T := TX2) (N := 11) hx hb (lyX2 ht) (fun _ h9 => h9) hown hK hP 7 rfl rfl 8 (by decide) (fl_X2_38 ht) (fun _ h9 => h9) rfl dX2_offAt_17 ?_
  refine lv_iload_n hx hb dX2_offAt_20 rfl (lv_at hl 2 rfl) ?_
  refine lv_iconst (v := 1) hx hb dX2_offAt_21 (by decide) ?_
  refine lv_iadd hx hb dX2_offAt_22 ?_
  refine va_lald hx hb hK hP 13 1 rfl rfl h2 dX2_offAt_23 ?_
  refine lv_aload_n hx hb dX2_offAt_24 rfl (lv_at hl 1 rfl) ?_
  refine va_get (D := D) (ci := 3) (v := .ref (a 11)) (C := RX2) (T := TX2) (N := 11) hx hb (lyX2 ht) (fun _ h9 => h9) hown hK hP 7 rfl rfl 6 (by decide) (fl_X2_32 ht) (fun _ h9 => h9) rfl dX2_offAt_25 ?_
  refine lv_iload_n hx hb dX2_offAt_28 rfl (lv_at hl 2 rfl) ?_
  refine va_lald hx hb hK hP 11 1 rfl rfl h0 dX2_offAt_29 ?_
  refine lv_lsub hx hb dX2_offAt_30 ?_
  refine lv_lstore (lv' := [(4, .long ((gy (r + 1).toNatClampNeg) - (ly r.toNatClampNeg))), (2, .long ((gx (r + 1).toNatClampNeg) - (lx r.toNatClampNeg))), (0, .ref (a 7)), (1, .int r)]) hx hb dX2_offAt_31 hl (by decide) rfl (fun ls hl => ?_)
  refine lv_lload_n hx hb dX2_offAt_33 rfl (lv_at hl 1 rfl) ?_
  refine lv_lload_n hx hb dX2_offAt_34 rfl (lv_at hl 1 rfl) ?_
  refine lv_lmul hx hb dX2_offAt_35 ?_
  refine lv_lload hx hb dX2_offAt_36 (lv_at hl 0 rfl) ?_
  refine lv_lload hx hb dX2_offAt_38 (lv_at hl 0 rfl) ?_
  refine lv_lmul hx hb dX2_offAt_40 ?_
  refine lv_ladd hx hb dX2_offAt_41 ?_
  exact rd_l hx hb hr hlocks dX2_offAt_42 (rfl)
def f_X3_kind (k : Int32) (z : Int32) (nk : Int32) : Int32 := if (f_X3_isWithin k 0 200) = 0 then -2 else (if (f_X3_isWithin z 0 99) = 0 then -2 else (if (f_X1_isFull nk) = 0 then (f_X1_add nk) else -4))
def f_X3_kind_nk (k : Int32) (z : Int32) (nk : Int32) : Int32 := if (f_X3_isWithin k 0 200) = 0 then nk else (if (f_X3_isWithin z 0 99) = 0 then nk else (if (f_X1_isFull nk) = 0 then (f_X1_add_nk nk) else nk))
def f_X3_kind_tp (k : Int32) (z : Int32) (nk : Int32) (tp : Nat → Int32) : Nat → Int32 := if (f_X3_isWithin k 0 200) = 0 then tp else (if (f_X3_isWithin z 0 99) = 0 then tp else (if (f_X1_isFull nk) = 0 then (f_X1_add_tp k nk tp) else tp))
def f_X3_kind_st (k : Int32) (z : Int32) (nk : Int32) (st : Nat → Int32) : Nat → Int32 := if (f_X3_isWithin k 0 200) = 0 then st else (if (f_X3_isWithin z 0 99) = 0 then st else (if (f_X1_isFull nk) = 0 then (f_X1_add_st z nk st) else st))
set_option maxRecDepth 20000 in
set_option maxHeartbeats 4000000 in
theorem k_X3_kind (l : Launch) (D : va_G) (cI cJ cZ : ClassId) (a : Nat → Nat) (n : Nat) (ah pl ck ct nk pm ja rg bu pn : Int32) (tp st us fb kA tA : Nat → Int32) (lx ly gx gy gu gv : Nat → Int64) (k : Int32) (z : Int32) (hk : f_X1_isFull nk = 0 → vp_in nk 4) : WR l yX3_kind cX3_kind 3 (some .int) 1 0 0 D (tysW cI cJ cZ) (wI cI cJ cZ a n ah pl ck ct nk pm ja rg bu pn tp st us fb kA tA lx ly gx gy gu gv) [.ref (a 0), .int k, .int z] (fun ov w' => ov = some (.int (f_X3_kind k z nk)) ∧ w' = wI cI cJ cZ a n ah pl ck ct (f_X3_kind_nk k z nk) pm ja rg bu pn (f_X3_kind_tp k z nk tp) (f_X3_kind_st k z nk st) us fb kA tA lx ly gx gy gu gv) := by
  refine WR.of (by decide) ?_
  intro p e s m below meth c A hadm hx hb hr hml hown hlocks hname hE hP hK hD hS hA hAe
  have hown : s.vm.findClass RX3 = some m.cls := hown
  have ht : tb_OK s := hE.1
  have hl := lv_entry ([.ref (a 0), .int k, .int z]) (n := 3) (Nat.le_of_ble_eq_true rfl)
  rw [lg_entry_eq]
  generalize (lg_sl ([.ref (a 0), .int k, .int z]) ++ List.replicate (3 - (lg_sl ([.ref (a 0), .int k, .int z])).length) Slot.unset).toArray = ls at hl ⊢
  have hl : lv_has ls 3 [(0, .ref (a 0)), (1, .int k), (2, .int z)] := hl
  refine lv_iload_n hx hb dX3_kind_0 rfl (lv_at hl 1 rfl) ?_
  refine lv_iconst (v := 0) hx hb dX3_kind_1 (by decide) ?_
  refine lv_sipush (v := 200) hx hb dX3_kind_2 (by decide) ?_
  refine rdS (As := [.int k, .int 0, .int 200]) (rest := []) (st1 := [.int (f_X3_isWithin k 0 200)]) (k_X3_isWithin l D (tysW cI cJ cZ) k 0 200) (si_X3_54 ht ⟨Nat.le_of_ble_eq_true rfl, Nat.le_of_ble_eq_true rfl⟩) hx hb hml hown (hE.since hS) pNil hK rfl hl.1 rfl (Nat.le_of_ble_eq_true rfl) ⟨Nat.zero_le _, Nat.zero_le _⟩ dX3_kind_5 rfl ?_
  refine lv_if_eq (tgt := 21) hx hb dX3_kind_8 (by decide) (fun c_1 => ?_) (fun c_1 => ?_)
  · skip
    refine lv_bipush (v := -2) hx hb dX3_kind_21 (by decide) ?_
    exact wr_i hx hb hr hlocks hAe hP hD hS dX3_kind_23 (⟨by unfold f_X3_kind; rw [if_pos c_1], by simp only [f_X3_kind_nk, f_X3_kind_tp, f_X3_kind_st, if_pos c_1]⟩)
  · skip
    refine lv_iload_n hx hb dX3_kind_11 rfl (lv_at hl 2 rfl) ?_
    refine lv_iconst (v := 0) hx hb dX3_kind_12 (by decide) ?_
    refine lv_bipush (v := 99) hx hb dX3_kind_13 (by decide) ?_
    refine rdS (As := [.int z, .int 0, .int 99]) (rest := []) (st1 := [.int (f_X3_isWithin z 0 99)]) (k_X3_isWithin l D (tysW cI cJ cZ) z 0 99) (si_X3_54 ht ⟨Nat.le_of_ble_eq_true rfl, Nat.le_of_ble_eq_true rfl⟩) hx hb hml hown (hE.since hS) pNil hK rfl hl.1 rfl (Nat.le_of_ble_eq_true rfl) ⟨Nat.zero_le _, Nat.zero_le _⟩ dX3_kind_15 rfl ?_
    refine lv_if_ne (tgt := 24) hx hb dX3_kind_18 (by decide) (fun c_2 => ?_) (fun c_2 => ?_)
    · skip
      refine lv_aload_n hx hb dX3_kind_24 rfl (lv_at hl 0 rfl) ?_
      refine va_get (D := D) (ci := 4) (v := .ref (a 1)) (C := RX3) (T := TX3) (N := 7) hx hb (lyX3 ht) (fun _ h9 => h9) hown hK hP 0 rfl rfl 0 (by decide) (fl_X3_10 ht) (fun _ h9 => h9) rfl dX3_kind_25 ?_
      refine rdVN (As := []) (rest := []) (st1 := [.int (f_X1_isFull nk)]) (k_X1_isFull l D cI cJ cZ a n ah pl ck ct nk pm ja rg bu pn tp st us fb kA tA lx ly gx gy gu gv) (si_X3_58 ht ⟨Nat.le_of_ble_eq_true rfl, Nat.le_of_ble_eq_true rfl⟩) hx hb hml hown (va_recv hK hP (ci := 2) (q0 := 1) rfl rfl) (hE.since hS) hP hK rfl hl.1 rfl (Nat.le_of_ble_eq_true rfl) ⟨Nat.zero_le _, Nat.zero_le _⟩ dX3_kind_28 rfl ?_
      refine lv_if_eq (tgt := 39) hx hb dX3_kind_31 (by decide) (fun c_3 => ?_) (fun c_3 => ?_)
      · skip
        refine lv_aload_n hx hb dX3_kind_39 rfl (lv_at hl 0 rfl) ?_
        refine va_get (D := D) (ci := 4) (v := .ref (a 1)) (C := RX3) (T := TX3) (N := 7) hx hb (lyX3 ht) (fun _ h9 => h9) hown hK hP 0 rfl rfl 0 (by decide) (fl_X3_10 ht) (fun _ h9 => h9) rfl dX3_kind_40 ?_
        refine lv_iload_n hx hb dX3_kind_43 rfl (lv_at hl 1 rfl) ?_
        refine lv_iload_n hx hb dX3_kind_44 rfl (lv_at hl 2 rfl) ?_
        refine wrVN (As := [.int k, .int z]) (rest := []) (k_X1_add l D cI cJ cZ a n ah pl ck ct nk pm ja rg bu pn tp st us fb kA tA lx ly gx gy gu gv k z (hk c_3)) (si_X3_62 ht ⟨Nat.le_of_ble_eq_true rfl, Nat.le_of_ble_eq_true rfl⟩) hx hb hml hown (va_recv hK hP (ci := 2) (q0 := 1) rfl rfl) hE hP hK hD hS hA rfl hl.1 rfl (Nat.le_of_ble_eq_true rfl) ⟨Nat.zero_le _, Nat.zero_le _⟩ dX3_kind_45 (fun ov w' H locs hpost hP hD hS => ?_)
        obtain ⟨rfl, rfl⟩ := hpost
        refine W.st (st1 := [.int (f_X1_add nk)]) rfl ?_
        have hP : va_P D vwCl (wI cI cJ cZ a n ah pl ck ct (f_X1_add_nk nk) pm ja rg bu pn (f_X1_add_tp k nk tp) (f_X1_add_st z nk st) us fb kA tA lx ly gx gy gu gv) H := hP
        have hD : va_D A (wI cI cJ cZ a n ah pl ck ct (f_X1_add_nk nk) pm ja rg bu pn (f_X1_add_tp k nk tp) (f_X1_add_st z nk st) us fb kA tA lx ly gx gy gu gv) := hD
        exact wr_i hx hb hr hlocks hAe hP hD hS dX3_kind_48 (⟨by unfold f_X3_kind; rw [if_neg c_1, if_neg c_2, if_pos c_3], by simp only [f_X3_kind_nk, f_X3_kind_tp, f_X3_kind_st, if_neg c_1, if_neg c_2, if_pos c_3]⟩)
      · skip
        refine lv_bipush (v := -4) hx hb dX3_kind_34 (by decide) ?_
        refine lv_goto (tgt := 48) hx hb dX3_kind_36 (by decide) ?_
        exact wr_i hx hb hr hlocks hAe hP hD hS dX3_kind_48 (⟨by unfold f_X3_kind; rw [if_neg c_1, if_neg c_2, if_neg c_3], by simp only [f_X3_kind_nk, f_X3_kind_tp, f_X3_kind_st, if_neg c_1, if_neg c_2, if_neg c_3]⟩)
    · skip
      refine lv_bipush (v := -2) hx hb dX3_kind_21 (by decide) ?_
      exact wr_i hx hb hr hlocks hAe hP hD hS dX3_kind_23 (⟨by unfold f_X3_kind; rw [if_neg c_1, if_pos c_2], by simp only [f_X3_kind_nk, f_X3_kind_tp, f_X3_kind_st, if_neg c_1, if_pos c_2]⟩)
def f_X3_more (k : Int32) (z : Int32) (nk : Int32) (st : Nat → Int32) : Int32 := if (f_X1_has k nk) = 0 then -1 else (if (f_X3_isWithin z 1 99) = 0 then -2 else (f_X1_enlarge k z st))
def f_X3_more_st (k : Int32) (z : Int32) (nk : Int32) (st : Nat → Int32) : Nat → Int32 := if (f_X1_has k nk) = 0 then st else (if (f_X3_isWithin z 1 99) = 0 then st else (f_X1_enlarge_st k z st))
set_option maxRecDepth 20000 in
set_option maxHeartbeats 4000000 in
theorem k_X3_more (l : Launch) (D : va_G) (cI cJ cZ : ClassId) (a : Nat → Nat) (n : Nat) (ah pl ck ct nk pm ja rg bu pn : Int32) (tp st us fb kA tA : Nat → Int32) (lx ly gx gy gu gv : Nat → Int64) (k : Int32) (z : Int32) (hk : ¬ f_X1_has k nk = 0 → vp_in k 4) : WR l yX3_more cX3_more 3 (some .int) 1 0 0 D (tysW cI cJ cZ) (wI cI cJ cZ a n ah pl ck ct nk pm ja rg bu pn tp st us fb kA tA lx ly gx gy gu gv) [.ref (a 0), .int k, .int z] (fun ov w' => ov = some (.int (f_X3_more k z nk st)) ∧ w' = wI cI cJ cZ a n ah pl ck ct nk pm ja rg bu pn tp (f_X3_more_st k z nk st) us fb kA tA lx ly gx gy gu gv) := by
  refine WR.of (by decide) ?_
  intro p e s m below meth c A hadm hx hb hr hml hown hlocks hname hE hP hK hD hS hA hAe
  have hown : s.vm.findClass RX3 = some m.cls := hown
  have ht : tb_OK s := hE.1
  have hl := lv_entry ([.ref (a 0), .int k, .int z]) (n := 3) (Nat.le_of_ble_eq_true rfl)
  rw [lg_entry_eq]
  generalize (lg_sl ([.ref (a 0), .int k, .int z]) ++ List.replicate (3 - (lg_sl ([.ref (a 0), .int k, .int z])).length) Slot.unset).toArray = ls at hl ⊢
  have hl : lv_has ls 3 [(0, .ref (a 0)), (1, .int k), (2, .int z)] := hl
  refine lv_aload_n hx hb dX3_more_0 rfl (lv_at hl 0 rfl) ?_
  refine va_get (D := D) (ci := 4) (v := .ref (a 1)) (C := RX3) (T := TX3) (N := 7) hx hb (lyX3 ht) (fun _ h9 => h9) hown hK hP 0 rfl rfl 0 (by decide) (fl_X3_10 ht) (fun _ h9 => h9) rfl dX3_more_1 ?_
  refine lv_iload_n hx hb dX3_more_4 rfl (lv_at hl 1 rfl) ?_
  refine rdVN (As := [.int k]) (rest := []) (st1 := [.int (f_X1_has k nk)]) (k_X1_has l D cI cJ cZ a n ah pl ck ct nk pm ja rg bu pn tp st us fb kA tA lx ly gx gy gu gv k) (si_X3_65 ht ⟨Nat.le_of_ble_eq_true rfl, Nat.le_of_ble_eq_true rfl⟩) hx hb hml hown (va_recv hK hP (ci := 2) (q0 := 1) rfl rfl) (hE.since hS) hP hK rfl hl.1 rfl (Nat.le_of_ble_eq_true rfl) ⟨Nat.zero_le _, Nat.zero_le _⟩ dX3_more_5 rfl ?_
  refine lv_if_ne (tgt := 13) hx hb dX3_more_8 (by decide) (fun c_1 => ?_) (fun c_1 => ?_)
  · skip
    refine lv_iload_n hx hb dX3_more_13 rfl (lv_at hl 2 rfl) ?_
    refine lv_iconst (v := 1) hx hb dX3_more_14 (by decide) ?_
    refine lv_bipush (v := 99) hx hb dX3_more_15 (by decide) ?_
    refine rdS (As := [.int z, .int 1, .int 99]) (rest := []) (st1 := [.int (f_X3_isWithin z 1 99)]) (k_X3_isWithin l D (tysW cI cJ cZ) z 1 99) (si_X3_54 ht ⟨Nat.le_of_ble_eq_true rfl, Nat.le_of_ble_eq_true rfl⟩) hx hb hml hown (hE.since hS) pNil hK rfl hl.1 rfl (Nat.le_of_ble_eq_true rfl) ⟨Nat.zero_le _, Nat.zero_le _⟩ dX3_more_17 rfl ?_
    refine lv_if_eq (tgt := 35) hx hb dX3_more_20 (by decide) (fun c_2 => ?_) (fun c_2 => ?_)
    · skip
      refine lv_bipush (v := -2) hx hb dX3_more_35 (by decide) ?_
      exact wr_i hx hb hr hlocks hAe hP hD hS dX3_more_37 (⟨by unfold f_X3_more; rw [if_neg c_1, if_pos c_2], by simp only [f_X3_more_st, if_neg c_1, if_pos c_2]⟩)
    · skip
      refine lv_aload_n hx hb dX3_more_23 rfl (lv_at hl 0 rfl) ?_
      refine va_get (D := D) (ci := 4) (v := .ref (a 1)) (C := RX3) (T := TX3) (N := 7) hx hb (lyX3 ht) (fun _ h9 => h9) hown hK hP 0 rfl rfl 0 (by decide) (fl_X3_10 ht) (fun _ h9 => h9) rfl dX3_more_24 ?_
      refine lv_iload_n hx hb dX3_more_27 rfl (lv_at hl 1 rfl) ?_
      refine lv_iload_n hx hb dX3_more_28 rfl (lv_at hl 2 rfl) ?_
      refine wrVN (As := [.int k, .int z]) (rest := []) (k_X1_enlarge l D cI cJ cZ a n ah pl ck ct nk pm ja rg bu pn tp st us fb kA tA lx ly gx gy gu gv k z (hk c_1)) (si_X3_69 ht ⟨Nat.le_of_ble_eq_true rfl, Nat.le_of_ble_eq_true rfl⟩) hx hb hml hown (va_recv hK hP (ci := 2) (q0 := 1) rfl rfl) hE hP hK hD hS hA rfl hl.1 rfl (Nat.le_of_ble_eq_true rfl) ⟨Nat.zero_le _, Nat.zero_le _⟩ dX3_more_29 (fun ov w' H locs hpost hP hD hS => ?_)
      obtain ⟨rfl, rfl⟩ := hpost
      refine W.st (st1 := [.int (f_X1_enlarge k z st)]) rfl ?_
      have hP : va_P D vwCl (wI cI cJ cZ a n ah pl ck ct nk pm ja rg bu pn tp (f_X1_enlarge_st k z st) us fb kA tA lx ly gx gy gu gv) H := hP
      have hD : va_D A (wI cI cJ cZ a n ah pl ck ct nk pm ja rg bu pn tp (f_X1_enlarge_st k z st) us fb kA tA lx ly gx gy gu gv) := hD
      refine lv_goto (tgt := 37) hx hb dX3_more_32 (by decide) ?_
      exact wr_i hx hb hr hlocks hAe hP hD hS dX3_more_37 (⟨by unfold f_X3_more; rw [if_neg c_1, if_neg c_2], by simp only [f_X3_more_st, if_neg c_1, if_neg c_2]⟩)
  · skip
    refine lv_iconst (v := -1) hx hb dX3_more_11 (by decide) ?_
    exact wr_i hx hb hr hlocks hAe hP hD hS dX3_more_12 (⟨by unfold f_X3_more; rw [if_pos c_1], by simp only [f_X3_more_st, if_pos c_1]⟩)
def f_X3_apart (k : Int32) : Int32 := if (f_X3_isWithin k 1 16) = 0 then -2 else 1
def f_X3_apart_ja (k : Int32) (ja : Int32) : Int32 := if (f_X3_isWithin k 1 16) = 0 then ja else k
set_option maxRecDepth 20000 in
set_option maxHeartbeats 4000000 in
theorem k_X3_apart (l : Launch) (D : va_G) (cI cJ cZ : ClassId) (a : Nat → Nat) (n : Nat) (ah pl ck ct nk pm ja rg bu pn : Int32) (tp st us fb kA tA : Nat → Int32) (lx ly gx gy gu gv : Nat → Int64) (k : Int32) : WR l yX3_apart cX3_apart 2 (some .int) 1 0 0 D (tysW cI cJ cZ) (wI cI cJ cZ a n ah pl ck ct nk pm ja rg bu pn tp st us fb kA tA lx ly gx gy gu gv) [.ref (a 0), .int k] (fun ov w' => ov = some (.int (f_X3_apart k)) ∧ w' = wI cI cJ cZ a n ah pl ck ct nk pm (f_X3_apart_ja k ja) rg bu pn tp st us fb kA tA lx ly gx gy gu gv) := by
  refine WR.of (by decide) ?_
  intro p e s m below meth c A hadm hx hb hr hml hown hlocks hname hE hP hK hD hS hA hAe
  have hown : s.vm.findClass RX3 = some m.cls := hown
  have ht : tb_OK s := hE.1
  have hl := lv_entry ([.ref (a 0), .int k]) (n := 2) (Nat.le_of_ble_eq_true rfl)
  rw [lg_entry_eq]
  generalize (lg_sl ([.ref (a 0), .int k]) ++ List.replicate (2 - (lg_sl ([.ref (a 0), .int k])).length) Slot.unset).toArray = ls at hl ⊢
  have hl : lv_has ls 2 [(0, .ref (a 0)), (1, .int k)] := hl
  refine lv_iload_n hx hb dX3_apart_0 rfl (lv_at hl 1 rfl) ?_
  refine lv_iconst (v := 1) hx hb dX3_apart_1 (by decide) ?_
  refine lv_bipush (v := 16) hx hb dX3_apart_2 (by decide) ?_
  refine rdS (As := [.int k, .int 1, .int 16]) (rest := []) (st1 := [.int (f_X3_isWithin k 1 16)]) (k_X3_isWithin l D (tysW cI cJ cZ) k 1 16) (si_X3_54 ht ⟨Nat.le_of_ble_eq_true rfl, Nat.le_of_ble_eq_true rfl⟩) hx hb hml hown (hE.since hS) pNil hK rfl hl.1 rfl (Nat.le_of_ble_eq_true rfl) ⟨Nat.zero_le _, Nat.zero_le _⟩ dX3_apart_4 rfl ?_
  refine lv_if_ne (tgt := 13) hx hb dX3_apart_7 (by decide) (fun c_1 => ?_) (fun c_1 => ?_)
  · skip
    refine lv_aload_n hx hb dX3_apart_13 rfl (lv_at hl 0 rfl) ?_
    refine va_get (D := D) (ci := 4) (v := .ref (a 5)) (C := RX3) (T := TX3) (N := 7) hx hb (lyX3 ht) (fun _ h9 => h9) hown hK hP 0 rfl rfl 1 (by decide) (fl_X3_19 ht) (fun _ h9 => h9) rfl dX3_apart_14 ?_
    refine lv_iload_n hx hb dX3_apart_17 rfl (lv_at hl 1 rfl) ?_
    refine va_putN (D := D) (ci := 1) (v := .int k) (ty := .int) (C := RX0) (T := TX0) (N := 3) hx hb (lyX0 ht) (fun _ h9 => h9) tyX0 tyX0_ok nmX0 hown hK hP hD hS 5 rfl rfl 2 (by decide) (fn_X3_85 ht) (fun _ h9 => h9) rfl (by decide +kernel) rfl rfl (Nat.le_of_ble_eq_true rfl) dX3_apart_18 (fun H locs hP hD hS => ?_)
    have hP : va_P D vwCl (wI cI cJ cZ a n ah pl ck ct nk pm k rg bu pn tp st us fb kA tA lx ly gx gy gu gv) H := hP
    have hD : va_D A (wI cI cJ cZ a n ah pl ck ct nk pm k rg bu pn tp st us fb kA tA lx ly gx gy gu gv) := hD
    refine lv_iconst (v := 1) hx hb dX3_apart_21 (by decide) ?_
    exact wr_i hx hb hr hlocks hAe hP hD hS dX3_apart_22 (⟨by unfold f_X3_apart; rw [if_neg c_1], by simp only [f_X3_apart_ja, if_neg c_1]⟩)
  · skip
    refine lv_bipush (v := -2) hx hb dX3_apart_10 (by decide) ?_
    exact wr_i hx hb hr hlocks hAe hP hD hS dX3_apart_12 (⟨by unfold f_X3_apart; rw [if_pos c_1], by simp only [f_X3_apart_ja, if_pos c_1]⟩)
theorem nz01 {v : Int32} (h : v = 0 ∨ v = 1) : narrow .boolean (.int v) = .int v := by rcases h with rfl | rfl <;> rfl
theorem z01_X0_permit (k z : Int32) (fb : Nat → Int32) : f_X0_permit k z fb = 0 ∨ f_X0_permit k z fb = 1 := by
  unfold f_X0_permit
  repeat' split
  all_goals first | exact Or.inl rfl | exact Or.inr rfl
def f_X3_allow (k : Int32) (z : Int32) (fb : Nat → Int32) : Int32 := f_X0_permit k z fb
def f_X3_allow_pm (k : Int32) (z : Int32) (pm : Int32) (fb : Nat → Int32) : Int32 := f_X0_permit_pm k z pm fb
def f_X3_allow_fb (k : Int32) (z : Int32) (fb : Nat → Int32) : Nat → Int32 := f_X0_permit_fb k z fb
set_option maxRecDepth 20000 in
set_option maxHeartbeats 4000000 in
theorem k_X3_allow (l : Launch) (D : va_G) (cI cJ cZ : ClassId) (a : Nat → Nat) (n : Nat) (ah pl ck ct nk pm ja rg bu pn : Int32) (tp st us fb kA tA : Nat → Int32) (lx ly gx gy gu gv : Nat → Int64) (k : Int32) (z : Int32) (hk : ¬ f_X0_isPosition k = 0 → vp_in k 16) : WR l yX3_allow cX3_allow 3 (some .boolean) 2 0 0 D (tysW cI cJ cZ) (wI cI cJ cZ a n ah pl ck ct nk pm ja rg bu pn tp st us fb kA tA lx ly gx gy gu gv) [.ref (a 0), .int k, .int z] (fun ov w' => ov = some (.int (f_X3_allow k z fb)) ∧ w' = wI cI cJ cZ a n ah pl ck ct nk (f_X3_allow_pm k z pm fb) ja rg bu pn tp st us (f_X3_allow_fb k z fb) kA tA lx ly gx gy gu gv) := by
  refine WR.of (by decide) ?_
  intro p e s m below meth c A hadm hx hb hr hml hown hlocks hname hE hP hK hD hS hA hAe
  have hown : s.vm.findClass RX3 = some m.cls := hown
  have ht : tb_OK s := hE.1
  have hl := lv_entry ([.ref (a 0), .int k, .int z]) (n := 3) (Nat.le_of_ble_eq_true rfl)
  rw [lg_entry_eq]
  generalize (lg_sl ([.ref (a 0), .int k, .int z]) ++ List.replicate (3 - (lg_sl ([.ref (a 0), .int k, .int z])).length) Slot.unset).toArray = ls at hl ⊢
  have hl : lv_has ls 3 [(0, .ref (a 0)), (1, .int k), (2, .int z)] := hl
  refine lv_aload_n hx hb dX3_allow_0 rfl (lv_at hl 0 rfl) ?_
  refine va_get (D := D) (ci := 4) (v := .ref (a 5)) (C := RX3) (T := TX3) (N := 7) hx hb (lyX3 ht) (fun _ h9 => h9) hown hK hP 0 rfl rfl 1 (by decide) (fl_X3_19 ht) (fun _ h9 => h9) rfl dX3_allow_1 ?_
  refine lv_iload_n hx hb dX3_allow_4 rfl (lv_at hl 1 rfl) ?_
  refine lv_iload_n hx hb dX3_allow_5 rfl (lv_at hl 2 rfl) ?_
  refine wrVN (As := [.int k, .int z]) (rest := []) (k_X0_permit l D cI cJ cZ a n ah pl ck ct nk pm ja rg bu pn tp st us fb kA tA lx ly gx gy gu gv k z hk) (si_X3_88 ht ⟨Nat.le_of_ble_eq_true rfl, Nat.le_of_ble_eq_true rfl⟩) hx hb hml hown (va_recv hK hP (ci := 1) (q0 := 5) rfl rfl) hE hP hK hD hS hA rfl hl.1 rfl (Nat.le_of_ble_eq_true rfl) ⟨Nat.zero_le _, Nat.zero_le _⟩ dX3_allow_6 (fun ov w' H locs hpost hP hD hS => ?_)
  obtain ⟨rfl, rfl⟩ := hpost
  refine W.st (st1 := [.int (f_X0_permit k z fb)]) rfl ?_
  have hP : va_P D vwCl (wI cI cJ cZ a n ah pl ck ct nk (f_X0_permit_pm k z pm fb) ja rg bu pn tp st us (f_X0_permit_fb k z fb) kA tA lx ly gx gy gu gv) H := hP
  have hD : va_D A (wI cI cJ cZ a n ah pl ck ct nk (f_X0_permit_pm k z pm fb) ja rg bu pn tp st us (f_X0_permit_fb k z fb) kA tA lx ly gx gy gu gv) := hD
  exact wr_z hx hb hr hlocks hAe hP hD hS dX3_allow_9 (nz01 (z01_X0_permit k z fb)) (⟨rfl, rfl⟩)
def f_X3_look (k : Int32) : Int32 := if (f_X3_isWithin k 1 2) = 0 then -2 else 1
def f_X3_look_ah (k : Int32) (ah : Int32) : Int32 := if (f_X3_isWithin k 1 2) = 0 then ah else k
set_option maxRecDepth 20000 in
set_option maxHeartbeats 4000000 in
theorem k_X3_look (l : Launch) (D : va_G) (cI cJ cZ : ClassId) (a : Nat → Nat) (n : Nat) (ah pl ck ct nk pm ja rg bu pn : Int32) (tp st us fb kA tA : Nat → Int32) (lx ly gx gy gu gv : Nat → Int64) (k : Int32) : WR l yX3_look cX3_look 2 (some .int) 1 0 0 D (tysW cI cJ cZ) (wI cI cJ cZ a n ah pl ck ct nk pm ja rg bu pn tp st us fb kA tA lx ly gx gy gu gv) [.ref (a 0), .int k] (fun ov w' => ov = some (.int (f_X3_look k)) ∧ w' = wI cI cJ cZ a n (f_X3_look_ah k ah) pl ck ct nk pm ja rg bu pn tp st us fb kA tA lx ly gx gy gu gv) := by
  refine WR.of (by decide) ?_
  intro p e s m below meth c A hadm hx hb hr hml hown hlocks hname hE hP hK hD hS hA hAe
  have hown : s.vm.findClass RX3 = some m.cls := hown
  have ht : tb_OK s := hE.1
  have hl := lv_entry ([.ref (a 0), .int k]) (n := 2) (Nat.le_of_ble_eq_true rfl)
  rw [lg_entry_eq]
  generalize (lg_sl ([.ref (a 0), .int k]) ++ List.replicate (2 - (lg_sl ([.ref (a 0), .int k])).length) Slot.unset).toArray = ls at hl ⊢
  have hl : lv_has ls 2 [(0, .ref (a 0)), (1, .int k)] := hl
  refine lv_iload_n hx hb dX3_look_0 rfl (lv_at hl 1 rfl) ?_
  refine lv_iconst (v := 1) hx hb dX3_look_1 (by decide) ?_
  refine lv_iconst (v := 2) hx hb dX3_look_2 (by decide) ?_
  refine rdS (As := [.int k, .int 1, .int 2]) (rest := []) (st1 := [.int (f_X3_isWithin k 1 2)]) (k_X3_isWithin l D (tysW cI cJ cZ) k 1 2) (si_X3_54 ht ⟨Nat.le_of_ble_eq_true rfl, Nat.le_of_ble_eq_true rfl⟩) hx hb hml hown (hE.since hS) pNil hK rfl hl.1 rfl (Nat.le_of_ble_eq_true rfl) ⟨Nat.zero_le _, Nat.zero_le _⟩ dX3_look_3 rfl ?_
  refine lv_if_ne (tgt := 12) hx hb dX3_look_6 (by decide) (fun c_1 => ?_) (fun c_1 => ?_)
  · skip
    refine lv_aload_n hx hb dX3_look_12 rfl (lv_at hl 0 rfl) ?_
    refine lv_iload_n hx hb dX3_look_13 rfl (lv_at hl 1 rfl) ?_
    refine va_put (D := D) (ci := 4) (v := .int k) (ty := .int) (C := RX3) (T := TX3) (N := 7) hx hb (lyX3 ht) (fun _ h9 => h9) tyX3 tyX3_ok nmX3 hown hK hP hD hS 0 rfl rfl 3 (by decide) (fl_X3_41 ht) (fun _ h9 => h9) rfl (by decide +kernel) rfl rfl (Nat.le_of_ble_eq_true rfl) dX3_look_14 (fun H locs hP hD hS => ?_)
    have hP : va_P D vwCl (wI cI cJ cZ a n k pl ck ct nk pm ja rg bu pn tp st us fb kA tA lx ly gx gy gu gv) H := hP
    have hD : va_D A (wI cI cJ cZ a n k pl ck ct nk pm ja rg bu pn tp st us fb kA tA lx ly gx gy gu gv) := hD
    refine lv_iconst (v := 1) hx hb dX3_look_17 (by decide) ?_
    exact wr_i hx hb hr hlocks hAe hP hD hS dX3_look_18 (⟨by unfold f_X3_look; rw [if_neg c_1], by simp only [f_X3_look_ah, if_neg c_1]⟩)
  · skip
    refine lv_bipush (v := -2) hx hb dX3_look_9 (by decide) ?_
    exact wr_i hx hb hr hlocks hAe hP hD hS dX3_look_11 (⟨by unfold f_X3_look; rw [if_pos c_1], by simp only [f_X3_look_ah, if_pos c_1]⟩)
def f_X3_build (k : Int32) (bu : Int32) (pn : Int32) : Int32 := if 1 ≤ k then (if k ≤ pn then (bu + k) else -3) else -2
def f_X3_build_bu (k : Int32) (bu : Int32) (pn : Int32) : Int32 := if 1 ≤ k then (if k ≤ pn then (bu + k) else bu) else bu
def f_X3_build_pn (k : Int32) (pn : Int32) : Int32 := if 1 ≤ k then (if k ≤ pn then (pn - k) else pn) else pn
set_option maxRecDepth 20000 in
set_option maxHeartbeats 4000000 in
theorem k_X3_build (l : Launch) (D : va_G) (cI cJ cZ : ClassId) (a : Nat → Nat) (n : Nat) (ah pl ck ct nk pm ja rg bu pn : Int32) (tp st us fb kA tA : Nat → Int32) (lx ly gx gy gu gv : Nat → Int64) (k : Int32) : WR l yX3_build cX3_build 2 (some .int) 0 0 0 D (tysW cI cJ cZ) (wI cI cJ cZ a n ah pl ck ct nk pm ja rg bu pn tp st us fb kA tA lx ly gx gy gu gv) [.ref (a 0), .int k] (fun ov w' => ov = some (.int (f_X3_build k bu pn)) ∧ w' = wI cI cJ cZ a n ah pl ck ct nk pm ja rg (f_X3_build_bu k bu pn) (f_X3_build_pn k pn) tp st us fb kA tA lx ly gx gy gu gv) := by
  refine WR.of (by decide) ?_
  intro p e s m below meth c A hadm hx hb hr hml hown hlocks hname hE hP hK hD hS hA hAe
  have hown : s.vm.findClass RX3 = some m.cls := hown
  have ht : tb_OK s := hE.1
  have hl := lv_entry ([.ref (a 0), .int k]) (n := 2) (Nat.le_of_ble_eq_true rfl)
  rw [lg_entry_eq]
  generalize (lg_sl ([.ref (a 0), .int k]) ++ List.replicate (2 - (lg_sl ([.ref (a 0), .int k])).length) Slot.unset).toArray = ls at hl ⊢
  have hl : lv_has ls 2 [(0, .ref (a 0)), (1, .int k)] := hl
  refine lv_iload_n hx hb dX3_build_0 rfl (lv_at hl 1 rfl) ?_
  refine lv_iconst (v := 1) hx hb dX3_build_1 (by decide) ?_
  refine lv_icmp_ge (tgt := 8) hx hb dX3_build_2 (by decide) (fun c_1 => ?_) (fun c_1 => ?_)
  · skip
    refine lv_iload_n hx hb dX3_build_8 rfl (lv_at hl 1 rfl) ?_
    refine lv_aload_n hx hb dX3_build_9 rfl (lv_at hl 0 rfl) ?_
    refine va_get (D := D) (ci := 4) (v := .ref (a 7)) (C := RX3) (T := TX3) (N := 7) hx hb (lyX3 ht) (fun _ h9 => h9) hown hK hP 0 rfl rfl 2 (by decide) (fl_X3_37 ht) (fun _ h9 => h9) rfl dX3_build_10 ?_
    refine va_getN (D := D) (ci := 3) (v := .int pn) (C := RX2) (T := TX2) (N := 11) hx hb (lyX2 ht) (fun _ h9 => h9) hown hK hP 7 rfl rfl 2 (by decide) (fn_X3_104 ht) (fun _ h9 => h9) rfl dX3_build_13 ?_
    refine lv_icmp_le (tgt := 22) hx hb dX3_build_16 (by decide) (fun c_2 => ?_) (fun c_2 => ?_)
    · skip
      refine lv_aload_n hx hb dX3_build_22 rfl (lv_at hl 0 rfl) ?_
      refine va_get (D := D) (ci := 4) (v := .ref (a 7)) (C := RX3) (T := TX3) (N := 7) hx hb (lyX3 ht) (fun _ h9 => h9) hown hK hP 0 rfl rfl 2 (by decide) (fl_X3_37 ht) (fun _ h9 => h9) rfl dX3_build_23 ?_
      refine lv_dup hx hb dX3_build_26 rfl ?_
      refine va_getN (D := D) (ci := 3) (v := .int pn) (C := RX2) (T := TX2) (N := 11) hx hb (lyX2 ht) (fun _ h9 => h9) hown hK hP 7 rfl rfl 2 (by decide) (fn_X3_104 ht) (fun _ h9 => h9) rfl dX3_build_27 ?_
      refine lv_iload_n hx hb dX3_build_30 rfl (lv_at hl 1 rfl) ?_
      refine lv_isub hx hb dX3_build_31 ?_
      refine va_putN (D := D) (ci := 3) (v := .int (pn - k)) (ty := .int) (C := RX2) (T := TX2) (N := 11) hx hb (lyX2 ht) (fun _ h9 => h9) tyX2 tyX2_ok nmX2 hown hK hP hD hS 7 rfl rfl 2 (by decide) (fn_X3_104 ht) (fun _ h9 => h9) rfl (by decide +kernel) rfl rfl (Nat.le_of_ble_eq_true rfl) dX3_build_32 (fun H locs hP hD hS => ?_)
      have hP : va_P D vwCl (wI cI cJ cZ a n ah pl ck ct nk pm ja rg bu (pn - k) tp st us fb kA tA lx ly gx gy gu gv) H := hP
      have hD : va_D A (wI cI cJ cZ a n ah pl ck ct nk pm ja rg bu (pn - k) tp st us fb kA tA lx ly gx gy gu gv) := hD
      refine lv_aload_n hx hb dX3_build_35 rfl (lv_at hl 0 rfl) ?_
      refine va_get (D := D) (ci := 4) (v := .ref (a 7)) (C := RX3) (T := TX3) (N := 7) hx hb (lyX3 ht) (fun _ h9 => h9) hown hK hP 0 rfl rfl 2 (by decide) (fl_X3_37 ht) (fun _ h9 => h9) rfl dX3_build_36 ?_
      refine lv_dup hx hb dX3_build_39 rfl ?_
      refine va_getN (D := D) (ci := 3) (v := .int bu) (C := RX2) (T := TX2) (N := 11) hx hb (lyX2 ht) (fun _ h9 => h9) hown hK hP 7 rfl rfl 1 (by decide) (fn_X3_95 ht) (fun _ h9 => h9) rfl dX3_build_40 ?_
      refine lv_iload_n hx hb dX3_build_43 rfl (lv_at hl 1 rfl) ?_
      refine lv_iadd hx hb dX3_build_44 ?_
      refine va_putN (D := D) (ci := 3) (v := .int (bu + k)) (ty := .int) (C := RX2) (T := TX2) (N := 11) hx hb (lyX2 ht) (fun _ h9 => h9) tyX2 tyX2_ok nmX2 hown hK hP hD hS 7 rfl rfl 1 (by decide) (fn_X3_95 ht) (fun _ h9 => h9) rfl (by decide +kernel) rfl rfl (Nat.le_of_ble_eq_true rfl) dX3_build_45 (fun H locs hP hD hS => ?_)
      have hP : va_P D vwCl (wI cI cJ cZ a n ah pl ck ct nk pm ja rg (bu + k) (pn - k) tp st us fb kA tA lx ly gx gy gu gv) H := hP
      have hD : va_D A (wI cI cJ cZ a n ah pl ck ct nk pm ja rg (bu + k) (pn - k) tp st us fb kA tA lx ly gx gy gu gv) := hD
      refine lv_aload_n hx hb dX3_build_48 rfl (lv_at hl 0 rfl) ?_
      refine va_get (D := D) (ci := 4) (v := .ref (a 7)) (C := RX3) (T := TX3) (N := 7) hx hb (lyX3 ht) (fun _ h9 => h9) hown hK hP 0 rfl rfl 2 (by decide) (fl_X3_37 ht) (fun _ h9 => h9) rfl dX3_build_49 ?_
      refine va_getN (D := D) (ci := 3) (v := .int (bu + k)) (C := RX2) (T := TX2) (N := 11) hx hb (lyX2 ht) (fun _ h9 => h9) hown hK hP 7 rfl rfl 1 (by decide) (fn_X3_95 ht) (fun _ h9 => h9) rfl dX3_build_52 ?_
      exact wr_i hx hb hr hlocks hAe hP hD hS dX3_build_55 (⟨by unfold f_X3_build; rw [if_pos c_1, if_pos c_2], by simp only [f_X3_build_bu, f_X3_build_pn, if_pos c_1, if_pos c_2]⟩)
    · skip
      refine lv_bipush (v := -3) hx hb dX3_build_19 (by decide) ?_
      exact wr_i hx hb hr hlocks hAe hP hD hS dX3_build_21 (⟨by unfold f_X3_build; rw [if_pos c_1, if_neg c_2], by simp only [f_X3_build_bu, f_X3_build_pn, if_pos c_1, if_neg c_2]⟩)
  · skip
    refine lv_bipush (v := -2) hx hb dX3_build_5 (by decide) ?_
    exact wr_i hx hb hr hlocks hAe hP hD hS dX3_build_7 (⟨by unfold f_X3_build; rw [if_neg c_1], by simp only [f_X3_build_bu, f_X3_build_pn, if_neg c_1]⟩)
def f_X3_kindOf (r : Int32) (bu : Int32) (pn : Int32) (kA : Nat → Int32) : Int32 := if (f_X2_stands r bu pn) = 0 then -1 else (kA r.toNatClampNeg)
set_option maxRecDepth 20000 in
set_option maxHeartbeats 4000000 in
theorem k_X3_kindOf (l : Launch) (D : va_G) (cI cJ cZ : ClassId) (a : Nat → Nat) (n : Nat) (ah pl ck ct nk pm ja rg bu pn : Int32) (tp st us fb kA tA : Nat → Int32) (lx ly gx gy gu gv : Nat → Int64) (r : Int32) (hk : ¬ f_X2_stands r bu pn = 0 → vp_in r n) : RD l yX3_kindOf cX3_kindOf 2 (some .int) 2 D (tysW cI cJ cZ) (wI cI cJ cZ a n ah pl ck ct nk pm ja rg bu pn tp st us fb kA tA lx ly gx gy gu gv) [.ref (a 0), .int r] (some (.int (f_X3_kindOf r bu pn kA))) := by
  refine RD.of (by decide) ?_
  intro p e s m below meth c hx hb hr hml hown hlocks hE hP hK
  have hown : s.vm.findClass RX3 = some m.cls := hown
  have ht : tb_OK s := hE.1
  have hl := lv_entry ([.ref (a 0), .int r]) (n := 2) (Nat.le_of_ble_eq_true rfl)
  rw [lg_entry_eq]
  generalize (lg_sl ([.ref (a 0), .int r]) ++ List.replicate (2 - (lg_sl ([.ref (a 0), .int r])).length) Slot.unset).toArray = ls at hl ⊢
  have hl : lv_has ls 2 [(0, .ref (a 0)), (1, .int r)] := hl
  refine lv_aload_n hx hb dX3_kindOf_0 rfl (lv_at hl 0 rfl) ?_
  refine va_get (D := D) (ci := 4) (v := .ref (a 7)) (C := RX3) (T := TX3) (N := 7) hx hb (lyX3 ht) (fun _ h9 => h9) hown hK hP 0 rfl rfl 2 (by decide) (fl_X3_37 ht) (fun _ h9 => h9) rfl dX3_kindOf_1 ?_
  refine lv_iload_n hx hb dX3_kindOf_4 rfl (lv_at hl 1 rfl) ?_
  refine rdVN (As := [.int r]) (rest := []) (st1 := [.int (f_X2_stands r bu pn)]) (k_X2_stands l D cI cJ cZ a n ah pl ck ct nk pm ja rg bu pn tp st us fb kA tA lx ly gx gy gu gv r) (si_X3_128 ht ⟨Nat.le_of_ble_eq_true rfl, Nat.le_of_ble_eq_true rfl⟩) hx hb hml hown (va_recv hK hP (ci := 3) (q0 := 7) rfl rfl) hE hP hK rfl hl.1 rfl (Nat.le_of_ble_eq_true rfl) ⟨Nat.zero_le _, Nat.zero_le _⟩ dX3_kindOf_5 rfl ?_
  refine lv_if_eq (tgt := 23) hx hb dX3_kindOf_8 (by decide) (fun c_1 => ?_) (fun c_1 => ?_)
  · skip
    refine lv_iconst (v := -1) hx hb dX3_kindOf_23 (by decide) ?_
    exact rd_i hx hb hr hlocks dX3_kindOf_24 (by unfold f_X3_kindOf; rw [if_pos c_1])
  · skip
    refine lv_aload_n hx hb dX3_kindOf_11 rfl (lv_at hl 0 rfl) ?_
    refine va_get (D := D) (ci := 4) (v := .ref (a 7)) (C := RX3) (T := TX3) (N := 7) hx hb (lyX3 ht) (fun _ h9 => h9) hown hK hP 0 rfl rfl 2 (by decide) (fl_X3_37 ht) (fun _ h9 => h9) rfl dX3_kindOf_12 ?_
    refine va_getN (D := D) (ci := 3) (v := .ref (a 8)) (C := RX2) (T := TX2) (N := 11) hx hb (lyX2 ht) (fun _ h9 => h9) hown hK hP 7 rfl rfl 3 (by decide) (fn_X3_112 ht) (fun _ h9 => h9) rfl dX3_kindOf_15 ?_
    refine lv_iload_n hx hb dX3_kindOf_18 rfl (lv_at hl 1 rfl) ?_
    refine va_iald hx hb hK hP 8 0 rfl rfl (hk c_1) dX3_kindOf_19 ?_
    refine lv_goto (tgt := 24) hx hb dX3_kindOf_20 (by decide) ?_
    exact rd_i hx hb hr hlocks dX3_kindOf_24 (by unfold f_X3_kindOf; rw [if_neg c_1])
def f_X3_turnOf (r : Int32) (bu : Int32) (pn : Int32) (tA : Nat → Int32) : Int32 := if (f_X2_stands r bu pn) = 0 then -1 else (tA r.toNatClampNeg)
set_option maxRecDepth 20000 in
set_option maxHeartbeats 4000000 in
theorem k_X3_turnOf (l : Launch) (D : va_G) (cI cJ cZ : ClassId) (a : Nat → Nat) (n : Nat) (ah pl ck ct nk pm ja rg bu pn : Int32) (tp st us fb kA tA : Nat → Int32) (lx ly gx gy gu gv : Nat → Int64) (r : Int32) (hk : ¬ f_X2_stands r bu pn = 0 → vp_in r n) : RD l yX3_turnOf cX3_turnOf 2 (some .int) 2 D (tysW cI cJ cZ) (wI cI cJ cZ a n ah pl ck ct nk pm ja rg bu pn tp st us fb kA tA lx ly gx gy gu gv) [.ref (a 0), .int r] (some (.int (f_X3_turnOf r bu pn tA))) := by
  refine RD.of (by decide) ?_
  intro p e s m below meth c hx hb hr hml hown hlocks hE hP hK
  have hown : s.vm.findClass RX3 = some m.cls := hown
  have ht : tb_OK s := hE.1
  have hl := lv_entry ([.ref (a 0), .int r]) (n := 2) (Nat.le_of_ble_eq_true rfl)
  rw [lg_entry_eq]
  generalize (lg_sl ([.ref (a 0), .int r]) ++ List.replicate (2 - (lg_sl ([.ref (a 0), .int r])).length) Slot.unset).toArray = ls at hl ⊢
  have hl : lv_has ls 2 [(0, .ref (a 0)), (1, .int r)] := hl
  refine lv_aload_n hx hb dX3_turnOf_0 rfl (lv_at hl 0 rfl) ?_
  refine va_get (D := D) (ci := 4) (v := .ref (a 7)) (C := RX3) (T := TX3) (N := 7) hx hb (lyX3 ht) (fun _ h9 => h9) hown hK hP 0 rfl rfl 2 (by decide) (fl_X3_37 ht) (fun _ h9 => h9) rfl dX3_turnOf_1 ?_
  refine lv_iload_n hx hb dX3_turnOf_4 rfl (lv_at hl 1 rfl) ?_
  refine rdVN (As := [.int r]) (rest := []) (st1 := [.int (f_X2_stands r bu pn)]) (k_X2_stands l D cI cJ cZ a n ah pl ck ct nk pm ja rg bu pn tp st us fb kA tA lx ly gx gy gu gv r) (si_X3_128 ht ⟨Nat.le_of_ble_eq_true rfl, Nat.le_of_ble_eq_true rfl⟩) hx hb hml hown (va_recv hK hP (ci := 3) (q0 := 7) rfl rfl) hE hP hK rfl hl.1 rfl (Nat.le_of_ble_eq_true rfl) ⟨Nat.zero_le _, Nat.zero_le _⟩ dX3_turnOf_5 rfl ?_
  refine lv_if_eq (tgt := 23) hx hb dX3_turnOf_8 (by decide) (fun c_1 => ?_) (fun c_1 => ?_)
  · skip
    refine lv_iconst (v := -1) hx hb dX3_turnOf_23 (by decide) ?_
    exact rd_i hx hb hr hlocks dX3_turnOf_24 (by unfold f_X3_turnOf; rw [if_pos c_1])
  · skip
    refine lv_aload_n hx hb dX3_turnOf_11 rfl (lv_at hl 0 rfl) ?_
    refine va_get (D := D) (ci := 4) (v := .ref (a 7)) (C := RX3) (T := TX3) (N := 7) hx hb (lyX3 ht) (fun _ h9 => h9) hown hK hP 0 rfl rfl 2 (by decide) (fl_X3_37 ht) (fun _ h9 => h9) rfl dX3_turnOf_12 ?_
    refine va_getN (D := D) (ci := 3) (v := .ref (a 9)) (C := RX2) (T := TX2) (N := 11) hx hb (lyX2 ht) (fun _ h9 => h9) hown hK hP 7 rfl rfl 4 (by decide) (fn_X3_131 ht) (fun _ h9 => h9) rfl dX3_turnOf_15 ?_
    refine lv_iload_n hx hb dX3_turnOf_18 rfl (lv_at hl 1 rfl) ?_
    refine va_iald hx hb hK hP 9 0 rfl rfl (hk c_1) dX3_turnOf_19 ?_
    refine lv_goto (tgt := 24) hx hb dX3_turnOf_20 (by decide) ?_
    exact rd_i hx hb hr hlocks dX3_turnOf_24 (by unfold f_X3_turnOf; rw [if_neg c_1])
def f_X3_state (r : Int32) (rg : Int32) (bu : Int32) (pn : Int32) : Int32 := if (f_X2_has r rg) = 0 then -1 else (f_X2_stateAt r bu pn)
set_option maxRecDepth 20000 in
set_option maxHeartbeats 4000000 in
theorem k_X3_state (l : Launch) (D : va_G) (cI cJ cZ : ClassId) (a : Nat → Nat) (n : Nat) (ah pl ck ct nk pm ja rg bu pn : Int32) (tp st us fb kA tA : Nat → Int32) (lx ly gx gy gu gv : Nat → Int64) (r : Int32) : RD l yX3_state cX3_state 2 (some .int) 2 D (tysW cI cJ cZ) (wI cI cJ cZ a n ah pl ck ct nk pm ja rg bu pn tp st us fb kA tA lx ly gx gy gu gv) [.ref (a 0), .int r] (some (.int (f_X3_state r rg bu pn))) := by
  refine RD.of (by decide) ?_
  intro p e s m below meth c hx hb hr hml hown hlocks hE hP hK
  have hown : s.vm.findClass RX3 = some m.cls := hown
  have ht : tb_OK s := hE.1
  have hl := lv_entry ([.ref (a 0), .int r]) (n := 2) (Nat.le_of_ble_eq_true rfl)
  rw [lg_entry_eq]
  generalize (lg_sl ([.ref (a 0), .int r]) ++ List.replicate (2 - (lg_sl ([.ref (a 0), .int r])).length) Slot.unset).toArray = ls at hl ⊢
  have hl : lv_has ls 2 [(0, .ref (a 0)), (1, .int r)] := hl
  refine lv_aload_n hx hb dX3_state_0 rfl (lv_at hl 0 rfl) ?_
  refine va_get (D := D) (ci := 4) (v := .ref (a 7)) (C := RX3) (T := TX3) (N := 7) hx hb (lyX3 ht) (fun _ h9 => h9) hown hK hP 0 rfl rfl 2 (by decide) (fl_X3_37 ht) (fun _ h9 => h9) rfl dX3_state_1 ?_
  refine lv_iload_n hx hb dX3_state_4 rfl (lv_at hl 1 rfl) ?_
  refine rdVN (As := [.int r]) (rest := []) (st1 := [.int (f_X2_has r rg)]) (k_X2_has l D cI cJ cZ a n ah pl ck ct nk pm ja rg bu pn tp st us fb kA tA lx ly gx gy gu gv r) (si_X3_134 ht ⟨Nat.le_of_ble_eq_true rfl, Nat.le_of_ble_eq_true rfl⟩) hx hb hml hown (va_recv hK hP (ci := 3) (q0 := 7) rfl rfl) hE hP hK rfl hl.1 rfl (Nat.le_of_ble_eq_true rfl) ⟨Nat.zero_le _, Nat.zero_le _⟩ dX3_state_5 rfl ?_
  refine lv_if_eq (tgt := 22) hx hb dX3_state_8 (by decide) (fun c_1 => ?_) (fun c_1 => ?_)
  · skip
    refine lv_iconst (v := -1) hx hb dX3_state_22 (by decide) ?_
    exact rd_i hx hb hr hlocks dX3_state_23 (by unfold f_X3_state; rw [if_pos c_1])
  · skip
    refine lv_aload_n hx hb dX3_state_11 rfl (lv_at hl 0 rfl) ?_
    refine va_get (D := D) (ci := 4) (v := .ref (a 7)) (C := RX3) (T := TX3) (N := 7) hx hb (lyX3 ht) (fun _ h9 => h9) hown hK hP 0 rfl rfl 2 (by decide) (fl_X3_37 ht) (fun _ h9 => h9) rfl dX3_state_12 ?_
    refine lv_iload_n hx hb dX3_state_15 rfl (lv_at hl 1 rfl) ?_
    refine rdVN (As := [.int r]) (rest := []) (st1 := [.int (f_X2_stateAt r bu pn)]) (k_X2_stateAt l D cI cJ cZ a n ah pl ck ct nk pm ja rg bu pn tp st us fb kA tA lx ly gx gy gu gv r) (si_X3_77 ht ⟨Nat.le_of_ble_eq_true rfl, Nat.le_of_ble_eq_true rfl⟩) hx hb hml hown (va_recv hK hP (ci := 3) (q0 := 7) rfl rfl) hE hP hK rfl hl.1 rfl (Nat.le_of_ble_eq_true rfl) ⟨Nat.zero_le _, Nat.zero_le _⟩ dX3_state_16 rfl ?_
    refine lv_goto (tgt := 23) hx hb dX3_state_19 (by decide) ?_
    exact rd_i hx hb hr hlocks dX3_state_23 (by unfold f_X3_state; rw [if_neg c_1])
def f_X3_stroke (r : Int32) (k : Int32) (bu : Int32) (pn : Int32) (tp : Nat → Int32) (kA : Nat → Int32) (tA : Nat → Int32) : Int32 := if (f_X2_stands r bu pn) = 0 then 0 else (if (f_X0_isPosition k) = 0 then 0 else (f_J9_floorDiv_7cf53 ((tp (kA r.toNatClampNeg).toNatClampNeg) * (f_X0_c (k - (tA r.toNatClampNeg)))) 64))
set_option maxRecDepth 20000 in
set_option maxHeartbeats 4000000 in
theorem k_X3_stroke (l : Launch) (D : va_G) (cI cJ cZ : ClassId) (a : Nat → Nat) (n : Nat) (ah pl ck ct nk pm ja rg bu pn : Int32) (tp st us fb kA tA : Nat → Int32) (lx ly gx gy gu gv : Nat → Int64) (r : Int32) (k : Int32) (hk : ¬ f_X2_stands r bu pn = 0 → vp_in r n) (hq : ¬ f_X2_stands r bu pn = 0 → vp_in (kA r.toNatClampNeg) 4) : RD l yX3_stroke cX3_stroke 4 (some .int) 2 D (tysW cI cJ cZ) (wI cI cJ cZ a n ah pl ck ct nk pm ja rg bu pn tp st us fb kA tA lx ly gx gy gu gv) [.ref (a 0), .int r, .int k] (some (.int (f_X3_stroke r k bu pn tp kA tA))) := by
  refine RD.of (by decide) ?_
  intro p e s m below meth c hx hb hr hml hown hlocks hE hP hK
  have hown : s.vm.findClass RX3 = some m.cls := hown
  have ht : tb_OK s := hE.1
  have hl := lv_entry ([.ref (a 0), .int r, .int k]) (n := 4) (Nat.le_of_ble_eq_true rfl)
  rw [lg_entry_eq]
  generalize (lg_sl ([.ref (a 0), .int r, .int k]) ++ List.replicate (4 - (lg_sl ([.ref (a 0), .int r, .int k])).length) Slot.unset).toArray = ls at hl ⊢
  have hl : lv_has ls 4 [(0, .ref (a 0)), (1, .int r), (2, .int k)] := hl
  refine lv_aload_n hx hb dX3_stroke_0 rfl (lv_at hl 0 rfl) ?_
  refine va_get (D := D) (ci := 4) (v := .ref (a 7)) (C := RX3) (T := TX3) (N := 7) hx hb (lyX3 ht) (fun _ h9 => h9) hown hK hP 0 rfl rfl 2 (by decide) (fl_X3_37 ht) (fun _ h9 => h9) rfl dX3_stroke_1 ?_
  refine lv_iload_n hx hb dX3_stroke_4 rfl (lv_at hl 1 rfl) ?_
  refine rdVN (As := [.int r]) (rest := []) (st1 := [.int (f_X2_stands r bu pn)]) (k_X2_stands l D cI cJ cZ a n ah pl ck ct nk pm ja rg bu pn tp st us fb kA tA lx ly gx gy gu gv r) (si_X3_128 ht ⟨Nat.le_of_ble_eq_true rfl, Nat.le_of_ble_eq_true rfl⟩) hx hb hml hown (va_recv hK hP (ci := 3) (q0 := 7) rfl rfl) hE hP hK rfl hl.1 rfl (Nat.le_of_ble_eq_true rfl) ⟨Nat.zero_le _, Nat.zero_le _⟩ dX3_stroke_5 rfl ?_
  refine lv_if_eq (tgt := 18) hx hb dX3_stroke_8 (by decide) (fun c_1 => ?_) (fun c_1 => ?_)
  · skip
    refine lv_iconst (v := 0) hx hb dX3_stroke_18 (by decide) ?_
    exact rd_i hx hb hr hlocks dX3_stroke_19 (by unfold f_X3_stroke; rw [if_pos c_1])
  · skip
    refine lv_iload_n hx hb dX3_stroke_11 rfl (lv_at hl 2 rfl) ?_
    refine rdSN (As := [.int k]) (rest := []) (st1 := [.int (f_X0_isPosition k)]) (k_X0_isPosition l D (tysW cI cJ cZ) k) (si_X3_166 ht ⟨Nat.le_of_ble_eq_true rfl, Nat.le_of_ble_eq_true rfl⟩) hx hb hml hown hE pNil hK rfl hl.1 rfl (Nat.le_of_ble_eq_true rfl) ⟨Nat.zero_le _, Nat.zero_le _⟩ dX3_stroke_12 rfl ?_
    refine lv_if_ne (tgt := 20) hx hb dX3_stroke_15 (by decide) (fun c_2 => ?_) (fun c_2 => ?_)
    · skip
      refine lv_aload_n hx hb dX3_stroke_20 rfl (lv_at hl 0 rfl) ?_
      refine va_get (D := D) (ci := 4) (v := .ref (a 1)) (C := RX3) (T := TX3) (N := 7) hx hb (lyX3 ht) (fun _ h9 => h9) hown hK hP 0 rfl rfl 0 (by decide) (fl_X3_10 ht) (fun _ h9 => h9) rfl dX3_stroke_21 ?_
      refine va_getN (D := D) (ci := 2) (v := .ref (a 2)) (C := RX1) (T := TX1) (N := 4) hx hb (lyX1 ht) (fun _ h9 => h9) hown hK hP 1 rfl rfl 0 (by decide) (fn_X3_169 ht) (fun _ h9 => h9) rfl dX3_stroke_24 ?_
      refine lv_aload_n hx hb dX3_stroke_27 rfl (lv_at hl 0 rfl) ?_
      refine va_get (D := D) (ci := 4) (v := .ref (a 7)) (C := RX3) (T := TX3) (N := 7) hx hb (lyX3 ht) (fun _ h9 => h9) hown hK hP 0 rfl rfl 2 (by decide) (fl_X3_37 ht) (fun _ h9 => h9) rfl dX3_stroke_28 ?_
      refine va_getN (D := D) (ci := 3) (v := .ref (a 8)) (C := RX2) (T := TX2) (N := 11) hx hb (lyX2 ht) (fun _ h9 => h9) hown hK hP 7 rfl rfl 3 (by decide) (fn_X3_112 ht) (fun _ h9 => h9) rfl dX3_stroke_31 ?_
      refine lv_iload_n hx hb dX3_stroke_34 rfl (lv_at hl 1 rfl) ?_
      refine va_iald hx hb hK hP 8 0 rfl rfl (hk c_1) dX3_stroke_35 ?_
      refine va_iald hx hb hK hP 2 0 rfl rfl (hq c_1) dX3_stroke_36 ?_
      refine lv_istore_n (lv' := [(3, .int (tp (kA r.toNatClampNeg).toNatClampNeg)), (0, .ref (a 0)), (1, .int r), (2, .int k)]) hx hb dX3_stroke_37 rfl hl (by decide) rfl (fun ls hl => ?_)
      refine lv_iload_n hx hb dX3_stroke_38 rfl (lv_at hl 0 rfl) ?_
      refine lv_iload_n hx hb dX3_stroke_39 rfl (lv_at hl 3 rfl) ?_
      refine lv_aload_n hx hb dX3_stroke_40 rfl (lv_at hl 1 rfl) ?_
      refine va_get (D := D) (ci := 4) (v := .ref (a 7)) (C := RX3) (T := TX3) (N := 7) hx hb (lyX3 ht) (fun _ h9 => h9) hown hK hP 0 rfl rfl 2 (by decide) (fl_X3_37 ht) (fun _ h9 => h9) rfl dX3_stroke_41 ?_
      refine va_getN (D := D) (ci := 3) (v := .ref (a 9)) (C := RX2) (T := TX2) (N := 11) hx hb (lyX2 ht) (fun _ h9 => h9) hown hK hP 7 rfl rfl 4 (by decide) (fn_X3_131 ht) (fun _ h9 => h9) rfl dX3_stroke_44 ?_
      refine lv_iload_n hx hb dX3_stroke_47 rfl (lv_at hl 2 rfl) ?_
      refine va_iald hx hb hK hP 9 0 rfl rfl (hk c_1) dX3_stroke_48 ?_
      refine lv_isub hx hb dX3_stroke_49 ?_
      refine rdSN (As := [.int (k - (tA r.toNatClampNeg))]) (rest := [.int (tp (kA r.toNatClampNeg).toNatClampNeg)]) (st1 := [.int (f_X0_c (k - (tA r.toNatClampNeg))), .int (tp (kA r.toNatClampNeg).toNatClampNeg)]) (k_X0_c l D (tysW cI cJ cZ) (k - (tA r.toNatClampNeg))) (si_X3_172 ht ⟨Nat.le_of_ble_eq_true rfl, Nat.le_of_ble_eq_true rfl⟩) hx hb hml hown hE pNil hK rfl hl.1 rfl (Nat.le_of_ble_eq_true rfl) ⟨Nat.zero_le _, Nat.zero_le _⟩ dX3_stroke_50 rfl ?_
      refine lv_imul hx hb dX3_stroke_53 ?_
      refine lv_bipush (v := 64) hx hb dX3_stroke_54 (by decide) ?_
      refine rdS (As := [.int ((tp (kA r.toNatClampNeg).toNatClampNeg) * (f_X0_c (k - (tA r.toNatClampNeg)))), .int 64]) (rest := []) (st1 := [.int (f_J9_floorDiv_7cf53 ((tp (kA r.toNatClampNeg).toNatClampNeg) * (f_X0_c (k - (tA r.toNatClampNeg)))) 64)]) (k_J9_floorDiv_7cf53 l D (tysW cI cJ cZ) ((tp (kA r.toNatClampNeg).toNatClampNeg) * (f_X0_c (k - (tA r.toNatClampNeg)))) 64 (by decide)) (si_X3_175 ht ⟨Nat.le_of_ble_eq_true rfl, Nat.le_of_ble_eq_true rfl⟩) hx hb hml hown hE pNil hK rfl hl.1 rfl (Nat.le_of_ble_eq_true rfl) ⟨Nat.zero_le _, Nat.zero_le _⟩ dX3_stroke_56 rfl ?_
      exact rd_i hx hb hr hlocks dX3_stroke_59 (by unfold f_X3_stroke; rw [if_neg c_1, if_neg c_2])
    · skip
      refine lv_iconst (v := 0) hx hb dX3_stroke_18 (by decide) ?_
      exact rd_i hx hb hr hlocks dX3_stroke_19 (by unfold f_X3_stroke; rw [if_neg c_1, if_pos c_2])
def f_X3_left (k : Int32) (nk : Int32) (st : Nat → Int32) (us : Nat → Int32) : Int32 := if (f_X1_has k nk) = 0 then -1 else (f_X1_unused k st us)
set_option maxRecDepth 20000 in
set_option maxHeartbeats 4000000 in
theorem k_X3_left (l : Launch) (D : va_G) (cI cJ cZ : ClassId) (a : Nat → Nat) (n : Nat) (ah pl ck ct nk pm ja rg bu pn : Int32) (tp st us fb kA tA : Nat → Int32) (lx ly gx gy gu gv : Nat → Int64) (k : Int32) (hk : ¬ f_X1_has k nk = 0 → vp_in k 4) : RD l yX3_left cX3_left 2 (some .int) 1 D (tysW cI cJ cZ) (wI cI cJ cZ a n ah pl ck ct nk pm ja rg bu pn tp st us fb kA tA lx ly gx gy gu gv) [.ref (a 0), .int k] (some (.int (f_X3_left k nk st us))) := by
  refine RD.of (by decide) ?_
  intro p e s m below meth c hx hb hr hml hown hlocks hE hP hK
  have hown : s.vm.findClass RX3 = some m.cls := hown
  have ht : tb_OK s := hE.1
  have hl := lv_entry ([.ref (a 0), .int k]) (n := 2) (Nat.le_of_ble_eq_true rfl)
  rw [lg_entry_eq]
  generalize (lg_sl ([.ref (a 0), .int k]) ++ List.replicate (2 - (lg_sl ([.ref (a 0), .int k])).length) Slot.unset).toArray = ls at hl ⊢
  have hl : lv_has ls 2 [(0, .ref (a 0)), (1, .int k)] := hl
  refine lv_aload_n hx hb dX3_left_0 rfl (lv_at hl 0 rfl) ?_
  refine va_get (D := D) (ci := 4) (v := .ref (a 1)) (C := RX3) (T := TX3) (N := 7) hx hb (lyX3 ht) (fun _ h9 => h9) hown hK hP 0 rfl rfl 0 (by decide) (fl_X3_10 ht) (fun _ h9 => h9) rfl dX3_left_1 ?_
  refine lv_iload_n hx hb dX3_left_4 rfl (lv_at hl 1 rfl) ?_
  refine rdVN (As := [.int k]) (rest := []) (st1 := [.int (f_X1_has k nk)]) (k_X1_has l D cI cJ cZ a n ah pl ck ct nk pm ja rg bu pn tp st us fb kA tA lx ly gx gy gu gv k) (si_X3_65 ht ⟨Nat.le_of_ble_eq_true rfl, Nat.le_of_ble_eq_true rfl⟩) hx hb hml hown (va_recv hK hP (ci := 2) (q0 := 1) rfl rfl) hE hP hK rfl hl.1 rfl (Nat.le_of_ble_eq_true rfl) ⟨Nat.zero_le _, Nat.zero_le _⟩ dX3_left_5 rfl ?_
  refine lv_if_eq (tgt := 22) hx hb dX3_left_8 (by decide) (fun c_1 => ?_) (fun c_1 => ?_)
  · skip
    refine lv_iconst (v := -1) hx hb dX3_left_22 (by decide) ?_
    exact rd_i hx hb hr hlocks dX3_left_23 (by unfold f_X3_left; rw [if_pos c_1])
  · skip
    refine lv_aload_n hx hb dX3_left_11 rfl (lv_at hl 0 rfl) ?_
    refine va_get (D := D) (ci := 4) (v := .ref (a 1)) (C := RX3) (T := TX3) (N := 7) hx hb (lyX3 ht) (fun _ h9 => h9) hown hK hP 0 rfl rfl 0 (by decide) (fl_X3_10 ht) (fun _ h9 => h9) rfl dX3_left_12 ?_
    refine lv_iload_n hx hb dX3_left_15 rfl (lv_at hl 1 rfl) ?_
    refine rdVN (As := [.int k]) (rest := []) (st1 := [.int (f_X1_unused k st us)]) (k_X1_unused l D cI cJ cZ a n ah pl ck ct nk pm ja rg bu pn tp st us fb kA tA lx ly gx gy gu gv k (hk c_1)) (si_X3_116 ht ⟨Nat.le_of_ble_eq_true rfl, Nat.le_of_ble_eq_true rfl⟩) hx hb hml hown (va_recv hK hP (ci := 2) (q0 := 1) rfl rfl) hE hP hK rfl hl.1 rfl (Nat.le_of_ble_eq_true rfl) ⟨Nat.zero_le _, Nat.zero_le _⟩ dX3_left_16 rfl ?_
    refine lv_goto (tgt := 23) hx hb dX3_left_19 (by decide) ?_
    exact rd_i hx hb hr hlocks dX3_left_23 (by unfold f_X3_left; rw [if_neg c_1])
end
section
def f_X4_in (u1 : Int64) (u2 : Int64) (u3 : Int64) : Int32 := if (lg_cmp u1 u2) < 0 then 0 else (if 0 < (lg_cmp u1 u3) then 0 else 1)
set_option maxRecDepth 20000 in
set_option maxHeartbeats 4000000 in
theorem k_X4_in (l : Launch) (D : va_G) (tys : List (ClassId × FieldType)) (u1 : Int64) (u2 : Int64) (u3 : Int64) : RD l yX4_in cX4_in 6 (some .boolean) 0 D tys ([]) [.long u1, .long u2, .long u3] (some (.int (f_X4_in u1 u2 u3))) := by
  refine RD.of (by decide) ?_
  intro p e s m below meth c hx hb hr hml hown hlocks hE hP hK
  have hown : s.vm.findClass RX4 = some m.cls := hown
  have ht : tb_OK s := hE.1
  have hl := lv_entry ([.long u1, .long u2, .long u3]) (n := 6) (Nat.le_of_ble_eq_true rfl)
  rw [lg_entry_eq]
  generalize (lg_sl ([.long u1, .long u2, .long u3]) ++ List.replicate (6 - (lg_sl ([.long u1, .long u2, .long u3])).length) Slot.unset).toArray = ls at hl ⊢
  have hl : lv_has ls 6 [(0, .long u1), (2, .long u2), (4, .long u3)] := hl
  refine lv_lload_n hx hb dX4_in_0 rfl (lv_at hl 0 rfl) ?_
  refine lv_lload_n hx hb dX4_in_1 rfl (lv_at hl 1 rfl) ?_
  refine W.lcmp hx hb dX4_in_2 ?_
  refine lv_if_lt (tgt := 17) hx hb dX4_in_3 (by decide) (fun c_1 => ?_) (fun c_1 => ?_)
  · skip
    refine lv_iconst (v := 0) hx hb dX4_in_17 (by decide) ?_
    exact rd_z hx hb hr hlocks dX4_in_18 rfl (by unfold f_X4_in; rw [if_pos c_1])
  · skip
    refine lv_lload_n hx hb dX4_in_6 rfl (lv_at hl 0 rfl) ?_
    refine lv_lload hx hb dX4_in_7 (lv_at hl 2 rfl) ?_
    refine W.lcmp hx hb dX4_in_9 ?_
    refine lv_if_gt (tgt := 17) hx hb dX4_in_10 (by decide) (fun c_2 => ?_) (fun c_2 => ?_)
    · skip
      refine lv_iconst (v := 0) hx hb dX4_in_17 (by decide) ?_
      exact rd_z hx hb hr hlocks dX4_in_18 rfl (by unfold f_X4_in; rw [if_neg c_1, if_pos c_2])
    · skip
      refine lv_iconst (v := 1) hx hb dX4_in_13 (by decide) ?_
      refine lv_goto (tgt := 18) hx hb dX4_in_14 (by decide) ?_
      exact rd_z hx hb hr hlocks dX4_in_18 rfl (by unfold f_X4_in; rw [if_neg c_1, if_neg c_2])
def f_X4_c (k : Int32) : Int32 := if (k &&& 15) ≤ 8 then (if (k &&& 15) = 0 then 64 else (if (k &&& 15) = 1 then 59 else (if (k &&& 15) = 2 then 45 else (if (k &&& 15) = 3 then 24 else (if (k &&& 15) = 4 then 0 else (if (k &&& 15) = 5 then -24 else (if (k &&& 15) = 6 then -45 else (if (k &&& 15) = 7 then -59 else -64)))))))) else (if (16 - (k &&& 15)) = 0 then 64 else (if (16 - (k &&& 15)) = 1 then 59 else (if (16 - (k &&& 15)) = 2 then 45 else (if (16 - (k &&& 15)) = 3 then 24 else (if (16 - (k &&& 15)) = 4 then 0 else (if (16 - (k &&& 15)) = 5 then -24 else (if (16 - (k &&& 15)) = 6 then -45 else (if (16 - (k &&& 15)) = 7 then -59 else -64))))))))
set_option maxRecDepth 20000 in
set_option maxHeartbeats 4000000 in
theorem k_X4_c (l : Launch) (D : va_G) (tys : List (ClassId × FieldType)) (k : Int32) : RD l yX4_c cX4_c 3 (some .int) 0 D tys ([]) [.int k] (some (.int (f_X4_c k))) := by
  refine RD.of (by decide) ?_
  intro p e s m below meth c hx hb hr hml hown hlocks hE hP hK
  have hown : s.vm.findClass RX4 = some m.cls := hown
  have ht : tb_OK s := hE.1
  have hl := lv_entry ([.int k]) (n := 3) (Nat.le_of_ble_eq_true rfl)
  rw [lg_entry_eq]
  generalize (lg_sl ([.int k]) ++ List.replicate (3 - (lg_sl ([.int k])).length) Slot.unset).toArray = ls at hl ⊢
  have hl : lv_has ls 3 [(0, .int k)] := hl
  refine lv_iload_n hx hb dX4_c_0 rfl (lv_at hl 0 rfl) ?_
  refine lv_bipush (v := 15) hx hb dX4_c_1 (by decide) ?_
  refine lv_iand hx hb dX4_c_3 ?_
  refine lv_istore_n (lv' := [(1, .int (k &&& 15)), (0, .int k)]) hx hb dX4_c_4 rfl hl (by decide) rfl (fun ls hl => ?_)
  refine lv_iload_n hx hb dX4_c_5 rfl (lv_at hl 0 rfl) ?_
  refine lv_bipush (v := 8) hx hb dX4_c_6 (by decide) ?_
  refine lv_icmp_le (tgt := 18) hx hb dX4_c_8 (by decide) (fun c_1 => ?_) (fun c_1 => ?_)
  · skip
    refine lv_iload_n hx hb dX4_c_18 rfl (lv_at hl 0 rfl) ?_
    refine lv_istore_n (lv' := [(2, .int (k &&& 15)), (1, .int (k &&& 15)), (0, .int k)]) hx hb dX4_c_19 rfl hl (by decide) rfl (fun ls hl => ?_)
    refine lv_iload_n hx hb dX4_c_20 rfl (lv_at hl 0 rfl) ?_
    by_cases c_2 : (k &&& 15) = 0
    · refine lv_tableIn (off := 47) (tgt := 68) hx hb dX4_c_21 (by rw [c_2]; decide) (by rw [c_2]; decide) (by rw [c_2]; rfl) (by decide) ?_
      refine lv_bipush (v := 64) hx hb dX4_c_68 (by decide) ?_
      exact rd_i hx hb hr hlocks dX4_c_70 (by unfold f_X4_c; rw [if_pos c_1, if_pos c_2])
    by_cases c_3 : (k &&& 15) = 1
    · refine lv_tableIn (off := 50) (tgt := 71) hx hb dX4_c_21 (by rw [c_3]; decide) (by rw [c_3]; decide) (by rw [c_3]; rfl) (by decide) ?_
      refine lv_bipush (v := 59) hx hb dX4_c_71 (by decide) ?_
      exact rd_i hx hb hr hlocks dX4_c_73 (by unfold f_X4_c; rw [if_pos c_1, if_neg c_2, if_pos c_3])
    by_cases c_4 : (k &&& 15) = 2
    · refine lv_tableIn (off := 53) (tgt := 74) hx hb dX4_c_21 (by rw [c_4]; decide) (by rw [c_4]; decide) (by rw [c_4]; rfl) (by decide) ?_
      refine lv_bipush (v := 45) hx hb dX4_c_74 (by decide) ?_
      exact rd_i hx hb hr hlocks dX4_c_76 (by unfold f_X4_c; rw [if_pos c_1, if_neg c_2, if_neg c_3, if_pos c_4])
    by_cases c_5 : (k &&& 15) = 3
    · refine lv_tableIn (off := 56) (tgt := 77) hx hb dX4_c_21 (by rw [c_5]; decide) (by rw [c_5]; decide) (by rw [c_5]; rfl) (by decide) ?_
      refine lv_bipush (v := 24) hx hb dX4_c_77 (by decide) ?_
      exact rd_i hx hb hr hlocks dX4_c_79 (by unfold f_X4_c; rw [if_pos c_1, if_neg c_2, if_neg c_3, if_neg c_4, if_pos c_5])
    by_cases c_6 : (k &&& 15) = 4
    · refine lv_tableIn (off := 59) (tgt := 80) hx hb dX4_c_21 (by rw [c_6]; decide) (by rw [c_6]; decide) (by rw [c_6]; rfl) (by decide) ?_
      refine lv_iconst (v := 0) hx hb dX4_c_80 (by decide) ?_
      exact rd_i hx hb hr hlocks dX4_c_81 (by unfold f_X4_c; rw [if_pos c_1, if_neg c_2, if_neg c_3, if_neg c_4, if_neg c_5, if_pos c_6])
    by_cases c_7 : (k &&& 15) = 5
    · refine lv_tableIn (off := 61) (tgt := 82) hx hb dX4_c_21 (by rw [c_7]; decide) (by rw [c_7]; decide) (by rw [c_7]; rfl) (by decide) ?_
      refine lv_bipush (v := -24) hx hb dX4_c_82 (by decide) ?_
      exact rd_i hx hb hr hlocks dX4_c_84 (by unfold f_X4_c; rw [if_pos c_1, if_neg c_2, if_neg c_3, if_neg c_4, if_neg c_5, if_neg c_6, if_pos c_7])
    by_cases c_8 : (k &&& 15) = 6
    · refine lv_tableIn (off := 64) (tgt := 85) hx hb dX4_c_21 (by rw [c_8]; decide) (by rw [c_8]; decide) (by rw [c_8]; rfl) (by decide) ?_
      refine lv_bipush (v := -45) hx hb dX4_c_85 (by decide) ?_
      exact rd_i hx hb hr hlocks dX4_c_87 (by unfold f_X4_c; rw [if_pos c_1, if_neg c_2, if_neg c_3, if_neg c_4, if_neg c_5, if_neg c_6, if_neg c_7, if_pos c_8])
    by_cases c_9 : (k &&& 15) = 7
    · refine lv_tableIn (off := 67) (tgt := 88) hx hb dX4_c_21 (by rw [c_9]; decide) (by rw [c_9]; decide) (by rw [c_9]; rfl) (by decide) ?_
      refine lv_bipush (v := -59) hx hb dX4_c_88 (by decide) ?_
      exact rd_i hx hb hr hlocks dX4_c_90 (by unfold f_X4_c; rw [if_pos c_1, if_neg c_2, if_neg c_3, if_neg c_4, if_neg c_5, if_neg c_6, if_neg c_7, if_neg c_8, if_pos c_9])
    refine lv_tableOut (tgt := 91) hx hb dX4_c_21 (by have e0 : ((k &&& 15)).toInt ≠ 0 := fun h => c_2 (Int32.toInt_inj.mp (by rw [h]; rfl)); have e1 : ((k &&& 15)).toInt ≠ 1 := fun h => c_3 (Int32.toInt_inj.mp (by rw [h]; rfl)); have e2 : ((k &&& 15)).toInt ≠ 2 := fun h => c_4 (Int32.toInt_inj.mp (by rw [h]; rfl)); have e3 : ((k &&& 15)).toInt ≠ 3 := fun h => c_5 (Int32.toInt_inj.mp (by rw [h]; rfl)); have e4 : ((k &&& 15)).toInt ≠ 4 := fun h => c_6 (Int32.toInt_inj.mp (by rw [h]; rfl)); have e5 : ((k &&& 15)).toInt ≠ 5 := fun h => c_7 (Int32.toInt_inj.mp (by rw [h]; rfl)); have e6 : ((k &&& 15)).toInt ≠ 6 := fun h => c_8 (Int32.toInt_inj.mp (by rw [h]; rfl)); have e7 : ((k &&& 15)).toInt ≠ 7 := fun h => c_9 (Int32.toInt_inj.mp (by rw [h]; rfl)); omega) (by decide) ?_
    refine lv_bipush (v := -64) hx hb dX4_c_91 (by decide) ?_
    exact rd_i hx hb hr hlocks dX4_c_93 (by unfold f_X4_c; rw [if_pos c_1, if_neg c_2, if_neg c_3, if_neg c_4, if_neg c_5, if_neg c_6, if_neg c_7, if_neg c_8, if_neg c_9])
  · skip
    refine lv_bipush (v := 16) hx hb dX4_c_11 (by decide) ?_
    refine lv_iload_n hx hb dX4_c_13 rfl (lv_at hl 0 rfl) ?_
    refine lv_isub hx hb dX4_c_14 ?_
    refine lv_goto (tgt := 19) hx hb dX4_c_15 (by decide) ?_
    refine lv_istore_n (lv' := [(2, .int (16 - (k &&& 15))), (1, .int (k &&& 15)), (0, .int k)]) hx hb dX4_c_19 rfl hl (by decide) rfl (fun ls hl => ?_)
    refine lv_iload_n hx hb dX4_c_20 rfl (lv_at hl 0 rfl) ?_
    by_cases c_10 : (16 - (k &&& 15)) = 0
    · refine lv_tableIn (off := 47) (tgt := 68) hx hb dX4_c_21 (by rw [c_10]; decide) (by rw [c_10]; decide) (by rw [c_10]; rfl) (by decide) ?_
      refine lv_bipush (v := 64) hx hb dX4_c_68 (by decide) ?_
      exact rd_i hx hb hr hlocks dX4_c_70 (by unfold f_X4_c; rw [if_neg c_1, if_pos c_10])
    by_cases c_11 : (16 - (k &&& 15)) = 1
    · refine lv_tableIn (off := 50) (tgt := 71) hx hb dX4_c_21 (by rw [c_11]; decide) (by rw [c_11]; decide) (by rw [c_11]; rfl) (by decide) ?_
      refine lv_bipush (v := 59) hx hb dX4_c_71 (by decide) ?_
      exact rd_i hx hb hr hlocks dX4_c_73 (by unfold f_X4_c; rw [if_neg c_1, if_neg c_10, if_pos c_11])
    by_cases c_12 : (16 - (k &&& 15)) = 2
    · refine lv_tableIn (off := 53) (tgt := 74) hx hb dX4_c_21 (by rw [c_12]; decide) (by rw [c_12]; decide) (by rw [c_12]; rfl) (by decide) ?_
      refine lv_bipush (v := 45) hx hb dX4_c_74 (by decide) ?_
      exact rd_i hx hb hr hlocks dX4_c_76 (by unfold f_X4_c; rw [if_neg c_1, if_neg c_10, if_neg c_11, if_pos c_12])
    by_cases c_13 : (16 - (k &&& 15)) = 3
    · refine lv_tableIn (off := 56) (tgt := 77) hx hb dX4_c_21 (by rw [c_13]; decide) (by rw [c_13]; decide) (by rw [c_13]; rfl) (by decide) ?_
      refine lv_bipush (v := 24) hx hb dX4_c_77 (by decide) ?_
      exact rd_i hx hb hr hlocks dX4_c_79 (by unfold f_X4_c; rw [if_neg c_1, if_neg c_10, if_neg c_11, if_neg c_12, if_pos c_13])
    by_cases c_14 : (16 - (k &&& 15)) = 4
    · refine lv_tableIn (off := 59) (tgt := 80) hx hb dX4_c_21 (by rw [c_14]; decide) (by rw [c_14]; decide) (by rw [c_14]; rfl) (by decide) ?_
      refine lv_iconst (v := 0) hx hb dX4_c_80 (by decide) ?_
      exact rd_i hx hb hr hlocks dX4_c_81 (by unfold f_X4_c; rw [if_neg c_1, if_neg c_10, if_neg c_11, if_neg c_12, if_neg c_13, if_pos c_14])
    by_cases c_15 : (16 - (k &&& 15)) = 5
    · refine lv_tableIn (off := 61) (tgt := 82) hx hb dX4_c_21 (by rw [c_15]; decide) (by rw [c_15]; decide) (by rw [c_15]; rfl) (by decide) ?_
      refine lv_bipush (v := -24) hx hb dX4_c_82 (by decide) ?_
      exact rd_i hx hb hr hlocks dX4_c_84 (by unfold f_X4_c; rw [if_neg c_1, if_neg c_10, if_neg c_11, if_neg c_12, if_neg c_13, if_neg c_14, if_pos c_15])
    by_cases c_16 : (16 - (k &&& 15)) = 6
    · refine lv_tableIn (off := 64) (tgt := 85) hx hb dX4_c_21 (by rw [c_16]; decide) (by rw [c_16]; decide) (by rw [c_16]; rfl) (by decide) ?_
      refine lv_bipush (v := -45) hx hb dX4_c_85 (by decide) ?_
      exact rd_i hx hb hr hlocks dX4_c_87 (by unfold f_X4_c; rw [if_neg c_1, if_neg c_10, if_neg c_11, if_neg c_12, if_neg c_13, if_neg c_14, if_neg c_15, if_pos c_16])
    by_cases c_17 : (16 - (k &&& 15)) = 7
    · refine lv_tableIn (off := 67) (tgt := 88) hx hb dX4_c_21 (by rw [c_17]; decide) (by rw [c_17]; decide) (by rw [c_17]; rfl) (by decide) ?_
      refine lv_bipush (v := -59) hx hb dX4_c_88 (by decide) ?_
      exact rd_i hx hb hr hlocks dX4_c_90 (by unfold f_X4_c; rw [if_neg c_1, if_neg c_10, if_neg c_11, if_neg c_12, if_neg c_13, if_neg c_14, if_neg c_15, if_neg c_16, if_pos c_17])
    refine lv_tableOut (tgt := 91) hx hb dX4_c_21 (by have e0 : ((16 - (k &&& 15))).toInt ≠ 0 := fun h => c_10 (Int32.toInt_inj.mp (by rw [h]; rfl)); have e1 : ((16 - (k &&& 15))).toInt ≠ 1 := fun h => c_11 (Int32.toInt_inj.mp (by rw [h]; rfl)); have e2 : ((16 - (k &&& 15))).toInt ≠ 2 := fun h => c_12 (Int32.toInt_inj.mp (by rw [h]; rfl)); have e3 : ((16 - (k &&& 15))).toInt ≠ 3 := fun h => c_13 (Int32.toInt_inj.mp (by rw [h]; rfl)); have e4 : ((16 - (k &&& 15))).toInt ≠ 4 := fun h => c_14 (Int32.toInt_inj.mp (by rw [h]; rfl)); have e5 : ((16 - (k &&& 15))).toInt ≠ 5 := fun h => c_15 (Int32.toInt_inj.mp (by rw [h]; rfl)); have e6 : ((16 - (k &&& 15))).toInt ≠ 6 := fun h => c_16 (Int32.toInt_inj.mp (by rw [h]; rfl)); have e7 : ((16 - (k &&& 15))).toInt ≠ 7 := fun h => c_17 (Int32.toInt_inj.mp (by rw [h]; rfl)); omega) (by decide) ?_
    refine lv_bipush (v := -64) hx hb dX4_c_91 (by decide) ?_
    exact rd_i hx hb hr hlocks dX4_c_93 (by unfold f_X4_c; rw [if_neg c_1, if_neg c_10, if_neg c_11, if_neg c_12, if_neg c_13, if_neg c_14, if_neg c_15, if_neg c_16, if_neg c_17])
def f_X4_thrown (fa : Int32) : Int32 := fa
set_option maxRecDepth 20000 in
set_option maxHeartbeats 4000000 in
theorem k_X4_thrown (l : Launch) (D : va_G) (cI cJ cZ : ClassId) (a : Nat → Nat) (fa rg bu pn pl ja lk nk bl : Int32) (bs : Int64) (bk be : Int32) (al tp st mx my kd ky : Nat → Int32) (gx gy gu gv : Nat → Int64)  : RD l yX4_thrown cX4_thrown 1 (some .int) 0 D (tysW cI cJ cZ) (wM cI cJ cZ a fa rg bu pn pl ja lk nk bl bs bk be al tp st mx my kd ky gx gy gu gv) [.ref (a 0)] (some (.int (f_X4_thrown fa))) := by
  refine RD.of (by decide) ?_
  intro p e s m below meth c hx hb hr hml hown hlocks hE hP hK
  have hown : s.vm.findClass RX4 = some m.cls := hown
  have ht : tb_OK s := hE.1
  have hl := lv_entry ([.ref (a 0)]) (n := 1) (Nat.le_of_ble_eq_true rfl)
  rw [lg_entry_eq]
  generalize (lg_sl ([.ref (a 0)]) ++ List.replicate (1 - (lg_sl ([.ref (a 0)])).length) Slot.unset).toArray = ls at hl ⊢
  have hl : lv_has ls 1 [(0, .ref (a 0))] := hl
  refine lv_aload_n hx hb dX4_thrown_0 rfl (lv_at hl 0 rfl) ?_
  refine va_get (D := D) (ci := 5) (v := .int fa) (C := RX4) (T := TX4) (N := 23) hx hb (lyX4 ht) (fun _ h9 => h9) hown hK hP 0 rfl rfl 0 (by decide) (fl_X4_55 ht) (fun _ h9 => h9) rfl dX4_thrown_1 ?_
  exact rd_i hx hb hr hlocks dX4_thrown_4 (rfl)
def f_X4_isRing (r : Int32) (rg : Int32) : Int32 := if r < 0 then 0 else (if rg ≤ r then 0 else 1)
set_option maxRecDepth 20000 in
set_option maxHeartbeats 4000000 in
theorem k_X4_isRing (l : Launch) (D : va_G) (cI cJ cZ : ClassId) (a : Nat → Nat) (fa rg bu pn pl ja lk nk bl : Int32) (bs : Int64) (bk be : Int32) (al tp st mx my kd ky : Nat → Int32) (gx gy gu gv : Nat → Int64) (r : Int32) : RD l yX4_isRing cX4_isRing 2 (some .boolean) 0 D (tysW cI cJ cZ) (wM cI cJ cZ a fa rg bu pn pl ja lk nk bl bs bk be al tp st mx my kd ky gx gy gu gv) [.ref (a 0), .int r] (some (.int (f_X4_isRing r rg))) := by
  refine RD.of (by decide) ?_
  intro p e s m below meth c hx hb hr hml hown hlocks hE hP hK
  have hown : s.vm.findClass RX4 = some m.cls := hown
  have ht : tb_OK s := hE.1
  have hl := lv_entry ([.ref (a 0), .int r]) (n := 2) (Nat.le_of_ble_eq_true rfl)
  rw [lg_entry_eq]
  generalize (lg_sl ([.ref (a 0), .int r]) ++ List.replicate (2 - (lg_sl ([.ref (a 0), .int r])).length) Slot.unset).toArray = ls at hl ⊢
  have hl : lv_has ls 2 [(0, .ref (a 0)), (1, .int r)] := hl
  refine lv_iload_n hx hb dX4_isRing_0 rfl (lv_at hl 1 rfl) ?_
  refine lv_if_lt (tgt := 16) hx hb dX4_isRing_1 (by decide) (fun c_1 => ?_) (fun c_1 => ?_)
  · skip
    refine lv_iconst (v := 0) hx hb dX4_isRing_16 (by decide) ?_
    exact rd_z hx hb hr hlocks dX4_isRing_17 rfl (by unfold f_X4_isRing; rw [if_pos c_1])
  · skip
    refine lv_iload_n hx hb dX4_isRing_4 rfl (lv_at hl 1 rfl) ?_
    refine lv_aload_n hx hb dX4_isRing_5 rfl (lv_at hl 0 rfl) ?_
    refine va_get (D := D) (ci := 5) (v := .int rg) (C := RX4) (T := TX4) (N := 23) hx hb (lyX4 ht) (fun _ h9 => h9) hown hK hP 0 rfl rfl 1 (by decide) (fl_X4_52 ht) (fun _ h9 => h9) rfl dX4_isRing_6 ?_
    refine lv_icmp_ge (tgt := 16) hx hb dX4_isRing_9 (by decide) (fun c_2 => ?_) (fun c_2 => ?_)
    · skip
      refine lv_iconst (v := 0) hx hb dX4_isRing_16 (by decide) ?_
      exact rd_z hx hb hr hlocks dX4_isRing_17 rfl (by unfold f_X4_isRing; rw [if_neg c_1, if_pos c_2])
    · skip
      refine lv_iconst (v := 1) hx hb dX4_isRing_12 (by decide) ?_
      refine lv_goto (tgt := 17) hx hb dX4_isRing_13 (by decide) ?_
      exact rd_z hx hb hr hlocks dX4_isRing_17 rfl (by unfold f_X4_isRing; rw [if_neg c_1, if_neg c_2])
def f_X4_isKind (k : Int32) (nk : Int32) : Int32 := if k < 0 then 0 else (if nk ≤ k then 0 else 1)
set_option maxRecDepth 20000 in
set_option maxHeartbeats 4000000 in
theorem k_X4_isKind (l : Launch) (D : va_G) (cI cJ cZ : ClassId) (a : Nat → Nat) (fa rg bu pn pl ja lk nk bl : Int32) (bs : Int64) (bk be : Int32) (al tp st mx my kd ky : Nat → Int32) (gx gy gu gv : Nat → Int64) (k : Int32) : RD l yX4_isKind cX4_isKind 2 (some .boolean) 0 D (tysW cI cJ cZ) (wM cI cJ cZ a fa rg bu pn pl ja lk nk bl bs bk be al tp st mx my kd ky gx gy gu gv) [.ref (a 0), .int k] (some (.int (f_X4_isKind k nk))) := by
  refine RD.of (by decide) ?_
  intro p e s m below meth c hx hb hr hml hown hlocks hE hP hK
  have hown : s.vm.findClass RX4 = some m.cls := hown
  have ht : tb_OK s := hE.1
  have hl := lv_entry ([.ref (a 0), .int k]) (n := 2) (Nat.le_of_ble_eq_true rfl)
  rw [lg_entry_eq]
  generalize (lg_sl ([.ref (a 0), .int k]) ++ List.replicate (2 - (lg_sl ([.ref (a 0), .int k])).length) Slot.unset).toArray = ls at hl ⊢
  have hl : lv_has ls 2 [(0, .ref (a 0)), (1, .int k)] := hl
  refine lv_iload_n hx hb dX4_isKind_0 rfl (lv_at hl 1 rfl) ?_
  refine lv_if_lt (tgt := 16) hx hb dX4_isKind_1 (by decide) (fun c_1 => ?_) (fun c_1 => ?_)
  · skip
    refine lv_iconst (v := 0) hx hb dX4_isKind_16 (by decide) ?_
    exact rd_z hx hb hr hlocks dX4_isKind_17 rfl (by unfold f_X4_isKind; rw [if_pos c_1])
  · skip
    refine lv_iload_n hx hb dX4_isKind_4 rfl (lv_at hl 1 rfl) ?_
    refine lv_aload_n hx hb dX4_isKind_5 rfl (lv_at hl 0 rfl) ?_
    refine va_get (D := D) (ci := 5) (v := .int nk) (C := RX4) (T := TX4) (N := 23) hx hb (lyX4 ht) (fun _ h9 => h9) hown hK hP 0 rfl rfl 8 (by decide) (fl_X4_58 ht) (fun _ h9 => h9) rfl dX4_isKind_6 ?_
    refine lv_icmp_ge (tgt := 16) hx hb dX4_isKind_9 (by decide) (fun c_2 => ?_) (fun c_2 => ?_)
    · skip
      refine lv_iconst (v := 0) hx hb dX4_isKind_16 (by decide) ?_
      exact rd_z hx hb hr hlocks dX4_isKind_17 rfl (by unfold f_X4_isKind; rw [if_neg c_1, if_pos c_2])
    · skip
      refine lv_iconst (v := 1) hx hb dX4_isKind_12 (by decide) ?_
      refine lv_goto (tgt := 17) hx hb dX4_isKind_13 (by decide) ?_
      exact rd_z hx hb hr hlocks dX4_isKind_17 rfl (by unfold f_X4_isKind; rw [if_neg c_1, if_neg c_2])
def f_X4_isThere (r : Int32) (bu : Int32) (pn : Int32) : Int32 := if r < 0 then 0 else (if (bu + pn) ≤ r then 0 else 1)
set_option maxRecDepth 20000 in
set_option maxHeartbeats 4000000 in
theorem k_X4_isThere (l : Launch) (D : va_G) (cI cJ cZ : ClassId) (a : Nat → Nat) (fa rg bu pn pl ja lk nk bl : Int32) (bs : Int64) (bk be : Int32) (al tp st mx my kd ky : Nat → Int32) (gx gy gu gv : Nat → Int64) (r : Int32) : RD l yX4_isThere cX4_isThere 2 (some .boolean) 0 D (tysW cI cJ cZ) (wM cI cJ cZ a fa rg bu pn pl ja lk nk bl bs bk be al tp st mx my kd ky gx gy gu gv) [.ref (a 0), .int r] (some (.int (f_X4_isThere r bu pn))) := by
  refine RD.of (by decide) ?_
  intro p e s m below meth c hx hb hr hml hown hlocks hE hP hK
  have hown : s.vm.findClass RX4 = some m.cls := hown
  have ht : tb_OK s := hE.1
  have hl := lv_entry ([.ref (a 0), .int r]) (n := 2) (Nat.le_of_ble_eq_true rfl)
  rw [lg_entry_eq]
  generalize (lg_sl ([.ref (a 0), .int r]) ++ List.replicate (2 - (lg_sl ([.ref (a 0), .int r])).length) Slot.unset).toArray = ls at hl ⊢
  have hl : lv_has ls 2 [(0, .ref (a 0)), (1, .int r)] := hl
  refine lv_iload_n hx hb dX4_isThere_0 rfl (lv_at hl 1 rfl) ?_
  refine lv_if_lt (tgt := 21) hx hb dX4_isThere_1 (by decide) (fun c_1 => ?_) (fun c_1 => ?_)
  · skip
    refine lv_iconst (v := 0) hx hb dX4_isThere_21 (by decide) ?_
    exact rd_z hx hb hr hlocks dX4_isThere_22 rfl (by unfold f_X4_isThere; rw [if_pos c_1])
  · skip
    refine lv_iload_n hx hb dX4_isThere_4 rfl (lv_at hl 1 rfl) ?_
    refine lv_aload_n hx hb dX4_isThere_5 rfl (lv_at hl 0 rfl) ?_
    refine va_get (D := D) (ci := 5) (v := .int bu) (C := RX4) (T := TX4) (N := 23) hx hb (lyX4 ht) (fun _ h9 => h9) hown hK hP 0 rfl rfl 2 (by decide) (fl_X4_61 ht) (fun _ h9 => h9) rfl dX4_isThere_6 ?_
    refine lv_aload_n hx hb dX4_isThere_9 rfl (lv_at hl 0 rfl) ?_
    refine va_get (D := D) (ci := 5) (v := .int pn) (C := RX4) (T := TX4) (N := 23) hx hb (lyX4 ht) (fun _ h9 => h9) hown hK hP 0 rfl rfl 3 (by decide) (fl_X4_64 ht) (fun _ h9 => h9) rfl dX4_isThere_10 ?_
    refine lv_iadd hx hb dX4_isThere_13 ?_
    refine lv_icmp_ge (tgt := 21) hx hb dX4_isThere_14 (by decide) (fun c_2 => ?_) (fun c_2 => ?_)
    · skip
      refine lv_iconst (v := 0) hx hb dX4_isThere_21 (by decide) ?_
      exact rd_z hx hb hr hlocks dX4_isThere_22 rfl (by unfold f_X4_isThere; rw [if_neg c_1, if_pos c_2])
    · skip
      refine lv_iconst (v := 1) hx hb dX4_isThere_17 (by decide) ?_
      refine lv_goto (tgt := 22) hx hb dX4_isThere_18 (by decide) ?_
      exact rd_z hx hb hr hlocks dX4_isThere_22 rfl (by unfold f_X4_isThere; rw [if_neg c_1, if_neg c_2])
def f_X4_offOf (r : Int32) (mx : Nat → Int32) (my : Nat → Int32) (gx : Nat → Int64) (gy : Nat → Int64) : Int64 := (((gx r.toNatClampNeg) - ((mx r.toNatClampNeg).toInt64)) * ((gx r.toNatClampNeg) - ((mx r.toNatClampNeg).toInt64))) + (((gy r.toNatClampNeg) - ((my r.toNatClampNeg).toInt64)) * ((gy r.toNatClampNeg) - ((my r.toNatClampNeg).toInt64)))
set_option maxRecDepth 20000 in
set_option maxHeartbeats 4000000 in
theorem k_X4_offOf (l : Launch) (D : va_G) (cI cJ cZ : ClassId) (a : Nat → Nat) (fa rg bu pn pl ja lk nk bl : Int32) (bs : Int64) (bk be : Int32) (al tp st mx my kd ky : Nat → Int32) (gx gy gu gv : Nat → Int64) (r : Int32) (hr0 : vp_in r 24) : RD l yX4_offOf cX4_offOf 6 (some .long) 0 D (tysW cI cJ cZ) (wM cI cJ cZ a fa rg bu pn pl ja lk nk bl bs bk be al tp st mx my kd ky gx gy gu gv) [.ref (a 0), .int r] (some (.long (f_X4_offOf r mx my gx gy))) := by
  refine RD.of (by decide) ?_
  intro p e s m below meth c hx hb hr hml hown hlocks hE hP hK
  have hown : s.vm.findClass RX4 = some m.cls := hown
  have ht : tb_OK s := hE.1
  have hl := lv_entry ([.ref (a 0), .int r]) (n := 6) (Nat.le_of_ble_eq_true rfl)
  rw [lg_entry_eq]
  generalize (lg_sl ([.ref (a 0), .int r]) ++ List.replicate (6 - (lg_sl ([.ref (a 0), .int r])).length) Slot.unset).toArray = ls at hl ⊢
  have hl : lv_has ls 6 [(0, .ref (a 0)), (1, .int r)] := hl
  refine lv_aload_n hx hb dX4_offOf_0 rfl (lv_at hl 0 rfl) ?_
  refine va_get (D := D) (ci := 5) (v := .ref (a 8)) (C := RX4) (T := TX4) (N := 23) hx hb (lyX4 ht) (fun _ h9 => h9) hown hK hP 0 rfl rfl 15 (by decide) (fl_X4_39 ht) (fun _ h9 => h9) rfl dX4_offOf_1 ?_
  refine lv_iload_n hx hb dX4_offOf_4 rfl (lv_at hl 1 rfl) ?_
  refine va_lald hx hb hK hP 8 1 rfl rfl hr0 dX4_offOf_5 ?_
  refine lv_aload_n hx hb dX4_offOf_6 rfl (lv_at hl 0 rfl) ?_
  refine va_get (D := D) (ci := 5) (v := .ref (a 4)) (C := RX4) (T := TX4) (N := 23) hx hb (lyX4 ht) (fun _ h9 => h9) hown hK hP 0 rfl rfl 11 (by decide) (fl_X4_27 ht) (fun _ h9 => h9) rfl dX4_offOf_7 ?_
  refine lv_iload_n hx hb dX4_offOf_10 rfl (lv_at hl 1 rfl) ?_
  refine va_iald hx hb hK hP 4 0 rfl rfl hr0 dX4_offOf_11 ?_
  refine lv_i2l (v := (mx r.toNatClampNeg).toInt64) hx hb dX4_offOf_12 rfl ?_
  refine lv_lsub hx hb dX4_offOf_13 ?_
  refine lv_lstore_n (lv' := [(2, .long ((gx r.toNatClampNeg) - ((mx r.toNatClampNeg).toInt64))), (0, .ref (a 0)), (1, .int r)]) hx hb dX4_offOf_14 rfl hl (by decide) rfl (fun ls hl => ?_)
  refine lv_aload_n hx hb dX4_offOf_15 rfl (lv_at hl 1 rfl) ?_
  refine va_get (D := D) (ci := 5) (v := .ref (a 9)) (C := RX4) (T := TX4) (N := 23) hx hb (lyX4 ht) (fun _ h9 => h9) hown hK hP 0 rfl rfl 16 (by decide) (fl_X4_43 ht) (fun _ h9 => h9) rfl dX4_offOf_16 ?_
  refine lv_iload_n hx hb dX4_offOf_19 rfl (lv_at hl 2 rfl) ?_
  refine va_lald hx hb hK hP 9 1 rfl rfl hr0 dX4_offOf_20 ?_
  refine lv_aload_n hx hb dX4_offOf_21 rfl (lv_at hl 1 rfl) ?_
  refine va_get (D := D) (ci := 5) (v := .ref (a 5)) (C := RX4) (T := TX4) (N := 23) hx hb (lyX4 ht) (fun _ h9 => h9) hown hK hP 0 rfl rfl 12 (by decide) (fl_X4_30 ht) (fun _ h9 => h9) rfl dX4_offOf_22 ?_
  refine lv_iload_n hx hb dX4_offOf_25 rfl (lv_at hl 2 rfl) ?_
  refine va_iald hx hb hK hP 5 0 rfl rfl hr0 dX4_offOf_26 ?_
  refine lv_i2l (v := (my r.toNatClampNeg).toInt64) hx hb dX4_offOf_27 rfl ?_
  refine lv_lsub hx hb dX4_offOf_28 ?_
  refine lv_lstore (lv' := [(4, .long ((gy r.toNatClampNeg) - ((my r.toNatClampNeg).toInt64))), (2, .long ((gx r.toNatClampNeg) - ((mx r.toNatClampNeg).toInt64))), (0, .ref (a 0)), (1, .int r)]) hx hb dX4_offOf_29 hl (by decide) rfl (fun ls hl => ?_)
  refine lv_lload_n hx hb dX4_offOf_31 rfl (lv_at hl 1 rfl) ?_
  refine lv_lload_n hx hb dX4_offOf_32 rfl (lv_at hl 1 rfl) ?_
  refine lv_lmul hx hb dX4_offOf_33 ?_
  refine lv_lload hx hb dX4_offOf_34 (lv_at hl 0 rfl) ?_
  refine lv_lload hx hb dX4_offOf_36 (lv_at hl 0 rfl) ?_
  refine lv_lmul hx hb dX4_offOf_38 ?_
  refine lv_ladd hx hb dX4_offOf_39 ?_
  exact rd_l hx hb hr hlocks dX4_offOf_40 (rfl)
end
section
def f_X4_kind (k : Int32) (z : Int32) (nk : Int32) : Int32 := if (f_X4_in k.toInt64 0 200) = 0 then -2 else (if (f_X4_in z.toInt64 0 99) = 0 then -2 else (if nk = 4 then -4 else ((nk + 1) - 1)))
def f_X4_kind_fa (k : Int32) (z : Int32) (nk : Int32) : Int32 := if (f_X4_in k.toInt64 0 200) = 0 then 0 else (if (f_X4_in z.toInt64 0 99) = 0 then 0 else (if nk = 4 then 0 else 0))
def f_X4_kind_nk (k : Int32) (z : Int32) (nk : Int32) : Int32 := if (f_X4_in k.toInt64 0 200) = 0 then nk else (if (f_X4_in z.toInt64 0 99) = 0 then nk else (if nk = 4 then nk else (nk + 1)))
def f_X4_kind_tp (k : Int32) (z : Int32) (nk : Int32) (tp : Nat → Int32) : Nat → Int32 := if (f_X4_in k.toInt64 0 200) = 0 then tp else (if (f_X4_in z.toInt64 0 99) = 0 then tp else (if nk = 4 then tp else (upd tp nk.toNatClampNeg k)))
def f_X4_kind_st (k : Int32) (z : Int32) (nk : Int32) (st : Nat → Int32) : Nat → Int32 := if (f_X4_in k.toInt64 0 200) = 0 then st else (if (f_X4_in z.toInt64 0 99) = 0 then st else (if nk = 4 then st else (upd st nk.toNatClampNeg z)))
set_option maxRecDepth 20000 in
set_option maxHeartbeats 4000000 in
theorem k_X4_kind (l : Launch) (D : va_G) (cI cJ cZ : ClassId) (a : Nat → Nat) (fa rg bu pn pl ja lk nk bl : Int32) (bs : Int64) (bk be : Int32) (al tp st mx my kd ky : Nat → Int32) (gx gy gu gv : Nat → Int64) (k : Int32) (z : Int32) (hk : ¬ nk = 4 → vp_in nk 4) : WR l yX4_kind cX4_kind 3 (some .int) 1 0 0 D (tysW cI cJ cZ) (wM cI cJ cZ a fa rg bu pn pl ja lk nk bl bs bk be al tp st mx my kd ky gx gy gu gv) [.ref (a 0), .int k, .int z] (fun ov w' => ov = some (.int (f_X4_kind k z nk)) ∧ w' = wM cI cJ cZ a (f_X4_kind_fa k z nk) rg bu pn pl ja lk (f_X4_kind_nk k z nk) bl bs bk be al (f_X4_kind_tp k z nk tp) (f_X4_kind_st k z nk st) mx my kd ky gx gy gu gv) := by
  refine WR.of (by decide) ?_
  intro p e s m below meth c A hadm hx hb hr hml hown hlocks hname hE hP hK hD hS hA hAe
  have hown : s.vm.findClass RX4 = some m.cls := hown
  have ht : tb_OK s := hE.1
  have hl := lv_entry ([.ref (a 0), .int k, .int z]) (n := 3) (Nat.le_of_ble_eq_true rfl)
  rw [lg_entry_eq]
  generalize (lg_sl ([.ref (a 0), .int k, .int z]) ++ List.replicate (3 - (lg_sl ([.ref (a 0), .int k, .int z])).length) Slot.unset).toArray = ls at hl ⊢
  have hl : lv_has ls 3 [(0, .ref (a 0)), (1, .int k), (2, .int z)] := hl
  refine lv_aload_n hx hb dX4_kind_0 rfl (lv_at hl 0 rfl) ?_
  refine lv_iconst (v := 0) hx hb dX4_kind_1 (by decide) ?_
  refine va_put (D := D) (ci := 5) (v := .int 0) (ty := .int) (C := RX4) (T := TX4) (N := 23) hx hb (lyX4 ht) (fun _ h9 => h9) tyX4 tyX4_ok nmX4 hown hK hP hD hS 0 rfl rfl 0 (by decide) (fl_X4_55 ht) (fun _ h9 => h9) rfl (by decide +kernel) rfl rfl (Nat.le_of_ble_eq_true rfl) dX4_kind_2 (fun H locs hP hD hS => ?_)
  have hP : va_P D vwCl (wM cI cJ cZ a 0 rg bu pn pl ja lk nk bl bs bk be al tp st mx my kd ky gx gy gu gv) H := hP
  have hD : va_D A (wM cI cJ cZ a 0 rg bu pn pl ja lk nk bl bs bk be al tp st mx my kd ky gx gy gu gv) := hD
  refine lv_iload_n hx hb dX4_kind_5 rfl (lv_at hl 1 rfl) ?_
  refine lv_i2l (v := k.toInt64) hx hb dX4_kind_6 rfl ?_
  refine lv_lconst (v := 0) hx hb dX4_kind_7 (by decide) ?_
  refine lv_ldc2 (v := 200) hx hb hown (kl_X4_67 ht) dX4_kind_8 ?_
  refine rdS (As := [.long k.toInt64, .long 0, .long 200]) (rest := []) (st1 := [.int (f_X4_in k.toInt64 0 200)]) (k_X4_in l D (tysW cI cJ cZ) k.toInt64 0 200) (si_X4_69 ht ⟨Nat.le_of_ble_eq_true rfl, Nat.le_of_ble_eq_true rfl⟩) hx hb hml hown (hE.since hS) pNil hK rfl hl.1 rfl (Nat.le_of_ble_eq_true rfl) ⟨Nat.zero_le _, Nat.zero_le _⟩ dX4_kind_11 rfl ?_
  refine lv_if_eq (tgt := 29) hx hb dX4_kind_14 (by decide) (fun c_1 => ?_) (fun c_1 => ?_)
  · skip
    refine lv_bipush (v := -2) hx hb dX4_kind_29 (by decide) ?_
    exact wr_i hx hb hr hlocks hAe hP hD hS dX4_kind_31 (⟨by unfold f_X4_kind; rw [if_pos c_1], by simp only [f_X4_kind_fa, f_X4_kind_nk, f_X4_kind_tp, f_X4_kind_st, if_pos c_1]⟩)
  · skip
    refine lv_iload_n hx hb dX4_kind_17 rfl (lv_at hl 2 rfl) ?_
    refine lv_i2l (v := z.toInt64) hx hb dX4_kind_18 rfl ?_
    refine lv_lconst (v := 0) hx hb dX4_kind_19 (by decide) ?_
    refine lv_ldc2 (v := 99) hx hb hown (kl_X4_73 ht) dX4_kind_20 ?_
    refine rdS (As := [.long z.toInt64, .long 0, .long 99]) (rest := []) (st1 := [.int (f_X4_in z.toInt64 0 99)]) (k_X4_in l D (tysW cI cJ cZ) z.toInt64 0 99) (si_X4_69 ht ⟨Nat.le_of_ble_eq_true rfl, Nat.le_of_ble_eq_true rfl⟩) hx hb hml hown (hE.since hS) pNil hK rfl hl.1 rfl (Nat.le_of_ble_eq_true rfl) ⟨Nat.zero_le _, Nat.zero_le _⟩ dX4_kind_23 rfl ?_
    refine lv_if_ne (tgt := 32) hx hb dX4_kind_26 (by decide) (fun c_2 => ?_) (fun c_2 => ?_)
    · skip
      refine lv_aload_n hx hb dX4_kind_32 rfl (lv_at hl 0 rfl) ?_
      refine va_get (D := D) (ci := 5) (v := .int nk) (C := RX4) (T := TX4) (N := 23) hx hb (lyX4 ht) (fun _ h9 => h9) hown hK hP 0 rfl rfl 8 (by decide) (fl_X4_58 ht) (fun _ h9 => h9) rfl dX4_kind_33 ?_
      refine lv_iconst (v := 4) hx hb dX4_kind_36 (by decide) ?_
      refine lv_icmp_ne (tgt := 43) hx hb dX4_kind_37 (by decide) (fun c_3 => ?_) (fun c_3 => ?_)
      · skip
        refine lv_aload_n hx hb dX4_kind_43 rfl (lv_at hl 0 rfl) ?_
        refine va_get (D := D) (ci := 5) (v := .ref (a 2)) (C := RX4) (T := TX4) (N := 23) hx hb (lyX4 ht) (fun _ h9 => h9) hown hK hP 0 rfl rfl 9 (by decide) (fl_X4_20 ht) (fun _ h9 => h9) rfl dX4_kind_44 ?_
        refine lv_aload_n hx hb dX4_kind_47 rfl (lv_at hl 0 rfl) ?_
        refine va_get (D := D) (ci := 5) (v := .int nk) (C := RX4) (T := TX4) (N := 23) hx hb (lyX4 ht) (fun _ h9 => h9) hown hK hP 0 rfl rfl 8 (by decide) (fl_X4_58 ht) (fun _ h9 => h9) rfl dX4_kind_48 ?_
        refine lv_iload_n hx hb dX4_kind_51 rfl (lv_at hl 1 rfl) ?_
        refine va_iast hx hb hK hP hD hS 2 0 rfl rfl (hk c_3) dX4_kind_52 (fun H locs hP hD hS => ?_)
        have hP : va_P D vwCl (wM cI cJ cZ a 0 rg bu pn pl ja lk nk bl bs bk be al (upd tp nk.toNatClampNeg k) st mx my kd ky gx gy gu gv) H := hP
        have hD : va_D A (wM cI cJ cZ a 0 rg bu pn pl ja lk nk bl bs bk be al (upd tp nk.toNatClampNeg k) st mx my kd ky gx gy gu gv) := hD
        refine lv_aload_n hx hb dX4_kind_53 rfl (lv_at hl 0 rfl) ?_
        refine va_get (D := D) (ci := 5) (v := .ref (a 3)) (C := RX4) (T := TX4) (N := 23) hx hb (lyX4 ht) (fun _ h9 => h9) hown hK hP 0 rfl rfl 10 (by decide) (fl_X4_24 ht) (fun _ h9 => h9) rfl dX4_kind_54 ?_
        refine lv_aload_n hx hb dX4_kind_57 rfl (lv_at hl 0 rfl) ?_
        refine va_get (D := D) (ci := 5) (v := .int nk) (C := RX4) (T := TX4) (N := 23) hx hb (lyX4 ht) (fun _ h9 => h9) hown hK hP 0 rfl rfl 8 (by decide) (fl_X4_58 ht) (fun _ h9 => h9) rfl dX4_kind_58 ?_
        refine lv_iload_n hx hb dX4_kind_61 rfl (lv_at hl 2 rfl) ?_
        refine va_iast hx hb hK hP hD hS 3 0 rfl rfl (hk c_3) dX4_kind_62 (fun H locs hP hD hS => ?_)
        have hP : va_P D vwCl (wM cI cJ cZ a 0 rg bu pn pl ja lk nk bl bs bk be al (upd tp nk.toNatClampNeg k) (upd st nk.toNatClampNeg z) mx my kd ky gx gy gu gv) H := hP
        have hD : va_D A (wM cI cJ cZ a 0 rg bu pn pl ja lk nk bl bs bk be al (upd tp nk.toNatClampNeg k) (upd st nk.toNatClampNeg z) mx my kd ky gx gy gu gv) := hD
        refine lv_aload_n hx hb dX4_kind_63 rfl (lv_at hl 0 rfl) ?_
        refine lv_dup hx hb dX4_kind_64 rfl ?_
        refine va_get (D := D) (ci := 5) (v := .int nk) (C := RX4) (T := TX4) (N := 23) hx hb (lyX4 ht) (fun _ h9 => h9) hown hK hP 0 rfl rfl 8 (by decide) (fl_X4_58 ht) (fun _ h9 => h9) rfl dX4_kind_65 ?_
        refine lv_iconst (v := 1) hx hb dX4_kind_68 (by decide) ?_
        refine lv_iadd hx hb dX4_kind_69 ?_
        refine va_put (D := D) (ci := 5) (v := .int (nk + 1)) (ty := .int) (C := RX4) (T := TX4) (N := 23) hx hb (lyX4 ht) (fun _ h9 => h9) tyX4 tyX4_ok nmX4 hown hK hP hD hS 0 rfl rfl 8 (by decide) (fl_X4_58 ht) (fun _ h9 => h9) rfl (by decide +kernel) rfl rfl (Nat.le_of_ble_eq_true rfl) dX4_kind_70 (fun H locs hP hD hS => ?_)
        have hP : va_P D vwCl (wM cI cJ cZ a 0 rg bu pn pl ja lk (nk + 1) bl bs bk be al (upd tp nk.toNatClampNeg k) (upd st nk.toNatClampNeg z) mx my kd ky gx gy gu gv) H := hP
        have hD : va_D A (wM cI cJ cZ a 0 rg bu pn pl ja lk (nk + 1) bl bs bk be al (upd tp nk.toNatClampNeg k) (upd st nk.toNatClampNeg z) mx my kd ky gx gy gu gv) := hD
        refine lv_aload_n hx hb dX4_kind_73 rfl (lv_at hl 0 rfl) ?_
        refine va_get (D := D) (ci := 5) (v := .int (nk + 1)) (C := RX4) (T := TX4) (N := 23) hx hb (lyX4 ht) (fun _ h9 => h9) hown hK hP 0 rfl rfl 8 (by decide) (fl_X4_58 ht) (fun _ h9 => h9) rfl dX4_kind_74 ?_
        refine lv_iconst (v := 1) hx hb dX4_kind_77 (by decide) ?_
        refine lv_isub hx hb dX4_kind_78 ?_
        exact wr_i hx hb hr hlocks hAe hP hD hS dX4_kind_79 (⟨by unfold f_X4_kind; rw [if_neg c_1, if_neg c_2, if_neg c_3], by simp only [f_X4_kind_fa, f_X4_kind_nk, f_X4_kind_tp, f_X4_kind_st, if_neg c_1, if_neg c_2, if_neg c_3]⟩)
      · skip
        refine lv_bipush (v := -4) hx hb dX4_kind_40 (by decide) ?_
        exact wr_i hx hb hr hlocks hAe hP hD hS dX4_kind_42 (⟨by unfold f_X4_kind; rw [if_neg c_1, if_neg c_2, if_pos c_3], by simp only [f_X4_kind_fa, f_X4_kind_nk, f_X4_kind_tp, f_X4_kind_st, if_neg c_1, if_neg c_2, if_pos c_3]⟩)
    · skip
      refine lv_bipush (v := -2) hx hb dX4_kind_29 (by decide) ?_
      exact wr_i hx hb hr hlocks hAe hP hD hS dX4_kind_31 (⟨by unfold f_X4_kind; rw [if_neg c_1, if_pos c_2], by simp only [f_X4_kind_fa, f_X4_kind_nk, f_X4_kind_tp, f_X4_kind_st, if_neg c_1, if_pos c_2]⟩)
def f_X4_more (k : Int32) (z : Int32) (nk : Int32) (st : Nat → Int32) : Int32 := if (f_X4_isKind k nk) = 0 then -1 else (if (f_X4_in z.toInt64 1 99) = 0 then -2 else ((upd st k.toNatClampNeg ((st k.toNatClampNeg) + z)) k.toNatClampNeg))
def f_X4_more_fa (k : Int32) (z : Int32) (nk : Int32) : Int32 := if (f_X4_isKind k nk) = 0 then 0 else (if (f_X4_in z.toInt64 1 99) = 0 then 0 else 0)
def f_X4_more_st (k : Int32) (z : Int32) (nk : Int32) (st : Nat → Int32) : Nat → Int32 := if (f_X4_isKind k nk) = 0 then st else (if (f_X4_in z.toInt64 1 99) = 0 then st else (upd st k.toNatClampNeg ((st k.toNatClampNeg) + z)))
set_option maxRecDepth 20000 in
set_option maxHeartbeats 4000000 in
theorem k_X4_more (l : Launch) (D : va_G) (cI cJ cZ : ClassId) (a : Nat → Nat) (fa rg bu pn pl ja lk nk bl : Int32) (bs : Int64) (bk be : Int32) (al tp st mx my kd ky : Nat → Int32) (gx gy gu gv : Nat → Int64) (k : Int32) (z : Int32) (hk : ¬ f_X4_isKind k nk = 0 → vp_in k 4) : WR l yX4_more cX4_more 3 (some .int) 1 0 0 D (tysW cI cJ cZ) (wM cI cJ cZ a fa rg bu pn pl ja lk nk bl bs bk be al tp st mx my kd ky gx gy gu gv) [.ref (a 0), .int k, .int z] (fun ov w' => ov = some (.int (f_X4_more k z nk st)) ∧ w' = wM cI cJ cZ a (f_X4_more_fa k z nk) rg bu pn pl ja lk nk bl bs bk be al tp (f_X4_more_st k z nk st) mx my kd ky gx gy gu gv) := by
  refine WR.of (by decide) ?_
  intro p e s m below meth c A hadm hx hb hr hml hown hlocks hname hE hP hK hD hS hA hAe
  have hown : s.vm.findClass RX4 = some m.cls := hown
  have ht : tb_OK s := hE.1
  have hl := lv_entry ([.ref (a 0), .int k, .int z]) (n := 3) (Nat.le_of_ble_eq_true rfl)
  rw [lg_entry_eq]
  generalize (lg_sl ([.ref (a 0), .int k, .int z]) ++ List.replicate (3 - (lg_sl ([.ref (a 0), .int k, .int z])).length) Slot.unset).toArray = ls at hl ⊢
  have hl : lv_has ls 3 [(0, .ref (a 0)), (1, .int k), (2, .int z)] := hl
  refine lv_aload_n hx hb dX4_more_0 rfl (lv_at hl 0 rfl) ?_
  refine lv_iconst (v := 0) hx hb dX4_more_1 (by decide) ?_
  refine va_put (D := D) (ci := 5) (v := .int 0) (ty := .int) (C := RX4) (T := TX4) (N := 23) hx hb (lyX4 ht) (fun _ h9 => h9) tyX4 tyX4_ok nmX4 hown hK hP hD hS 0 rfl rfl 0 (by decide) (fl_X4_55 ht) (fun _ h9 => h9) rfl (by decide +kernel) rfl rfl (Nat.le_of_ble_eq_true rfl) dX4_more_2 (fun H locs hP hD hS => ?_)
  have hP : va_P D vwCl (wM cI cJ cZ a 0 rg bu pn pl ja lk nk bl bs bk be al tp st mx my kd ky gx gy gu gv) H := hP
  have hD : va_D A (wM cI cJ cZ a 0 rg bu pn pl ja lk nk bl bs bk be al tp st mx my kd ky gx gy gu gv) := hD
  refine lv_aload_n hx hb dX4_more_5 rfl (lv_at hl 0 rfl) ?_
  refine lv_iload_n hx hb dX4_more_6 rfl (lv_at hl 1 rfl) ?_
  refine rdV (As := [.int k]) (rest := []) (st1 := [.int (f_X4_isKind k nk)]) (k_X4_isKind l D cI cJ cZ a 0 rg bu pn pl ja lk nk bl bs bk be al tp st mx my kd ky gx gy gu gv k) (si_X4_75 ht ⟨Nat.le_of_ble_eq_true rfl, Nat.le_of_ble_eq_true rfl⟩) hx hb hml hown (va_recv hK hP (ci := 5) (q0 := 0) rfl rfl) (hE.since hS) hP hK rfl hl.1 rfl (Nat.le_of_ble_eq_true rfl) ⟨Nat.zero_le _, Nat.zero_le _⟩ dX4_more_7 rfl ?_
  refine lv_if_ne (tgt := 15) hx hb dX4_more_10 (by decide) (fun c_1 => ?_) (fun c_1 => ?_)
  · skip
    refine lv_iload_n hx hb dX4_more_15 rfl (lv_at hl 2 rfl) ?_
    refine lv_i2l (v := z.toInt64) hx hb dX4_more_16 rfl ?_
    refine lv_lconst (v := 1) hx hb dX4_more_17 (by decide) ?_
    refine lv_ldc2 (v := 99) hx hb hown (kl_X4_73 ht) dX4_more_18 ?_
    refine rdS (As := [.long z.toInt64, .long 1, .long 99]) (rest := []) (st1 := [.int (f_X4_in z.toInt64 1 99)]) (k_X4_in l D (tysW cI cJ cZ) z.toInt64 1 99) (si_X4_69 ht ⟨Nat.le_of_ble_eq_true rfl, Nat.le_of_ble_eq_true rfl⟩) hx hb hml hown (hE.since hS) pNil hK rfl hl.1 rfl (Nat.le_of_ble_eq_true rfl) ⟨Nat.zero_le _, Nat.zero_le _⟩ dX4_more_21 rfl ?_
    refine lv_if_ne (tgt := 30) hx hb dX4_more_24 (by decide) (fun c_2 => ?_) (fun c_2 => ?_)
    · skip
      refine lv_aload_n hx hb dX4_more_30 rfl (lv_at hl 0 rfl) ?_
      refine va_get (D := D) (ci := 5) (v := .ref (a 3)) (C := RX4) (T := TX4) (N := 23) hx hb (lyX4 ht) (fun _ h9 => h9) hown hK hP 0 rfl rfl 10 (by decide) (fl_X4_24 ht) (fun _ h9 => h9) rfl dX4_more_31 ?_
      refine lv_iload_n hx hb dX4_more_34 rfl (lv_at hl 1 rfl) ?_
      refine lv_dup2_11 hx hb dX4_more_35 rfl rfl ?_
      refine va_iald hx hb hK hP 3 0 rfl rfl (hk c_1) dX4_more_36 ?_
      refine lv_iload_n hx hb dX4_more_37 rfl (lv_at hl 2 rfl) ?_
      refine lv_iadd hx hb dX4_more_38 ?_
      refine va_iast hx hb hK hP hD hS 3 0 rfl rfl (hk c_1) dX4_more_39 (fun H locs hP hD hS => ?_)
      have hP : va_P D vwCl (wM cI cJ cZ a 0 rg bu pn pl ja lk nk bl bs bk be al tp (upd st k.toNatClampNeg ((st k.toNatClampNeg) + z)) mx my kd ky gx gy gu gv) H := hP
      have hD : va_D A (wM cI cJ cZ a 0 rg bu pn pl ja lk nk bl bs bk be al tp (upd st k.toNatClampNeg ((st k.toNatClampNeg) + z)) mx my kd ky gx gy gu gv) := hD
      refine lv_aload_n hx hb dX4_more_40 rfl (lv_at hl 0 rfl) ?_
      refine va_get (D := D) (ci := 5) (v := .ref (a 3)) (C := RX4) (T := TX4) (N := 23) hx hb (lyX4 ht) (fun _ h9 => h9) hown hK hP 0 rfl rfl 10 (by decide) (fl_X4_24 ht) (fun _ h9 => h9) rfl dX4_more_41 ?_
      refine lv_iload_n hx hb dX4_more_44 rfl (lv_at hl 1 rfl) ?_
      refine va_iald hx hb hK hP 3 0 rfl rfl (hk c_1) dX4_more_45 ?_
      exact wr_i hx hb hr hlocks hAe hP hD hS dX4_more_46 (⟨by unfold f_X4_more; rw [if_neg c_1, if_neg c_2], by simp only [f_X4_more_fa, f_X4_more_st, if_neg c_1, if_neg c_2]⟩)
    · skip
      refine lv_bipush (v := -2) hx hb dX4_more_27 (by decide) ?_
      exact wr_i hx hb hr hlocks hAe hP hD hS dX4_more_29 (⟨by unfold f_X4_more; rw [if_neg c_1, if_pos c_2], by simp only [f_X4_more_fa, f_X4_more_st, if_neg c_1, if_pos c_2]⟩)
  · skip
    refine lv_iconst (v := -1) hx hb dX4_more_13 (by decide) ?_
    exact wr_i hx hb hr hlocks hAe hP hD hS dX4_more_14 (⟨by unfold f_X4_more; rw [if_pos c_1], by simp only [f_X4_more_fa, f_X4_more_st, if_pos c_1]⟩)
def f_X4_line (r : Int32) (j : Int32) (z : Int32) (rg : Int32) (bu : Int32) : Int32 := if (f_X4_isRing r rg) = 0 then 0 else (if (f_X4_in j.toInt64 (-10000000) 10000000) = 0 then -2 else (if (f_X4_in z.toInt64 (-10000000) 10000000) = 0 then -2 else (if bu ≤ r then 1 else -3)))
def f_X4_line_fa (r : Int32) (j : Int32) (z : Int32) (rg : Int32) (bu : Int32) : Int32 := if (f_X4_isRing r rg) = 0 then 1 else (if (f_X4_in j.toInt64 (-10000000) 10000000) = 0 then 0 else (if (f_X4_in z.toInt64 (-10000000) 10000000) = 0 then 0 else (if bu ≤ r then 0 else 0)))
def f_X4_line_mx (r : Int32) (j : Int32) (z : Int32) (rg : Int32) (bu : Int32) (mx : Nat → Int32) : Nat → Int32 := if (f_X4_isRing r rg) = 0 then mx else (if (f_X4_in j.toInt64 (-10000000) 10000000) = 0 then mx else (if (f_X4_in z.toInt64 (-10000000) 10000000) = 0 then mx else (if bu ≤ r then (upd mx r.toNatClampNeg j) else mx)))
def f_X4_line_my (r : Int32) (j : Int32) (z : Int32) (rg : Int32) (bu : Int32) (my : Nat → Int32) : Nat → Int32 := if (f_X4_isRing r rg) = 0 then my else (if (f_X4_in j.toInt64 (-10000000) 10000000) = 0 then my else (if (f_X4_in z.toInt64 (-10000000) 10000000) = 0 then my else (if bu ≤ r then (upd my r.toNatClampNeg z) else my)))
set_option maxRecDepth 20000 in
set_option maxHeartbeats 4000000 in
theorem k_X4_line (l : Launch) (D : va_G) (cI cJ cZ : ClassId) (a : Nat → Nat) (fa rg bu pn pl ja lk nk bl : Int32) (bs : Int64) (bk be : Int32) (al tp st mx my kd ky : Nat → Int32) (gx gy gu gv : Nat → Int64) (r : Int32) (j : Int32) (z : Int32) (hk : ¬ f_X4_isRing r rg = 0 → vp_in r 24) : WR l yX4_line cX4_line 4 (some .int) 1 0 0 D (tysW cI cJ cZ) (wM cI cJ cZ a fa rg bu pn pl ja lk nk bl bs bk be al tp st mx my kd ky gx gy gu gv) [.ref (a 0), .int r, .int j, .int z] (fun ov w' => ov = some (.int (f_X4_line r j z rg bu)) ∧ w' = wM cI cJ cZ a (f_X4_line_fa r j z rg bu) rg bu pn pl ja lk nk bl bs bk be al tp st (f_X4_line_mx r j z rg bu mx) (f_X4_line_my r j z rg bu my) kd ky gx gy gu gv) := by
  refine WR.of (by decide) ?_
  intro p e s m below meth c A hadm hx hb hr hml hown hlocks hname hE hP hK hD hS hA hAe
  have hown : s.vm.findClass RX4 = some m.cls := hown
  have ht : tb_OK s := hE.1
  have hl := lv_entry ([.ref (a 0), .int r, .int j, .int z]) (n := 4) (Nat.le_of_ble_eq_true rfl)
  rw [lg_entry_eq]
  generalize (lg_sl ([.ref (a 0), .int r, .int j, .int z]) ++ List.replicate (4 - (lg_sl ([.ref (a 0), .int r, .int j, .int z])).length) Slot.unset).toArray = ls at hl ⊢
  have hl : lv_has ls 4 [(0, .ref (a 0)), (1, .int r), (2, .int j), (3, .int z)] := hl
  refine lv_aload_n hx hb dX4_line_0 rfl (lv_at hl 0 rfl) ?_
  refine lv_aload_n hx hb dX4_line_1 rfl (lv_at hl 0 rfl) ?_
  refine lv_iload_n hx hb dX4_line_2 rfl (lv_at hl 1 rfl) ?_
  refine rdV (As := [.int r]) (rest := [.ref (a 0)]) (st1 := [.int (f_X4_isRing r rg), .ref (a 0)]) (k_X4_isRing l D cI cJ cZ a fa rg bu pn pl ja lk nk bl bs bk be al tp st mx my kd ky gx gy gu gv r) (si_X4_79 ht ⟨Nat.le_of_ble_eq_true rfl, Nat.le_of_ble_eq_true rfl⟩) hx hb hml hown (va_recv hK hP (ci := 5) (q0 := 0) rfl rfl) (hE.since hS) hP hK rfl hl.1 rfl (Nat.le_of_ble_eq_true rfl) ⟨Nat.zero_le _, Nat.zero_le _⟩ dX4_line_3 rfl ?_
  refine lv_if_eq (tgt := 13) hx hb dX4_line_6 (by decide) (fun c_1 => ?_) (fun c_1 => ?_)
  · skip
    refine lv_iconst (v := 1) hx hb dX4_line_13 (by decide) ?_
    refine va_put (D := D) (ci := 5) (v := .int 1) (ty := .int) (C := RX4) (T := TX4) (N := 23) hx hb (lyX4 ht) (fun _ h9 => h9) tyX4 tyX4_ok nmX4 hown hK hP hD hS 0 rfl rfl 0 (by decide) (fl_X4_55 ht) (fun _ h9 => h9) rfl (by decide +kernel) rfl rfl (Nat.le_of_ble_eq_true rfl) dX4_line_14 (fun H locs hP hD hS => ?_)
    have hP : va_P D vwCl (wM cI cJ cZ a 1 rg bu pn pl ja lk nk bl bs bk be al tp st mx my kd ky gx gy gu gv) H := hP
    have hD : va_D A (wM cI cJ cZ a 1 rg bu pn pl ja lk nk bl bs bk be al tp st mx my kd ky gx gy gu gv) := hD
    refine lv_aload_n hx hb dX4_line_17 rfl (lv_at hl 0 rfl) ?_
    refine va_get (D := D) (ci := 5) (v := .int 1) (C := RX4) (T := TX4) (N := 23) hx hb (lyX4 ht) (fun _ h9 => h9) hown hK hP 0 rfl rfl 0 (by decide) (fl_X4_55 ht) (fun _ h9 => h9) rfl dX4_line_18 ?_
    refine lv_if_le (tgt := 26) hx hb dX4_line_21 (by decide) (fun c_2 => absurd c_2 (by decide)) (fun c_2 => ?_)
    refine lv_iconst (v := 0) hx hb dX4_line_24 (by decide) ?_
    exact wr_i hx hb hr hlocks hAe hP hD hS dX4_line_25 (⟨by unfold f_X4_line; rw [if_pos c_1], by simp only [f_X4_line_fa, f_X4_line_mx, f_X4_line_my, if_pos c_1]⟩)
  · skip
    refine lv_iconst (v := 0) hx hb dX4_line_9 (by decide) ?_
    refine lv_goto (tgt := 14) hx hb dX4_line_10 (by decide) ?_
    refine va_put (D := D) (ci := 5) (v := .int 0) (ty := .int) (C := RX4) (T := TX4) (N := 23) hx hb (lyX4 ht) (fun _ h9 => h9) tyX4 tyX4_ok nmX4 hown hK hP hD hS 0 rfl rfl 0 (by decide) (fl_X4_55 ht) (fun _ h9 => h9) rfl (by decide +kernel) rfl rfl (Nat.le_of_ble_eq_true rfl) dX4_line_14 (fun H locs hP hD hS => ?_)
    have hP : va_P D vwCl (wM cI cJ cZ a 0 rg bu pn pl ja lk nk bl bs bk be al tp st mx my kd ky gx gy gu gv) H := hP
    have hD : va_D A (wM cI cJ cZ a 0 rg bu pn pl ja lk nk bl bs bk be al tp st mx my kd ky gx gy gu gv) := hD
    refine lv_aload_n hx hb dX4_line_17 rfl (lv_at hl 0 rfl) ?_
    refine va_get (D := D) (ci := 5) (v := .int 0) (C := RX4) (T := TX4) (N := 23) hx hb (lyX4 ht) (fun _ h9 => h9) hown hK hP 0 rfl rfl 0 (by decide) (fl_X4_55 ht) (fun _ h9 => h9) rfl dX4_line_18 ?_
    refine lv_if_le (tgt := 26) hx hb dX4_line_21 (by decide) (fun c_3 => ?_) (fun c_3 => absurd (by decide) c_3)
    refine lv_iload_n hx hb dX4_line_26 rfl (lv_at hl 2 rfl) ?_
    refine lv_i2l (v := j.toInt64) hx hb dX4_line_27 rfl ?_
    refine lv_ldc2 (v := -10000000) hx hb hown (kl_X4_82 ht) dX4_line_28 ?_
    refine lv_ldc2 (v := 10000000) hx hb hown (kl_X4_84 ht) dX4_line_31 ?_
    refine rdS (As := [.long j.toInt64, .long (-10000000), .long 10000000]) (rest := []) (st1 := [.int (f_X4_in j.toInt64 (-10000000) 10000000)]) (k_X4_in l D (tysW cI cJ cZ) j.toInt64 (-10000000) 10000000) (si_X4_69 ht ⟨Nat.le_of_ble_eq_true rfl, Nat.le_of_ble_eq_true rfl⟩) hx hb hml hown (hE.since hS) pNil hK rfl hl.1 rfl (Nat.le_of_ble_eq_true rfl) ⟨Nat.zero_le _, Nat.zero_le _⟩ dX4_line_34 rfl ?_
    refine lv_if_eq (tgt := 54) hx hb dX4_line_37 (by decide) (fun c_4 => ?_) (fun c_4 => ?_)
    · skip
      refine lv_bipush (v := -2) hx hb dX4_line_54 (by decide) ?_
      exact wr_i hx hb hr hlocks hAe hP hD hS dX4_line_56 (⟨by unfold f_X4_line; rw [if_neg c_1, if_pos c_4], by simp only [f_X4_line_fa, f_X4_line_mx, f_X4_line_my, if_neg c_1, if_pos c_4]⟩)
    · skip
      refine lv_iload_n hx hb dX4_line_40 rfl (lv_at hl 3 rfl) ?_
      refine lv_i2l (v := z.toInt64) hx hb dX4_line_41 rfl ?_
      refine lv_ldc2 (v := -10000000) hx hb hown (kl_X4_82 ht) dX4_line_42 ?_
      refine lv_ldc2 (v := 10000000) hx hb hown (kl_X4_84 ht) dX4_line_45 ?_
      refine rdS (As := [.long z.toInt64, .long (-10000000), .long 10000000]) (rest := []) (st1 := [.int (f_X4_in z.toInt64 (-10000000) 10000000)]) (k_X4_in l D (tysW cI cJ cZ) z.toInt64 (-10000000) 10000000) (si_X4_69 ht ⟨Nat.le_of_ble_eq_true rfl, Nat.le_of_ble_eq_true rfl⟩) hx hb hml hown (hE.since hS) pNil hK rfl hl.1 rfl (Nat.le_of_ble_eq_true rfl) ⟨Nat.zero_le _, Nat.zero_le _⟩ dX4_line_48 rfl ?_
      refine lv_if_ne (tgt := 57) hx hb dX4_line_51 (by decide) (fun c_5 => ?_) (fun c_5 => ?_)
      · skip
        refine lv_iload_n hx hb dX4_line_57 rfl (lv_at hl 1 rfl) ?_
        refine lv_aload_n hx hb dX4_line_58 rfl (lv_at hl 0 rfl) ?_
        refine va_get (D := D) (ci := 5) (v := .int bu) (C := RX4) (T := TX4) (N := 23) hx hb (lyX4 ht) (fun _ h9 => h9) hown hK hP 0 rfl rfl 2 (by decide) (fl_X4_61 ht) (fun _ h9 => h9) rfl dX4_line_59 ?_
        refine lv_icmp_ge (tgt := 68) hx hb dX4_line_62 (by decide) (fun c_6 => ?_) (fun c_6 => ?_)
        · skip
          refine lv_aload_n hx hb dX4_line_68 rfl (lv_at hl 0 rfl) ?_
          refine va_get (D := D) (ci := 5) (v := .ref (a 4)) (C := RX4) (T := TX4) (N := 23) hx hb (lyX4 ht) (fun _ h9 => h9) hown hK hP 0 rfl rfl 11 (by decide) (fl_X4_27 ht) (fun _ h9 => h9) rfl dX4_line_69 ?_
          refine lv_iload_n hx hb dX4_line_72 rfl (lv_at hl 1 rfl) ?_
          refine lv_iload_n hx hb dX4_line_73 rfl (lv_at hl 2 rfl) ?_
          refine va_iast hx hb hK hP hD hS 4 0 rfl rfl (hk c_1) dX4_line_74 (fun H locs hP hD hS => ?_)
          have hP : va_P D vwCl (wM cI cJ cZ a 0 rg bu pn pl ja lk nk bl bs bk be al tp st (upd mx r.toNatClampNeg j) my kd ky gx gy gu gv) H := hP
          have hD : va_D A (wM cI cJ cZ a 0 rg bu pn pl ja lk nk bl bs bk be al tp st (upd mx r.toNatClampNeg j) my kd ky gx gy gu gv) := hD
          refine lv_aload_n hx hb dX4_line_75 rfl (lv_at hl 0 rfl) ?_
          refine va_get (D := D) (ci := 5) (v := .ref (a 5)) (C := RX4) (T := TX4) (N := 23) hx hb (lyX4 ht) (fun _ h9 => h9) hown hK hP 0 rfl rfl 12 (by decide) (fl_X4_30 ht) (fun _ h9 => h9) rfl dX4_line_76 ?_
          refine lv_iload_n hx hb dX4_line_79 rfl (lv_at hl 1 rfl) ?_
          refine lv_iload_n hx hb dX4_line_80 rfl (lv_at hl 3 rfl) ?_
          refine va_iast hx hb hK hP hD hS 5 0 rfl rfl (hk c_1) dX4_line_81 (fun H locs hP hD hS => ?_)
          have hP : va_P D vwCl (wM cI cJ cZ a 0 rg bu pn pl ja lk nk bl bs bk be al tp st (upd mx r.toNatClampNeg j) (upd my r.toNatClampNeg z) kd ky gx gy gu gv) H := hP
          have hD : va_D A (wM cI cJ cZ a 0 rg bu pn pl ja lk nk bl bs bk be al tp st (upd mx r.toNatClampNeg j) (upd my r.toNatClampNeg z) kd ky gx gy gu gv) := hD
          refine lv_iconst (v := 1) hx hb dX4_line_82 (by decide) ?_
          exact wr_i hx hb hr hlocks hAe hP hD hS dX4_line_83 (⟨by unfold f_X4_line; rw [if_neg c_1, if_neg c_4, if_neg c_5, if_pos c_6], by simp only [f_X4_line_fa, f_X4_line_mx, f_X4_line_my, if_neg c_1, if_neg c_4, if_neg c_5, if_pos c_6]⟩)
        · skip
          refine lv_bipush (v := -3) hx hb dX4_line_65 (by decide) ?_
          exact wr_i hx hb hr hlocks hAe hP hD hS dX4_line_67 (⟨by unfold f_X4_line; rw [if_neg c_1, if_neg c_4, if_neg c_5, if_neg c_6], by simp only [f_X4_line_fa, f_X4_line_mx, f_X4_line_my, if_neg c_1, if_neg c_4, if_neg c_5, if_neg c_6]⟩)
      · skip
        refine lv_bipush (v := -2) hx hb dX4_line_54 (by decide) ?_
        exact wr_i hx hb hr hlocks hAe hP hD hS dX4_line_56 (⟨by unfold f_X4_line; rw [if_neg c_1, if_neg c_4, if_pos c_5], by simp only [f_X4_line_fa, f_X4_line_mx, f_X4_line_my, if_neg c_1, if_neg c_4, if_pos c_5]⟩)
def f_X4_apart (k : Int32) : Int32 := if (f_X4_in k.toInt64 1 16) = 0 then -2 else 1
def f_X4_apart_fa (k : Int32) : Int32 := if (f_X4_in k.toInt64 1 16) = 0 then 0 else 0
def f_X4_apart_ja (k : Int32) (ja : Int32) : Int32 := if (f_X4_in k.toInt64 1 16) = 0 then ja else k
set_option maxRecDepth 20000 in
set_option maxHeartbeats 4000000 in
theorem k_X4_apart (l : Launch) (D : va_G) (cI cJ cZ : ClassId) (a : Nat → Nat) (fa rg bu pn pl ja lk nk bl : Int32) (bs : Int64) (bk be : Int32) (al tp st mx my kd ky : Nat → Int32) (gx gy gu gv : Nat → Int64) (k : Int32) : WR l yX4_apart cX4_apart 2 (some .int) 1 0 0 D (tysW cI cJ cZ) (wM cI cJ cZ a fa rg bu pn pl ja lk nk bl bs bk be al tp st mx my kd ky gx gy gu gv) [.ref (a 0), .int k] (fun ov w' => ov = some (.int (f_X4_apart k)) ∧ w' = wM cI cJ cZ a (f_X4_apart_fa k) rg bu pn pl (f_X4_apart_ja k ja) lk nk bl bs bk be al tp st mx my kd ky gx gy gu gv) := by
  refine WR.of (by decide) ?_
  intro p e s m below meth c A hadm hx hb hr hml hown hlocks hname hE hP hK hD hS hA hAe
  have hown : s.vm.findClass RX4 = some m.cls := hown
  have ht : tb_OK s := hE.1
  have hl := lv_entry ([.ref (a 0), .int k]) (n := 2) (Nat.le_of_ble_eq_true rfl)
  rw [lg_entry_eq]
  generalize (lg_sl ([.ref (a 0), .int k]) ++ List.replicate (2 - (lg_sl ([.ref (a 0), .int k])).length) Slot.unset).toArray = ls at hl ⊢
  have hl : lv_has ls 2 [(0, .ref (a 0)), (1, .int k)] := hl
  refine lv_aload_n hx hb dX4_apart_0 rfl (lv_at hl 0 rfl) ?_
  refine lv_iconst (v := 0) hx hb dX4_apart_1 (by decide) ?_
  refine va_put (D := D) (ci := 5) (v := .int 0) (ty := .int) (C := RX4) (T := TX4) (N := 23) hx hb (lyX4 ht) (fun _ h9 => h9) tyX4 tyX4_ok nmX4 hown hK hP hD hS 0 rfl rfl 0 (by decide) (fl_X4_55 ht) (fun _ h9 => h9) rfl (by decide +kernel) rfl rfl (Nat.le_of_ble_eq_true rfl) dX4_apart_2 (fun H locs hP hD hS => ?_)
  have hP : va_P D vwCl (wM cI cJ cZ a 0 rg bu pn pl ja lk nk bl bs bk be al tp st mx my kd ky gx gy gu gv) H := hP
  have hD : va_D A (wM cI cJ cZ a 0 rg bu pn pl ja lk nk bl bs bk be al tp st mx my kd ky gx gy gu gv) := hD
  refine lv_iload_n hx hb dX4_apart_5 rfl (lv_at hl 1 rfl) ?_
  refine lv_i2l (v := k.toInt64) hx hb dX4_apart_6 rfl ?_
  refine lv_lconst (v := 1) hx hb dX4_apart_7 (by decide) ?_
  refine lv_ldc2 (v := 16) hx hb hown (kl_X4_86 ht) dX4_apart_8 ?_
  refine rdS (As := [.long k.toInt64, .long 1, .long 16]) (rest := []) (st1 := [.int (f_X4_in k.toInt64 1 16)]) (k_X4_in l D (tysW cI cJ cZ) k.toInt64 1 16) (si_X4_69 ht ⟨Nat.le_of_ble_eq_true rfl, Nat.le_of_ble_eq_true rfl⟩) hx hb hml hown (hE.since hS) pNil hK rfl hl.1 rfl (Nat.le_of_ble_eq_true rfl) ⟨Nat.zero_le _, Nat.zero_le _⟩ dX4_apart_11 rfl ?_
  refine lv_if_ne (tgt := 20) hx hb dX4_apart_14 (by decide) (fun c_1 => ?_) (fun c_1 => ?_)
  · skip
    refine lv_aload_n hx hb dX4_apart_20 rfl (lv_at hl 0 rfl) ?_
    refine lv_iload_n hx hb dX4_apart_21 rfl (lv_at hl 1 rfl) ?_
    refine va_put (D := D) (ci := 5) (v := .int k) (ty := .int) (C := RX4) (T := TX4) (N := 23) hx hb (lyX4 ht) (fun _ h9 => h9) tyX4 tyX4_ok nmX4 hown hK hP hD hS 0 rfl rfl 5 (by decide) (fl_X4_7 ht) (fun _ h9 => h9) rfl (by decide +kernel) rfl rfl (Nat.le_of_ble_eq_true rfl) dX4_apart_22 (fun H locs hP hD hS => ?_)
    have hP : va_P D vwCl (wM cI cJ cZ a 0 rg bu pn pl k lk nk bl bs bk be al tp st mx my kd ky gx gy gu gv) H := hP
    have hD : va_D A (wM cI cJ cZ a 0 rg bu pn pl k lk nk bl bs bk be al tp st mx my kd ky gx gy gu gv) := hD
    refine lv_iconst (v := 1) hx hb dX4_apart_25 (by decide) ?_
    exact wr_i hx hb hr hlocks hAe hP hD hS dX4_apart_26 (⟨by unfold f_X4_apart; rw [if_neg c_1], by simp only [f_X4_apart_fa, f_X4_apart_ja, if_neg c_1]⟩)
  · skip
    refine lv_bipush (v := -2) hx hb dX4_apart_17 (by decide) ?_
    exact wr_i hx hb hr hlocks hAe hP hD hS dX4_apart_19 (⟨by unfold f_X4_apart; rw [if_pos c_1], by simp only [f_X4_apart_fa, f_X4_apart_ja, if_pos c_1]⟩)
def f_X4_allow (k : Int32) (z : Int32) (al : Nat → Int32) : Int32 := if (f_X4_in k.toInt64 0 15) = 0 then 0 else (if (al k.toNatClampNeg) = z then 0 else 1)
def f_X4_allow_fa (k : Int32) (z : Int32) (al : Nat → Int32) : Int32 := if (f_X4_in k.toInt64 0 15) = 0 then 0 else (if (al k.toNatClampNeg) = z then 0 else 0)
def f_X4_allow_al (k : Int32) (z : Int32) (al : Nat → Int32) : Nat → Int32 := if (f_X4_in k.toInt64 0 15) = 0 then al else (if (al k.toNatClampNeg) = z then al else (upd al k.toNatClampNeg (vp_nar .boolean z)))
set_option maxRecDepth 20000 in
set_option maxHeartbeats 4000000 in
theorem k_X4_allow (l : Launch) (D : va_G) (cI cJ cZ : ClassId) (a : Nat → Nat) (fa rg bu pn pl ja lk nk bl : Int32) (bs : Int64) (bk be : Int32) (al tp st mx my kd ky : Nat → Int32) (gx gy gu gv : Nat → Int64) (k : Int32) (z : Int32) (hk : ¬ f_X4_in k.toInt64 0 15 = 0 → vp_in k 16) : WR l yX4_allow cX4_allow 3 (some .boolean) 1 0 0 D (tysW cI cJ cZ) (wM cI cJ cZ a fa rg bu pn pl ja lk nk bl bs bk be al tp st mx my kd ky gx gy gu gv) [.ref (a 0), .int k, .int z] (fun ov w' => ov = some (.int (f_X4_allow k z al)) ∧ w' = wM cI cJ cZ a (f_X4_allow_fa k z al) rg bu pn pl ja lk nk bl bs bk be (f_X4_allow_al k z al) tp st mx my kd ky gx gy gu gv) := by
  refine WR.of (by decide) ?_
  intro p e s m below meth c A hadm hx hb hr hml hown hlocks hname hE hP hK hD hS hA hAe
  have hown : s.vm.findClass RX4 = some m.cls := hown
  have ht : tb_OK s := hE.1
  have hl := lv_entry ([.ref (a 0), .int k, .int z]) (n := 3) (Nat.le_of_ble_eq_true rfl)
  rw [lg_entry_eq]
  generalize (lg_sl ([.ref (a 0), .int k, .int z]) ++ List.replicate (3 - (lg_sl ([.ref (a 0), .int k, .int z])).length) Slot.unset).toArray = ls at hl ⊢
  have hl : lv_has ls 3 [(0, .ref (a 0)), (1, .int k), (2, .int z)] := hl
  refine lv_aload_n hx hb dX4_allow_0 rfl (lv_at hl 0 rfl) ?_
  refine lv_iconst (v := 0) hx hb dX4_allow_1 (by decide) ?_
  refine va_put (D := D) (ci := 5) (v := .int 0) (ty := .int) (C := RX4) (T := TX4) (N := 23) hx hb (lyX4 ht) (fun _ h9 => h9) tyX4 tyX4_ok nmX4 hown hK hP hD hS 0 rfl rfl 0 (by decide) (fl_X4_55 ht) (fun _ h9 => h9) rfl (by decide +kernel) rfl rfl (Nat.le_of_ble_eq_true rfl) dX4_allow_2 (fun H locs hP hD hS => ?_)
  have hP : va_P D vwCl (wM cI cJ cZ a 0 rg bu pn pl ja lk nk bl bs bk be al tp st mx my kd ky gx gy gu gv) H := hP
  have hD : va_D A (wM cI cJ cZ a 0 rg bu pn pl ja lk nk bl bs bk be al tp st mx my kd ky gx gy gu gv) := hD
  refine lv_iload_n hx hb dX4_allow_5 rfl (lv_at hl 1 rfl) ?_
  refine lv_i2l (v := k.toInt64) hx hb dX4_allow_6 rfl ?_
  refine lv_lconst (v := 0) hx hb dX4_allow_7 (by decide) ?_
  refine lv_ldc2 (v := 15) hx hb hown (kl_X4_88 ht) dX4_allow_8 ?_
  refine rdS (As := [.long k.toInt64, .long 0, .long 15]) (rest := []) (st1 := [.int (f_X4_in k.toInt64 0 15)]) (k_X4_in l D (tysW cI cJ cZ) k.toInt64 0 15) (si_X4_69 ht ⟨Nat.le_of_ble_eq_true rfl, Nat.le_of_ble_eq_true rfl⟩) hx hb hml hown (hE.since hS) pNil hK rfl hl.1 rfl (Nat.le_of_ble_eq_true rfl) ⟨Nat.zero_le _, Nat.zero_le _⟩ dX4_allow_11 rfl ?_
  refine lv_if_eq (tgt := 27) hx hb dX4_allow_14 (by decide) (fun c_1 => ?_) (fun c_1 => ?_)
  · skip
    refine lv_iconst (v := 0) hx hb dX4_allow_27 (by decide) ?_
    exact wr_z hx hb hr hlocks hAe hP hD hS dX4_allow_28 rfl (⟨by unfold f_X4_allow; rw [if_pos c_1], by simp only [f_X4_allow_fa, f_X4_allow_al, if_pos c_1]⟩)
  · skip
    refine lv_aload_n hx hb dX4_allow_17 rfl (lv_at hl 0 rfl) ?_
    refine va_get (D := D) (ci := 5) (v := .ref (a 1)) (C := RX4) (T := TX4) (N := 23) hx hb (lyX4 ht) (fun _ h9 => h9) hown hK hP 0 rfl rfl 7 (by decide) (fl_X4_16 ht) (fun _ h9 => h9) rfl dX4_allow_18 ?_
    refine lv_iload_n hx hb dX4_allow_21 rfl (lv_at hl 1 rfl) ?_
    refine va_zald hx hb hK hP 1 2 rfl rfl (hk c_1) dX4_allow_22 ?_
    refine lv_iload_n hx hb dX4_allow_23 rfl (lv_at hl 2 rfl) ?_
    refine lv_icmp_ne (tgt := 29) hx hb dX4_allow_24 (by decide) (fun c_2 => ?_) (fun c_2 => ?_)
    · skip
      refine lv_aload_n hx hb dX4_allow_29 rfl (lv_at hl 0 rfl) ?_
      refine va_get (D := D) (ci := 5) (v := .ref (a 1)) (C := RX4) (T := TX4) (N := 23) hx hb (lyX4 ht) (fun _ h9 => h9) hown hK hP 0 rfl rfl 7 (by decide) (fl_X4_16 ht) (fun _ h9 => h9) rfl dX4_allow_30 ?_
      refine lv_iload_n hx hb dX4_allow_33 rfl (lv_at hl 1 rfl) ?_
      refine lv_iload_n hx hb dX4_allow_34 rfl (lv_at hl 2 rfl) ?_
      refine va_zast hx hb hK hP hD hS 1 2 rfl rfl (hk c_1) dX4_allow_35 (fun H locs hP hD hS => ?_)
      have hP : va_P D vwCl (wM cI cJ cZ a 0 rg bu pn pl ja lk nk bl bs bk be (upd al k.toNatClampNeg (vp_nar .boolean z)) tp st mx my kd ky gx gy gu gv) H := hP
      have hD : va_D A (wM cI cJ cZ a 0 rg bu pn pl ja lk nk bl bs bk be (upd al k.toNatClampNeg (vp_nar .boolean z)) tp st mx my kd ky gx gy gu gv) := hD
      refine lv_iconst (v := 1) hx hb dX4_allow_36 (by decide) ?_
      exact wr_z hx hb hr hlocks hAe hP hD hS dX4_allow_37 rfl (⟨by unfold f_X4_allow; rw [if_neg c_1, if_neg c_2], by simp only [f_X4_allow_fa, f_X4_allow_al, if_neg c_1, if_neg c_2]⟩)
    · skip
      refine lv_iconst (v := 0) hx hb dX4_allow_27 (by decide) ?_
      exact wr_z hx hb hr hlocks hAe hP hD hS dX4_allow_28 rfl (⟨by unfold f_X4_allow; rw [if_neg c_1, if_pos c_2], by simp only [f_X4_allow_fa, f_X4_allow_al, if_neg c_1, if_pos c_2]⟩)
def f_X4_look (k : Int32) : Int32 := if (f_X4_in k.toInt64 1 2) = 0 then -2 else 1
def f_X4_look_fa (k : Int32) : Int32 := if (f_X4_in k.toInt64 1 2) = 0 then 0 else 0
def f_X4_look_lk (k : Int32) (lk : Int32) : Int32 := if (f_X4_in k.toInt64 1 2) = 0 then lk else k
set_option maxRecDepth 20000 in
set_option maxHeartbeats 4000000 in
theorem k_X4_look (l : Launch) (D : va_G) (cI cJ cZ : ClassId) (a : Nat → Nat) (fa rg bu pn pl ja lk nk bl : Int32) (bs : Int64) (bk be : Int32) (al tp st mx my kd ky : Nat → Int32) (gx gy gu gv : Nat → Int64) (k : Int32) : WR l yX4_look cX4_look 2 (some .int) 1 0 0 D (tysW cI cJ cZ) (wM cI cJ cZ a fa rg bu pn pl ja lk nk bl bs bk be al tp st mx my kd ky gx gy gu gv) [.ref (a 0), .int k] (fun ov w' => ov = some (.int (f_X4_look k)) ∧ w' = wM cI cJ cZ a (f_X4_look_fa k) rg bu pn pl ja (f_X4_look_lk k lk) nk bl bs bk be al tp st mx my kd ky gx gy gu gv) := by
  refine WR.of (by decide) ?_
  intro p e s m below meth c A hadm hx hb hr hml hown hlocks hname hE hP hK hD hS hA hAe
  have hown : s.vm.findClass RX4 = some m.cls := hown
  have ht : tb_OK s := hE.1
  have hl := lv_entry ([.ref (a 0), .int k]) (n := 2) (Nat.le_of_ble_eq_true rfl)
  rw [lg_entry_eq]
  generalize (lg_sl ([.ref (a 0), .int k]) ++ List.replicate (2 - (lg_sl ([.ref (a 0), .int k])).length) Slot.unset).toArray = ls at hl ⊢
  have hl : lv_has ls 2 [(0, .ref (a 0)), (1, .int k)] := hl
  refine lv_aload_n hx hb dX4_look_0 rfl (lv_at hl 0 rfl) ?_
  refine lv_iconst (v := 0) hx hb dX4_look_1 (by decide) ?_
  refine va_put (D := D) (ci := 5) (v := .int 0) (ty := .int) (C := RX4) (T := TX4) (N := 23) hx hb (lyX4 ht) (fun _ h9 => h9) tyX4 tyX4_ok nmX4 hown hK hP hD hS 0 rfl rfl 0 (by decide) (fl_X4_55 ht) (fun _ h9 => h9) rfl (by decide +kernel) rfl rfl (Nat.le_of_ble_eq_true rfl) dX4_look_2 (fun H locs hP hD hS => ?_)
  have hP : va_P D vwCl (wM cI cJ cZ a 0 rg bu pn pl ja lk nk bl bs bk be al tp st mx my kd ky gx gy gu gv) H := hP
  have hD : va_D A (wM cI cJ cZ a 0 rg bu pn pl ja lk nk bl bs bk be al tp st mx my kd ky gx gy gu gv) := hD
  refine lv_iload_n hx hb dX4_look_5 rfl (lv_at hl 1 rfl) ?_
  refine lv_i2l (v := k.toInt64) hx hb dX4_look_6 rfl ?_
  refine lv_lconst (v := 1) hx hb dX4_look_7 (by decide) ?_
  refine lv_ldc2 (v := 2) hx hb hown (kl_X4_90 ht) dX4_look_8 ?_
  refine rdS (As := [.long k.toInt64, .long 1, .long 2]) (rest := []) (st1 := [.int (f_X4_in k.toInt64 1 2)]) (k_X4_in l D (tysW cI cJ cZ) k.toInt64 1 2) (si_X4_69 ht ⟨Nat.le_of_ble_eq_true rfl, Nat.le_of_ble_eq_true rfl⟩) hx hb hml hown (hE.since hS) pNil hK rfl hl.1 rfl (Nat.le_of_ble_eq_true rfl) ⟨Nat.zero_le _, Nat.zero_le _⟩ dX4_look_11 rfl ?_
  refine lv_if_ne (tgt := 20) hx hb dX4_look_14 (by decide) (fun c_1 => ?_) (fun c_1 => ?_)
  · skip
    refine lv_aload_n hx hb dX4_look_20 rfl (lv_at hl 0 rfl) ?_
    refine lv_iload_n hx hb dX4_look_21 rfl (lv_at hl 1 rfl) ?_
    refine va_put (D := D) (ci := 5) (v := .int k) (ty := .int) (C := RX4) (T := TX4) (N := 23) hx hb (lyX4 ht) (fun _ h9 => h9) tyX4 tyX4_ok nmX4 hown hK hP hD hS 0 rfl rfl 6 (by decide) (fl_X4_13 ht) (fun _ h9 => h9) rfl (by decide +kernel) rfl rfl (Nat.le_of_ble_eq_true rfl) dX4_look_22 (fun H locs hP hD hS => ?_)
    have hP : va_P D vwCl (wM cI cJ cZ a 0 rg bu pn pl ja k nk bl bs bk be al tp st mx my kd ky gx gy gu gv) H := hP
    have hD : va_D A (wM cI cJ cZ a 0 rg bu pn pl ja k nk bl bs bk be al tp st mx my kd ky gx gy gu gv) := hD
    refine lv_iconst (v := 1) hx hb dX4_look_25 (by decide) ?_
    exact wr_i hx hb hr hlocks hAe hP hD hS dX4_look_26 (⟨by unfold f_X4_look; rw [if_neg c_1], by simp only [f_X4_look_fa, f_X4_look_lk, if_neg c_1]⟩)
  · skip
    refine lv_bipush (v := -2) hx hb dX4_look_17 (by decide) ?_
    exact wr_i hx hb hr hlocks hAe hP hD hS dX4_look_19 (⟨by unfold f_X4_look; rw [if_pos c_1], by simp only [f_X4_look_fa, f_X4_look_lk, if_pos c_1]⟩)
def f_X4_note_bl (k : Int32) (u1 : Int64) (bl : Int32) (bs : Int64) : Int32 := if bl < k then k else (if k = bl then (if 0 ≤ (lg_cmp u1 bs) then bl else k) else bl)
def f_X4_note_bs (k : Int32) (u1 : Int64) (bl : Int32) (bs : Int64) : Int64 := if bl < k then u1 else (if k = bl then (if 0 ≤ (lg_cmp u1 bs) then bs else u1) else bs)
def f_X4_note_bk (k : Int32) (u1 : Int64) (j : Int32) (bl : Int32) (bs : Int64) (bk : Int32) : Int32 := if bl < k then j else (if k = bl then (if 0 ≤ (lg_cmp u1 bs) then bk else j) else bk)
def f_X4_note_be (k : Int32) (u1 : Int64) (z : Int32) (bl : Int32) (bs : Int64) (be : Int32) : Int32 := if bl < k then z else (if k = bl then (if 0 ≤ (lg_cmp u1 bs) then be else z) else be)
set_option maxRecDepth 20000 in
set_option maxHeartbeats 4000000 in
theorem k_X4_note (l : Launch) (D : va_G) (cI cJ cZ : ClassId) (a : Nat → Nat) (fa rg bu pn pl ja lk nk bl : Int32) (bs : Int64) (bk be : Int32) (al tp st mx my kd ky : Nat → Int32) (gx gy gu gv : Nat → Int64) (k : Int32) (u1 : Int64) (j : Int32) (z : Int32) : WR l yX4_note cX4_note 6 none 0 0 0 D (tysW cI cJ cZ) (wM cI cJ cZ a fa rg bu pn pl ja lk nk bl bs bk be al tp st mx my kd ky gx gy gu gv) [.ref (a 0), .int k, .long u1, .int j, .int z] (fun ov w' => ov = none ∧ w' = wM cI cJ cZ a fa rg bu pn pl ja lk nk (f_X4_note_bl k u1 bl bs) (f_X4_note_bs k u1 bl bs) (f_X4_note_bk k u1 j bl bs bk) (f_X4_note_be k u1 z bl bs be) al tp st mx my kd ky gx gy gu gv) := by
  refine WR.of (by decide) ?_
  intro p e s m below meth c A hadm hx hb hr hml hown hlocks hname hE hP hK hD hS hA hAe
  have hown : s.vm.findClass RX4 = some m.cls := hown
  have ht : tb_OK s := hE.1
  have hl := lv_entry ([.ref (a 0), .int k, .long u1, .int j, .int z]) (n := 6) (Nat.le_of_ble_eq_true rfl)
  rw [lg_entry_eq]
  generalize (lg_sl ([.ref (a 0), .int k, .long u1, .int j, .int z]) ++ List.replicate (6 - (lg_sl ([.ref (a 0), .int k, .long u1, .int j, .int z])).length) Slot.unset).toArray = ls at hl ⊢
  have hl : lv_has ls 6 [(0, .ref (a 0)), (1, .int k), (2, .long u1), (4, .int j), (5, .int z)] := hl
  refine lv_iload_n hx hb dX4_note_0 rfl (lv_at hl 1 rfl) ?_
  refine lv_aload_n hx hb dX4_note_1 rfl (lv_at hl 0 rfl) ?_
  refine va_get (D := D) (ci := 5) (v := .int bl) (C := RX4) (T := TX4) (N := 23) hx hb (lyX4 ht) (fun _ h9 => h9) hown hK hP 0 rfl rfl 19 (by decide) (fl_X4_99 ht) (fun _ h9 => h9) rfl dX4_note_2 ?_
  refine lv_icmp_gt (tgt := 25) hx hb dX4_note_5 (by decide) (fun c_1 => ?_) (fun c_1 => ?_)
  · skip
    refine lv_aload_n hx hb dX4_note_25 rfl (lv_at hl 0 rfl) ?_
    refine lv_iload_n hx hb dX4_note_26 rfl (lv_at hl 1 rfl) ?_
    refine va_put (D := D) (ci := 5) (v := .int k) (ty := .int) (C := RX4) (T := TX4) (N := 23) hx hb (lyX4 ht) (fun _ h9 => h9) tyX4 tyX4_ok nmX4 hown hK hP hD hS 0 rfl rfl 19 (by decide) (fl_X4_99 ht) (fun _ h9 => h9) rfl (by decide +kernel) rfl rfl (Nat.le_of_ble_eq_true rfl) dX4_note_27 (fun H locs hP hD hS => ?_)
    have hP : va_P D vwCl (wM cI cJ cZ a fa rg bu pn pl ja lk nk k bs bk be al tp st mx my kd ky gx gy gu gv) H := hP
    have hD : va_D A (wM cI cJ cZ a fa rg bu pn pl ja lk nk k bs bk be al tp st mx my kd ky gx gy gu gv) := hD
    refine lv_aload_n hx hb dX4_note_30 rfl (lv_at hl 0 rfl) ?_
    refine lv_lload_n hx hb dX4_note_31 rfl (lv_at hl 2 rfl) ?_
    refine va_put (D := D) (ci := 5) (v := .long u1) (ty := .long) (C := RX4) (T := TX4) (N := 23) hx hb (lyX4 ht) (fun _ h9 => h9) tyX4 tyX4_ok nmX4 hown hK hP hD hS 0 rfl rfl 20 (by decide) (fl_X4_102 ht) (fun _ h9 => h9) rfl (by decide +kernel) rfl rfl (Nat.le_of_ble_eq_true rfl) dX4_note_32 (fun H locs hP hD hS => ?_)
    have hP : va_P D vwCl (wM cI cJ cZ a fa rg bu pn pl ja lk nk k u1 bk be al tp st mx my kd ky gx gy gu gv) H := hP
    have hD : va_D A (wM cI cJ cZ a fa rg bu pn pl ja lk nk k u1 bk be al tp st mx my kd ky gx gy gu gv) := hD
    refine lv_aload_n hx hb dX4_note_35 rfl (lv_at hl 0 rfl) ?_
    refine lv_iload hx hb dX4_note_36 (lv_at hl 3 rfl) ?_
    refine va_put (D := D) (ci := 5) (v := .int j) (ty := .int) (C := RX4) (T := TX4) (N := 23) hx hb (lyX4 ht) (fun _ h9 => h9) tyX4 tyX4_ok nmX4 hown hK hP hD hS 0 rfl rfl 21 (by decide) (fl_X4_106 ht) (fun _ h9 => h9) rfl (by decide +kernel) rfl rfl (Nat.le_of_ble_eq_true rfl) dX4_note_38 (fun H locs hP hD hS => ?_)
    have hP : va_P D vwCl (wM cI cJ cZ a fa rg bu pn pl ja lk nk k u1 j be al tp st mx my kd ky gx gy gu gv) H := hP
    have hD : va_D A (wM cI cJ cZ a fa rg bu pn pl ja lk nk k u1 j be al tp st mx my kd ky gx gy gu gv) := hD
    refine lv_aload_n hx hb dX4_note_41 rfl (lv_at hl 0 rfl) ?_
    refine lv_iload hx hb dX4_note_42 (lv_at hl 4 rfl) ?_
    refine va_put (D := D) (ci := 5) (v := .int z) (ty := .int) (C := RX4) (T := TX4) (N := 23) hx hb (lyX4 ht) (fun _ h9 => h9) tyX4 tyX4_ok nmX4 hown hK hP hD hS 0 rfl rfl 22 (by decide) (fl_X4_109 ht) (fun _ h9 => h9) rfl (by decide +kernel) rfl rfl (Nat.le_of_ble_eq_true rfl) dX4_note_44 (fun H locs hP hD hS => ?_)
    have hP : va_P D vwCl (wM cI cJ cZ a fa rg bu pn pl ja lk nk k u1 j z al tp st mx my kd ky gx gy gu gv) H := hP
    have hD : va_D A (wM cI cJ cZ a fa rg bu pn pl ja lk nk k u1 j z al tp st mx my kd ky gx gy gu gv) := hD
    exact wr_v hx hb hr hlocks hAe hP hD hS dX4_note_47 (⟨rfl, by simp only [f_X4_note_bl, f_X4_note_bs, f_X4_note_bk, f_X4_note_be, if_pos c_1]⟩)
  · skip
    refine lv_iload_n hx hb dX4_note_8 rfl (lv_at hl 1 rfl) ?_
    refine lv_aload_n hx hb dX4_note_9 rfl (lv_at hl 0 rfl) ?_
    refine va_get (D := D) (ci := 5) (v := .int bl) (C := RX4) (T := TX4) (N := 23) hx hb (lyX4 ht) (fun _ h9 => h9) hown hK hP 0 rfl rfl 19 (by decide) (fl_X4_99 ht) (fun _ h9 => h9) rfl dX4_note_10 ?_
    refine lv_icmp_ne (tgt := 47) hx hb dX4_note_13 (by decide) (fun c_2 => ?_) (fun c_2 => ?_)
    · skip
      exact wr_v hx hb hr hlocks hAe hP hD hS dX4_note_47 (⟨rfl, by simp only [f_X4_note_bl, f_X4_note_bs, f_X4_note_bk, f_X4_note_be, if_neg c_1, if_neg c_2]⟩)
    · skip
      refine lv_lload_n hx hb dX4_note_16 rfl (lv_at hl 2 rfl) ?_
      refine lv_aload_n hx hb dX4_note_17 rfl (lv_at hl 0 rfl) ?_
      refine va_get (D := D) (ci := 5) (v := .long bs) (C := RX4) (T := TX4) (N := 23) hx hb (lyX4 ht) (fun _ h9 => h9) hown hK hP 0 rfl rfl 20 (by decide) (fl_X4_102 ht) (fun _ h9 => h9) rfl dX4_note_18 ?_
      refine W.lcmp hx hb dX4_note_21 ?_
      refine lv_if_ge (tgt := 47) hx hb dX4_note_22 (by decide) (fun c_3 => ?_) (fun c_3 => ?_)
      · skip
        exact wr_v hx hb hr hlocks hAe hP hD hS dX4_note_47 (⟨rfl, by simp only [f_X4_note_bl, f_X4_note_bs, f_X4_note_bk, f_X4_note_be, if_neg c_1, if_pos c_2, if_pos c_3]⟩)
      · skip
        refine lv_aload_n hx hb dX4_note_25 rfl (lv_at hl 0 rfl) ?_
        refine lv_iload_n hx hb dX4_note_26 rfl (lv_at hl 1 rfl) ?_
        refine va_put (D := D) (ci := 5) (v := .int k) (ty := .int) (C := RX4) (T := TX4) (N := 23) hx hb (lyX4 ht) (fun _ h9 => h9) tyX4 tyX4_ok nmX4 hown hK hP hD hS 0 rfl rfl 19 (by decide) (fl_X4_99 ht) (fun _ h9 => h9) rfl (by decide +kernel) rfl rfl (Nat.le_of_ble_eq_true rfl) dX4_note_27 (fun H locs hP hD hS => ?_)
        have hP : va_P D vwCl (wM cI cJ cZ a fa rg bu pn pl ja lk nk k bs bk be al tp st mx my kd ky gx gy gu gv) H := hP
        have hD : va_D A (wM cI cJ cZ a fa rg bu pn pl ja lk nk k bs bk be al tp st mx my kd ky gx gy gu gv) := hD
        refine lv_aload_n hx hb dX4_note_30 rfl (lv_at hl 0 rfl) ?_
        refine lv_lload_n hx hb dX4_note_31 rfl (lv_at hl 2 rfl) ?_
        refine va_put (D := D) (ci := 5) (v := .long u1) (ty := .long) (C := RX4) (T := TX4) (N := 23) hx hb (lyX4 ht) (fun _ h9 => h9) tyX4 tyX4_ok nmX4 hown hK hP hD hS 0 rfl rfl 20 (by decide) (fl_X4_102 ht) (fun _ h9 => h9) rfl (by decide +kernel) rfl rfl (Nat.le_of_ble_eq_true rfl) dX4_note_32 (fun H locs hP hD hS => ?_)
        have hP : va_P D vwCl (wM cI cJ cZ a fa rg bu pn pl ja lk nk k u1 bk be al tp st mx my kd ky gx gy gu gv) H := hP
        have hD : va_D A (wM cI cJ cZ a fa rg bu pn pl ja lk nk k u1 bk be al tp st mx my kd ky gx gy gu gv) := hD
        refine lv_aload_n hx hb dX4_note_35 rfl (lv_at hl 0 rfl) ?_
        refine lv_iload hx hb dX4_note_36 (lv_at hl 3 rfl) ?_
        refine va_put (D := D) (ci := 5) (v := .int j) (ty := .int) (C := RX4) (T := TX4) (N := 23) hx hb (lyX4 ht) (fun _ h9 => h9) tyX4 tyX4_ok nmX4 hown hK hP hD hS 0 rfl rfl 21 (by decide) (fl_X4_106 ht) (fun _ h9 => h9) rfl (by decide +kernel) rfl rfl (Nat.le_of_ble_eq_true rfl) dX4_note_38 (fun H locs hP hD hS => ?_)
        have hP : va_P D vwCl (wM cI cJ cZ a fa rg bu pn pl ja lk nk k u1 j be al tp st mx my kd ky gx gy gu gv) H := hP
        have hD : va_D A (wM cI cJ cZ a fa rg bu pn pl ja lk nk k u1 j be al tp st mx my kd ky gx gy gu gv) := hD
        refine lv_aload_n hx hb dX4_note_41 rfl (lv_at hl 0 rfl) ?_
        refine lv_iload hx hb dX4_note_42 (lv_at hl 4 rfl) ?_
        refine va_put (D := D) (ci := 5) (v := .int z) (ty := .int) (C := RX4) (T := TX4) (N := 23) hx hb (lyX4 ht) (fun _ h9 => h9) tyX4 tyX4_ok nmX4 hown hK hP hD hS 0 rfl rfl 22 (by decide) (fl_X4_109 ht) (fun _ h9 => h9) rfl (by decide +kernel) rfl rfl (Nat.le_of_ble_eq_true rfl) dX4_note_44 (fun H locs hP hD hS => ?_)
        have hP : va_P D vwCl (wM cI cJ cZ a fa rg bu pn pl ja lk nk k u1 j z al tp st mx my kd ky gx gy gu gv) H := hP
        have hD : va_D A (wM cI cJ cZ a fa rg bu pn pl ja lk nk k u1 j z al tp st mx my kd ky gx gy gu gv) := hD
        exact wr_v hx hb hr hlocks hAe hP hD hS dX4_note_47 (⟨rfl, by simp only [f_X4_note_bl, f_X4_note_bs, f_X4_note_bk, f_X4_note_be, if_neg c_1, if_pos c_2, if_neg c_3]⟩)
def f_X4_build (k : Int32) (bu : Int32) (pn : Int32) : Int32 := if 1 ≤ k then (if k ≤ pn then (bu + k) else -3) else -2
def f_X4_build_fa (k : Int32) (pn : Int32) : Int32 := if 1 ≤ k then (if k ≤ pn then 0 else 0) else 0
def f_X4_build_bu (k : Int32) (bu : Int32) (pn : Int32) : Int32 := if 1 ≤ k then (if k ≤ pn then (bu + k) else bu) else bu
def f_X4_build_pn (k : Int32) (pn : Int32) : Int32 := if 1 ≤ k then (if k ≤ pn then (pn - k) else pn) else pn
set_option maxRecDepth 20000 in
set_option maxHeartbeats 4000000 in
theorem k_X4_build (l : Launch) (D : va_G) (cI cJ cZ : ClassId) (a : Nat → Nat) (fa rg bu pn pl ja lk nk bl : Int32) (bs : Int64) (bk be : Int32) (al tp st mx my kd ky : Nat → Int32) (gx gy gu gv : Nat → Int64) (k : Int32) : WR l yX4_build cX4_build 2 (some .int) 0 0 0 D (tysW cI cJ cZ) (wM cI cJ cZ a fa rg bu pn pl ja lk nk bl bs bk be al tp st mx my kd ky gx gy gu gv) [.ref (a 0), .int k] (fun ov w' => ov = some (.int (f_X4_build k bu pn)) ∧ w' = wM cI cJ cZ a (f_X4_build_fa k pn) rg (f_X4_build_bu k bu pn) (f_X4_build_pn k pn) pl ja lk nk bl bs bk be al tp st mx my kd ky gx gy gu gv) := by
  refine WR.of (by decide) ?_
  intro p e s m below meth c A hadm hx hb hr hml hown hlocks hname hE hP hK hD hS hA hAe
  have hown : s.vm.findClass RX4 = some m.cls := hown
  have ht : tb_OK s := hE.1
  have hl := lv_entry ([.ref (a 0), .int k]) (n := 2) (Nat.le_of_ble_eq_true rfl)
  rw [lg_entry_eq]
  generalize (lg_sl ([.ref (a 0), .int k]) ++ List.replicate (2 - (lg_sl ([.ref (a 0), .int k])).length) Slot.unset).toArray = ls at hl ⊢
  have hl : lv_has ls 2 [(0, .ref (a 0)), (1, .int k)] := hl
  refine lv_aload_n hx hb dX4_build_0 rfl (lv_at hl 0 rfl) ?_
  refine lv_iconst (v := 0) hx hb dX4_build_1 (by decide) ?_
  refine va_put (D := D) (ci := 5) (v := .int 0) (ty := .int) (C := RX4) (T := TX4) (N := 23) hx hb (lyX4 ht) (fun _ h9 => h9) tyX4 tyX4_ok nmX4 hown hK hP hD hS 0 rfl rfl 0 (by decide) (fl_X4_55 ht) (fun _ h9 => h9) rfl (by decide +kernel) rfl rfl (Nat.le_of_ble_eq_true rfl) dX4_build_2 (fun H locs hP hD hS => ?_)
  have hP : va_P D vwCl (wM cI cJ cZ a 0 rg bu pn pl ja lk nk bl bs bk be al tp st mx my kd ky gx gy gu gv) H := hP
  have hD : va_D A (wM cI cJ cZ a 0 rg bu pn pl ja lk nk bl bs bk be al tp st mx my kd ky gx gy gu gv) := hD
  refine lv_iload_n hx hb dX4_build_5 rfl (lv_at hl 1 rfl) ?_
  refine lv_iconst (v := 1) hx hb dX4_build_6 (by decide) ?_
  refine lv_icmp_ge (tgt := 13) hx hb dX4_build_7 (by decide) (fun c_1 => ?_) (fun c_1 => ?_)
  · skip
    refine lv_iload_n hx hb dX4_build_13 rfl (lv_at hl 1 rfl) ?_
    refine lv_aload_n hx hb dX4_build_14 rfl (lv_at hl 0 rfl) ?_
    refine va_get (D := D) (ci := 5) (v := .int pn) (C := RX4) (T := TX4) (N := 23) hx hb (lyX4 ht) (fun _ h9 => h9) hown hK hP 0 rfl rfl 3 (by decide) (fl_X4_64 ht) (fun _ h9 => h9) rfl dX4_build_15 ?_
    refine lv_icmp_le (tgt := 24) hx hb dX4_build_18 (by decide) (fun c_2 => ?_) (fun c_2 => ?_)
    · skip
      refine lv_aload_n hx hb dX4_build_24 rfl (lv_at hl 0 rfl) ?_
      refine lv_dup hx hb dX4_build_25 rfl ?_
      refine va_get (D := D) (ci := 5) (v := .int bu) (C := RX4) (T := TX4) (N := 23) hx hb (lyX4 ht) (fun _ h9 => h9) hown hK hP 0 rfl rfl 2 (by decide) (fl_X4_61 ht) (fun _ h9 => h9) rfl dX4_build_26 ?_
      refine lv_iload_n hx hb dX4_build_29 rfl (lv_at hl 1 rfl) ?_
      refine lv_iadd hx hb dX4_build_30 ?_
      refine va_put (D := D) (ci := 5) (v := .int (bu + k)) (ty := .int) (C := RX4) (T := TX4) (N := 23) hx hb (lyX4 ht) (fun _ h9 => h9) tyX4 tyX4_ok nmX4 hown hK hP hD hS 0 rfl rfl 2 (by decide) (fl_X4_61 ht) (fun _ h9 => h9) rfl (by decide +kernel) rfl rfl (Nat.le_of_ble_eq_true rfl) dX4_build_31 (fun H locs hP hD hS => ?_)
      have hP : va_P D vwCl (wM cI cJ cZ a 0 rg (bu + k) pn pl ja lk nk bl bs bk be al tp st mx my kd ky gx gy gu gv) H := hP
      have hD : va_D A (wM cI cJ cZ a 0 rg (bu + k) pn pl ja lk nk bl bs bk be al tp st mx my kd ky gx gy gu gv) := hD
      refine lv_aload_n hx hb dX4_build_34 rfl (lv_at hl 0 rfl) ?_
      refine lv_dup hx hb dX4_build_35 rfl ?_
      refine va_get (D := D) (ci := 5) (v := .int pn) (C := RX4) (T := TX4) (N := 23) hx hb (lyX4 ht) (fun _ h9 => h9) hown hK hP 0 rfl rfl 3 (by decide) (fl_X4_64 ht) (fun _ h9 => h9) rfl dX4_build_36 ?_
      refine lv_iload_n hx hb dX4_build_39 rfl (lv_at hl 1 rfl) ?_
      refine lv_isub hx hb dX4_build_40 ?_
      refine va_put (D := D) (ci := 5) (v := .int (pn - k)) (ty := .int) (C := RX4) (T := TX4) (N := 23) hx hb (lyX4 ht) (fun _ h9 => h9) tyX4 tyX4_ok nmX4 hown hK hP hD hS 0 rfl rfl 3 (by decide) (fl_X4_64 ht) (fun _ h9 => h9) rfl (by decide +kernel) rfl rfl (Nat.le_of_ble_eq_true rfl) dX4_build_41 (fun H locs hP hD hS => ?_)
      have hP : va_P D vwCl (wM cI cJ cZ a 0 rg (bu + k) (pn - k) pl ja lk nk bl bs bk be al tp st mx my kd ky gx gy gu gv) H := hP
      have hD : va_D A (wM cI cJ cZ a 0 rg (bu + k) (pn - k) pl ja lk nk bl bs bk be al tp st mx my kd ky gx gy gu gv) := hD
      refine lv_aload_n hx hb dX4_build_44 rfl (lv_at hl 0 rfl) ?_
      refine va_get (D := D) (ci := 5) (v := .int (bu + k)) (C := RX4) (T := TX4) (N := 23) hx hb (lyX4 ht) (fun _ h9 => h9) hown hK hP 0 rfl rfl 2 (by decide) (fl_X4_61 ht) (fun _ h9 => h9) rfl dX4_build_45 ?_
      exact wr_i hx hb hr hlocks hAe hP hD hS dX4_build_48 (⟨by unfold f_X4_build; rw [if_pos c_1, if_pos c_2], by simp only [f_X4_build_fa, f_X4_build_bu, f_X4_build_pn, if_pos c_1, if_pos c_2]⟩)
    · skip
      refine lv_bipush (v := -3) hx hb dX4_build_21 (by decide) ?_
      exact wr_i hx hb hr hlocks hAe hP hD hS dX4_build_23 (⟨by unfold f_X4_build; rw [if_pos c_1, if_neg c_2], by simp only [f_X4_build_fa, f_X4_build_bu, f_X4_build_pn, if_pos c_1, if_neg c_2]⟩)
  · skip
    refine lv_bipush (v := -2) hx hb dX4_build_10 (by decide) ?_
    exact wr_i hx hb hr hlocks hAe hP hD hS dX4_build_12 (⟨by unfold f_X4_build; rw [if_neg c_1], by simp only [f_X4_build_fa, f_X4_build_bu, f_X4_build_pn, if_neg c_1]⟩)
def f_X4_set_kd (r : Int32) (k : Int32) (kd : Nat → Int32) : Nat → Int32 := if r = 0 then (upd kd r.toNatClampNeg k) else (upd kd r.toNatClampNeg k)
def f_X4_set_ky (r : Int32) (z : Int32) (ky : Nat → Int32) : Nat → Int32 := if r = 0 then (upd ky r.toNatClampNeg z) else (upd ky r.toNatClampNeg z)
def f_X4_set_gx (r : Int32) (k : Int32) (z : Int32) (tp : Nat → Int32) (gx : Nat → Int64) (gu : Nat → Int64) : Nat → Int64 := if r = 0 then (vp_updL gx r.toNatClampNeg ((0 + 0) + ((vp_updL gu r.toNatClampNeg (0 + (((tp k.toNatClampNeg) * (f_X4_c z)).toInt64))) r.toNatClampNeg))) else (vp_updL gx r.toNatClampNeg (((gx (r - 1).toNatClampNeg) + (gu (r - 1).toNatClampNeg)) + ((vp_updL gu r.toNatClampNeg ((gu (r - 1).toNatClampNeg) + (((tp k.toNatClampNeg) * (f_X4_c z)).toInt64))) r.toNatClampNeg)))
def f_X4_set_gy (r : Int32) (k : Int32) (z : Int32) (tp : Nat → Int32) (gy : Nat → Int64) (gv : Nat → Int64) : Nat → Int64 := if r = 0 then (vp_updL gy r.toNatClampNeg ((0 + 0) + ((vp_updL gv r.toNatClampNeg (0 + (((tp k.toNatClampNeg) * (f_X4_c (z - 4))).toInt64))) r.toNatClampNeg))) else (vp_updL gy r.toNatClampNeg (((gy (r - 1).toNatClampNeg) + (gv (r - 1).toNatClampNeg)) + ((vp_updL gv r.toNatClampNeg ((gv (r - 1).toNatClampNeg) + (((tp k.toNatClampNeg) * (f_X4_c (z - 4))).toInt64))) r.toNatClampNeg)))
def f_X4_set_gu (r : Int32) (k : Int32) (z : Int32) (tp : Nat → Int32) (gu : Nat → Int64) : Nat → Int64 := if r = 0 then (vp_updL gu r.toNatClampNeg (0 + (((tp k.toNatClampNeg) * (f_X4_c z)).toInt64))) else (vp_updL gu r.toNatClampNeg ((gu (r - 1).toNatClampNeg) + (((tp k.toNatClampNeg) * (f_X4_c z)).toInt64)))
def f_X4_set_gv (r : Int32) (k : Int32) (z : Int32) (tp : Nat → Int32) (gv : Nat → Int64) : Nat → Int64 := if r = 0 then (vp_updL gv r.toNatClampNeg (0 + (((tp k.toNatClampNeg) * (f_X4_c (z - 4))).toInt64))) else (vp_updL gv r.toNatClampNeg ((gv (r - 1).toNatClampNeg) + (((tp k.toNatClampNeg) * (f_X4_c (z - 4))).toInt64)))
set_option maxRecDepth 20000 in
set_option maxHeartbeats 4000000 in
theorem k_X4_set (l : Launch) (D : va_G) (cI cJ cZ : ClassId) (a : Nat → Nat) (fa rg bu pn pl ja lk nk bl : Int32) (bs : Int64) (bk be : Int32) (al tp st mx my kd ky : Nat → Int32) (gx gy gu gv : Nat → Int64) (r : Int32) (k : Int32) (z : Int32) (h0 : vp_in r 24) (h1 : ¬ r = 0 → vp_in (r - 1) 24) (h2 : vp_in k 4) : WR l yX4_set cX4_set 8 none 1 0 0 D (tysW cI cJ cZ) (wM cI cJ cZ a fa rg bu pn pl ja lk nk bl bs bk be al tp st mx my kd ky gx gy gu gv) [.ref (a 0), .int r, .int k, .int z] (fun ov w' => ov = none ∧ w' = wM cI cJ cZ a fa rg bu pn pl ja lk nk bl bs bk be al tp st mx my (f_X4_set_kd r k kd) (f_X4_set_ky r z ky) (f_X4_set_gx r k z tp gx gu) (f_X4_set_gy r k z tp gy gv) (f_X4_set_gu r k z tp gu) (f_X4_set_gv r k z tp gv)) := by
  refine WR.of (by decide) ?_
  intro p e s m below meth c A hadm hx hb hr hml hown hlocks hname hE hP hK hD hS hA hAe
  have hown : s.vm.findClass RX4 = some m.cls := hown
  have ht : tb_OK s := hE.1
  have hl := lv_entry ([.ref (a 0), .int r, .int k, .int z]) (n := 8) (Nat.le_of_ble_eq_true rfl)
  rw [lg_entry_eq]
  generalize (lg_sl ([.ref (a 0), .int r, .int k, .int z]) ++ List.replicate (8 - (lg_sl ([.ref (a 0), .int r, .int k, .int z])).length) Slot.unset).toArray = ls at hl ⊢
  have hl : lv_has ls 8 [(0, .ref (a 0)), (1, .int r), (2, .int k), (3, .int z)] := hl
  refine lv_aload_n hx hb dX4_set_0 rfl (lv_at hl 0 rfl) ?_
  refine va_get (D := D) (ci := 5) (v := .ref (a 6)) (C := RX4) (T := TX4) (N := 23) hx hb (lyX4 ht) (fun _ h9 => h9) hown hK hP 0 rfl rfl 13 (by decide) (fl_X4_33 ht) (fun _ h9 => h9) rfl dX4_set_1 ?_
  refine lv_iload_n hx hb dX4_set_4 rfl (lv_at hl 1 rfl) ?_
  refine lv_iload_n hx hb dX4_set_5 rfl (lv_at hl 2 rfl) ?_
  refine va_iast hx hb hK hP hD hS 6 0 rfl rfl h0 dX4_set_6 (fun H locs hP hD hS => ?_)
  have hP : va_P D vwCl (wM cI cJ cZ a fa rg bu pn pl ja lk nk bl bs bk be al tp st mx my (upd kd r.toNatClampNeg k) ky gx gy gu gv) H := hP
  have hD : va_D A (wM cI cJ cZ a fa rg bu pn pl ja lk nk bl bs bk be al tp st mx my (upd kd r.toNatClampNeg k) ky gx gy gu gv) := hD
  refine lv_aload_n hx hb dX4_set_7 rfl (lv_at hl 0 rfl) ?_
  refine va_get (D := D) (ci := 5) (v := .ref (a 7)) (C := RX4) (T := TX4) (N := 23) hx hb (lyX4 ht) (fun _ h9 => h9) hown hK hP 0 rfl rfl 14 (by decide) (fl_X4_36 ht) (fun _ h9 => h9) rfl dX4_set_8 ?_
  refine lv_iload_n hx hb dX4_set_11 rfl (lv_at hl 1 rfl) ?_
  refine lv_iload_n hx hb dX4_set_12 rfl (lv_at hl 3 rfl) ?_
  refine va_iast hx hb hK hP hD hS 7 0 rfl rfl h0 dX4_set_13 (fun H locs hP hD hS => ?_)
  have hP : va_P D vwCl (wM cI cJ cZ a fa rg bu pn pl ja lk nk bl bs bk be al tp st mx my (upd kd r.toNatClampNeg k) (upd ky r.toNatClampNeg z) gx gy gu gv) H := hP
  have hD : va_D A (wM cI cJ cZ a fa rg bu pn pl ja lk nk bl bs bk be al tp st mx my (upd kd r.toNatClampNeg k) (upd ky r.toNatClampNeg z) gx gy gu gv) := hD
  refine lv_iload_n hx hb dX4_set_14 rfl (lv_at hl 1 rfl) ?_
  refine lv_if_ne (tgt := 22) hx hb dX4_set_15 (by decide) (fun c_1 => ?_) (fun c_1 => ?_)
  · skip
    refine lv_aload_n hx hb dX4_set_22 rfl (lv_at hl 0 rfl) ?_
    refine va_get (D := D) (ci := 5) (v := .ref (a 10)) (C := RX4) (T := TX4) (N := 23) hx hb (lyX4 ht) (fun _ h9 => h9) hown hK hP 0 rfl rfl 17 (by decide) (fl_X4_46 ht) (fun _ h9 => h9) rfl dX4_set_23 ?_
    refine lv_iload_n hx hb dX4_set_26 rfl (lv_at hl 1 rfl) ?_
    refine lv_iconst (v := 1) hx hb dX4_set_27 (by decide) ?_
    refine lv_isub hx hb dX4_set_28 ?_
    refine va_lald hx hb hK hP 10 1 rfl rfl (h1 c_1) dX4_set_29 ?_
    refine lv_lstore (lv' := [(4, .long (gu (r - 1).toNatClampNeg)), (0, .ref (a 0)), (1, .int r), (2, .int k), (3, .int z)]) hx hb dX4_set_30 hl (by decide) rfl (fun ls hl => ?_)
    refine lv_iload_n hx hb dX4_set_32 rfl (lv_at hl 2 rfl) ?_
    refine lv_if_ne (tgt := 40) hx hb dX4_set_33 (by decide) (fun _ => ?_) (fun c_2 => absurd c_2 c_1)
    refine lv_aload_n hx hb dX4_set_40 rfl (lv_at hl 1 rfl) ?_
    refine va_get (D := D) (ci := 5) (v := .ref (a 11)) (C := RX4) (T := TX4) (N := 23) hx hb (lyX4 ht) (fun _ h9 => h9) hown hK hP 0 rfl rfl 18 (by decide) (fl_X4_49 ht) (fun _ h9 => h9) rfl dX4_set_41 ?_
    refine lv_iload_n hx hb dX4_set_44 rfl (lv_at hl 2 rfl) ?_
    refine lv_iconst (v := 1) hx hb dX4_set_45 (by decide) ?_
    refine lv_isub hx hb dX4_set_46 ?_
    refine va_lald hx hb hK hP 11 1 rfl rfl (h1 c_1) dX4_set_47 ?_
    refine lv_lstore (lv' := [(6, .long (gv (r - 1).toNatClampNeg)), (4, .long (gu (r - 1).toNatClampNeg)), (0, .ref (a 0)), (1, .int r), (2, .int k), (3, .int z)]) hx hb dX4_set_48 hl (by decide) rfl (fun ls hl => ?_)
    refine lv_aload_n hx hb dX4_set_50 rfl (lv_at hl 2 rfl) ?_
    refine va_get (D := D) (ci := 5) (v := .ref (a 10)) (C := RX4) (T := TX4) (N := 23) hx hb (lyX4 ht) (fun _ h9 => h9) hown hK hP 0 rfl rfl 17 (by decide) (fl_X4_46 ht) (fun _ h9 => h9) rfl dX4_set_51 ?_
    refine lv_iload_n hx hb dX4_set_54 rfl (lv_at hl 3 rfl) ?_
    refine lv_lload hx hb dX4_set_55 (lv_at hl 1 rfl) ?_
    refine lv_aload_n hx hb dX4_set_57 rfl (lv_at hl 2 rfl) ?_
    refine va_get (D := D) (ci := 5) (v := .ref (a 2)) (C := RX4) (T := TX4) (N := 23) hx hb (lyX4 ht) (fun _ h9 => h9) hown hK hP 0 rfl rfl 9 (by decide) (fl_X4_20 ht) (fun _ h9 => h9) rfl dX4_set_58 ?_
    refine lv_iload_n hx hb dX4_set_61 rfl (lv_at hl 4 rfl) ?_
    refine va_iald hx hb hK hP 2 0 rfl rfl h2 dX4_set_62 ?_
    refine lv_iload_n hx hb dX4_set_63 rfl (lv_at hl 5 rfl) ?_
    refine rdS (As := [.int z]) (rest := [.int (tp k.toNatClampNeg), .long (gu (r - 1).toNatClampNeg), .int r, .ref (a 10)]) (st1 := [.int (f_X4_c z), .int (tp k.toNatClampNeg), .long (gu (r - 1).toNatClampNeg), .int r, .ref (a 10)]) (k_X4_c l D (tysW cI cJ cZ) z) (si_X4_92 ht ⟨Nat.le_of_ble_eq_true rfl, Nat.le_of_ble_eq_true rfl⟩) hx hb hml hown (hE.since hS) pNil hK rfl hl.1 rfl (Nat.le_of_ble_eq_true rfl) ⟨Nat.zero_le _, Nat.zero_le _⟩ dX4_set_64 rfl ?_
    refine lv_imul hx hb dX4_set_67 ?_
    refine lv_i2l (v := ((tp k.toNatClampNeg) * (f_X4_c z)).toInt64) hx hb dX4_set_68 rfl ?_
    refine lv_ladd hx hb dX4_set_69 ?_
    refine va_last hx hb hK hP hD hS 10 1 rfl rfl h0 dX4_set_70 (fun H locs hP hD hS => ?_)
    have hP : va_P D vwCl (wM cI cJ cZ a fa rg bu pn pl ja lk nk bl bs bk be al tp st mx my (upd kd r.toNatClampNeg k) (upd ky r.toNatClampNeg z) gx gy (vp_updL gu r.toNatClampNeg ((gu (r - 1).toNatClampNeg) + (((tp k.toNatClampNeg) * (f_X4_c z)).toInt64))) gv) H := hP
    have hD : va_D A (wM cI cJ cZ a fa rg bu pn pl ja lk nk bl bs bk be al tp st mx my (upd kd r.toNatClampNeg k) (upd ky r.toNatClampNeg z) gx gy (vp_updL gu r.toNatClampNeg ((gu (r - 1).toNatClampNeg) + (((tp k.toNatClampNeg) * (f_X4_c z)).toInt64))) gv) := hD
    refine lv_aload_n hx hb dX4_set_71 rfl (lv_at hl 2 rfl) ?_
    refine va_get (D := D) (ci := 5) (v := .ref (a 11)) (C := RX4) (T := TX4) (N := 23) hx hb (lyX4 ht) (fun _ h9 => h9) hown hK hP 0 rfl rfl 18 (by decide) (fl_X4_49 ht) (fun _ h9 => h9) rfl dX4_set_72 ?_
    refine lv_iload_n hx hb dX4_set_75 rfl (lv_at hl 3 rfl) ?_
    refine lv_lload hx hb dX4_set_76 (lv_at hl 0 rfl) ?_
    refine lv_aload_n hx hb dX4_set_78 rfl (lv_at hl 2 rfl) ?_
    refine va_get (D := D) (ci := 5) (v := .ref (a 2)) (C := RX4) (T := TX4) (N := 23) hx hb (lyX4 ht) (fun _ h9 => h9) hown hK hP 0 rfl rfl 9 (by decide) (fl_X4_20 ht) (fun _ h9 => h9) rfl dX4_set_79 ?_
    refine lv_iload_n hx hb dX4_set_82 rfl (lv_at hl 4 rfl) ?_
    refine va_iald hx hb hK hP 2 0 rfl rfl h2 dX4_set_83 ?_
    refine lv_iload_n hx hb dX4_set_84 rfl (lv_at hl 5 rfl) ?_
    refine lv_iconst (v := 4) hx hb dX4_set_85 (by decide) ?_
    refine lv_isub hx hb dX4_set_86 ?_
    refine rdS (As := [.int (z - 4)]) (rest := [.int (tp k.toNatClampNeg), .long (gv (r - 1).toNatClampNeg), .int r, .ref (a 11)]) (st1 := [.int (f_X4_c (z - 4)), .int (tp k.toNatClampNeg), .long (gv (r - 1).toNatClampNeg), .int r, .ref (a 11)]) (k_X4_c l D (tysW cI cJ cZ) (z - 4)) (si_X4_92 ht ⟨Nat.le_of_ble_eq_true rfl, Nat.le_of_ble_eq_true rfl⟩) hx hb hml hown (hE.since hS) pNil hK rfl hl.1 rfl (Nat.le_of_ble_eq_true rfl) ⟨Nat.zero_le _, Nat.zero_le _⟩ dX4_set_87 rfl ?_
    refine lv_imul hx hb dX4_set_90 ?_
    refine lv_i2l (v := ((tp k.toNatClampNeg) * (f_X4_c (z - 4))).toInt64) hx hb dX4_set_91 rfl ?_
    refine lv_ladd hx hb dX4_set_92 ?_
    refine va_last hx hb hK hP hD hS 11 1 rfl rfl h0 dX4_set_93 (fun H locs hP hD hS => ?_)
    have hP : va_P D vwCl (wM cI cJ cZ a fa rg bu pn pl ja lk nk bl bs bk be al tp st mx my (upd kd r.toNatClampNeg k) (upd ky r.toNatClampNeg z) gx gy (vp_updL gu r.toNatClampNeg ((gu (r - 1).toNatClampNeg) + (((tp k.toNatClampNeg) * (f_X4_c z)).toInt64))) (vp_updL gv r.toNatClampNeg ((gv (r - 1).toNatClampNeg) + (((tp k.toNatClampNeg) * (f_X4_c (z - 4))).toInt64)))) H := hP
    have hD : va_D A (wM cI cJ cZ a fa rg bu pn pl ja lk nk bl bs bk be al tp st mx my (upd kd r.toNatClampNeg k) (upd ky r.toNatClampNeg z) gx gy (vp_updL gu r.toNatClampNeg ((gu (r - 1).toNatClampNeg) + (((tp k.toNatClampNeg) * (f_X4_c z)).toInt64))) (vp_updL gv r.toNatClampNeg ((gv (r - 1).toNatClampNeg) + (((tp k.toNatClampNeg) * (f_X4_c (z - 4))).toInt64)))) := hD
    refine lv_aload_n hx hb dX4_set_94 rfl (lv_at hl 2 rfl) ?_
    refine va_get (D := D) (ci := 5) (v := .ref (a 8)) (C := RX4) (T := TX4) (N := 23) hx hb (lyX4 ht) (fun _ h9 => h9) hown hK hP 0 rfl rfl 15 (by decide) (fl_X4_39 ht) (fun _ h9 => h9) rfl dX4_set_95 ?_
    refine lv_iload_n hx hb dX4_set_98 rfl (lv_at hl 3 rfl) ?_
    refine lv_iload_n hx hb dX4_set_99 rfl (lv_at hl 3 rfl) ?_
    refine lv_if_ne (tgt := 107) hx hb dX4_set_100 (by decide) (fun _ => ?_) (fun c_3 => absurd c_3 c_1)
    refine lv_aload_n hx hb dX4_set_107 rfl (lv_at hl 2 rfl) ?_
    refine va_get (D := D) (ci := 5) (v := .ref (a 8)) (C := RX4) (T := TX4) (N := 23) hx hb (lyX4 ht) (fun _ h9 => h9) hown hK hP 0 rfl rfl 15 (by decide) (fl_X4_39 ht) (fun _ h9 => h9) rfl dX4_set_108 ?_
    refine lv_iload_n hx hb dX4_set_111 rfl (lv_at hl 3 rfl) ?_
    refine lv_iconst (v := 1) hx hb dX4_set_112 (by decide) ?_
    refine lv_isub hx hb dX4_set_113 ?_
    refine va_lald hx hb hK hP 8 1 rfl rfl (h1 c_1) dX4_set_114 ?_
    refine lv_lload hx hb dX4_set_115 (lv_at hl 1 rfl) ?_
    refine lv_ladd hx hb dX4_set_117 ?_
    refine lv_aload_n hx hb dX4_set_118 rfl (lv_at hl 2 rfl) ?_
    refine va_get (D := D) (ci := 5) (v := .ref (a 10)) (C := RX4) (T := TX4) (N := 23) hx hb (lyX4 ht) (fun _ h9 => h9) hown hK hP 0 rfl rfl 17 (by decide) (fl_X4_46 ht) (fun _ h9 => h9) rfl dX4_set_119 ?_
    refine lv_iload_n hx hb dX4_set_122 rfl (lv_at hl 3 rfl) ?_
    refine va_lald hx hb hK hP 10 1 rfl rfl h0 dX4_set_123 ?_
    refine lv_ladd hx hb dX4_set_124 ?_
    refine va_last hx hb hK hP hD hS 8 1 rfl rfl h0 dX4_set_125 (fun H locs hP hD hS => ?_)
    have hP : va_P D vwCl (wM cI cJ cZ a fa rg bu pn pl ja lk nk bl bs bk be al tp st mx my (upd kd r.toNatClampNeg k) (upd ky r.toNatClampNeg z) (vp_updL gx r.toNatClampNeg (((gx (r - 1).toNatClampNeg) + (gu (r - 1).toNatClampNeg)) + ((vp_updL gu r.toNatClampNeg ((gu (r - 1).toNatClampNeg) + (((tp k.toNatClampNeg) * (f_X4_c z)).toInt64))) r.toNatClampNeg))) gy (vp_updL gu r.toNatClampNeg ((gu (r - 1).toNatClampNeg) + (((tp k.toNatClampNeg) * (f_X4_c z)).toInt64))) (vp_updL gv r.toNatClampNeg ((gv (r - 1).toNatClampNeg) + (((tp k.toNatClampNeg) * (f_X4_c (z - 4))).toInt64)))) H := hP
    have hD : va_D A (wM cI cJ cZ a fa rg bu pn pl ja lk nk bl bs bk be al tp st mx my (upd kd r.toNatClampNeg k) (upd ky r.toNatClampNeg z) (vp_updL gx r.toNatClampNeg (((gx (r - 1).toNatClampNeg) + (gu (r - 1).toNatClampNeg)) + ((vp_updL gu r.toNatClampNeg ((gu (r - 1).toNatClampNeg) + (((tp k.toNatClampNeg) * (f_X4_c z)).toInt64))) r.toNatClampNeg))) gy (vp_updL gu r.toNatClampNeg ((gu (r - 1).toNatClampNeg) + (((tp k.toNatClampNeg) * (f_X4_c z)).toInt64))) (vp_updL gv r.toNatClampNeg ((gv (r - 1).toNatClampNeg) + (((tp k.toNatClampNeg) * (f_X4_c (z - 4))).toInt64)))) := hD
    refine lv_aload_n hx hb dX4_set_126 rfl (lv_at hl 2 rfl) ?_
    refine va_get (D := D) (ci := 5) (v := .ref (a 9)) (C := RX4) (T := TX4) (N := 23) hx hb (lyX4 ht) (fun _ h9 => h9) hown hK hP 0 rfl rfl 16 (by decide) (fl_X4_43 ht) (fun _ h9 => h9) rfl dX4_set_127 ?_
    refine lv_iload_n hx hb dX4_set_130 rfl (lv_at hl 3 rfl) ?_
    refine lv_iload_n hx hb dX4_set_131 rfl (lv_at hl 3 rfl) ?_
    refine lv_if_ne (tgt := 139) hx hb dX4_set_132 (by decide) (fun _ => ?_) (fun c_4 => absurd c_4 c_1)
    refine lv_aload_n hx hb dX4_set_139 rfl (lv_at hl 2 rfl) ?_
    refine va_get (D := D) (ci := 5) (v := .ref (a 9)) (C := RX4) (T := TX4) (N := 23) hx hb (lyX4 ht) (fun _ h9 => h9) hown hK hP 0 rfl rfl 16 (by decide) (fl_X4_43 ht) (fun _ h9 => h9) rfl dX4_set_140 ?_
    refine lv_iload_n hx hb dX4_set_143 rfl (lv_at hl 3 rfl) ?_
    refine lv_iconst (v := 1) hx hb dX4_set_144 (by decide) ?_
    refine lv_isub hx hb dX4_set_145 ?_
    refine va_lald hx hb hK hP 9 1 rfl rfl (h1 c_1) dX4_set_146 ?_
    refine lv_lload hx hb dX4_set_147 (lv_at hl 0 rfl) ?_
    refine lv_ladd hx hb dX4_set_149 ?_
    refine lv_aload_n hx hb dX4_set_150 rfl (lv_at hl 2 rfl) ?_
    refine va_get (D := D) (ci := 5) (v := .ref (a 11)) (C := RX4) (T := TX4) (N := 23) hx hb (lyX4 ht) (fun _ h9 => h9) hown hK hP 0 rfl rfl 18 (by decide) (fl_X4_49 ht) (fun _ h9 => h9) rfl dX4_set_151 ?_
    refine lv_iload_n hx hb dX4_set_154 rfl (lv_at hl 3 rfl) ?_
    refine va_lald hx hb hK hP 11 1 rfl rfl h0 dX4_set_155 ?_
    refine lv_ladd hx hb dX4_set_156 ?_
    refine va_last hx hb hK hP hD hS 9 1 rfl rfl h0 dX4_set_157 (fun H locs hP hD hS => ?_)
    have hP : va_P D vwCl (wM cI cJ cZ a fa rg bu pn pl ja lk nk bl bs bk be al tp st mx my (upd kd r.toNatClampNeg k) (upd ky r.toNatClampNeg z) (vp_updL gx r.toNatClampNeg (((gx (r - 1).toNatClampNeg) + (gu (r - 1).toNatClampNeg)) + ((vp_updL gu r.toNatClampNeg ((gu (r - 1).toNatClampNeg) + (((tp k.toNatClampNeg) * (f_X4_c z)).toInt64))) r.toNatClampNeg))) (vp_updL gy r.toNatClampNeg (((gy (r - 1).toNatClampNeg) + (gv (r - 1).toNatClampNeg)) + ((vp_updL gv r.toNatClampNeg ((gv (r - 1).toNatClampNeg) + (((tp k.toNatClampNeg) * (f_X4_c (z - 4))).toInt64))) r.toNatClampNeg))) (vp_updL gu r.toNatClampNeg ((gu (r - 1).toNatClampNeg) + (((tp k.toNatClampNeg) * (f_X4_c z)).toInt64))) (vp_updL gv r.toNatClampNeg ((gv (r - 1).toNatClampNeg) + (((tp k.toNatClampNeg) * (f_X4_c (z - 4))).toInt64)))) H := hP
    have hD : va_D A (wM cI cJ cZ a fa rg bu pn pl ja lk nk bl bs bk be al tp st mx my (upd kd r.toNatClampNeg k) (upd ky r.toNatClampNeg z) (vp_updL gx r.toNatClampNeg (((gx (r - 1).toNatClampNeg) + (gu (r - 1).toNatClampNeg)) + ((vp_updL gu r.toNatClampNeg ((gu (r - 1).toNatClampNeg) + (((tp k.toNatClampNeg) * (f_X4_c z)).toInt64))) r.toNatClampNeg))) (vp_updL gy r.toNatClampNeg (((gy (r - 1).toNatClampNeg) + (gv (r - 1).toNatClampNeg)) + ((vp_updL gv r.toNatClampNeg ((gv (r - 1).toNatClampNeg) + (((tp k.toNatClampNeg) * (f_X4_c (z - 4))).toInt64))) r.toNatClampNeg))) (vp_updL gu r.toNatClampNeg ((gu (r - 1).toNatClampNeg) + (((tp k.toNatClampNeg) * (f_X4_c z)).toInt64))) (vp_updL gv r.toNatClampNeg ((gv (r - 1).toNatClampNeg) + (((tp k.toNatClampNeg) * (f_X4_c (z - 4))).toInt64)))) := hD
    exact wr_v hx hb hr hlocks hAe hP hD hS dX4_set_158 (⟨rfl, by simp only [f_X4_set_kd, f_X4_set_ky, f_X4_set_gx, f_X4_set_gy, f_X4_set_gu, f_X4_set_gv, if_neg c_1]⟩)
  · skip
    refine lv_lconst (v := 0) hx hb dX4_set_18 (by decide) ?_
    refine lv_goto (tgt := 30) hx hb dX4_set_19 (by decide) ?_
    refine lv_lstore (lv' := [(4, .long 0), (0, .ref (a 0)), (1, .int r), (2, .int k), (3, .int z)]) hx hb dX4_set_30 hl (by decide) rfl (fun ls hl => ?_)
    refine lv_iload_n hx hb dX4_set_32 rfl (lv_at hl 2 rfl) ?_
    refine lv_if_ne (tgt := 40) hx hb dX4_set_33 (by decide) (fun c_5 => absurd c_1 c_5) (fun _ => ?_)
    refine lv_lconst (v := 0) hx hb dX4_set_36 (by decide) ?_
    refine lv_goto (tgt := 48) hx hb dX4_set_37 (by decide) ?_
    refine lv_lstore (lv' := [(6, .long 0), (4, .long 0), (0, .ref (a 0)), (1, .int r), (2, .int k), (3, .int z)]) hx hb dX4_set_48 hl (by decide) rfl (fun ls hl => ?_)
    refine lv_aload_n hx hb dX4_set_50 rfl (lv_at hl 2 rfl) ?_
    refine va_get (D := D) (ci := 5) (v := .ref (a 10)) (C := RX4) (T := TX4) (N := 23) hx hb (lyX4 ht) (fun _ h9 => h9) hown hK hP 0 rfl rfl 17 (by decide) (fl_X4_46 ht) (fun _ h9 => h9) rfl dX4_set_51 ?_
    refine lv_iload_n hx hb dX4_set_54 rfl (lv_at hl 3 rfl) ?_
    refine lv_lload hx hb dX4_set_55 (lv_at hl 1 rfl) ?_
    refine lv_aload_n hx hb dX4_set_57 rfl (lv_at hl 2 rfl) ?_
    refine va_get (D := D) (ci := 5) (v := .ref (a 2)) (C := RX4) (T := TX4) (N := 23) hx hb (lyX4 ht) (fun _ h9 => h9) hown hK hP 0 rfl rfl 9 (by decide) (fl_X4_20 ht) (fun _ h9 => h9) rfl dX4_set_58 ?_
    refine lv_iload_n hx hb dX4_set_61 rfl (lv_at hl 4 rfl) ?_
    refine va_iald hx hb hK hP 2 0 rfl rfl h2 dX4_set_62 ?_
    refine lv_iload_n hx hb dX4_set_63 rfl (lv_at hl 5 rfl) ?_
    refine rdS (As := [.int z]) (rest := [.int (tp k.toNatClampNeg), .long 0, .int r, .ref (a 10)]) (st1 := [.int (f_X4_c z), .int (tp k.toNatClampNeg), .long 0, .int r, .ref (a 10)]) (k_X4_c l D (tysW cI cJ cZ) z) (si_X4_92 ht ⟨Nat.le_of_ble_eq_true rfl, Nat.le_of_ble_eq_true rfl⟩) hx hb hml hown (hE.since hS) pNil hK rfl hl.1 rfl (Nat.le_of_ble_eq_true rfl) ⟨Nat.zero_le _, Nat.zero_le _⟩ dX4_set_64 rfl ?_
    refine lv_imul hx hb dX4_set_67 ?_
    refine lv_i2l (v := ((tp k.toNatClampNeg) * (f_X4_c z)).toInt64) hx hb dX4_set_68 rfl ?_
    refine lv_ladd hx hb dX4_set_69 ?_
    refine va_last hx hb hK hP hD hS 10 1 rfl rfl h0 dX4_set_70 (fun H locs hP hD hS => ?_)
    have hP : va_P D vwCl (wM cI cJ cZ a fa rg bu pn pl ja lk nk bl bs bk be al tp st mx my (upd kd r.toNatClampNeg k) (upd ky r.toNatClampNeg z) gx gy (vp_updL gu r.toNatClampNeg (0 + (((tp k.toNatClampNeg) * (f_X4_c z)).toInt64))) gv) H := hP
    have hD : va_D A (wM cI cJ cZ a fa rg bu pn pl ja lk nk bl bs bk be al tp st mx my (upd kd r.toNatClampNeg k) (upd ky r.toNatClampNeg z) gx gy (vp_updL gu r.toNatClampNeg (0 + (((tp k.toNatClampNeg) * (f_X4_c z)).toInt64))) gv) := hD
    refine lv_aload_n hx hb dX4_set_71 rfl (lv_at hl 2 rfl) ?_
    refine va_get (D := D) (ci := 5) (v := .ref (a 11)) (C := RX4) (T := TX4) (N := 23) hx hb (lyX4 ht) (fun _ h9 => h9) hown hK hP 0 rfl rfl 18 (by decide) (fl_X4_49 ht) (fun _ h9 => h9) rfl dX4_set_72 ?_
    refine lv_iload_n hx hb dX4_set_75 rfl (lv_at hl 3 rfl) ?_
    refine lv_lload hx hb dX4_set_76 (lv_at hl 0 rfl) ?_
    refine lv_aload_n hx hb dX4_set_78 rfl (lv_at hl 2 rfl) ?_
    refine va_get (D := D) (ci := 5) (v := .ref (a 2)) (C := RX4) (T := TX4) (N := 23) hx hb (lyX4 ht) (fun _ h9 => h9) hown hK hP 0 rfl rfl 9 (by decide) (fl_X4_20 ht) (fun _ h9 => h9) rfl dX4_set_79 ?_
    refine lv_iload_n hx hb dX4_set_82 rfl (lv_at hl 4 rfl) ?_
    refine va_iald hx hb hK hP 2 0 rfl rfl h2 dX4_set_83 ?_
    refine lv_iload_n hx hb dX4_set_84 rfl (lv_at hl 5 rfl) ?_
    refine lv_iconst (v := 4) hx hb dX4_set_85 (by decide) ?_
    refine lv_isub hx hb dX4_set_86 ?_
    refine rdS (As := [.int (z - 4)]) (rest := [.int (tp k.toNatClampNeg), .long 0, .int r, .ref (a 11)]) (st1 := [.int (f_X4_c (z - 4)), .int (tp k.toNatClampNeg), .long 0, .int r, .ref (a 11)]) (k_X4_c l D (tysW cI cJ cZ) (z - 4)) (si_X4_92 ht ⟨Nat.le_of_ble_eq_true rfl, Nat.le_of_ble_eq_true rfl⟩) hx hb hml hown (hE.since hS) pNil hK rfl hl.1 rfl (Nat.le_of_ble_eq_true rfl) ⟨Nat.zero_le _, Nat.zero_le _⟩ dX4_set_87 rfl ?_
    refine lv_imul hx hb dX4_set_90 ?_
    refine lv_i2l (v := ((tp k.toNatClampNeg) * (f_X4_c (z - 4))).toInt64) hx hb dX4_set_91 rfl ?_
    refine lv_ladd hx hb dX4_set_92 ?_
    refine va_last hx hb hK hP hD hS 11 1 rfl rfl h0 dX4_set_93 (fun H locs hP hD hS => ?_)
    have hP : va_P D vwCl (wM cI cJ cZ a fa rg bu pn pl ja lk nk bl bs bk be al tp st mx my (upd kd r.toNatClampNeg k) (upd ky r.toNatClampNeg z) gx gy (vp_updL gu r.toNatClampNeg (0 + (((tp k.toNatClampNeg) * (f_X4_c z)).toInt64))) (vp_updL gv r.toNatClampNeg (0 + (((tp k.toNatClampNeg) * (f_X4_c (z - 4))).toInt64)))) H := hP
    have hD : va_D A (wM cI cJ cZ a fa rg bu pn pl ja lk nk bl bs bk be al tp st mx my (upd kd r.toNatClampNeg k) (upd ky r.toNatClampNeg z) gx gy (vp_updL gu r.toNatClampNeg (0 + (((tp k.toNatClampNeg) * (f_X4_c z)).toInt64))) (vp_updL gv r.toNatClampNeg (0 + (((tp k.toNatClampNeg) * (f_X4_c (z - 4))).toInt64)))) := hD
    refine lv_aload_n hx hb dX4_set_94 rfl (lv_at hl 2 rfl) ?_
    refine va_get (D := D) (ci := 5) (v := .ref (a 8)) (C := RX4) (T := TX4) (N := 23) hx hb (lyX4 ht) (fun _ h9 => h9) hown hK hP 0 rfl rfl 15 (by decide) (fl_X4_39 ht) (fun _ h9 => h9) rfl dX4_set_95 ?_
    refine lv_iload_n hx hb dX4_set_98 rfl (lv_at hl 3 rfl) ?_
    refine lv_iload_n hx hb dX4_set_99 rfl (lv_at hl 3 rfl) ?_
    refine lv_if_ne (tgt := 107) hx hb dX4_set_100 (by decide) (fun c_6 => absurd c_1 c_6) (fun _ => ?_)
    refine lv_lconst (v := 0) hx hb dX4_set_103 (by decide) ?_
    refine lv_goto (tgt := 115) hx hb dX4_set_104 (by decide) ?_
    refine lv_lload hx hb dX4_set_115 (lv_at hl 1 rfl) ?_
    refine lv_ladd hx hb dX4_set_117 ?_
    refine lv_aload_n hx hb dX4_set_118 rfl (lv_at hl 2 rfl) ?_
    refine va_get (D := D) (ci := 5) (v := .ref (a 10)) (C := RX4) (T := TX4) (N := 23) hx hb (lyX4 ht) (fun _ h9 => h9) hown hK hP 0 rfl rfl 17 (by decide) (fl_X4_46 ht) (fun _ h9 => h9) rfl dX4_set_119 ?_
    refine lv_iload_n hx hb dX4_set_122 rfl (lv_at hl 3 rfl) ?_
    refine va_lald hx hb hK hP 10 1 rfl rfl h0 dX4_set_123 ?_
    refine lv_ladd hx hb dX4_set_124 ?_
    refine va_last hx hb hK hP hD hS 8 1 rfl rfl h0 dX4_set_125 (fun H locs hP hD hS => ?_)
    have hP : va_P D vwCl (wM cI cJ cZ a fa rg bu pn pl ja lk nk bl bs bk be al tp st mx my (upd kd r.toNatClampNeg k) (upd ky r.toNatClampNeg z) (vp_updL gx r.toNatClampNeg ((0 + 0) + ((vp_updL gu r.toNatClampNeg (0 + (((tp k.toNatClampNeg) * (f_X4_c z)).toInt64))) r.toNatClampNeg))) gy (vp_updL gu r.toNatClampNeg (0 + (((tp k.toNatClampNeg) * (f_X4_c z)).toInt64))) (vp_updL gv r.toNatClampNeg (0 + (((tp k.toNatClampNeg) * (f_X4_c (z - 4))).toInt64)))) H := hP
    have hD : va_D A (wM cI cJ cZ a fa rg bu pn pl ja lk nk bl bs bk be al tp st mx my (upd kd r.toNatClampNeg k) (upd ky r.toNatClampNeg z) (vp_updL gx r.toNatClampNeg ((0 + 0) + ((vp_updL gu r.toNatClampNeg (0 + (((tp k.toNatClampNeg) * (f_X4_c z)).toInt64))) r.toNatClampNeg))) gy (vp_updL gu r.toNatClampNeg (0 + (((tp k.toNatClampNeg) * (f_X4_c z)).toInt64))) (vp_updL gv r.toNatClampNeg (0 + (((tp k.toNatClampNeg) * (f_X4_c (z - 4))).toInt64)))) := hD
    refine lv_aload_n hx hb dX4_set_126 rfl (lv_at hl 2 rfl) ?_
    refine va_get (D := D) (ci := 5) (v := .ref (a 9)) (C := RX4) (T := TX4) (N := 23) hx hb (lyX4 ht) (fun _ h9 => h9) hown hK hP 0 rfl rfl 16 (by decide) (fl_X4_43 ht) (fun _ h9 => h9) rfl dX4_set_127 ?_
    refine lv_iload_n hx hb dX4_set_130 rfl (lv_at hl 3 rfl) ?_
    refine lv_iload_n hx hb dX4_set_131 rfl (lv_at hl 3 rfl) ?_
    refine lv_if_ne (tgt := 139) hx hb dX4_set_132 (by decide) (fun c_7 => absurd c_1 c_7) (fun _ => ?_)
    refine lv_lconst (v := 0) hx hb dX4_set_135 (by decide) ?_
    refine lv_goto (tgt := 147) hx hb dX4_set_136 (by decide) ?_
    refine lv_lload hx hb dX4_set_147 (lv_at hl 0 rfl) ?_
    refine lv_ladd hx hb dX4_set_149 ?_
    refine lv_aload_n hx hb dX4_set_150 rfl (lv_at hl 2 rfl) ?_
    refine va_get (D := D) (ci := 5) (v := .ref (a 11)) (C := RX4) (T := TX4) (N := 23) hx hb (lyX4 ht) (fun _ h9 => h9) hown hK hP 0 rfl rfl 18 (by decide) (fl_X4_49 ht) (fun _ h9 => h9) rfl dX4_set_151 ?_
    refine lv_iload_n hx hb dX4_set_154 rfl (lv_at hl 3 rfl) ?_
    refine va_lald hx hb hK hP 11 1 rfl rfl h0 dX4_set_155 ?_
    refine lv_ladd hx hb dX4_set_156 ?_
    refine va_last hx hb hK hP hD hS 9 1 rfl rfl h0 dX4_set_157 (fun H locs hP hD hS => ?_)
    have hP : va_P D vwCl (wM cI cJ cZ a fa rg bu pn pl ja lk nk bl bs bk be al tp st mx my (upd kd r.toNatClampNeg k) (upd ky r.toNatClampNeg z) (vp_updL gx r.toNatClampNeg ((0 + 0) + ((vp_updL gu r.toNatClampNeg (0 + (((tp k.toNatClampNeg) * (f_X4_c z)).toInt64))) r.toNatClampNeg))) (vp_updL gy r.toNatClampNeg ((0 + 0) + ((vp_updL gv r.toNatClampNeg (0 + (((tp k.toNatClampNeg) * (f_X4_c (z - 4))).toInt64))) r.toNatClampNeg))) (vp_updL gu r.toNatClampNeg (0 + (((tp k.toNatClampNeg) * (f_X4_c z)).toInt64))) (vp_updL gv r.toNatClampNeg (0 + (((tp k.toNatClampNeg) * (f_X4_c (z - 4))).toInt64)))) H := hP
    have hD : va_D A (wM cI cJ cZ a fa rg bu pn pl ja lk nk bl bs bk be al tp st mx my (upd kd r.toNatClampNeg k) (upd ky r.toNatClampNeg z) (vp_updL gx r.toNatClampNeg ((0 + 0) + ((vp_updL gu r.toNatClampNeg (0 + (((tp k.toNatClampNeg) * (f_X4_c z)).toInt64))) r.toNatClampNeg))) (vp_updL gy r.toNatClampNeg ((0 + 0) + ((vp_updL gv r.toNatClampNeg (0 + (((tp k.toNatClampNeg) * (f_X4_c (z - 4))).toInt64))) r.toNatClampNeg))) (vp_updL gu r.toNatClampNeg (0 + (((tp k.toNatClampNeg) * (f_X4_c z)).toInt64))) (vp_updL gv r.toNatClampNeg (0 + (((tp k.toNatClampNeg) * (f_X4_c (z - 4))).toInt64)))) := hD
    exact wr_v hx hb hr hlocks hAe hP hD hS dX4_set_158 (⟨rfl, by simp only [f_X4_set_kd, f_X4_set_ky, f_X4_set_gx, f_X4_set_gy, f_X4_set_gu, f_X4_set_gv, if_pos c_1]⟩)
def f_X4_kindOf (r : Int32) (bu : Int32) (pn : Int32) (kd : Nat → Int32) : Int32 := if (f_X4_isThere r bu pn) = 0 then -1 else (kd r.toNatClampNeg)
def f_X4_kindOf_fa (r : Int32) (bu : Int32) (pn : Int32) : Int32 := if (f_X4_isThere r bu pn) = 0 then 0 else 0
set_option maxRecDepth 20000 in
set_option maxHeartbeats 4000000 in
theorem k_X4_kindOf (l : Launch) (D : va_G) (cI cJ cZ : ClassId) (a : Nat → Nat) (fa rg bu pn pl ja lk nk bl : Int32) (bs : Int64) (bk be : Int32) (al tp st mx my kd ky : Nat → Int32) (gx gy gu gv : Nat → Int64) (r : Int32) (hk : ¬ f_X4_isThere r bu pn = 0 → vp_in r 24) : WR l yX4_kindOf cX4_kindOf 2 (some .int) 1 0 0 D (tysW cI cJ cZ) (wM cI cJ cZ a fa rg bu pn pl ja lk nk bl bs bk be al tp st mx my kd ky gx gy gu gv) [.ref (a 0), .int r] (fun ov w' => ov = some (.int (f_X4_kindOf r bu pn kd)) ∧ w' = wM cI cJ cZ a (f_X4_kindOf_fa r bu pn) rg bu pn pl ja lk nk bl bs bk be al tp st mx my kd ky gx gy gu gv) := by
  refine WR.of (by decide) ?_
  intro p e s m below meth c A hadm hx hb hr hml hown hlocks hname hE hP hK hD hS hA hAe
  have hown : s.vm.findClass RX4 = some m.cls := hown
  have ht : tb_OK s := hE.1
  have hl := lv_entry ([.ref (a 0), .int r]) (n := 2) (Nat.le_of_ble_eq_true rfl)
  rw [lg_entry_eq]
  generalize (lg_sl ([.ref (a 0), .int r]) ++ List.replicate (2 - (lg_sl ([.ref (a 0), .int r])).length) Slot.unset).toArray = ls at hl ⊢
  have hl : lv_has ls 2 [(0, .ref (a 0)), (1, .int r)] := hl
  refine lv_aload_n hx hb dX4_kindOf_0 rfl (lv_at hl 0 rfl) ?_
  refine lv_iconst (v := 0) hx hb dX4_kindOf_1 (by decide) ?_
  refine va_put (D := D) (ci := 5) (v := .int 0) (ty := .int) (C := RX4) (T := TX4) (N := 23) hx hb (lyX4 ht) (fun _ h9 => h9) tyX4 tyX4_ok nmX4 hown hK hP hD hS 0 rfl rfl 0 (by decide) (fl_X4_55 ht) (fun _ h9 => h9) rfl (by decide +kernel) rfl rfl (Nat.le_of_ble_eq_true rfl) dX4_kindOf_2 (fun H locs hP hD hS => ?_)
  have hP : va_P D vwCl (wM cI cJ cZ a 0 rg bu pn pl ja lk nk bl bs bk be al tp st mx my kd ky gx gy gu gv) H := hP
  have hD : va_D A (wM cI cJ cZ a 0 rg bu pn pl ja lk nk bl bs bk be al tp st mx my kd ky gx gy gu gv) := hD
  refine lv_aload_n hx hb dX4_kindOf_5 rfl (lv_at hl 0 rfl) ?_
  refine lv_iload_n hx hb dX4_kindOf_6 rfl (lv_at hl 1 rfl) ?_
  refine rdV (As := [.int r]) (rest := []) (st1 := [.int (f_X4_isThere r bu pn)]) (k_X4_isThere l D cI cJ cZ a 0 rg bu pn pl ja lk nk bl bs bk be al tp st mx my kd ky gx gy gu gv r) (si_X4_142 ht ⟨Nat.le_of_ble_eq_true rfl, Nat.le_of_ble_eq_true rfl⟩) hx hb hml hown (va_recv hK hP (ci := 5) (q0 := 0) rfl rfl) (hE.since hS) hP hK rfl hl.1 rfl (Nat.le_of_ble_eq_true rfl) ⟨Nat.zero_le _, Nat.zero_le _⟩ dX4_kindOf_7 rfl ?_
  refine lv_if_eq (tgt := 22) hx hb dX4_kindOf_10 (by decide) (fun c_1 => ?_) (fun c_1 => ?_)
  · skip
    refine lv_iconst (v := -1) hx hb dX4_kindOf_22 (by decide) ?_
    exact wr_i hx hb hr hlocks hAe hP hD hS dX4_kindOf_23 (⟨by unfold f_X4_kindOf; rw [if_pos c_1], by simp only [f_X4_kindOf_fa, if_pos c_1]⟩)
  · skip
    refine lv_aload_n hx hb dX4_kindOf_13 rfl (lv_at hl 0 rfl) ?_
    refine va_get (D := D) (ci := 5) (v := .ref (a 6)) (C := RX4) (T := TX4) (N := 23) hx hb (lyX4 ht) (fun _ h9 => h9) hown hK hP 0 rfl rfl 13 (by decide) (fl_X4_33 ht) (fun _ h9 => h9) rfl dX4_kindOf_14 ?_
    refine lv_iload_n hx hb dX4_kindOf_17 rfl (lv_at hl 1 rfl) ?_
    refine va_iald hx hb hK hP 6 0 rfl rfl (hk c_1) dX4_kindOf_18 ?_
    refine lv_goto (tgt := 23) hx hb dX4_kindOf_19 (by decide) ?_
    exact wr_i hx hb hr hlocks hAe hP hD hS dX4_kindOf_23 (⟨by unfold f_X4_kindOf; rw [if_neg c_1], by simp only [f_X4_kindOf_fa, if_neg c_1]⟩)
def f_X4_turnOf (r : Int32) (bu : Int32) (pn : Int32) (ky : Nat → Int32) : Int32 := if (f_X4_isThere r bu pn) = 0 then -1 else (ky r.toNatClampNeg)
def f_X4_turnOf_fa (r : Int32) (bu : Int32) (pn : Int32) : Int32 := if (f_X4_isThere r bu pn) = 0 then 0 else 0
set_option maxRecDepth 20000 in
set_option maxHeartbeats 4000000 in
theorem k_X4_turnOf (l : Launch) (D : va_G) (cI cJ cZ : ClassId) (a : Nat → Nat) (fa rg bu pn pl ja lk nk bl : Int32) (bs : Int64) (bk be : Int32) (al tp st mx my kd ky : Nat → Int32) (gx gy gu gv : Nat → Int64) (r : Int32) (hk : ¬ f_X4_isThere r bu pn = 0 → vp_in r 24) : WR l yX4_turnOf cX4_turnOf 2 (some .int) 1 0 0 D (tysW cI cJ cZ) (wM cI cJ cZ a fa rg bu pn pl ja lk nk bl bs bk be al tp st mx my kd ky gx gy gu gv) [.ref (a 0), .int r] (fun ov w' => ov = some (.int (f_X4_turnOf r bu pn ky)) ∧ w' = wM cI cJ cZ a (f_X4_turnOf_fa r bu pn) rg bu pn pl ja lk nk bl bs bk be al tp st mx my kd ky gx gy gu gv) := by
  refine WR.of (by decide) ?_
  intro p e s m below meth c A hadm hx hb hr hml hown hlocks hname hE hP hK hD hS hA hAe
  have hown : s.vm.findClass RX4 = some m.cls := hown
  have ht : tb_OK s := hE.1
  have hl := lv_entry ([.ref (a 0), .int r]) (n := 2) (Nat.le_of_ble_eq_true rfl)
  rw [lg_entry_eq]
  generalize (lg_sl ([.ref (a 0), .int r]) ++ List.replicate (2 - (lg_sl ([.ref (a 0), .int r])).length) Slot.unset).toArray = ls at hl ⊢
  have hl : lv_has ls 2 [(0, .ref (a 0)), (1, .int r)] := hl
  refine lv_aload_n hx hb dX4_turnOf_0 rfl (lv_at hl 0 rfl) ?_
  refine lv_iconst (v := 0) hx hb dX4_turnOf_1 (by decide) ?_
  refine va_put (D := D) (ci := 5) (v := .int 0) (ty := .int) (C := RX4) (T := TX4) (N := 23) hx hb (lyX4 ht) (fun _ h9 => h9) tyX4 tyX4_ok nmX4 hown hK hP hD hS 0 rfl rfl 0 (by decide) (fl_X4_55 ht) (fun _ h9 => h9) rfl (by decide +kernel) rfl rfl (Nat.le_of_ble_eq_true rfl) dX4_turnOf_2 (fun H locs hP hD hS => ?_)
  have hP : va_P D vwCl (wM cI cJ cZ a 0 rg bu pn pl ja lk nk bl bs bk be al tp st mx my kd ky gx gy gu gv) H := hP
  have hD : va_D A (wM cI cJ cZ a 0 rg bu pn pl ja lk nk bl bs bk be al tp st mx my kd ky gx gy gu gv) := hD
  refine lv_aload_n hx hb dX4_turnOf_5 rfl (lv_at hl 0 rfl) ?_
  refine lv_iload_n hx hb dX4_turnOf_6 rfl (lv_at hl 1 rfl) ?_
  refine rdV (As := [.int r]) (rest := []) (st1 := [.int (f_X4_isThere r bu pn)]) (k_X4_isThere l D cI cJ cZ a 0 rg bu pn pl ja lk nk bl bs bk be al tp st mx my kd ky gx gy gu gv r) (si_X4_142 ht ⟨Nat.le_of_ble_eq_true rfl, Nat.le_of_ble_eq_true rfl⟩) hx hb hml hown (va_recv hK hP (ci := 5) (q0 := 0) rfl rfl) (hE.since hS) hP hK rfl hl.1 rfl (Nat.le_of_ble_eq_true rfl) ⟨Nat.zero_le _, Nat.zero_le _⟩ dX4_turnOf_7 rfl ?_
  refine lv_if_eq (tgt := 22) hx hb dX4_turnOf_10 (by decide) (fun c_1 => ?_) (fun c_1 => ?_)
  · skip
    refine lv_iconst (v := -1) hx hb dX4_turnOf_22 (by decide) ?_
    exact wr_i hx hb hr hlocks hAe hP hD hS dX4_turnOf_23 (⟨by unfold f_X4_turnOf; rw [if_pos c_1], by simp only [f_X4_turnOf_fa, if_pos c_1]⟩)
  · skip
    refine lv_aload_n hx hb dX4_turnOf_13 rfl (lv_at hl 0 rfl) ?_
    refine va_get (D := D) (ci := 5) (v := .ref (a 7)) (C := RX4) (T := TX4) (N := 23) hx hb (lyX4 ht) (fun _ h9 => h9) hown hK hP 0 rfl rfl 14 (by decide) (fl_X4_36 ht) (fun _ h9 => h9) rfl dX4_turnOf_14 ?_
    refine lv_iload_n hx hb dX4_turnOf_17 rfl (lv_at hl 1 rfl) ?_
    refine va_iald hx hb hK hP 7 0 rfl rfl (hk c_1) dX4_turnOf_18 ?_
    refine lv_goto (tgt := 23) hx hb dX4_turnOf_19 (by decide) ?_
    exact wr_i hx hb hr hlocks hAe hP hD hS dX4_turnOf_23 (⟨by unfold f_X4_turnOf; rw [if_neg c_1], by simp only [f_X4_turnOf_fa, if_neg c_1]⟩)
def f_X4_state (r : Int32) (rg : Int32) (bu : Int32) (pn : Int32) : Int32 := if (f_X4_isRing r rg) = 0 then -1 else (if bu ≤ r then (if (bu + pn) ≤ r then 0 else 1) else 2)
def f_X4_state_fa (r : Int32) (rg : Int32) (bu : Int32) (pn : Int32) : Int32 := if (f_X4_isRing r rg) = 0 then 0 else (if bu ≤ r then (if (bu + pn) ≤ r then 0 else 0) else 0)
set_option maxRecDepth 20000 in
set_option maxHeartbeats 4000000 in
theorem k_X4_state (l : Launch) (D : va_G) (cI cJ cZ : ClassId) (a : Nat → Nat) (fa rg bu pn pl ja lk nk bl : Int32) (bs : Int64) (bk be : Int32) (al tp st mx my kd ky : Nat → Int32) (gx gy gu gv : Nat → Int64) (r : Int32) : WR l yX4_state cX4_state 2 (some .int) 1 0 0 D (tysW cI cJ cZ) (wM cI cJ cZ a fa rg bu pn pl ja lk nk bl bs bk be al tp st mx my kd ky gx gy gu gv) [.ref (a 0), .int r] (fun ov w' => ov = some (.int (f_X4_state r rg bu pn)) ∧ w' = wM cI cJ cZ a (f_X4_state_fa r rg bu pn) rg bu pn pl ja lk nk bl bs bk be al tp st mx my kd ky gx gy gu gv) := by
  refine WR.of (by decide) ?_
  intro p e s m below meth c A hadm hx hb hr hml hown hlocks hname hE hP hK hD hS hA hAe
  have hown : s.vm.findClass RX4 = some m.cls := hown
  have ht : tb_OK s := hE.1
  have hl := lv_entry ([.ref (a 0), .int r]) (n := 2) (Nat.le_of_ble_eq_true rfl)
  rw [lg_entry_eq]
  generalize (lg_sl ([.ref (a 0), .int r]) ++ List.replicate (2 - (lg_sl ([.ref (a 0), .int r])).length) Slot.unset).toArray = ls at hl ⊢
  have hl : lv_has ls 2 [(0, .ref (a 0)), (1, .int r)] := hl
  refine lv_aload_n hx hb dX4_state_0 rfl (lv_at hl 0 rfl) ?_
  refine lv_iconst (v := 0) hx hb dX4_state_1 (by decide) ?_
  refine va_put (D := D) (ci := 5) (v := .int 0) (ty := .int) (C := RX4) (T := TX4) (N := 23) hx hb (lyX4 ht) (fun _ h9 => h9) tyX4 tyX4_ok nmX4 hown hK hP hD hS 0 rfl rfl 0 (by decide) (fl_X4_55 ht) (fun _ h9 => h9) rfl (by decide +kernel) rfl rfl (Nat.le_of_ble_eq_true rfl) dX4_state_2 (fun H locs hP hD hS => ?_)
  have hP : va_P D vwCl (wM cI cJ cZ a 0 rg bu pn pl ja lk nk bl bs bk be al tp st mx my kd ky gx gy gu gv) H := hP
  have hD : va_D A (wM cI cJ cZ a 0 rg bu pn pl ja lk nk bl bs bk be al tp st mx my kd ky gx gy gu gv) := hD
  refine lv_aload_n hx hb dX4_state_5 rfl (lv_at hl 0 rfl) ?_
  refine lv_iload_n hx hb dX4_state_6 rfl (lv_at hl 1 rfl) ?_
  refine rdV (As := [.int r]) (rest := []) (st1 := [.int (f_X4_isRing r rg)]) (k_X4_isRing l D cI cJ cZ a 0 rg bu pn pl ja lk nk bl bs bk be al tp st mx my kd ky gx gy gu gv r) (si_X4_79 ht ⟨Nat.le_of_ble_eq_true rfl, Nat.le_of_ble_eq_true rfl⟩) hx hb hml hown (va_recv hK hP (ci := 5) (q0 := 0) rfl rfl) (hE.since hS) hP hK rfl hl.1 rfl (Nat.le_of_ble_eq_true rfl) ⟨Nat.zero_le _, Nat.zero_le _⟩ dX4_state_7 rfl ?_
  refine lv_if_ne (tgt := 17) hx hb dX4_state_10 (by decide) (fun c_1 => ?_) (fun c_1 => ?_)
  · skip
    refine lv_iload_n hx hb dX4_state_17 rfl (lv_at hl 1 rfl) ?_
    refine lv_aload_n hx hb dX4_state_18 rfl (lv_at hl 0 rfl) ?_
    refine va_get (D := D) (ci := 5) (v := .int bu) (C := RX4) (T := TX4) (N := 23) hx hb (lyX4 ht) (fun _ h9 => h9) hown hK hP 0 rfl rfl 2 (by decide) (fl_X4_61 ht) (fun _ h9 => h9) rfl dX4_state_19 ?_
    refine lv_icmp_ge (tgt := 29) hx hb dX4_state_22 (by decide) (fun c_2 => ?_) (fun c_2 => ?_)
    · skip
      refine lv_iload_n hx hb dX4_state_29 rfl (lv_at hl 1 rfl) ?_
      refine lv_aload_n hx hb dX4_state_30 rfl (lv_at hl 0 rfl) ?_
      refine va_get (D := D) (ci := 5) (v := .int bu) (C := RX4) (T := TX4) (N := 23) hx hb (lyX4 ht) (fun _ h9 => h9) hown hK hP 0 rfl rfl 2 (by decide) (fl_X4_61 ht) (fun _ h9 => h9) rfl dX4_state_31 ?_
      refine lv_aload_n hx hb dX4_state_34 rfl (lv_at hl 0 rfl) ?_
      refine va_get (D := D) (ci := 5) (v := .int pn) (C := RX4) (T := TX4) (N := 23) hx hb (lyX4 ht) (fun _ h9 => h9) hown hK hP 0 rfl rfl 3 (by decide) (fl_X4_64 ht) (fun _ h9 => h9) rfl dX4_state_35 ?_
      refine lv_iadd hx hb dX4_state_38 ?_
      refine lv_icmp_ge (tgt := 46) hx hb dX4_state_39 (by decide) (fun c_3 => ?_) (fun c_3 => ?_)
      · skip
        refine lv_iconst (v := 0) hx hb dX4_state_46 (by decide) ?_
        exact wr_i hx hb hr hlocks hAe hP hD hS dX4_state_47 (⟨by unfold f_X4_state; rw [if_neg c_1, if_pos c_2, if_pos c_3], by simp only [f_X4_state_fa, if_neg c_1, if_pos c_2, if_pos c_3]⟩)
      · skip
        refine lv_iconst (v := 1) hx hb dX4_state_42 (by decide) ?_
        refine lv_goto (tgt := 47) hx hb dX4_state_43 (by decide) ?_
        exact wr_i hx hb hr hlocks hAe hP hD hS dX4_state_47 (⟨by unfold f_X4_state; rw [if_neg c_1, if_pos c_2, if_neg c_3], by simp only [f_X4_state_fa, if_neg c_1, if_pos c_2, if_neg c_3]⟩)
    · skip
      refine lv_iconst (v := 2) hx hb dX4_state_25 (by decide) ?_
      refine lv_goto (tgt := 47) hx hb dX4_state_26 (by decide) ?_
      exact wr_i hx hb hr hlocks hAe hP hD hS dX4_state_47 (⟨by unfold f_X4_state; rw [if_neg c_1, if_neg c_2], by simp only [f_X4_state_fa, if_neg c_1, if_neg c_2]⟩)
  · skip
    refine lv_iconst (v := -1) hx hb dX4_state_13 (by decide) ?_
    refine lv_goto (tgt := 47) hx hb dX4_state_14 (by decide) ?_
    exact wr_i hx hb hr hlocks hAe hP hD hS dX4_state_47 (⟨by unfold f_X4_state; rw [if_pos c_1], by simp only [f_X4_state_fa, if_pos c_1]⟩)
def f_X4_place (r : Int32) (k : Int32) (bu : Int32) (pn : Int32) (gx : Nat → Int64) (gy : Nat → Int64) (gu : Nat → Int64) (gv : Nat → Int64) : Int64 := if (f_X4_isThere r bu pn) = 0 then 0 else (if (f_X4_in k.toInt64 0 3) = 0 then 0 else (if k = 0 then (gx r.toNatClampNeg) else (if k = 1 then (gy r.toNatClampNeg) else (if k = 2 then (gu r.toNatClampNeg) else (gv r.toNatClampNeg)))))
def f_X4_place_fa (r : Int32) (k : Int32) (bu : Int32) (pn : Int32) : Int32 := if (f_X4_isThere r bu pn) = 0 then 1 else (if (f_X4_in k.toInt64 0 3) = 0 then 1 else (if k = 0 then 0 else (if k = 1 then 0 else (if k = 2 then 0 else 0))))
set_option maxRecDepth 20000 in
set_option maxHeartbeats 4000000 in
theorem k_X4_place (l : Launch) (D : va_G) (cI cJ cZ : ClassId) (a : Nat → Nat) (fa rg bu pn pl ja lk nk bl : Int32) (bs : Int64) (bk be : Int32) (al tp st mx my kd ky : Nat → Int32) (gx gy gu gv : Nat → Int64) (r : Int32) (k : Int32) (hk : ¬ f_X4_isThere r bu pn = 0 → vp_in r 24) : WR l yX4_place cX4_place 3 (some .long) 1 0 0 D (tysW cI cJ cZ) (wM cI cJ cZ a fa rg bu pn pl ja lk nk bl bs bk be al tp st mx my kd ky gx gy gu gv) [.ref (a 0), .int r, .int k] (fun ov w' => ov = some (.long (f_X4_place r k bu pn gx gy gu gv)) ∧ w' = wM cI cJ cZ a (f_X4_place_fa r k bu pn) rg bu pn pl ja lk nk bl bs bk be al tp st mx my kd ky gx gy gu gv) := by
  refine WR.of (by decide) ?_
  intro p e s m below meth c A hadm hx hb hr hml hown hlocks hname hE hP hK hD hS hA hAe
  have hown : s.vm.findClass RX4 = some m.cls := hown
  have ht : tb_OK s := hE.1
  have hl := lv_entry ([.ref (a 0), .int r, .int k]) (n := 3) (Nat.le_of_ble_eq_true rfl)
  rw [lg_entry_eq]
  generalize (lg_sl ([.ref (a 0), .int r, .int k]) ++ List.replicate (3 - (lg_sl ([.ref (a 0), .int r, .int k])).length) Slot.unset).toArray = ls at hl ⊢
  have hl : lv_has ls 3 [(0, .ref (a 0)), (1, .int r), (2, .int k)] := hl
  refine lv_aload_n hx hb dX4_place_0 rfl (lv_at hl 0 rfl) ?_
  refine lv_aload_n hx hb dX4_place_1 rfl (lv_at hl 0 rfl) ?_
  refine lv_iload_n hx hb dX4_place_2 rfl (lv_at hl 1 rfl) ?_
  refine rdV (As := [.int r]) (rest := [.ref (a 0)]) (st1 := [.int (f_X4_isThere r bu pn), .ref (a 0)]) (k_X4_isThere l D cI cJ cZ a fa rg bu pn pl ja lk nk bl bs bk be al tp st mx my kd ky gx gy gu gv r) (si_X4_142 ht ⟨Nat.le_of_ble_eq_true rfl, Nat.le_of_ble_eq_true rfl⟩) hx hb hml hown (va_recv hK hP (ci := 5) (q0 := 0) rfl rfl) (hE.since hS) hP hK rfl hl.1 rfl (Nat.le_of_ble_eq_true rfl) ⟨Nat.zero_le _, Nat.zero_le _⟩ dX4_place_3 rfl ?_
  refine lv_if_eq (tgt := 25) hx hb dX4_place_6 (by decide) (fun c_1 => ?_) (fun c_1 => ?_)
  · skip
    refine lv_iconst (v := 1) hx hb dX4_place_25 (by decide) ?_
    refine va_put (D := D) (ci := 5) (v := .int 1) (ty := .int) (C := RX4) (T := TX4) (N := 23) hx hb (lyX4 ht) (fun _ h9 => h9) tyX4 tyX4_ok nmX4 hown hK hP hD hS 0 rfl rfl 0 (by decide) (fl_X4_55 ht) (fun _ h9 => h9) rfl (by decide +kernel) rfl rfl (Nat.le_of_ble_eq_true rfl) dX4_place_26 (fun H locs hP hD hS => ?_)
    have hP : va_P D vwCl (wM cI cJ cZ a 1 rg bu pn pl ja lk nk bl bs bk be al tp st mx my kd ky gx gy gu gv) H := hP
    have hD : va_D A (wM cI cJ cZ a 1 rg bu pn pl ja lk nk bl bs bk be al tp st mx my kd ky gx gy gu gv) := hD
    refine lv_aload_n hx hb dX4_place_29 rfl (lv_at hl 0 rfl) ?_
    refine va_get (D := D) (ci := 5) (v := .int 1) (C := RX4) (T := TX4) (N := 23) hx hb (lyX4 ht) (fun _ h9 => h9) hown hK hP 0 rfl rfl 0 (by decide) (fl_X4_55 ht) (fun _ h9 => h9) rfl dX4_place_30 ?_
    refine lv_if_le (tgt := 38) hx hb dX4_place_33 (by decide) (fun c_2 => absurd c_2 (by decide)) (fun c_2 => ?_)
    refine lv_lconst (v := 0) hx hb dX4_place_36 (by decide) ?_
    exact wr_l hx hb hr hlocks hAe hP hD hS dX4_place_37 (⟨by unfold f_X4_place; rw [if_pos c_1], by simp only [f_X4_place_fa, if_pos c_1]⟩)
  · skip
    refine lv_iload_n hx hb dX4_place_9 rfl (lv_at hl 2 rfl) ?_
    refine lv_i2l (v := k.toInt64) hx hb dX4_place_10 rfl ?_
    refine lv_lconst (v := 0) hx hb dX4_place_11 (by decide) ?_
    refine lv_ldc2 (v := 3) hx hb hown (kl_X4_145 ht) dX4_place_12 ?_
    refine rdS (As := [.long k.toInt64, .long 0, .long 3]) (rest := [.ref (a 0)]) (st1 := [.int (f_X4_in k.toInt64 0 3), .ref (a 0)]) (k_X4_in l D (tysW cI cJ cZ) k.toInt64 0 3) (si_X4_69 ht ⟨Nat.le_of_ble_eq_true rfl, Nat.le_of_ble_eq_true rfl⟩) hx hb hml hown (hE.since hS) pNil hK rfl hl.1 rfl (Nat.le_of_ble_eq_true rfl) ⟨Nat.zero_le _, Nat.zero_le _⟩ dX4_place_15 rfl ?_
    refine lv_if_eq (tgt := 25) hx hb dX4_place_18 (by decide) (fun c_3 => ?_) (fun c_3 => ?_)
    · skip
      refine lv_iconst (v := 1) hx hb dX4_place_25 (by decide) ?_
      refine va_put (D := D) (ci := 5) (v := .int 1) (ty := .int) (C := RX4) (T := TX4) (N := 23) hx hb (lyX4 ht) (fun _ h9 => h9) tyX4 tyX4_ok nmX4 hown hK hP hD hS 0 rfl rfl 0 (by decide) (fl_X4_55 ht) (fun _ h9 => h9) rfl (by decide +kernel) rfl rfl (Nat.le_of_ble_eq_true rfl) dX4_place_26 (fun H locs hP hD hS => ?_)
      have hP : va_P D vwCl (wM cI cJ cZ a 1 rg bu pn pl ja lk nk bl bs bk be al tp st mx my kd ky gx gy gu gv) H := hP
      have hD : va_D A (wM cI cJ cZ a 1 rg bu pn pl ja lk nk bl bs bk be al tp st mx my kd ky gx gy gu gv) := hD
      refine lv_aload_n hx hb dX4_place_29 rfl (lv_at hl 0 rfl) ?_
      refine va_get (D := D) (ci := 5) (v := .int 1) (C := RX4) (T := TX4) (N := 23) hx hb (lyX4 ht) (fun _ h9 => h9) hown hK hP 0 rfl rfl 0 (by decide) (fl_X4_55 ht) (fun _ h9 => h9) rfl dX4_place_30 ?_
      refine lv_if_le (tgt := 38) hx hb dX4_place_33 (by decide) (fun c_4 => absurd c_4 (by decide)) (fun c_4 => ?_)
      refine lv_lconst (v := 0) hx hb dX4_place_36 (by decide) ?_
      exact wr_l hx hb hr hlocks hAe hP hD hS dX4_place_37 (⟨by unfold f_X4_place; rw [if_neg c_1, if_pos c_3], by simp only [f_X4_place_fa, if_neg c_1, if_pos c_3]⟩)
    · skip
      refine lv_iconst (v := 0) hx hb dX4_place_21 (by decide) ?_
      refine lv_goto (tgt := 26) hx hb dX4_place_22 (by decide) ?_
      refine va_put (D := D) (ci := 5) (v := .int 0) (ty := .int) (C := RX4) (T := TX4) (N := 23) hx hb (lyX4 ht) (fun _ h9 => h9) tyX4 tyX4_ok nmX4 hown hK hP hD hS 0 rfl rfl 0 (by decide) (fl_X4_55 ht) (fun _ h9 => h9) rfl (by decide +kernel) rfl rfl (Nat.le_of_ble_eq_true rfl) dX4_place_26 (fun H locs hP hD hS => ?_)
      have hP : va_P D vwCl (wM cI cJ cZ a 0 rg bu pn pl ja lk nk bl bs bk be al tp st mx my kd ky gx gy gu gv) H := hP
      have hD : va_D A (wM cI cJ cZ a 0 rg bu pn pl ja lk nk bl bs bk be al tp st mx my kd ky gx gy gu gv) := hD
      refine lv_aload_n hx hb dX4_place_29 rfl (lv_at hl 0 rfl) ?_
      refine va_get (D := D) (ci := 5) (v := .int 0) (C := RX4) (T := TX4) (N := 23) hx hb (lyX4 ht) (fun _ h9 => h9) hown hK hP 0 rfl rfl 0 (by decide) (fl_X4_55 ht) (fun _ h9 => h9) rfl dX4_place_30 ?_
      refine lv_if_le (tgt := 38) hx hb dX4_place_33 (by decide) (fun c_5 => ?_) (fun c_5 => absurd (by decide) c_5)
      refine lv_iload_n hx hb dX4_place_38 rfl (lv_at hl 2 rfl) ?_
      refine lv_if_ne (tgt := 51) hx hb dX4_place_39 (by decide) (fun c_6 => ?_) (fun c_6 => ?_)
      · skip
        refine lv_iload_n hx hb dX4_place_51 rfl (lv_at hl 2 rfl) ?_
        refine lv_iconst (v := 1) hx hb dX4_place_52 (by decide) ?_
        refine lv_icmp_ne (tgt := 65) hx hb dX4_place_53 (by decide) (fun c_7 => ?_) (fun c_7 => ?_)
        · skip
          refine lv_iload_n hx hb dX4_place_65 rfl (lv_at hl 2 rfl) ?_
          refine lv_iconst (v := 2) hx hb dX4_place_66 (by decide) ?_
          refine lv_icmp_ne (tgt := 79) hx hb dX4_place_67 (by decide) (fun c_8 => ?_) (fun c_8 => ?_)
          · skip
            refine lv_aload_n hx hb dX4_place_79 rfl (lv_at hl 0 rfl) ?_
            refine va_get (D := D) (ci := 5) (v := .ref (a 11)) (C := RX4) (T := TX4) (N := 23) hx hb (lyX4 ht) (fun _ h9 => h9) hown hK hP 0 rfl rfl 18 (by decide) (fl_X4_49 ht) (fun _ h9 => h9) rfl dX4_place_80 ?_
            refine lv_iload_n hx hb dX4_place_83 rfl (lv_at hl 1 rfl) ?_
            refine va_lald hx hb hK hP 11 1 rfl rfl (hk c_1) dX4_place_84 ?_
            exact wr_l hx hb hr hlocks hAe hP hD hS dX4_place_85 (⟨by unfold f_X4_place; rw [if_neg c_1, if_neg c_3, if_neg c_6, if_neg c_7, if_neg c_8], by simp only [f_X4_place_fa, if_neg c_1, if_neg c_3, if_neg c_6, if_neg c_7, if_neg c_8]⟩)
          · skip
            refine lv_aload_n hx hb dX4_place_70 rfl (lv_at hl 0 rfl) ?_
            refine va_get (D := D) (ci := 5) (v := .ref (a 10)) (C := RX4) (T := TX4) (N := 23) hx hb (lyX4 ht) (fun _ h9 => h9) hown hK hP 0 rfl rfl 17 (by decide) (fl_X4_46 ht) (fun _ h9 => h9) rfl dX4_place_71 ?_
            refine lv_iload_n hx hb dX4_place_74 rfl (lv_at hl 1 rfl) ?_
            refine va_lald hx hb hK hP 10 1 rfl rfl (hk c_1) dX4_place_75 ?_
            refine lv_goto (tgt := 85) hx hb dX4_place_76 (by decide) ?_
            exact wr_l hx hb hr hlocks hAe hP hD hS dX4_place_85 (⟨by unfold f_X4_place; rw [if_neg c_1, if_neg c_3, if_neg c_6, if_neg c_7, if_pos c_8], by simp only [f_X4_place_fa, if_neg c_1, if_neg c_3, if_neg c_6, if_neg c_7, if_pos c_8]⟩)
        · skip
          refine lv_aload_n hx hb dX4_place_56 rfl (lv_at hl 0 rfl) ?_
          refine va_get (D := D) (ci := 5) (v := .ref (a 9)) (C := RX4) (T := TX4) (N := 23) hx hb (lyX4 ht) (fun _ h9 => h9) hown hK hP 0 rfl rfl 16 (by decide) (fl_X4_43 ht) (fun _ h9 => h9) rfl dX4_place_57 ?_
          refine lv_iload_n hx hb dX4_place_60 rfl (lv_at hl 1 rfl) ?_
          refine va_lald hx hb hK hP 9 1 rfl rfl (hk c_1) dX4_place_61 ?_
          refine lv_goto (tgt := 85) hx hb dX4_place_62 (by decide) ?_
          exact wr_l hx hb hr hlocks hAe hP hD hS dX4_place_85 (⟨by unfold f_X4_place; rw [if_neg c_1, if_neg c_3, if_neg c_6, if_pos c_7], by simp only [f_X4_place_fa, if_neg c_1, if_neg c_3, if_neg c_6, if_pos c_7]⟩)
      · skip
        refine lv_aload_n hx hb dX4_place_42 rfl (lv_at hl 0 rfl) ?_
        refine va_get (D := D) (ci := 5) (v := .ref (a 8)) (C := RX4) (T := TX4) (N := 23) hx hb (lyX4 ht) (fun _ h9 => h9) hown hK hP 0 rfl rfl 15 (by decide) (fl_X4_39 ht) (fun _ h9 => h9) rfl dX4_place_43 ?_
        refine lv_iload_n hx hb dX4_place_46 rfl (lv_at hl 1 rfl) ?_
        refine va_lald hx hb hK hP 8 1 rfl rfl (hk c_1) dX4_place_47 ?_
        refine lv_goto (tgt := 85) hx hb dX4_place_48 (by decide) ?_
        exact wr_l hx hb hr hlocks hAe hP hD hS dX4_place_85 (⟨by unfold f_X4_place; rw [if_neg c_1, if_neg c_3, if_pos c_6], by simp only [f_X4_place_fa, if_neg c_1, if_neg c_3, if_pos c_6]⟩)
def f_X4_off (r : Int32) (bu : Int32) (pn : Int32) (mx : Nat → Int32) (my : Nat → Int32) (gx : Nat → Int64) (gy : Nat → Int64) : Int64 := if (f_X4_isThere r bu pn) = 0 then 0 else (f_X4_offOf r mx my gx gy)
def f_X4_off_fa (r : Int32) (bu : Int32) (pn : Int32) : Int32 := if (f_X4_isThere r bu pn) = 0 then 1 else 0
set_option maxRecDepth 20000 in
set_option maxHeartbeats 4000000 in
theorem k_X4_off (l : Launch) (D : va_G) (cI cJ cZ : ClassId) (a : Nat → Nat) (fa rg bu pn pl ja lk nk bl : Int32) (bs : Int64) (bk be : Int32) (al tp st mx my kd ky : Nat → Int32) (gx gy gu gv : Nat → Int64) (r : Int32) (hk : ¬ f_X4_isThere r bu pn = 0 → vp_in r 24) : WR l yX4_off cX4_off 2 (some .long) 1 0 0 D (tysW cI cJ cZ) (wM cI cJ cZ a fa rg bu pn pl ja lk nk bl bs bk be al tp st mx my kd ky gx gy gu gv) [.ref (a 0), .int r] (fun ov w' => ov = some (.long (f_X4_off r bu pn mx my gx gy)) ∧ w' = wM cI cJ cZ a (f_X4_off_fa r bu pn) rg bu pn pl ja lk nk bl bs bk be al tp st mx my kd ky gx gy gu gv) := by
  refine WR.of (by decide) ?_
  intro p e s m below meth c A hadm hx hb hr hml hown hlocks hname hE hP hK hD hS hA hAe
  have hown : s.vm.findClass RX4 = some m.cls := hown
  have ht : tb_OK s := hE.1
  have hl := lv_entry ([.ref (a 0), .int r]) (n := 2) (Nat.le_of_ble_eq_true rfl)
  rw [lg_entry_eq]
  generalize (lg_sl ([.ref (a 0), .int r]) ++ List.replicate (2 - (lg_sl ([.ref (a 0), .int r])).length) Slot.unset).toArray = ls at hl ⊢
  have hl : lv_has ls 2 [(0, .ref (a 0)), (1, .int r)] := hl
  refine lv_aload_n hx hb dX4_off_0 rfl (lv_at hl 0 rfl) ?_
  refine lv_aload_n hx hb dX4_off_1 rfl (lv_at hl 0 rfl) ?_
  refine lv_iload_n hx hb dX4_off_2 rfl (lv_at hl 1 rfl) ?_
  refine rdV (As := [.int r]) (rest := [.ref (a 0)]) (st1 := [.int (f_X4_isThere r bu pn), .ref (a 0)]) (k_X4_isThere l D cI cJ cZ a fa rg bu pn pl ja lk nk bl bs bk be al tp st mx my kd ky gx gy gu gv r) (si_X4_142 ht ⟨Nat.le_of_ble_eq_true rfl, Nat.le_of_ble_eq_true rfl⟩) hx hb hml hown (va_recv hK hP (ci := 5) (q0 := 0) rfl rfl) (hE.since hS) hP hK rfl hl.1 rfl (Nat.le_of_ble_eq_true rfl) ⟨Nat.zero_le _, Nat.zero_le _⟩ dX4_off_3 rfl ?_
  refine lv_if_eq (tgt := 13) hx hb dX4_off_6 (by decide) (fun c_1 => ?_) (fun c_1 => ?_)
  · skip
    refine lv_iconst (v := 1) hx hb dX4_off_13 (by decide) ?_
    refine va_put (D := D) (ci := 5) (v := .int 1) (ty := .int) (C := RX4) (T := TX4) (N := 23) hx hb (lyX4 ht) (fun _ h9 => h9) tyX4 tyX4_ok nmX4 hown hK hP hD hS 0 rfl rfl 0 (by decide) (fl_X4_55 ht) (fun _ h9 => h9) rfl (by decide +kernel) rfl rfl (Nat.le_of_ble_eq_true rfl) dX4_off_14 (fun H locs hP hD hS => ?_)
    have hP : va_P D vwCl (wM cI cJ cZ a 1 rg bu pn pl ja lk nk bl bs bk be al tp st mx my kd ky gx gy gu gv) H := hP
    have hD : va_D A (wM cI cJ cZ a 1 rg bu pn pl ja lk nk bl bs bk be al tp st mx my kd ky gx gy gu gv) := hD
    refine lv_aload_n hx hb dX4_off_17 rfl (lv_at hl 0 rfl) ?_
    refine va_get (D := D) (ci := 5) (v := .int 1) (C := RX4) (T := TX4) (N := 23) hx hb (lyX4 ht) (fun _ h9 => h9) hown hK hP 0 rfl rfl 0 (by decide) (fl_X4_55 ht) (fun _ h9 => h9) rfl dX4_off_18 ?_
    refine lv_if_le (tgt := 28) hx hb dX4_off_21 (by decide) (fun c_2 => absurd c_2 (by decide)) (fun c_2 => ?_)
    refine lv_lconst (v := 0) hx hb dX4_off_24 (by decide) ?_
    refine lv_goto (tgt := 33) hx hb dX4_off_25 (by decide) ?_
    exact wr_l hx hb hr hlocks hAe hP hD hS dX4_off_33 (⟨by unfold f_X4_off; rw [if_pos c_1], by simp only [f_X4_off_fa, if_pos c_1]⟩)
  · skip
    refine lv_iconst (v := 0) hx hb dX4_off_9 (by decide) ?_
    refine lv_goto (tgt := 14) hx hb dX4_off_10 (by decide) ?_
    refine va_put (D := D) (ci := 5) (v := .int 0) (ty := .int) (C := RX4) (T := TX4) (N := 23) hx hb (lyX4 ht) (fun _ h9 => h9) tyX4 tyX4_ok nmX4 hown hK hP hD hS 0 rfl rfl 0 (by decide) (fl_X4_55 ht) (fun _ h9 => h9) rfl (by decide +kernel) rfl rfl (Nat.le_of_ble_eq_true rfl) dX4_off_14 (fun H locs hP hD hS => ?_)
    have hP : va_P D vwCl (wM cI cJ cZ a 0 rg bu pn pl ja lk nk bl bs bk be al tp st mx my kd ky gx gy gu gv) H := hP
    have hD : va_D A (wM cI cJ cZ a 0 rg bu pn pl ja lk nk bl bs bk be al tp st mx my kd ky gx gy gu gv) := hD
    refine lv_aload_n hx hb dX4_off_17 rfl (lv_at hl 0 rfl) ?_
    refine va_get (D := D) (ci := 5) (v := .int 0) (C := RX4) (T := TX4) (N := 23) hx hb (lyX4 ht) (fun _ h9 => h9) hown hK hP 0 rfl rfl 0 (by decide) (fl_X4_55 ht) (fun _ h9 => h9) rfl dX4_off_18 ?_
    refine lv_if_le (tgt := 28) hx hb dX4_off_21 (by decide) (fun c_3 => ?_) (fun c_3 => absurd (by decide) c_3)
    refine lv_aload_n hx hb dX4_off_28 rfl (lv_at hl 0 rfl) ?_
    refine lv_iload_n hx hb dX4_off_29 rfl (lv_at hl 1 rfl) ?_
    refine rdV (As := [.int r]) (rest := []) (st1 := [.long (f_X4_offOf r mx my gx gy)]) (k_X4_offOf l D cI cJ cZ a 0 rg bu pn pl ja lk nk bl bs bk be al tp st mx my kd ky gx gy gu gv r (hk c_1)) (si_X4_120 ht ⟨Nat.le_of_ble_eq_true rfl, Nat.le_of_ble_eq_true rfl⟩) hx hb hml hown (va_recv hK hP (ci := 5) (q0 := 0) rfl rfl) (hE.since hS) hP hK rfl hl.1 rfl (Nat.le_of_ble_eq_true rfl) ⟨Nat.zero_le _, Nat.zero_le _⟩ dX4_off_30 rfl ?_
    exact wr_l hx hb hr hlocks hAe hP hD hS dX4_off_33 (⟨by unfold f_X4_off; rw [if_neg c_1], by simp only [f_X4_off_fa, if_neg c_1]⟩)
def f_X4_stroke (r : Int32) (k : Int32) (bu : Int32) (pn : Int32) (tp : Nat → Int32) (kd : Nat → Int32) (ky : Nat → Int32) : Int32 := if (f_X4_isThere r bu pn) = 0 then 0 else (if (f_X4_in k.toInt64 0 15) = 0 then 0 else (if 0 ≤ ((tp (kd r.toNatClampNeg).toNatClampNeg) * (f_X4_c (k - (ky r.toNatClampNeg)))) then (((tp (kd r.toNatClampNeg).toNatClampNeg) * (f_X4_c (k - (ky r.toNatClampNeg)))) / 64) else (if ((((tp (kd r.toNatClampNeg).toNatClampNeg) * (f_X4_c (k - (ky r.toNatClampNeg)))) / 64) * 64) = ((tp (kd r.toNatClampNeg).toNatClampNeg) * (f_X4_c (k - (ky r.toNatClampNeg)))) then (((tp (kd r.toNatClampNeg).toNatClampNeg) * (f_X4_c (k - (ky r.toNatClampNeg)))) / 64) else ((((tp (kd r.toNatClampNeg).toNatClampNeg) * (f_X4_c (k - (ky r.toNatClampNeg)))) / 64) - 1))))
def f_X4_stroke_fa (r : Int32) (k : Int32) (bu : Int32) (pn : Int32) (tp : Nat → Int32) (kd : Nat → Int32) (ky : Nat → Int32) : Int32 := if (f_X4_isThere r bu pn) = 0 then 0 else (if (f_X4_in k.toInt64 0 15) = 0 then 0 else (if 0 ≤ ((tp (kd r.toNatClampNeg).toNatClampNeg) * (f_X4_c (k - (ky r.toNatClampNeg)))) then 0 else (if ((((tp (kd r.toNatClampNeg).toNatClampNeg) * (f_X4_c (k - (ky r.toNatClampNeg)))) / 64) * 64) = ((tp (kd r.toNatClampNeg).toNatClampNeg) * (f_X4_c (k - (ky r.toNatClampNeg)))) then 0 else 0)))
set_option maxRecDepth 20000 in
set_option maxHeartbeats 4000000 in
theorem k_X4_stroke (l : Launch) (D : va_G) (cI cJ cZ : ClassId) (a : Nat → Nat) (fa rg bu pn pl ja lk nk bl : Int32) (bs : Int64) (bk be : Int32) (al tp st mx my kd ky : Nat → Int32) (gx gy gu gv : Nat → Int64) (r : Int32) (k : Int32) (hk : ¬ f_X4_isThere r bu pn = 0 → vp_in r 24) (hq : ¬ f_X4_isThere r bu pn = 0 → vp_in (kd r.toNatClampNeg) 4) : WR l yX4_stroke cX4_stroke 5 (some .int) 1 0 0 D (tysW cI cJ cZ) (wM cI cJ cZ a fa rg bu pn pl ja lk nk bl bs bk be al tp st mx my kd ky gx gy gu gv) [.ref (a 0), .int r, .int k] (fun ov w' => ov = some (.int (f_X4_stroke r k bu pn tp kd ky)) ∧ w' = wM cI cJ cZ a (f_X4_stroke_fa r k bu pn tp kd ky) rg bu pn pl ja lk nk bl bs bk be al tp st mx my kd ky gx gy gu gv) := by
  refine WR.of (by decide) ?_
  intro p e s m below meth c A hadm hx hb hr hml hown hlocks hname hE hP hK hD hS hA hAe
  have hown : s.vm.findClass RX4 = some m.cls := hown
  have ht : tb_OK s := hE.1
  have hl := lv_entry ([.ref (a 0), .int r, .int k]) (n := 5) (Nat.le_of_ble_eq_true rfl)
  rw [lg_entry_eq]
  generalize (lg_sl ([.ref (a 0), .int r, .int k]) ++ List.replicate (5 - (lg_sl ([.ref (a 0), .int r, .int k])).length) Slot.unset).toArray = ls at hl ⊢
  have hl : lv_has ls 5 [(0, .ref (a 0)), (1, .int r), (2, .int k)] := hl
  refine lv_aload_n hx hb dX4_stroke_0 rfl (lv_at hl 0 rfl) ?_
  refine lv_iconst (v := 0) hx hb dX4_stroke_1 (by decide) ?_
  refine va_put (D := D) (ci := 5) (v := .int 0) (ty := .int) (C := RX4) (T := TX4) (N := 23) hx hb (lyX4 ht) (fun _ h9 => h9) tyX4 tyX4_ok nmX4 hown hK hP hD hS 0 rfl rfl 0 (by decide) (fl_X4_55 ht) (fun _ h9 => h9) rfl (by decide +kernel) rfl rfl (Nat.le_of_ble_eq_true rfl) dX4_stroke_2 (fun H locs hP hD hS => ?_)
  have hP : va_P D vwCl (wM cI cJ cZ a 0 rg bu pn pl ja lk nk bl bs bk be al tp st mx my kd ky gx gy gu gv) H := hP
  have hD : va_D A (wM cI cJ cZ a 0 rg bu pn pl ja lk nk bl bs bk be al tp st mx my kd ky gx gy gu gv) := hD
  refine lv_aload_n hx hb dX4_stroke_5 rfl (lv_at hl 0 rfl) ?_
  refine lv_iload_n hx hb dX4_stroke_6 rfl (lv_at hl 1 rfl) ?_
  refine rdV (As := [.int r]) (rest := []) (st1 := [.int (f_X4_isThere r bu pn)]) (k_X4_isThere l D cI cJ cZ a 0 rg bu pn pl ja lk nk bl bs bk be al tp st mx my kd ky gx gy gu gv r) (si_X4_142 ht ⟨Nat.le_of_ble_eq_true rfl, Nat.le_of_ble_eq_true rfl⟩) hx hb hml hown (va_recv hK hP (ci := 5) (q0 := 0) rfl rfl) (hE.since hS) hP hK rfl hl.1 rfl (Nat.le_of_ble_eq_true rfl) ⟨Nat.zero_le _, Nat.zero_le _⟩ dX4_stroke_7 rfl ?_
  refine lv_if_eq (tgt := 25) hx hb dX4_stroke_10 (by decide) (fun c_1 => ?_) (fun c_1 => ?_)
  · skip
    refine lv_iconst (v := 0) hx hb dX4_stroke_25 (by decide) ?_
    exact wr_i hx hb hr hlocks hAe hP hD hS dX4_stroke_26 (⟨by unfold f_X4_stroke; rw [if_pos c_1], by simp only [f_X4_stroke_fa, if_pos c_1]⟩)
  · skip
    refine lv_iload_n hx hb dX4_stroke_13 rfl (lv_at hl 2 rfl) ?_
    refine lv_i2l (v := k.toInt64) hx hb dX4_stroke_14 rfl ?_
    refine lv_lconst (v := 0) hx hb dX4_stroke_15 (by decide) ?_
    refine lv_ldc2 (v := 15) hx hb hown (kl_X4_88 ht) dX4_stroke_16 ?_
    refine rdS (As := [.long k.toInt64, .long 0, .long 15]) (rest := []) (st1 := [.int (f_X4_in k.toInt64 0 15)]) (k_X4_in l D (tysW cI cJ cZ) k.toInt64 0 15) (si_X4_69 ht ⟨Nat.le_of_ble_eq_true rfl, Nat.le_of_ble_eq_true rfl⟩) hx hb hml hown (hE.since hS) pNil hK rfl hl.1 rfl (Nat.le_of_ble_eq_true rfl) ⟨Nat.zero_le _, Nat.zero_le _⟩ dX4_stroke_19 rfl ?_
    refine lv_if_ne (tgt := 27) hx hb dX4_stroke_22 (by decide) (fun c_2 => ?_) (fun c_2 => ?_)
    · skip
      refine lv_aload_n hx hb dX4_stroke_27 rfl (lv_at hl 0 rfl) ?_
      refine va_get (D := D) (ci := 5) (v := .ref (a 2)) (C := RX4) (T := TX4) (N := 23) hx hb (lyX4 ht) (fun _ h9 => h9) hown hK hP 0 rfl rfl 9 (by decide) (fl_X4_20 ht) (fun _ h9 => h9) rfl dX4_stroke_28 ?_
      refine lv_aload_n hx hb dX4_stroke_31 rfl (lv_at hl 0 rfl) ?_
      refine va_get (D := D) (ci := 5) (v := .ref (a 6)) (C := RX4) (T := TX4) (N := 23) hx hb (lyX4 ht) (fun _ h9 => h9) hown hK hP 0 rfl rfl 13 (by decide) (fl_X4_33 ht) (fun _ h9 => h9) rfl dX4_stroke_32 ?_
      refine lv_iload_n hx hb dX4_stroke_35 rfl (lv_at hl 1 rfl) ?_
      refine va_iald hx hb hK hP 6 0 rfl rfl (hk c_1) dX4_stroke_36 ?_
      refine va_iald hx hb hK hP 2 0 rfl rfl (hq c_1) dX4_stroke_37 ?_
      refine lv_iload_n hx hb dX4_stroke_38 rfl (lv_at hl 2 rfl) ?_
      refine lv_aload_n hx hb dX4_stroke_39 rfl (lv_at hl 0 rfl) ?_
      refine va_get (D := D) (ci := 5) (v := .ref (a 7)) (C := RX4) (T := TX4) (N := 23) hx hb (lyX4 ht) (fun _ h9 => h9) hown hK hP 0 rfl rfl 14 (by decide) (fl_X4_36 ht) (fun _ h9 => h9) rfl dX4_stroke_40 ?_
      refine lv_iload_n hx hb dX4_stroke_43 rfl (lv_at hl 1 rfl) ?_
      refine va_iald hx hb hK hP 7 0 rfl rfl (hk c_1) dX4_stroke_44 ?_
      refine lv_isub hx hb dX4_stroke_45 ?_
      refine rdS (As := [.int (k - (ky r.toNatClampNeg))]) (rest := [.int (tp (kd r.toNatClampNeg).toNatClampNeg)]) (st1 := [.int (f_X4_c (k - (ky r.toNatClampNeg))), .int (tp (kd r.toNatClampNeg).toNatClampNeg)]) (k_X4_c l D (tysW cI cJ cZ) (k - (ky r.toNatClampNeg))) (si_X4_92 ht ⟨Nat.le_of_ble_eq_true rfl, Nat.le_of_ble_eq_true rfl⟩) hx hb hml hown (hE.since hS) pNil hK rfl hl.1 rfl (Nat.le_of_ble_eq_true rfl) ⟨Nat.zero_le _, Nat.zero_le _⟩ dX4_stroke_46 rfl ?_
      refine lv_imul hx hb dX4_stroke_49 ?_
      refine lv_istore_n (lv' := [(3, .int ((tp (kd r.toNatClampNeg).toNatClampNeg) * (f_X4_c (k - (ky r.toNatClampNeg))))), (0, .ref (a 0)), (1, .int r), (2, .int k)]) hx hb dX4_stroke_50 rfl hl (by decide) rfl (fun ls hl => ?_)
      refine lv_iload_n hx hb dX4_stroke_51 rfl (lv_at hl 0 rfl) ?_
      refine lv_bipush (v := 64) hx hb dX4_stroke_52 (by decide) ?_
      refine lv_idiv hx hb dX4_stroke_54 (by decide) ?_
      refine lv_istore (lv' := [(4, .int (((tp (kd r.toNatClampNeg).toNatClampNeg) * (f_X4_c (k - (ky r.toNatClampNeg)))) / 64)), (3, .int ((tp (kd r.toNatClampNeg).toNatClampNeg) * (f_X4_c (k - (ky r.toNatClampNeg))))), (0, .ref (a 0)), (1, .int r), (2, .int k)]) hx hb dX4_stroke_55 hl (by decide) rfl (fun ls hl => ?_)
      refine lv_iload_n hx hb dX4_stroke_57 rfl (lv_at hl 1 rfl) ?_
      refine lv_if_ge (tgt := 77) hx hb dX4_stroke_58 (by decide) (fun c_3 => ?_) (fun c_3 => ?_)
      · skip
        refine lv_iload hx hb dX4_stroke_77 (lv_at hl 0 rfl) ?_
        exact wr_i hx hb hr hlocks hAe hP hD hS dX4_stroke_79 (⟨by unfold f_X4_stroke; rw [if_neg c_1, if_neg c_2, if_pos c_3], by simp only [f_X4_stroke_fa, if_neg c_1, if_neg c_2, if_pos c_3]⟩)
      · skip
        refine lv_iload hx hb dX4_stroke_61 (lv_at hl 0 rfl) ?_
        refine lv_bipush (v := 64) hx hb dX4_stroke_63 (by decide) ?_
        refine lv_imul hx hb dX4_stroke_65 ?_
        refine lv_iload_n hx hb dX4_stroke_66 rfl (lv_at hl 1 rfl) ?_
        refine lv_icmp_eq (tgt := 77) hx hb dX4_stroke_67 (by decide) (fun c_4 => ?_) (fun c_4 => ?_)
        · skip
          refine lv_iload hx hb dX4_stroke_77 (lv_at hl 0 rfl) ?_
          exact wr_i hx hb hr hlocks hAe hP hD hS dX4_stroke_79 (⟨by unfold f_X4_stroke; rw [if_neg c_1, if_neg c_2, if_neg c_3, if_pos c_4], by simp only [f_X4_stroke_fa, if_neg c_1, if_neg c_2, if_neg c_3, if_pos c_4]⟩)
        · skip
          refine lv_iload hx hb dX4_stroke_70 (lv_at hl 0 rfl) ?_
          refine lv_iconst (v := 1) hx hb dX4_stroke_72 (by decide) ?_
          refine lv_isub hx hb dX4_stroke_73 ?_
          refine lv_goto (tgt := 79) hx hb dX4_stroke_74 (by decide) ?_
          exact wr_i hx hb hr hlocks hAe hP hD hS dX4_stroke_79 (⟨by unfold f_X4_stroke; rw [if_neg c_1, if_neg c_2, if_neg c_3, if_neg c_4], by simp only [f_X4_stroke_fa, if_neg c_1, if_neg c_2, if_neg c_3, if_neg c_4]⟩)
    · skip
      refine lv_iconst (v := 0) hx hb dX4_stroke_25 (by decide) ?_
      exact wr_i hx hb hr hlocks hAe hP hD hS dX4_stroke_26 (⟨by unfold f_X4_stroke; rw [if_neg c_1, if_pos c_2], by simp only [f_X4_stroke_fa, if_neg c_1, if_pos c_2]⟩)
end
section
/-! LOOPS: pure words -/
theorem nle_lt {x y : Int32} {a b : Nat} (h : ¬ x ≤ y) (hx : x = nI a) (hy : y = nI b) (ha : a < 2 ^ 31) (hb : b < 2 ^ 31) : b < a := by
  rw [hx, hy, nI_leI ha hb] at h; omega
theorem le_le {x y : Int32} {a b : Nat} (h : x ≤ y) (hx : x = nI a) (hy : y = nI b) (ha : a < 2 ^ 31) (hb : b < 2 ^ 31) : a ≤ b := by
  rw [hx, hy, nI_leI ha hb] at h; exact h
theorem in_of {z : Int32} {i N : Nat} (hz : z = nI i) (h : i < N) (hN : N < 2 ^ 31) : vp_in z N := by rw [hz]; exact vp_in_nI h hN
theorem cl_of {z : Int32} {i : Nat} (hz : z = nI i) (h : i < 2 ^ 31) : z.toNatClampNeg = i := by rw [hz]; exact nI_clamp h
theorem nI_s {z : Int32} {i : Nat} (hz : z = nI i) : z + 1 = nI (i + 1) := by rw [hz]; exact nI_1 i
/-- how many of the first i hold k -/
def cntK (f : Nat → Int32) (k : Int32) : Nat → Int32
  | 0 => 0
  | i + 1 => if f i = k then cntK f k i + 1 else cntK f k i
/-- the n-th place of k from i on, j places long -/
def lstK (f : Nat → Int32) (k n : Int32) : Nat → Nat → Int32 → Int32
  | 0, _, _ => -1
  | j + 1, i, q => if f i = k then (if q = n then nI i else lstK f k n j (i + 1) (q + 1)) else lstK f k n j (i + 1) q
/-- how many of the first i aren't 0 -/
def cntZ (f : Nat → Int32) : Nat → Int32
  | 0 => 0
  | i + 1 => if f i = 0 then cntZ f i else cntZ f i + 1
def sumF (f : Nat → Int64) : Nat → Int64
  | 0 => 0
  | i + 1 => sumF f i + f i
/-- v is added from lo on, ahead of hi -/
def shF (f : Nat → Int64) (v : Int64) (lo hi : Nat) : Nat → Int64 := fun j => if lo ≤ j ∧ j < hi then f j + v else f j
theorem shF_0 (f : Nat → Int64) (v : Int64) (lo : Nat) : f = shF f v lo lo := by
  funext j; unfold shF; rw [if_neg (by omega)]
theorem shF_s (f : Nat → Int64) (v : Int64) (lo i : Nat) (h : lo ≤ i) : vp_updL (shF f v lo i) i (shF f v lo i i + v) = shF f v lo (i + 1) := by
  funext j
  unfold vp_updL shF
  by_cases hj : j = i
  · subst hj; rw [if_pos rfl, if_neg (by omega), if_pos (by omega)]
  · rw [if_neg hj]
    by_cases h2 : lo ≤ j ∧ j < i
    · rw [if_pos h2, if_pos (by omega)]
    · rw [if_neg h2, if_neg (by omega)]
theorem nI_off {z : Int32} {i : Nat} (hz : z = nI i) : z = nI i := hz
set_option maxRecDepth 20000 in
set_option maxHeartbeats 4000000 in
theorem k_X4_usedOf (l : Launch) (D : va_G) (cI cJ cZ : ClassId) (a : Nat → Nat) (fa rg bu pn pl ja lk nk bl : Int32) (bs : Int64) (bk be : Int32) (al tp st mx my kd ky : Nat → Int32) (gx gy gu gv : Nat → Int64) (k : Int32) (S : Nat) (hS : bu + pn = nI S) (h24 : S ≤ 24) : RD l yX4_usedOf cX4_usedOf 4 (some .int) 0 D (tysW cI cJ cZ) (wM cI cJ cZ a fa rg bu pn pl ja lk nk bl bs bk be al tp st mx my kd ky gx gy gu gv) [.ref (a 0), .int k] (some (.int (cntK kd k S))) := by
  refine RD.of (by decide) ?_
  intro p e s m below meth c hx hb hr hml hown hlocks hE hP hK
  have hown : s.vm.findClass RX4 = some m.cls := hown
  have ht : tb_OK s := hE.1
  have hl := lv_entry ([.ref (a 0), .int k]) (n := 4) (Nat.le_of_ble_eq_true rfl)
  rw [lg_entry_eq]
  generalize (lg_sl ([.ref (a 0), .int k]) ++ List.replicate (4 - (lg_sl ([.ref (a 0), .int k])).length) Slot.unset).toArray = ls at hl ⊢
  have hl : lv_has ls 4 [(0, .ref (a 0)), (1, .int k)] := hl
  refine lv_iconst (v := 0) hx hb dX4_usedOf_0 (by decide) ?_
  refine lv_istore_n (lv' := [(2, .int 0), (0, .ref (a 0)), (1, .int k)]) hx hb dX4_usedOf_1 rfl hl (by decide) rfl (fun ls hl => ?_)
  refine lv_iconst (v := 0) hx hb dX4_usedOf_2 (by decide) ?_
  refine lv_istore_n (lv' := [(3, .int 0), (2, .int 0), (0, .ref (a 0)), (1, .int k)]) hx hb dX4_usedOf_3 rfl hl (by decide) rfl (fun ls hl => ?_)
  have lp : ∀ (N : Nat) (i : Nat) (q : Int32) (z : Int32) , (z = nI i) → (i ≤ S) → (q = cntK kd k i) → S - i < N → ∀ (ls : Array Slot), lv_has ls 4 [(3, .int z), (2, .int q), (0, .ref (a 0)), (1, .int k)] → W p l e (rmD 0 0 0) s m ([.ref (a 0), .int k] : List Value).toArray below meth c s.heap [] 0 0 (MQ below (QcR (some (.int (cntK kd k S)))) ([.ref (a 0), .int k] : List Value).toArray s 0 0 (fun _ => False)) (F0 m 4 ls []) := by
    intro N
    induction N with
    | zero => intro i q z _ _ _ hN; exact absurd hN (Nat.not_lt_zero _)
    | succ N lp_ih =>
      intro i q z hz hi hq hN ls hl
      refine lv_iload_n hx hb dX4_usedOf_4 rfl (lv_at hl 0 rfl) ?_
      refine lv_aload_n hx hb dX4_usedOf_5 rfl (lv_at hl 2 rfl) ?_
      refine va_get (D := D) (ci := 5) (v := .int bu) (C := RX4) (T := TX4) (N := 23) hx hb (lyX4 ht) (fun _ h9 => h9) hown hK hP 0 rfl rfl 2 (by decide) (fl_X4_61 ht) (fun _ h9 => h9) rfl dX4_usedOf_6 ?_
      refine lv_aload_n hx hb dX4_usedOf_9 rfl (lv_at hl 2 rfl) ?_
      refine va_get (D := D) (ci := 5) (v := .int pn) (C := RX4) (T := TX4) (N := 23) hx hb (lyX4 ht) (fun _ h9 => h9) hown hK hP 0 rfl rfl 3 (by decide) (fl_X4_64 ht) (fun _ h9 => h9) rfl dX4_usedOf_10 ?_
      refine lv_iadd hx hb dX4_usedOf_13 ?_
      refine lv_icmp_ge (tgt := 41) hx hb dX4_usedOf_14 (by decide) (fun c_1 => ?_) (fun c_1 => ?_)
      · skip
        refine lv_iload_n hx hb dX4_usedOf_41 rfl (lv_at hl 1 rfl) ?_
        exact rd_i hx hb hr hlocks dX4_usedOf_42 (by have h9 := le_le c_1 hS hz (by omega) (by omega); rw [hq, show i = S by omega])
      · skip
        refine lv_aload_n hx hb dX4_usedOf_17 rfl (lv_at hl 2 rfl) ?_
        refine va_get (D := D) (ci := 5) (v := .ref (a 6)) (C := RX4) (T := TX4) (N := 23) hx hb (lyX4 ht) (fun _ h9 => h9) hown hK hP 0 rfl rfl 13 (by decide) (fl_X4_33 ht) (fun _ h9 => h9) rfl dX4_usedOf_18 ?_
        refine lv_iload_n hx hb dX4_usedOf_21 rfl (lv_at hl 0 rfl) ?_
        refine va_iald hx hb hK hP 6 0 rfl rfl (in_of hz (by have := (nle_lt c_1 hS hz (by omega) (by omega)); omega : i < 24) (by decide)) dX4_usedOf_22 ?_
        refine lv_iload_n hx hb dX4_usedOf_23 rfl (lv_at hl 3 rfl) ?_
        refine lv_icmp_ne (tgt := 33) hx hb dX4_usedOf_24 (by decide) (fun c_2 => ?_) (fun c_2 => ?_)
        · skip
          refine lv_iload_n hx hb dX4_usedOf_33 rfl (lv_at hl 1 rfl) ?_
          refine lv_istore_n (lv' := [(2, .int q), (3, .int z), (0, .ref (a 0)), (1, .int k)]) hx hb dX4_usedOf_34 rfl hl (by decide) rfl (fun ls hl => ?_)
          have h8 := (nle_lt c_1 hS hz (by omega) (by omega))
          refine lv_iinc (v := z + 1) (lv' := [(3, .int (z + 1)), (2, .int q), (0, .ref (a 0)), (1, .int k)]) hx hb dX4_usedOf_35 hl (k := 1) rfl rfl (by decide) rfl (fun ls hl => ?_)
          refine lv_goto (tgt := 4) hx hb dX4_usedOf_38 (by decide) ?_
          exact lp_ih (i + 1) q (z + 1) (nI_s hz) (by have := (nle_lt c_1 hS hz (by omega) (by omega)); omega) (by have h9 := cl_of hz (by omega); rw [hq]; simp only [cntK]; rw [← h9, if_neg c_2]) (by omega) ls (lv_sub hl [0, 1, 2, 3] rfl)
        · skip
          refine lv_iload_n hx hb dX4_usedOf_27 rfl (lv_at hl 1 rfl) ?_
          refine lv_iconst (v := 1) hx hb dX4_usedOf_28 (by decide) ?_
          refine lv_iadd hx hb dX4_usedOf_29 ?_
          refine lv_goto (tgt := 34) hx hb dX4_usedOf_30 (by decide) ?_
          refine lv_istore_n (lv' := [(2, .int (q + 1)), (3, .int z), (0, .ref (a 0)), (1, .int k)]) hx hb dX4_usedOf_34 rfl hl (by decide) rfl (fun ls hl => ?_)
          have h8 := (nle_lt c_1 hS hz (by omega) (by omega))
          refine lv_iinc (v := z + 1) (lv' := [(3, .int (z + 1)), (2, .int (q + 1)), (0, .ref (a 0)), (1, .int k)]) hx hb dX4_usedOf_35 hl (k := 1) rfl rfl (by decide) rfl (fun ls hl => ?_)
          refine lv_goto (tgt := 4) hx hb dX4_usedOf_38 (by decide) ?_
          exact lp_ih (i + 1) (q + 1) (z + 1) (nI_s hz) (by have := (nle_lt c_1 hS hz (by omega) (by omega)); omega) (by have h9 := cl_of hz (by omega); rw [hq]; simp only [cntK]; rw [← h9, if_pos c_2]) (by omega) ls (lv_sub hl [0, 1, 2, 3] rfl)
  exact lp _ 0 0 0 rfl (Nat.zero_le _) rfl (Nat.lt_succ_self _) ls (lv_sub hl [0, 1, 2, 3] rfl)
end
section
def f_X4_sum (S : Nat) (mx : Nat → Int32) (my : Nat → Int32) (gx : Nat → Int64) (gy : Nat → Int64) : Int64 := sumF (fun j => f_X4_offOf (nI j) mx my gx gy) S
def f_X4_sum_fa  : Int32 := 0
set_option maxRecDepth 20000 in
set_option maxHeartbeats 4000000 in
theorem k_X4_sum (l : Launch) (D : va_G) (cI cJ cZ : ClassId) (a : Nat → Nat) (fa rg bu pn pl ja lk nk bl : Int32) (bs : Int64) (bk be : Int32) (al tp st mx my kd ky : Nat → Int32) (gx gy gu gv : Nat → Int64) (S : Nat) (gS : bu + pn = nI S) (h24 : S ≤ 24) : WR l yX4_sum cX4_sum 4 (some .long) 1 0 0 D (tysW cI cJ cZ) (wM cI cJ cZ a fa rg bu pn pl ja lk nk bl bs bk be al tp st mx my kd ky gx gy gu gv) [.ref (a 0)] (fun ov w' => ov = some (.long (f_X4_sum S mx my gx gy)) ∧ w' = wM cI cJ cZ a f_X4_sum_fa rg bu pn pl ja lk nk bl bs bk be al tp st mx my kd ky gx gy gu gv) := by
  refine WR.of (by decide) ?_
  intro p e s m below meth c A hadm hx hb hr hml hown hlocks hname hE hP hK hD hS hA hAe
  have hown : s.vm.findClass RX4 = some m.cls := hown
  have ht : tb_OK s := hE.1
  have hl := lv_entry ([.ref (a 0)]) (n := 4) (Nat.le_of_ble_eq_true rfl)
  rw [lg_entry_eq]
  generalize (lg_sl ([.ref (a 0)]) ++ List.replicate (4 - (lg_sl ([.ref (a 0)])).length) Slot.unset).toArray = ls at hl ⊢
  have hl : lv_has ls 4 [(0, .ref (a 0))] := hl
  refine lv_aload_n hx hb dX4_sum_0 rfl (lv_at hl 0 rfl) ?_
  refine lv_iconst (v := 0) hx hb dX4_sum_1 (by decide) ?_
  refine va_put (D := D) (ci := 5) (v := .int 0) (ty := .int) (C := RX4) (T := TX4) (N := 23) hx hb (lyX4 ht) (fun _ h9 => h9) tyX4 tyX4_ok nmX4 hown hK hP hD hS 0 rfl rfl 0 (by decide) (fl_X4_55 ht) (fun _ h9 => h9) rfl (by decide +kernel) rfl rfl (Nat.le_of_ble_eq_true rfl) dX4_sum_2 (fun H locs hP hD hS => ?_)
  have hP : va_P D vwCl (wM cI cJ cZ a 0 rg bu pn pl ja lk nk bl bs bk be al tp st mx my kd ky gx gy gu gv) H := hP
  have hD : va_D A (wM cI cJ cZ a 0 rg bu pn pl ja lk nk bl bs bk be al tp st mx my kd ky gx gy gu gv) := hD
  refine lv_lconst (v := 0) hx hb dX4_sum_5 (by decide) ?_
  refine lv_lstore_n (lv' := [(1, .long 0), (0, .ref (a 0))]) hx hb dX4_sum_6 rfl hl (by decide) rfl (fun ls hl => ?_)
  refine lv_iconst (v := 0) hx hb dX4_sum_7 (by decide) ?_
  refine lv_istore_n (lv' := [(3, .int 0), (1, .long 0), (0, .ref (a 0))]) hx hb dX4_sum_8 rfl hl (by decide) rfl (fun ls hl => ?_)
  have lp : ∀ (N : Nat) (i : Nat) (q : Int64) (z : Int32) , (z = nI i) → (i ≤ S) → (q = sumF (fun j => f_X4_offOf (nI j) mx my gx gy) i) → S - i < N → ∀ (H : Heap) (locs : List Loc), va_P D vwCl (wM cI cJ cZ a 0 rg bu pn pl ja lk nk bl bs bk be al tp st mx my kd ky gx gy gu gv) H → va_D A (wM cI cJ cZ a 0 rg bu pn pl ja lk nk bl bs bk be al tp st mx my kd ky gx gy gu gv) → va_S A s.heap H locs → ∀ (ls : Array Slot), lv_has ls 4 [(3, .int z), (1, .long q), (0, .ref (a 0))] → W p l e (rmD 1 0 0) s m ([.ref (a 0)] : List Value).toArray below meth c H locs 0 0 (MQ below (QcW D (wM cI cJ cZ a fa rg bu pn pl ja lk nk bl bs bk be al tp st mx my kd ky gx gy gu gv) s.heap.size (fun ov w' => ov = some (.long (f_X4_sum S mx my gx gy)) ∧ w' = wM cI cJ cZ a f_X4_sum_fa rg bu pn pl ja lk nk bl bs bk be al tp st mx my kd ky gx gy gu gv)) ([.ref (a 0)] : List Value).toArray s 0 0 A) (F0 m 9 ls []) := by
    intro N
    induction N with
    | zero => intro i q z _ _ _ hN; exact absurd hN (Nat.not_lt_zero _)
    | succ N lp_ih =>
      intro i q z hz hi hq hN H locs hP hD hS ls hl
      refine lv_iload_n hx hb dX4_sum_9 rfl (lv_at hl 0 rfl) ?_
      refine lv_aload_n hx hb dX4_sum_10 rfl (lv_at hl 2 rfl) ?_
      refine va_get (D := D) (ci := 5) (v := .int bu) (C := RX4) (T := TX4) (N := 23) hx hb (lyX4 ht) (fun _ h9 => h9) hown hK hP 0 rfl rfl 2 (by decide) (fl_X4_61 ht) (fun _ h9 => h9) rfl dX4_sum_11 ?_
      refine lv_aload_n hx hb dX4_sum_14 rfl (lv_at hl 2 rfl) ?_
      refine va_get (D := D) (ci := 5) (v := .int pn) (C := RX4) (T := TX4) (N := 23) hx hb (lyX4 ht) (fun _ h9 => h9) hown hK hP 0 rfl rfl 3 (by decide) (fl_X4_64 ht) (fun _ h9 => h9) rfl dX4_sum_15 ?_
      refine lv_iadd hx hb dX4_sum_18 ?_
      refine lv_icmp_ge (tgt := 36) hx hb dX4_sum_19 (by decide) (fun c_1 => ?_) (fun c_1 => ?_)
      · skip
        have h9 := (le_le c_1 gS hz (by omega) (by omega))
        have e_q : q = sumF (fun j => f_X4_offOf (nI j) mx my gx gy) S := (by rw [hq, show i = S by omega])
        rw [e_q] at hl
        refine lv_lload_n hx hb dX4_sum_36 rfl (lv_at hl 1 rfl) ?_
        exact wr_l hx hb hr hlocks hAe hP hD hS dX4_sum_37 (⟨rfl, rfl⟩)
      · skip
        refine lv_lload_n hx hb dX4_sum_22 rfl (lv_at hl 1 rfl) ?_
        refine lv_aload_n hx hb dX4_sum_23 rfl (lv_at hl 2 rfl) ?_
        refine lv_iload_n hx hb dX4_sum_24 rfl (lv_at hl 0 rfl) ?_
        refine rdV (As := [.int z]) (rest := [.long q]) (st1 := [.long (f_X4_offOf z mx my gx gy), .long q]) (k_X4_offOf l D cI cJ cZ a 0 rg bu pn pl ja lk nk bl bs bk be al tp st mx my kd ky gx gy gu gv z (in_of hz (by have := (nle_lt c_1 gS hz (by omega) (by omega)); omega : i < 24) (by decide))) (si_X4_120 ht ⟨Nat.le_of_ble_eq_true rfl, Nat.le_of_ble_eq_true rfl⟩) hx hb hml hown (va_recv hK hP (ci := 5) (q0 := 0) rfl rfl) (hE.since hS) hP hK rfl hl.1 rfl (Nat.le_of_ble_eq_true rfl) ⟨Nat.zero_le _, Nat.zero_le _⟩ dX4_sum_25 rfl ?_
        refine lv_ladd hx hb dX4_sum_28 ?_
        refine lv_lstore_n (lv' := [(1, .long (q + (f_X4_offOf z mx my gx gy))), (3, .int z), (0, .ref (a 0))]) hx hb dX4_sum_29 rfl hl (by decide) rfl (fun ls hl => ?_)
        have h8 := (nle_lt c_1 gS hz (by omega) (by omega))
        refine lv_iinc (v := z + 1) (lv' := [(3, .int (z + 1)), (1, .long (q + (f_X4_offOf z mx my gx gy))), (0, .ref (a 0))]) hx hb dX4_sum_30 hl (k := 1) rfl rfl (by decide) rfl (fun ls hl => ?_)
        refine lv_goto (tgt := 9) hx hb dX4_sum_33 (by decide) ?_
        exact lp_ih (i + 1) (q + (f_X4_offOf z mx my gx gy)) (z + 1) (nI_s hz) (by have := (nle_lt c_1 gS hz (by omega) (by omega)); omega) (by rw [hq, hz]; rfl) (by omega) _ _ hP hD hS ls (lv_sub hl [0, 1, 2] rfl)
  exact lp _ 0 0 0 rfl (Nat.zero_le _) rfl (Nat.lt_succ_self _) _ _ hP hD hS ls (lv_sub hl [0, 1, 2] rfl)
set_option maxRecDepth 20000 in
set_option maxHeartbeats 4000000 in
theorem k_X4_list (l : Launch) (D : va_G) (cI cJ cZ : ClassId) (a : Nat → Nat) (fa rg bu pn pl ja lk nk bl : Int32) (bs : Int64) (bk be : Int32) (al tp st mx my kd ky : Nat → Int32) (gx gy gu gv : Nat → Int64) (k : Int32) (j : Int32) (S : Nat) (gS : bu + pn = nI S) (h24 : S ≤ 24) : WR l yX4_list cX4_list 5 (some .int) 0 0 0 D (tysW cI cJ cZ) (wM cI cJ cZ a fa rg bu pn pl ja lk nk bl bs bk be al tp st mx my kd ky gx gy gu gv) [.ref (a 0), .int k, .int j] (fun ov w' => ov = some (.int (lstK kd k j S 0 0)) ∧ w' = wM cI cJ cZ a 0 rg bu pn pl ja lk nk bl bs bk be al tp st mx my kd ky gx gy gu gv) := by
  refine WR.of (by decide) ?_
  intro p e s m below meth c A hadm hx hb hr hml hown hlocks hname hE hP hK hD hS hA hAe
  have hown : s.vm.findClass RX4 = some m.cls := hown
  have ht : tb_OK s := hE.1
  have hl := lv_entry ([.ref (a 0), .int k, .int j]) (n := 5) (Nat.le_of_ble_eq_true rfl)
  rw [lg_entry_eq]
  generalize (lg_sl ([.ref (a 0), .int k, .int j]) ++ List.replicate (5 - (lg_sl ([.ref (a 0), .int k, .int j])).length) Slot.unset).toArray = ls at hl ⊢
  have hl : lv_has ls 5 [(0, .ref (a 0)), (1, .int k), (2, .int j)] := hl
  refine lv_aload_n hx hb dX4_list_0 rfl (lv_at hl 0 rfl) ?_
  refine lv_iconst (v := 0) hx hb dX4_list_1 (by decide) ?_
  refine va_put (D := D) (ci := 5) (v := .int 0) (ty := .int) (C := RX4) (T := TX4) (N := 23) hx hb (lyX4 ht) (fun _ h9 => h9) tyX4 tyX4_ok nmX4 hown hK hP hD hS 0 rfl rfl 0 (by decide) (fl_X4_55 ht) (fun _ h9 => h9) rfl (by decide +kernel) rfl rfl (Nat.le_of_ble_eq_true rfl) dX4_list_2 (fun H locs hP hD hS => ?_)
  have hP : va_P D vwCl (wM cI cJ cZ a 0 rg bu pn pl ja lk nk bl bs bk be al tp st mx my kd ky gx gy gu gv) H := hP
  have hD : va_D A (wM cI cJ cZ a 0 rg bu pn pl ja lk nk bl bs bk be al tp st mx my kd ky gx gy gu gv) := hD
  refine lv_iconst (v := 0) hx hb dX4_list_5 (by decide) ?_
  refine lv_istore_n (lv' := [(3, .int 0), (0, .ref (a 0)), (1, .int k), (2, .int j)]) hx hb dX4_list_6 rfl hl (by decide) rfl (fun ls hl => ?_)
  refine lv_iconst (v := 0) hx hb dX4_list_7 (by decide) ?_
  refine lv_istore (lv' := [(4, .int 0), (3, .int 0), (0, .ref (a 0)), (1, .int k), (2, .int j)]) hx hb dX4_list_8 hl (by decide) rfl (fun ls hl => ?_)
  have lp : ∀ (N : Nat) (i : Nat) (q : Int32) (z : Int32) , (z = nI i) → (i ≤ S) → (lstK kd k j (S - i) i q = lstK kd k j S 0 0) → S - i < N → ∀ (H : Heap) (locs : List Loc), va_P D vwCl (wM cI cJ cZ a 0 rg bu pn pl ja lk nk bl bs bk be al tp st mx my kd ky gx gy gu gv) H → va_D A (wM cI cJ cZ a 0 rg bu pn pl ja lk nk bl bs bk be al tp st mx my kd ky gx gy gu gv) → va_S A s.heap H locs → ∀ (ls : Array Slot), lv_has ls 5 [(4, .int z), (3, .int q), (0, .ref (a 0)), (1, .int k), (2, .int j)] → W p l e (rmD 0 0 0) s m ([.ref (a 0), .int k, .int j] : List Value).toArray below meth c H locs 0 0 (MQ below (QcW D (wM cI cJ cZ a fa rg bu pn pl ja lk nk bl bs bk be al tp st mx my kd ky gx gy gu gv) s.heap.size (fun ov w' => ov = some (.int (lstK kd k j S 0 0)) ∧ w' = wM cI cJ cZ a 0 rg bu pn pl ja lk nk bl bs bk be al tp st mx my kd ky gx gy gu gv)) ([.ref (a 0), .int k, .int j] : List Value).toArray s 0 0 A) (F0 m 10 ls []) := by
    intro N
    induction N with
    | zero => intro i q z _ _ _ hN; exact absurd hN (Nat.not_lt_zero _)
    | succ N lp_ih =>
      intro i q z hz hi hq hN H locs hP hD hS ls hl
      refine lv_iload hx hb dX4_list_10 (lv_at hl 0 rfl) ?_
      refine lv_aload_n hx hb dX4_list_12 rfl (lv_at hl 2 rfl) ?_
      refine va_get (D := D) (ci := 5) (v := .int bu) (C := RX4) (T := TX4) (N := 23) hx hb (lyX4 ht) (fun _ h9 => h9) hown hK hP 0 rfl rfl 2 (by decide) (fl_X4_61 ht) (fun _ h9 => h9) rfl dX4_list_13 ?_
      refine lv_aload_n hx hb dX4_list_16 rfl (lv_at hl 2 rfl) ?_
      refine va_get (D := D) (ci := 5) (v := .int pn) (C := RX4) (T := TX4) (N := 23) hx hb (lyX4 ht) (fun _ h9 => h9) hown hK hP 0 rfl rfl 3 (by decide) (fl_X4_64 ht) (fun _ h9 => h9) rfl dX4_list_17 ?_
      refine lv_iadd hx hb dX4_list_20 ?_
      refine lv_icmp_ge (tgt := 52) hx hb dX4_list_21 (by decide) (fun c_1 => ?_) (fun c_1 => ?_)
      · skip
        refine lv_iconst (v := -1) hx hb dX4_list_52 (by decide) ?_
        exact wr_i hx hb hr hlocks hAe hP hD hS dX4_list_53 (⟨by congr 2; have h8 := (le_le c_1 gS hz (by omega) (by omega)); rw [← hq, show S - i = 0 by omega]; rfl, rfl⟩)
      · skip
        refine lv_aload_n hx hb dX4_list_24 rfl (lv_at hl 2 rfl) ?_
        refine va_get (D := D) (ci := 5) (v := .ref (a 6)) (C := RX4) (T := TX4) (N := 23) hx hb (lyX4 ht) (fun _ h9 => h9) hown hK hP 0 rfl rfl 13 (by decide) (fl_X4_33 ht) (fun _ h9 => h9) rfl dX4_list_25 ?_
        refine lv_iload hx hb dX4_list_28 (lv_at hl 0 rfl) ?_
        refine va_iald hx hb hK hP 6 0 rfl rfl (in_of hz (by have := (nle_lt c_1 gS hz (by omega) (by omega)); omega : i < 24) (by decide)) dX4_list_30 ?_
        refine lv_iload_n hx hb dX4_list_31 rfl (lv_at hl 3 rfl) ?_
        refine lv_icmp_ne (tgt := 46) hx hb dX4_list_32 (by decide) (fun c_2 => ?_) (fun c_2 => ?_)
        · skip
          have h8 := (nle_lt c_1 gS hz (by omega) (by omega))
          refine lv_iinc (v := z + 1) (lv' := [(4, .int (z + 1)), (3, .int q), (0, .ref (a 0)), (1, .int k), (2, .int j)]) hx hb dX4_list_46 hl (k := 0) rfl rfl (by decide) rfl (fun ls hl => ?_)
          refine lv_goto (tgt := 10) hx hb dX4_list_49 (by decide) ?_
          exact lp_ih (i + 1) q (z + 1) (nI_s hz) (by have := (nle_lt c_1 gS hz (by omega) (by omega)); omega) (by have h9 := cl_of hz (by omega); have e1 := c_2; rw [h9] at e1; rw [← hq, show S - i = (S - (i + 1)) + 1 by omega]; simp only [lstK]; rw [if_neg e1]) (by omega) _ _ hP hD hS ls (lv_sub hl [0, 1, 2, 3, 4] rfl)
        · skip
          refine lv_iload_n hx hb dX4_list_35 rfl (lv_at hl 1 rfl) ?_
          refine lv_iload_n hx hb dX4_list_36 rfl (lv_at hl 4 rfl) ?_
          refine lv_icmp_ne (tgt := 43) hx hb dX4_list_37 (by decide) (fun c_3 => ?_) (fun c_3 => ?_)
          · skip
            refine lv_iinc (v := q + 1) (lv' := [(3, .int (q + 1)), (4, .int z), (0, .ref (a 0)), (1, .int k), (2, .int j)]) hx hb dX4_list_43 hl (k := 1) rfl rfl (by decide) rfl (fun ls hl => ?_)
            have h8 := (nle_lt c_1 gS hz (by omega) (by omega))
            refine lv_iinc (v := z + 1) (lv' := [(4, .int (z + 1)), (3, .int (q + 1)), (0, .ref (a 0)), (1, .int k), (2, .int j)]) hx hb dX4_list_46 hl (k := 1) rfl rfl (by decide) rfl (fun ls hl => ?_)
            refine lv_goto (tgt := 10) hx hb dX4_list_49 (by decide) ?_
            exact lp_ih (i + 1) (q + 1) (z + 1) (nI_s hz) (by have := (nle_lt c_1 gS hz (by omega) (by omega)); omega) (by have h9 := cl_of hz (by omega); have e1 := c_2; rw [h9] at e1; rw [← hq, show S - i = (S - (i + 1)) + 1 by omega]; simp only [lstK]; rw [if_pos e1, if_neg c_3]) (by omega) _ _ hP hD hS ls (lv_sub hl [0, 1, 2, 3, 4] rfl)
          · skip
            refine lv_iload hx hb dX4_list_40 (lv_at hl 0 rfl) ?_
            exact wr_i hx hb hr hlocks hAe hP hD hS dX4_list_42 (⟨by congr 2; have h8 := (nle_lt c_1 gS hz (by omega) (by omega)); have h9 := cl_of hz (by omega); have e1 := c_2; rw [h9] at e1; rw [← hq, show S - i = (S - (i + 1)) + 1 by omega]; simp only [lstK]; rw [if_pos e1, if_pos c_3]; exact hz, rfl⟩)
  exact lp _ 0 0 0 rfl (Nat.zero_le _) rfl (Nat.lt_succ_self _) _ _ hP hD hS ls (lv_sub hl [0, 1, 2, 3, 4] rfl)
def f_X4_count (k : Int32) (rg : Int32) (bu : Int32) (pn : Int32) (pl : Int32) (ja : Int32) (lk : Int32) (nk : Int32) (al : Nat → Int32) : Int32 := if (f_X4_in k.toInt64 0 7) = 0 then 0 else (if k = 0 then rg else (if k = 1 then bu else (if k = 2 then pn else (if k = 3 then nk else (if k = 4 then ja else (if k = 5 then lk else (if k = 6 then (cntZ al 16) else pl)))))))
def f_X4_count_fa (k : Int32) : Int32 := if (f_X4_in k.toInt64 0 7) = 0 then 1 else (if k = 0 then 0 else (if k = 1 then 0 else (if k = 2 then 0 else (if k = 3 then 0 else (if k = 4 then 0 else (if k = 5 then 0 else (if k = 6 then 0 else 0)))))))
set_option maxRecDepth 20000 in
set_option maxHeartbeats 4000000 in
theorem k_X4_count (l : Launch) (D : va_G) (cI cJ cZ : ClassId) (a : Nat → Nat) (fa rg bu pn pl ja lk nk bl : Int32) (bs : Int64) (bk be : Int32) (al tp st mx my kd ky : Nat → Int32) (gx gy gu gv : Nat → Int64) (k : Int32) : WR l yX4_count cX4_count 4 (some .int) 1 0 0 D (tysW cI cJ cZ) (wM cI cJ cZ a fa rg bu pn pl ja lk nk bl bs bk be al tp st mx my kd ky gx gy gu gv) [.ref (a 0), .int k] (fun ov w' => ov = some (.int (f_X4_count k rg bu pn pl ja lk nk al)) ∧ w' = wM cI cJ cZ a (f_X4_count_fa k) rg bu pn pl ja lk nk bl bs bk be al tp st mx my kd ky gx gy gu gv) := by
  refine WR.of (by decide) ?_
  intro p e s m below meth c A hadm hx hb hr hml hown hlocks hname hE hP hK hD hS hA hAe
  have hown : s.vm.findClass RX4 = some m.cls := hown
  have ht : tb_OK s := hE.1
  have hl := lv_entry ([.ref (a 0), .int k]) (n := 4) (Nat.le_of_ble_eq_true rfl)
  rw [lg_entry_eq]
  generalize (lg_sl ([.ref (a 0), .int k]) ++ List.replicate (4 - (lg_sl ([.ref (a 0), .int k])).length) Slot.unset).toArray = ls at hl ⊢
  have hl : lv_has ls 4 [(0, .ref (a 0)), (1, .int k)] := hl
  refine lv_aload_n hx hb dX4_count_0 rfl (lv_at hl 0 rfl) ?_
  refine lv_iload_n hx hb dX4_count_1 rfl (lv_at hl 1 rfl) ?_
  refine lv_i2l (v := k.toInt64) hx hb dX4_count_2 rfl ?_
  refine lv_lconst (v := 0) hx hb dX4_count_3 (by decide) ?_
  refine lv_ldc2 (v := 7) hx hb hown (kl_X4_147 ht) dX4_count_4 ?_
  refine rdS (As := [.long k.toInt64, .long 0, .long 7]) (rest := [.ref (a 0)]) (st1 := [.int (f_X4_in k.toInt64 0 7), .ref (a 0)]) (k_X4_in l D (tysW cI cJ cZ) k.toInt64 0 7) (si_X4_69 ht ⟨Nat.le_of_ble_eq_true rfl, Nat.le_of_ble_eq_true rfl⟩) hx hb hml hown (hE.since hS) pNil hK rfl hl.1 rfl (Nat.le_of_ble_eq_true rfl) ⟨Nat.zero_le _, Nat.zero_le _⟩ dX4_count_7 rfl ?_
  refine lv_if_eq (tgt := 17) hx hb dX4_count_10 (by decide) (fun c_1 => ?_) (fun c_1 => ?_)
  · skip
    refine lv_iconst (v := 1) hx hb dX4_count_17 (by decide) ?_
    refine va_put (D := D) (ci := 5) (v := .int 1) (ty := .int) (C := RX4) (T := TX4) (N := 23) hx hb (lyX4 ht) (fun _ h9 => h9) tyX4 tyX4_ok nmX4 hown hK hP hD hS 0 rfl rfl 0 (by decide) (fl_X4_55 ht) (fun _ h9 => h9) rfl (by decide +kernel) rfl rfl (Nat.le_of_ble_eq_true rfl) dX4_count_18 (fun H locs hP hD hS => ?_)
    have hP : va_P D vwCl (wM cI cJ cZ a 1 rg bu pn pl ja lk nk bl bs bk be al tp st mx my kd ky gx gy gu gv) H := hP
    have hD : va_D A (wM cI cJ cZ a 1 rg bu pn pl ja lk nk bl bs bk be al tp st mx my kd ky gx gy gu gv) := hD
    refine lv_aload_n hx hb dX4_count_21 rfl (lv_at hl 0 rfl) ?_
    refine va_get (D := D) (ci := 5) (v := .int 1) (C := RX4) (T := TX4) (N := 23) hx hb (lyX4 ht) (fun _ h9 => h9) hown hK hP 0 rfl rfl 0 (by decide) (fl_X4_55 ht) (fun _ h9 => h9) rfl dX4_count_22 ?_
    refine lv_if_le (tgt := 30) hx hb dX4_count_25 (by decide) (fun c_2 => absurd c_2 (by decide)) (fun c_2 => ?_)
    refine lv_iconst (v := 0) hx hb dX4_count_28 (by decide) ?_
    exact wr_i hx hb hr hlocks hAe hP hD hS dX4_count_29 (⟨by unfold f_X4_count; rw [if_pos c_1], by simp only [f_X4_count_fa, if_pos c_1]⟩)
  · skip
    refine lv_iconst (v := 0) hx hb dX4_count_13 (by decide) ?_
    refine lv_goto (tgt := 18) hx hb dX4_count_14 (by decide) ?_
    refine va_put (D := D) (ci := 5) (v := .int 0) (ty := .int) (C := RX4) (T := TX4) (N := 23) hx hb (lyX4 ht) (fun _ h9 => h9) tyX4 tyX4_ok nmX4 hown hK hP hD hS 0 rfl rfl 0 (by decide) (fl_X4_55 ht) (fun _ h9 => h9) rfl (by decide +kernel) rfl rfl (Nat.le_of_ble_eq_true rfl) dX4_count_18 (fun H locs hP hD hS => ?_)
    have hP : va_P D vwCl (wM cI cJ cZ a 0 rg bu pn pl ja lk nk bl bs bk be al tp st mx my kd ky gx gy gu gv) H := hP
    have hD : va_D A (wM cI cJ cZ a 0 rg bu pn pl ja lk nk bl bs bk be al tp st mx my kd ky gx gy gu gv) := hD
    refine lv_aload_n hx hb dX4_count_21 rfl (lv_at hl 0 rfl) ?_
    refine va_get (D := D) (ci := 5) (v := .int 0) (C := RX4) (T := TX4) (N := 23) hx hb (lyX4 ht) (fun _ h9 => h9) hown hK hP 0 rfl rfl 0 (by decide) (fl_X4_55 ht) (fun _ h9 => h9) rfl dX4_count_22 ?_
    refine lv_if_le (tgt := 30) hx hb dX4_count_25 (by decide) (fun c_3 => ?_) (fun c_3 => absurd (by decide) c_3)
    refine lv_iconst (v := 0) hx hb dX4_count_30 (by decide) ?_
    refine lv_istore_n (lv' := [(2, .int 0), (0, .ref (a 0)), (1, .int k)]) hx hb dX4_count_31 rfl hl (by decide) rfl (fun ls hl => ?_)
    refine lv_iconst (v := 0) hx hb dX4_count_32 (by decide) ?_
    refine lv_istore_n (lv' := [(3, .int 0), (2, .int 0), (0, .ref (a 0)), (1, .int k)]) hx hb dX4_count_33 rfl hl (by decide) rfl (fun ls hl => ?_)
    have lp : ∀ (N : Nat) (i : Nat) (q : Int32) (z : Int32) , (z = nI i) → (i ≤ 16) → (q = cntZ al i) → 16 - i < N → ∀ (H : Heap) (locs : List Loc), va_P D vwCl (wM cI cJ cZ a 0 rg bu pn pl ja lk nk bl bs bk be al tp st mx my kd ky gx gy gu gv) H → va_D A (wM cI cJ cZ a 0 rg bu pn pl ja lk nk bl bs bk be al tp st mx my kd ky gx gy gu gv) → va_S A s.heap H locs → ∀ (ls : Array Slot), lv_has ls 4 [(3, .int z), (2, .int q), (0, .ref (a 0)), (1, .int k)] → W p l e (rmD 1 0 0) s m ([.ref (a 0), .int k] : List Value).toArray below meth c H locs 0 0 (MQ below (QcW D (wM cI cJ cZ a fa rg bu pn pl ja lk nk bl bs bk be al tp st mx my kd ky gx gy gu gv) s.heap.size (fun ov w' => ov = some (.int (f_X4_count k rg bu pn pl ja lk nk al)) ∧ w' = wM cI cJ cZ a (f_X4_count_fa k) rg bu pn pl ja lk nk bl bs bk be al tp st mx my kd ky gx gy gu gv)) ([.ref (a 0), .int k] : List Value).toArray s 0 0 A) (F0 m 34 ls []) := by
      intro N
      induction N with
      | zero => intro i q z _ _ _ hN; exact absurd hN (Nat.not_lt_zero _)
      | succ N lp_ih =>
        intro i q z hz hi hq hN H locs hP hD hS ls hl
        refine lv_iload_n hx hb dX4_count_34 rfl (lv_at hl 0 rfl) ?_
        refine lv_bipush (v := 16) hx hb dX4_count_35 (by decide) ?_
        refine lv_icmp_ge (tgt := 63) hx hb dX4_count_37 (by decide) (fun c_4 => ?_) (fun c_4 => ?_)
        · skip
          have h9 := le_le c_4 (show (16 : Int32) = nI 16 from rfl) hz (by omega) (by omega)
          have e_q : q = cntZ al 16 := (by rw [hq, show i = 16 by omega])
          rw [e_q] at hl
          refine lv_iload_n hx hb dX4_count_63 rfl (lv_at hl 3 rfl) ?_
          refine lv_if_ne (tgt := 74) hx hb dX4_count_64 (by decide) (fun c_5 => ?_) (fun c_5 => ?_)
          · skip
            refine lv_iload_n hx hb dX4_count_74 rfl (lv_at hl 3 rfl) ?_
            refine lv_iconst (v := 1) hx hb dX4_count_75 (by decide) ?_
            refine lv_icmp_ne (tgt := 86) hx hb dX4_count_76 (by decide) (fun c_6 => ?_) (fun c_6 => ?_)
            · skip
              refine lv_iload_n hx hb dX4_count_86 rfl (lv_at hl 3 rfl) ?_
              refine lv_iconst (v := 2) hx hb dX4_count_87 (by decide) ?_
              refine lv_icmp_ne (tgt := 98) hx hb dX4_count_88 (by decide) (fun c_7 => ?_) (fun c_7 => ?_)
              · skip
                refine lv_iload_n hx hb dX4_count_98 rfl (lv_at hl 3 rfl) ?_
                refine lv_iconst (v := 3) hx hb dX4_count_99 (by decide) ?_
                refine lv_icmp_ne (tgt := 110) hx hb dX4_count_100 (by decide) (fun c_8 => ?_) (fun c_8 => ?_)
                · skip
                  refine lv_iload_n hx hb dX4_count_110 rfl (lv_at hl 3 rfl) ?_
                  refine lv_iconst (v := 4) hx hb dX4_count_111 (by decide) ?_
                  refine lv_icmp_ne (tgt := 122) hx hb dX4_count_112 (by decide) (fun c_9 => ?_) (fun c_9 => ?_)
                  · skip
                    refine lv_iload_n hx hb dX4_count_122 rfl (lv_at hl 3 rfl) ?_
                    refine lv_iconst (v := 5) hx hb dX4_count_123 (by decide) ?_
                    refine lv_icmp_ne (tgt := 134) hx hb dX4_count_124 (by decide) (fun c_10 => ?_) (fun c_10 => ?_)
                    · skip
                      refine lv_iload_n hx hb dX4_count_134 rfl (lv_at hl 3 rfl) ?_
                      refine lv_bipush (v := 6) hx hb dX4_count_135 (by decide) ?_
                      refine lv_icmp_ne (tgt := 144) hx hb dX4_count_137 (by decide) (fun c_11 => ?_) (fun c_11 => ?_)
                      · skip
                        refine lv_aload_n hx hb dX4_count_144 rfl (lv_at hl 2 rfl) ?_
                        refine va_get (D := D) (ci := 5) (v := .int pl) (C := RX4) (T := TX4) (N := 23) hx hb (lyX4 ht) (fun _ h9 => h9) hown hK hP 0 rfl rfl 4 (by decide) (fl_X4_131 ht) (fun _ h9 => h9) rfl dX4_count_145 ?_
                        exact wr_i hx hb hr hlocks hAe hP hD hS dX4_count_148 (⟨by unfold f_X4_count; rw [if_neg c_1, if_neg c_5, if_neg c_6, if_neg c_7, if_neg c_8, if_neg c_9, if_neg c_10, if_neg c_11], by simp only [f_X4_count_fa, if_neg c_1, if_neg c_5, if_neg c_6, if_neg c_7, if_neg c_8, if_neg c_9, if_neg c_10, if_neg c_11]⟩)
                      · skip
                        refine lv_iload_n hx hb dX4_count_140 rfl (lv_at hl 1 rfl) ?_
                        refine lv_goto (tgt := 148) hx hb dX4_count_141 (by decide) ?_
                        exact wr_i hx hb hr hlocks hAe hP hD hS dX4_count_148 (⟨by unfold f_X4_count; rw [if_neg c_1, if_neg c_5, if_neg c_6, if_neg c_7, if_neg c_8, if_neg c_9, if_neg c_10, if_pos c_11], by simp only [f_X4_count_fa, if_neg c_1, if_neg c_5, if_neg c_6, if_neg c_7, if_neg c_8, if_neg c_9, if_neg c_10, if_pos c_11]⟩)
                    · skip
                      refine lv_aload_n hx hb dX4_count_127 rfl (lv_at hl 2 rfl) ?_
                      refine va_get (D := D) (ci := 5) (v := .int lk) (C := RX4) (T := TX4) (N := 23) hx hb (lyX4 ht) (fun _ h9 => h9) hown hK hP 0 rfl rfl 6 (by decide) (fl_X4_13 ht) (fun _ h9 => h9) rfl dX4_count_128 ?_
                      refine lv_goto (tgt := 148) hx hb dX4_count_131 (by decide) ?_
                      exact wr_i hx hb hr hlocks hAe hP hD hS dX4_count_148 (⟨by unfold f_X4_count; rw [if_neg c_1, if_neg c_5, if_neg c_6, if_neg c_7, if_neg c_8, if_neg c_9, if_pos c_10], by simp only [f_X4_count_fa, if_neg c_1, if_neg c_5, if_neg c_6, if_neg c_7, if_neg c_8, if_neg c_9, if_pos c_10]⟩)
                  · skip
                    refine lv_aload_n hx hb dX4_count_115 rfl (lv_at hl 2 rfl) ?_
                    refine va_get (D := D) (ci := 5) (v := .int ja) (C := RX4) (T := TX4) (N := 23) hx hb (lyX4 ht) (fun _ h9 => h9) hown hK hP 0 rfl rfl 5 (by decide) (fl_X4_7 ht) (fun _ h9 => h9) rfl dX4_count_116 ?_
                    refine lv_goto (tgt := 148) hx hb dX4_count_119 (by decide) ?_
                    exact wr_i hx hb hr hlocks hAe hP hD hS dX4_count_148 (⟨by unfold f_X4_count; rw [if_neg c_1, if_neg c_5, if_neg c_6, if_neg c_7, if_neg c_8, if_pos c_9], by simp only [f_X4_count_fa, if_neg c_1, if_neg c_5, if_neg c_6, if_neg c_7, if_neg c_8, if_pos c_9]⟩)
                · skip
                  refine lv_aload_n hx hb dX4_count_103 rfl (lv_at hl 2 rfl) ?_
                  refine va_get (D := D) (ci := 5) (v := .int nk) (C := RX4) (T := TX4) (N := 23) hx hb (lyX4 ht) (fun _ h9 => h9) hown hK hP 0 rfl rfl 8 (by decide) (fl_X4_58 ht) (fun _ h9 => h9) rfl dX4_count_104 ?_
                  refine lv_goto (tgt := 148) hx hb dX4_count_107 (by decide) ?_
                  exact wr_i hx hb hr hlocks hAe hP hD hS dX4_count_148 (⟨by unfold f_X4_count; rw [if_neg c_1, if_neg c_5, if_neg c_6, if_neg c_7, if_pos c_8], by simp only [f_X4_count_fa, if_neg c_1, if_neg c_5, if_neg c_6, if_neg c_7, if_pos c_8]⟩)
              · skip
                refine lv_aload_n hx hb dX4_count_91 rfl (lv_at hl 2 rfl) ?_
                refine va_get (D := D) (ci := 5) (v := .int pn) (C := RX4) (T := TX4) (N := 23) hx hb (lyX4 ht) (fun _ h9 => h9) hown hK hP 0 rfl rfl 3 (by decide) (fl_X4_64 ht) (fun _ h9 => h9) rfl dX4_count_92 ?_
                refine lv_goto (tgt := 148) hx hb dX4_count_95 (by decide) ?_
                exact wr_i hx hb hr hlocks hAe hP hD hS dX4_count_148 (⟨by unfold f_X4_count; rw [if_neg c_1, if_neg c_5, if_neg c_6, if_pos c_7], by simp only [f_X4_count_fa, if_neg c_1, if_neg c_5, if_neg c_6, if_pos c_7]⟩)
            · skip
              refine lv_aload_n hx hb dX4_count_79 rfl (lv_at hl 2 rfl) ?_
              refine va_get (D := D) (ci := 5) (v := .int bu) (C := RX4) (T := TX4) (N := 23) hx hb (lyX4 ht) (fun _ h9 => h9) hown hK hP 0 rfl rfl 2 (by decide) (fl_X4_61 ht) (fun _ h9 => h9) rfl dX4_count_80 ?_
              refine lv_goto (tgt := 148) hx hb dX4_count_83 (by decide) ?_
              exact wr_i hx hb hr hlocks hAe hP hD hS dX4_count_148 (⟨by unfold f_X4_count; rw [if_neg c_1, if_neg c_5, if_pos c_6], by simp only [f_X4_count_fa, if_neg c_1, if_neg c_5, if_pos c_6]⟩)
          · skip
            refine lv_aload_n hx hb dX4_count_67 rfl (lv_at hl 2 rfl) ?_
            refine va_get (D := D) (ci := 5) (v := .int rg) (C := RX4) (T := TX4) (N := 23) hx hb (lyX4 ht) (fun _ h9 => h9) hown hK hP 0 rfl rfl 1 (by decide) (fl_X4_52 ht) (fun _ h9 => h9) rfl dX4_count_68 ?_
            refine lv_goto (tgt := 148) hx hb dX4_count_71 (by decide) ?_
            exact wr_i hx hb hr hlocks hAe hP hD hS dX4_count_148 (⟨by unfold f_X4_count; rw [if_neg c_1, if_pos c_5], by simp only [f_X4_count_fa, if_neg c_1, if_pos c_5]⟩)
        · skip
          refine lv_aload_n hx hb dX4_count_40 rfl (lv_at hl 2 rfl) ?_
          refine va_get (D := D) (ci := 5) (v := .ref (a 1)) (C := RX4) (T := TX4) (N := 23) hx hb (lyX4 ht) (fun _ h9 => h9) hown hK hP 0 rfl rfl 7 (by decide) (fl_X4_16 ht) (fun _ h9 => h9) rfl dX4_count_41 ?_
          refine lv_iload_n hx hb dX4_count_44 rfl (lv_at hl 0 rfl) ?_
          refine va_zald hx hb hK hP 1 2 rfl rfl (in_of hz (by have := nle_lt c_4 (show (16 : Int32) = nI 16 from rfl) hz (by omega) (by omega); omega : i < 16) (by decide)) dX4_count_45 ?_
          refine lv_if_eq (tgt := 55) hx hb dX4_count_46 (by decide) (fun c_12 => ?_) (fun c_12 => ?_)
          · skip
            refine lv_iload_n hx hb dX4_count_55 rfl (lv_at hl 1 rfl) ?_
            refine lv_istore_n (lv' := [(2, .int q), (3, .int z), (0, .ref (a 0)), (1, .int k)]) hx hb dX4_count_56 rfl hl (by decide) rfl (fun ls hl => ?_)
            have h8 := nle_lt c_4 (show (16 : Int32) = nI 16 from rfl) hz (by omega) (by omega)
            refine lv_iinc (v := z + 1) (lv' := [(3, .int (z + 1)), (2, .int q), (0, .ref (a 0)), (1, .int k)]) hx hb dX4_count_57 hl (k := 1) rfl rfl (by decide) rfl (fun ls hl => ?_)
            refine lv_goto (tgt := 34) hx hb dX4_count_60 (by decide) ?_
            exact lp_ih (i + 1) q (z + 1) (nI_s hz) (by omega) (by have h9 := cl_of hz (by omega); rw [hq]; simp only [cntZ]; rw [← h9, if_pos c_12]) (by omega) _ _ hP hD hS ls (lv_sub hl [0, 1, 2, 3] rfl)
          · skip
            refine lv_iload_n hx hb dX4_count_49 rfl (lv_at hl 1 rfl) ?_
            refine lv_iconst (v := 1) hx hb dX4_count_50 (by decide) ?_
            refine lv_iadd hx hb dX4_count_51 ?_
            refine lv_goto (tgt := 56) hx hb dX4_count_52 (by decide) ?_
            refine lv_istore_n (lv' := [(2, .int (q + 1)), (3, .int z), (0, .ref (a 0)), (1, .int k)]) hx hb dX4_count_56 rfl hl (by decide) rfl (fun ls hl => ?_)
            have h8 := nle_lt c_4 (show (16 : Int32) = nI 16 from rfl) hz (by omega) (by omega)
            refine lv_iinc (v := z + 1) (lv' := [(3, .int (z + 1)), (2, .int (q + 1)), (0, .ref (a 0)), (1, .int k)]) hx hb dX4_count_57 hl (k := 1) rfl rfl (by decide) rfl (fun ls hl => ?_)
            refine lv_goto (tgt := 34) hx hb dX4_count_60 (by decide) ?_
            exact lp_ih (i + 1) (q + 1) (z + 1) (nI_s hz) (by omega) (by have h9 := cl_of hz (by omega); rw [hq]; simp only [cntZ]; rw [← h9, if_neg c_12]) (by omega) _ _ hP hD hS ls (lv_sub hl [0, 1, 2, 3] rfl)
    exact lp _ 0 0 0 rfl (Nat.zero_le _) rfl (Nat.lt_succ_self _) _ _ hP hD hS ls (lv_sub hl [0, 1, 2, 3] rfl)
def f_X4_survey (r : Int32) (j : Int32) (f : Int32) (rg : Int32) (bu : Int32) : Int32 := if (f_X4_isRing r rg) = 0 then 0 else (if (f_X4_in j.toInt64 (-100000) 100000) = 0 then -2 else (if (f_X4_in f.toInt64 (-100000) 100000) = 0 then -2 else (if r < bu then (bu - r) else -3)))
def f_X4_survey_fa (r : Int32) (j : Int32) (f : Int32) (rg : Int32) (bu : Int32) : Int32 := if (f_X4_isRing r rg) = 0 then 1 else (if (f_X4_in j.toInt64 (-100000) 100000) = 0 then 0 else (if (f_X4_in f.toInt64 (-100000) 100000) = 0 then 0 else (if r < bu then 0 else 0)))
def f_X4_survey_pn (r : Int32) (j : Int32) (f : Int32) (rg : Int32) (bu : Int32) (pn : Int32) : Int32 := if (f_X4_isRing r rg) = 0 then pn else (if (f_X4_in j.toInt64 (-100000) 100000) = 0 then pn else (if (f_X4_in f.toInt64 (-100000) 100000) = 0 then pn else (if r < bu then 0 else pn)))
def f_X4_survey_gx (r : Int32) (j : Int32) (f : Int32) (B : Nat) (rn : Nat) (rg : Int32) (bu : Int32) (gx : Nat → Int64) : Nat → Int64 := if (f_X4_isRing r rg) = 0 then gx else (if (f_X4_in j.toInt64 (-100000) 100000) = 0 then gx else (if (f_X4_in f.toInt64 (-100000) 100000) = 0 then gx else (if r < bu then (shF gx j.toInt64 rn B) else gx)))
def f_X4_survey_gy (r : Int32) (j : Int32) (f : Int32) (B : Nat) (rn : Nat) (rg : Int32) (bu : Int32) (gy : Nat → Int64) : Nat → Int64 := if (f_X4_isRing r rg) = 0 then gy else (if (f_X4_in j.toInt64 (-100000) 100000) = 0 then gy else (if (f_X4_in f.toInt64 (-100000) 100000) = 0 then gy else (if r < bu then (shF gy f.toInt64 rn B) else gy)))
set_option maxRecDepth 20000 in
set_option maxHeartbeats 4000000 in
theorem k_X4_survey (l : Launch) (D : va_G) (cI cJ cZ : ClassId) (a : Nat → Nat) (fa rg bu pn pl ja lk nk bl : Int32) (bs : Int64) (bk be : Int32) (al tp st mx my kd ky : Nat → Int32) (gx gy gu gv : Nat → Int64) (r : Int32) (j : Int32) (f : Int32) (B : Nat) (rn : Nat) (hB : bu = nI B) (hB24 : B ≤ 24) (hrn : ¬ f_X4_isRing r rg = 0 → r = nI rn ∧ rn < 24) : WR l yX4_survey cX4_survey 5 (some .int) 1 0 0 D (tysW cI cJ cZ) (wM cI cJ cZ a fa rg bu pn pl ja lk nk bl bs bk be al tp st mx my kd ky gx gy gu gv) [.ref (a 0), .int r, .int j, .int f] (fun ov w' => ov = some (.int (f_X4_survey r j f rg bu)) ∧ w' = wM cI cJ cZ a (f_X4_survey_fa r j f rg bu) rg bu (f_X4_survey_pn r j f rg bu pn) pl ja lk nk bl bs bk be al tp st mx my kd ky (f_X4_survey_gx r j f B rn rg bu gx) (f_X4_survey_gy r j f B rn rg bu gy) gu gv) := by
  refine WR.of (by decide) ?_
  intro p e s m below meth c A hadm hx hb hr hml hown hlocks hname hE hP hK hD hS hA hAe
  have hown : s.vm.findClass RX4 = some m.cls := hown
  have ht : tb_OK s := hE.1
  have hl := lv_entry ([.ref (a 0), .int r, .int j, .int f]) (n := 5) (Nat.le_of_ble_eq_true rfl)
  rw [lg_entry_eq]
  generalize (lg_sl ([.ref (a 0), .int r, .int j, .int f]) ++ List.replicate (5 - (lg_sl ([.ref (a 0), .int r, .int j, .int f])).length) Slot.unset).toArray = ls at hl ⊢
  have hl : lv_has ls 5 [(0, .ref (a 0)), (1, .int r), (2, .int j), (3, .int f)] := hl
  refine lv_aload_n hx hb dX4_survey_0 rfl (lv_at hl 0 rfl) ?_
  refine lv_aload_n hx hb dX4_survey_1 rfl (lv_at hl 0 rfl) ?_
  refine lv_iload_n hx hb dX4_survey_2 rfl (lv_at hl 1 rfl) ?_
  refine rdV (As := [.int r]) (rest := [.ref (a 0)]) (st1 := [.int (f_X4_isRing r rg), .ref (a 0)]) (k_X4_isRing l D cI cJ cZ a fa rg bu pn pl ja lk nk bl bs bk be al tp st mx my kd ky gx gy gu gv r) (si_X4_79 ht ⟨Nat.le_of_ble_eq_true rfl, Nat.le_of_ble_eq_true rfl⟩) hx hb hml hown (va_recv hK hP (ci := 5) (q0 := 0) rfl rfl) (hE.since hS) hP hK rfl hl.1 rfl (Nat.le_of_ble_eq_true rfl) ⟨Nat.zero_le _, Nat.zero_le _⟩ dX4_survey_3 rfl ?_
  refine lv_if_eq (tgt := 13) hx hb dX4_survey_6 (by decide) (fun c_1 => ?_) (fun c_1 => ?_)
  · skip
    refine lv_iconst (v := 1) hx hb dX4_survey_13 (by decide) ?_
    refine va_put (D := D) (ci := 5) (v := .int 1) (ty := .int) (C := RX4) (T := TX4) (N := 23) hx hb (lyX4 ht) (fun _ h9 => h9) tyX4 tyX4_ok nmX4 hown hK hP hD hS 0 rfl rfl 0 (by decide) (fl_X4_55 ht) (fun _ h9 => h9) rfl (by decide +kernel) rfl rfl (Nat.le_of_ble_eq_true rfl) dX4_survey_14 (fun H locs hP hD hS => ?_)
    have hP : va_P D vwCl (wM cI cJ cZ a 1 rg bu pn pl ja lk nk bl bs bk be al tp st mx my kd ky gx gy gu gv) H := hP
    have hD : va_D A (wM cI cJ cZ a 1 rg bu pn pl ja lk nk bl bs bk be al tp st mx my kd ky gx gy gu gv) := hD
    refine lv_aload_n hx hb dX4_survey_17 rfl (lv_at hl 0 rfl) ?_
    refine va_get (D := D) (ci := 5) (v := .int 1) (C := RX4) (T := TX4) (N := 23) hx hb (lyX4 ht) (fun _ h9 => h9) hown hK hP 0 rfl rfl 0 (by decide) (fl_X4_55 ht) (fun _ h9 => h9) rfl dX4_survey_18 ?_
    refine lv_if_le (tgt := 26) hx hb dX4_survey_21 (by decide) (fun c_2 => absurd c_2 (by decide)) (fun c_2 => ?_)
    refine lv_iconst (v := 0) hx hb dX4_survey_24 (by decide) ?_
    exact wr_i hx hb hr hlocks hAe hP hD hS dX4_survey_25 (⟨by unfold f_X4_survey; rw [if_pos c_1], by simp only [f_X4_survey_fa, f_X4_survey_pn, f_X4_survey_gx, f_X4_survey_gy, if_pos c_1]⟩)
  · skip
    refine lv_iconst (v := 0) hx hb dX4_survey_9 (by decide) ?_
    refine lv_goto (tgt := 14) hx hb dX4_survey_10 (by decide) ?_
    refine va_put (D := D) (ci := 5) (v := .int 0) (ty := .int) (C := RX4) (T := TX4) (N := 23) hx hb (lyX4 ht) (fun _ h9 => h9) tyX4 tyX4_ok nmX4 hown hK hP hD hS 0 rfl rfl 0 (by decide) (fl_X4_55 ht) (fun _ h9 => h9) rfl (by decide +kernel) rfl rfl (Nat.le_of_ble_eq_true rfl) dX4_survey_14 (fun H locs hP hD hS => ?_)
    have hP : va_P D vwCl (wM cI cJ cZ a 0 rg bu pn pl ja lk nk bl bs bk be al tp st mx my kd ky gx gy gu gv) H := hP
    have hD : va_D A (wM cI cJ cZ a 0 rg bu pn pl ja lk nk bl bs bk be al tp st mx my kd ky gx gy gu gv) := hD
    refine lv_aload_n hx hb dX4_survey_17 rfl (lv_at hl 0 rfl) ?_
    refine va_get (D := D) (ci := 5) (v := .int 0) (C := RX4) (T := TX4) (N := 23) hx hb (lyX4 ht) (fun _ h9 => h9) hown hK hP 0 rfl rfl 0 (by decide) (fl_X4_55 ht) (fun _ h9 => h9) rfl dX4_survey_18 ?_
    refine lv_if_le (tgt := 26) hx hb dX4_survey_21 (by decide) (fun c_3 => ?_) (fun c_3 => absurd (by decide) c_3)
    refine lv_iload_n hx hb dX4_survey_26 rfl (lv_at hl 2 rfl) ?_
    refine lv_i2l (v := j.toInt64) hx hb dX4_survey_27 rfl ?_
    refine lv_ldc2 (v := -100000) hx hb hown (kl_X4_138 ht) dX4_survey_28 ?_
    refine lv_ldc2 (v := 100000) hx hb hown (kl_X4_140 ht) dX4_survey_31 ?_
    refine rdS (As := [.long j.toInt64, .long (-100000), .long 100000]) (rest := []) (st1 := [.int (f_X4_in j.toInt64 (-100000) 100000)]) (k_X4_in l D (tysW cI cJ cZ) j.toInt64 (-100000) 100000) (si_X4_69 ht ⟨Nat.le_of_ble_eq_true rfl, Nat.le_of_ble_eq_true rfl⟩) hx hb hml hown (hE.since hS) pNil hK rfl hl.1 rfl (Nat.le_of_ble_eq_true rfl) ⟨Nat.zero_le _, Nat.zero_le _⟩ dX4_survey_34 rfl ?_
    refine lv_if_eq (tgt := 54) hx hb dX4_survey_37 (by decide) (fun c_4 => ?_) (fun c_4 => ?_)
    · skip
      refine lv_bipush (v := -2) hx hb dX4_survey_54 (by decide) ?_
      exact wr_i hx hb hr hlocks hAe hP hD hS dX4_survey_56 (⟨by unfold f_X4_survey; rw [if_neg c_1, if_pos c_4], by simp only [f_X4_survey_fa, f_X4_survey_pn, f_X4_survey_gx, f_X4_survey_gy, if_neg c_1, if_pos c_4]⟩)
    · skip
      refine lv_iload_n hx hb dX4_survey_40 rfl (lv_at hl 3 rfl) ?_
      refine lv_i2l (v := f.toInt64) hx hb dX4_survey_41 rfl ?_
      refine lv_ldc2 (v := -100000) hx hb hown (kl_X4_138 ht) dX4_survey_42 ?_
      refine lv_ldc2 (v := 100000) hx hb hown (kl_X4_140 ht) dX4_survey_45 ?_
      refine rdS (As := [.long f.toInt64, .long (-100000), .long 100000]) (rest := []) (st1 := [.int (f_X4_in f.toInt64 (-100000) 100000)]) (k_X4_in l D (tysW cI cJ cZ) f.toInt64 (-100000) 100000) (si_X4_69 ht ⟨Nat.le_of_ble_eq_true rfl, Nat.le_of_ble_eq_true rfl⟩) hx hb hml hown (hE.since hS) pNil hK rfl hl.1 rfl (Nat.le_of_ble_eq_true rfl) ⟨Nat.zero_le _, Nat.zero_le _⟩ dX4_survey_48 rfl ?_
      refine lv_if_ne (tgt := 57) hx hb dX4_survey_51 (by decide) (fun c_5 => ?_) (fun c_5 => ?_)
      · skip
        refine lv_iload_n hx hb dX4_survey_57 rfl (lv_at hl 1 rfl) ?_
        refine lv_aload_n hx hb dX4_survey_58 rfl (lv_at hl 0 rfl) ?_
        refine va_get (D := D) (ci := 5) (v := .int bu) (C := RX4) (T := TX4) (N := 23) hx hb (lyX4 ht) (fun _ h9 => h9) hown hK hP 0 rfl rfl 2 (by decide) (fl_X4_61 ht) (fun _ h9 => h9) rfl dX4_survey_59 ?_
        refine lv_icmp_lt (tgt := 68) hx hb dX4_survey_62 (by decide) (fun c_6 => ?_) (fun c_6 => ?_)
        · skip
          refine lv_iload_n hx hb dX4_survey_68 rfl (lv_at hl 1 rfl) ?_
          refine lv_istore (lv' := [(4, .int r), (0, .ref (a 0)), (1, .int r), (2, .int j), (3, .int f)]) hx hb dX4_survey_69 hl (by decide) rfl (fun ls hl => ?_)
          obtain ⟨ern, hrn24⟩ := hrn c_1
          have hrB : rn < B := by have h7 := c_6; rw [ern, hB, nI_ltI (by omega) (by omega)] at h7; exact h7
          have lp : ∀ (N : Nat) (i : Nat) (z : Int32) (x1 : Nat → Int64) (y1 : Nat → Int64), (z = nI i) → (i ≤ B) → (rn ≤ i) → (x1 = shF gx j.toInt64 rn i) → (y1 = shF gy f.toInt64 rn i) → B - i < N → ∀ (H : Heap) (locs : List Loc), va_P D vwCl (wM cI cJ cZ a 0 rg bu pn pl ja lk nk bl bs bk be al tp st mx my kd ky x1 y1 gu gv) H → va_D A (wM cI cJ cZ a 0 rg bu pn pl ja lk nk bl bs bk be al tp st mx my kd ky x1 y1 gu gv) → va_S A s.heap H locs → ∀ (ls : Array Slot), lv_has ls 5 [(4, .int z), (0, .ref (a 0)), (1, .int r), (2, .int j), (3, .int f)] → W p l e (rmD 1 0 0) s m ([.ref (a 0), .int r, .int j, .int f] : List Value).toArray below meth c H locs 0 0 (MQ below (QcW D (wM cI cJ cZ a fa rg bu pn pl ja lk nk bl bs bk be al tp st mx my kd ky gx gy gu gv) s.heap.size (fun ov w' => ov = some (.int (f_X4_survey r j f rg bu)) ∧ w' = wM cI cJ cZ a (f_X4_survey_fa r j f rg bu) rg bu (f_X4_survey_pn r j f rg bu pn) pl ja lk nk bl bs bk be al tp st mx my kd ky (f_X4_survey_gx r j f B rn rg bu gx) (f_X4_survey_gy r j f B rn rg bu gy) gu gv)) ([.ref (a 0), .int r, .int j, .int f] : List Value).toArray s 0 0 A) (F0 m 71 ls []) := by
            intro N
            induction N with
            | zero => intro i z x1 y1 _ _ _ _ _ hN; exact absurd hN (Nat.not_lt_zero _)
            | succ N lp_ih =>
              intro i z x1 y1 hz hi hlo hx1 hy1 hN H locs hP hD hS ls hl
              refine lv_iload hx hb dX4_survey_71 (lv_at hl 0 rfl) ?_
              refine lv_aload_n hx hb dX4_survey_73 rfl (lv_at hl 1 rfl) ?_
              refine va_get (D := D) (ci := 5) (v := .int bu) (C := RX4) (T := TX4) (N := 23) hx hb (lyX4 ht) (fun _ h9 => h9) hown hK hP 0 rfl rfl 2 (by decide) (fl_X4_61 ht) (fun _ h9 => h9) rfl dX4_survey_74 ?_
              refine lv_icmp_ge (tgt := 110) hx hb dX4_survey_77 (by decide) (fun c_7 => ?_) (fun c_7 => ?_)
              · skip
                have h9 := le_le c_7 hB hz (by omega) (by omega)
                have e_x1 : x1 = shF gx j.toInt64 rn B := (by rw [hx1, show i = B by omega])
                have e_y1 : y1 = shF gy f.toInt64 rn B := (by rw [hy1, show i = B by omega])
                rw [e_x1, e_y1] at hP hD
                have hP : va_P D vwCl (wM cI cJ cZ a 0 rg bu pn pl ja lk nk bl bs bk be al tp st mx my kd ky (shF gx j.toInt64 rn B) (shF gy f.toInt64 rn B) gu gv) H := hP
                have hD : va_D A (wM cI cJ cZ a 0 rg bu pn pl ja lk nk bl bs bk be al tp st mx my kd ky (shF gx j.toInt64 rn B) (shF gy f.toInt64 rn B) gu gv) := hD
                refine lv_aload_n hx hb dX4_survey_110 rfl (lv_at hl 1 rfl) ?_
                refine lv_iconst (v := 0) hx hb dX4_survey_111 (by decide) ?_
                refine va_put (D := D) (ci := 5) (v := .int 0) (ty := .int) (C := RX4) (T := TX4) (N := 23) hx hb (lyX4 ht) (fun _ h9 => h9) tyX4 tyX4_ok nmX4 hown hK hP hD hS 0 rfl rfl 3 (by decide) (fl_X4_64 ht) (fun _ h9 => h9) rfl (by decide +kernel) rfl rfl (Nat.le_of_ble_eq_true rfl) dX4_survey_112 (fun H locs hP hD hS => ?_)
                have hP : va_P D vwCl (wM cI cJ cZ a 0 rg bu 0 pl ja lk nk bl bs bk be al tp st mx my kd ky (shF gx j.toInt64 rn B) (shF gy f.toInt64 rn B) gu gv) H := hP
                have hD : va_D A (wM cI cJ cZ a 0 rg bu 0 pl ja lk nk bl bs bk be al tp st mx my kd ky (shF gx j.toInt64 rn B) (shF gy f.toInt64 rn B) gu gv) := hD
                refine lv_aload_n hx hb dX4_survey_115 rfl (lv_at hl 1 rfl) ?_
                refine va_get (D := D) (ci := 5) (v := .int bu) (C := RX4) (T := TX4) (N := 23) hx hb (lyX4 ht) (fun _ h9 => h9) hown hK hP 0 rfl rfl 2 (by decide) (fl_X4_61 ht) (fun _ h9 => h9) rfl dX4_survey_116 ?_
                refine lv_iload_n hx hb dX4_survey_119 rfl (lv_at hl 2 rfl) ?_
                refine lv_isub hx hb dX4_survey_120 ?_
                exact wr_i hx hb hr hlocks hAe hP hD hS dX4_survey_121 (⟨by unfold f_X4_survey; rw [if_neg c_1, if_neg c_4, if_neg c_5, if_pos c_6], by simp only [f_X4_survey_fa, f_X4_survey_pn, f_X4_survey_gx, f_X4_survey_gy, if_neg c_1, if_neg c_4, if_neg c_5, if_pos c_6]⟩)
              · skip
                refine lv_aload_n hx hb dX4_survey_80 rfl (lv_at hl 1 rfl) ?_
                refine va_get (D := D) (ci := 5) (v := .ref (a 8)) (C := RX4) (T := TX4) (N := 23) hx hb (lyX4 ht) (fun _ h9 => h9) hown hK hP 0 rfl rfl 15 (by decide) (fl_X4_39 ht) (fun _ h9 => h9) rfl dX4_survey_81 ?_
                refine lv_iload hx hb dX4_survey_84 (lv_at hl 0 rfl) ?_
                refine lv_dup2_11 hx hb dX4_survey_86 rfl rfl ?_
                refine va_lald hx hb hK hP 8 1 rfl rfl (in_of hz (by have := (nle_lt c_7 hB hz (by omega) (by omega)); omega : i < 24) (by decide)) dX4_survey_87 ?_
                refine lv_iload_n hx hb dX4_survey_88 rfl (lv_at hl 3 rfl) ?_
                refine lv_i2l (v := j.toInt64) hx hb dX4_survey_89 rfl ?_
                refine lv_ladd hx hb dX4_survey_90 ?_
                refine va_last hx hb hK hP hD hS 8 1 rfl rfl (in_of hz (by have := (nle_lt c_7 hB hz (by omega) (by omega)); omega : i < 24) (by decide)) dX4_survey_91 (fun H locs hP hD hS => ?_)
                have hP : va_P D vwCl (wM cI cJ cZ a 0 rg bu pn pl ja lk nk bl bs bk be al tp st mx my kd ky (vp_updL x1 z.toNatClampNeg ((x1 z.toNatClampNeg) + j.toInt64)) y1 gu gv) H := hP
                have hD : va_D A (wM cI cJ cZ a 0 rg bu pn pl ja lk nk bl bs bk be al tp st mx my kd ky (vp_updL x1 z.toNatClampNeg ((x1 z.toNatClampNeg) + j.toInt64)) y1 gu gv) := hD
                refine lv_aload_n hx hb dX4_survey_92 rfl (lv_at hl 1 rfl) ?_
                refine va_get (D := D) (ci := 5) (v := .ref (a 9)) (C := RX4) (T := TX4) (N := 23) hx hb (lyX4 ht) (fun _ h9 => h9) hown hK hP 0 rfl rfl 16 (by decide) (fl_X4_43 ht) (fun _ h9 => h9) rfl dX4_survey_93 ?_
                refine lv_iload hx hb dX4_survey_96 (lv_at hl 0 rfl) ?_
                refine lv_dup2_11 hx hb dX4_survey_98 rfl rfl ?_
                refine va_lald hx hb hK hP 9 1 rfl rfl (in_of hz (by have := (nle_lt c_7 hB hz (by omega) (by omega)); omega : i < 24) (by decide)) dX4_survey_99 ?_
                refine lv_iload_n hx hb dX4_survey_100 rfl (lv_at hl 4 rfl) ?_
                refine lv_i2l (v := f.toInt64) hx hb dX4_survey_101 rfl ?_
                refine lv_ladd hx hb dX4_survey_102 ?_
                refine va_last hx hb hK hP hD hS 9 1 rfl rfl (in_of hz (by have := (nle_lt c_7 hB hz (by omega) (by omega)); omega : i < 24) (by decide)) dX4_survey_103 (fun H locs hP hD hS => ?_)
                have hP : va_P D vwCl (wM cI cJ cZ a 0 rg bu pn pl ja lk nk bl bs bk be al tp st mx my kd ky (vp_updL x1 z.toNatClampNeg ((x1 z.toNatClampNeg) + j.toInt64)) (vp_updL y1 z.toNatClampNeg ((y1 z.toNatClampNeg) + f.toInt64)) gu gv) H := hP
                have hD : va_D A (wM cI cJ cZ a 0 rg bu pn pl ja lk nk bl bs bk be al tp st mx my kd ky (vp_updL x1 z.toNatClampNeg ((x1 z.toNatClampNeg) + j.toInt64)) (vp_updL y1 z.toNatClampNeg ((y1 z.toNatClampNeg) + f.toInt64)) gu gv) := hD
                have h8 := (nle_lt c_7 hB hz (by omega) (by omega))
                refine lv_iinc (v := z + 1) (lv' := [(4, .int (z + 1)), (0, .ref (a 0)), (1, .int r), (2, .int j), (3, .int f)]) hx hb dX4_survey_104 hl (k := 0) rfl rfl (by decide) rfl (fun ls hl => ?_)
                refine lv_goto (tgt := 71) hx hb dX4_survey_107 (by decide) ?_
                exact lp_ih (i + 1) (z + 1) (vp_updL x1 z.toNatClampNeg ((x1 z.toNatClampNeg) + j.toInt64)) (vp_updL y1 z.toNatClampNeg ((y1 z.toNatClampNeg) + f.toInt64)) (nI_s hz) (by omega) (by omega) (by rw [cl_of hz (by omega), hx1]; exact shF_s _ _ _ _ hlo) (by rw [cl_of hz (by omega), hy1]; exact shF_s _ _ _ _ hlo) (by omega) _ _ hP hD hS ls (lv_sub hl [0, 1, 2, 3, 4] rfl)
          exact lp _ rn r gx gy ern (by omega) (Nat.le_refl _) (shF_0 _ _ _) (shF_0 _ _ _) (Nat.lt_succ_self _) _ _ hP hD hS ls (lv_sub hl [0, 1, 2, 3, 4] rfl)
        · skip
          refine lv_bipush (v := -3) hx hb dX4_survey_65 (by decide) ?_
          exact wr_i hx hb hr hlocks hAe hP hD hS dX4_survey_67 (⟨by unfold f_X4_survey; rw [if_neg c_1, if_neg c_4, if_neg c_5, if_neg c_6], by simp only [f_X4_survey_fa, f_X4_survey_pn, f_X4_survey_gx, f_X4_survey_gy, if_neg c_1, if_neg c_4, if_neg c_5, if_neg c_6]⟩)
      · skip
        refine lv_bipush (v := -2) hx hb dX4_survey_54 (by decide) ?_
        exact wr_i hx hb hr hlocks hAe hP hD hS dX4_survey_56 (⟨by unfold f_X4_survey; rw [if_neg c_1, if_neg c_4, if_pos c_5], by simp only [f_X4_survey_fa, f_X4_survey_pn, f_X4_survey_gx, f_X4_survey_gy, if_neg c_1, if_neg c_4, if_pos c_5]⟩)
def f_X4_left (k : Int32) (S : Nat) (nk : Int32) (st : Nat → Int32) (kd : Nat → Int32) : Int32 := if (f_X4_isKind k nk) = 0 then -1 else ((st k.toNatClampNeg) - (cntK kd k S))
def f_X4_left_fa (k : Int32) (nk : Int32) : Int32 := if (f_X4_isKind k nk) = 0 then 0 else 0
set_option maxRecDepth 20000 in
set_option maxHeartbeats 4000000 in
theorem k_X4_left (l : Launch) (D : va_G) (cI cJ cZ : ClassId) (a : Nat → Nat) (fa rg bu pn pl ja lk nk bl : Int32) (bs : Int64) (bk be : Int32) (al tp st mx my kd ky : Nat → Int32) (gx gy gu gv : Nat → Int64) (k : Int32) (S : Nat) (gS : bu + pn = nI S) (h24 : S ≤ 24) (hk : ¬ f_X4_isKind k nk = 0 → vp_in k 4) : WR l yX4_left cX4_left 2 (some .int) 1 0 0 D (tysW cI cJ cZ) (wM cI cJ cZ a fa rg bu pn pl ja lk nk bl bs bk be al tp st mx my kd ky gx gy gu gv) [.ref (a 0), .int k] (fun ov w' => ov = some (.int (f_X4_left k S nk st kd)) ∧ w' = wM cI cJ cZ a (f_X4_left_fa k nk) rg bu pn pl ja lk nk bl bs bk be al tp st mx my kd ky gx gy gu gv) := by
  refine WR.of (by decide) ?_
  intro p e s m below meth c A hadm hx hb hr hml hown hlocks hname hE hP hK hD hS hA hAe
  have hown : s.vm.findClass RX4 = some m.cls := hown
  have ht : tb_OK s := hE.1
  have hl := lv_entry ([.ref (a 0), .int k]) (n := 2) (Nat.le_of_ble_eq_true rfl)
  rw [lg_entry_eq]
  generalize (lg_sl ([.ref (a 0), .int k]) ++ List.replicate (2 - (lg_sl ([.ref (a 0), .int k])).length) Slot.unset).toArray = ls at hl ⊢
  have hl : lv_has ls 2 [(0, .ref (a 0)), (1, .int k)] := hl
  refine lv_aload_n hx hb dX4_left_0 rfl (lv_at hl 0 rfl) ?_
  refine lv_iconst (v := 0) hx hb dX4_left_1 (by decide) ?_
  refine va_put (D := D) (ci := 5) (v := .int 0) (ty := .int) (C := RX4) (T := TX4) (N := 23) hx hb (lyX4 ht) (fun _ h9 => h9) tyX4 tyX4_ok nmX4 hown hK hP hD hS 0 rfl rfl 0 (by decide) (fl_X4_55 ht) (fun _ h9 => h9) rfl (by decide +kernel) rfl rfl (Nat.le_of_ble_eq_true rfl) dX4_left_2 (fun H locs hP hD hS => ?_)
  have hP : va_P D vwCl (wM cI cJ cZ a 0 rg bu pn pl ja lk nk bl bs bk be al tp st mx my kd ky gx gy gu gv) H := hP
  have hD : va_D A (wM cI cJ cZ a 0 rg bu pn pl ja lk nk bl bs bk be al tp st mx my kd ky gx gy gu gv) := hD
  refine lv_aload_n hx hb dX4_left_5 rfl (lv_at hl 0 rfl) ?_
  refine lv_iload_n hx hb dX4_left_6 rfl (lv_at hl 1 rfl) ?_
  refine rdV (As := [.int k]) (rest := []) (st1 := [.int (f_X4_isKind k nk)]) (k_X4_isKind l D cI cJ cZ a 0 rg bu pn pl ja lk nk bl bs bk be al tp st mx my kd ky gx gy gu gv k) (si_X4_75 ht ⟨Nat.le_of_ble_eq_true rfl, Nat.le_of_ble_eq_true rfl⟩) hx hb hml hown (va_recv hK hP (ci := 5) (q0 := 0) rfl rfl) (hE.since hS) hP hK rfl hl.1 rfl (Nat.le_of_ble_eq_true rfl) ⟨Nat.zero_le _, Nat.zero_le _⟩ dX4_left_7 rfl ?_
  refine lv_if_eq (tgt := 28) hx hb dX4_left_10 (by decide) (fun c_1 => ?_) (fun c_1 => ?_)
  · skip
    refine lv_iconst (v := -1) hx hb dX4_left_28 (by decide) ?_
    exact wr_i hx hb hr hlocks hAe hP hD hS dX4_left_29 (⟨by unfold f_X4_left; rw [if_pos c_1], by simp only [f_X4_left_fa, if_pos c_1]⟩)
  · skip
    refine lv_aload_n hx hb dX4_left_13 rfl (lv_at hl 0 rfl) ?_
    refine va_get (D := D) (ci := 5) (v := .ref (a 3)) (C := RX4) (T := TX4) (N := 23) hx hb (lyX4 ht) (fun _ h9 => h9) hown hK hP 0 rfl rfl 10 (by decide) (fl_X4_24 ht) (fun _ h9 => h9) rfl dX4_left_14 ?_
    refine lv_iload_n hx hb dX4_left_17 rfl (lv_at hl 1 rfl) ?_
    refine va_iald hx hb hK hP 3 0 rfl rfl (hk c_1) dX4_left_18 ?_
    refine lv_aload_n hx hb dX4_left_19 rfl (lv_at hl 0 rfl) ?_
    refine lv_iload_n hx hb dX4_left_20 rfl (lv_at hl 1 rfl) ?_
    refine rdV (As := [.int k]) (rest := [.int (st k.toNatClampNeg)]) (st1 := [.int (cntK kd k S), .int (st k.toNatClampNeg)]) (k_X4_usedOf l D cI cJ cZ a 0 rg bu pn pl ja lk nk bl bs bk be al tp st mx my kd ky gx gy gu gv k S gS h24) (si_X4_96 ht ⟨Nat.le_of_ble_eq_true rfl, Nat.le_of_ble_eq_true rfl⟩) hx hb hml hown (va_recv hK hP (ci := 5) (q0 := 0) rfl rfl) (hE.since hS) hP hK rfl hl.1 rfl (Nat.le_of_ble_eq_true rfl) ⟨Nat.zero_le _, Nat.zero_le _⟩ dX4_left_21 rfl ?_
    refine lv_isub hx hb dX4_left_24 ?_
    refine lv_goto (tgt := 29) hx hb dX4_left_25 (by decide) ?_
    exact wr_i hx hb hr hlocks hAe hP hD hS dX4_left_29 (⟨by unfold f_X4_left; rw [if_neg c_1], by simp only [f_X4_left_fa, if_neg c_1]⟩)
end
section
def f_X4_mayStand (r : Int32) (k : Int32) (f : Int32) (j : Int32) (S : Nat) (ja : Int32) (al : Nat → Int32) (st : Nat → Int32) (kd : Nat → Int32) (ky : Nat → Int32) : Int32 := if (al f.toNatClampNeg) = 0 then (if r = 0 then 0 else 0) else (if (((st k.toNatClampNeg) - (cntK kd k S)) - j) ≤ 0 then (if r = 0 then 0 else 0) else (if r = 0 then 1 else (if ((f - (ky (r - 1).toNatClampNeg)) - (f - (ky (r - 1).toNatClampNeg)) / ja * ja) = 0 then 0 else 1)))
set_option maxRecDepth 20000 in
set_option maxHeartbeats 4000000 in
theorem k_X4_mayStand (l : Launch) (D : va_G) (cI cJ cZ : ClassId) (a : Nat → Nat) (fa rg bu pn pl ja lk nk bl : Int32) (bs : Int64) (bk be : Int32) (al tp st mx my kd ky : Nat → Int32) (gx gy gu gv : Nat → Int64) (r : Int32) (k : Int32) (f : Int32) (j : Int32) (S : Nat) (gS : bu + pn = nI S) (h24 : S ≤ 24) (hf : vp_in f 16) (hk : vp_in k 4) (h1 : ¬ r = 0 → vp_in (r - 1) 24) (hj : ¬ ja = 0) : RD l yX4_mayStand cX4_mayStand 7 (some .boolean) 1 D (tysW cI cJ cZ) (wM cI cJ cZ a fa rg bu pn pl ja lk nk bl bs bk be al tp st mx my kd ky gx gy gu gv) [.ref (a 0), .int r, .int k, .int f, .int j] (some (.int (f_X4_mayStand r k f j S ja al st kd ky))) := by
  refine RD.of (by decide) ?_
  intro p e s m below meth c hx hb hr hml hown hlocks hE hP hK
  have hown : s.vm.findClass RX4 = some m.cls := hown
  have ht : tb_OK s := hE.1
  have hl := lv_entry ([.ref (a 0), .int r, .int k, .int f, .int j]) (n := 7) (Nat.le_of_ble_eq_true rfl)
  rw [lg_entry_eq]
  generalize (lg_sl ([.ref (a 0), .int r, .int k, .int f, .int j]) ++ List.replicate (7 - (lg_sl ([.ref (a 0), .int r, .int k, .int f, .int j])).length) Slot.unset).toArray = ls at hl ⊢
  have hl : lv_has ls 7 [(0, .ref (a 0)), (1, .int r), (2, .int k), (3, .int f), (4, .int j)] := hl
  refine lv_aload_n hx hb dX4_mayStand_0 rfl (lv_at hl 0 rfl) ?_
  refine va_get (D := D) (ci := 5) (v := .ref (a 1)) (C := RX4) (T := TX4) (N := 23) hx hb (lyX4 ht) (fun _ h9 => h9) hown hK hP 0 rfl rfl 7 (by decide) (fl_X4_16 ht) (fun _ h9 => h9) rfl dX4_mayStand_1 ?_
  refine lv_iload_n hx hb dX4_mayStand_4 rfl (lv_at hl 3 rfl) ?_
  refine va_zald hx hb hK hP 1 2 rfl rfl hf dX4_mayStand_5 ?_
  refine lv_if_eq (tgt := 31) hx hb dX4_mayStand_6 (by decide) (fun c_1 => ?_) (fun c_1 => ?_)
  · skip
    refine lv_iconst (v := 0) hx hb dX4_mayStand_31 (by decide) ?_
    refine lv_istore (lv' := [(5, .int 0), (0, .ref (a 0)), (1, .int r), (2, .int k), (3, .int f), (4, .int j)]) hx hb dX4_mayStand_32 hl (by decide) rfl (fun ls hl => ?_)
    refine lv_iload_n hx hb dX4_mayStand_34 rfl (lv_at hl 2 rfl) ?_
    refine lv_if_ne (tgt := 42) hx hb dX4_mayStand_35 (by decide) (fun c_2 => ?_) (fun c_2 => ?_)
    · skip
      refine lv_iload_n hx hb dX4_mayStand_42 rfl (lv_at hl 4 rfl) ?_
      refine lv_aload_n hx hb dX4_mayStand_43 rfl (lv_at hl 1 rfl) ?_
      refine va_get (D := D) (ci := 5) (v := .ref (a 7)) (C := RX4) (T := TX4) (N := 23) hx hb (lyX4 ht) (fun _ h9 => h9) hown hK hP 0 rfl rfl 14 (by decide) (fl_X4_36 ht) (fun _ h9 => h9) rfl dX4_mayStand_44 ?_
      refine lv_iload_n hx hb dX4_mayStand_47 rfl (lv_at hl 2 rfl) ?_
      refine lv_iconst (v := 1) hx hb dX4_mayStand_48 (by decide) ?_
      refine lv_isub hx hb dX4_mayStand_49 ?_
      refine va_iald hx hb hK hP 7 0 rfl rfl (h1 c_2) dX4_mayStand_50 ?_
      refine lv_isub hx hb dX4_mayStand_51 ?_
      refine lv_istore (lv' := [(6, .int (f - (ky (r - 1).toNatClampNeg))), (5, .int 0), (0, .ref (a 0)), (1, .int r), (2, .int k), (3, .int f), (4, .int j)]) hx hb dX4_mayStand_52 hl (by decide) rfl (fun ls hl => ?_)
      refine lv_iload hx hb dX4_mayStand_54 (lv_at hl 1 rfl) ?_
      refine lv_if_eq (tgt := 77) hx hb dX4_mayStand_56 (by decide) (fun c_3 => ?_) (fun c_3 => absurd (by decide) c_3)
      refine lv_iconst (v := 0) hx hb dX4_mayStand_77 (by decide) ?_
      exact rd_z hx hb hr hlocks dX4_mayStand_78 rfl (by unfold f_X4_mayStand; rw [if_pos c_1, if_neg c_2])
    · skip
      refine lv_iconst (v := 0) hx hb dX4_mayStand_38 (by decide) ?_
      refine lv_goto (tgt := 52) hx hb dX4_mayStand_39 (by decide) ?_
      refine lv_istore (lv' := [(6, .int 0), (5, .int 0), (0, .ref (a 0)), (1, .int r), (2, .int k), (3, .int f), (4, .int j)]) hx hb dX4_mayStand_52 hl (by decide) rfl (fun ls hl => ?_)
      refine lv_iload hx hb dX4_mayStand_54 (lv_at hl 1 rfl) ?_
      refine lv_if_eq (tgt := 77) hx hb dX4_mayStand_56 (by decide) (fun c_4 => ?_) (fun c_4 => absurd (by decide) c_4)
      refine lv_iconst (v := 0) hx hb dX4_mayStand_77 (by decide) ?_
      exact rd_z hx hb hr hlocks dX4_mayStand_78 rfl (by unfold f_X4_mayStand; rw [if_pos c_1, if_pos c_2])
  · skip
    refine lv_aload_n hx hb dX4_mayStand_9 rfl (lv_at hl 0 rfl) ?_
    refine va_get (D := D) (ci := 5) (v := .ref (a 3)) (C := RX4) (T := TX4) (N := 23) hx hb (lyX4 ht) (fun _ h9 => h9) hown hK hP 0 rfl rfl 10 (by decide) (fl_X4_24 ht) (fun _ h9 => h9) rfl dX4_mayStand_10 ?_
    refine lv_iload_n hx hb dX4_mayStand_13 rfl (lv_at hl 2 rfl) ?_
    refine va_iald hx hb hK hP 3 0 rfl rfl hk dX4_mayStand_14 ?_
    refine lv_aload_n hx hb dX4_mayStand_15 rfl (lv_at hl 0 rfl) ?_
    refine lv_iload_n hx hb dX4_mayStand_16 rfl (lv_at hl 2 rfl) ?_
    refine rdV (As := [.int k]) (rest := [.int (st k.toNatClampNeg)]) (st1 := [.int (cntK kd k S), .int (st k.toNatClampNeg)]) (k_X4_usedOf l D cI cJ cZ a fa rg bu pn pl ja lk nk bl bs bk be al tp st mx my kd ky gx gy gu gv k S gS h24) (si_X4_96 ht ⟨Nat.le_of_ble_eq_true rfl, Nat.le_of_ble_eq_true rfl⟩) hx hb hml hown (va_recv hK hP (ci := 5) (q0 := 0) rfl rfl) hE hP hK rfl hl.1 rfl (Nat.le_of_ble_eq_true rfl) ⟨Nat.zero_le _, Nat.zero_le _⟩ dX4_mayStand_17 rfl ?_
    refine lv_isub hx hb dX4_mayStand_20 ?_
    refine lv_iload hx hb dX4_mayStand_21 (lv_at hl 4 rfl) ?_
    refine lv_isub hx hb dX4_mayStand_23 ?_
    refine lv_if_le (tgt := 31) hx hb dX4_mayStand_24 (by decide) (fun c_5 => ?_) (fun c_5 => ?_)
    · skip
      refine lv_iconst (v := 0) hx hb dX4_mayStand_31 (by decide) ?_
      refine lv_istore (lv' := [(5, .int 0), (0, .ref (a 0)), (1, .int r), (2, .int k), (3, .int f), (4, .int j)]) hx hb dX4_mayStand_32 hl (by decide) rfl (fun ls hl => ?_)
      refine lv_iload_n hx hb dX4_mayStand_34 rfl (lv_at hl 2 rfl) ?_
      refine lv_if_ne (tgt := 42) hx hb dX4_mayStand_35 (by decide) (fun c_6 => ?_) (fun c_6 => ?_)
      · skip
        refine lv_iload_n hx hb dX4_mayStand_42 rfl (lv_at hl 4 rfl) ?_
        refine lv_aload_n hx hb dX4_mayStand_43 rfl (lv_at hl 1 rfl) ?_
        refine va_get (D := D) (ci := 5) (v := .ref (a 7)) (C := RX4) (T := TX4) (N := 23) hx hb (lyX4 ht) (fun _ h9 => h9) hown hK hP 0 rfl rfl 14 (by decide) (fl_X4_36 ht) (fun _ h9 => h9) rfl dX4_mayStand_44 ?_
        refine lv_iload_n hx hb dX4_mayStand_47 rfl (lv_at hl 2 rfl) ?_
        refine lv_iconst (v := 1) hx hb dX4_mayStand_48 (by decide) ?_
        refine lv_isub hx hb dX4_mayStand_49 ?_
        refine va_iald hx hb hK hP 7 0 rfl rfl (h1 c_6) dX4_mayStand_50 ?_
        refine lv_isub hx hb dX4_mayStand_51 ?_
        refine lv_istore (lv' := [(6, .int (f - (ky (r - 1).toNatClampNeg))), (5, .int 0), (0, .ref (a 0)), (1, .int r), (2, .int k), (3, .int f), (4, .int j)]) hx hb dX4_mayStand_52 hl (by decide) rfl (fun ls hl => ?_)
        refine lv_iload hx hb dX4_mayStand_54 (lv_at hl 1 rfl) ?_
        refine lv_if_eq (tgt := 77) hx hb dX4_mayStand_56 (by decide) (fun c_7 => ?_) (fun c_7 => absurd (by decide) c_7)
        refine lv_iconst (v := 0) hx hb dX4_mayStand_77 (by decide) ?_
        exact rd_z hx hb hr hlocks dX4_mayStand_78 rfl (by unfold f_X4_mayStand; rw [if_neg c_1, if_pos c_5, if_neg c_6])
      · skip
        refine lv_iconst (v := 0) hx hb dX4_mayStand_38 (by decide) ?_
        refine lv_goto (tgt := 52) hx hb dX4_mayStand_39 (by decide) ?_
        refine lv_istore (lv' := [(6, .int 0), (5, .int 0), (0, .ref (a 0)), (1, .int r), (2, .int k), (3, .int f), (4, .int j)]) hx hb dX4_mayStand_52 hl (by decide) rfl (fun ls hl => ?_)
        refine lv_iload hx hb dX4_mayStand_54 (lv_at hl 1 rfl) ?_
        refine lv_if_eq (tgt := 77) hx hb dX4_mayStand_56 (by decide) (fun c_8 => ?_) (fun c_8 => absurd (by decide) c_8)
        refine lv_iconst (v := 0) hx hb dX4_mayStand_77 (by decide) ?_
        exact rd_z hx hb hr hlocks dX4_mayStand_78 rfl (by unfold f_X4_mayStand; rw [if_neg c_1, if_pos c_5, if_pos c_6])
    · skip
      refine lv_iconst (v := 1) hx hb dX4_mayStand_27 (by decide) ?_
      refine lv_goto (tgt := 32) hx hb dX4_mayStand_28 (by decide) ?_
      refine lv_istore (lv' := [(5, .int 1), (0, .ref (a 0)), (1, .int r), (2, .int k), (3, .int f), (4, .int j)]) hx hb dX4_mayStand_32 hl (by decide) rfl (fun ls hl => ?_)
      refine lv_iload_n hx hb dX4_mayStand_34 rfl (lv_at hl 2 rfl) ?_
      refine lv_if_ne (tgt := 42) hx hb dX4_mayStand_35 (by decide) (fun c_9 => ?_) (fun c_9 => ?_)
      · skip
        refine lv_iload_n hx hb dX4_mayStand_42 rfl (lv_at hl 4 rfl) ?_
        refine lv_aload_n hx hb dX4_mayStand_43 rfl (lv_at hl 1 rfl) ?_
        refine va_get (D := D) (ci := 5) (v := .ref (a 7)) (C := RX4) (T := TX4) (N := 23) hx hb (lyX4 ht) (fun _ h9 => h9) hown hK hP 0 rfl rfl 14 (by decide) (fl_X4_36 ht) (fun _ h9 => h9) rfl dX4_mayStand_44 ?_
        refine lv_iload_n hx hb dX4_mayStand_47 rfl (lv_at hl 2 rfl) ?_
        refine lv_iconst (v := 1) hx hb dX4_mayStand_48 (by decide) ?_
        refine lv_isub hx hb dX4_mayStand_49 ?_
        refine va_iald hx hb hK hP 7 0 rfl rfl (h1 c_9) dX4_mayStand_50 ?_
        refine lv_isub hx hb dX4_mayStand_51 ?_
        refine lv_istore (lv' := [(6, .int (f - (ky (r - 1).toNatClampNeg))), (5, .int 1), (0, .ref (a 0)), (1, .int r), (2, .int k), (3, .int f), (4, .int j)]) hx hb dX4_mayStand_52 hl (by decide) rfl (fun ls hl => ?_)
        refine lv_iload hx hb dX4_mayStand_54 (lv_at hl 1 rfl) ?_
        refine lv_if_eq (tgt := 77) hx hb dX4_mayStand_56 (by decide) (fun c_10 => absurd c_10 (by decide)) (fun c_10 => ?_)
        refine lv_iload_n hx hb dX4_mayStand_59 rfl (lv_at hl 3 rfl) ?_
        refine lv_if_eq (tgt := 73) hx hb dX4_mayStand_60 (by decide) (fun c_11 => absurd c_11 c_9) (fun _ => ?_)
        refine lv_iload hx hb dX4_mayStand_63 (lv_at hl 0 rfl) ?_
        refine lv_aload_n hx hb dX4_mayStand_65 rfl (lv_at hl 2 rfl) ?_
        refine va_get (D := D) (ci := 5) (v := .int ja) (C := RX4) (T := TX4) (N := 23) hx hb (lyX4 ht) (fun _ h9 => h9) hown hK hP 0 rfl rfl 5 (by decide) (fl_X4_7 ht) (fun _ h9 => h9) rfl dX4_mayStand_66 ?_
        refine lv_irem hx hb dX4_mayStand_69 hj ?_
        refine lv_if_eq (tgt := 77) hx hb dX4_mayStand_70 (by decide) (fun c_12 => ?_) (fun c_12 => ?_)
        · skip
          refine lv_iconst (v := 0) hx hb dX4_mayStand_77 (by decide) ?_
          exact rd_z hx hb hr hlocks dX4_mayStand_78 rfl (by unfold f_X4_mayStand; rw [if_neg c_1, if_neg c_5, if_neg c_9, if_pos c_12])
        · skip
          refine lv_iconst (v := 1) hx hb dX4_mayStand_73 (by decide) ?_
          refine lv_goto (tgt := 78) hx hb dX4_mayStand_74 (by decide) ?_
          exact rd_z hx hb hr hlocks dX4_mayStand_78 rfl (by unfold f_X4_mayStand; rw [if_neg c_1, if_neg c_5, if_neg c_9, if_neg c_12])
      · skip
        refine lv_iconst (v := 0) hx hb dX4_mayStand_38 (by decide) ?_
        refine lv_goto (tgt := 52) hx hb dX4_mayStand_39 (by decide) ?_
        refine lv_istore (lv' := [(6, .int 0), (5, .int 1), (0, .ref (a 0)), (1, .int r), (2, .int k), (3, .int f), (4, .int j)]) hx hb dX4_mayStand_52 hl (by decide) rfl (fun ls hl => ?_)
        refine lv_iload hx hb dX4_mayStand_54 (lv_at hl 1 rfl) ?_
        refine lv_if_eq (tgt := 77) hx hb dX4_mayStand_56 (by decide) (fun c_13 => absurd c_13 (by decide)) (fun c_13 => ?_)
        refine lv_iload_n hx hb dX4_mayStand_59 rfl (lv_at hl 3 rfl) ?_
        refine lv_if_eq (tgt := 73) hx hb dX4_mayStand_60 (by decide) (fun _ => ?_) (fun c_14 => absurd c_9 c_14)
        refine lv_iconst (v := 1) hx hb dX4_mayStand_73 (by decide) ?_
        refine lv_goto (tgt := 78) hx hb dX4_mayStand_74 (by decide) ?_
        exact rd_z hx hb hr hlocks dX4_mayStand_78 rfl (by unfold f_X4_mayStand; rw [if_neg c_1, if_neg c_5, if_pos c_9])
set_option maxRecDepth 20000 in
set_option maxHeartbeats 4000000 in
theorem k_X3_sum (l : Launch) (D : va_G) (cI cJ cZ : ClassId) (a : Nat → Nat) (n : Nat) (ah pl ck ct nk pm ja rg bu pn : Int32) (tp st us fb kA tA : Nat → Int32) (lx ly gx gy gu gv : Nat → Int64)  (S : Nat) (gS : bu + pn = nI S) (hSn : S ≤ n) (hn : n ≤ 24) : RD l yX3_sum cX3_sum 4 (some .long) 1 D (tysW cI cJ cZ) (wI cI cJ cZ a n ah pl ck ct nk pm ja rg bu pn tp st us fb kA tA lx ly gx gy gu gv) [.ref (a 0)] (some (.long (sumF (fun j => f_X2_offAt (nI j) lx ly gx gy) S))) := by
  refine RD.of (by decide) ?_
  intro p e s m below meth c hx hb hr hml hown hlocks hE hP hK
  have hown : s.vm.findClass RX3 = some m.cls := hown
  have ht : tb_OK s := hE.1
  have hl := lv_entry ([.ref (a 0)]) (n := 4) (Nat.le_of_ble_eq_true rfl)
  rw [lg_entry_eq]
  generalize (lg_sl ([.ref (a 0)]) ++ List.replicate (4 - (lg_sl ([.ref (a 0)])).length) Slot.unset).toArray = ls at hl ⊢
  have hl : lv_has ls 4 [(0, .ref (a 0))] := hl
  refine lv_lconst (v := 0) hx hb dX3_sum_0 (by decide) ?_
  refine lv_lstore_n (lv' := [(1, .long 0), (0, .ref (a 0))]) hx hb dX3_sum_1 rfl hl (by decide) rfl (fun ls hl => ?_)
  refine lv_iconst (v := 0) hx hb dX3_sum_2 (by decide) ?_
  refine lv_istore_n (lv' := [(3, .int 0), (1, .long 0), (0, .ref (a 0))]) hx hb dX3_sum_3 rfl hl (by decide) rfl (fun ls hl => ?_)
  have lp : ∀ (N : Nat) (i : Nat) (q : Int64) (z : Int32) , (z = nI i) → (i ≤ S) → (q = sumF (fun j => f_X2_offAt (nI j) lx ly gx gy) i) → S - i < N → ∀ (ls : Array Slot), lv_has ls 4 [(3, .int z), (1, .long q), (0, .ref (a 0))] → W p l e (rmD 1 0 0) s m ([.ref (a 0)] : List Value).toArray below meth c s.heap [] 0 0 (MQ below (QcR (some (.long (sumF (fun j => f_X2_offAt (nI j) lx ly gx gy) S)))) ([.ref (a 0)] : List Value).toArray s 0 0 (fun _ => False)) (F0 m 4 ls []) := by
    intro N
    induction N with
    | zero => intro i q z _ _ _ hN; exact absurd hN (Nat.not_lt_zero _)
    | succ N lp_ih =>
      intro i q z hz hi hq hN ls hl
      refine lv_iload_n hx hb dX3_sum_4 rfl (lv_at hl 0 rfl) ?_
      refine lv_aload_n hx hb dX3_sum_5 rfl (lv_at hl 2 rfl) ?_
      refine va_get (D := D) (ci := 4) (v := .ref (a 7)) (C := RX3) (T := TX3) (N := 7) hx hb (lyX3 ht) (fun _ h9 => h9) hown hK hP 0 rfl rfl 2 (by decide) (fl_X3_37 ht) (fun _ h9 => h9) rfl dX3_sum_6 ?_
      refine rdVN (As := []) (rest := [.int z]) (st1 := [.int (f_X2_standing bu pn), .int z]) (k_X2_standing l D cI cJ cZ a n ah pl ck ct nk pm ja rg bu pn tp st us fb kA tA lx ly gx gy gu gv) (si_X3_162 ht ⟨Nat.le_of_ble_eq_true rfl, Nat.le_of_ble_eq_true rfl⟩) hx hb hml hown (va_recv hK hP (ci := 3) (q0 := 7) rfl rfl) hE hP hK rfl hl.1 rfl (Nat.le_of_ble_eq_true rfl) ⟨Nat.zero_le _, Nat.zero_le _⟩ dX3_sum_9 rfl ?_
      refine lv_icmp_ge (tgt := 32) hx hb dX3_sum_12 (by decide) (fun c_1 => ?_) (fun c_1 => ?_)
      · skip
        refine lv_lload_n hx hb dX3_sum_32 rfl (lv_at hl 1 rfl) ?_
        exact rd_l hx hb hr hlocks dX3_sum_33 (by have h9 := (le_le c_1 gS hz (by omega) (by omega)); rw [hq, show i = S by omega])
      · skip
        refine lv_lload_n hx hb dX3_sum_15 rfl (lv_at hl 1 rfl) ?_
        refine lv_aload_n hx hb dX3_sum_16 rfl (lv_at hl 2 rfl) ?_
        refine va_get (D := D) (ci := 4) (v := .ref (a 7)) (C := RX3) (T := TX3) (N := 7) hx hb (lyX3 ht) (fun _ h9 => h9) hown hK hP 0 rfl rfl 2 (by decide) (fl_X3_37 ht) (fun _ h9 => h9) rfl dX3_sum_17 ?_
        refine lv_iload_n hx hb dX3_sum_20 rfl (lv_at hl 0 rfl) ?_
        refine rdVN (As := [.int z]) (rest := [.long q]) (st1 := [.long (f_X2_offAt z lx ly gx gy), .long q]) (k_X2_offAt l D cI cJ cZ a n ah pl ck ct nk pm ja rg bu pn tp st us fb kA tA lx ly gx gy gu gv z (in_of hz (by have := (nle_lt c_1 gS hz (by omega) (by omega)); omega : i < n) (by omega)) (in_of (nI_s hz) (by have := (nle_lt c_1 gS hz (by omega) (by omega)); omega : i + 1 < n + 1) (by omega))) (si_X3_158 ht ⟨Nat.le_of_ble_eq_true rfl, Nat.le_of_ble_eq_true rfl⟩) hx hb hml hown (va_recv hK hP (ci := 3) (q0 := 7) rfl rfl) hE hP hK rfl hl.1 rfl (Nat.le_of_ble_eq_true rfl) ⟨Nat.zero_le _, Nat.zero_le _⟩ dX3_sum_21 rfl ?_
        refine lv_ladd hx hb dX3_sum_24 ?_
        refine lv_lstore_n (lv' := [(1, .long (q + (f_X2_offAt z lx ly gx gy))), (3, .int z), (0, .ref (a 0))]) hx hb dX3_sum_25 rfl hl (by decide) rfl (fun ls hl => ?_)
        have h8 := (nle_lt c_1 gS hz (by omega) (by omega))
        refine lv_iinc (v := z + 1) (lv' := [(3, .int (z + 1)), (1, .long (q + (f_X2_offAt z lx ly gx gy))), (0, .ref (a 0))]) hx hb dX3_sum_26 hl (k := 1) rfl rfl (by decide) rfl (fun ls hl => ?_)
        refine lv_goto (tgt := 4) hx hb dX3_sum_29 (by decide) ?_
        exact lp_ih (i + 1) (q + (f_X2_offAt z lx ly gx gy)) (z + 1) (nI_s hz) (by omega) (by rw [hq, hz]; rfl) (by omega) ls (lv_sub hl [0, 1, 2] rfl)
  exact lp _ 0 0 0 rfl (Nat.zero_le _) rfl (Nat.lt_succ_self _) ls (lv_sub hl [0, 1, 2] rfl)
set_option maxRecDepth 20000 in
set_option maxHeartbeats 4000000 in
theorem k_X3_list (l : Launch) (D : va_G) (cI cJ cZ : ClassId) (a : Nat → Nat) (n : Nat) (ah pl ck ct nk pm ja rg bu pn : Int32) (tp st us fb kA tA : Nat → Int32) (lx ly gx gy gu gv : Nat → Int64) (k : Int32) (j : Int32) (S : Nat) (gS : bu + pn = nI S) (hSn : S ≤ n) (hn : n ≤ 24) : RD l yX3_list cX3_list 5 (some .int) 1 D (tysW cI cJ cZ) (wI cI cJ cZ a n ah pl ck ct nk pm ja rg bu pn tp st us fb kA tA lx ly gx gy gu gv) [.ref (a 0), .int k, .int j] (some (.int (lstK kA k j S 0 0))) := by
  refine RD.of (by decide) ?_
  intro p e s m below meth c hx hb hr hml hown hlocks hE hP hK
  have hown : s.vm.findClass RX3 = some m.cls := hown
  have ht : tb_OK s := hE.1
  have hl := lv_entry ([.ref (a 0), .int k, .int j]) (n := 5) (Nat.le_of_ble_eq_true rfl)
  rw [lg_entry_eq]
  generalize (lg_sl ([.ref (a 0), .int k, .int j]) ++ List.replicate (5 - (lg_sl ([.ref (a 0), .int k, .int j])).length) Slot.unset).toArray = ls at hl ⊢
  have hl : lv_has ls 5 [(0, .ref (a 0)), (1, .int k), (2, .int j)] := hl
  refine lv_iconst (v := 0) hx hb dX3_list_0 (by decide) ?_
  refine lv_istore_n (lv' := [(3, .int 0), (0, .ref (a 0)), (1, .int k), (2, .int j)]) hx hb dX3_list_1 rfl hl (by decide) rfl (fun ls hl => ?_)
  refine lv_iconst (v := 0) hx hb dX3_list_2 (by decide) ?_
  refine lv_istore (lv' := [(4, .int 0), (3, .int 0), (0, .ref (a 0)), (1, .int k), (2, .int j)]) hx hb dX3_list_3 hl (by decide) rfl (fun ls hl => ?_)
  have lp : ∀ (N : Nat) (i : Nat) (q : Int32) (z : Int32) , (z = nI i) → (i ≤ S) → (lstK kA k j (S - i) i q = lstK kA k j S 0 0) → S - i < N → ∀ (ls : Array Slot), lv_has ls 5 [(4, .int z), (3, .int q), (0, .ref (a 0)), (1, .int k), (2, .int j)] → W p l e (rmD 1 0 0) s m ([.ref (a 0), .int k, .int j] : List Value).toArray below meth c s.heap [] 0 0 (MQ below (QcR (some (.int (lstK kA k j S 0 0)))) ([.ref (a 0), .int k, .int j] : List Value).toArray s 0 0 (fun _ => False)) (F0 m 5 ls []) := by
    intro N
    induction N with
    | zero => intro i q z _ _ _ hN; exact absurd hN (Nat.not_lt_zero _)
    | succ N lp_ih =>
      intro i q z hz hi hq hN ls hl
      refine lv_iload hx hb dX3_list_5 (lv_at hl 0 rfl) ?_
      refine lv_aload_n hx hb dX3_list_7 rfl (lv_at hl 2 rfl) ?_
      refine va_get (D := D) (ci := 4) (v := .ref (a 7)) (C := RX3) (T := TX3) (N := 7) hx hb (lyX3 ht) (fun _ h9 => h9) hown hK hP 0 rfl rfl 2 (by decide) (fl_X3_37 ht) (fun _ h9 => h9) rfl dX3_list_8 ?_
      refine rdVN (As := []) (rest := [.int z]) (st1 := [.int (f_X2_standing bu pn), .int z]) (k_X2_standing l D cI cJ cZ a n ah pl ck ct nk pm ja rg bu pn tp st us fb kA tA lx ly gx gy gu gv) (si_X3_162 ht ⟨Nat.le_of_ble_eq_true rfl, Nat.le_of_ble_eq_true rfl⟩) hx hb hml hown (va_recv hK hP (ci := 3) (q0 := 7) rfl rfl) hE hP hK rfl hl.1 rfl (Nat.le_of_ble_eq_true rfl) ⟨Nat.zero_le _, Nat.zero_le _⟩ dX3_list_11 rfl ?_
      refine lv_icmp_ge (tgt := 48) hx hb dX3_list_14 (by decide) (fun c_1 => ?_) (fun c_1 => ?_)
      · skip
        refine lv_iconst (v := -1) hx hb dX3_list_48 (by decide) ?_
        exact rd_i hx hb hr hlocks dX3_list_49 (by have h8 := (le_le c_1 gS hz (by omega) (by omega)); rw [← hq, show S - i = 0 by omega]; rfl)
      · skip
        refine lv_aload_n hx hb dX3_list_17 rfl (lv_at hl 2 rfl) ?_
        refine va_get (D := D) (ci := 4) (v := .ref (a 7)) (C := RX3) (T := TX3) (N := 7) hx hb (lyX3 ht) (fun _ h9 => h9) hown hK hP 0 rfl rfl 2 (by decide) (fl_X3_37 ht) (fun _ h9 => h9) rfl dX3_list_18 ?_
        refine va_getN (D := D) (ci := 3) (v := .ref (a 8)) (C := RX2) (T := TX2) (N := 11) hx hb (lyX2 ht) (fun _ h9 => h9) hown hK hP 7 rfl rfl 3 (by decide) (fn_X3_112 ht) (fun _ h9 => h9) rfl dX3_list_21 ?_
        refine lv_iload hx hb dX3_list_24 (lv_at hl 0 rfl) ?_
        refine va_iald hx hb hK hP 8 0 rfl rfl (in_of hz (by have := (nle_lt c_1 gS hz (by omega) (by omega)); omega : i < n) (by omega)) dX3_list_26 ?_
        refine lv_iload_n hx hb dX3_list_27 rfl (lv_at hl 3 rfl) ?_
        refine lv_icmp_ne (tgt := 42) hx hb dX3_list_28 (by decide) (fun c_2 => ?_) (fun c_2 => ?_)
        · skip
          have h8 := (nle_lt c_1 gS hz (by omega) (by omega))
          refine lv_iinc (v := z + 1) (lv' := [(4, .int (z + 1)), (3, .int q), (0, .ref (a 0)), (1, .int k), (2, .int j)]) hx hb dX3_list_42 hl (k := 0) rfl rfl (by decide) rfl (fun ls hl => ?_)
          refine lv_goto (tgt := 5) hx hb dX3_list_45 (by decide) ?_
          exact lp_ih (i + 1) q (z + 1) (nI_s hz) (by omega) (by have h9 := cl_of hz (by omega); have e1 := c_2; rw [h9] at e1; rw [← hq, show S - i = (S - (i + 1)) + 1 by omega]; simp only [lstK]; rw [if_neg e1]) (by omega) ls (lv_sub hl [0, 1, 2, 3, 4] rfl)
        · skip
          refine lv_iload_n hx hb dX3_list_31 rfl (lv_at hl 1 rfl) ?_
          refine lv_iload_n hx hb dX3_list_32 rfl (lv_at hl 4 rfl) ?_
          refine lv_icmp_ne (tgt := 39) hx hb dX3_list_33 (by decide) (fun c_3 => ?_) (fun c_3 => ?_)
          · skip
            refine lv_iinc (v := q + 1) (lv' := [(3, .int (q + 1)), (4, .int z), (0, .ref (a 0)), (1, .int k), (2, .int j)]) hx hb dX3_list_39 hl (k := 1) rfl rfl (by decide) rfl (fun ls hl => ?_)
            have h8 := (nle_lt c_1 gS hz (by omega) (by omega))
            refine lv_iinc (v := z + 1) (lv' := [(4, .int (z + 1)), (3, .int (q + 1)), (0, .ref (a 0)), (1, .int k), (2, .int j)]) hx hb dX3_list_42 hl (k := 1) rfl rfl (by decide) rfl (fun ls hl => ?_)
            refine lv_goto (tgt := 5) hx hb dX3_list_45 (by decide) ?_
            exact lp_ih (i + 1) (q + 1) (z + 1) (nI_s hz) (by omega) (by have h9 := cl_of hz (by omega); have e1 := c_2; rw [h9] at e1; rw [← hq, show S - i = (S - (i + 1)) + 1 by omega]; simp only [lstK]; rw [if_pos e1, if_neg c_3]) (by omega) ls (lv_sub hl [0, 1, 2, 3, 4] rfl)
          · skip
            refine lv_iload hx hb dX3_list_36 (lv_at hl 0 rfl) ?_
            exact rd_i hx hb hr hlocks dX3_list_38 (by have h8 := (nle_lt c_1 gS hz (by omega) (by omega)); have h9 := cl_of hz (by omega); have e1 := c_2; rw [h9] at e1; rw [← hq, show S - i = (S - (i + 1)) + 1 by omega]; simp only [lstK]; rw [if_pos e1, if_pos c_3]; exact hz)
  exact lp _ 0 0 0 rfl (Nat.zero_le _) rfl (Nat.lt_succ_self _) ls (lv_sub hl [0, 1, 2, 3, 4] rfl)
def f_X2_shiftBuilt_gx (j : Int32) (B : Nat) (rn : Nat) (gx : Nat → Int64) : Nat → Int64 := shF gx j.toInt64 (rn + 1) (B + 1)
def f_X2_shiftBuilt_gy (f : Int32) (B : Nat) (rn : Nat) (gy : Nat → Int64) : Nat → Int64 := shF gy f.toInt64 (rn + 1) (B + 1)
set_option maxRecDepth 20000 in
set_option maxHeartbeats 4000000 in
theorem k_X2_shiftBuilt (l : Launch) (D : va_G) (cI cJ cZ : ClassId) (a : Nat → Nat) (n : Nat) (ah pl ck ct nk pm ja rg bu pn : Int32) (tp st us fb kA tA : Nat → Int32) (lx ly gx gy gu gv : Nat → Int64) (r : Int32) (j : Int32) (f : Int32) (B : Nat) (rn : Nat) (hB : bu = nI B) (hBn : B ≤ n) (hn : n ≤ 24) (ern : r = nI rn) (hrB : rn ≤ B) : WR l yX2_shiftBuilt cX2_shiftBuilt 5 none 0 0 0 D (tysW cI cJ cZ) (wI cI cJ cZ a n ah pl ck ct nk pm ja rg bu pn tp st us fb kA tA lx ly gx gy gu gv) [.ref (a 7), .int r, .int j, .int f] (fun ov w' => ov = none ∧ w' = wI cI cJ cZ a n ah pl ck ct nk pm ja rg bu pn tp st us fb kA tA lx ly (f_X2_shiftBuilt_gx j B rn gx) (f_X2_shiftBuilt_gy f B rn gy) gu gv) := by
  refine WR.of (by decide) ?_
  intro p e s m below meth c A hadm hx hb hr hml hown hlocks hname hE hP hK hD hS hA hAe
  have hown : s.vm.findClass RX2 = some m.cls := hown
  have ht : tb_OK s := hE.1
  have hl := lv_entry ([.ref (a 7), .int r, .int j, .int f]) (n := 5) (Nat.le_of_ble_eq_true rfl)
  rw [lg_entry_eq]
  generalize (lg_sl ([.ref (a 7), .int r, .int j, .int f]) ++ List.replicate (5 - (lg_sl ([.ref (a 7), .int r, .int j, .int f])).length) Slot.unset).toArray = ls at hl ⊢
  have hl : lv_has ls 5 [(0, .ref (a 7)), (1, .int r), (2, .int j), (3, .int f)] := hl
  refine lv_iload_n hx hb dX2_shiftBuilt_0 rfl (lv_at hl 1 rfl) ?_
  refine lv_istore (lv' := [(4, .int r), (0, .ref (a 7)), (1, .int r), (2, .int j), (3, .int f)]) hx hb dX2_shiftBuilt_1 hl (by decide) rfl (fun ls hl => ?_)
  have lp : ∀ (N : Nat) (i : Nat) (z : Int32) (x1 : Nat → Int64) (y1 : Nat → Int64), (z = nI i) → (i ≤ B) → (rn ≤ i) → (x1 = shF gx j.toInt64 (rn + 1) (i + 1)) → (y1 = shF gy f.toInt64 (rn + 1) (i + 1)) → B - i < N → ∀ (H : Heap) (locs : List Loc), va_P D vwCl (wI cI cJ cZ a n ah pl ck ct nk pm ja rg bu pn tp st us fb kA tA lx ly x1 y1 gu gv) H → va_D A (wI cI cJ cZ a n ah pl ck ct nk pm ja rg bu pn tp st us fb kA tA lx ly x1 y1 gu gv) → va_S A s.heap H locs → ∀ (ls : Array Slot), lv_has ls 5 [(4, .int z), (0, .ref (a 7)), (1, .int r), (2, .int j), (3, .int f)] → W p l e (rmD 0 0 0) s m ([.ref (a 7), .int r, .int j, .int f] : List Value).toArray below meth c H locs 0 0 (MQ below (QcW D (wI cI cJ cZ a n ah pl ck ct nk pm ja rg bu pn tp st us fb kA tA lx ly gx gy gu gv) s.heap.size (fun ov w' => ov = none ∧ w' = wI cI cJ cZ a n ah pl ck ct nk pm ja rg bu pn tp st us fb kA tA lx ly (f_X2_shiftBuilt_gx j B rn gx) (f_X2_shiftBuilt_gy f B rn gy) gu gv)) ([.ref (a 7), .int r, .int j, .int f] : List Value).toArray s 0 0 A) (F0 m 3 ls []) := by
    intro N
    induction N with
    | zero => intro i z x1 y1 _ _ _ _ _ hN; exact absurd hN (Nat.not_lt_zero _)
    | succ N lp_ih =>
      intro i z x1 y1 hz hi hlo hx1 hy1 hN H locs hP hD hS ls hl
      refine lv_iload hx hb dX2_shiftBuilt_3 (lv_at hl 0 rfl) ?_
      refine lv_aload_n hx hb dX2_shiftBuilt_5 rfl (lv_at hl 1 rfl) ?_
      refine va_get (D := D) (ci := 3) (v := .int bu) (C := RX2) (T := TX2) (N := 11) hx hb (lyX2 ht) (fun _ h9 => h9) hown hK hP 7 rfl rfl 1 (by decide) (fl_X2_9 ht) (fun _ h9 => h9) rfl dX2_shiftBuilt_6 ?_
      refine lv_icmp_ge (tgt := 46) hx hb dX2_shiftBuilt_9 (by decide) (fun c_1 => ?_) (fun c_1 => ?_)
      · skip
        have h9 := le_le c_1 hB hz (by omega) (by omega)
        have e_x1 : x1 = shF gx j.toInt64 (rn + 1) (B + 1) := (by rw [hx1, show i = B by omega])
        have e_y1 : y1 = shF gy f.toInt64 (rn + 1) (B + 1) := (by rw [hy1, show i = B by omega])
        rw [e_x1, e_y1] at hP hD
        have hP : va_P D vwCl (wI cI cJ cZ a n ah pl ck ct nk pm ja rg bu pn tp st us fb kA tA lx ly (shF gx j.toInt64 (rn + 1) (B + 1)) (shF gy f.toInt64 (rn + 1) (B + 1)) gu gv) H := hP
        have hD : va_D A (wI cI cJ cZ a n ah pl ck ct nk pm ja rg bu pn tp st us fb kA tA lx ly (shF gx j.toInt64 (rn + 1) (B + 1)) (shF gy f.toInt64 (rn + 1) (B + 1)) gu gv) := hD
        exact wr_v hx hb hr hlocks hAe hP hD hS dX2_shiftBuilt_46 (⟨rfl, rfl⟩)
      · skip
        refine lv_aload_n hx hb dX2_shiftBuilt_12 rfl (lv_at hl 1 rfl) ?_
        refine va_get (D := D) (ci := 3) (v := .ref (a 12)) (C := RX2) (T := TX2) (N := 11) hx hb (lyX2 ht) (fun _ h9 => h9) hown hK hP 7 rfl rfl 7 (by decide) (fl_X2_35 ht) (fun _ h9 => h9) rfl dX2_shiftBuilt_13 ?_
        refine lv_iload hx hb dX2_shiftBuilt_16 (lv_at hl 0 rfl) ?_
        refine lv_iconst (v := 1) hx hb dX2_shiftBuilt_18 (by decide) ?_
        refine lv_iadd hx hb dX2_shiftBuilt_19 ?_
        refine lv_dup2_11 hx hb dX2_shiftBuilt_20 rfl rfl ?_
        refine va_lald hx hb hK hP 12 1 rfl rfl (in_of (nI_s hz) (by have := (nle_lt c_1 hB hz (by omega) (by omega)); omega : i + 1 < n + 1) (by omega)) dX2_shiftBuilt_21 ?_
        refine lv_iload_n hx hb dX2_shiftBuilt_22 rfl (lv_at hl 3 rfl) ?_
        refine lv_i2l (v := j.toInt64) hx hb dX2_shiftBuilt_23 rfl ?_
        refine lv_ladd hx hb dX2_shiftBuilt_24 ?_
        refine va_last hx hb hK hP hD hS 12 1 rfl rfl (in_of (nI_s hz) (by have := (nle_lt c_1 hB hz (by omega) (by omega)); omega : i + 1 < n + 1) (by omega)) dX2_shiftBuilt_25 (fun H locs hP hD hS => ?_)
        have hP : va_P D vwCl (wI cI cJ cZ a n ah pl ck ct nk pm ja rg bu pn tp st us fb kA tA lx ly (vp_updL x1 (z + 1).toNatClampNeg ((x1 (z + 1).toNatClampNeg) + j.toInt64)) y1 gu gv) H := hP
        have hD : va_D A (wI cI cJ cZ a n ah pl ck ct nk pm ja rg bu pn tp st us fb kA tA lx ly (vp_updL x1 (z + 1).toNatClampNeg ((x1 (z + 1).toNatClampNeg) + j.toInt64)) y1 gu gv) := hD
        refine lv_aload_n hx hb dX2_shiftBuilt_26 rfl (lv_at hl 1 rfl) ?_
        refine va_get (D := D) (ci := 3) (v := .ref (a 13)) (C := RX2) (T := TX2) (N := 11) hx hb (lyX2 ht) (fun _ h9 => h9) hown hK hP 7 rfl rfl 8 (by decide) (fl_X2_38 ht) (fun _ h9 => h9) rfl dX2_shiftBuilt_27 ?_
        refine lv_iload hx hb dX2_shiftBuilt_30 (lv_at hl 0 rfl) ?_
        refine lv_iconst (v := 1) hx hb dX2_shiftBuilt_32 (by decide) ?_
        refine lv_iadd hx hb dX2_shiftBuilt_33 ?_
        refine lv_dup2_11 hx hb dX2_shiftBuilt_34 rfl rfl ?_
        refine va_lald hx hb hK hP 13 1 rfl rfl (in_of (nI_s hz) (by have := (nle_lt c_1 hB hz (by omega) (by omega)); omega : i + 1 < n + 1) (by omega)) dX2_shiftBuilt_35 ?_
        refine lv_iload_n hx hb dX2_shiftBuilt_36 rfl (lv_at hl 4 rfl) ?_
        refine lv_i2l (v := f.toInt64) hx hb dX2_shiftBuilt_37 rfl ?_
        refine lv_ladd hx hb dX2_shiftBuilt_38 ?_
        refine va_last hx hb hK hP hD hS 13 1 rfl rfl (in_of (nI_s hz) (by have := (nle_lt c_1 hB hz (by omega) (by omega)); omega : i + 1 < n + 1) (by omega)) dX2_shiftBuilt_39 (fun H locs hP hD hS => ?_)
        have hP : va_P D vwCl (wI cI cJ cZ a n ah pl ck ct nk pm ja rg bu pn tp st us fb kA tA lx ly (vp_updL x1 (z + 1).toNatClampNeg ((x1 (z + 1).toNatClampNeg) + j.toInt64)) (vp_updL y1 (z + 1).toNatClampNeg ((y1 (z + 1).toNatClampNeg) + f.toInt64)) gu gv) H := hP
        have hD : va_D A (wI cI cJ cZ a n ah pl ck ct nk pm ja rg bu pn tp st us fb kA tA lx ly (vp_updL x1 (z + 1).toNatClampNeg ((x1 (z + 1).toNatClampNeg) + j.toInt64)) (vp_updL y1 (z + 1).toNatClampNeg ((y1 (z + 1).toNatClampNeg) + f.toInt64)) gu gv) := hD
        have h8 := (nle_lt c_1 hB hz (by omega) (by omega))
        refine lv_iinc (v := z + 1) (lv' := [(4, .int (z + 1)), (0, .ref (a 7)), (1, .int r), (2, .int j), (3, .int f)]) hx hb dX2_shiftBuilt_40 hl (k := 0) rfl rfl (by decide) rfl (fun ls hl => ?_)
        refine lv_goto (tgt := 3) hx hb dX2_shiftBuilt_43 (by decide) ?_
        exact lp_ih (i + 1) (z + 1) (vp_updL x1 (z + 1).toNatClampNeg ((x1 (z + 1).toNatClampNeg) + j.toInt64)) (vp_updL y1 (z + 1).toNatClampNeg ((y1 (z + 1).toNatClampNeg) + f.toInt64)) (nI_s hz) (by omega) (by omega) (by rw [cl_of (nI_s hz) (by omega), hx1]; exact shF_s _ _ _ _ (by omega)) (by rw [cl_of (nI_s hz) (by omega), hy1]; exact shF_s _ _ _ _ (by omega)) (by omega) _ _ hP hD hS ls (lv_sub hl [0, 1, 2, 3, 4] rfl)
  exact lp _ rn r gx gy ern (by omega) (Nat.le_refl _) (shF_0 _ _ _) (shF_0 _ _ _) (Nat.lt_succ_self _) _ _ hP hD hS ls (lv_sub hl [0, 1, 2, 3, 4] rfl)
/-- one taken from its kind's number, ring by ring from lo on, j rings -/
def subK (f : Nat → Int32) (kA : Nat → Int32) (lo : Nat) : Nat → (Nat → Int32)
  | 0 => f
  | j + 1 => f_X1_giveBack_us (kA (lo + j)) (subK f kA lo j)
def f_X3_openPlanned_pn  : Int32 := 0
def f_X3_openPlanned_us (B : Nat) (S : Nat) (us : Nat → Int32) (kA : Nat → Int32) : Nat → Int32 := subK us kA B (S - B)
set_option maxRecDepth 20000 in
set_option maxHeartbeats 4000000 in
theorem k_X3_openPlanned (l : Launch) (D : va_G) (cI cJ cZ : ClassId) (a : Nat → Nat) (n : Nat) (ah pl ck ct nk pm ja rg bu pn : Int32) (tp st us fb kA tA : Nat → Int32) (lx ly gx gy gu gv : Nat → Int64) (B : Nat) (S : Nat) (hB : bu = nI B) (hBS : B ≤ S) (gS : bu + pn = nI S) (hSn : S ≤ n) (hn : n ≤ 24) (hk : ∀ i, i < S → vp_in (kA i) 4) : WR l yX3_openPlanned cX3_openPlanned 2 none 1 0 0 D (tysW cI cJ cZ) (wI cI cJ cZ a n ah pl ck ct nk pm ja rg bu pn tp st us fb kA tA lx ly gx gy gu gv) [.ref (a 0)] (fun ov w' => ov = none ∧ w' = wI cI cJ cZ a n ah pl ck ct nk pm ja rg bu f_X3_openPlanned_pn tp st (f_X3_openPlanned_us B S us kA) fb kA tA lx ly gx gy gu gv) := by
  refine WR.of (by decide) ?_
  intro p e s m below meth c A hadm hx hb hr hml hown hlocks hname hE hP hK hD hS hA hAe
  have hown : s.vm.findClass RX3 = some m.cls := hown
  have ht : tb_OK s := hE.1
  have hl := lv_entry ([.ref (a 0)]) (n := 2) (Nat.le_of_ble_eq_true rfl)
  rw [lg_entry_eq]
  generalize (lg_sl ([.ref (a 0)]) ++ List.replicate (2 - (lg_sl ([.ref (a 0)])).length) Slot.unset).toArray = ls at hl ⊢
  have hl : lv_has ls 2 [(0, .ref (a 0))] := hl
  refine lv_aload_n hx hb dX3_openPlanned_0 rfl (lv_at hl 0 rfl) ?_
  refine va_get (D := D) (ci := 4) (v := .ref (a 7)) (C := RX3) (T := TX3) (N := 7) hx hb (lyX3 ht) (fun _ h9 => h9) hown hK hP 0 rfl rfl 2 (by decide) (fl_X3_37 ht) (fun _ h9 => h9) rfl dX3_openPlanned_1 ?_
  refine va_getN (D := D) (ci := 3) (v := .int bu) (C := RX2) (T := TX2) (N := 11) hx hb (lyX2 ht) (fun _ h9 => h9) hown hK hP 7 rfl rfl 1 (by decide) (fn_X3_95 ht) (fun _ h9 => h9) rfl dX3_openPlanned_4 ?_
  refine lv_istore_n (lv' := [(1, .int bu), (0, .ref (a 0))]) hx hb dX3_openPlanned_7 rfl hl (by decide) rfl (fun ls hl => ?_)
  have lp : ∀ (N : Nat) (i : Nat) (z : Int32) (u1 : Nat → Int32), (z = nI i) → (i ≤ S) → (B ≤ i) → (u1 = subK us kA B (i - B)) → S - i < N → ∀ (H : Heap) (locs : List Loc), va_P D vwCl (wI cI cJ cZ a n ah pl ck ct nk pm ja rg bu pn tp st u1 fb kA tA lx ly gx gy gu gv) H → va_D A (wI cI cJ cZ a n ah pl ck ct nk pm ja rg bu pn tp st u1 fb kA tA lx ly gx gy gu gv) → va_S A s.heap H locs → ∀ (ls : Array Slot), lv_has ls 2 [(1, .int z), (0, .ref (a 0))] → W p l e (rmD 1 0 0) s m ([.ref (a 0)] : List Value).toArray below meth c H locs 0 0 (MQ below (QcW D (wI cI cJ cZ a n ah pl ck ct nk pm ja rg bu pn tp st us fb kA tA lx ly gx gy gu gv) s.heap.size (fun ov w' => ov = none ∧ w' = wI cI cJ cZ a n ah pl ck ct nk pm ja rg bu f_X3_openPlanned_pn tp st (f_X3_openPlanned_us B S us kA) fb kA tA lx ly gx gy gu gv)) ([.ref (a 0)] : List Value).toArray s 0 0 A) (F0 m 8 ls []) := by
    intro N
    induction N with
    | zero => intro i z u1 _ _ _ _ hN; exact absurd hN (Nat.not_lt_zero _)
    | succ N lp_ih =>
      intro i z u1 hz hi hlo hu1 hN H locs hP hD hS ls hl
      refine lv_iload_n hx hb dX3_openPlanned_8 rfl (lv_at hl 0 rfl) ?_
      refine lv_aload_n hx hb dX3_openPlanned_9 rfl (lv_at hl 1 rfl) ?_
      refine va_get (D := D) (ci := 4) (v := .ref (a 7)) (C := RX3) (T := TX3) (N := 7) hx hb (lyX3 ht) (fun _ h9 => h9) hown hK hP 0 rfl rfl 2 (by decide) (fl_X3_37 ht) (fun _ h9 => h9) rfl dX3_openPlanned_10 ?_
      refine rdVN (As := []) (rest := [.int z]) (st1 := [.int (f_X2_standing bu pn), .int z]) (k_X2_standing l D cI cJ cZ a n ah pl ck ct nk pm ja rg bu pn tp st u1 fb kA tA lx ly gx gy gu gv) (si_X3_162 ht ⟨Nat.le_of_ble_eq_true rfl, Nat.le_of_ble_eq_true rfl⟩) hx hb hml hown (va_recv hK hP (ci := 3) (q0 := 7) rfl rfl) (hE.since hS) hP hK rfl hl.1 rfl (Nat.le_of_ble_eq_true rfl) ⟨Nat.zero_le _, Nat.zero_le _⟩ dX3_openPlanned_13 rfl ?_
      refine lv_icmp_ge (tgt := 41) hx hb dX3_openPlanned_16 (by decide) (fun c_1 => ?_) (fun c_1 => ?_)
      · skip
        have h9 := (le_le c_1 gS hz (by omega) (by omega))
        have e_u1 : u1 = subK us kA B (S - B) := (by rw [hu1, show i = S by omega])
        rw [e_u1] at hP hD
        have hP : va_P D vwCl (wI cI cJ cZ a n ah pl ck ct nk pm ja rg bu pn tp st (subK us kA B (S - B)) fb kA tA lx ly gx gy gu gv) H := hP
        have hD : va_D A (wI cI cJ cZ a n ah pl ck ct nk pm ja rg bu pn tp st (subK us kA B (S - B)) fb kA tA lx ly gx gy gu gv) := hD
        refine lv_aload_n hx hb dX3_openPlanned_41 rfl (lv_at hl 1 rfl) ?_
        refine va_get (D := D) (ci := 4) (v := .ref (a 7)) (C := RX3) (T := TX3) (N := 7) hx hb (lyX3 ht) (fun _ h9 => h9) hown hK hP 0 rfl rfl 2 (by decide) (fl_X3_37 ht) (fun _ h9 => h9) rfl dX3_openPlanned_42 ?_
        refine lv_iconst (v := 0) hx hb dX3_openPlanned_45 (by decide) ?_
        refine va_putN (D := D) (ci := 3) (v := .int 0) (ty := .int) (C := RX2) (T := TX2) (N := 11) hx hb (lyX2 ht) (fun _ h9 => h9) tyX2 tyX2_ok nmX2 hown hK hP hD hS 7 rfl rfl 2 (by decide) (fn_X3_104 ht) (fun _ h9 => h9) rfl (by decide +kernel) rfl rfl (Nat.le_of_ble_eq_true rfl) dX3_openPlanned_46 (fun H locs hP hD hS => ?_)
        have hP : va_P D vwCl (wI cI cJ cZ a n ah pl ck ct nk pm ja rg bu 0 tp st (subK us kA B (S - B)) fb kA tA lx ly gx gy gu gv) H := hP
        have hD : va_D A (wI cI cJ cZ a n ah pl ck ct nk pm ja rg bu 0 tp st (subK us kA B (S - B)) fb kA tA lx ly gx gy gu gv) := hD
        exact wr_v hx hb hr hlocks hAe hP hD hS dX3_openPlanned_49 (⟨rfl, rfl⟩)
      · skip
        refine lv_aload_n hx hb dX3_openPlanned_19 rfl (lv_at hl 1 rfl) ?_
        refine va_get (D := D) (ci := 4) (v := .ref (a 1)) (C := RX3) (T := TX3) (N := 7) hx hb (lyX3 ht) (fun _ h9 => h9) hown hK hP 0 rfl rfl 0 (by decide) (fl_X3_10 ht) (fun _ h9 => h9) rfl dX3_openPlanned_20 ?_
        refine lv_aload_n hx hb dX3_openPlanned_23 rfl (lv_at hl 1 rfl) ?_
        refine va_get (D := D) (ci := 4) (v := .ref (a 7)) (C := RX3) (T := TX3) (N := 7) hx hb (lyX3 ht) (fun _ h9 => h9) hown hK hP 0 rfl rfl 2 (by decide) (fl_X3_37 ht) (fun _ h9 => h9) rfl dX3_openPlanned_24 ?_
        refine va_getN (D := D) (ci := 3) (v := .ref (a 8)) (C := RX2) (T := TX2) (N := 11) hx hb (lyX2 ht) (fun _ h9 => h9) hown hK hP 7 rfl rfl 3 (by decide) (fn_X3_112 ht) (fun _ h9 => h9) rfl dX3_openPlanned_27 ?_
        refine lv_iload_n hx hb dX3_openPlanned_30 rfl (lv_at hl 0 rfl) ?_
        refine va_iald hx hb hK hP 8 0 rfl rfl (in_of hz (by have := (nle_lt c_1 gS hz (by omega) (by omega)); omega : i < n) (by omega)) dX3_openPlanned_31 ?_
        refine wrVN (As := [.int (kA z.toNatClampNeg)]) (rest := []) (k_X1_giveBack l D cI cJ cZ a n ah pl ck ct nk pm ja rg bu pn tp st u1 fb kA tA lx ly gx gy gu gv (kA z.toNatClampNeg) (by rw [cl_of hz (by have := (nle_lt c_1 gS hz (by omega) (by omega)); omega)]; exact hk i (nle_lt c_1 gS hz (by omega) (by omega)))) (si_X3_119 ht ⟨Nat.le_of_ble_eq_true rfl, Nat.le_of_ble_eq_true rfl⟩) hx hb hml hown (va_recv hK hP (ci := 2) (q0 := 1) rfl rfl) hE hP hK hD hS hA rfl hl.1 rfl (Nat.le_of_ble_eq_true rfl) ⟨Nat.zero_le _, Nat.zero_le _⟩ dX3_openPlanned_32 (fun ov w' H locs hpost hP hD hS => ?_)
        obtain ⟨rfl, rfl⟩ := hpost
        refine W.st (st1 := []) rfl ?_
        have hP : va_P D vwCl (wI cI cJ cZ a n ah pl ck ct nk pm ja rg bu pn tp st (f_X1_giveBack_us (kA z.toNatClampNeg) u1) fb kA tA lx ly gx gy gu gv) H := hP
        have hD : va_D A (wI cI cJ cZ a n ah pl ck ct nk pm ja rg bu pn tp st (f_X1_giveBack_us (kA z.toNatClampNeg) u1) fb kA tA lx ly gx gy gu gv) := hD
        have h8 := (nle_lt c_1 gS hz (by omega) (by omega))
        refine lv_iinc (v := z + 1) (lv' := [(1, .int (z + 1)), (0, .ref (a 0))]) hx hb dX3_openPlanned_35 hl (k := 0) rfl rfl (by decide) rfl (fun ls hl => ?_)
        refine lv_goto (tgt := 8) hx hb dX3_openPlanned_38 (by decide) ?_
        exact lp_ih (i + 1) (z + 1) (f_X1_giveBack_us (kA z.toNatClampNeg) u1) (nI_s hz) (by omega) (by omega) (by rw [cl_of hz (by omega), hu1, show i + 1 - B = (i - B) + 1 by omega]; show _ = f_X1_giveBack_us (kA (B + (i - B))) _; rw [show B + (i - B) = i by omega]) (by omega) _ _ hP hD hS ls (lv_sub hl [0, 1] rfl)
  exact lp _ B bu us hB hBS (Nat.le_refl _) (by rw [Nat.sub_self]; rfl) (Nat.lt_succ_self _) _ _ hP hD hS ls (lv_sub hl [0, 1] rfl)
end
section
/-! PLANNING: pure words -/
abbrev noW : Int64 := 4611686018427387904
def pU (b : Int64) (t z : Int32) : Int64 := b + (t * f_X0_c z).toInt64
def pV (b : Int64) (t z : Int32) : Int64 := b + (t * f_X0_s z).toInt64
def pX (bx bu : Int64) (t z : Int32) : Int64 := bx + bu + pU bu t z
def pY (bx bu : Int64) (t z : Int32) : Int64 := bx + bu + pV bu t z
def oV (x1 y1 lx ly : Int64) : Int64 := (x1 - lx) * (x1 - lx) + (y1 - ly) * (y1 - ly)
def own (bx cy bu bv lx ly : Int64) (t z : Int32) : Int64 := oV (pX bx bu t z) (pY cy bv t z) lx ly
def scan (ok : Nat → Nat → Bool) (vl : Nat → Nat → Int64 → Int64) : Nat → Int64 × Int32 × Int32
  | 0 => (noW, -1, -1)
  | i + 1 => if ok (i / 16) (i % 16) = true then (if vl (i / 16) (i % 16) (scan ok vl i).1 < (scan ok vl i).1 then (vl (i / 16) (i % 16) (scan ok vl i).1, nI (i / 16), nI (i % 16)) else scan ok vl i) else scan ok vl i
theorem dm16 {i j : Nat} (h : j < 16) : (16 * i + j) / 16 = i ∧ (16 * i + j) % 16 = j := by omega
theorem scan_no {ok : Nat → Nat → Bool} {vl : Nat → Nat → Int64 → Int64} {i j : Nat} (h : j < 16) (hk : ok i j = false) : scan ok vl (16 * i + (j + 1)) = scan ok vl (16 * i + j) := by
  rw [← Nat.add_assoc]
  show (if ok ((16 * i + j) / 16) ((16 * i + j) % 16) = true then _ else _) = _
  rw [(dm16 h).1, (dm16 h).2, hk]
  simp
theorem scan_ge {ok : Nat → Nat → Bool} {vl : Nat → Nat → Int64 → Int64} {i j : Nat} {q1 : Int64} {q2 q3 : Int32} (h : j < 16) (hq : scan ok vl (16 * i + j) = (q1, q2, q3)) (hk : ok i j = true) (hv : ¬ vl i j q1 < q1) : scan ok vl (16 * i + (j + 1)) = (q1, q2, q3) := by
  rw [← Nat.add_assoc]
  show (if ok ((16 * i + j) / 16) ((16 * i + j) % 16) = true then (if vl ((16 * i + j) / 16) ((16 * i + j) % 16) (scan ok vl (16 * i + j)).1 < (scan ok vl (16 * i + j)).1 then _ else _) else _) = _
  rw [(dm16 h).1, (dm16 h).2, if_pos hk, hq, if_neg hv]
theorem scan_lt {ok : Nat → Nat → Bool} {vl : Nat → Nat → Int64 → Int64} {i j : Nat} {q1 : Int64} {q2 q3 : Int32} (h : j < 16) (hq : scan ok vl (16 * i + j) = (q1, q2, q3)) (hk : ok i j = true) (hv : vl i j q1 < q1) : scan ok vl (16 * i + (j + 1)) = (vl i j q1, nI i, nI j) := by
  rw [← Nat.add_assoc]
  show (if ok ((16 * i + j) / 16) ((16 * i + j) % 16) = true then (if vl ((16 * i + j) / 16) ((16 * i + j) % 16) (scan ok vl (16 * i + j)).1 < (scan ok vl (16 * i + j)).1 then (vl ((16 * i + j) / 16) ((16 * i + j) % 16) (scan ok vl (16 * i + j)).1, nI ((16 * i + j) / 16), nI ((16 * i + j) % 16)) else _) else _) = _
  rw [(dm16 h).1, (dm16 h).2, if_pos hk, hq, if_pos hv]
theorem scan_skip {ok : Nat → Nat → Bool} {vl : Nat → Nat → Int64 → Int64} {i : Nat} (hk : ∀ j, ok i j = false) : ∀ j, j ≤ 16 → scan ok vl (16 * i + j) = scan ok vl (16 * i) := by
  intro j
  induction j with
  | zero => intro _; rfl
  | succ j ih => intro h; rw [scan_no (by omega) (hk j)]; exact ih (by omega)
def okI (st us fb : Nat → Int32) (ja tb : Int32) (k j : Nat) : Bool := decide (¬ st k - us k < 1) && decide (¬ f_X0_fits (nI j) tb ja fb = 0)
theorem okI_t {st us fb : Nat → Int32} {ja tb : Int32} {k j : Nat} (h1 : 1 ≤ st k - us k) (h2 : ¬ f_X0_fits (nI j) tb ja fb = 0) : okI st us fb ja tb k j = true := by
  unfold okI
  rw [decide_eq_true (Int32.not_lt.mpr h1), decide_eq_true h2]; rfl
theorem okI_f1 {st us fb : Nat → Int32} {ja tb : Int32} {k j : Nat} (h1 : ¬ 1 ≤ st k - us k) : okI st us fb ja tb k j = false := by
  unfold okI
  rw [decide_eq_false (fun h => h (Int32.not_le.mp h1))]; rfl
theorem okI_f2 {st us fb : Nat → Int32} {ja tb : Int32} {k j : Nat} (h2 : f_X0_fits (nI j) tb ja fb = 0) : okI st us fb ja tb k j = false := by
  unfold okI
  rw [decide_eq_false (p := ¬ f_X0_fits (nI j) tb ja fb = 0) (fun h => h h2), Bool.and_false]
def vl1 (tp : Nat → Int32) (bx cy bu bv lx ly : Int64) (k j : Nat) (lim : Int64) : Int64 := if own bx cy bu bv lx ly (tp k) (nI j) < lim then own bx cy bu bv lx ly (tp k) (nI j) else noW
def sc1 (tp st us fb : Nat → Int32) (ja tb : Int32) (bx cy bu bv lx ly : Int64) : Nat → Int64 × Int32 × Int32 := scan (okI st us fb ja tb) (vl1 tp bx cy bu bv lx ly)
def vl2 (K : Nat) (tp st us fb : Nat → Int32) (ja : Int32) (bx cy bu bv lx ly lx2 ly2 : Int64) (k j : Nat) (lim : Int64) : Int64 :=
  if own bx cy bu bv lx ly (tp k) (nI j) < lim then
    (if (sc1 tp st (f_X1_take_us (nI k) us) fb ja (nI j) (pX bx bu (tp k) (nI j)) (pY cy bv (tp k) (nI j)) (pU bu (tp k) (nI j)) (pV bv (tp k) (nI j)) lx2 ly2 (16 * K)).1 = noW then noW
     else own bx cy bu bv lx ly (tp k) (nI j) + (sc1 tp st (f_X1_take_us (nI k) us) fb ja (nI j) (pX bx bu (tp k) (nI j)) (pY cy bv (tp k) (nI j)) (pU bu (tp k) (nI j)) (pV bv (tp k) (nI j)) lx2 ly2 (16 * K)).1)
  else noW
def sc2 (K : Nat) (tp st us fb : Nat → Int32) (ja tb : Int32) (bx cy bu bv lx ly lx2 ly2 : Int64) : Nat → Int64 × Int32 × Int32 := scan (okI st us fb ja tb) (vl2 K tp st us fb ja bx cy bu bv lx ly lx2 ly2)
/-- two worlds that agree below ring rn -/
def agI (rn : Nat) (kA tA : Nat → Int32) (gx gy gu gv : Nat → Int64) (kB tB : Nat → Int32) (hx_ hy_ hu_ hv_ : Nat → Int64) : Prop :=
  (∀ i, i < rn → kB i = kA i) ∧ (∀ i, i < rn → tB i = tA i) ∧ (∀ i, i < rn + 1 → hx_ i = gx i) ∧ (∀ i, i < rn + 1 → hy_ i = gy i) ∧ (∀ i, i < rn + 1 → hu_ i = gu i) ∧ (∀ i, i < rn + 1 → hv_ i = gv i)
theorem agI.rf {rn : Nat} {kA tA : Nat → Int32} {gx gy gu gv : Nat → Int64} : agI rn kA tA gx gy gu gv kA tA gx gy gu gv := ⟨fun _ _ => rfl, fun _ _ => rfl, fun _ _ => rfl, fun _ _ => rfl, fun _ _ => rfl, fun _ _ => rfl⟩
theorem agI.tr {rn : Nat} {kA tA : Nat → Int32} {gx gy gu gv : Nat → Int64} {kB tB : Nat → Int32} {hx_ hy_ hu_ hv_ : Nat → Int64} {kC tC : Nat → Int32} {ix iy iu iv : Nat → Int64} (h : agI rn kA tA gx gy gu gv kB tB hx_ hy_ hu_ hv_) (h' : agI rn kB tB hx_ hy_ hu_ hv_ kC tC ix iy iu iv) : agI rn kA tA gx gy gu gv kC tC ix iy iu iv :=
  ⟨fun i q => (h'.1 i q).trans (h.1 i q), fun i q => (h'.2.1 i q).trans (h.2.1 i q), fun i q => (h'.2.2.1 i q).trans (h.2.2.1 i q), fun i q => (h'.2.2.2.1 i q).trans (h.2.2.2.1 i q), fun i q => (h'.2.2.2.2.1 i q).trans (h.2.2.2.2.1 i q), fun i q => (h'.2.2.2.2.2 i q).trans (h.2.2.2.2.2 i q)⟩
theorem agI.mono {rn rm : Nat} {kA tA : Nat → Int32} {gx gy gu gv : Nat → Int64} {kB tB : Nat → Int32} {hx_ hy_ hu_ hv_ : Nat → Int64} (h : agI rn kA tA gx gy gu gv kB tB hx_ hy_ hu_ hv_) (hr : rm ≤ rn) : agI rm kA tA gx gy gu gv kB tB hx_ hy_ hu_ hv_ :=
  ⟨fun i q => h.1 i (by omega), fun i q => h.2.1 i (by omega), fun i q => h.2.2.1 i (by omega), fun i q => h.2.2.2.1 i (by omega), fun i q => h.2.2.2.2.1 i (by omega), fun i q => h.2.2.2.2.2 i (by omega)⟩
section LAY
variable {r : Int32} {rn : Nat} {t k z : Int32} {kA tA : Nat → Int32} {gx gy gu gv : Nat → Int64}
theorem lay_kA (er : r = nI rn) (h24 : rn < 2 ^ 30) : f_X2_lay_kA r k kA = upd kA rn k := by unfold f_X2_lay_kA; rw [cl_of er (by omega)]
theorem lay_tA (er : r = nI rn) (h24 : rn < 2 ^ 30) : f_X2_lay_tA r z tA = upd tA rn z := by unfold f_X2_lay_tA; rw [cl_of er (by omega)]
theorem lay_gu (er : r = nI rn) (h24 : rn < 2 ^ 30) : f_X2_lay_gu r t z gu = vp_updL gu (rn + 1) (pU (gu rn) t z) := by unfold f_X2_lay_gu pU; rw [cl_of er (by omega), cl_of (nI_s er) (by omega)]
theorem lay_gv (er : r = nI rn) (h24 : rn < 2 ^ 30) : f_X2_lay_gv r t z gv = vp_updL gv (rn + 1) (pV (gv rn) t z) := by unfold f_X2_lay_gv pV; rw [cl_of er (by omega), cl_of (nI_s er) (by omega)]
theorem lay_gx (er : r = nI rn) (h24 : rn < 2 ^ 30) : f_X2_lay_gx r t z gx gu = vp_updL gx (rn + 1) (pX (gx rn) (gu rn) t z) := by
  unfold f_X2_lay_gx pX pU; rw [cl_of er (by omega), cl_of (nI_s er) (by omega), pk_uLn (by omega), pk_uLs]
theorem lay_gy (er : r = nI rn) (h24 : rn < 2 ^ 30) : f_X2_lay_gy r t z gy gv = vp_updL gy (rn + 1) (pY (gy rn) (gv rn) t z) := by
  unfold f_X2_lay_gy pY pV; rw [cl_of er (by omega), cl_of (nI_s er) (by omega), pk_uLn (by omega), pk_uLs]
theorem lay_off (er : r = nI rn) (h24 : rn < 2 ^ 30) {lx ly : Nat → Int64} : f_X2_offAt r lx ly (f_X2_lay_gx r t z gx gu) (f_X2_lay_gy r t z gy gv) = own (gx rn) (gy rn) (gu rn) (gv rn) (lx rn) (ly rn) t z := by
  rw [lay_gx er h24, lay_gy er h24]
  unfold f_X2_offAt own oV
  rw [cl_of er (by omega), cl_of (nI_s er) (by omega), pk_uLs, pk_uLs]
theorem agI_lay (er : r = nI rn) (h24 : rn < 2 ^ 30) : agI rn kA tA gx gy gu gv (f_X2_lay_kA r k kA) (f_X2_lay_tA r z tA) (f_X2_lay_gx r t z gx gu) (f_X2_lay_gy r t z gy gv) (f_X2_lay_gu r t z gu) (f_X2_lay_gv r t z gv) := by
  rw [lay_kA er h24, lay_tA er h24, lay_gx er h24, lay_gy er h24, lay_gu er h24, lay_gv er h24]
  refine ⟨fun i hi => pk_un (by omega), fun i hi => pk_un (by omega), fun i hi => pk_uLn (by omega), fun i hi => pk_uLn (by omega), fun i hi => pk_uLn (by omega), fun i hi => pk_uLn (by omega)⟩
end LAY
theorem take_give {k : Int32} {us : Nat → Int32} : f_X1_giveBack_us k (f_X1_take_us k us) = us := by
  funext j
  unfold f_X1_giveBack_us f_X1_take_us
  by_cases h : j = k.toNatClampNeg
  · subst h; rw [pk_us, pk_us]; exact Int32.add_sub_cancel _ _
  · rw [pk_un h, pk_un h]
end
section
theorem in_pred {r : Int32} {rn n : Nat} (er : r = nI rn) (h : rn < n) (hn : n ≤ 24) : 0 < r → vp_in (r - 1) n := by
  intro h0
  cases rn with
  | zero => rw [er] at h0; exact absurd h0 (by decide)
  | succ q => rw [er, nI_pred]; exact vp_in_nI (by omega) (by omega)
theorem tb_next {r z : Int32} {rn : Nat} {tA : Nat → Int32} (er : r = nI rn) (h : rn < 2 ^ 30) : f_X2_turnBefore (r + 1) (f_X2_lay_tA r z tA) = z := by
  unfold f_X2_turnBefore
  rw [lay_tA er h, nI_s er, if_neg (nI_nle (by omega) (by omega)), nI_pred, nI_clamp (by omega), pk_us]
set_option maxRecDepth 20000 in
set_option maxHeartbeats 4000000 in
theorem k_X3_sumWith1 (l : Launch) (D : va_G) (cI cJ cZ : ClassId) (a : Nat → Nat) (n : Nat) (ah pl ck ct nk pm ja rg bu pn : Int32) (tp st us fb kA tA : Nat → Int32) (lx ly gx gy gu gv : Nat → Int64) (r : Int32) (k : Int32) (f : Int32) (u1 : Int64) (rn kn fn : Nat) (er : r = nI rn) (hrn : rn < n) (hn : n ≤ 24) (ek : k = nI kn) (hk4 : kn < 4) (ef : f = nI fn) : WR l yX3_sumWith cX3_sumWith 11 (some .long) 2 0 0 D (tysW cI cJ cZ) (wI cI cJ cZ a n ah pl ck ct nk pm ja rg bu pn tp st us fb kA tA lx ly gx gy gu gv) [.ref (a 0), .int r, .int 1, .int k, .int f, .long u1] (fun ov w' => ∃ (ck' ct' : Int32) (kA' tA' : Nat → Int32) (gx' gy' gu' gv' : Nat → Int64), ov = some (.long (vl1 tp (gx rn) (gy rn) (gu rn) (gv rn) (lx rn) (ly rn) kn fn u1)) ∧ w' = wI cI cJ cZ a n ah pl ck' ct' nk pm ja rg bu pn tp st us fb kA' tA' lx ly gx' gy' gu' gv' ∧ agI rn kA tA gx gy gu gv kA' tA' gx' gy' gu' gv') := by
  refine WR.of (by decide) ?_
  intro p e s m below meth c A hadm hx hb hr hml hown hlocks hname hE hP hK hD hS hA hAe
  have hown : s.vm.findClass RX3 = some m.cls := hown
  have ht : tb_OK s := hE.1
  have hl := lv_entry ([.ref (a 0), .int r, .int 1, .int k, .int f, .long u1]) (n := 11) (Nat.le_of_ble_eq_true rfl)
  rw [lg_entry_eq]
  generalize (lg_sl ([.ref (a 0), .int r, .int 1, .int k, .int f, .long u1]) ++ List.replicate (11 - (lg_sl ([.ref (a 0), .int r, .int 1, .int k, .int f, .long u1])).length) Slot.unset).toArray = ls at hl ⊢
  have hl : lv_has ls 11 [(0, .ref (a 0)), (1, .int r), (2, .int 1), (3, .int k), (4, .int f), (5, .long u1)] := hl
  refine lv_aload_n hx hb dX3_sumWith_0 rfl (lv_at hl 0 rfl) ?_
  refine va_get (D := D) (ci := 4) (v := .ref (a 7)) (C := RX3) (T := TX3) (N := 7) hx hb (lyX3 ht) (fun _ h9 => h9) hown hK hP 0 rfl rfl 2 (by decide) (fl_X3_37 ht) (fun _ h9 => h9) rfl dX3_sumWith_1 ?_
  refine lv_iload_n hx hb dX3_sumWith_4 rfl (lv_at hl 1 rfl) ?_
  refine lv_iload_n hx hb dX3_sumWith_5 rfl (lv_at hl 3 rfl) ?_
  refine lv_aload_n hx hb dX3_sumWith_6 rfl (lv_at hl 0 rfl) ?_
  refine va_get (D := D) (ci := 4) (v := .ref (a 1)) (C := RX3) (T := TX3) (N := 7) hx hb (lyX3 ht) (fun _ h9 => h9) hown hK hP 0 rfl rfl 0 (by decide) (fl_X3_10 ht) (fun _ h9 => h9) rfl dX3_sumWith_7 ?_
  refine va_getN (D := D) (ci := 2) (v := .ref (a 2)) (C := RX1) (T := TX1) (N := 4) hx hb (lyX1 ht) (fun _ h9 => h9) hown hK hP 1 rfl rfl 0 (by decide) (fn_X3_169 ht) (fun _ h9 => h9) rfl dX3_sumWith_10 ?_
  refine lv_iload_n hx hb dX3_sumWith_13 rfl (lv_at hl 3 rfl) ?_
  refine va_iald hx hb hK hP 2 0 rfl rfl (in_of ek hk4 (by decide)) dX3_sumWith_14 ?_
  refine lv_iload hx hb dX3_sumWith_15 (lv_at hl 4 rfl) ?_
  refine wrVN (As := [.int r, .int k, .int (tp k.toNatClampNeg), .int f]) (rest := []) (k_X2_lay l D cI cJ cZ a n ah pl ck ct nk pm ja rg bu pn tp st us fb kA tA lx ly gx gy gu gv r k (tp k.toNatClampNeg) f (in_of er hrn (by omega)) (in_of er (by omega) (by omega)) (in_of (nI_s er) (by omega) (by omega))) (si_X3_190 ht ⟨Nat.le_of_ble_eq_true rfl, Nat.le_of_ble_eq_true rfl⟩) hx hb hml hown (va_recv hK hP (ci := 3) (q0 := 7) rfl rfl) hE hP hK hD hS hA rfl hl.1 rfl (Nat.le_of_ble_eq_true rfl) ⟨Nat.zero_le _, Nat.zero_le _⟩ dX3_sumWith_17 (fun ov w' H locs hpost hP hD hS => ?_)
  obtain ⟨rfl, rfl⟩ := hpost
  refine W.st (st1 := []) rfl ?_
  have hP : va_P D vwCl (wI cI cJ cZ a n ah pl ck ct nk pm ja rg bu pn tp st us fb (f_X2_lay_kA r k kA) (f_X2_lay_tA r f tA) lx ly (f_X2_lay_gx r (tp k.toNatClampNeg) f gx gu) (f_X2_lay_gy r (tp k.toNatClampNeg) f gy gv) (f_X2_lay_gu r (tp k.toNatClampNeg) f gu) (f_X2_lay_gv r (tp k.toNatClampNeg) f gv)) H := hP
  have hD : va_D A (wI cI cJ cZ a n ah pl ck ct nk pm ja rg bu pn tp st us fb (f_X2_lay_kA r k kA) (f_X2_lay_tA r f tA) lx ly (f_X2_lay_gx r (tp k.toNatClampNeg) f gx gu) (f_X2_lay_gy r (tp k.toNatClampNeg) f gy gv) (f_X2_lay_gu r (tp k.toNatClampNeg) f gu) (f_X2_lay_gv r (tp k.toNatClampNeg) f gv)) := hD
  refine lv_aload_n hx hb dX3_sumWith_20 rfl (lv_at hl 0 rfl) ?_
  refine va_get (D := D) (ci := 4) (v := .ref (a 7)) (C := RX3) (T := TX3) (N := 7) hx hb (lyX3 ht) (fun _ h9 => h9) hown hK hP 0 rfl rfl 2 (by decide) (fl_X3_37 ht) (fun _ h9 => h9) rfl dX3_sumWith_21 ?_
  refine lv_iload_n hx hb dX3_sumWith_24 rfl (lv_at hl 1 rfl) ?_
  refine rdVN (As := [.int r]) (rest := []) (st1 := [.long (f_X2_offAt r lx ly (f_X2_lay_gx r (tp k.toNatClampNeg) f gx gu) (f_X2_lay_gy r (tp k.toNatClampNeg) f gy gv))]) (k_X2_offAt l D cI cJ cZ a n ah pl ck ct nk pm ja rg bu pn tp st us fb (f_X2_lay_kA r k kA) (f_X2_lay_tA r f tA) lx ly (f_X2_lay_gx r (tp k.toNatClampNeg) f gx gu) (f_X2_lay_gy r (tp k.toNatClampNeg) f gy gv) (f_X2_lay_gu r (tp k.toNatClampNeg) f gu) (f_X2_lay_gv r (tp k.toNatClampNeg) f gv) r (in_of er hrn (by omega)) (in_of (nI_s er) (by omega) (by omega))) (si_X3_158 ht ⟨Nat.le_of_ble_eq_true rfl, Nat.le_of_ble_eq_true rfl⟩) hx hb hml hown (va_recv hK hP (ci := 3) (q0 := 7) rfl rfl) (hE.since hS) hP hK rfl hl.1 rfl (Nat.le_of_ble_eq_true rfl) ⟨Nat.zero_le _, Nat.zero_le _⟩ dX3_sumWith_25 rfl ?_
  refine lv_lstore (lv' := [(7, .long (f_X2_offAt r lx ly (f_X2_lay_gx r (tp k.toNatClampNeg) f gx gu) (f_X2_lay_gy r (tp k.toNatClampNeg) f gy gv))), (0, .ref (a 0)), (1, .int r), (2, .int 1), (3, .int k), (4, .int f), (5, .long u1)]) hx hb dX3_sumWith_28 hl (by decide) rfl (fun ls hl => ?_)
  refine lv_lload hx hb dX3_sumWith_30 (lv_at hl 0 rfl) ?_
  refine lv_lload hx hb dX3_sumWith_32 (lv_at hl 6 rfl) ?_
  refine W.lcmp hx hb dX3_sumWith_34 ?_
  refine lv_if_lt (tgt := 42) hx hb dX3_sumWith_35 (by decide) (fun c_1 => ?_) (fun c_1 => ?_)
  · skip
    refine lv_iload_n hx hb dX3_sumWith_42 rfl (lv_at hl 3 rfl) ?_
    refine lv_iconst (v := 2) hx hb dX3_sumWith_43 (by decide) ?_
    refine lv_icmp_ge (tgt := 50) hx hb dX3_sumWith_44 (by decide) (fun c_2 => absurd c_2 (by decide)) (fun c_2 => ?_)
    refine lv_lload hx hb dX3_sumWith_47 (lv_at hl 0 rfl) ?_
    exact wr_l hx hb hr hlocks hAe hP hD hS dX3_sumWith_49 (⟨_, _, _, _, _, _, _, _, by have h9 := c_1; rw [lg_cmp_lt, lay_off er (by omega), cl_of ek (by omega), ef] at h9; unfold vl1; rw [if_pos h9, lay_off er (by omega), cl_of ek (by omega), ef], rfl, agI_lay er (by omega)⟩)
  · skip
    refine lv_ldc2 (v := 4611686018427387904) hx hb hown (kl_X3_198 ht) dX3_sumWith_38 ?_
    exact wr_l hx hb hr hlocks hAe hP hD hS dX3_sumWith_41 (⟨_, _, _, _, _, _, _, _, by have h9 := c_1; rw [lg_cmp_lt, lay_off er (by omega), cl_of ek (by omega), ef] at h9; unfold vl1; rw [if_neg h9], rfl, agI_lay er (by omega)⟩)
set_option maxRecDepth 20000 in
set_option maxHeartbeats 4000000 in
theorem k_X3_leastSum1 (l : Launch) (D : va_G) (cI cJ cZ : ClassId) (a : Nat → Nat) (n : Nat) (ah pl ck ct nk pm ja rg bu pn : Int32) (tp st us fb kA tA : Nat → Int32) (lx ly gx gy gu gv : Nat → Int64) (r : Int32) (rn K : Nat) (er : r = nI rn) (hrn : rn < n) (hn : n ≤ 24) (eK : nk = nI K) (hK4 : K ≤ 4) (hja : ¬ ja = 0) : WR l yX3_leastSum cX3_leastSum 12 (some .long) 3 0 0 D (tysW cI cJ cZ) (wI cI cJ cZ a n ah pl ck ct nk pm ja rg bu pn tp st us fb kA tA lx ly gx gy gu gv) [.ref (a 0), .int r, .int 1] (fun ov w' => ∃ (kA' tA' : Nat → Int32) (gx' gy' gu' gv' : Nat → Int64), ov = some (.long (scan (okI st us fb ja (f_X2_turnBefore r tA)) (vl1 tp (gx rn) (gy rn) (gu rn) (gv rn) (lx rn) (ly rn)) (16 * K)).1) ∧ w' = wI cI cJ cZ a n ah pl ((scan (okI st us fb ja (f_X2_turnBefore r tA)) (vl1 tp (gx rn) (gy rn) (gu rn) (gv rn) (lx rn) (ly rn)) (16 * K)).2.1) ((scan (okI st us fb ja (f_X2_turnBefore r tA)) (vl1 tp (gx rn) (gy rn) (gu rn) (gv rn) (lx rn) (ly rn)) (16 * K)).2.2) nk pm ja rg bu pn tp st us fb kA' tA' lx ly gx' gy' gu' gv' ∧ agI rn kA tA gx gy gu gv kA' tA' gx' gy' gu' gv') := by
  refine WR.of (by decide) ?_
  intro p e s m below meth c A hadm hx hb hr hml hown hlocks hname hE hP hK hD hS hA hAe
  have hown : s.vm.findClass RX3 = some m.cls := hown
  have ht : tb_OK s := hE.1
  have hl := lv_entry ([.ref (a 0), .int r, .int 1]) (n := 12) (Nat.le_of_ble_eq_true rfl)
  rw [lg_entry_eq]
  generalize (lg_sl ([.ref (a 0), .int r, .int 1]) ++ List.replicate (12 - (lg_sl ([.ref (a 0), .int r, .int 1])).length) Slot.unset).toArray = ls at hl ⊢
  have hl : lv_has ls 12 [(0, .ref (a 0)), (1, .int r), (2, .int 1)] := hl
  refine lv_ldc2 (v := 4611686018427387904) hx hb hown (kl_X3_198 ht) dX3_leastSum_0 ?_
  refine lv_lstore_n (lv' := [(3, .long 4611686018427387904), (0, .ref (a 0)), (1, .int r), (2, .int 1)]) hx hb dX3_leastSum_3 rfl hl (by decide) rfl (fun ls hl => ?_)
  refine lv_iconst (v := -1) hx hb dX3_leastSum_4 (by decide) ?_
  refine lv_istore (lv' := [(5, .int (-1)), (3, .long 4611686018427387904), (0, .ref (a 0)), (1, .int r), (2, .int 1)]) hx hb dX3_leastSum_5 hl (by decide) rfl (fun ls hl => ?_)
  refine lv_iconst (v := -1) hx hb dX3_leastSum_7 (by decide) ?_
  refine lv_istore (lv' := [(6, .int (-1)), (5, .int (-1)), (3, .long 4611686018427387904), (0, .ref (a 0)), (1, .int r), (2, .int 1)]) hx hb dX3_leastSum_8 hl (by decide) rfl (fun ls hl => ?_)
  refine lv_aload_n hx hb dX3_leastSum_10 rfl (lv_at hl 3 rfl) ?_
  refine va_get (D := D) (ci := 4) (v := .ref (a 7)) (C := RX3) (T := TX3) (N := 7) hx hb (lyX3 ht) (fun _ h9 => h9) hown hK hP 0 rfl rfl 2 (by decide) (fl_X3_37 ht) (fun _ h9 => h9) rfl dX3_leastSum_11 ?_
  refine lv_iload_n hx hb dX3_leastSum_14 rfl (lv_at hl 4 rfl) ?_
  refine rdVN (As := [.int r]) (rest := []) (st1 := [.int (f_X2_turnBefore r tA)]) (k_X2_turnBefore l D cI cJ cZ a n ah pl ck ct nk pm ja rg bu pn tp st us fb kA tA lx ly gx gy gu gv r (in_pred er hrn hn)) (si_X3_200 ht ⟨Nat.le_of_ble_eq_true rfl, Nat.le_of_ble_eq_true rfl⟩) hx hb hml hown (va_recv hK hP (ci := 3) (q0 := 7) rfl rfl) (hE.since hS) hP hK rfl hl.1 rfl (Nat.le_of_ble_eq_true rfl) ⟨Nat.zero_le _, Nat.zero_le _⟩ dX3_leastSum_15 rfl ?_
  refine lv_istore (lv' := [(7, .int (f_X2_turnBefore r tA)), (6, .int (-1)), (5, .int (-1)), (3, .long 4611686018427387904), (0, .ref (a 0)), (1, .int r), (2, .int 1)]) hx hb dX3_leastSum_18 hl (by decide) rfl (fun ls hl => ?_)
  refine lv_iconst (v := 0) hx hb dX3_leastSum_20 (by decide) ?_
  refine lv_istore (lv' := [(8, .int 0), (7, .int (f_X2_turnBefore r tA)), (6, .int (-1)), (5, .int (-1)), (3, .long 4611686018427387904), (0, .ref (a 0)), (1, .int r), (2, .int 1)]) hx hb dX3_leastSum_21 hl (by decide) rfl (fun ls hl => ?_)
  have lp : ∀ (N : Nat) (i : Nat) (q1 : Int64) (q2 : Int32) (q3 : Int32) (z : Int32) (ck1 : Int32) (ct1 : Int32) (kA1 : Nat → Int32) (tA1 : Nat → Int32) (gx1 : Nat → Int64) (gy1 : Nat → Int64) (gu1 : Nat → Int64) (gv1 : Nat → Int64), (z = nI i) → (i ≤ K) → (scan (okI st us fb ja (f_X2_turnBefore r tA)) (vl1 tp (gx rn) (gy rn) (gu rn) (gv rn) (lx rn) (ly rn)) (16 * i) = (q1, q2, q3)) → (agI rn kA tA gx gy gu gv kA1 tA1 gx1 gy1 gu1 gv1) → K - i < N → ∀ (H : Heap) (locs : List Loc), va_P D vwCl (wI cI cJ cZ a n ah pl ck1 ct1 nk pm ja rg bu pn tp st us fb kA1 tA1 lx ly gx1 gy1 gu1 gv1) H → va_D A (wI cI cJ cZ a n ah pl ck1 ct1 nk pm ja rg bu pn tp st us fb kA1 tA1 lx ly gx1 gy1 gu1 gv1) → va_S A s.heap H locs → ∀ (ls : Array Slot), lv_has ls 12 [(8, .int z), (7, .int (f_X2_turnBefore r tA)), (6, .int q3), (5, .int q2), (3, .long q1), (0, .ref (a 0)), (1, .int r), (2, .int 1)] → W p l e (rmD 3 0 0) s m ([.ref (a 0), .int r, .int 1] : List Value).toArray below meth c H locs 0 0 (MQ below (QcW D (wI cI cJ cZ a n ah pl ck ct nk pm ja rg bu pn tp st us fb kA tA lx ly gx gy gu gv) s.heap.size (fun ov w' => ∃ (kA' tA' : Nat → Int32) (gx' gy' gu' gv' : Nat → Int64), ov = some (.long (scan (okI st us fb ja (f_X2_turnBefore r tA)) (vl1 tp (gx rn) (gy rn) (gu rn) (gv rn) (lx rn) (ly rn)) (16 * K)).1) ∧ w' = wI cI cJ cZ a n ah pl ((scan (okI st us fb ja (f_X2_turnBefore r tA)) (vl1 tp (gx rn) (gy rn) (gu rn) (gv rn) (lx rn) (ly rn)) (16 * K)).2.1) ((scan (okI st us fb ja (f_X2_turnBefore r tA)) (vl1 tp (gx rn) (gy rn) (gu rn) (gv rn) (lx rn) (ly rn)) (16 * K)).2.2) nk pm ja rg bu pn tp st us fb kA' tA' lx ly gx' gy' gu' gv' ∧ agI rn kA tA gx gy gu gv kA' tA' gx' gy' gu' gv')) ([.ref (a 0), .int r, .int 1] : List Value).toArray s 0 0 A) (F0 m 23 ls []) := by
    intro N
    induction N with
    | zero => intro i q1 q2 q3 z ck1 ct1 kA1 tA1 gx1 gy1 gu1 gv1 _ _ _ _ hN; exact absurd hN (Nat.not_lt_zero _)
    | succ N lp_ih =>
      intro i q1 q2 q3 z ck1 ct1 kA1 tA1 gx1 gy1 gu1 gv1 hz hi hq hag hN H locs hP hD hS ls hl
      refine lv_iload hx hb dX3_leastSum_23 (lv_at hl 0 rfl) ?_
      refine lv_aload_n hx hb dX3_leastSum_25 rfl (lv_at hl 5 rfl) ?_
      refine va_get (D := D) (ci := 4) (v := .ref (a 1)) (C := RX3) (T := TX3) (N := 7) hx hb (lyX3 ht) (fun _ h9 => h9) hown hK hP 0 rfl rfl 0 (by decide) (fl_X3_10 ht) (fun _ h9 => h9) rfl dX3_leastSum_26 ?_
      refine va_getN (D := D) (ci := 2) (v := .int nk) (C := RX1) (T := TX1) (N := 4) hx hb (lyX1 ht) (fun _ h9 => h9) hown hK hP 1 rfl rfl 3 (by decide) (fn_X3_178 ht) (fun _ h9 => h9) rfl dX3_leastSum_29 ?_
      refine lv_icmp_ge (tgt := 121) hx hb dX3_leastSum_32 (by decide) (fun c_1 => ?_) (fun c_1 => ?_)
      · skip
        refine lv_aload_n hx hb dX3_leastSum_121 rfl (lv_at hl 5 rfl) ?_
        refine lv_iload hx hb dX3_leastSum_122 (lv_at hl 3 rfl) ?_
        refine va_put (D := D) (ci := 4) (v := .int q2) (ty := .int) (C := RX3) (T := TX3) (N := 7) hx hb (lyX3 ht) (fun _ h9 => h9) tyX3 tyX3_ok nmX3 hown hK hP hD hS 0 rfl rfl 5 (by decide) (fl_X3_48 ht) (fun _ h9 => h9) rfl (by decide +kernel) rfl rfl (Nat.le_of_ble_eq_true rfl) dX3_leastSum_124 (fun H locs hP hD hS => ?_)
        have hP : va_P D vwCl (wI cI cJ cZ a n ah pl q2 ct1 nk pm ja rg bu pn tp st us fb kA1 tA1 lx ly gx1 gy1 gu1 gv1) H := hP
        have hD : va_D A (wI cI cJ cZ a n ah pl q2 ct1 nk pm ja rg bu pn tp st us fb kA1 tA1 lx ly gx1 gy1 gu1 gv1) := hD
        refine lv_aload_n hx hb dX3_leastSum_127 rfl (lv_at hl 5 rfl) ?_
        refine lv_iload hx hb dX3_leastSum_128 (lv_at hl 2 rfl) ?_
        refine va_put (D := D) (ci := 4) (v := .int q3) (ty := .int) (C := RX3) (T := TX3) (N := 7) hx hb (lyX3 ht) (fun _ h9 => h9) tyX3 tyX3_ok nmX3 hown hK hP hD hS 0 rfl rfl 6 (by decide) (fl_X3_51 ht) (fun _ h9 => h9) rfl (by decide +kernel) rfl rfl (Nat.le_of_ble_eq_true rfl) dX3_leastSum_130 (fun H locs hP hD hS => ?_)
        have hP : va_P D vwCl (wI cI cJ cZ a n ah pl q2 q3 nk pm ja rg bu pn tp st us fb kA1 tA1 lx ly gx1 gy1 gu1 gv1) H := hP
        have hD : va_D A (wI cI cJ cZ a n ah pl q2 q3 nk pm ja rg bu pn tp st us fb kA1 tA1 lx ly gx1 gy1 gu1 gv1) := hD
        refine lv_lload_n hx hb dX3_leastSum_133 rfl (lv_at hl 4 rfl) ?_
        exact wr_l hx hb hr hlocks hAe hP hD hS dX3_leastSum_134 (⟨_, _, _, _, _, _, by have h7 := le_le c_1 eK hz (by omega) (by omega); rw [show i = K by omega] at hq; rw [hq], by have h7 := le_le c_1 eK hz (by omega) (by omega); rw [show i = K by omega] at hq; rw [hq], hag⟩)
      · skip
        refine lv_aload_n hx hb dX3_leastSum_35 rfl (lv_at hl 5 rfl) ?_
        refine va_get (D := D) (ci := 4) (v := .ref (a 1)) (C := RX3) (T := TX3) (N := 7) hx hb (lyX3 ht) (fun _ h9 => h9) hown hK hP 0 rfl rfl 0 (by decide) (fl_X3_10 ht) (fun _ h9 => h9) rfl dX3_leastSum_36 ?_
        refine lv_iload hx hb dX3_leastSum_39 (lv_at hl 0 rfl) ?_
        refine rdVN (As := [.int z]) (rest := []) (st1 := [.int (f_X1_unused z st us)]) (k_X1_unused l D cI cJ cZ a n ah pl ck1 ct1 nk pm ja rg bu pn tp st us fb kA1 tA1 lx ly gx1 gy1 gu1 gv1 z (in_of hz (by have := (nle_lt c_1 eK hz (by omega) (by omega)); omega : i < 4) (by decide))) (si_X3_116 ht ⟨Nat.le_of_ble_eq_true rfl, Nat.le_of_ble_eq_true rfl⟩) hx hb hml hown (va_recv hK hP (ci := 2) (q0 := 1) rfl rfl) (hE.since hS) hP hK rfl hl.1 rfl (Nat.le_of_ble_eq_true rfl) ⟨Nat.zero_le _, Nat.zero_le _⟩ dX3_leastSum_41 rfl ?_
        refine lv_iconst (v := 1) hx hb dX3_leastSum_44 (by decide) ?_
        refine lv_icmp_ge (tgt := 51) hx hb dX3_leastSum_45 (by decide) (fun c_2 => ?_) (fun c_2 => ?_)
        · skip
          refine lv_iconst (v := 0) hx hb dX3_leastSum_51 (by decide) ?_
          refine lv_istore (lv' := [(9, .int 0), (8, .int z), (7, .int (f_X2_turnBefore r tA)), (6, .int q3), (5, .int q2), (3, .long q1), (0, .ref (a 0)), (1, .int r), (2, .int 1)]) hx hb dX3_leastSum_52 hl (by decide) rfl (fun ls hl => ?_)
          have lq : ∀ (N : Nat) (j : Nat) (p1 : Int64) (p2 : Int32) (p3 : Int32) (z2 : Int32) (ck2 : Int32) (ct2 : Int32) (kA2 : Nat → Int32) (tA2 : Nat → Int32) (gx2 : Nat → Int64) (gy2 : Nat → Int64) (gu2 : Nat → Int64) (gv2 : Nat → Int64), (z2 = nI j) → (j ≤ 16) → (scan (okI st us fb ja (f_X2_turnBefore r tA)) (vl1 tp (gx rn) (gy rn) (gu rn) (gv rn) (lx rn) (ly rn)) (16 * i + j) = (p1, p2, p3)) → (agI rn kA tA gx gy gu gv kA2 tA2 gx2 gy2 gu2 gv2) → 16 - j < N → ∀ (H : Heap) (locs : List Loc), va_P D vwCl (wI cI cJ cZ a n ah pl ck2 ct2 nk pm ja rg bu pn tp st us fb kA2 tA2 lx ly gx2 gy2 gu2 gv2) H → va_D A (wI cI cJ cZ a n ah pl ck2 ct2 nk pm ja rg bu pn tp st us fb kA2 tA2 lx ly gx2 gy2 gu2 gv2) → va_S A s.heap H locs → ∀ (ls : Array Slot), lv_has ls 12 [(9, .int z2), (8, .int z), (7, .int (f_X2_turnBefore r tA)), (6, .int p3), (5, .int p2), (3, .long p1), (0, .ref (a 0)), (1, .int r), (2, .int 1)] → W p l e (rmD 3 0 0) s m ([.ref (a 0), .int r, .int 1] : List Value).toArray below meth c H locs 0 0 (MQ below (QcW D (wI cI cJ cZ a n ah pl ck ct nk pm ja rg bu pn tp st us fb kA tA lx ly gx gy gu gv) s.heap.size (fun ov w' => ∃ (kA' tA' : Nat → Int32) (gx' gy' gu' gv' : Nat → Int64), ov = some (.long (scan (okI st us fb ja (f_X2_turnBefore r tA)) (vl1 tp (gx rn) (gy rn) (gu rn) (gv rn) (lx rn) (ly rn)) (16 * K)).1) ∧ w' = wI cI cJ cZ a n ah pl ((scan (okI st us fb ja (f_X2_turnBefore r tA)) (vl1 tp (gx rn) (gy rn) (gu rn) (gv rn) (lx rn) (ly rn)) (16 * K)).2.1) ((scan (okI st us fb ja (f_X2_turnBefore r tA)) (vl1 tp (gx rn) (gy rn) (gu rn) (gv rn) (lx rn) (ly rn)) (16 * K)).2.2) nk pm ja rg bu pn tp st us fb kA' tA' lx ly gx' gy' gu' gv' ∧ agI rn kA tA gx gy gu gv kA' tA' gx' gy' gu' gv')) ([.ref (a 0), .int r, .int 1] : List Value).toArray s 0 0 A) (F0 m 54 ls []) := by
            intro N
            induction N with
            | zero => intro j p1 p2 p3 z2 ck2 ct2 kA2 tA2 gx2 gy2 gu2 gv2 _ _ _ _ hN; exact absurd hN (Nat.not_lt_zero _)
            | succ N lq_ih =>
              intro j p1 p2 p3 z2 ck2 ct2 kA2 tA2 gx2 gy2 gu2 gv2 hz2 hj hq2 hag2 hN H locs hP hD hS ls hl
              refine lv_iload hx hb dX3_leastSum_54 (lv_at hl 0 rfl) ?_
              refine lv_bipush (v := 16) hx hb dX3_leastSum_56 (by decide) ?_
              refine lv_icmp_ge (tgt := 115) hx hb dX3_leastSum_58 (by decide) (fun c_3 => ?_) (fun c_3 => ?_)
              · skip
                have h7 := (nle_lt c_1 eK hz (by omega) (by omega))
                have h6 := le_le c_3 (show (16 : Int32) = nI 16 from rfl) hz2 (by omega) (by omega)
                have hs9 : scan (okI st us fb ja (f_X2_turnBefore r tA)) (vl1 tp (gx rn) (gy rn) (gu rn) (gv rn) (lx rn) (ly rn)) (16 * (i + 1)) = (p1, p2, p3) := by rw [Nat.mul_succ]; rw [show j = 16 by omega] at hq2; exact hq2
                refine lv_iinc (v := z + 1) (lv' := [(8, .int (z + 1)), (9, .int z2), (7, .int (f_X2_turnBefore r tA)), (6, .int p3), (5, .int p2), (3, .long p1), (0, .ref (a 0)), (1, .int r), (2, .int 1)]) hx hb dX3_leastSum_115 hl (k := 1) rfl rfl (by decide) rfl (fun ls hl => ?_)
                refine lv_goto (tgt := 23) hx hb dX3_leastSum_118 (by decide) ?_
                exact lp_ih (i + 1) p1 p2 p3 (z + 1) ck2 ct2 kA2 tA2 gx2 gy2 gu2 gv2 (nI_s hz) (by omega) hs9 hag2 (by omega) _ _ hP hD hS ls (lv_sub hl [0, 2, 3, 4, 5, 6, 7, 8] rfl)
              · skip
                refine lv_aload_n hx hb dX3_leastSum_61 rfl (lv_at hl 6 rfl) ?_
                refine va_get (D := D) (ci := 4) (v := .ref (a 5)) (C := RX3) (T := TX3) (N := 7) hx hb (lyX3 ht) (fun _ h9 => h9) hown hK hP 0 rfl rfl 1 (by decide) (fl_X3_19 ht) (fun _ h9 => h9) rfl dX3_leastSum_62 ?_
                refine lv_iload hx hb dX3_leastSum_65 (lv_at hl 0 rfl) ?_
                refine lv_iload hx hb dX3_leastSum_67 (lv_at hl 2 rfl) ?_
                refine rdVN (As := [.int z2, .int (f_X2_turnBefore r tA)]) (rest := []) (st1 := [.int (f_X0_fits z2 (f_X2_turnBefore r tA) ja fb)]) (k_X0_fits l D cI cJ cZ a n ah pl ck2 ct2 nk pm ja rg bu pn tp st us fb kA2 tA2 lx ly gx2 gy2 gu2 gv2 z2 (f_X2_turnBefore r tA) (in_of hz2 (by have := nle_lt c_3 (show (16 : Int32) = nI 16 from rfl) hz2 (by omega) (by omega); omega : j < 16) (by decide)) hja) (si_X3_203 ht ⟨Nat.le_of_ble_eq_true rfl, Nat.le_of_ble_eq_true rfl⟩) hx hb hml hown (va_recv hK hP (ci := 1) (q0 := 5) rfl rfl) (hE.since hS) hP hK rfl hl.1 rfl (Nat.le_of_ble_eq_true rfl) ⟨Nat.zero_le _, Nat.zero_le _⟩ dX3_leastSum_69 rfl ?_
                refine lv_if_ne (tgt := 78) hx hb dX3_leastSum_72 (by decide) (fun c_4 => ?_) (fun c_4 => ?_)
                · skip
                  refine lv_aload_n hx hb dX3_leastSum_78 rfl (lv_at hl 6 rfl) ?_
                  refine lv_iload_n hx hb dX3_leastSum_79 rfl (lv_at hl 7 rfl) ?_
                  refine lv_iload_n hx hb dX3_leastSum_80 rfl (lv_at hl 8 rfl) ?_
                  refine lv_iload hx hb dX3_leastSum_81 (lv_at hl 1 rfl) ?_
                  refine lv_iload hx hb dX3_leastSum_83 (lv_at hl 0 rfl) ?_
                  refine lv_lload_n hx hb dX3_leastSum_85 rfl (lv_at hl 5 rfl) ?_
                  refine wrV (As := [.int r, .int 1, .int z, .int z2, .long p1]) (rest := []) (k_X3_sumWith1 l D cI cJ cZ a n ah pl ck2 ct2 nk pm ja rg bu pn tp st us fb kA2 tA2 lx ly gx2 gy2 gu2 gv2 r z z2 p1 rn i j er hrn hn hz (by have := (nle_lt c_1 eK hz (by omega) (by omega)); omega) hz2) (si_X3_207 ht ⟨Nat.le_of_ble_eq_true rfl, Nat.le_of_ble_eq_true rfl⟩) hx hb hml hown (va_recv hK hP (ci := 4) (q0 := 0) rfl rfl) hE hP hK hD hS hA rfl hl.1 rfl (Nat.le_of_ble_eq_true rfl) ⟨Nat.zero_le _, Nat.zero_le _⟩ dX3_leastSum_86 (fun ov w' H locs hpost hP hD hS => ?_)
                  obtain ⟨ck_5, ct_5, kA_5, tA_5, gx_5, gy_5, gu_5, gv_5, rfl, rfl, hag_5⟩ := hpost
                  refine W.st (st1 := [.long (vl1 tp (gx2 rn) (gy2 rn) (gu2 rn) (gv2 rn) (lx rn) (ly rn) i j p1)]) rfl ?_
                  have hP : va_P D vwCl (wI cI cJ cZ a n ah pl ck_5 ct_5 nk pm ja rg bu pn tp st us fb kA_5 tA_5 lx ly gx_5 gy_5 gu_5 gv_5) H := hP
                  have hD : va_D A (wI cI cJ cZ a n ah pl ck_5 ct_5 nk pm ja rg bu pn tp st us fb kA_5 tA_5 lx ly gx_5 gy_5 gu_5 gv_5) := hD
                  refine lv_topl (fun u_5 eu_5 => ?_)
                  refine lv_lstore (lv' := [(10, .long u_5), (9, .int z2), (8, .int z), (7, .int (f_X2_turnBefore r tA)), (6, .int p3), (5, .int p2), (3, .long p1), (0, .ref (a 0)), (1, .int r), (2, .int 1)]) hx hb dX3_leastSum_89 hl (by decide) rfl (fun ls hl => ?_)
                  refine lv_lload hx hb dX3_leastSum_91 (lv_at hl 0 rfl) ?_
                  refine lv_lload_n hx hb dX3_leastSum_93 rfl (lv_at hl 6 rfl) ?_
                  refine W.lcmp hx hb dX3_leastSum_94 ?_
                  refine lv_if_ge (tgt := 109) hx hb dX3_leastSum_95 (by decide) (fun c_6 => ?_) (fun c_6 => ?_)
                  · skip
                    have h8 : j < 16 := nle_lt c_3 (show (16 : Int32) = nI 16 from rfl) hz2 (by omega) (by omega)
                    have h81 : 1 ≤ st i - us i := by have h7 := c_2; unfold f_X1_unused at h7; rw [cl_of hz (by omega)] at h7; exact h7
                    have hok : okI st us fb ja (f_X2_turnBefore r tA) i j = true := okI_t h81 (by rw [← hz2]; exact c_4)
                    have eu : u_5 = vl1 tp (gx rn) (gy rn) (gu rn) (gv rn) (lx rn) (ly rn) i j p1 := by rw [eu_5, hag2.2.2.1 rn (by omega), hag2.2.2.2.1 rn (by omega), hag2.2.2.2.2.1 rn (by omega), hag2.2.2.2.2.2 rn (by omega)]
                    have hs8 : scan (okI st us fb ja (f_X2_turnBefore r tA)) (vl1 tp (gx rn) (gy rn) (gu rn) (gv rn) (lx rn) (ly rn)) (16 * i + (j + 1)) = (p1, p2, p3) := scan_ge h8 hq2 hok (by rw [← eu]; exact Int64.not_lt.mpr ((lg_cmp_ge _ _).mp c_6))
                    refine lv_iinc (v := z2 + 1) (lv' := [(9, .int (z2 + 1)), (10, .long u_5), (8, .int z), (7, .int (f_X2_turnBefore r tA)), (6, .int p3), (5, .int p2), (3, .long p1), (0, .ref (a 0)), (1, .int r), (2, .int 1)]) hx hb dX3_leastSum_109 hl (k := 1) rfl rfl (by decide) rfl (fun ls hl => ?_)
                    refine lv_goto (tgt := 54) hx hb dX3_leastSum_112 (by decide) ?_
                    exact lq_ih (j + 1) p1 p2 p3 (z2 + 1) ck_5 ct_5 kA_5 tA_5 gx_5 gy_5 gu_5 gv_5 (nI_s hz2) (by omega) hs8 (agI.tr hag2 hag_5) (by omega) _ _ hP hD hS ls (lv_sub hl [0, 2, 3, 4, 5, 6, 7, 8, 9] rfl)
                  · skip
                    refine lv_lload hx hb dX3_leastSum_98 (lv_at hl 0 rfl) ?_
                    refine lv_lstore_n (lv' := [(3, .long u_5), (10, .long u_5), (9, .int z2), (8, .int z), (7, .int (f_X2_turnBefore r tA)), (6, .int p3), (5, .int p2), (0, .ref (a 0)), (1, .int r), (2, .int 1)]) hx hb dX3_leastSum_100 rfl hl (by decide) rfl (fun ls hl => ?_)
                    refine lv_iload hx hb dX3_leastSum_101 (lv_at hl 3 rfl) ?_
                    refine lv_istore (lv' := [(5, .int z), (3, .long u_5), (10, .long u_5), (9, .int z2), (8, .int z), (7, .int (f_X2_turnBefore r tA)), (6, .int p3), (0, .ref (a 0)), (1, .int r), (2, .int 1)]) hx hb dX3_leastSum_103 hl (by decide) rfl (fun ls hl => ?_)
                    refine lv_iload hx hb dX3_leastSum_105 (lv_at hl 3 rfl) ?_
                    refine lv_istore (lv' := [(6, .int z2), (5, .int z), (3, .long u_5), (10, .long u_5), (9, .int z2), (8, .int z), (7, .int (f_X2_turnBefore r tA)), (0, .ref (a 0)), (1, .int r), (2, .int 1)]) hx hb dX3_leastSum_107 hl (by decide) rfl (fun ls hl => ?_)
                    have h8 : j < 16 := nle_lt c_3 (show (16 : Int32) = nI 16 from rfl) hz2 (by omega) (by omega)
                    have h81 : 1 ≤ st i - us i := by have h7 := c_2; unfold f_X1_unused at h7; rw [cl_of hz (by omega)] at h7; exact h7
                    have hok : okI st us fb ja (f_X2_turnBefore r tA) i j = true := okI_t h81 (by rw [← hz2]; exact c_4)
                    have eu : u_5 = vl1 tp (gx rn) (gy rn) (gu rn) (gv rn) (lx rn) (ly rn) i j p1 := by rw [eu_5, hag2.2.2.1 rn (by omega), hag2.2.2.2.1 rn (by omega), hag2.2.2.2.2.1 rn (by omega), hag2.2.2.2.2.2 rn (by omega)]
                    have hs8 : scan (okI st us fb ja (f_X2_turnBefore r tA)) (vl1 tp (gx rn) (gy rn) (gu rn) (gv rn) (lx rn) (ly rn)) (16 * i + (j + 1)) = (u_5, z, z2) := by rw [scan_lt h8 hq2 hok (by rw [← eu]; exact Int64.not_le.mp (fun h => c_6 ((lg_cmp_ge _ _).mpr h))), ← eu, ← hz, ← hz2]
                    refine lv_iinc (v := z2 + 1) (lv' := [(9, .int (z2 + 1)), (6, .int z2), (5, .int z), (3, .long u_5), (10, .long u_5), (8, .int z), (7, .int (f_X2_turnBefore r tA)), (0, .ref (a 0)), (1, .int r), (2, .int 1)]) hx hb dX3_leastSum_109 hl (k := 4) rfl rfl (by decide) rfl (fun ls hl => ?_)
                    refine lv_goto (tgt := 54) hx hb dX3_leastSum_112 (by decide) ?_
                    exact lq_ih (j + 1) u_5 z z2 (z2 + 1) ck_5 ct_5 kA_5 tA_5 gx_5 gy_5 gu_5 gv_5 (nI_s hz2) (by omega) hs8 (agI.tr hag2 hag_5) (by omega) _ _ hP hD hS ls (lv_sub hl [0, 5, 6, 1, 2, 3, 7, 8, 9] rfl)
                · skip
                  refine lv_goto (tgt := 109) hx hb dX3_leastSum_75 (by decide) ?_
                  have h8 : j < 16 := nle_lt c_3 (show (16 : Int32) = nI 16 from rfl) hz2 (by omega) (by omega)
                  have hs8 : scan (okI st us fb ja (f_X2_turnBefore r tA)) (vl1 tp (gx rn) (gy rn) (gu rn) (gv rn) (lx rn) (ly rn)) (16 * i + (j + 1)) = (p1, p2, p3) := by rw [scan_no h8 (okI_f2 (by rw [← hz2]; exact c_4))]; exact hq2
                  refine lv_iinc (v := z2 + 1) (lv' := [(9, .int (z2 + 1)), (8, .int z), (7, .int (f_X2_turnBefore r tA)), (6, .int p3), (5, .int p2), (3, .long p1), (0, .ref (a 0)), (1, .int r), (2, .int 1)]) hx hb dX3_leastSum_109 hl (k := 0) rfl rfl (by decide) rfl (fun ls hl => ?_)
                  refine lv_goto (tgt := 54) hx hb dX3_leastSum_112 (by decide) ?_
                  exact lq_ih (j + 1) p1 p2 p3 (z2 + 1) ck2 ct2 kA2 tA2 gx2 gy2 gu2 gv2 (nI_s hz2) (by omega) hs8 hag2 (by omega) _ _ hP hD hS ls (lv_sub hl [0, 1, 2, 3, 4, 5, 6, 7, 8] rfl)
          exact lq _ 0 q1 q2 q3 0 ck1 ct1 kA1 tA1 gx1 gy1 gu1 gv1 rfl (Nat.zero_le _) hq hag (Nat.lt_succ_self _) _ _ hP hD hS ls (lv_sub hl [0, 1, 2, 3, 4, 5, 6, 7, 8] rfl)
        · skip
          refine lv_goto (tgt := 115) hx hb dX3_leastSum_48 (by decide) ?_
          have h7 := (nle_lt c_1 eK hz (by omega) (by omega))
          have hs9 : scan (okI st us fb ja (f_X2_turnBefore r tA)) (vl1 tp (gx rn) (gy rn) (gu rn) (gv rn) (lx rn) (ly rn)) (16 * (i + 1)) = (q1, q2, q3) := by rw [Nat.mul_succ, scan_skip (fun j => okI_f1 (by have h6 := c_2; unfold f_X1_unused at h6; rw [cl_of hz (by omega)] at h6; exact h6)) 16 (by omega)]; exact hq
          refine lv_iinc (v := z + 1) (lv' := [(8, .int (z + 1)), (7, .int (f_X2_turnBefore r tA)), (6, .int q3), (5, .int q2), (3, .long q1), (0, .ref (a 0)), (1, .int r), (2, .int 1)]) hx hb dX3_leastSum_115 hl (k := 0) rfl rfl (by decide) rfl (fun ls hl => ?_)
          refine lv_goto (tgt := 23) hx hb dX3_leastSum_118 (by decide) ?_
          exact lp_ih (i + 1) q1 q2 q3 (z + 1) ck1 ct1 kA1 tA1 gx1 gy1 gu1 gv1 (nI_s hz) (by omega) hs9 hag (by omega) _ _ hP hD hS ls (lv_sub hl [0, 1, 2, 3, 4, 5, 6, 7] rfl)
  exact lp _ 0 4611686018427387904 (-1) (-1) 0 ck ct kA tA gx gy gu gv rfl (Nat.zero_le _) rfl agI.rf (Nat.lt_succ_self _) _ _ hP hD hS ls (lv_sub hl [0, 1, 2, 3, 4, 5, 6, 7] rfl)
end
section
set_option maxRecDepth 20000 in
set_option maxHeartbeats 4000000 in
theorem k_X3_sumWith2 (l : Launch) (D : va_G) (cI cJ cZ : ClassId) (a : Nat → Nat) (n : Nat) (ah pl ck ct nk pm ja rg bu pn : Int32) (tp st us fb kA tA : Nat → Int32) (lx ly gx gy gu gv : Nat → Int64) (r : Int32) (k : Int32) (f : Int32) (u1 : Int64) (rn kn fn K : Nat) (er : r = nI rn) (hrn : rn < n) (hn : n ≤ 24) (ek : k = nI kn) (hk4 : kn < 4) (ef : f = nI fn) (eK : nk = nI K) (hK4 : K ≤ 4) (hja : ¬ ja = 0) (hr1 : rn + 1 < n) : WR l yX3_sumWith cX3_sumWith 11 (some .long) 4 0 0 D (tysW cI cJ cZ) (wI cI cJ cZ a n ah pl ck ct nk pm ja rg bu pn tp st us fb kA tA lx ly gx gy gu gv) [.ref (a 0), .int r, .int 2, .int k, .int f, .long u1] (fun ov w' => ∃ (ck' ct' : Int32) (kA' tA' : Nat → Int32) (gx' gy' gu' gv' : Nat → Int64), ov = some (.long (vl2 K tp st us fb ja (gx rn) (gy rn) (gu rn) (gv rn) (lx rn) (ly rn) (lx (rn + 1)) (ly (rn + 1)) kn fn u1)) ∧ w' = wI cI cJ cZ a n ah pl ck' ct' nk pm ja rg bu pn tp st us fb kA' tA' lx ly gx' gy' gu' gv' ∧ agI rn kA tA gx gy gu gv kA' tA' gx' gy' gu' gv') := by
  refine WR.of (by decide) ?_
  intro p e s m below meth c A hadm hx hb hr hml hown hlocks hname hE hP hK hD hS hA hAe
  have hown : s.vm.findClass RX3 = some m.cls := hown
  have ht : tb_OK s := hE.1
  have hl := lv_entry ([.ref (a 0), .int r, .int 2, .int k, .int f, .long u1]) (n := 11) (Nat.le_of_ble_eq_true rfl)
  rw [lg_entry_eq]
  generalize (lg_sl ([.ref (a 0), .int r, .int 2, .int k, .int f, .long u1]) ++ List.replicate (11 - (lg_sl ([.ref (a 0), .int r, .int 2, .int k, .int f, .long u1])).length) Slot.unset).toArray = ls at hl ⊢
  have hl : lv_has ls 11 [(0, .ref (a 0)), (1, .int r), (2, .int 2), (3, .int k), (4, .int f), (5, .long u1)] := hl
  refine lv_aload_n hx hb dX3_sumWith_0 rfl (lv_at hl 0 rfl) ?_
  refine va_get (D := D) (ci := 4) (v := .ref (a 7)) (C := RX3) (T := TX3) (N := 7) hx hb (lyX3 ht) (fun _ h9 => h9) hown hK hP 0 rfl rfl 2 (by decide) (fl_X3_37 ht) (fun _ h9 => h9) rfl dX3_sumWith_1 ?_
  refine lv_iload_n hx hb dX3_sumWith_4 rfl (lv_at hl 1 rfl) ?_
  refine lv_iload_n hx hb dX3_sumWith_5 rfl (lv_at hl 3 rfl) ?_
  refine lv_aload_n hx hb dX3_sumWith_6 rfl (lv_at hl 0 rfl) ?_
  refine va_get (D := D) (ci := 4) (v := .ref (a 1)) (C := RX3) (T := TX3) (N := 7) hx hb (lyX3 ht) (fun _ h9 => h9) hown hK hP 0 rfl rfl 0 (by decide) (fl_X3_10 ht) (fun _ h9 => h9) rfl dX3_sumWith_7 ?_
  refine va_getN (D := D) (ci := 2) (v := .ref (a 2)) (C := RX1) (T := TX1) (N := 4) hx hb (lyX1 ht) (fun _ h9 => h9) hown hK hP 1 rfl rfl 0 (by decide) (fn_X3_169 ht) (fun _ h9 => h9) rfl dX3_sumWith_10 ?_
  refine lv_iload_n hx hb dX3_sumWith_13 rfl (lv_at hl 3 rfl) ?_
  refine va_iald hx hb hK hP 2 0 rfl rfl (in_of ek hk4 (by decide)) dX3_sumWith_14 ?_
  refine lv_iload hx hb dX3_sumWith_15 (lv_at hl 4 rfl) ?_
  refine wrVN (As := [.int r, .int k, .int (tp k.toNatClampNeg), .int f]) (rest := []) (k_X2_lay l D cI cJ cZ a n ah pl ck ct nk pm ja rg bu pn tp st us fb kA tA lx ly gx gy gu gv r k (tp k.toNatClampNeg) f (in_of er hrn (by omega)) (in_of er (by omega) (by omega)) (in_of (nI_s er) (by omega) (by omega))) (si_X3_190 ht ⟨Nat.le_of_ble_eq_true rfl, Nat.le_of_ble_eq_true rfl⟩) hx hb hml hown (va_recv hK hP (ci := 3) (q0 := 7) rfl rfl) hE hP hK hD hS hA rfl hl.1 rfl (Nat.le_of_ble_eq_true rfl) ⟨Nat.zero_le _, Nat.zero_le _⟩ dX3_sumWith_17 (fun ov w' H locs hpost hP hD hS => ?_)
  obtain ⟨rfl, rfl⟩ := hpost
  refine W.st (st1 := []) rfl ?_
  have hP : va_P D vwCl (wI cI cJ cZ a n ah pl ck ct nk pm ja rg bu pn tp st us fb (f_X2_lay_kA r k kA) (f_X2_lay_tA r f tA) lx ly (f_X2_lay_gx r (tp k.toNatClampNeg) f gx gu) (f_X2_lay_gy r (tp k.toNatClampNeg) f gy gv) (f_X2_lay_gu r (tp k.toNatClampNeg) f gu) (f_X2_lay_gv r (tp k.toNatClampNeg) f gv)) H := hP
  have hD : va_D A (wI cI cJ cZ a n ah pl ck ct nk pm ja rg bu pn tp st us fb (f_X2_lay_kA r k kA) (f_X2_lay_tA r f tA) lx ly (f_X2_lay_gx r (tp k.toNatClampNeg) f gx gu) (f_X2_lay_gy r (tp k.toNatClampNeg) f gy gv) (f_X2_lay_gu r (tp k.toNatClampNeg) f gu) (f_X2_lay_gv r (tp k.toNatClampNeg) f gv)) := hD
  refine lv_aload_n hx hb dX3_sumWith_20 rfl (lv_at hl 0 rfl) ?_
  refine va_get (D := D) (ci := 4) (v := .ref (a 7)) (C := RX3) (T := TX3) (N := 7) hx hb (lyX3 ht) (fun _ h9 => h9) hown hK hP 0 rfl rfl 2 (by decide) (fl_X3_37 ht) (fun _ h9 => h9) rfl dX3_sumWith_21 ?_
  refine lv_iload_n hx hb dX3_sumWith_24 rfl (lv_at hl 1 rfl) ?_
  refine rdVN (As := [.int r]) (rest := []) (st1 := [.long (f_X2_offAt r lx ly (f_X2_lay_gx r (tp k.toNatClampNeg) f gx gu) (f_X2_lay_gy r (tp k.toNatClampNeg) f gy gv))]) (k_X2_offAt l D cI cJ cZ a n ah pl ck ct nk pm ja rg bu pn tp st us fb (f_X2_lay_kA r k kA) (f_X2_lay_tA r f tA) lx ly (f_X2_lay_gx r (tp k.toNatClampNeg) f gx gu) (f_X2_lay_gy r (tp k.toNatClampNeg) f gy gv) (f_X2_lay_gu r (tp k.toNatClampNeg) f gu) (f_X2_lay_gv r (tp k.toNatClampNeg) f gv) r (in_of er hrn (by omega)) (in_of (nI_s er) (by omega) (by omega))) (si_X3_158 ht ⟨Nat.le_of_ble_eq_true rfl, Nat.le_of_ble_eq_true rfl⟩) hx hb hml hown (va_recv hK hP (ci := 3) (q0 := 7) rfl rfl) (hE.since hS) hP hK rfl hl.1 rfl (Nat.le_of_ble_eq_true rfl) ⟨Nat.zero_le _, Nat.zero_le _⟩ dX3_sumWith_25 rfl ?_
  refine lv_lstore (lv' := [(7, .long (f_X2_offAt r lx ly (f_X2_lay_gx r (tp k.toNatClampNeg) f gx gu) (f_X2_lay_gy r (tp k.toNatClampNeg) f gy gv))), (0, .ref (a 0)), (1, .int r), (2, .int 2), (3, .int k), (4, .int f), (5, .long u1)]) hx hb dX3_sumWith_28 hl (by decide) rfl (fun ls hl => ?_)
  refine lv_lload hx hb dX3_sumWith_30 (lv_at hl 0 rfl) ?_
  refine lv_lload hx hb dX3_sumWith_32 (lv_at hl 6 rfl) ?_
  refine W.lcmp hx hb dX3_sumWith_34 ?_
  refine lv_if_lt (tgt := 42) hx hb dX3_sumWith_35 (by decide) (fun c_1 => ?_) (fun c_1 => ?_)
  · skip
    refine lv_iload_n hx hb dX3_sumWith_42 rfl (lv_at hl 3 rfl) ?_
    refine lv_iconst (v := 2) hx hb dX3_sumWith_43 (by decide) ?_
    refine lv_icmp_ge (tgt := 50) hx hb dX3_sumWith_44 (by decide) (fun c_2 => ?_) (fun c_2 => absurd (by decide) c_2)
    refine lv_aload_n hx hb dX3_sumWith_50 rfl (lv_at hl 1 rfl) ?_
    refine va_get (D := D) (ci := 4) (v := .ref (a 1)) (C := RX3) (T := TX3) (N := 7) hx hb (lyX3 ht) (fun _ h9 => h9) hown hK hP 0 rfl rfl 0 (by decide) (fl_X3_10 ht) (fun _ h9 => h9) rfl dX3_sumWith_51 ?_
    refine lv_iload_n hx hb dX3_sumWith_54 rfl (lv_at hl 4 rfl) ?_
    refine wrVN (As := [.int k]) (rest := []) (k_X1_take l D cI cJ cZ a n ah pl ck ct nk pm ja rg bu pn tp st us fb (f_X2_lay_kA r k kA) (f_X2_lay_tA r f tA) lx ly (f_X2_lay_gx r (tp k.toNatClampNeg) f gx gu) (f_X2_lay_gy r (tp k.toNatClampNeg) f gy gv) (f_X2_lay_gu r (tp k.toNatClampNeg) f gu) (f_X2_lay_gv r (tp k.toNatClampNeg) f gv) k (in_of ek hk4 (by decide))) (si_X3_122 ht ⟨Nat.le_of_ble_eq_true rfl, Nat.le_of_ble_eq_true rfl⟩) hx hb hml hown (va_recv hK hP (ci := 2) (q0 := 1) rfl rfl) hE hP hK hD hS hA rfl hl.1 rfl (Nat.le_of_ble_eq_true rfl) ⟨Nat.zero_le _, Nat.zero_le _⟩ dX3_sumWith_55 (fun ov w' H locs hpost hP hD hS => ?_)
    obtain ⟨rfl, rfl⟩ := hpost
    refine W.st (st1 := []) rfl ?_
    have hP : va_P D vwCl (wI cI cJ cZ a n ah pl ck ct nk pm ja rg bu pn tp st (f_X1_take_us k us) fb (f_X2_lay_kA r k kA) (f_X2_lay_tA r f tA) lx ly (f_X2_lay_gx r (tp k.toNatClampNeg) f gx gu) (f_X2_lay_gy r (tp k.toNatClampNeg) f gy gv) (f_X2_lay_gu r (tp k.toNatClampNeg) f gu) (f_X2_lay_gv r (tp k.toNatClampNeg) f gv)) H := hP
    have hD : va_D A (wI cI cJ cZ a n ah pl ck ct nk pm ja rg bu pn tp st (f_X1_take_us k us) fb (f_X2_lay_kA r k kA) (f_X2_lay_tA r f tA) lx ly (f_X2_lay_gx r (tp k.toNatClampNeg) f gx gu) (f_X2_lay_gy r (tp k.toNatClampNeg) f gy gv) (f_X2_lay_gu r (tp k.toNatClampNeg) f gu) (f_X2_lay_gv r (tp k.toNatClampNeg) f gv)) := hD
    refine lv_aload_n hx hb dX3_sumWith_58 rfl (lv_at hl 1 rfl) ?_
    refine lv_iload_n hx hb dX3_sumWith_59 rfl (lv_at hl 2 rfl) ?_
    refine lv_iconst (v := 1) hx hb dX3_sumWith_60 (by decide) ?_
    refine lv_iadd hx hb dX3_sumWith_61 ?_
    refine lv_iload_n hx hb dX3_sumWith_62 rfl (lv_at hl 3 rfl) ?_
    refine lv_iconst (v := 1) hx hb dX3_sumWith_63 (by decide) ?_
    refine lv_isub hx hb dX3_sumWith_64 ?_
    refine W.st (st1 := [.int 1, .int (r + 1), .ref (a 0)]) (by rw [show (2 - 1 : Int32) = 1 from by decide]) ?_
    refine wrV (As := [.int (r + 1), .int 1]) (rest := []) (k_X3_leastSum1 l D cI cJ cZ a n ah pl ck ct nk pm ja rg bu pn tp st (f_X1_take_us k us) fb (f_X2_lay_kA r k kA) (f_X2_lay_tA r f tA) lx ly (f_X2_lay_gx r (tp k.toNatClampNeg) f gx gu) (f_X2_lay_gy r (tp k.toNatClampNeg) f gy gv) (f_X2_lay_gu r (tp k.toNatClampNeg) f gu) (f_X2_lay_gv r (tp k.toNatClampNeg) f gv) (r + 1) (rn + 1) K (nI_s er) hr1 hn eK hK4 hja) (si_X3_194 ht ⟨Nat.le_of_ble_eq_true rfl, Nat.le_of_ble_eq_true rfl⟩) hx hb hml hown (va_recv hK hP (ci := 4) (q0 := 0) rfl rfl) hE hP hK hD hS hA rfl hl.1 rfl (Nat.le_of_ble_eq_true rfl) ⟨Nat.zero_le _, Nat.zero_le _⟩ dX3_sumWith_65 (fun ov w' H locs hpost hP hD hS => ?_)
    obtain ⟨kA_3, tA_3, gx_3, gy_3, gu_3, gv_3, rfl, rfl, hag_3⟩ := hpost
    refine W.st (st1 := [.long ((scan (okI st (f_X1_take_us k us) fb ja (f_X2_turnBefore (r + 1) (f_X2_lay_tA r f tA))) (vl1 tp ((f_X2_lay_gx r (tp k.toNatClampNeg) f gx gu) (rn + 1)) ((f_X2_lay_gy r (tp k.toNatClampNeg) f gy gv) (rn + 1)) ((f_X2_lay_gu r (tp k.toNatClampNeg) f gu) (rn + 1)) ((f_X2_lay_gv r (tp k.toNatClampNeg) f gv) (rn + 1)) (lx (rn + 1)) (ly (rn + 1))) (16 * K)).1)]) rfl ?_
    have hP : va_P D vwCl (wI cI cJ cZ a n ah pl ((scan (okI st (f_X1_take_us k us) fb ja (f_X2_turnBefore (r + 1) (f_X2_lay_tA r f tA))) (vl1 tp ((f_X2_lay_gx r (tp k.toNatClampNeg) f gx gu) (rn + 1)) ((f_X2_lay_gy r (tp k.toNatClampNeg) f gy gv) (rn + 1)) ((f_X2_lay_gu r (tp k.toNatClampNeg) f gu) (rn + 1)) ((f_X2_lay_gv r (tp k.toNatClampNeg) f gv) (rn + 1)) (lx (rn + 1)) (ly (rn + 1))) (16 * K)).2.1) ((scan (okI st (f_X1_take_us k us) fb ja (f_X2_turnBefore (r + 1) (f_X2_lay_tA r f tA))) (vl1 tp ((f_X2_lay_gx r (tp k.toNatClampNeg) f gx gu) (rn + 1)) ((f_X2_lay_gy r (tp k.toNatClampNeg) f gy gv) (rn + 1)) ((f_X2_lay_gu r (tp k.toNatClampNeg) f gu) (rn + 1)) ((f_X2_lay_gv r (tp k.toNatClampNeg) f gv) (rn + 1)) (lx (rn + 1)) (ly (rn + 1))) (16 * K)).2.2) nk pm ja rg bu pn tp st (f_X1_take_us k us) fb kA_3 tA_3 lx ly gx_3 gy_3 gu_3 gv_3) H := hP
    have hD : va_D A (wI cI cJ cZ a n ah pl ((scan (okI st (f_X1_take_us k us) fb ja (f_X2_turnBefore (r + 1) (f_X2_lay_tA r f tA))) (vl1 tp ((f_X2_lay_gx r (tp k.toNatClampNeg) f gx gu) (rn + 1)) ((f_X2_lay_gy r (tp k.toNatClampNeg) f gy gv) (rn + 1)) ((f_X2_lay_gu r (tp k.toNatClampNeg) f gu) (rn + 1)) ((f_X2_lay_gv r (tp k.toNatClampNeg) f gv) (rn + 1)) (lx (rn + 1)) (ly (rn + 1))) (16 * K)).2.1) ((scan (okI st (f_X1_take_us k us) fb ja (f_X2_turnBefore (r + 1) (f_X2_lay_tA r f tA))) (vl1 tp ((f_X2_lay_gx r (tp k.toNatClampNeg) f gx gu) (rn + 1)) ((f_X2_lay_gy r (tp k.toNatClampNeg) f gy gv) (rn + 1)) ((f_X2_lay_gu r (tp k.toNatClampNeg) f gu) (rn + 1)) ((f_X2_lay_gv r (tp k.toNatClampNeg) f gv) (rn + 1)) (lx (rn + 1)) (ly (rn + 1))) (16 * K)).2.2) nk pm ja rg bu pn tp st (f_X1_take_us k us) fb kA_3 tA_3 lx ly gx_3 gy_3 gu_3 gv_3) := hD
    refine lv_lstore (lv' := [(9, .long ((scan (okI st (f_X1_take_us k us) fb ja (f_X2_turnBefore (r + 1) (f_X2_lay_tA r f tA))) (vl1 tp ((f_X2_lay_gx r (tp k.toNatClampNeg) f gx gu) (rn + 1)) ((f_X2_lay_gy r (tp k.toNatClampNeg) f gy gv) (rn + 1)) ((f_X2_lay_gu r (tp k.toNatClampNeg) f gu) (rn + 1)) ((f_X2_lay_gv r (tp k.toNatClampNeg) f gv) (rn + 1)) (lx (rn + 1)) (ly (rn + 1))) (16 * K)).1)), (7, .long (f_X2_offAt r lx ly (f_X2_lay_gx r (tp k.toNatClampNeg) f gx gu) (f_X2_lay_gy r (tp k.toNatClampNeg) f gy gv))), (0, .ref (a 0)), (1, .int r), (2, .int 2), (3, .int k), (4, .int f), (5, .long u1)]) hx hb dX3_sumWith_68 hl (by decide) rfl (fun ls hl => ?_)
    refine lv_aload_n hx hb dX3_sumWith_70 rfl (lv_at hl 2 rfl) ?_
    refine va_get (D := D) (ci := 4) (v := .ref (a 1)) (C := RX3) (T := TX3) (N := 7) hx hb (lyX3 ht) (fun _ h9 => h9) hown hK hP 0 rfl rfl 0 (by decide) (fl_X3_10 ht) (fun _ h9 => h9) rfl dX3_sumWith_71 ?_
    refine lv_iload_n hx hb dX3_sumWith_74 rfl (lv_at hl 5 rfl) ?_
    refine wrVN (As := [.int k]) (rest := []) (k_X1_giveBack l D cI cJ cZ a n ah pl ((scan (okI st (f_X1_take_us k us) fb ja (f_X2_turnBefore (r + 1) (f_X2_lay_tA r f tA))) (vl1 tp ((f_X2_lay_gx r (tp k.toNatClampNeg) f gx gu) (rn + 1)) ((f_X2_lay_gy r (tp k.toNatClampNeg) f gy gv) (rn + 1)) ((f_X2_lay_gu r (tp k.toNatClampNeg) f gu) (rn + 1)) ((f_X2_lay_gv r (tp k.toNatClampNeg) f gv) (rn + 1)) (lx (rn + 1)) (ly (rn + 1))) (16 * K)).2.1) ((scan (okI st (f_X1_take_us k us) fb ja (f_X2_turnBefore (r + 1) (f_X2_lay_tA r f tA))) (vl1 tp ((f_X2_lay_gx r (tp k.toNatClampNeg) f gx gu) (rn + 1)) ((f_X2_lay_gy r (tp k.toNatClampNeg) f gy gv) (rn + 1)) ((f_X2_lay_gu r (tp k.toNatClampNeg) f gu) (rn + 1)) ((f_X2_lay_gv r (tp k.toNatClampNeg) f gv) (rn + 1)) (lx (rn + 1)) (ly (rn + 1))) (16 * K)).2.2) nk pm ja rg bu pn tp st (f_X1_take_us k us) fb kA_3 tA_3 lx ly gx_3 gy_3 gu_3 gv_3 k (in_of ek hk4 (by decide))) (si_X3_119 ht ⟨Nat.le_of_ble_eq_true rfl, Nat.le_of_ble_eq_true rfl⟩) hx hb hml hown (va_recv hK hP (ci := 2) (q0 := 1) rfl rfl) hE hP hK hD hS hA rfl hl.1 rfl (Nat.le_of_ble_eq_true rfl) ⟨Nat.zero_le _, Nat.zero_le _⟩ dX3_sumWith_75 (fun ov w' H locs hpost hP hD hS => ?_)
    obtain ⟨rfl, rfl⟩ := hpost
    refine W.st (st1 := []) rfl ?_
    have hP : va_P D vwCl (wI cI cJ cZ a n ah pl ((scan (okI st (f_X1_take_us k us) fb ja (f_X2_turnBefore (r + 1) (f_X2_lay_tA r f tA))) (vl1 tp ((f_X2_lay_gx r (tp k.toNatClampNeg) f gx gu) (rn + 1)) ((f_X2_lay_gy r (tp k.toNatClampNeg) f gy gv) (rn + 1)) ((f_X2_lay_gu r (tp k.toNatClampNeg) f gu) (rn + 1)) ((f_X2_lay_gv r (tp k.toNatClampNeg) f gv) (rn + 1)) (lx (rn + 1)) (ly (rn + 1))) (16 * K)).2.1) ((scan (okI st (f_X1_take_us k us) fb ja (f_X2_turnBefore (r + 1) (f_X2_lay_tA r f tA))) (vl1 tp ((f_X2_lay_gx r (tp k.toNatClampNeg) f gx gu) (rn + 1)) ((f_X2_lay_gy r (tp k.toNatClampNeg) f gy gv) (rn + 1)) ((f_X2_lay_gu r (tp k.toNatClampNeg) f gu) (rn + 1)) ((f_X2_lay_gv r (tp k.toNatClampNeg) f gv) (rn + 1)) (lx (rn + 1)) (ly (rn + 1))) (16 * K)).2.2) nk pm ja rg bu pn tp st (f_X1_giveBack_us k (f_X1_take_us k us)) fb kA_3 tA_3 lx ly gx_3 gy_3 gu_3 gv_3) H := hP
    have hD : va_D A (wI cI cJ cZ a n ah pl ((scan (okI st (f_X1_take_us k us) fb ja (f_X2_turnBefore (r + 1) (f_X2_lay_tA r f tA))) (vl1 tp ((f_X2_lay_gx r (tp k.toNatClampNeg) f gx gu) (rn + 1)) ((f_X2_lay_gy r (tp k.toNatClampNeg) f gy gv) (rn + 1)) ((f_X2_lay_gu r (tp k.toNatClampNeg) f gu) (rn + 1)) ((f_X2_lay_gv r (tp k.toNatClampNeg) f gv) (rn + 1)) (lx (rn + 1)) (ly (rn + 1))) (16 * K)).2.1) ((scan (okI st (f_X1_take_us k us) fb ja (f_X2_turnBefore (r + 1) (f_X2_lay_tA r f tA))) (vl1 tp ((f_X2_lay_gx r (tp k.toNatClampNeg) f gx gu) (rn + 1)) ((f_X2_lay_gy r (tp k.toNatClampNeg) f gy gv) (rn + 1)) ((f_X2_lay_gu r (tp k.toNatClampNeg) f gu) (rn + 1)) ((f_X2_lay_gv r (tp k.toNatClampNeg) f gv) (rn + 1)) (lx (rn + 1)) (ly (rn + 1))) (16 * K)).2.2) nk pm ja rg bu pn tp st (f_X1_giveBack_us k (f_X1_take_us k us)) fb kA_3 tA_3 lx ly gx_3 gy_3 gu_3 gv_3) := hD
    refine lv_lload hx hb dX3_sumWith_78 (lv_at hl 0 rfl) ?_
    refine lv_ldc2 (v := 4611686018427387904) hx hb hown (kl_X3_198 ht) dX3_sumWith_80 ?_
    refine W.lcmp hx hb dX3_sumWith_83 ?_
    refine lv_if_ne (tgt := 93) hx hb dX3_sumWith_84 (by decide) (fun c_4 => ?_) (fun c_4 => ?_)
    · skip
      refine lv_lload hx hb dX3_sumWith_93 (lv_at hl 1 rfl) ?_
      refine lv_lload hx hb dX3_sumWith_95 (lv_at hl 0 rfl) ?_
      refine lv_ladd hx hb dX3_sumWith_97 ?_
      exact wr_l hx hb hr hlocks hAe hP hD hS dX3_sumWith_98 (⟨_, _, _, _, _, _, _, _, by have h9 := c_1; rw [lg_cmp_lt, lay_off er (by omega), cl_of ek (by omega), ef] at h9; have hsc : (scan (okI st (f_X1_take_us k us) fb ja (f_X2_turnBefore (r + 1) (f_X2_lay_tA r f tA))) (vl1 tp ((f_X2_lay_gx r (tp k.toNatClampNeg) f gx gu) (rn + 1)) ((f_X2_lay_gy r (tp k.toNatClampNeg) f gy gv) (rn + 1)) ((f_X2_lay_gu r (tp k.toNatClampNeg) f gu) (rn + 1)) ((f_X2_lay_gv r (tp k.toNatClampNeg) f gv) (rn + 1)) (lx (rn + 1)) (ly (rn + 1))) (16 * K)) = sc1 tp st (f_X1_take_us (nI kn) us) fb ja (nI fn) (pX (gx rn) (gu rn) (tp kn) (nI fn)) (pY (gy rn) (gv rn) (tp kn) (nI fn)) (pU (gu rn) (tp kn) (nI fn)) (pV (gv rn) (tp kn) (nI fn)) (lx (rn + 1)) (ly (rn + 1)) (16 * K) := (by rw [tb_next er (by omega), lay_gx er (by omega), lay_gy er (by omega), lay_gu er (by omega), lay_gv er (by omega), pk_uLs, pk_uLs, pk_uLs, pk_uLs, cl_of ek (by omega), ← ek, ← ef]; rfl); have h8 := c_4; rw [lg_cmp_eq, hsc] at h8; unfold vl2; rw [if_pos h9, if_neg h8, hsc, lay_off er (by omega), cl_of ek (by omega), ef], by rw [take_give], agI.tr (agI_lay er (by omega)) (hag_3.mono (by omega))⟩)
    · skip
      refine lv_ldc2 (v := 4611686018427387904) hx hb hown (kl_X3_198 ht) dX3_sumWith_87 ?_
      refine lv_goto (tgt := 98) hx hb dX3_sumWith_90 (by decide) ?_
      exact wr_l hx hb hr hlocks hAe hP hD hS dX3_sumWith_98 (⟨_, _, _, _, _, _, _, _, by have h9 := c_1; rw [lg_cmp_lt, lay_off er (by omega), cl_of ek (by omega), ef] at h9; have hsc : (scan (okI st (f_X1_take_us k us) fb ja (f_X2_turnBefore (r + 1) (f_X2_lay_tA r f tA))) (vl1 tp ((f_X2_lay_gx r (tp k.toNatClampNeg) f gx gu) (rn + 1)) ((f_X2_lay_gy r (tp k.toNatClampNeg) f gy gv) (rn + 1)) ((f_X2_lay_gu r (tp k.toNatClampNeg) f gu) (rn + 1)) ((f_X2_lay_gv r (tp k.toNatClampNeg) f gv) (rn + 1)) (lx (rn + 1)) (ly (rn + 1))) (16 * K)) = sc1 tp st (f_X1_take_us (nI kn) us) fb ja (nI fn) (pX (gx rn) (gu rn) (tp kn) (nI fn)) (pY (gy rn) (gv rn) (tp kn) (nI fn)) (pU (gu rn) (tp kn) (nI fn)) (pV (gv rn) (tp kn) (nI fn)) (lx (rn + 1)) (ly (rn + 1)) (16 * K) := (by rw [tb_next er (by omega), lay_gx er (by omega), lay_gy er (by omega), lay_gu er (by omega), lay_gv er (by omega), pk_uLs, pk_uLs, pk_uLs, pk_uLs, cl_of ek (by omega), ← ek, ← ef]; rfl); have h8 := c_4; rw [lg_cmp_eq, hsc] at h8; unfold vl2; rw [if_pos h9, if_pos h8], by rw [take_give], agI.tr (agI_lay er (by omega)) (hag_3.mono (by omega))⟩)
  · skip
    refine lv_ldc2 (v := 4611686018427387904) hx hb hown (kl_X3_198 ht) dX3_sumWith_38 ?_
    exact wr_l hx hb hr hlocks hAe hP hD hS dX3_sumWith_41 (⟨_, _, _, _, _, _, _, _, by have h9 := c_1; rw [lg_cmp_lt, lay_off er (by omega), cl_of ek (by omega), ef] at h9; unfold vl2; rw [if_neg h9], rfl, agI_lay er (by omega)⟩)
set_option maxRecDepth 20000 in
set_option maxHeartbeats 4000000 in
theorem k_X3_leastSum2 (l : Launch) (D : va_G) (cI cJ cZ : ClassId) (a : Nat → Nat) (n : Nat) (ah pl ck ct nk pm ja rg bu pn : Int32) (tp st us fb kA tA : Nat → Int32) (lx ly gx gy gu gv : Nat → Int64) (r : Int32) (rn K : Nat) (er : r = nI rn) (hrn : rn < n) (hn : n ≤ 24) (eK : nk = nI K) (hK4 : K ≤ 4) (hja : ¬ ja = 0) (hr1 : rn + 1 < n) : WR l yX3_leastSum cX3_leastSum 12 (some .long) 5 0 0 D (tysW cI cJ cZ) (wI cI cJ cZ a n ah pl ck ct nk pm ja rg bu pn tp st us fb kA tA lx ly gx gy gu gv) [.ref (a 0), .int r, .int 2] (fun ov w' => ∃ (kA' tA' : Nat → Int32) (gx' gy' gu' gv' : Nat → Int64), ov = some (.long (scan (okI st us fb ja (f_X2_turnBefore r tA)) (vl2 K tp st us fb ja (gx rn) (gy rn) (gu rn) (gv rn) (lx rn) (ly rn) (lx (rn + 1)) (ly (rn + 1))) (16 * K)).1) ∧ w' = wI cI cJ cZ a n ah pl ((scan (okI st us fb ja (f_X2_turnBefore r tA)) (vl2 K tp st us fb ja (gx rn) (gy rn) (gu rn) (gv rn) (lx rn) (ly rn) (lx (rn + 1)) (ly (rn + 1))) (16 * K)).2.1) ((scan (okI st us fb ja (f_X2_turnBefore r tA)) (vl2 K tp st us fb ja (gx rn) (gy rn) (gu rn) (gv rn) (lx rn) (ly rn) (lx (rn + 1)) (ly (rn + 1))) (16 * K)).2.2) nk pm ja rg bu pn tp st us fb kA' tA' lx ly gx' gy' gu' gv' ∧ agI rn kA tA gx gy gu gv kA' tA' gx' gy' gu' gv') := by
  refine WR.of (by decide) ?_
  intro p e s m below meth c A hadm hx hb hr hml hown hlocks hname hE hP hK hD hS hA hAe
  have hown : s.vm.findClass RX3 = some m.cls := hown
  have ht : tb_OK s := hE.1
  have hl := lv_entry ([.ref (a 0), .int r, .int 2]) (n := 12) (Nat.le_of_ble_eq_true rfl)
  rw [lg_entry_eq]
  generalize (lg_sl ([.ref (a 0), .int r, .int 2]) ++ List.replicate (12 - (lg_sl ([.ref (a 0), .int r, .int 2])).length) Slot.unset).toArray = ls at hl ⊢
  have hl : lv_has ls 12 [(0, .ref (a 0)), (1, .int r), (2, .int 2)] := hl
  refine lv_ldc2 (v := 4611686018427387904) hx hb hown (kl_X3_198 ht) dX3_leastSum_0 ?_
  refine lv_lstore_n (lv' := [(3, .long 4611686018427387904), (0, .ref (a 0)), (1, .int r), (2, .int 2)]) hx hb dX3_leastSum_3 rfl hl (by decide) rfl (fun ls hl => ?_)
  refine lv_iconst (v := -1) hx hb dX3_leastSum_4 (by decide) ?_
  refine lv_istore (lv' := [(5, .int (-1)), (3, .long 4611686018427387904), (0, .ref (a 0)), (1, .int r), (2, .int 2)]) hx hb dX3_leastSum_5 hl (by decide) rfl (fun ls hl => ?_)
  refine lv_iconst (v := -1) hx hb dX3_leastSum_7 (by decide) ?_
  refine lv_istore (lv' := [(6, .int (-1)), (5, .int (-1)), (3, .long 4611686018427387904), (0, .ref (a 0)), (1, .int r), (2, .int 2)]) hx hb dX3_leastSum_8 hl (by decide) rfl (fun ls hl => ?_)
  refine lv_aload_n hx hb dX3_leastSum_10 rfl (lv_at hl 3 rfl) ?_
  refine va_get (D := D) (ci := 4) (v := .ref (a 7)) (C := RX3) (T := TX3) (N := 7) hx hb (lyX3 ht) (fun _ h9 => h9) hown hK hP 0 rfl rfl 2 (by decide) (fl_X3_37 ht) (fun _ h9 => h9) rfl dX3_leastSum_11 ?_
  refine lv_iload_n hx hb dX3_leastSum_14 rfl (lv_at hl 4 rfl) ?_
  refine rdVN (As := [.int r]) (rest := []) (st1 := [.int (f_X2_turnBefore r tA)]) (k_X2_turnBefore l D cI cJ cZ a n ah pl ck ct nk pm ja rg bu pn tp st us fb kA tA lx ly gx gy gu gv r (in_pred er hrn hn)) (si_X3_200 ht ⟨Nat.le_of_ble_eq_true rfl, Nat.le_of_ble_eq_true rfl⟩) hx hb hml hown (va_recv hK hP (ci := 3) (q0 := 7) rfl rfl) (hE.since hS) hP hK rfl hl.1 rfl (Nat.le_of_ble_eq_true rfl) ⟨Nat.zero_le _, Nat.zero_le _⟩ dX3_leastSum_15 rfl ?_
  refine lv_istore (lv' := [(7, .int (f_X2_turnBefore r tA)), (6, .int (-1)), (5, .int (-1)), (3, .long 4611686018427387904), (0, .ref (a 0)), (1, .int r), (2, .int 2)]) hx hb dX3_leastSum_18 hl (by decide) rfl (fun ls hl => ?_)
  refine lv_iconst (v := 0) hx hb dX3_leastSum_20 (by decide) ?_
  refine lv_istore (lv' := [(8, .int 0), (7, .int (f_X2_turnBefore r tA)), (6, .int (-1)), (5, .int (-1)), (3, .long 4611686018427387904), (0, .ref (a 0)), (1, .int r), (2, .int 2)]) hx hb dX3_leastSum_21 hl (by decide) rfl (fun ls hl => ?_)
  have lp : ∀ (N : Nat) (i : Nat) (q1 : Int64) (q2 : Int32) (q3 : Int32) (z : Int32) (ck1 : Int32) (ct1 : Int32) (kA1 : Nat → Int32) (tA1 : Nat → Int32) (gx1 : Nat → Int64) (gy1 : Nat → Int64) (gu1 : Nat → Int64) (gv1 : Nat → Int64), (z = nI i) → (i ≤ K) → (scan (okI st us fb ja (f_X2_turnBefore r tA)) (vl2 K tp st us fb ja (gx rn) (gy rn) (gu rn) (gv rn) (lx rn) (ly rn) (lx (rn + 1)) (ly (rn + 1))) (16 * i) = (q1, q2, q3)) → (agI rn kA tA gx gy gu gv kA1 tA1 gx1 gy1 gu1 gv1) → K - i < N → ∀ (H : Heap) (locs : List Loc), va_P D vwCl (wI cI cJ cZ a n ah pl ck1 ct1 nk pm ja rg bu pn tp st us fb kA1 tA1 lx ly gx1 gy1 gu1 gv1) H → va_D A (wI cI cJ cZ a n ah pl ck1 ct1 nk pm ja rg bu pn tp st us fb kA1 tA1 lx ly gx1 gy1 gu1 gv1) → va_S A s.heap H locs → ∀ (ls : Array Slot), lv_has ls 12 [(8, .int z), (7, .int (f_X2_turnBefore r tA)), (6, .int q3), (5, .int q2), (3, .long q1), (0, .ref (a 0)), (1, .int r), (2, .int 2)] → W p l e (rmD 5 0 0) s m ([.ref (a 0), .int r, .int 2] : List Value).toArray below meth c H locs 0 0 (MQ below (QcW D (wI cI cJ cZ a n ah pl ck ct nk pm ja rg bu pn tp st us fb kA tA lx ly gx gy gu gv) s.heap.size (fun ov w' => ∃ (kA' tA' : Nat → Int32) (gx' gy' gu' gv' : Nat → Int64), ov = some (.long (scan (okI st us fb ja (f_X2_turnBefore r tA)) (vl2 K tp st us fb ja (gx rn) (gy rn) (gu rn) (gv rn) (lx rn) (ly rn) (lx (rn + 1)) (ly (rn + 1))) (16 * K)).1) ∧ w' = wI cI cJ cZ a n ah pl ((scan (okI st us fb ja (f_X2_turnBefore r tA)) (vl2 K tp st us fb ja (gx rn) (gy rn) (gu rn) (gv rn) (lx rn) (ly rn) (lx (rn + 1)) (ly (rn + 1))) (16 * K)).2.1) ((scan (okI st us fb ja (f_X2_turnBefore r tA)) (vl2 K tp st us fb ja (gx rn) (gy rn) (gu rn) (gv rn) (lx rn) (ly rn) (lx (rn + 1)) (ly (rn + 1))) (16 * K)).2.2) nk pm ja rg bu pn tp st us fb kA' tA' lx ly gx' gy' gu' gv' ∧ agI rn kA tA gx gy gu gv kA' tA' gx' gy' gu' gv')) ([.ref (a 0), .int r, .int 2] : List Value).toArray s 0 0 A) (F0 m 23 ls []) := by
    intro N
    induction N with
    | zero => intro i q1 q2 q3 z ck1 ct1 kA1 tA1 gx1 gy1 gu1 gv1 _ _ _ _ hN; exact absurd hN (Nat.not_lt_zero _)
    | succ N lp_ih =>
      intro i q1 q2 q3 z ck1 ct1 kA1 tA1 gx1 gy1 gu1 gv1 hz hi hq hag hN H locs hP hD hS ls hl
      refine lv_iload hx hb dX3_leastSum_23 (lv_at hl 0 rfl) ?_
      refine lv_aload_n hx hb dX3_leastSum_25 rfl (lv_at hl 5 rfl) ?_
      refine va_get (D := D) (ci := 4) (v := .ref (a 1)) (C := RX3) (T := TX3) (N := 7) hx hb (lyX3 ht) (fun _ h9 => h9) hown hK hP 0 rfl rfl 0 (by decide) (fl_X3_10 ht) (fun _ h9 => h9) rfl dX3_leastSum_26 ?_
      refine va_getN (D := D) (ci := 2) (v := .int nk) (C := RX1) (T := TX1) (N := 4) hx hb (lyX1 ht) (fun _ h9 => h9) hown hK hP 1 rfl rfl 3 (by decide) (fn_X3_178 ht) (fun _ h9 => h9) rfl dX3_leastSum_29 ?_
      refine lv_icmp_ge (tgt := 121) hx hb dX3_leastSum_32 (by decide) (fun c_1 => ?_) (fun c_1 => ?_)
      · skip
        refine lv_aload_n hx hb dX3_leastSum_121 rfl (lv_at hl 5 rfl) ?_
        refine lv_iload hx hb dX3_leastSum_122 (lv_at hl 3 rfl) ?_
        refine va_put (D := D) (ci := 4) (v := .int q2) (ty := .int) (C := RX3) (T := TX3) (N := 7) hx hb (lyX3 ht) (fun _ h9 => h9) tyX3 tyX3_ok nmX3 hown hK hP hD hS 0 rfl rfl 5 (by decide) (fl_X3_48 ht) (fun _ h9 => h9) rfl (by decide +kernel) rfl rfl (Nat.le_of_ble_eq_true rfl) dX3_leastSum_124 (fun H locs hP hD hS => ?_)
        have hP : va_P D vwCl (wI cI cJ cZ a n ah pl q2 ct1 nk pm ja rg bu pn tp st us fb kA1 tA1 lx ly gx1 gy1 gu1 gv1) H := hP
        have hD : va_D A (wI cI cJ cZ a n ah pl q2 ct1 nk pm ja rg bu pn tp st us fb kA1 tA1 lx ly gx1 gy1 gu1 gv1) := hD
        refine lv_aload_n hx hb dX3_leastSum_127 rfl (lv_at hl 5 rfl) ?_
        refine lv_iload hx hb dX3_leastSum_128 (lv_at hl 2 rfl) ?_
        refine va_put (D := D) (ci := 4) (v := .int q3) (ty := .int) (C := RX3) (T := TX3) (N := 7) hx hb (lyX3 ht) (fun _ h9 => h9) tyX3 tyX3_ok nmX3 hown hK hP hD hS 0 rfl rfl 6 (by decide) (fl_X3_51 ht) (fun _ h9 => h9) rfl (by decide +kernel) rfl rfl (Nat.le_of_ble_eq_true rfl) dX3_leastSum_130 (fun H locs hP hD hS => ?_)
        have hP : va_P D vwCl (wI cI cJ cZ a n ah pl q2 q3 nk pm ja rg bu pn tp st us fb kA1 tA1 lx ly gx1 gy1 gu1 gv1) H := hP
        have hD : va_D A (wI cI cJ cZ a n ah pl q2 q3 nk pm ja rg bu pn tp st us fb kA1 tA1 lx ly gx1 gy1 gu1 gv1) := hD
        refine lv_lload_n hx hb dX3_leastSum_133 rfl (lv_at hl 4 rfl) ?_
        exact wr_l hx hb hr hlocks hAe hP hD hS dX3_leastSum_134 (⟨_, _, _, _, _, _, by have h7 := le_le c_1 eK hz (by omega) (by omega); rw [show i = K by omega] at hq; rw [hq], by have h7 := le_le c_1 eK hz (by omega) (by omega); rw [show i = K by omega] at hq; rw [hq], hag⟩)
      · skip
        refine lv_aload_n hx hb dX3_leastSum_35 rfl (lv_at hl 5 rfl) ?_
        refine va_get (D := D) (ci := 4) (v := .ref (a 1)) (C := RX3) (T := TX3) (N := 7) hx hb (lyX3 ht) (fun _ h9 => h9) hown hK hP 0 rfl rfl 0 (by decide) (fl_X3_10 ht) (fun _ h9 => h9) rfl dX3_leastSum_36 ?_
        refine lv_iload hx hb dX3_leastSum_39 (lv_at hl 0 rfl) ?_
        refine rdVN (As := [.int z]) (rest := []) (st1 := [.int (f_X1_unused z st us)]) (k_X1_unused l D cI cJ cZ a n ah pl ck1 ct1 nk pm ja rg bu pn tp st us fb kA1 tA1 lx ly gx1 gy1 gu1 gv1 z (in_of hz (by have := (nle_lt c_1 eK hz (by omega) (by omega)); omega : i < 4) (by decide))) (si_X3_116 ht ⟨Nat.le_of_ble_eq_true rfl, Nat.le_of_ble_eq_true rfl⟩) hx hb hml hown (va_recv hK hP (ci := 2) (q0 := 1) rfl rfl) (hE.since hS) hP hK rfl hl.1 rfl (Nat.le_of_ble_eq_true rfl) ⟨Nat.zero_le _, Nat.zero_le _⟩ dX3_leastSum_41 rfl ?_
        refine lv_iconst (v := 1) hx hb dX3_leastSum_44 (by decide) ?_
        refine lv_icmp_ge (tgt := 51) hx hb dX3_leastSum_45 (by decide) (fun c_2 => ?_) (fun c_2 => ?_)
        · skip
          refine lv_iconst (v := 0) hx hb dX3_leastSum_51 (by decide) ?_
          refine lv_istore (lv' := [(9, .int 0), (8, .int z), (7, .int (f_X2_turnBefore r tA)), (6, .int q3), (5, .int q2), (3, .long q1), (0, .ref (a 0)), (1, .int r), (2, .int 2)]) hx hb dX3_leastSum_52 hl (by decide) rfl (fun ls hl => ?_)
          have lq : ∀ (N : Nat) (j : Nat) (p1 : Int64) (p2 : Int32) (p3 : Int32) (z2 : Int32) (ck2 : Int32) (ct2 : Int32) (kA2 : Nat → Int32) (tA2 : Nat → Int32) (gx2 : Nat → Int64) (gy2 : Nat → Int64) (gu2 : Nat → Int64) (gv2 : Nat → Int64), (z2 = nI j) → (j ≤ 16) → (scan (okI st us fb ja (f_X2_turnBefore r tA)) (vl2 K tp st us fb ja (gx rn) (gy rn) (gu rn) (gv rn) (lx rn) (ly rn) (lx (rn + 1)) (ly (rn + 1))) (16 * i + j) = (p1, p2, p3)) → (agI rn kA tA gx gy gu gv kA2 tA2 gx2 gy2 gu2 gv2) → 16 - j < N → ∀ (H : Heap) (locs : List Loc), va_P D vwCl (wI cI cJ cZ a n ah pl ck2 ct2 nk pm ja rg bu pn tp st us fb kA2 tA2 lx ly gx2 gy2 gu2 gv2) H → va_D A (wI cI cJ cZ a n ah pl ck2 ct2 nk pm ja rg bu pn tp st us fb kA2 tA2 lx ly gx2 gy2 gu2 gv2) → va_S A s.heap H locs → ∀ (ls : Array Slot), lv_has ls 12 [(9, .int z2), (8, .int z), (7, .int (f_X2_turnBefore r tA)), (6, .int p3), (5, .int p2), (3, .long p1), (0, .ref (a 0)), (1, .int r), (2, .int 2)] → W p l e (rmD 5 0 0) s m ([.ref (a 0), .int r, .int 2] : List Value).toArray below meth c H locs 0 0 (MQ below (QcW D (wI cI cJ cZ a n ah pl ck ct nk pm ja rg bu pn tp st us fb kA tA lx ly gx gy gu gv) s.heap.size (fun ov w' => ∃ (kA' tA' : Nat → Int32) (gx' gy' gu' gv' : Nat → Int64), ov = some (.long (scan (okI st us fb ja (f_X2_turnBefore r tA)) (vl2 K tp st us fb ja (gx rn) (gy rn) (gu rn) (gv rn) (lx rn) (ly rn) (lx (rn + 1)) (ly (rn + 1))) (16 * K)).1) ∧ w' = wI cI cJ cZ a n ah pl ((scan (okI st us fb ja (f_X2_turnBefore r tA)) (vl2 K tp st us fb ja (gx rn) (gy rn) (gu rn) (gv rn) (lx rn) (ly rn) (lx (rn + 1)) (ly (rn + 1))) (16 * K)).2.1) ((scan (okI st us fb ja (f_X2_turnBefore r tA)) (vl2 K tp st us fb ja (gx rn) (gy rn) (gu rn) (gv rn) (lx rn) (ly rn) (lx (rn + 1)) (ly (rn + 1))) (16 * K)).2.2) nk pm ja rg bu pn tp st us fb kA' tA' lx ly gx' gy' gu' gv' ∧ agI rn kA tA gx gy gu gv kA' tA' gx' gy' gu' gv')) ([.ref (a 0), .int r, .int 2] : List Value).toArray s 0 0 A) (F0 m 54 ls []) := by
            intro N
            induction N with
            | zero => intro j p1 p2 p3 z2 ck2 ct2 kA2 tA2 gx2 gy2 gu2 gv2 _ _ _ _ hN; exact absurd hN (Nat.not_lt_zero _)
            | succ N lq_ih =>
              intro j p1 p2 p3 z2 ck2 ct2 kA2 tA2 gx2 gy2 gu2 gv2 hz2 hj hq2 hag2 hN H locs hP hD hS ls hl
              refine lv_iload hx hb dX3_leastSum_54 (lv_at hl 0 rfl) ?_
              refine lv_bipush (v := 16) hx hb dX3_leastSum_56 (by decide) ?_
              refine lv_icmp_ge (tgt := 115) hx hb dX3_leastSum_58 (by decide) (fun c_3 => ?_) (fun c_3 => ?_)
              · skip
                have h7 := (nle_lt c_1 eK hz (by omega) (by omega))
                have h6 := le_le c_3 (show (16 : Int32) = nI 16 from rfl) hz2 (by omega) (by omega)
                have hs9 : scan (okI st us fb ja (f_X2_turnBefore r tA)) (vl2 K tp st us fb ja (gx rn) (gy rn) (gu rn) (gv rn) (lx rn) (ly rn) (lx (rn + 1)) (ly (rn + 1))) (16 * (i + 1)) = (p1, p2, p3) := by rw [Nat.mul_succ]; rw [show j = 16 by omega] at hq2; exact hq2
                refine lv_iinc (v := z + 1) (lv' := [(8, .int (z + 1)), (9, .int z2), (7, .int (f_X2_turnBefore r tA)), (6, .int p3), (5, .int p2), (3, .long p1), (0, .ref (a 0)), (1, .int r), (2, .int 2)]) hx hb dX3_leastSum_115 hl (k := 1) rfl rfl (by decide) rfl (fun ls hl => ?_)
                refine lv_goto (tgt := 23) hx hb dX3_leastSum_118 (by decide) ?_
                exact lp_ih (i + 1) p1 p2 p3 (z + 1) ck2 ct2 kA2 tA2 gx2 gy2 gu2 gv2 (nI_s hz) (by omega) hs9 hag2 (by omega) _ _ hP hD hS ls (lv_sub hl [0, 2, 3, 4, 5, 6, 7, 8] rfl)
              · skip
                refine lv_aload_n hx hb dX3_leastSum_61 rfl (lv_at hl 6 rfl) ?_
                refine va_get (D := D) (ci := 4) (v := .ref (a 5)) (C := RX3) (T := TX3) (N := 7) hx hb (lyX3 ht) (fun _ h9 => h9) hown hK hP 0 rfl rfl 1 (by decide) (fl_X3_19 ht) (fun _ h9 => h9) rfl dX3_leastSum_62 ?_
                refine lv_iload hx hb dX3_leastSum_65 (lv_at hl 0 rfl) ?_
                refine lv_iload hx hb dX3_leastSum_67 (lv_at hl 2 rfl) ?_
                refine rdVN (As := [.int z2, .int (f_X2_turnBefore r tA)]) (rest := []) (st1 := [.int (f_X0_fits z2 (f_X2_turnBefore r tA) ja fb)]) (k_X0_fits l D cI cJ cZ a n ah pl ck2 ct2 nk pm ja rg bu pn tp st us fb kA2 tA2 lx ly gx2 gy2 gu2 gv2 z2 (f_X2_turnBefore r tA) (in_of hz2 (by have := nle_lt c_3 (show (16 : Int32) = nI 16 from rfl) hz2 (by omega) (by omega); omega : j < 16) (by decide)) hja) (si_X3_203 ht ⟨Nat.le_of_ble_eq_true rfl, Nat.le_of_ble_eq_true rfl⟩) hx hb hml hown (va_recv hK hP (ci := 1) (q0 := 5) rfl rfl) (hE.since hS) hP hK rfl hl.1 rfl (Nat.le_of_ble_eq_true rfl) ⟨Nat.zero_le _, Nat.zero_le _⟩ dX3_leastSum_69 rfl ?_
                refine lv_if_ne (tgt := 78) hx hb dX3_leastSum_72 (by decide) (fun c_4 => ?_) (fun c_4 => ?_)
                · skip
                  refine lv_aload_n hx hb dX3_leastSum_78 rfl (lv_at hl 6 rfl) ?_
                  refine lv_iload_n hx hb dX3_leastSum_79 rfl (lv_at hl 7 rfl) ?_
                  refine lv_iload_n hx hb dX3_leastSum_80 rfl (lv_at hl 8 rfl) ?_
                  refine lv_iload hx hb dX3_leastSum_81 (lv_at hl 1 rfl) ?_
                  refine lv_iload hx hb dX3_leastSum_83 (lv_at hl 0 rfl) ?_
                  refine lv_lload_n hx hb dX3_leastSum_85 rfl (lv_at hl 5 rfl) ?_
                  refine wrV (As := [.int r, .int 2, .int z, .int z2, .long p1]) (rest := []) (k_X3_sumWith2 l D cI cJ cZ a n ah pl ck2 ct2 nk pm ja rg bu pn tp st us fb kA2 tA2 lx ly gx2 gy2 gu2 gv2 r z z2 p1 rn i j K er hrn hn hz (by have := (nle_lt c_1 eK hz (by omega) (by omega)); omega) hz2 eK hK4 hja hr1) (si_X3_207 ht ⟨Nat.le_of_ble_eq_true rfl, Nat.le_of_ble_eq_true rfl⟩) hx hb hml hown (va_recv hK hP (ci := 4) (q0 := 0) rfl rfl) hE hP hK hD hS hA rfl hl.1 rfl (Nat.le_of_ble_eq_true rfl) ⟨Nat.zero_le _, Nat.zero_le _⟩ dX3_leastSum_86 (fun ov w' H locs hpost hP hD hS => ?_)
                  obtain ⟨ck_5, ct_5, kA_5, tA_5, gx_5, gy_5, gu_5, gv_5, rfl, rfl, hag_5⟩ := hpost
                  refine W.st (st1 := [.long (vl2 K tp st us fb ja (gx2 rn) (gy2 rn) (gu2 rn) (gv2 rn) (lx rn) (ly rn) (lx (rn + 1)) (ly (rn + 1)) i j p1)]) rfl ?_
                  have hP : va_P D vwCl (wI cI cJ cZ a n ah pl ck_5 ct_5 nk pm ja rg bu pn tp st us fb kA_5 tA_5 lx ly gx_5 gy_5 gu_5 gv_5) H := hP
                  have hD : va_D A (wI cI cJ cZ a n ah pl ck_5 ct_5 nk pm ja rg bu pn tp st us fb kA_5 tA_5 lx ly gx_5 gy_5 gu_5 gv_5) := hD
                  refine lv_topl (fun u_5 eu_5 => ?_)
                  refine lv_lstore (lv' := [(10, .long u_5), (9, .int z2), (8, .int z), (7, .int (f_X2_turnBefore r tA)), (6, .int p3), (5, .int p2), (3, .long p1), (0, .ref (a 0)), (1, .int r), (2, .int 2)]) hx hb dX3_leastSum_89 hl (by decide) rfl (fun ls hl => ?_)
                  refine lv_lload hx hb dX3_leastSum_91 (lv_at hl 0 rfl) ?_
                  refine lv_lload_n hx hb dX3_leastSum_93 rfl (lv_at hl 6 rfl) ?_
                  refine W.lcmp hx hb dX3_leastSum_94 ?_
                  refine lv_if_ge (tgt := 109) hx hb dX3_leastSum_95 (by decide) (fun c_6 => ?_) (fun c_6 => ?_)
                  · skip
                    have h8 : j < 16 := nle_lt c_3 (show (16 : Int32) = nI 16 from rfl) hz2 (by omega) (by omega)
                    have h81 : 1 ≤ st i - us i := by have h7 := c_2; unfold f_X1_unused at h7; rw [cl_of hz (by omega)] at h7; exact h7
                    have hok : okI st us fb ja (f_X2_turnBefore r tA) i j = true := okI_t h81 (by rw [← hz2]; exact c_4)
                    have eu : u_5 = vl2 K tp st us fb ja (gx rn) (gy rn) (gu rn) (gv rn) (lx rn) (ly rn) (lx (rn + 1)) (ly (rn + 1)) i j p1 := by rw [eu_5, hag2.2.2.1 rn (by omega), hag2.2.2.2.1 rn (by omega), hag2.2.2.2.2.1 rn (by omega), hag2.2.2.2.2.2 rn (by omega)]
                    have hs8 : scan (okI st us fb ja (f_X2_turnBefore r tA)) (vl2 K tp st us fb ja (gx rn) (gy rn) (gu rn) (gv rn) (lx rn) (ly rn) (lx (rn + 1)) (ly (rn + 1))) (16 * i + (j + 1)) = (p1, p2, p3) := scan_ge h8 hq2 hok (by rw [← eu]; exact Int64.not_lt.mpr ((lg_cmp_ge _ _).mp c_6))
                    refine lv_iinc (v := z2 + 1) (lv' := [(9, .int (z2 + 1)), (10, .long u_5), (8, .int z), (7, .int (f_X2_turnBefore r tA)), (6, .int p3), (5, .int p2), (3, .long p1), (0, .ref (a 0)), (1, .int r), (2, .int 2)]) hx hb dX3_leastSum_109 hl (k := 1) rfl rfl (by decide) rfl (fun ls hl => ?_)
                    refine lv_goto (tgt := 54) hx hb dX3_leastSum_112 (by decide) ?_
                    exact lq_ih (j + 1) p1 p2 p3 (z2 + 1) ck_5 ct_5 kA_5 tA_5 gx_5 gy_5 gu_5 gv_5 (nI_s hz2) (by omega) hs8 (agI.tr hag2 hag_5) (by omega) _ _ hP hD hS ls (lv_sub hl [0, 2, 3, 4, 5, 6, 7, 8, 9] rfl)
                  · skip
                    refine lv_lload hx hb dX3_leastSum_98 (lv_at hl 0 rfl) ?_
                    refine lv_lstore_n (lv' := [(3, .long u_5), (10, .long u_5), (9, .int z2), (8, .int z), (7, .int (f_X2_turnBefore r tA)), (6, .int p3), (5, .int p2), (0, .ref (a 0)), (1, .int r), (2, .int 2)]) hx hb dX3_leastSum_100 rfl hl (by decide) rfl (fun ls hl => ?_)
                    refine lv_iload hx hb dX3_leastSum_101 (lv_at hl 3 rfl) ?_
                    refine lv_istore (lv' := [(5, .int z), (3, .long u_5), (10, .long u_5), (9, .int z2), (8, .int z), (7, .int (f_X2_turnBefore r tA)), (6, .int p3), (0, .ref (a 0)), (1, .int r), (2, .int 2)]) hx hb dX3_leastSum_103 hl (by decide) rfl (fun ls hl => ?_)
                    refine lv_iload hx hb dX3_leastSum_105 (lv_at hl 3 rfl) ?_
                    refine lv_istore (lv' := [(6, .int z2), (5, .int z), (3, .long u_5), (10, .long u_5), (9, .int z2), (8, .int z), (7, .int (f_X2_turnBefore r tA)), (0, .ref (a 0)), (1, .int r), (2, .int 2)]) hx hb dX3_leastSum_107 hl (by decide) rfl (fun ls hl => ?_)
                    have h8 : j < 16 := nle_lt c_3 (show (16 : Int32) = nI 16 from rfl) hz2 (by omega) (by omega)
                    have h81 : 1 ≤ st i - us i := by have h7 := c_2; unfold f_X1_unused at h7; rw [cl_of hz (by omega)] at h7; exact h7
                    have hok : okI st us fb ja (f_X2_turnBefore r tA) i j = true := okI_t h81 (by rw [← hz2]; exact c_4)
                    have eu : u_5 = vl2 K tp st us fb ja (gx rn) (gy rn) (gu rn) (gv rn) (lx rn) (ly rn) (lx (rn + 1)) (ly (rn + 1)) i j p1 := by rw [eu_5, hag2.2.2.1 rn (by omega), hag2.2.2.2.1 rn (by omega), hag2.2.2.2.2.1 rn (by omega), hag2.2.2.2.2.2 rn (by omega)]
                    have hs8 : scan (okI st us fb ja (f_X2_turnBefore r tA)) (vl2 K tp st us fb ja (gx rn) (gy rn) (gu rn) (gv rn) (lx rn) (ly rn) (lx (rn + 1)) (ly (rn + 1))) (16 * i + (j + 1)) = (u_5, z, z2) := by rw [scan_lt h8 hq2 hok (by rw [← eu]; exact Int64.not_le.mp (fun h => c_6 ((lg_cmp_ge _ _).mpr h))), ← eu, ← hz, ← hz2]
                    refine lv_iinc (v := z2 + 1) (lv' := [(9, .int (z2 + 1)), (6, .int z2), (5, .int z), (3, .long u_5), (10, .long u_5), (8, .int z), (7, .int (f_X2_turnBefore r tA)), (0, .ref (a 0)), (1, .int r), (2, .int 2)]) hx hb dX3_leastSum_109 hl (k := 4) rfl rfl (by decide) rfl (fun ls hl => ?_)
                    refine lv_goto (tgt := 54) hx hb dX3_leastSum_112 (by decide) ?_
                    exact lq_ih (j + 1) u_5 z z2 (z2 + 1) ck_5 ct_5 kA_5 tA_5 gx_5 gy_5 gu_5 gv_5 (nI_s hz2) (by omega) hs8 (agI.tr hag2 hag_5) (by omega) _ _ hP hD hS ls (lv_sub hl [0, 5, 6, 1, 2, 3, 7, 8, 9] rfl)
                · skip
                  refine lv_goto (tgt := 109) hx hb dX3_leastSum_75 (by decide) ?_
                  have h8 : j < 16 := nle_lt c_3 (show (16 : Int32) = nI 16 from rfl) hz2 (by omega) (by omega)
                  have hs8 : scan (okI st us fb ja (f_X2_turnBefore r tA)) (vl2 K tp st us fb ja (gx rn) (gy rn) (gu rn) (gv rn) (lx rn) (ly rn) (lx (rn + 1)) (ly (rn + 1))) (16 * i + (j + 1)) = (p1, p2, p3) := by rw [scan_no h8 (okI_f2 (by rw [← hz2]; exact c_4))]; exact hq2
                  refine lv_iinc (v := z2 + 1) (lv' := [(9, .int (z2 + 1)), (8, .int z), (7, .int (f_X2_turnBefore r tA)), (6, .int p3), (5, .int p2), (3, .long p1), (0, .ref (a 0)), (1, .int r), (2, .int 2)]) hx hb dX3_leastSum_109 hl (k := 0) rfl rfl (by decide) rfl (fun ls hl => ?_)
                  refine lv_goto (tgt := 54) hx hb dX3_leastSum_112 (by decide) ?_
                  exact lq_ih (j + 1) p1 p2 p3 (z2 + 1) ck2 ct2 kA2 tA2 gx2 gy2 gu2 gv2 (nI_s hz2) (by omega) hs8 hag2 (by omega) _ _ hP hD hS ls (lv_sub hl [0, 1, 2, 3, 4, 5, 6, 7, 8] rfl)
          exact lq _ 0 q1 q2 q3 0 ck1 ct1 kA1 tA1 gx1 gy1 gu1 gv1 rfl (Nat.zero_le _) hq hag (Nat.lt_succ_self _) _ _ hP hD hS ls (lv_sub hl [0, 1, 2, 3, 4, 5, 6, 7, 8] rfl)
        · skip
          refine lv_goto (tgt := 115) hx hb dX3_leastSum_48 (by decide) ?_
          have h7 := (nle_lt c_1 eK hz (by omega) (by omega))
          have hs9 : scan (okI st us fb ja (f_X2_turnBefore r tA)) (vl2 K tp st us fb ja (gx rn) (gy rn) (gu rn) (gv rn) (lx rn) (ly rn) (lx (rn + 1)) (ly (rn + 1))) (16 * (i + 1)) = (q1, q2, q3) := by rw [Nat.mul_succ, scan_skip (fun j => okI_f1 (by have h6 := c_2; unfold f_X1_unused at h6; rw [cl_of hz (by omega)] at h6; exact h6)) 16 (by omega)]; exact hq
          refine lv_iinc (v := z + 1) (lv' := [(8, .int (z + 1)), (7, .int (f_X2_turnBefore r tA)), (6, .int q3), (5, .int q2), (3, .long q1), (0, .ref (a 0)), (1, .int r), (2, .int 2)]) hx hb dX3_leastSum_115 hl (k := 0) rfl rfl (by decide) rfl (fun ls hl => ?_)
          refine lv_goto (tgt := 23) hx hb dX3_leastSum_118 (by decide) ?_
          exact lp_ih (i + 1) q1 q2 q3 (z + 1) ck1 ct1 kA1 tA1 gx1 gy1 gu1 gv1 (nI_s hz) (by omega) hs9 hag (by omega) _ _ hP hD hS ls (lv_sub hl [0, 1, 2, 3, 4, 5, 6, 7] rfl)
  exact lp _ 0 4611686018427387904 (-1) (-1) 0 ck ct kA tA gx gy gu gv rfl (Nat.zero_le _) rfl agI.rf (Nat.lt_succ_self _) _ _ hP hD hS ls (lv_sub hl [0, 1, 2, 3, 4, 5, 6, 7] rfl)
end
