section
-- ===== PART A: goes FIRST, ahead of the names: the tables' words, and 'selects' of the private methods out of them =====
/-- a private method of a class that the tables say can be made, by its rows of tables_1 -/
def lw_okq (q : MethodName × Nat) : Prop := (q.1.cls ≠ "java/lang/invoke/MethodHandle" ∧ q.1.cls ≠ "java/lang/invoke/VarHandle") ∧ Cond.instantiable q.1.cls q.2 ∈ tables_1 ∧ Cond.privateMethod q.1 ∈ tables_1 ∧ Cond.instanceMethod q.1 ∈ tables_1
theorem lw_p0 : lw_okq (⟨"TramWires$History", "dropOldest", "()V"⟩, 2) := ⟨⟨by decide +kernel, by decide +kernel⟩, List.mem_of_getElem? (i := 196) (by decide +kernel), List.mem_of_getElem? (i := 315) (by decide +kernel), List.mem_of_getElem? (i := 316) (by decide +kernel)⟩
theorem lw_p1 : lw_okq (⟨"TramWires$Net", "feed", "()V"⟩, 8) := ⟨⟨by decide +kernel, by decide +kernel⟩, List.mem_of_getElem? (i := 27) (by decide +kernel), List.mem_of_getElem? (i := 348) (by decide +kernel), List.mem_of_getElem? (i := 349) (by decide +kernel)⟩
theorem lw_p2 : lw_okq (⟨"TramWires$Net", "shareLowest", "()V"⟩, 8) := ⟨⟨by decide +kernel, by decide +kernel⟩, List.mem_of_getElem? (i := 27) (by decide +kernel), List.mem_of_getElem? (i := 377) (by decide +kernel), List.mem_of_getElem? (i := 378) (by decide +kernel)⟩
theorem lw_p3 : lw_okq (⟨"TramWires$Wires", "againstBridging", "(I)I"⟩, 5) := ⟨⟨by decide +kernel, by decide +kernel⟩, List.mem_of_getElem? (i := 21) (by decide +kernel), List.mem_of_getElem? (i := 438) (by decide +kernel), List.mem_of_getElem? (i := 439) (by decide +kernel)⟩
theorem lw_p4 : lw_okq (⟨"TramWires$Wires", "againstTrams", "(I)I"⟩, 5) := ⟨⟨by decide +kernel, by decide +kernel⟩, List.mem_of_getElem? (i := 21) (by decide +kernel), List.mem_of_getElem? (i := 443) (by decide +kernel), List.mem_of_getElem? (i := 444) (by decide +kernel)⟩
theorem lw_p5 : lw_okq (⟨"TramWires$Wires", "againstOpening", "(I)I"⟩, 5) := ⟨⟨by decide +kernel, by decide +kernel⟩, List.mem_of_getElem? (i := 21) (by decide +kernel), List.mem_of_getElem? (i := 447) (by decide +kernel), List.mem_of_getElem? (i := 448) (by decide +kernel)⟩
theorem lw_p6 : lw_okq (⟨"TramWires$Wires", "supposeIsolator", "(IZ)V"⟩, 5) := ⟨⟨by decide +kernel, by decide +kernel⟩, List.mem_of_getElem? (i := 21) (by decide +kernel), List.mem_of_getElem? (i := 451) (by decide +kernel), List.mem_of_getElem? (i := 452) (by decide +kernel)⟩
theorem lw_p7 : lw_okq (⟨"TramWires$Wires", "wouldDarkenTrams", "()Z"⟩, 5) := ⟨⟨by decide +kernel, by decide +kernel⟩, List.mem_of_getElem? (i := 21) (by decide +kernel), List.mem_of_getElem? (i := 455) (by decide +kernel), List.mem_of_getElem? (i := 456) (by decide +kernel)⟩
theorem lw_p8 : lw_okq (⟨"TramWires$Wires", "wouldDarken", "(I)Z"⟩, 5) := ⟨⟨by decide +kernel, by decide +kernel⟩, List.mem_of_getElem? (i := 21) (by decide +kernel), List.mem_of_getElem? (i := 459) (by decide +kernel), List.mem_of_getElem? (i := 460) (by decide +kernel)⟩
theorem lw_p9 : lw_okq (⟨"TramWires$Wires", "againstClosing", "(I)I"⟩, 5) := ⟨⟨by decide +kernel, by decide +kernel⟩, List.mem_of_getElem? (i := 21) (by decide +kernel), List.mem_of_getElem? (i := 463) (by decide +kernel), List.mem_of_getElem? (i := 464) (by decide +kernel)⟩
theorem lw_p10 : lw_okq (⟨"TramWires$Wires", "wouldLightEarth", "()Z"⟩, 5) := ⟨⟨by decide +kernel, by decide +kernel⟩, List.mem_of_getElem? (i := 21) (by decide +kernel), List.mem_of_getElem? (i := 467) (by decide +kernel), List.mem_of_getElem? (i := 468) (by decide +kernel)⟩
theorem lw_p11 : lw_okq (⟨"TramWires$Wires", "wouldLight", "(I)Z"⟩, 5) := ⟨⟨by decide +kernel, by decide +kernel⟩, List.mem_of_getElem? (i := 21) (by decide +kernel), List.mem_of_getElem? (i := 471) (by decide +kernel), List.mem_of_getElem? (i := 472) (by decide +kernel)⟩
theorem lw_p12 : lw_okq (⟨"TramWires$Wires", "wouldLightTools", "()Z"⟩, 5) := ⟨⟨by decide +kernel, by decide +kernel⟩, List.mem_of_getElem? (i := 21) (by decide +kernel), List.mem_of_getElem? (i := 475) (by decide +kernel), List.mem_of_getElem? (i := 476) (by decide +kernel)⟩
theorem lw_p13 : lw_okq (⟨"TramWires$Wires", "againstTurningOff", "(I)I"⟩, 5) := ⟨⟨by decide +kernel, by decide +kernel⟩, List.mem_of_getElem? (i := 21) (by decide +kernel), List.mem_of_getElem? (i := 479) (by decide +kernel), List.mem_of_getElem? (i := 480) (by decide +kernel)⟩
theorem lw_p14 : lw_okq (⟨"TramWires$Wires", "supposeFeeder", "(II)V"⟩, 5) := ⟨⟨by decide +kernel, by decide +kernel⟩, List.mem_of_getElem? (i := 21) (by decide +kernel), List.mem_of_getElem? (i := 483) (by decide +kernel), List.mem_of_getElem? (i := 484) (by decide +kernel)⟩
theorem lw_p15 : lw_okq (⟨"TramWires$Wires", "againstTurningOn", "(I)I"⟩, 5) := ⟨⟨by decide +kernel, by decide +kernel⟩, List.mem_of_getElem? (i := 21) (by decide +kernel), List.mem_of_getElem? (i := 487) (by decide +kernel), List.mem_of_getElem? (i := 488) (by decide +kernel)⟩
def lw_privs_1 : List (MethodName × Nat) := [(⟨"TramWires$History", "dropOldest", "()V"⟩, 2), (⟨"TramWires$Net", "feed", "()V"⟩, 8), (⟨"TramWires$Net", "shareLowest", "()V"⟩, 8), (⟨"TramWires$Wires", "againstBridging", "(I)I"⟩, 5), (⟨"TramWires$Wires", "againstTrams", "(I)I"⟩, 5), (⟨"TramWires$Wires", "againstOpening", "(I)I"⟩, 5), (⟨"TramWires$Wires", "supposeIsolator", "(IZ)V"⟩, 5), (⟨"TramWires$Wires", "wouldDarkenTrams", "()Z"⟩, 5), (⟨"TramWires$Wires", "wouldDarken", "(I)Z"⟩, 5), (⟨"TramWires$Wires", "againstClosing", "(I)I"⟩, 5), (⟨"TramWires$Wires", "wouldLightEarth", "()Z"⟩, 5), (⟨"TramWires$Wires", "wouldLight", "(I)Z"⟩, 5), (⟨"TramWires$Wires", "wouldLightTools", "()Z"⟩, 5), (⟨"TramWires$Wires", "againstTurningOff", "(I)I"⟩, 5), (⟨"TramWires$Wires", "supposeFeeder", "(II)V"⟩, 5), (⟨"TramWires$Wires", "againstTurningOn", "(I)I"⟩, 5)]
theorem lw_r1 : ∀ q ∈ lw_privs_1, lw_okq q := List.forall_mem_cons.mpr ⟨lw_p0, List.forall_mem_cons.mpr ⟨lw_p1, List.forall_mem_cons.mpr ⟨lw_p2, List.forall_mem_cons.mpr ⟨lw_p3, List.forall_mem_cons.mpr ⟨lw_p4, List.forall_mem_cons.mpr ⟨lw_p5, List.forall_mem_cons.mpr ⟨lw_p6, List.forall_mem_cons.mpr ⟨lw_p7, List.forall_mem_cons.mpr ⟨lw_p8, List.forall_mem_cons.mpr ⟨lw_p9, List.forall_mem_cons.mpr ⟨lw_p10, List.forall_mem_cons.mpr ⟨lw_p11, List.forall_mem_cons.mpr ⟨lw_p12, List.forall_mem_cons.mpr ⟨lw_p13, List.forall_mem_cons.mpr ⟨lw_p14, List.forall_mem_cons.mpr ⟨lw_p15, fun _ h => absurd h List.not_mem_nil⟩⟩⟩⟩⟩⟩⟩⟩⟩⟩⟩⟩⟩⟩⟩⟩
theorem lw_p16 : lw_okq (⟨"TramWires$Wires", "againstEarthing", "(I)I"⟩, 5) := ⟨⟨by decide +kernel, by decide +kernel⟩, List.mem_of_getElem? (i := 21) (by decide +kernel), List.mem_of_getElem? (i := 491) (by decide +kernel), List.mem_of_getElem? (i := 492) (by decide +kernel)⟩
theorem lw_p17 : lw_okq (⟨"TramWires$Wires", "againstTakingEarth", "(I)I"⟩, 5) := ⟨⟨by decide +kernel, by decide +kernel⟩, List.mem_of_getElem? (i := 21) (by decide +kernel), List.mem_of_getElem? (i := 495) (by decide +kernel), List.mem_of_getElem? (i := 496) (by decide +kernel)⟩
theorem lw_p18 : lw_okq (⟨"TramWires$Log", "dropOldest", "()V"⟩, 9) := ⟨⟨by decide +kernel, by decide +kernel⟩, List.mem_of_getElem? (i := 132) (by decide +kernel), List.mem_of_getElem? (i := 507) (by decide +kernel), List.mem_of_getElem? (i := 508) (by decide +kernel)⟩
theorem lw_p19 : lw_okq (⟨"TramWires$Log", "setBy", "(I[I[Z)V"⟩, 9) := ⟨⟨by decide +kernel, by decide +kernel⟩, List.mem_of_getElem? (i := 132) (by decide +kernel), List.mem_of_getElem? (i := 511) (by decide +kernel), List.mem_of_getElem? (i := 512) (by decide +kernel)⟩
theorem lw_p20 : lw_okq (⟨"TramWires$Wires", "goOutward", "()V"⟩, 5) := ⟨⟨by decide +kernel, by decide +kernel⟩, List.mem_of_getElem? (i := 21) (by decide +kernel), List.mem_of_getElem? (i := 574) (by decide +kernel), List.mem_of_getElem? (i := 575) (by decide +kernel)⟩
theorem lw_p21 : lw_okq (⟨"TramWires$Plan", "add", "(II)V"⟩, 3) := ⟨⟨by decide +kernel, by decide +kernel⟩, List.mem_of_getElem? (i := 241) (by decide +kernel), List.mem_of_getElem? (i := 626) (by decide +kernel), List.mem_of_getElem? (i := 627) (by decide +kernel)⟩
theorem lw_p22 : lw_okq (⟨"TramWires$Rehearsal", "begin", "(LTramWires$Wires;)V"⟩, 4) := ⟨⟨by decide +kernel, by decide +kernel⟩, List.mem_of_getElem? (i := 263) (by decide +kernel), List.mem_of_getElem? (i := 639) (by decide +kernel), List.mem_of_getElem? (i := 640) (by decide +kernel)⟩
theorem lw_p23 : lw_okq (⟨"TramWires$Text", "characterAt", "(I)I"⟩, 5) := ⟨⟨by decide +kernel, by decide +kernel⟩, List.mem_of_getElem? (i := 213) (by decide +kernel), List.mem_of_getElem? (i := 666) (by decide +kernel), List.mem_of_getElem? (i := 667) (by decide +kernel)⟩
theorem lw_p24 : lw_okq (⟨"TramWires$Text", "digitAt", "(I)I"⟩, 5) := ⟨⟨by decide +kernel, by decide +kernel⟩, List.mem_of_getElem? (i := 213) (by decide +kernel), List.mem_of_getElem? (i := 674) (by decide +kernel), List.mem_of_getElem? (i := 675) (by decide +kernel)⟩
def lw_privs_2 : List (MethodName × Nat) := [(⟨"TramWires$Wires", "againstEarthing", "(I)I"⟩, 5), (⟨"TramWires$Wires", "againstTakingEarth", "(I)I"⟩, 5), (⟨"TramWires$Log", "dropOldest", "()V"⟩, 9), (⟨"TramWires$Log", "setBy", "(I[I[Z)V"⟩, 9), (⟨"TramWires$Wires", "goOutward", "()V"⟩, 5), (⟨"TramWires$Plan", "add", "(II)V"⟩, 3), (⟨"TramWires$Rehearsal", "begin", "(LTramWires$Wires;)V"⟩, 4), (⟨"TramWires$Text", "characterAt", "(I)I"⟩, 5), (⟨"TramWires$Text", "digitAt", "(I)I"⟩, 5)]
theorem lw_r2 : ∀ q ∈ lw_privs_2, lw_okq q := List.forall_mem_cons.mpr ⟨lw_p16, List.forall_mem_cons.mpr ⟨lw_p17, List.forall_mem_cons.mpr ⟨lw_p18, List.forall_mem_cons.mpr ⟨lw_p19, List.forall_mem_cons.mpr ⟨lw_p20, List.forall_mem_cons.mpr ⟨lw_p21, List.forall_mem_cons.mpr ⟨lw_p22, List.forall_mem_cons.mpr ⟨lw_p23, List.forall_mem_cons.mpr ⟨lw_p24, fun _ h => absurd h List.not_mem_nil⟩⟩⟩⟩⟩⟩⟩⟩⟩
def lw_privs : List (MethodName × Nat) := lw_privs_1 ++ (lw_privs_2)
def lw_tbl : List Cond := k2_sels lw_privs ++ tables_1
theorem lw_privs_ok : ∀ q ∈ lw_privs, lw_okq q := by
  show ∀ q ∈ lw_privs_1 ++ (lw_privs_2), lw_okq q
  exact List.forall_mem_append.mpr ⟨lw_r1, lw_r2⟩
/-- all words: of the tables, and the private methods that select themselves -/
def TB : List Cond := lw_tbl.filter goodWord
theorem tb_m {w : Cond} (h : w ∈ lw_tbl) (hg : goodWord w = true) : w ∈ TB := List.mem_filter.mpr ⟨h, hg⟩
theorem tb_g {w : Cond} (h : w ∈ TB) : goodWord w = true := (List.mem_filter.mp h).2
end
section
def RX0 : String := "TramWires$History"
def TX0 : u_T := fun k => match k with
  | 0 => ("TramWires$History", "size", "I", false)
  | _ => ("TramWires$History", "states", "[LTramWires$Wires;", true)
def tyX0 : Nat → FieldType := fun k => match k with
  | 0 => .int
  | _ => .array (.object "TramWires$Wires")
abbrev wsX00 : List Cond := u_ws RX0 TX0 2
theorem nmX0 : ∀ a, a < 2 → ∀ b, b < 2 → a ≠ b → (TX0 a).2.1 ≠ (TX0 b).2.1 := by decide +kernel
theorem tyX0_ok : ∀ k, k < 2 → parseFieldDescriptor (TX0 k).2.2.1 = some (tyX0 k) := by decide +kernel
abbrev cX0_init : ByteArray := prog_2_method_1_code
def yX0_init : MethodName := ⟨RX0, "<init>", "()V"⟩
abbrev cX0_keep : ByteArray := prog_2_method_2_code
def yX0_keep : MethodName := ⟨RX0, "keep", "(LTramWires$Wires;)V"⟩
abbrev cX0_dropOldest : ByteArray := prog_2_method_3_code
def yX0_dropOldest : MethodName := ⟨RX0, "dropOldest", "()V"⟩
abbrev cX0_restore : ByteArray := prog_2_method_4_code
def yX0_restore : MethodName := ⟨RX0, "restore", "(LTramWires$Wires;)V"⟩
def RX1 : String := "TramWires$Log"
def TX1 : u_T := fun k => match k with
  | 0 => ("TramWires$Log", "made", "I", false)
  | 1 => ("TramWires$Log", "length", "I", false)
  | 2 => ("TramWires$Log", "kinds", "[I", true)
  | 3 => ("TramWires$Log", "places", "[I", true)
  | 4 => ("TramWires$Log", "times", "[I", true)
  | 5 => ("TramWires$Log", "feederAhead", "[I", true)
  | 6 => ("TramWires$Log", "closedAhead", "[Z", true)
  | 7 => ("TramWires$Log", "feederTold", "[I", true)
  | _ => ("TramWires$Log", "closedTold", "[Z", true)
def tyX1 : Nat → FieldType := fun k => match k with
  | 0 => .int
  | 1 => .int
  | 2 => .array .int
  | 3 => .array .int
  | 4 => .array .int
  | 5 => .array .int
  | 6 => .array .boolean
  | 7 => .array .int
  | _ => .array .boolean
abbrev wsX10 : List Cond := u_ws RX1 TX1 9
theorem nmX1 : ∀ a, a < 9 → ∀ b, b < 9 → a ≠ b → (TX1 a).2.1 ≠ (TX1 b).2.1 := by decide +kernel
theorem tyX1_ok : ∀ k, k < 9 → parseFieldDescriptor (TX1 k).2.2.1 = some (tyX1 k) := by decide +kernel
abbrev cX1_init : ByteArray := prog_3_method_1_code
def yX1_init : MethodName := ⟨RX1, "<init>", "()V"⟩
abbrev cX1_copyFrom : ByteArray := prog_3_method_2_code
def yX1_copyFrom : MethodName := ⟨RX1, "copyFrom", "(LTramWires$Log;)V"⟩
abbrev cX1_write : ByteArray := prog_3_method_3_code
def yX1_write : MethodName := ⟨RX1, "write", "(III)V"⟩
abbrev cX1_dropOldest : ByteArray := prog_3_method_4_code
def yX1_dropOldest : MethodName := ⟨RX1, "dropOldest", "()V"⟩
abbrev cX1_tell : ByteArray := prog_3_method_5_code
def yX1_tell : MethodName := ⟨RX1, "tell", "()V"⟩
abbrev cX1_setBy : ByteArray := prog_3_method_6_code
def yX1_setBy : MethodName := ⟨RX1, "setBy", "(I[I[Z)V"⟩
def RX2 : String := "TramWires$Net"
def TX2 : u_T := fun k => match k with
  | 0 => ("TramWires$Net", "sections", "I", false)
  | 1 => ("TramWires$Net", "isolators", "I", false)
  | 2 => ("TramWires$Net", "feeder", "[I", true)
  | 3 => ("TramWires$Net", "one", "[I", true)
  | 4 => ("TramWires$Net", "other", "[I", true)
  | 5 => ("TramWires$Net", "closed", "[Z", true)
  | 6 => ("TramWires$Net", "lowest", "[I", true)
  | _ => ("TramWires$Net", "live", "[Z", true)
def tyX2 : Nat → FieldType := fun k => match k with
  | 0 => .int
  | 1 => .int
  | 2 => .array .int
  | 3 => .array .int
  | 4 => .array .int
  | 5 => .array .boolean
  | 6 => .array .int
  | _ => .array .boolean
abbrev wsX20 : List Cond := u_ws RX2 TX2 8
theorem nmX2 : ∀ a, a < 8 → ∀ b, b < 8 → a ≠ b → (TX2 a).2.1 ≠ (TX2 b).2.1 := by decide +kernel
theorem tyX2_ok : ∀ k, k < 8 → parseFieldDescriptor (TX2 k).2.2.1 = some (tyX2 k) := by decide +kernel
abbrev cX2_init : ByteArray := prog_4_method_1_code
def yX2_init : MethodName := ⟨RX2, "<init>", "()V"⟩
abbrev cX2_copyFrom : ByteArray := prog_4_method_2_code
def yX2_copyFrom : MethodName := ⟨RX2, "copyFrom", "(LTramWires$Net;)V"⟩
abbrev cX2_setFeeder : ByteArray := prog_4_method_3_code
def yX2_setFeeder : MethodName := ⟨RX2, "setFeeder", "(II)V"⟩
abbrev cX2_setIsolator : ByteArray := prog_4_method_4_code
def yX2_setIsolator : MethodName := ⟨RX2, "setIsolator", "(IZ)V"⟩
abbrev cX2_shareLowest : ByteArray := prog_4_method_5_code
def yX2_shareLowest : MethodName := ⟨RX2, "shareLowest", "()V"⟩
abbrev cX2_feed : ByteArray := prog_4_method_6_code
def yX2_feed : MethodName := ⟨RX2, "feed", "()V"⟩
abbrev cX2_areTogether : ByteArray := prog_4_method_7_code
def yX2_areTogether : MethodName := ⟨RX2, "areTogether", "(II)Z"⟩
abbrev cX2_groupSize : ByteArray := prog_4_method_8_code
def yX2_groupSize : MethodName := ⟨RX2, "groupSize", "(I)I"⟩
abbrev cX2_groups : ByteArray := prog_4_method_9_code
def yX2_groups : MethodName := ⟨RX2, "groups", "()I"⟩
abbrev cX2_isClosedAt : ByteArray := prog_4_method_10_code
def yX2_isClosedAt : MethodName := ⟨RX2, "isClosedAt", "(II)Z"⟩
abbrev cX2_closedAt : ByteArray := prog_4_method_11_code
def yX2_closedAt : MethodName := ⟨RX2, "closedAt", "(I)I"⟩
def RX3 : String := "TramWires$Plan"
def TX3 : u_T := fun k => match k with
  | 0 => ("TramWires$Plan", "size", "I", false)
  | 1 => ("TramWires$Plan", "kinds", "[I", true)
  | _ => ("TramWires$Plan", "places", "[I", true)
def tyX3 : Nat → FieldType := fun k => match k with
  | 0 => .int
  | 1 => .array .int
  | _ => .array .int
abbrev wsX30 : List Cond := u_ws RX3 TX3 3
theorem nmX3 : ∀ a, a < 3 → ∀ b, b < 3 → a ≠ b → (TX3 a).2.1 ≠ (TX3 b).2.1 := by decide +kernel
theorem tyX3_ok : ∀ k, k < 3 → parseFieldDescriptor (TX3 k).2.2.1 = some (tyX3 k) := by decide +kernel
abbrev cX3_init : ByteArray := prog_5_method_1_code
def yX3_init : MethodName := ⟨RX3, "<init>", "()V"⟩
abbrev cX3_drawUp : ByteArray := prog_5_method_2_code
def yX3_drawUp : MethodName := ⟨RX3, "drawUp", "(LTramWires$Wires;I)V"⟩
abbrev cX3_add : ByteArray := prog_5_method_3_code
def yX3_add : MethodName := ⟨RX3, "add", "(II)V"⟩
def RX4 : String := "TramWires$Rehearsal"
def TX4 : u_T := fun k => match k with
  | 0 => ("TramWires$Rehearsal", "wires", "LTramWires$Wires;", true)
  | 1 => ("TramWires$Rehearsal", "steps", "I", false)
  | 2 => ("TramWires$Rehearsal", "position", "I", false)
  | _ => ("TramWires$Rehearsal", "reason", "I", false)
def tyX4 : Nat → FieldType := fun k => match k with
  | 0 => .object "TramWires$Wires"
  | 1 => .int
  | 2 => .int
  | _ => .int
abbrev wsX40 : List Cond := u_ws RX4 TX4 4
theorem nmX4 : ∀ a, a < 4 → ∀ b, b < 4 → a ≠ b → (TX4 a).2.1 ≠ (TX4 b).2.1 := by decide +kernel
theorem tyX4_ok : ∀ k, k < 4 → parseFieldDescriptor (TX4 k).2.2.1 = some (tyX4 k) := by decide +kernel
abbrev cX4_init : ByteArray := prog_6_method_1_code
def yX4_init : MethodName := ⟨RX4, "<init>", "()V"⟩
abbrev cX4_tryPlan : ByteArray := prog_6_method_2_code
def yX4_tryPlan : MethodName := ⟨RX4, "tryPlan", "(LTramWires$Wires;LTramWires$Plan;)V"⟩
abbrev cX4_tryText : ByteArray := prog_6_method_3_code
def yX4_tryText : MethodName := ⟨RX4, "tryText", "(LTramWires$Wires;LTramWires$Text;)V"⟩
abbrev cX4_begin : ByteArray := prog_6_method_4_code
def yX4_begin : MethodName := ⟨RX4, "begin", "(LTramWires$Wires;)V"⟩
def RX5 : String := "TramWires$Service"
def TX5 : u_T := fun k => match k with
  | 0 => ("TramWires$Service", "time", "I", false)
  | 1 => ("TramWires$Service", "buses", "I", false)
  | 2 => ("TramWires$Service", "lateMinutes", "I", false)
  | 3 => ("TramWires$Service", "needed", "[I", true)
  | 4 => ("TramWires$Service", "bridged", "[Z", true)
  | 5 => ("TramWires$Service", "earthed", "[Z", true)
  | 6 => ("TramWires$Service", "gang", "[Z", true)
  | 7 => ("TramWires$Service", "brought", "[I", true)
  | 8 => ("TramWires$Service", "until", "[I", true)
  | _ => ("TramWires$Service", "tools", "[I", true)
def tyX5 : Nat → FieldType := fun k => match k with
  | 0 => .int
  | 1 => .int
  | 2 => .int
  | 3 => .array .int
  | 4 => .array .boolean
  | 5 => .array .boolean
  | 6 => .array .boolean
  | 7 => .array .int
  | 8 => .array .int
  | _ => .array .int
abbrev wsX50 : List Cond := u_ws RX5 TX5 10
theorem nmX5 : ∀ a, a < 10 → ∀ b, b < 10 → a ≠ b → (TX5 a).2.1 ≠ (TX5 b).2.1 := by decide +kernel
theorem tyX5_ok : ∀ k, k < 10 → parseFieldDescriptor (TX5 k).2.2.1 = some (tyX5 k) := by decide +kernel
abbrev cX5_init : ByteArray := prog_7_method_1_code
def yX5_init : MethodName := ⟨RX5, "<init>", "()V"⟩
abbrev cX5_copyFrom : ByteArray := prog_7_method_2_code
def yX5_copyFrom : MethodName := ⟨RX5, "copyFrom", "(LTramWires$Service;)V"⟩
abbrev cX5_bridgingBuses : ByteArray := prog_7_method_3_code
def yX5_bridgingBuses : MethodName := ⟨RX5, "bridgingBuses", "()I"⟩
abbrev cX5_freeBuses : ByteArray := prog_7_method_4_code
def yX5_freeBuses : MethodName := ⟨RX5, "freeBuses", "()I"⟩
abbrev cX5_allTools : ByteArray := prog_7_method_5_code
def yX5_allTools : MethodName := ⟨RX5, "allTools", "()I"⟩
abbrev cX5_lateGangs : ByteArray := prog_7_method_6_code
def yX5_lateGangs : MethodName := ⟨RX5, "lateGangs", "()I"⟩
abbrev cX5_bringGang : ByteArray := prog_7_method_7_code
def yX5_bringGang : MethodName := ⟨RX5, "bringGang", "(III)V"⟩
abbrev cX5_sendGangOff : ByteArray := prog_7_method_8_code
def yX5_sendGangOff : MethodName := ⟨RX5, "sendGangOff", "(II)I"⟩
def RX6 : String := "TramWires$Text"
def TX6 : u_T := fun k => match k with
  | 0 => ("TramWires$Text", "length", "I", false)
  | 1 => ("TramWires$Text", "characters", "[I", true)
  | 2 => ("TramWires$Text", "kind", "I", false)
  | 3 => ("TramWires$Text", "place", "I", false)
  | _ => ("TramWires$Text", "end", "I", false)
def tyX6 : Nat → FieldType := fun k => match k with
  | 0 => .int
  | 1 => .array .int
  | 2 => .int
  | 3 => .int
  | _ => .int
abbrev wsX60 : List Cond := u_ws RX6 TX6 5
theorem nmX6 : ∀ a, a < 5 → ∀ b, b < 5 → a ≠ b → (TX6 a).2.1 ≠ (TX6 b).2.1 := by decide +kernel
theorem tyX6_ok : ∀ k, k < 5 → parseFieldDescriptor (TX6 k).2.2.1 = some (tyX6 k) := by decide +kernel
abbrev cX6_init : ByteArray := prog_8_method_1_code
def yX6_init : MethodName := ⟨RX6, "<init>", "()V"⟩
abbrev cX6_readStep : ByteArray := prog_8_method_2_code
def yX6_readStep : MethodName := ⟨RX6, "readStep", "(I)Z"⟩
abbrev cX6_characterAt : ByteArray := prog_8_method_3_code
def yX6_characterAt : MethodName := ⟨RX6, "characterAt", "(I)I"⟩
abbrev cX6_digitAt : ByteArray := prog_8_method_4_code
def yX6_digitAt : MethodName := ⟨RX6, "digitAt", "(I)I"⟩
abbrev cX6_kindOf : ByteArray := prog_8_method_5_code
def yX6_kindOf : MethodName := ⟨RX6, "kindOf", "(I)I"⟩
def RX7 : String := "TramWires$Wires"
def TX7 : u_T := fun k => match k with
  | 0 => ("TramWires$Wires", "net", "LTramWires$Net;", true)
  | 1 => ("TramWires$Wires", "service", "LTramWires$Service;", true)
  | 2 => ("TramWires$Wires", "log", "LTramWires$Log;", true)
  | 3 => ("TramWires$Wires", "supposed", "LTramWires$Net;", true)
  | _ => ("TramWires$Wires", "reached", "[Z", true)
def tyX7 : Nat → FieldType := fun k => match k with
  | 0 => .object "TramWires$Net"
  | 1 => .object "TramWires$Service"
  | 2 => .object "TramWires$Log"
  | 3 => .object "TramWires$Net"
  | _ => .array .boolean
abbrev wsX70 : List Cond := u_ws RX7 TX7 5
theorem nmX7 : ∀ a, a < 5 → ∀ b, b < 5 → a ≠ b → (TX7 a).2.1 ≠ (TX7 b).2.1 := by decide +kernel
theorem tyX7_ok : ∀ k, k < 5 → parseFieldDescriptor (TX7 k).2.2.1 = some (tyX7 k) := by decide +kernel
abbrev cX7_init : ByteArray := prog_9_method_1_code
def yX7_init : MethodName := ⟨RX7, "<init>", "()V"⟩
abbrev cX7_copyFrom : ByteArray := prog_9_method_2_code
def yX7_copyFrom : MethodName := ⟨RX7, "copyFrom", "(LTramWires$Wires;)V"⟩
abbrev cX7_hasSection : ByteArray := prog_9_method_3_code
def yX7_hasSection : MethodName := ⟨RX7, "hasSection", "(I)Z"⟩
abbrev cX7_hasIsolator : ByteArray := prog_9_method_4_code
def yX7_hasIsolator : MethodName := ⟨RX7, "hasIsolator", "(I)Z"⟩
abbrev cX7_hasPlace : ByteArray := prog_9_method_5_code
def yX7_hasPlace : MethodName := ⟨RX7, "hasPlace", "(II)Z"⟩
abbrev cX7_addSection : ByteArray := prog_9_method_6_code
def yX7_addSection : MethodName := ⟨RX7, "addSection", "(II)I"⟩
abbrev cX7_addIsolator : ByteArray := prog_9_method_7_code
def yX7_addIsolator : MethodName := ⟨RX7, "addIsolator", "(II)I"⟩
abbrev cX7_joiningEndangers : ByteArray := prog_9_method_8_code
def yX7_joiningEndangers : MethodName := ⟨RX7, "joiningEndangers", "(II)Z"⟩
abbrev cX7_darkenedByOpening : ByteArray := prog_9_method_9_code
def yX7_darkenedByOpening : MethodName := ⟨RX7, "darkenedByOpening", "(I)I"⟩
abbrev cX7_litByClosing : ByteArray := prog_9_method_10_code
def yX7_litByClosing : MethodName := ⟨RX7, "litByClosing", "(I)I"⟩
abbrev cX7_isClosedByLog : ByteArray := prog_9_method_11_code
def yX7_isClosedByLog : MethodName := ⟨RX7, "isClosedByLog", "(I)Z"⟩
abbrev cX7_isLiveByLog : ByteArray := prog_9_method_12_code
def yX7_isLiveByLog : MethodName := ⟨RX7, "isLiveByLog", "(I)Z"⟩
abbrev cX7_goOutward : ByteArray := prog_9_method_13_code
def yX7_goOutward : MethodName := ⟨RX7, "goOutward", "()V"⟩
abbrev cX7_reasonAgainst : ByteArray := prog_9_method_14_code
def yX7_reasonAgainst : MethodName := ⟨RX7, "reasonAgainst", "(II)I"⟩
abbrev cX7_againstBridging : ByteArray := prog_9_method_15_code
def yX7_againstBridging : MethodName := ⟨RX7, "againstBridging", "(I)I"⟩
abbrev cX7_againstTrams : ByteArray := prog_9_method_16_code
def yX7_againstTrams : MethodName := ⟨RX7, "againstTrams", "(I)I"⟩
abbrev cX7_againstOpening : ByteArray := prog_9_method_17_code
def yX7_againstOpening : MethodName := ⟨RX7, "againstOpening", "(I)I"⟩
abbrev cX7_againstClosing : ByteArray := prog_9_method_18_code
def yX7_againstClosing : MethodName := ⟨RX7, "againstClosing", "(I)I"⟩
abbrev cX7_againstTurningOff : ByteArray := prog_9_method_19_code
def yX7_againstTurningOff : MethodName := ⟨RX7, "againstTurningOff", "(I)I"⟩
abbrev cX7_againstTurningOn : ByteArray := prog_9_method_20_code
def yX7_againstTurningOn : MethodName := ⟨RX7, "againstTurningOn", "(I)I"⟩
abbrev cX7_againstEarthing : ByteArray := prog_9_method_21_code
def yX7_againstEarthing : MethodName := ⟨RX7, "againstEarthing", "(I)I"⟩
abbrev cX7_againstTakingEarth : ByteArray := prog_9_method_22_code
def yX7_againstTakingEarth : MethodName := ⟨RX7, "againstTakingEarth", "(I)I"⟩
abbrev cX7_supposeIsolator : ByteArray := prog_9_method_23_code
def yX7_supposeIsolator : MethodName := ⟨RX7, "supposeIsolator", "(IZ)V"⟩
abbrev cX7_supposeFeeder : ByteArray := prog_9_method_24_code
def yX7_supposeFeeder : MethodName := ⟨RX7, "supposeFeeder", "(II)V"⟩
abbrev cX7_wouldDarken : ByteArray := prog_9_method_25_code
def yX7_wouldDarken : MethodName := ⟨RX7, "wouldDarken", "(I)Z"⟩
abbrev cX7_wouldLight : ByteArray := prog_9_method_26_code
def yX7_wouldLight : MethodName := ⟨RX7, "wouldLight", "(I)Z"⟩
abbrev cX7_wouldDarkenTrams : ByteArray := prog_9_method_27_code
def yX7_wouldDarkenTrams : MethodName := ⟨RX7, "wouldDarkenTrams", "()Z"⟩
abbrev cX7_wouldLightEarth : ByteArray := prog_9_method_28_code
def yX7_wouldLightEarth : MethodName := ⟨RX7, "wouldLightEarth", "()Z"⟩
abbrev cX7_wouldLightTools : ByteArray := prog_9_method_29_code
def yX7_wouldLightTools : MethodName := ⟨RX7, "wouldLightTools", "()Z"⟩
abbrev cX7_make : ByteArray := prog_9_method_30_code
def yX7_make : MethodName := ⟨RX7, "make", "(II)V"⟩
def RX8 : String := "TramWires"
def TX8 : u_T := fun k => match k with
  | 0 => ("TramWires", "now", "LTramWires$Wires;", true)
  | 1 => ("TramWires", "history", "LTramWires$History;", true)
  | 2 => ("TramWires", "text", "LTramWires$Text;", true)
  | 3 => ("TramWires", "outPlan", "LTramWires$Plan;", true)
  | _ => ("TramWires", "rehearsal", "LTramWires$Rehearsal;", true)
def tyX8 : Nat → FieldType := fun k => match k with
  | 0 => .object "TramWires$Wires"
  | 1 => .object "TramWires$History"
  | 2 => .object "TramWires$Text"
  | 3 => .object "TramWires$Plan"
  | _ => .object "TramWires$Rehearsal"
abbrev wsX80 : List Cond := u_ws RX8 TX8 5
theorem nmX8 : ∀ a, a < 5 → ∀ b, b < 5 → a ≠ b → (TX8 a).2.1 ≠ (TX8 b).2.1 := by decide +kernel
theorem tyX8_ok : ∀ k, k < 5 → parseFieldDescriptor (TX8 k).2.2.1 = some (tyX8 k) := by decide +kernel
abbrev cX8_init : ByteArray := prog_1_method_1_code
def yX8_init : MethodName := ⟨RX8, "<init>", "()V"⟩
abbrev cX8_section : ByteArray := prog_1_method_2_code
def yX8_section : MethodName := ⟨RX8, "section", "(II)I"⟩
abbrev cX8_isolator : ByteArray := prog_1_method_3_code
def yX8_isolator : MethodName := ⟨RX8, "isolator", "(II)I"⟩
abbrev cX8_pool : ByteArray := prog_1_method_4_code
def yX8_pool : MethodName := ⟨RX8, "pool", "(I)I"⟩
abbrev cX8_sectionOf : ByteArray := prog_1_method_5_code
def yX8_sectionOf : MethodName := ⟨RX8, "sectionOf", "(II)I"⟩
abbrev cX8_isolatorOf : ByteArray := prog_1_method_6_code
def yX8_isolatorOf : MethodName := ⟨RX8, "isolatorOf", "(II)I"⟩
abbrev cX8_count : ByteArray := prog_1_method_7_code
def yX8_count : MethodName := ⟨RX8, "count", "(I)I"⟩
abbrev cX8_undo : ByteArray := prog_1_method_8_code
def yX8_undo : MethodName := ⟨RX8, "undo", "()I"⟩
abbrev cX8_refusal : ByteArray := prog_1_method_9_code
def yX8_refusal : MethodName := ⟨RX8, "refusal", "(II)I"⟩
abbrev cX8_step : ByteArray := prog_1_method_10_code
def yX8_step : MethodName := ⟨RX8, "step", "(II)I"⟩
abbrev cX8_log : ByteArray := prog_1_method_11_code
def yX8_log : MethodName := ⟨RX8, "log", "(II)I"⟩
abbrev cX8_plan : ByteArray := prog_1_method_12_code
def yX8_plan : MethodName := ⟨RX8, "plan", "(II)I"⟩
abbrev cX8_canPlan : ByteArray := prog_1_method_13_code
def yX8_canPlan : MethodName := ⟨RX8, "canPlan", "(I)I"⟩
abbrev cX8_enter : ByteArray := prog_1_method_14_code
def yX8_enter : MethodName := ⟨RX8, "enter", "(III)I"⟩
abbrev cX8_leave : ByteArray := prog_1_method_15_code
def yX8_leave : MethodName := ⟨RX8, "leave", "(II)I"⟩
abbrev cX8_fetch : ByteArray := prog_1_method_16_code
def yX8_fetch : MethodName := ⟨RX8, "fetch", "(I)I"⟩
abbrev cX8_pass : ByteArray := prog_1_method_17_code
def yX8_pass : MethodName := ⟨RX8, "pass", "(I)I"⟩
abbrev cX8_type : ByteArray := prog_1_method_18_code
def yX8_type : MethodName := ⟨RX8, "type", "(I)I"⟩
abbrev cX8_clearText : ByteArray := prog_1_method_19_code
def yX8_clearText : MethodName := ⟨RX8, "clearText", "()I"⟩
abbrev cX8_fault : ByteArray := prog_1_method_20_code
def yX8_fault : MethodName := ⟨RX8, "fault", "(I)I"⟩
abbrev cX8_play : ByteArray := prog_1_method_21_code
def yX8_play : MethodName := ⟨RX8, "play", "()I"⟩
abbrev cX8_isOutside : ByteArray := prog_1_method_22_code
def yX8_isOutside : MethodName := ⟨RX8, "isOutside", "(III)Z"⟩
abbrev cX8_asNumber : ByteArray := prog_1_method_23_code
def yX8_asNumber : MethodName := ⟨RX8, "asNumber", "(Z)I"⟩
abbrev cX8_countTrue : ByteArray := prog_1_method_24_code
def yX8_countTrue : MethodName := ⟨RX8, "countTrue", "([Z)I"⟩
def RX9 : String := "TramWiresModel"
def TX9 : u_T := fun k => match k with
  | _ => ("", "", "", false)
def tyX9 : Nat → FieldType := fun k => match k with
  | _ => .int
abbrev wsX90 : List Cond := u_ws RX9 TX9 0
theorem nmX9 : ∀ a, a < 0 → ∀ b, b < 0 → a ≠ b → (TX9 a).2.1 ≠ (TX9 b).2.1 := by decide +kernel
theorem tyX9_ok : ∀ k, k < 0 → parseFieldDescriptor (TX9 k).2.2.1 = some (tyX9 k) := by decide +kernel
def RJ9 : String := "java/lang/Math"
def TJ9 : u_T := fun k => match k with
  | _ => ("", "", "", false)
def tyJ9 : Nat → FieldType := fun k => match k with
  | _ => .int
theorem nmJ9 : ∀ a, a < 0 → ∀ b, b < 0 → a ≠ b → (TJ9 a).2.1 ≠ (TJ9 b).2.1 := by decide +kernel
theorem tyJ9_ok : ∀ k, k < 0 → parseFieldDescriptor (TJ9 k).2.2.1 = some (tyJ9 k) := by decide +kernel
abbrev cJ9_max_7cf53 : ByteArray := prog_12_method_65_code
def RJ10 : String := "java/lang/System"
def TJ10 : u_T := fun k => match k with
  | _ => ("", "", "", false)
def tyJ10 : Nat → FieldType := fun k => match k with
  | _ => .int
theorem nmJ10 : ∀ a, a < 0 → ∀ b, b < 0 → a ≠ b → (TJ10 a).2.1 ≠ (TJ10 b).2.1 := by decide +kernel
theorem tyJ10_ok : ∀ k, k < 0 → parseFieldDescriptor (TJ10 k).2.2.1 = some (tyJ10 k) := by decide +kernel
def RL : String := "TramWiresLaw"
abbrev cL_part : ByteArray := method_2_code
def yL_part : MethodName := ⟨RL, "part", "(II)I"⟩
abbrev cL_take : ByteArray := method_3_code
def yL_take : MethodName := ⟨RL, "take", "([II)I"⟩
abbrev cL_mixed : ByteArray := method_4_code
def yL_mixed : MethodName := ⟨RL, "mixed", "(JJ)J"⟩
abbrev cL_state : ByteArray := method_5_code
def yL_state : MethodName := ⟨RL, "state", "(LTramWires;)J"⟩
abbrev cL_refusesPlaces : ByteArray := method_6_code
def yL_refusesPlaces : MethodName := ⟨RL, "refusesPlaces", "(LTramWires;)Z"⟩
abbrev cL_refused : ByteArray := method_7_code
def yL_refused : MethodName := ⟨RL, "refused", "(LTramWires;)Z"⟩
abbrev cL_types : ByteArray := method_8_code
def yL_types : MethodName := ⟨RL, "types", "(LTramWires;J)V"⟩
abbrev cL_isFault : ByteArray := method_9_code
def yL_isFault : MethodName := ⟨RL, "isFault", "(LTramWires;JJJII)Z"⟩
abbrev cL_three : ByteArray := method_10_code
def yL_three : MethodName := ⟨RL, "three", "()LTramWires;"⟩
abbrev cL_texts : ByteArray := method_11_code
def yL_texts : MethodName := ⟨RL, "texts", "()Z"⟩
abbrev cL_known : ByteArray := method_12_code
def yL_known : MethodName := ⟨RL, "known", "()Z"⟩
abbrev cL_law : ByteArray := code
def yL_law : MethodName := ⟨RL, "law", "([I)Z"⟩
abbrev vwCl : List vw_C := [(RX0, TX0, 2), (RX1, TX1, 9), (RX2, TX2, 8), (RX3, TX3, 3), (RX4, TX4, 4), (RX5, TX5, 10), (RX6, TX6, 5), (RX7, TX7, 5), (RX8, TX8, 5)]
end
section
set_option maxRecDepth 100000 in
theorem tb_cpy1 : Cond.native arraycopyName ∈ TB := tb_m (List.mem_of_getElem? (i := 353) (by decide +kernel)) rfl
set_option maxRecDepth 100000 in
theorem tb_cpy2 : Cond.static arraycopyName ∈ TB := tb_m (List.mem_of_getElem? (i := 352) (by decide +kernel)) rfl
set_option maxRecDepth 100000 in
theorem tb_cpy3 : Cond.initialized "java/lang/System" ∈ TB := tb_m (List.mem_of_getElem? (i := 35) (by decide +kernel)) rfl
set_option maxRecDepth 100000 in
theorem tb_max1 : Cond.static Lib.Math.max.name ∈ TB := tb_m (List.mem_of_getElem? (i := 557) (by decide +kernel)) rfl
set_option maxRecDepth 100000 in
theorem tb_max2 : Cond.initialized "java/lang/Math" ∈ TB := tb_m (List.mem_of_getElem? (i := 36) (by decide +kernel)) rfl
set_option maxRecDepth 100000 in
theorem tb_max3 : Cond.code Lib.Math.max.name Lib.Math.max.code 2 (some .int) ∈ TB := tb_m (List.mem_of_getElem? (i := 558) (by decide +kernel)) rfl
/-- links to a nest mate's private methods -/
def nwL : List Cond := [.methodLinkNest RX8 9 yX7_init "TramWires", .methodLinkNest RX8 25 yX6_init "TramWires", .methodLinkNest RX8 32 yX3_init "TramWires", .methodLinkNest RX8 39 yX4_init "TramWires", .methodLinkNest RX0 17 yX7_init "TramWires", .methodLinkNest RX4 11 yX7_init "TramWires", .methodLinkNest RX6 38 yX8_isOutside "TramWires", .methodLinkNest RX7 11 yX2_init "TramWires", .methodLinkNest RX7 20 yX5_init "TramWires", .methodLinkNest RX7 27 yX1_init "TramWires", .methodLinkNest RX7 53 yX8_isOutside "TramWires"]
def nwM : Cond → Bool
  | .methodLinkNest .. => true
  | _ => false
theorem nw_all : nwL.all nwM = true := by decide +kernel
theorem nw_tab : ∀ q ∈ nwL, q ∈ lw_tbl := by
  intro q hq
  obtain ⟨k, hk⟩ := List.getElem?_of_mem hq
  match k, hk with
  | 0, h => cases h; exact List.mem_of_getElem? (i := 47) (by decide +kernel)
  | 1, h => cases h; exact List.mem_of_getElem? (i := 239) (by decide +kernel)
  | 2, h => cases h; exact List.mem_of_getElem? (i := 267) (by decide +kernel)
  | 3, h => cases h; exact List.mem_of_getElem? (i := 289) (by decide +kernel)
  | 4, h => cases h; exact List.mem_of_getElem? (i := 228) (by decide +kernel)
  | 5, h => cases h; exact List.mem_of_getElem? (i := 294) (by decide +kernel)
  | 6, h => cases h; exact List.mem_of_getElem? (i := 694) (by decide +kernel)
  | 7, h => cases h; exact List.mem_of_getElem? (i := 53) (by decide +kernel)
  | 8, h => cases h; exact List.mem_of_getElem? (i := 103) (by decide +kernel)
  | 9, h => cases h; exact List.mem_of_getElem? (i := 158) (by decide +kernel)
  | 10, h => cases h; exact List.mem_of_getElem? (i := 384) (by decide +kernel)
  | k + 11, h => simp [nwL] at h
end
section
/-! A flat memory over the kit's worlds: an address has a shape that never changes (its layout), and contents Nat → Int32.
Every method but the constructors is walked against a function of this memory; what the heap has beside is framed. -/
abbrev Mm : Type := Nat → Nat → Int32
abbrev Ly : Type := Nat → Option ((Nat → Int32) → va_E)
/-- of a world: the class tables; the classes of int[], boolean[], Wires[]; the base of the history's wires -/
abbrev Wp : Type := va_G × ClassId × ClassId × ClassId × Nat
def mst (M : Mm) (a i : Nat) (v : Int32) : Mm := fun b => if b = a then upd (M b) i v else M b
def mrow (M : Mm) (a : Nat) (f : Nat → Int32) : Mm := fun b => if b = a then f else M b
abbrev ix (i : Int32) : Nat := i.toNatClampNeg
def zb (x : Int32) : Int32 := x &&& 1
def gI (w : Wp) (n : Nat) : (Nat → Int32) → va_E := fun f => .inl (w.2.1, n, .inl f)
def gZ (w : Wp) (n : Nat) : (Nat → Int32) → va_E := fun f => .inl (w.2.2.1, n, .inl (fun k => zb (f k)))
def gR (w : Wp) (n : Nat) : (Nat → Int32) → va_E := fun f => .inl (w.2.2.2.1, n, .inr (.inr (.inr (.inr (fun k => some (w.2.2.2.2 + 32 * ix (f k)))))))
def fV (o : Option Nat) (x : Int32) : Value := match o with
  | none => .int x
  | some r => .ref r
def fO (ks : List (Option Nat)) (f : Nat → Int32) : List Value := (List.range ks.length).map (fun k => fV (ks.getD k none) (f k))
def gO (ci : Nat) (ks : List (Option Nat)) : (Nat → Int32) → va_E := fun f => .inr (ci, fO ks f)
theorem fO_len (ks : List (Option Nat)) (f : Nat → Int32) : (fO ks f).length = ks.length := by simp [fO]
theorem fO_get {ks : List (Option Nat)} {f : Nat → Int32} {k : Nat} (h : k < ks.length) : (fO ks f)[k]? = some (fV (ks.getD k none) (f k)) := by
  unfold fO
  rw [List.getElem?_map, List.getElem?_range h]
  rfl
theorem fO_set {ks : List (Option Nat)} {f : Nat → Int32} {k : Nat} (hk : ks.getD k none = none) (v : Int32) : fO ks (upd f k v) = (fO ks f).set k (.int v) := by
  apply List.ext_getElem?
  intro j
  by_cases hj : j < ks.length
  · rw [fO_get hj]
    by_cases hjk : j = k
    · subst hjk
      rw [List.getElem?_set_self (by rw [fO_len]; exact hj), hk]
      simp [fV, upd]
    · rw [List.getElem?_set_ne (Ne.symm hjk), fO_get hj]
      simp [upd, hjk]
  · rw [List.getElem?_eq_none (by rw [fO_len]; omega), List.getElem?_eq_none (by rw [List.length_set, fO_len]; omega)]
def tysW (w : Wp) : List (ClassId × FieldType) := [(w.2.1, .int), (w.2.2.1, .boolean), (w.2.2.2.1, .object RX7)]
def KK (w : Wp) (U : State) : Prop := va_K w.1 vwCl (tysW w) U ∧ ∀ q ∈ nwL, va_Nw q U
theorem nw_is {q : Cond} (h : q ∈ nwL) : ∃ (a : String) (i : Nat) (x : MethodName) (b : String), q = .methodLinkNest a i x b := by
  have h1 := List.all_eq_true.mp nw_all q h
  cases q <;> first | exact ⟨_, _, _, _, rfl⟩ | cases h1
theorem KK.warm {w : Wp} {s U : State} (hW : s.WarmedH U.vm) (h : KK w s) : KK w U := by
  refine ⟨va_K.moved hW.alike h.1, fun q hq => ?_⟩
  have h2 := h.2 q hq
  obtain ⟨a, i, x, b, rfl⟩ := nw_is hq
  exact va_Nw.warmM hW h2
theorem KK.same {w : Wp} {u U : State} (hv : u.vm = U.vm) (h : KK w u) : KK w U := by
  refine ⟨va_K.moved (by rw [hv]; exact Vm.Alike.refl U.vm) h.1, fun q hq => ?_⟩
  have h2 := h.2 q hq
  obtain ⟨a, i, x, b, rfl⟩ := nw_is hq
  exact va_Nw.same rfl hv h2
def HM (w : Wp) (L : Ly) (M : Mm) (H : Heap) : Prop := ∀ (a : Nat) (g : (Nat → Int32) → va_E), L a = some g → va_at w.1 vwCl (a, g (M a)) H
def dm (L : Ly) : Nat → Prop := fun q => L q ≠ none
def rmL (n : Nat) : Room := { frames := n, cells := 0, slots := 0, locals := 32 * n }
/-- a walk's surroundings: program, environment, room, start, method, arguments, frames below, the method, its code, the cells that it may write, cells and slots so far, its end -/
abbrev Cx : Type := Program × Env × Room × State × MethodId × Array Value × List Frame × Method × Code × (Nat → Prop) × Nat × Nat × (State → Prop)
abbrev xP (E : Cx) : Program := E.1
abbrev xE (E : Cx) : Env := E.2.1
abbrev xR (E : Cx) : Room := E.2.2.1
abbrev xS (E : Cx) : State := E.2.2.2.1
abbrev xM (E : Cx) : MethodId := E.2.2.2.2.1
abbrev xA (E : Cx) : Array Value := E.2.2.2.2.2.1
abbrev xB (E : Cx) : List Frame := E.2.2.2.2.2.2.1
abbrev xY (E : Cx) : Method := E.2.2.2.2.2.2.2.1
abbrev xC (E : Cx) : Code := E.2.2.2.2.2.2.2.2.1
abbrev xF (E : Cx) : Nat → Prop := E.2.2.2.2.2.2.2.2.2.1
abbrev xN (E : Cx) : Nat := E.2.2.2.2.2.2.2.2.2.2.1
abbrev xT (E : Cx) : Nat := E.2.2.2.2.2.2.2.2.2.2.2.1
abbrev xQ (E : Cx) : State → Prop := E.2.2.2.2.2.2.2.2.2.2.2.2
/-- from here, with memory M, locals lv, stack st, the walk comes to its end -/
def G (l : Launch) (w : Wp) (L : Ly) (E : Cx) (M : Mm) (lv : List (Nat × Value)) (pc : Nat) (st : List Value) : Prop :=
  ∀ (H : Heap) (locs : List Loc) (ls : Array Slot), HM w L M H → va_S (xF E) (xS E).heap H locs → lv_has ls (xC E).maxLocals lv →
    W (xP E) l (xE E) (xR E) (xS E) (xM E) (xA E) (xB E) (xY E) (xC E) H locs (xN E) (xT E) (xQ E) (F0 (xM E) pc ls st)
def Ok (w : Wp) (L : Ly) (E : Cx) (own : String) (cc : ByteArray) (maxL : Nat) (n : Nat) : Prop :=
  (xP E).tables.exec = Jvm.exec ∧ (xC E).code = cc ∧ (xC E).maxLocals = maxL ∧ (xS E).vm.findClass own = some (xM E).cls ∧ (∀ w ∈ TB, w.before (xA E) (xS E) = true) ∧ KK w (xS E) ∧
  (∀ q, L q ≠ none → xF E q) ∧ n ≤ (xR E).frames ∧ 32 * n ≤ (xR E).locals ∧ xN E ≤ (xR E).cells ∧ xT E ≤ (xR E).slots
def QR (w : Wp) (L : Ly) (rt : Option FieldType) (R0 : Int32 × Mm) : Array Value → State → Outcome → State → Prop := fun _ st oc t =>
  oc = .returned (rt.map fun _ => .int R0.1) ∧ HM w L R0.2 t.heap ∧ va_F (dm L) st t
/-- the end of a method that comes to R0 -/
def En (w : Wp) (L : Ly) (E : Cx) (rt : Option FieldType) (R0 : Int32 × Mm) : Prop :=
  xQ E = MQ (xB E) (QR w L rt R0) (xA E) (xS E) (xN E) (xT E) (dm L) ∧ xF E = dm L ∧ (xY E).sig.returnType = rt ∧ (xY E).locks = false
def CT (l : Launch) (w : Wp) (L : Ly) (y : MethodName) (cc : ByteArray) (maxL : Nat) (ret : Option FieldType) (n : Nat) (av : List Value) (M : Mm) (R0 : Int32 × Mm) : Prop :=
  Met l y (Cond.code y cc maxL ret :: TB) (rmL n) (va_Pc av (fun U => HM w L M U.heap ∧ KK w U)) (QR w L ret R0) 0 0 (dm L)
/-- the functions' words: checks, names, calls -/
abbrev OQ (β : Type) : Type := Option (β × Mm)
abbrev OR : Type := OQ Int32
def ckd (i : Int32) (m : Nat) (A : OR) : OR := if i < 0 ∨ m ≤ ix i then none else A
def bnd {α β : Type} (v : α) (k : α → OQ β) : OQ β := k v
def obn {α β : Type} (x : OQ α) (k : α → Mm → OQ β) : OQ β := match x with
  | none => none
  | some q => k q.1 q.2
def cpk (sp dp n : Int32) (n0 n1 : Nat) (A : OR) : OR := if sp < 0 ∨ dp < 0 ∨ n < 0 ∨ n0 < ix sp + ix n ∨ n1 < ix dp + ix n then none else A
def dvk (y : Int32) (A : OR) : OR := if y = 0 then none else A
theorem ckd_in {i : Int32} {m : Nat} {A : OR} {R0 : Int32 × Mm} (h : ckd i m A = some R0) : vp_in i m ∧ A = some R0 := by
  unfold ckd at h
  split at h
  · cases h
  · rename_i q
    exact ⟨q, h⟩
theorem obn_some {α β : Type} {x : OQ α} {k : α → Mm → OQ β} {R0 : β × Mm} (h : obn x k = some R0) : ∃ q, x = some q ∧ k q.1 q.2 = some R0 := by
  cases x with
  | none => cases h
  | some q => exact ⟨q, rfl, h⟩
theorem mst_at (M : Mm) (a i : Nat) (v : Int32) : mst M a i v a = upd (M a) i v := by simp [mst]
theorem mst_ne {M : Mm} {a i : Nat} {v : Int32} {b : Nat} (h : b ≠ a) : mst M a i v b = M b := by simp [mst, h]
theorem mrow_at (M : Mm) (a : Nat) (f : Nat → Int32) : mrow M a f a = f := by simp [mrow]
theorem mrow_ne {M : Mm} {a : Nat} {f : Nat → Int32} {b : Nat} (h : b ≠ a) : mrow M a f b = M b := by simp [mrow, h]
theorem HM.put {w : Wp} {L : Ly} {M : Mm} {H H1 : Heap} {a : Nat} {g : (Nat → Int32) → va_E} {f : Nat → Int32} (h : HM w L M H) (hL : L a = some g) (he : va_at w.1 vwCl (a, g f) H1) (oq : ∀ q : Nat, q ≠ a → H1[q]? = H[q]?) : HM w L (mrow M a f) H1 := by
  intro b g' hb
  by_cases hba : b = a
  · subst hba
    rw [hL] at hb
    cases hb
    rw [mrow_at]
    exact he
  · rw [mrow_ne hba]
    exact (h b g' hb).kept (oq b hba)
theorem mst_row (M : Mm) (a i : Nat) (v : Int32) : mst M a i v = mrow M a (upd (M a) i v) := by
  funext b
  by_cases h : b = a
  · subst h; simp [mst, mrow]
  · simp [mst, mrow, h]
theorem KK.u {w : Wp} {U : State} (h : KK w U) {ci : Nat} {q : vw_C} (hc : vwCl[ci]? = some q) : u_Kn U q.1 q.2.1 q.2.2 (w.1.1 ci) (w.1.2 ci) := h.1.1 ci q hc
theorem KK.i {w : Wp} {U : State} (h : KK w U) : ArrOfT U w.2.1 .int ∧ va_RA U w.2.1 .int := h.1.2 0 _ rfl
theorem KK.z {w : Wp} {U : State} (h : KK w U) : ArrOfT U w.2.2.1 .boolean ∧ va_RA U w.2.2.1 .boolean := h.1.2 1 _ rfl
theorem KK.r {w : Wp} {U : State} (h : KK w U) : ArrOfT U w.2.2.2.1 (.object RX7) ∧ va_RA U w.2.2.2.1 (.object RX7) := h.1.2 2 _ rfl
section GR
variable {l : Launch} {w : Wp} {L : Ly} {E : Cx} {M : Mm} {lv : List (Nat × Value)} {pc : Nat} {st : List Value} {own : String} {cc : ByteArray} {maxL n : Nat}
theorem g_iconst (cx : Ok w L E own cc maxL n) {i : Int} {v : Int32} (hd : decode cc pc = .ok (.iconst i, 1)) (hv : Int32.ofInt i = v) (k : G l w L E M lv (pc + 1) (.int v :: st)) : G l w L E M lv pc st :=
  fun H locs ls h1 h2 h3 => lv_iconst cx.1 cx.2.1 hd hv (k H locs ls h1 h2 h3)
theorem g_bipush (cx : Ok w L E own cc maxL n) {i : Int} {v : Int32} (hd : decode cc pc = .ok (.bipush i, 2)) (hv : (Int8.ofInt i).toInt32 = v) (k : G l w L E M lv (pc + 2) (.int v :: st)) : G l w L E M lv pc st :=
  fun H locs ls h1 h2 h3 => lv_bipush cx.1 cx.2.1 hd hv (k H locs ls h1 h2 h3)
theorem g_sipush (cx : Ok w L E own cc maxL n) {i : Int} {v : Int32} (hd : decode cc pc = .ok (.sipush i, 3)) (hv : (Int16.ofInt i).toInt32 = v) (k : G l w L E M lv (pc + 3) (.int v :: st)) : G l w L E M lv pc st :=
  fun H locs ls h1 h2 h3 => lv_sipush cx.1 cx.2.1 hd hv (k H locs ls h1 h2 h3)
theorem g_ldc (cx : Ok w L E own cc maxL n) {i : Nat} {v : Int32} (hw : Cond.constant own i v ∈ TB) (hd : decode cc pc = .ok (.ldc i, 2)) (k : G l w L E M lv (pc + 2) (.int v :: st)) : G l w L E M lv pc st :=
  fun H locs ls h1 h2 h3 => lv_ldc cx.1 cx.2.1 cx.2.2.2.1 (cx.2.2.2.2.1 _ hw) hd (k H locs ls h1 h2 h3)
theorem g_iload_n (cx : Ok w L E own cc maxL n) {j : Fin 4} {i : Nat} {x : Int32} (hd : decode cc pc = .ok (.iload_n j, 1)) (hi : (j : Nat) = i) (p : Nat) (hp : lv[p]? = some (i, .int x)) (k : G l w L E M lv (pc + 1) (.int x :: st)) : G l w L E M lv pc st :=
  fun H locs ls h1 h2 h3 => lv_iload_n cx.1 cx.2.1 hd hi (lv_at h3 p hp) (k H locs ls h1 h2 h3)
theorem g_iload (cx : Ok w L E own cc maxL n) {i : Nat} {x : Int32} (hd : decode cc pc = .ok (.iload i, 2)) (p : Nat) (hp : lv[p]? = some (i, .int x)) (k : G l w L E M lv (pc + 2) (.int x :: st)) : G l w L E M lv pc st :=
  fun H locs ls h1 h2 h3 => lv_iload cx.1 cx.2.1 hd (lv_at h3 p hp) (k H locs ls h1 h2 h3)
theorem g_aload_n (cx : Ok w L E own cc maxL n) {j : Fin 4} {i : Nat} {x : Nat} (hd : decode cc pc = .ok (.aload_n j, 1)) (hi : (j : Nat) = i) (p : Nat) (hp : lv[p]? = some (i, .ref x)) (k : G l w L E M lv (pc + 1) (.ref x :: st)) : G l w L E M lv pc st :=
  fun H locs ls h1 h2 h3 => lv_aload_n cx.1 cx.2.1 hd hi (lv_at h3 p hp) (k H locs ls h1 h2 h3)
theorem g_aload (cx : Ok w L E own cc maxL n) {i : Nat} {x : Nat} (hd : decode cc pc = .ok (.aload i, 2)) (p : Nat) (hp : lv[p]? = some (i, .ref x)) (k : G l w L E M lv (pc + 2) (.ref x :: st)) : G l w L E M lv pc st :=
  fun H locs ls h1 h2 h3 => lv_aload cx.1 cx.2.1 hd (lv_at h3 p hp) (k H locs ls h1 h2 h3)
theorem g_istore_n (cx : Ok w L E own cc maxL n) {j : Fin 4} {i : Nat} {x : Int32} (lv' : List (Nat × Value)) (hd : decode cc pc = .ok (.istore_n j, 1)) (hi : (j : Nat) = i) (hn : i < maxL) (hl : (i, Value.int x) :: lv.filter (fun q => !(q.1 == i) && !(q.1 + 1 == i && q.2.category == 2)) = lv') (k : G l w L E M lv' (pc + 1) st) : G l w L E M lv pc (.int x :: st) :=
  fun H locs _ h1 h2 h3 => lv_istore_n cx.1 cx.2.1 hd hi h3 (by rw [cx.2.2.1]; exact hn) hl (fun ls h => k H locs ls h1 h2 h)
theorem g_istore (cx : Ok w L E own cc maxL n) {i : Nat} {x : Int32} (lv' : List (Nat × Value)) (hd : decode cc pc = .ok (.istore i, 2)) (hn : i < maxL) (hl : (i, Value.int x) :: lv.filter (fun q => !(q.1 == i) && !(q.1 + 1 == i && q.2.category == 2)) = lv') (k : G l w L E M lv' (pc + 2) st) : G l w L E M lv pc (.int x :: st) :=
  fun H locs _ h1 h2 h3 => lv_istore cx.1 cx.2.1 hd h3 (by rw [cx.2.2.1]; exact hn) hl (fun ls h => k H locs ls h1 h2 h)
theorem g_astore_n (cx : Ok w L E own cc maxL n) {j : Fin 4} {i : Nat} {x : Nat} (lv' : List (Nat × Value)) (hd : decode cc pc = .ok (.astore_n j, 1)) (hi : (j : Nat) = i) (hn : i < maxL) (hl : (i, Value.ref x) :: lv.filter (fun q => !(q.1 == i) && !(q.1 + 1 == i && q.2.category == 2)) = lv') (k : G l w L E M lv' (pc + 1) st) : G l w L E M lv pc (.ref x :: st) :=
  fun H locs _ h1 h2 h3 => lv_astore_n cx.1 cx.2.1 hd hi h3 (by rw [cx.2.2.1]; exact hn) hl (fun ls h => k H locs ls h1 h2 h)
theorem g_astore (cx : Ok w L E own cc maxL n) {i : Nat} {x : Nat} (lv' : List (Nat × Value)) (hd : decode cc pc = .ok (.astore i, 2)) (hn : i < maxL) (hl : (i, Value.ref x) :: lv.filter (fun q => !(q.1 == i) && !(q.1 + 1 == i && q.2.category == 2)) = lv') (k : G l w L E M lv' (pc + 2) st) : G l w L E M lv pc (.ref x :: st) :=
  fun H locs _ h1 h2 h3 => lv_astore cx.1 cx.2.1 hd h3 (by rw [cx.2.2.1]; exact hn) hl (fun ls h => k H locs ls h1 h2 h)
theorem g_iinc (cx : Ok w L E own cc maxL n) {i : Nat} {c : Int} {x v : Int32} (lv' : List (Nat × Value)) (hd : decode cc pc = .ok (.iinc i c, 3)) (p : Nat) (hp : lv[p]? = some (i, .int x)) (hv : x + Int32.ofInt c = v) (hn : i < maxL) (hl : (i, Value.int v) :: lv.filter (fun q => !(q.1 == i) && !(q.1 + 1 == i && q.2.category == 2)) = lv') (k : G l w L E M lv' (pc + 3) st) : G l w L E M lv pc st :=
  fun H locs _ h1 h2 h3 => lv_iinc cx.1 cx.2.1 hd h3 hp hv (by rw [cx.2.2.1]; exact hn) hl (fun ls h => k H locs ls h1 h2 h)
theorem g_sub (ks : List Nat) (lv' : List (Nat × Value)) (h : lv_pick lv ks = lv') (k : G l w L E M lv' pc st) : G l w L E M lv pc st :=
  fun H locs ls h1 h2 h3 => k H locs ls h1 h2 (lv_sub h3 ks h)
theorem g_iadd (cx : Ok w L E own cc maxL n) {x y : Int32} (hd : decode cc pc = .ok (.iadd, 1)) (k : G l w L E M lv (pc + 1) (.int (x + y) :: st)) : G l w L E M lv pc (.int y :: .int x :: st) :=
  fun H locs ls h1 h2 h3 => lv_iadd cx.1 cx.2.1 hd (k H locs ls h1 h2 h3)
theorem g_isub (cx : Ok w L E own cc maxL n) {x y : Int32} (hd : decode cc pc = .ok (.isub, 1)) (k : G l w L E M lv (pc + 1) (.int (x - y) :: st)) : G l w L E M lv pc (.int y :: .int x :: st) :=
  fun H locs ls h1 h2 h3 => lv_isub cx.1 cx.2.1 hd (k H locs ls h1 h2 h3)
theorem g_imul (cx : Ok w L E own cc maxL n) {x y : Int32} (hd : decode cc pc = .ok (.imul, 1)) (k : G l w L E M lv (pc + 1) (.int (x * y) :: st)) : G l w L E M lv pc (.int y :: .int x :: st) :=
  fun H locs ls h1 h2 h3 => lv_imul cx.1 cx.2.1 hd (k H locs ls h1 h2 h3)
theorem g_iand (cx : Ok w L E own cc maxL n) {x y : Int32} (hd : decode cc pc = .ok (.iand, 1)) (k : G l w L E M lv (pc + 1) (.int (x &&& y) :: st)) : G l w L E M lv pc (.int y :: .int x :: st) :=
  fun H locs ls h1 h2 h3 => lv_iand cx.1 cx.2.1 hd (k H locs ls h1 h2 h3)
theorem g_ior (cx : Ok w L E own cc maxL n) {x y : Int32} (hd : decode cc pc = .ok (.ior, 1)) (k : G l w L E M lv (pc + 1) (.int (x ||| y) :: st)) : G l w L E M lv pc (.int y :: .int x :: st) :=
  fun H locs ls h1 h2 h3 => lv_ior cx.1 cx.2.1 hd (k H locs ls h1 h2 h3)
theorem g_ixor (cx : Ok w L E own cc maxL n) {x y : Int32} (hd : decode cc pc = .ok (.ixor, 1)) (k : G l w L E M lv (pc + 1) (.int (x ^^^ y) :: st)) : G l w L E M lv pc (.int y :: .int x :: st) :=
  fun H locs ls h1 h2 h3 => lv_ixor cx.1 cx.2.1 hd (k H locs ls h1 h2 h3)
theorem g_ishl (cx : Ok w L E own cc maxL n) {x y : Int32} (hd : decode cc pc = .ok (.ishl, 1)) (k : G l w L E M lv (pc + 1) (.int (x <<< (y &&& 31)) :: st)) : G l w L E M lv pc (.int y :: .int x :: st) :=
  fun H locs ls h1 h2 h3 => lv_ishl cx.1 cx.2.1 hd (k H locs ls h1 h2 h3)
theorem g_ishr (cx : Ok w L E own cc maxL n) {x y : Int32} (hd : decode cc pc = .ok (.ishr, 1)) (k : G l w L E M lv (pc + 1) (.int (x >>> (y &&& 31)) :: st)) : G l w L E M lv pc (.int y :: .int x :: st) :=
  fun H locs ls h1 h2 h3 => lv_ishr cx.1 cx.2.1 hd (k H locs ls h1 h2 h3)
theorem g_idiv (cx : Ok w L E own cc maxL n) {x y : Int32} (hd : decode cc pc = .ok (.idiv, 1)) (hy : ¬ y = 0) (k : G l w L E M lv (pc + 1) (.int (x / y) :: st)) : G l w L E M lv pc (.int y :: .int x :: st) :=
  fun H locs ls h1 h2 h3 => lv_idiv cx.1 cx.2.1 hd hy (k H locs ls h1 h2 h3)
theorem g_irem (cx : Ok w L E own cc maxL n) {x y : Int32} (hd : decode cc pc = .ok (.irem, 1)) (hy : ¬ y = 0) (k : G l w L E M lv (pc + 1) (.int (x - x / y * y) :: st)) : G l w L E M lv pc (.int y :: .int x :: st) :=
  fun H locs ls h1 h2 h3 => lv_irem cx.1 cx.2.1 hd hy (k H locs ls h1 h2 h3)
theorem g_dup (cx : Ok w L E own cc maxL n) {v : Value} (hd : decode cc pc = .ok (.dup, 1)) (hv : v.category = 1) (k : G l w L E M lv (pc + 1) (v :: v :: st)) : G l w L E M lv pc (v :: st) :=
  fun H locs ls h1 h2 h3 => lv_dup cx.1 cx.2.1 hd hv (k H locs ls h1 h2 h3)
theorem g_pop (cx : Ok w L E own cc maxL n) {v : Value} (hd : decode cc pc = .ok (.pop, 1)) (hv : v.category = 1) (k : G l w L E M lv (pc + 1) st) : G l w L E M lv pc (v :: st) :=
  fun H locs ls h1 h2 h3 => lv_pop cx.1 cx.2.1 hd hv (k H locs ls h1 h2 h3)
theorem g_dup2 (cx : Ok w L E own cc maxL n) {u v : Value} (hd : decode cc pc = .ok (.dup2, 1)) (hu : u.category = 1) (hv : v.category = 1) (k : G l w L E M lv (pc + 1) (u :: v :: u :: v :: st)) : G l w L E M lv pc (u :: v :: st) :=
  fun H locs ls h1 h2 h3 => lv_dup2_11 cx.1 cx.2.1 hd hu hv (k H locs ls h1 h2 h3)
theorem g_goto (cx : Ok w L E own cc maxL n) {off : Int} {tgt : Nat} (hd : decode cc pc = .ok (.goto off, 3)) (ht : (pc : Int) + off = (tgt : Int)) (k : G l w L E M lv tgt st) : G l w L E M lv pc st :=
  fun H locs ls h1 h2 h3 => lv_goto cx.1 cx.2.1 hd ht (k H locs ls h1 h2 h3)
theorem g_nm {β : Type} {x : Int32} {A : Int32 → OQ β} {R0 : β × Mm} (hf : bnd x A = some R0) (k : ∀ y : Int32, A y = some R0 → G l w L E M lv pc (.int y :: st)) : G l w L E M lv pc (.int x :: st) := k x hf
end GR
section GB
variable {l : Launch} {w : Wp} {L : Ly} {E : Cx} {M : Mm} {lv : List (Nat × Value)} {pc : Nat} {st : List Value} {own : String} {cc : ByteArray} {maxL n : Nat} {β : Type} {A B : OQ β} {R0 : β × Mm} {off : Int} {tgt : Nat}
theorem if_t {c : Prop} {d : Decidable c} (h : (if c then A else B) = some R0) (hc : c) : A = some R0 := by rw [if_pos hc] at h; exact h
theorem if_f {c : Prop} {d : Decidable c} (h : (if c then A else B) = some R0) (hc : ¬ c) : B = some R0 := by rw [if_neg hc] at h; exact h

theorem g_if_eq (cx : Ok w L E own cc maxL n) {x : Int32} (hd : decode cc pc = .ok (.ifCond .eq off, 3)) (ht : (pc : Int) + off = (tgt : Int)) (hf : (if x = 0 then A else B) = some R0) (ka : A = some R0 → G l w L E M lv tgt st) (kb : B = some R0 → G l w L E M lv (pc + 3) st) : G l w L E M lv pc (.int x :: st) :=
  fun H locs ls h1 h2 h3 => lv_if_eq cx.1 cx.2.1 hd ht (fun h => ka (if_t hf h) H locs ls h1 h2 h3) (fun h => kb (if_f hf h) H locs ls h1 h2 h3)
theorem g_if_ne (cx : Ok w L E own cc maxL n) {x : Int32} (hd : decode cc pc = .ok (.ifCond .ne off, 3)) (ht : (pc : Int) + off = (tgt : Int)) (hf : (if x = 0 then A else B) = some R0) (ka : A = some R0 → G l w L E M lv (pc + 3) st) (kb : B = some R0 → G l w L E M lv tgt st) : G l w L E M lv pc (.int x :: st) :=
  fun H locs ls h1 h2 h3 => lv_if_ne cx.1 cx.2.1 hd ht (fun h => kb (if_f hf h) H locs ls h1 h2 h3) (fun h => ka (if_t hf h) H locs ls h1 h2 h3)
theorem g_if_lt (cx : Ok w L E own cc maxL n) {x : Int32} (hd : decode cc pc = .ok (.ifCond .lt off, 3)) (ht : (pc : Int) + off = (tgt : Int)) (hf : (if x < 0 then A else B) = some R0) (ka : A = some R0 → G l w L E M lv tgt st) (kb : B = some R0 → G l w L E M lv (pc + 3) st) : G l w L E M lv pc (.int x :: st) :=
  fun H locs ls h1 h2 h3 => lv_if_lt cx.1 cx.2.1 hd ht (fun h => ka (if_t hf h) H locs ls h1 h2 h3) (fun h => kb (if_f hf h) H locs ls h1 h2 h3)
theorem g_if_ge (cx : Ok w L E own cc maxL n) {x : Int32} (hd : decode cc pc = .ok (.ifCond .ge off, 3)) (ht : (pc : Int) + off = (tgt : Int)) (hf : (if x < 0 then A else B) = some R0) (ka : A = some R0 → G l w L E M lv (pc + 3) st) (kb : B = some R0 → G l w L E M lv tgt st) : G l w L E M lv pc (.int x :: st) :=
  fun H locs ls h1 h2 h3 => lv_if_ge cx.1 cx.2.1 hd ht (fun h => kb (if_f hf (Int32.not_lt.mpr h)) H locs ls h1 h2 h3) (fun h => ka (if_t hf (Int32.not_le.mp h)) H locs ls h1 h2 h3)
theorem g_if_gt (cx : Ok w L E own cc maxL n) {x : Int32} (hd : decode cc pc = .ok (.ifCond .gt off, 3)) (ht : (pc : Int) + off = (tgt : Int)) (hf : (if 0 < x then A else B) = some R0) (ka : A = some R0 → G l w L E M lv tgt st) (kb : B = some R0 → G l w L E M lv (pc + 3) st) : G l w L E M lv pc (.int x :: st) :=
  fun H locs ls h1 h2 h3 => lv_if_gt cx.1 cx.2.1 hd ht (fun h => ka (if_t hf h) H locs ls h1 h2 h3) (fun h => kb (if_f hf h) H locs ls h1 h2 h3)
theorem g_if_le (cx : Ok w L E own cc maxL n) {x : Int32} (hd : decode cc pc = .ok (.ifCond .le off, 3)) (ht : (pc : Int) + off = (tgt : Int)) (hf : (if 0 < x then A else B) = some R0) (ka : A = some R0 → G l w L E M lv (pc + 3) st) (kb : B = some R0 → G l w L E M lv tgt st) : G l w L E M lv pc (.int x :: st) :=
  fun H locs ls h1 h2 h3 => lv_if_le cx.1 cx.2.1 hd ht (fun h => kb (if_f hf (Int32.not_lt.mpr h)) H locs ls h1 h2 h3) (fun h => ka (if_t hf (Int32.not_le.mp h)) H locs ls h1 h2 h3)
theorem g_icmp_eq (cx : Ok w L E own cc maxL n) {x y : Int32} (hd : decode cc pc = .ok (.if_icmp .eq off, 3)) (ht : (pc : Int) + off = (tgt : Int)) (hf : (if x = y then A else B) = some R0) (ka : A = some R0 → G l w L E M lv tgt st) (kb : B = some R0 → G l w L E M lv (pc + 3) st) : G l w L E M lv pc (.int y :: .int x :: st) :=
  fun H locs ls h1 h2 h3 => lv_icmp_eq cx.1 cx.2.1 hd ht (fun h => ka (if_t hf h) H locs ls h1 h2 h3) (fun h => kb (if_f hf h) H locs ls h1 h2 h3)
theorem g_icmp_ne (cx : Ok w L E own cc maxL n) {x y : Int32} (hd : decode cc pc = .ok (.if_icmp .ne off, 3)) (ht : (pc : Int) + off = (tgt : Int)) (hf : (if x = y then A else B) = some R0) (ka : A = some R0 → G l w L E M lv (pc + 3) st) (kb : B = some R0 → G l w L E M lv tgt st) : G l w L E M lv pc (.int y :: .int x :: st) :=
  fun H locs ls h1 h2 h3 => lv_icmp_ne cx.1 cx.2.1 hd ht (fun h => kb (if_f hf h) H locs ls h1 h2 h3) (fun h => ka (if_t hf h) H locs ls h1 h2 h3)
theorem g_icmp_lt (cx : Ok w L E own cc maxL n) {x y : Int32} (hd : decode cc pc = .ok (.if_icmp .lt off, 3)) (ht : (pc : Int) + off = (tgt : Int)) (hf : (if x < y then A else B) = some R0) (ka : A = some R0 → G l w L E M lv tgt st) (kb : B = some R0 → G l w L E M lv (pc + 3) st) : G l w L E M lv pc (.int y :: .int x :: st) :=
  fun H locs ls h1 h2 h3 => lv_icmp_lt cx.1 cx.2.1 hd ht (fun h => ka (if_t hf h) H locs ls h1 h2 h3) (fun h => kb (if_f hf h) H locs ls h1 h2 h3)
theorem g_icmp_ge (cx : Ok w L E own cc maxL n) {x y : Int32} (hd : decode cc pc = .ok (.if_icmp .ge off, 3)) (ht : (pc : Int) + off = (tgt : Int)) (hf : (if x < y then A else B) = some R0) (ka : A = some R0 → G l w L E M lv (pc + 3) st) (kb : B = some R0 → G l w L E M lv tgt st) : G l w L E M lv pc (.int y :: .int x :: st) :=
  fun H locs ls h1 h2 h3 => lv_icmp_ge cx.1 cx.2.1 hd ht (fun h => kb (if_f hf (Int32.not_lt.mpr h)) H locs ls h1 h2 h3) (fun h => ka (if_t hf (Int32.not_le.mp h)) H locs ls h1 h2 h3)
theorem g_icmp_gt (cx : Ok w L E own cc maxL n) {x y : Int32} (hd : decode cc pc = .ok (.if_icmp .gt off, 3)) (ht : (pc : Int) + off = (tgt : Int)) (hf : (if y < x then A else B) = some R0) (ka : A = some R0 → G l w L E M lv tgt st) (kb : B = some R0 → G l w L E M lv (pc + 3) st) : G l w L E M lv pc (.int y :: .int x :: st) :=
  fun H locs ls h1 h2 h3 => lv_icmp_gt cx.1 cx.2.1 hd ht (fun h => ka (if_t hf h) H locs ls h1 h2 h3) (fun h => kb (if_f hf h) H locs ls h1 h2 h3)
theorem g_icmp_le (cx : Ok w L E own cc maxL n) {x y : Int32} (hd : decode cc pc = .ok (.if_icmp .le off, 3)) (ht : (pc : Int) + off = (tgt : Int)) (hf : (if y < x then A else B) = some R0) (ka : A = some R0 → G l w L E M lv (pc + 3) st) (kb : B = some R0 → G l w L E M lv tgt st) : G l w L E M lv pc (.int y :: .int x :: st) :=
  fun H locs ls h1 h2 h3 => lv_icmp_le cx.1 cx.2.1 hd ht (fun h => kb (if_f hf (Int32.not_lt.mpr h)) H locs ls h1 h2 h3) (fun h => ka (if_t hf (Int32.not_le.mp h)) H locs ls h1 h2 h3)
end GB
section GH
variable {l : Launch} {w : Wp} {L : Ly} {E : Cx} {M : Mm} {lv : List (Nat × Value)} {pc : Nat} {st : List Value} {own : String} {cc : ByteArray} {maxL n : Nat} {R0 : Int32 × Mm}
theorem g_getI (cx : Ok w L E own cc maxL n) {a ci N index : Nat} {C ref : String} {T : u_T} (hc : vwCl[ci]? = some (C, T, N)) (hin : ∀ q ∈ u_ws C T N, q ∈ TB) (k : Nat) (hk : k < N) (hlink : Cond.fieldLink own index ref (T k).2.1 (T k).2.2.1 ∈ TB) (hsame : (T k).1 = ref) {ks : List (Option Nat)} (hL : L a = some (gO ci ks)) (hl : k < ks.length) (hks : ks.getD k none = none)
    (hd : decode cc pc = .ok (.getfield index, 3)) (kk : G l w L E M lv (pc + 3) (.int (M a k) :: st)) : G l w L E M lv pc (.ref a :: st) := by
  intro H locs ls h1 h2 h3
  have hP : va_P w.1 vwCl [(a, gO ci ks (M a))] H := fun j q hq => by
    have hj : j < 1 := (List.getElem?_eq_some_iff.mp hq).1
    have hj0 : j = 0 := by omega
    subst hj0
    cases hq
    exact h1 a _ hL
  exact va_get (D := w.1) cx.1 cx.2.1 cx.2.2.2.2.1 hin cx.2.2.2.1 cx.2.2.2.2.2.1.1 hP 0 rfl hc k hk (cx.2.2.2.2.1 _ hlink) (fun x h => by rw [← hsame]; exact h) (v := .int (M a k)) (by rw [fO_get hl, hks]; rfl) hd (kk H locs ls h1 h2 h3)
theorem g_getR (cx : Ok w L E own cc maxL n) {a ci N index b : Nat} {C ref : String} {T : u_T} (hc : vwCl[ci]? = some (C, T, N)) (hin : ∀ q ∈ u_ws C T N, q ∈ TB) (k : Nat) (hk : k < N) (hlink : Cond.fieldLink own index ref (T k).2.1 (T k).2.2.1 ∈ TB) (hsame : (T k).1 = ref) {ks : List (Option Nat)} (hL : L a = some (gO ci ks)) (hl : k < ks.length) (hks : ks.getD k none = some b)
    (hd : decode cc pc = .ok (.getfield index, 3)) (kk : G l w L E M lv (pc + 3) (.ref b :: st)) : G l w L E M lv pc (.ref a :: st) := by
  intro H locs ls h1 h2 h3
  have hP : va_P w.1 vwCl [(a, gO ci ks (M a))] H := fun j q hq => by
    have hj : j < 1 := (List.getElem?_eq_some_iff.mp hq).1
    have hj0 : j = 0 := by omega
    subst hj0
    cases hq
    exact h1 a _ hL
  exact va_get (D := w.1) cx.1 cx.2.1 cx.2.2.2.2.1 hin cx.2.2.2.1 cx.2.2.2.2.2.1.1 hP 0 rfl hc k hk (cx.2.2.2.2.1 _ hlink) (fun x h => by rw [← hsame]; exact h) (v := .ref b) (by rw [fO_get hl, hks]; rfl) hd (kk H locs ls h1 h2 h3)
theorem g_putI (cx : Ok w L E own cc maxL n) {a ci N index : Nat} {C ref : String} {T : u_T} (hc : vwCl[ci]? = some (C, T, N)) (hin : ∀ q ∈ u_ws C T N, q ∈ TB) (ty0 : Nat → FieldType) (hty : ∀ k, k < N → parseFieldDescriptor (T k).2.2.1 = some (ty0 k)) (hnm : ∀ a, a < N → ∀ b, b < N → a ≠ b → (T a).2.1 ≠ (T b).2.1) (k : Nat) (hk : k < N) (hlink : Cond.fieldLink own index ref (T k).2.1 (T k).2.2.1 ∈ TB) (hsame : (T k).1 = ref) (hfin : (T k).2.2.2 = false) (hd0 : parseFieldDescriptor (T k).2.2.1 = some .int) {ks : List (Option Nat)} (hL : L a = some (gO ci ks)) (hl : k < ks.length) (hks : ks.getD k none = none) {x : Int32} {A : Mm → OR}
    (hd : decode cc pc = .ok (.putfield index, 3)) (hf : bnd (mst M a k x) A = some R0) (kk : ∀ M1 : Mm, A M1 = some R0 → G l w L E M1 lv (pc + 3) st) : G l w L E M lv pc (.int x :: .ref a :: st) := by
  intro H locs ls h1 h2 h3
  obtain ⟨r, q0, cell, q1, q2, q3, q4⟩ := h1 a _ hL
  have hr : r = (C, T, N) := Option.some.inj (q0.symm.trans hc)
  subst hr
  have hts := cx.2.2.2.2.1
  have hap := va_apart (own := own) hts hin ty0 hty hnm cx.2.2.2.2.2.1.1 hc
  obtain ⟨hS, hfc, kC, hkC, hkind⟩ := cx.2.2.2.2.2.1.u hc
  obtain ⟨cf, kf, fi, f, hi, hsl⟩ := hS k hk
  have hlay := hts _ (hin _ (u_in_lay hk))
  unfold u_lay at hlay
  rw [if_neg (by rw [hfin]; decide)] at hlay
  have hst := (u_facts hfc hkC (u_lays hts hin hk) hi).1
  have h6 := u_store hfc hkC hkind hlay hi hd0 (v := .int x) rfl rfl
  refine W.putK cx.1 cx.2.1 (f := f) ⟨cx.2.2.2.1, hts _ hlink, ⟨_, _, _, by rw [← hsame]; exact hi⟩, hst⟩ (by rw [q2]; exact h6) q1 q3 (by rw [hsl]; exact k2_hasslot (q4 k hk)) rfl rfl hd fun H' e1 e2 e3 => ?_
  rw [hsl] at e1 ⊢
  have he : va_at w.1 vwCl (a, gO ci ks (upd (M a) k x)) H' := by
    refine ⟨_, hc, t_OB.to (V := updV (vp_V (fO ks (M a))) k (.int x)) ⟨_, e1, q2, q3, t_set q4 hap hk (.int x)⟩ (fun j _ => ?_)⟩
    rw [vp_updV_set (by rw [fO_len]; exact hl)]
    show _ = vp_V (fO ks (upd (M a) k x)) j
    rw [fO_set hks]
  have hM := h1.put hL he e3
  rw [← mst_row] at hM
  exact kk _ hf H' _ ls hM (h2.put e2 e3 (cx.2.2.2.2.2.2.1 a (by rw [hL]; simp))) h3
theorem g_iald (cx : Ok w L E own cc maxL n) {a m : Nat} {i : Int32} {A : OR} (hL : L a = some (gI w m)) (hd : decode cc pc = .ok (.iaload, 1)) (hf : ckd i m A = some R0) (kk : A = some R0 → G l w L E M lv (pc + 1) (.int (M a (ix i)) :: st)) : G l w L E M lv pc (.int i :: .ref a :: st) := by
  intro H locs ls h1 h2 h3
  obtain ⟨hin, hf⟩ := ckd_in hf
  have hlt : i.toNatClampNeg < m := Nat.not_le.mp fun q => hin (Or.inr q)
  have hc : H[a]? = some (arrV w.2.1 m (fun j => .int (M a j))) := h1 a _ hL
  exact W.iald (v := .int (M a (ix i))) cx.1 cx.2.1 hc (cx.2.2.2.2.2.1.i.1 m _) (fun q => by cases q) (by rw [arrV_size]; exact hin) (by rw [arrV_read _ _ hlt]) rfl rfl hd (kk hf H locs ls h1 h2 h3)
theorem g_zald (cx : Ok w L E own cc maxL n) {a m : Nat} {i : Int32} {A : OR} (hL : L a = some (gZ w m)) (hd : decode cc pc = .ok (.baload, 1)) (hf : ckd i m A = some R0) (kk : A = some R0 → G l w L E M lv (pc + 1) (.int (zb (M a (ix i))) :: st)) : G l w L E M lv pc (.int i :: .ref a :: st) := by
  intro H locs ls h1 h2 h3
  obtain ⟨hin, hf⟩ := ckd_in hf
  have hlt : i.toNatClampNeg < m := Nat.not_le.mp fun q => hin (Or.inr q)
  have hc : H[a]? = some (arrV w.2.2.1 m (fun j => .int (zb (M a j)))) := h1 a _ hL
  exact W.zald (v := .int (zb (M a (ix i)))) cx.1 cx.2.1 hc (cx.2.2.2.2.2.1.z.1 m _) (fun q => by cases q) (by rw [arrV_size]; exact hin) (by rw [arrV_read _ _ hlt]) rfl rfl hd (kk hf H locs ls h1 h2 h3)
theorem g_aald (cx : Ok w L E own cc maxL n) {a m : Nat} {i : Int32} {A : OR} (hL : L a = some (gR w m)) (hd : decode cc pc = .ok (.aaload, 1)) (hf : ckd i m A = some R0) (kk : A = some R0 → G l w L E M lv (pc + 1) (.ref (w.2.2.2.2 + 32 * ix (M a (ix i))) :: st)) : G l w L E M lv pc (.int i :: .ref a :: st) := by
  intro H locs ls h1 h2 h3
  obtain ⟨hin, hf⟩ := ckd_in hf
  have hlt : i.toNatClampNeg < m := Nat.not_le.mp fun q => hin (Or.inr q)
  have hc : H[a]? = some (arrV w.2.2.2.1 m (fun j => .ref (w.2.2.2.2 + 32 * ix (M a j)))) := h1 a _ hL
  exact W.aald (v := .ref (w.2.2.2.2 + 32 * ix (M a (ix i)))) (ty := .object RX7) cx.1 cx.2.1 hc (cx.2.2.2.2.2.1.r.1 m _) rfl (fun q => by cases q) (by rw [arrV_size]; exact hin) (by rw [arrV_read _ _ hlt]) rfl rfl hd (kk hf H locs ls h1 h2 h3)
theorem g_iast (cx : Ok w L E own cc maxL n) {a m : Nat} {i x : Int32} {A : Mm → OR} (hL : L a = some (gI w m)) (hd : decode cc pc = .ok (.iastore, 1)) (hf : ckd i m (bnd (mst M a (ix i) x) A) = some R0) (kk : ∀ M1 : Mm, A M1 = some R0 → G l w L E M1 lv (pc + 1) st) : G l w L E M lv pc (.int x :: .int i :: .ref a :: st) := by
  intro H locs ls h1 h2 h3
  obtain ⟨hin, hf⟩ := ckd_in hf
  have hc : H[a]? = some (arrV w.2.1 m (fun j => .int (M a j))) := h1 a _ hL
  refine W.iast cx.1 cx.2.1 hc (cx.2.2.2.2.2.1.i.1 m _) (fun q => by cases q) (by rw [arrV_size]; exact hin) rfl rfl hd fun H1 e z oq => ?_
  have he : va_at w.1 vwCl (a, gI w m (upd (M a) (ix i) x)) H1 := by
    show H1[a]? = some (arrV w.2.1 m (fun j => .int (upd (M a) (ix i) x j)))
    rw [e, arrV_store]
    congr 2
    funext q
    by_cases hq : q = i.toNatClampNeg
    · subst hq; simp [updV, upd]
    · simp [updV, upd, hq]
  have hM := h1.put hL he oq
  rw [← mst_row] at hM
  exact kk _ hf H1 _ ls hM (h2.put z oq (cx.2.2.2.2.2.2.1 a (by rw [hL]; simp))) h3
theorem g_zast (cx : Ok w L E own cc maxL n) {a m : Nat} {i x : Int32} {A : Mm → OR} (hL : L a = some (gZ w m)) (hd : decode cc pc = .ok (.bastore, 1)) (hf : ckd i m (bnd (mst M a (ix i) x) A) = some R0) (kk : ∀ M1 : Mm, A M1 = some R0 → G l w L E M1 lv (pc + 1) st) : G l w L E M lv pc (.int x :: .int i :: .ref a :: st) := by
  intro H locs ls h1 h2 h3
  obtain ⟨hin, hf⟩ := ckd_in hf
  have hc : H[a]? = some (arrV w.2.2.1 m (fun j => .int (zb (M a j)))) := h1 a _ hL
  refine W.zast cx.1 cx.2.1 hc (cx.2.2.2.2.2.1.z.1 m _) (fun q => by cases q) (by rw [arrV_size]; exact hin) rfl rfl hd fun H1 e z oq => ?_
  have he : va_at w.1 vwCl (a, gZ w m (upd (M a) (ix i) x)) H1 := by
    show H1[a]? = some (arrV w.2.2.1 m (fun j => .int (zb (upd (M a) (ix i) x j))))
    rw [e, arrV_store]
    congr 2
    funext q
    by_cases hq : q = i.toNatClampNeg
    · subst hq
      simp [updV, upd, zb]
      try rfl
    · simp [updV, upd, hq]
  have hM := h1.put hL he oq
  rw [← mst_row] at hM
  exact kk _ hf H1 _ ls hM (h2.put z oq (cx.2.2.2.2.2.2.1 a (by rw [hL]; simp))) h3
theorem g_alenZ (cx : Ok w L E own cc maxL n) {a m : Nat} {v : Int32} (hL : L a = some (gZ w m)) (hv : Int32.ofNat m = v) (hd : decode cc pc = .ok (.arraylength, 1)) (kk : G l w L E M lv (pc + 1) (.int v :: st)) : G l w L E M lv pc (.ref a :: st) := by
  intro H locs ls h1 h2 h3
  have hc : H[a]? = some (arrV w.2.2.1 m (fun j => .int (zb (M a j)))) := h1 a _ hL
  exact W.alen cx.1 cx.2.1 hc (cx.2.2.2.2.2.1.z.1 m _) (by rw [arrV_size, ← hv] <;> rfl) rfl rfl hd (kk H locs ls h1 h2 h3)
/-- the store of a wires' address: its number in the pool -/
theorem g_aast (cx : Ok w L E own cc maxL n) {a m : Nat} {i j : Int32} {A : Mm → OR} {ks : List (Option Nat)} (hL : L a = some (gR w m)) (hW : L (w.2.2.2.2 + 32 * ix j) = some (gO 7 ks)) (hd : decode cc pc = .ok (.aastore, 1)) (hf : ckd i m (bnd (mst M a (ix i) j) A) = some R0) (kk : ∀ M1 : Mm, A M1 = some R0 → G l w L E M1 lv (pc + 1) st) : G l w L E M lv pc (.ref (w.2.2.2.2 + 32 * ix j) :: .int i :: .ref a :: st) := by
  intro H locs ls h1 h2 h3
  obtain ⟨hin, hf⟩ := ckd_in hf
  have hlt : i.toNatClampNeg < m := Nat.not_le.mp fun q => hin (Or.inr q)
  have h0 : ¬ i < 0 := fun q => hin (Or.inl q)
  have hc : H[a]? = some (arrV w.2.2.2.1 m (fun j => .ref (w.2.2.2.2 + 32 * ix (M a j)))) := h1 a _ hL
  obtain ⟨r', hr', cellV, g1, g2, g3, -⟩ := h1 _ _ hW
  have hcls := (cx.2.2.2.2.2.1.1.1 7 _ (show vwCl[7]? = some (RX7, TX7, 5) from rfl)).2
  obtain ⟨kA, comp, k1, k2, k3, -⟩ := cx.2.2.2.2.2.1.r.2
  have hcomp : comp = w.1.1 7 := Option.some.inj (k3.symm.trans hcls.1)
  subst hcomp
  obtain ⟨kC, hkC, -⟩ := hcls.2
  refine W.aast cx.1 cx.2.1 hc (fun q h => by cases h) (fun h => by cases h) k1 k2 rfl hkC ⟨h0, by rw [arrV_size]; exact hlt⟩ g1 (fun q h => by rw [g3] at h; cases h) (by rw [g2]; exact hkC) (by rw [g2]; exact va_assign hcls) rfl rfl hd fun H1 e z oq => ?_
  have he : va_at w.1 vwCl (a, gR w m (upd (M a) (ix i) j)) H1 := by
    show H1[a]? = some (arrV w.2.2.2.1 m (fun k => .ref (w.2.2.2.2 + 32 * ix (upd (M a) (ix i) j k))))
    rw [e, arrV_store]
    congr 2
    funext q
    by_cases hq : q = i.toNatClampNeg
    · subst hq; simp [updV, upd]
    · simp [updV, upd, hq]
  have hM := h1.put hL he oq
  rw [← mst_row] at hM
  exact kk _ hf H1 _ ls hM (h2.put z oq (cx.2.2.2.2.2.2.1 a (by rw [hL]; simp))) h3
theorem nn_i (z : Int32) (hz : ¬ z < 0) : z.toInt = (ix z : Int) := by
  have hz0 : (0 : Int) ≤ z.toInt := by
    have := Int32.not_lt.mp hz
    simpa using Int32.le_iff_toInt_le.mp this
  show z.toInt = ((z.toInt.toNat : Nat) : Int)
  omega
theorem cpk_in {sp dp n : Int32} {n0 n1 : Nat} {A : OR} {R0 : Int32 × Mm} (h : cpk sp dp n n0 n1 A = some R0) : ¬ sp < 0 ∧ ¬ dp < 0 ∧ ¬ n < 0 ∧ ix sp + ix n ≤ n0 ∧ ix dp + ix n ≤ n1 ∧ A = some R0 := by
  unfold cpk at h
  split at h
  · cases h
  · rename_i q
    simp only [not_or] at q
    exact ⟨q.1, q.2.1, q.2.2.1, by omega, by omega, h⟩
/-- a row over a row, both of one kind of words -/
theorem g_cpy {ty : FieldType} {cA : ClassId} {mk : Int32 → Value} (cx : Ok w L E own cc maxL n) (hn1 : 1 ≤ n) {index : Nat} (hlink : Cond.methodLink own index arraycopyName ∈ TB) (hnat : Cond.native arraycopyName ∈ TB) (hstat : Cond.static arraycopyName ∈ TB) (hini : Cond.initialized "java/lang/System" ∈ TB)
    {a0 a n0 n1 : Nat} {g0 g1 : (Nat → Int32) → va_E} (hL0 : L a0 = some g0) (hL1 : L a = some g1) (hc0 : ∀ f, va_at w.1 vwCl (a0, g0 f) = fun H => H[a0]? = some (arrV cA n0 (fun j => mk (f j)))) (hc1 : ∀ f, va_at w.1 vwCl (a, g1 f) = fun H => H[a]? = some (arrV cA n1 (fun j => mk (f j)))) (hAr : ArrOfT (xS E) cA ty) (hprim : refKind ty = false) (hfit : ∀ x, fits ty (mk x) = true)
    {sp dp nn : Int32} {A : Mm → OR} (hd : decode cc pc = .ok (.invokestatic index, 3)) (hf : cpk sp dp nn n0 n1 (bnd (mrow M a (va_cpy (M a0) (M a) (ix sp) (ix dp) (ix nn))) A) = some R0) (hst : (st.map fun v => v.category).sum ≤ 8) (kk : ∀ M1 : Mm, A M1 = some R0 → G l w L E M1 lv (pc + 3) st) : G l w L E M lv pc (.int nn :: .int dp :: .ref a :: .int sp :: .ref a0 :: st) := by
  intro H locs ls h1 h2 h3
  obtain ⟨c1, c2, c3, c4, c5, hf⟩ := cpk_in hf
  intro T hT X
  have e0 : H[a0]? = some (arrV cA n0 (fun j => mk (M a0 j))) := by have := h1 a0 _ hL0; rw [hc0] at this; exact this
  have e1 : H[a]? = some (arrV cA n1 (fun j => mk (M a j))) := by have := h1 a _ hL1; rw [hc1] at this; exact this
  obtain ⟨-, k0, hk0, cm0, hkk0⟩ := hAr n0 (fun j => mk (M a0 j))
  obtain ⟨-, k1, hk1, cm1, hkk1⟩ := hAr n1 (fun j => mk (M a j))
  obtain ⟨vm', X', step⟩ := X.arraycopy cx.1 cx.2.2.2.1 (cx.2.2.2.2.1 _ hlink) (cx.2.2.2.2.1 _ hnat) (cx.2.2.2.2.1 _ hstat) (cx.2.2.2.2.1 _ hini) (src := a0) (dst := a) (cs := arrV cA n0 (fun j => mk (M a0 j))) (cd := arrV cA n1 (fun j => mk (M a j))) (srcPos := sp) (destPos := dp) (n := nn) (by rw [hT]; exact e0) (by rw [hT]; exact e1)
    (fun _ h => by cases h) (fun _ h => by cases h) (fun h => by cases h) (fun h => by cases h) hk0 hk1 hkk0 hkk1 (by simp [hprim]) c1 c2 c3
    (by rw [nn_i sp c1, nn_i nn c3, arrV_size]; omega)
    (by rw [nn_i dp c2, nn_i nn c3, arrV_size]; omega)
    (fun vm₁ _ i hi => by
      have hi : i < ix nn := hi
      have e : (arrV cA n0 (fun j => mk (M a0 j))).slots.getD (sp.toNatClampNeg + i) .null = mk (M a0 (sp.toNatClampNeg + i)) := by
        rw [Array.getD_eq_getD_getElem?, arrV_read _ _ (by show ix sp + i < n0; omega)]
        rfl
      refine ⟨?_, ?_⟩
      · rw [e]
        exact hfit _
      · rw [e]
        cases hmk : mk (M a0 (sp.toNatClampNeg + i)) <;> first | exact trivial | (exfalso; have hq := hfit (M a0 (sp.toNatClampNeg + i)); rw [hmk] at hq; cases ty <;> simp [fits, refKind] at hq hprim))
    (g := F0 (xM E) pc ls (.int nn :: .int dp :: .ref a :: .int sp :: .ref a0 :: st)) rfl (by rw [h3.1]) (rest := st) rfl (by rw [cx.2.1]; exact hd) (Nat.le_trans hn1 cx.2.2.2.2.2.2.2.1) (by
      have hw : nativeFrameWords "java/lang/System" "arraycopy" 5 + 11 ≤ 24 := by decide +kernel
      have := cx.2.2.2.2.2.2.2.2.1
      show 2 * 0 + _ + _ ≤ _
      omega)
  have e2 : copied (arrV cA n0 (fun j => mk (M a0 j))) (arrV cA n1 (fun j => mk (M a j))) sp dp nn = arrV cA n1 (fun j => mk (va_cpy (M a0) (M a) (ix sp) (ix dp) (ix nn) j)) := va_copied mk cA cA (M a0) (M a) c4
  rw [e2] at X' step
  have hl : a < H.size := (Array.getElem?_eq_some_iff.mp e1).1
  generalize hH1 : H.setIfInBounds a (arrV cA n1 (fun j => mk (va_cpy (M a0) (M a) (ix sp) (ix dp) (ix nn) j))) = H1
  have hheap : ((T.setVm vm').setCell a (arrV cA n1 (fun j => mk (va_cpy (M a0) (M a) (ix sp) (ix dp) (ix nn) j)))).heap = H1 := by rw [← hH1, ← hT]; rfl
  have oq : ∀ q : Nat, q ≠ a → H1[q]? = H[q]? := fun q hq => by rw [← hH1]; simp [Array.getElem?_setIfInBounds, Ne.symm hq]
  have hz : H1.size = H.size := by rw [← hH1]; simp
  have he : va_at w.1 vwCl (a, g1 (va_cpy (M a0) (M a) (ix sp) (ix dp) (ix nn))) H1 := by
    rw [hc1]
    show H1[a]? = _
    rw [← hH1]
    simp [Array.getElem?_setIfInBounds, hl]
  have hM := h1.put hL1 he oq
  have hA := cx.2.2.2.2.2.2.1 a (by rw [hL1]; simp)
  obtain ⟨t, a1, b1⟩ := kk _ hf H1 _ ls hM ⟨by rw [hz]; exact h2.1, fun q g1 g2 => by
      rw [oq q (fun e => g2 (by rw [e]; exact hA))]
      exact h2.2.1 q g1 g2, fun q hq => by
      rcases List.mem_append.mp hq with h | h
      · exact h2.2.2 q h
      · obtain ⟨z, -, hz⟩ := List.mem_map.mp h
        rw [← hz]
        exact hA⟩ h3 _ hheap X'
  exact ⟨t, step t a1, b1⟩
theorem zb_fits (x : Int32) : fits .boolean (.int (zb x)) = true := by
  have h : zb x = 0 ∨ zb x = 1 := by
    unfold zb
    have := pk_and x (m := 1) 1 (by decide)
    rw [this]
    have h2 : x.toBitVec.toNat % 2 ^ 1 < 2 := Nat.mod_lt _ (by decide)
    rcases (show x.toBitVec.toNat % 2 ^ 1 = 0 ∨ x.toBitVec.toNat % 2 ^ 1 = 1 by omega) with h | h
    · exact Or.inl (by rw [h]; rfl)
    · exact Or.inr (by rw [h]; rfl)
  rcases h with h | h <;> rw [h] <;> rfl
theorem g_cpyI (cx : Ok w L E own cc maxL n) (hn1 : 1 ≤ n) {index : Nat} (hlink : Cond.methodLink own index arraycopyName ∈ TB) {a0 a n0 n1 : Nat} (hL0 : L a0 = some (gI w n0)) (hL1 : L a = some (gI w n1))
    {sp dp nn : Int32} {A : Mm → OR} (hd : decode cc pc = .ok (.invokestatic index, 3)) (hf : cpk sp dp nn n0 n1 (bnd (mrow M a (va_cpy (M a0) (M a) (ix sp) (ix dp) (ix nn))) A) = some R0) (hst : (st.map fun v => v.category).sum ≤ 8) (kk : ∀ M1 : Mm, A M1 = some R0 → G l w L E M1 lv (pc + 3) st) : G l w L E M lv pc (.int nn :: .int dp :: .ref a :: .int sp :: .ref a0 :: st) :=
  g_cpy (mk := fun x => .int x) cx hn1 hlink tb_cpy1 tb_cpy2 tb_cpy3 hL0 hL1 (fun f => rfl) (fun f => rfl) cx.2.2.2.2.2.1.i.1 rfl (fun x => rfl) hd hf hst kk
theorem g_cpyZ (cx : Ok w L E own cc maxL n) (hn1 : 1 ≤ n) {index : Nat} (hlink : Cond.methodLink own index arraycopyName ∈ TB) {a0 a n0 n1 : Nat} (hL0 : L a0 = some (gZ w n0)) (hL1 : L a = some (gZ w n1))
    {sp dp nn : Int32} {A : Mm → OR} (hd : decode cc pc = .ok (.invokestatic index, 3)) (hf : cpk sp dp nn n0 n1 (bnd (mrow M a (va_cpy (M a0) (M a) (ix sp) (ix dp) (ix nn))) A) = some R0) (hst : (st.map fun v => v.category).sum ≤ 8) (kk : ∀ M1 : Mm, A M1 = some R0 → G l w L E M1 lv (pc + 3) st) : G l w L E M lv pc (.int nn :: .int dp :: .ref a :: .int sp :: .ref a0 :: st) :=
  g_cpy (mk := fun x => .int (zb x)) cx hn1 hlink tb_cpy1 tb_cpy2 tb_cpy3 hL0 hL1 (fun f => rfl) (fun f => rfl) cx.2.2.2.2.2.1.z.1 rfl zb_fits hd hf hst kk
theorem g_max (cx : Ok w L E own cc maxL n) (hn1 : 1 ≤ n) {index : Nat} (hlink : Cond.methodLink own index Lib.Math.max.name ∈ TB) {x y : Int32} (hd : decode cc pc = .ok (.invokestatic index, 3)) (hst : (st.map fun v => v.category).sum ≤ 8) (kk : G l w L E M lv (pc + 3) (.int (if x < y then y else x) :: st)) : G l w L E M lv pc (.int y :: .int x :: st) := by
  intro H locs ls h1 h2 h3
  refine va_mmax cx.1 cx.2.1 h3.1.symm cx.2.2.2.1 (cx.2.2.2.2.1 _ hlink) (cx.2.2.2.2.1 _ tb_max1) (cx.2.2.2.2.1 _ tb_max2) (cx.2.2.2.2.1 _ tb_max3) (Nat.le_trans hn1 cx.2.2.2.2.2.2.2.1) ?_ cx.2.2.2.2.2.2.2.2.2.1 cx.2.2.2.2.2.2.2.2.2.2 hd (kk H locs ls h1 h2 h3)
  have := cx.2.2.2.2.2.2.2.2.1
  omega
/-! ends -/
theorem g_iret (cx : Ok w L E own cc maxL n) {rt : FieldType} (en : En w L E (some rt) R0) {x : Int32} (hd : decode cc pc = .ok (.ireturn, 1)) (hn : narrow rt (.int x) = .int x) (hf : some (x, M) = some R0) : G l w L E M lv pc [.int x] := by
  intro H locs ls h1 h2 h3
  cases hf
  obtain ⟨e1, e2, e3, e4⟩ := en
  rw [e1]
  exact W.zret cx.1 cx.2.1 e3 hn (fun t ht hW => ⟨rfl, by rw [ht]; exact h1, by rw [e2] at h2; exact h2.F ht⟩) (by rw [← e2]; exact h2.2.2) hd e4
theorem g_vret (cx : Ok w L E own cc maxL n) (en : En w L E none R0) (hd : decode cc pc = .ok (.return_, 1)) (hf : some (0, M) = some R0) : G l w L E M lv pc [] := by
  intro H locs ls h1 h2 h3
  cases hf
  obtain ⟨e1, e2, e3, e4⟩ := en
  rw [e1]
  exact W.vret cx.1 cx.2.1 e3 (fun t ht hW => ⟨rfl, by rw [ht]; exact h1, by rw [e2] at h2; exact h2.F ht⟩) (by rw [← e2]; exact h2.2.2) hd e4
/-! calls -/
theorem fb_Pc {av : List Value} : FrameBlind (va_Pc av (fun U => HM w L M U.heap ∧ KK w U)) :=
  fun a U g mk q => ⟨q.1, q.2.1, KK.same (u := U) (U := U.calling g mk a) rfl q.2.2⟩
theorem CT_of {y : MethodName} {ret : Option FieldType} {av : List Value} {R1 : Int32 × Mm} (hy : plainName y.cls = true) (hl : (lg_sl av).length ≤ maxL)
    (body : ∀ E : Cx, Ok w L E y.cls cc maxL n → En w L E ret R1 → G l w L E M (lv_args 0 av) 0 []) : CT l w L y cc maxL ret n av M R1 := by
  refine Met.ofW (cc := cc) (maxL := maxL) (ret := ret) hy rfl ?_
  intro p e s m args below meth c s₁ B hml hv
  obtain ⟨rfl, hP, hK⟩ := hv
  have hts := atoms_spec (ws := Cond.code y cc maxL ret :: TB) B.pre
  have hown : s.vm.findClass y.cls = some m.cls := findClass_of_methodNamed B.named
  rw [lg_entry_eq]
  exact body (p, e, rmL n, s, m, av.toArray, below, meth, c, dm L, 0, 0, MQ below (QR w L ret R1) av.toArray s 0 0 (dm L))
    ⟨B.exec, B.bytes, hml, hown, fun w hw => hts w (List.mem_cons_of_mem _ hw), hK, fun q h => h, Nat.le_refl _, Nat.le_refl _, Nat.zero_le _, Nat.zero_le _⟩
    ⟨rfl, rfl, B.returns, B.notSynchronized⟩ s.heap [] _ hP va_S.rf (by show lv_has _ c.maxLocals _; rw [hml]; exact lv_entry av hl)
/-- behind a call -/
theorem g_back {av : List Value} {rt : Option FieldType} {R1 : Int32 × Mm} {H : Heap} {locs : List Loc} {ls : Array Slot} {stk : List Value} (cx : Ok w L E own cc maxL n) (h2 : va_S (xF E) (xS E).heap H locs) (h3 : lv_has ls (xC E).maxLocals lv)
    (hr : va_Run (xP E) l (xE E) (xR E) (xS E) (xM E) (xA E) (xB E) (xY E) (xC E) H locs (xN E) (xT E) 0 0 (F0 (xM E) pc ls stk) st (QR w L rt R1 av.toArray) (dm L))
    (kk : G l w L E R1.2 lv (pc + 3) ((rt.map fun _ => Value.int R1.1).toList ++ st)) : W (xP E) l (xE E) (xR E) (xS E) (xM E) (xA E) (xB E) (xY E) (xC E) H locs (xN E) (xT E) (xQ E) (F0 (xM E) pc ls stk) := by
  intro T hT X
  obtain ⟨v, st₀, t, T', Lw, h0, X', hL, e1, e2, ⟨hv, hb, hz, hk⟩, stp⟩ := hr T hT X
  cases hv
  rw [h0] at hz hk
  have sub := cx.2.2.2.2.2.2.1
  obtain ⟨t2, a1, b1⟩ := kk T'.heap (locs ++ Lw) ls (by rw [e1]; exact hb)
    ⟨Nat.le_trans h2.1 (by rw [e1]; exact hz), fun q h4 h5 => by rw [e1, hk q (Nat.lt_of_lt_of_le h4 h2.1) (fun z => h5 (sub q z))]; exact h2.2.1 q h4 h5, fun q hq => by
      rcases List.mem_append.mp hq with h | h
      · exact h2.2.2 q h
      · exact sub _ (hL q h)⟩ h3 T' rfl X'
  exact ⟨t2, stp t2 a1, b1⟩
/-- the words of a call's callee, n1 its depth -/
theorem rm_fit {n1 maxL1 : Nat} (cx : Ok w L E own cc maxL n) (h : n1 + 1 ≤ n) (hm : maxL1 ≤ 13) : (rmL n1).frames + 1 ≤ (xR E).frames ∧ 8 + (maxL1 + 11) + (rmL n1).locals ≤ (xR E).locals := by
  have h4 := cx.2.2.2.2.2.2.2.1
  have h5 := cx.2.2.2.2.2.2.2.2.1
  refine ⟨?_, ?_⟩
  · show n1 + 1 ≤ _; omega
  · show 8 + (maxL1 + 11) + 32 * n1 ≤ _; omega
theorem pay_tb {y : MethodName} {c1 : ByteArray} {m1 : Nat} {rt : Option FieldType} {s : State} {args : Array Value} (hts : ∀ w ∈ TB, w.before args s = true) (hcode : Cond.code y c1 m1 rt ∈ TB) :
    ∀ w ∈ Cond.code y c1 m1 rt :: TB, ∀ (a' : Array Value) (U : State), s.WarmedH U.vm → w.before a' U = true := by
  intro w hw a' U hW
  have hm : w ∈ TB := by
    rcases List.mem_cons.mp hw with rfl | h
    · exact hcode
    · exact h
  exact word_at hW (good_of_word (tb_g hm)) (hts w hm)
def LkV (own : String) (index : Nat) (C : String) (y : MethodName) (c1 : ByteArray) (m1 : Nat) (rt : Option FieldType) (k : Nat) : Prop :=
  Cond.methodLink own index y ∈ TB ∧ Cond.instanceMethod y ∈ TB ∧ Cond.selects C y y ∈ TB ∧ Cond.initialized y.cls ∈ TB ∧ Cond.code y c1 m1 rt ∈ TB ∧ (y.cls ≠ "java/lang/invoke/MethodHandle" ∧ y.cls ≠ "java/lang/invoke/VarHandle" ∧ (parseMethodDescriptor y.desc).map (fun d => d.parameters.length) = some k) ∧ m1 ≤ 13
theorem g_callV {index : Nat} {C : String} {y : MethodName} {c1 : ByteArray} {m1 n1 ci : Nat} {rt : Option FieldType} {As : List Value} {b : Nat} {R1 : Int32 × Mm} {ks : List (Option Nat)} {T : u_T} {N : Nat} (cx : Ok w L E own cc maxL n) (lk : LkV own index C y c1 m1 rt As.length) (hc : vwCl[ci]? = some (C, T, N)) (hL : L b = some (gO ci ks)) (hn : n1 + 1 ≤ n)
    (hM : CT l w L y c1 m1 rt n1 (.ref b :: As) M R1) (hd : decode cc pc = .ok (.invokevirtual index, 3)) (hst : (st.map fun v => v.category).sum ≤ 8) (kk : G l w L E R1.2 lv (pc + 3) ((rt.map fun _ => Value.int R1.1).toList ++ st)) : G l w L E M lv pc (As.reverse ++ .ref b :: st) := by
  intro H locs ls h1 h2 h3
  obtain ⟨k1, k2, k3, k4, k5, ⟨k6, k7, k8⟩, k9⟩ := lk
  have hts := cx.2.2.2.2.1
  have hfit := rm_fit cx hn k9
  refine g_back cx h2 h3 (va_runV (As := As) (rest := st) (b := b) (nL := maxL) (C := C) (n := As.length) ⟨cx.1, cx.2.1, cx.2.2.1, cx.2.2.2.1, hts⟩ hM ⟨⟨rfl, rfl, hfit.1, hfit.2, pay_tb hts k5, List.mem_cons_self, hts _ k5, hts _ k4, ⟨k6, k7⟩, fun sig h => ?_, hts _ k1⟩, hts _ k2, hts _ k3⟩ ⟨fb_Pc, ?_, fun U hU hW => ⟨rfl, by rw [hU]; exact h1, cx.2.2.2.2.2.1.warm hW⟩⟩ rfl rfl (by rw [← cx.2.2.1]; exact h3.1) rfl (lv_room hst) hd ⟨cx.2.2.2.2.2.2.2.2.2.1, cx.2.2.2.2.2.2.2.2.2.2⟩) kk
  · rw [h] at k8
    exact (Option.some.inj k8).symm
  · obtain ⟨q', g0, cell, g1, g2, g3, -⟩ := h1 b _ hL
    exact ⟨cell, g1, by rw [g3]; rfl, by rw [g2]; exact (cx.2.2.2.2.2.1.1.1 ci _ hc).2.1⟩
def LkS (own : String) (index : Nat) (y : MethodName) (c1 : ByteArray) (m1 : Nat) (rt : Option FieldType) (k : Nat) : Prop :=
  Cond.methodLink own index y ∈ TB ∧ Cond.static y ∈ TB ∧ Cond.initialized y.cls ∈ TB ∧ Cond.code y c1 m1 rt ∈ TB ∧ (y.cls ≠ "java/lang/invoke/MethodHandle" ∧ y.cls ≠ "java/lang/invoke/VarHandle" ∧ (parseMethodDescriptor y.desc).map (fun d => d.parameters.length) = some k) ∧ m1 ≤ 13
theorem g_callS {index : Nat} {y : MethodName} {c1 : ByteArray} {m1 n1 : Nat} {rt : Option FieldType} {As : List Value} {R1 : Int32 × Mm} (cx : Ok w L E own cc maxL n) (lk : LkS own index y c1 m1 rt As.length) (hn : n1 + 1 ≤ n)
    (hM : CT l w L y c1 m1 rt n1 As M R1) (hd : decode cc pc = .ok (.invokestatic index, 3)) (hst : (st.map fun v => v.category).sum ≤ 8) (kk : G l w L E R1.2 lv (pc + 3) ((rt.map fun _ => Value.int R1.1).toList ++ st)) : G l w L E M lv pc (As.reverse ++ st) := by
  intro H locs ls h1 h2 h3
  obtain ⟨k1, k2, k4, k5, ⟨k6, k7, k8⟩, k9⟩ := lk
  have hts := cx.2.2.2.2.1
  have hfit := rm_fit cx hn k9
  refine g_back cx h2 h3 (va_runS (As := As) (rest := st) (nL := maxL) (n := As.length) ⟨cx.1, cx.2.1, cx.2.2.1, cx.2.2.2.1, hts⟩ hM ⟨⟨rfl, rfl, hfit.1, hfit.2, pay_tb hts k5, List.mem_cons_self, hts _ k5, hts _ k4, ⟨k6, k7⟩, fun sig h => ?_, hts _ k1⟩, hts _ k2⟩ ⟨fb_Pc, fun U hU hW => ⟨rfl, by rw [hU]; exact h1, cx.2.2.2.2.2.1.warm hW⟩⟩ rfl rfl (by rw [← cx.2.2.1]; exact h3.1) rfl (lv_room hst) hd ⟨cx.2.2.2.2.2.2.2.2.2.1, cx.2.2.2.2.2.2.2.2.2.2⟩) kk
  rw [h] at k8
  exact (Option.some.inj k8).symm
def LkN (own : String) (index : Nat) (host : String) (y : MethodName) (c1 : ByteArray) (m1 : Nat) (rt : Option FieldType) (k : Nat) : Prop :=
  Cond.methodLinkNest own index y host ∈ nwL ∧ Cond.static y ∈ TB ∧ Cond.initialized y.cls ∈ TB ∧ Cond.code y c1 m1 rt ∈ TB ∧ (y.cls ≠ "java/lang/invoke/MethodHandle" ∧ y.cls ≠ "java/lang/invoke/VarHandle" ∧ (parseMethodDescriptor y.desc).map (fun d => d.parameters.length) = some k) ∧ m1 ≤ 13
theorem g_callN {index : Nat} {host : String} {y : MethodName} {c1 : ByteArray} {m1 n1 : Nat} {rt : Option FieldType} {As : List Value} {R1 : Int32 × Mm} (cx : Ok w L E own cc maxL n) (lk : LkN own index host y c1 m1 rt As.length) (hn : n1 + 1 ≤ n)
    (hM : CT l w L y c1 m1 rt n1 As M R1) (hd : decode cc pc = .ok (.invokestatic index, 3)) (hst : (st.map fun v => v.category).sum ≤ 8) (kk : G l w L E R1.2 lv (pc + 3) ((rt.map fun _ => Value.int R1.1).toList ++ st)) : G l w L E M lv pc (As.reverse ++ st) := by
  intro H locs ls h1 h2 h3
  obtain ⟨k1, k2, k4, k5, ⟨k6, k7, k8⟩, k9⟩ := lk
  have hts := cx.2.2.2.2.1
  have hfit := rm_fit cx hn k9
  refine g_back cx h2 h3 (va_runSN (As := As) (rest := st) (nL := maxL) (n := As.length) (host := host) ⟨cx.1, cx.2.1, cx.2.2.1, cx.2.2.2.1, hts⟩ hM ⟨⟨⟨rfl, rfl, hfit.1, hfit.2, pay_tb hts k5, List.mem_cons_self⟩, hts _ k5, hts _ k4, ⟨k6, k7⟩, fun sig h => ?_, va_Nw.use rfl (cx.2.2.2.2.2.1.2 _ k1)⟩, hts _ k2, trivial⟩ ⟨fb_Pc, fun U hU hW => ⟨rfl, by rw [hU]; exact h1, cx.2.2.2.2.2.1.warm hW⟩⟩ rfl rfl (by rw [← cx.2.2.1]; exact h3.1) rfl (lv_room hst) hd ⟨cx.2.2.2.2.2.2.2.2.2.1, cx.2.2.2.2.2.2.2.2.2.2⟩) kk
  rw [h] at k8
  exact (Option.some.inj k8).symm
end GH

/-! for the walks' programs -/
def wck (e : Int32) (A : OR) : OR := if ix e < 5 then A else none
def zrk (x : Int32) (A : OR) : OR := if zb x = x then A else none
def jrem (x y : Int32) : Int32 := x - x / y * y
def FU : Nat := 4000
theorem obn_some2 {α β : Type} {x : OQ α} {k : α → Mm → OQ β} {R0 : β × Mm} (h : obn x k = some R0) : ∃ (r : α) (M1 : Mm), x = some (r, M1) ∧ k r M1 = some R0 := by
  obtain ⟨⟨r, M1⟩, h1, h2⟩ := obn_some h
  exact ⟨r, M1, h1, h2⟩
theorem wck_in {e : Int32} {A : OR} {R0 : Int32 × Mm} (h : wck e A = some R0) : ix e < 5 ∧ A = some R0 := by
  unfold wck at h
  split at h
  · rename_i q
    exact ⟨q, h⟩
  · cases h
theorem zrk_in {x : Int32} {A : OR} {R0 : Int32 × Mm} (h : zrk x A = some R0) : zb x = x ∧ A = some R0 := by
  unfold zrk at h
  split at h
  · rename_i q
    exact ⟨q, h⟩
  · cases h
section GP
variable {l : Launch} {w : Wp} {L : Ly} {E : Cx} {M : Mm} {lv : List (Nat × Value)} {pc : Nat} {st : List Value} {own : String} {cc : ByteArray} {maxL n : Nat} {R0 : Int32 × Mm} {A B : OR} {off : Int} {tgt : Nat}
theorem g_jrem (cx : Ok w L E own cc maxL n) {x y : Int32} (hd : decode cc pc = .ok (.irem, 1)) (hy : ¬ y = 0) (k : G l w L E M lv (pc + 1) (.int (jrem x y) :: st)) : G l w L E M lv pc (.int y :: .int x :: st) := g_irem cx hd hy k
theorem g_aaldH (cx : Ok w L E own cc maxL n) {a m b0 : Nat} {i : Int32} {F : Int32 → OR} (hL : L a = some (gR w m)) (hb : w.2.2.2.2 = b0) (hd : decode cc pc = .ok (.aaload, 1)) (hf : ckd i m (bnd (M a (ix i)) fun r => wck r (F r)) = some R0) (kk : ∀ r : Int32, ix r < 5 → F r = some R0 → G l w L E M lv (pc + 1) (.ref (b0 + 32 * ix r) :: st)) : G l w L E M lv pc (.int i :: .ref a :: st) := by
  subst hb
  exact g_aald cx hL hd hf fun hf => kk _ (wck_in hf).1 (wck_in hf).2
theorem g_aastH (cx : Ok w L E own cc maxL n) {a m b0 : Nat} {i j : Int32} {F : Mm → OR} {ks : List (Option Nat)} (hL : L a = some (gR w m)) (hb : w.2.2.2.2 = b0) (hW : L (b0 + 32 * ix j) = some (gO 7 ks)) (hd : decode cc pc = .ok (.aastore, 1)) (hf : ckd i m (bnd (mst M a (ix i) j) F) = some R0) (kk : ∀ M1 : Mm, F M1 = some R0 → G l w L E M1 lv (pc + 1) st) : G l w L E M lv pc (.ref (b0 + 32 * ix j) :: .int i :: .ref a :: st) := by
  subst hb
  exact g_aast cx hL hW hd hf kk
theorem g_zret (cx : Ok w L E own cc maxL n) (en : En w L E (some .boolean) R0) {x : Int32} (hd : decode cc pc = .ok (.ireturn, 1)) (hf : zrk x (some (x, M)) = some R0) : G l w L E M lv pc [.int x] := by
  obtain ⟨h1, h2⟩ := zrk_in hf
  exact g_iret cx en hd (show Value.int (zb x) = .int x by rw [h1]) h2
theorem g_swk (cx : Ok w L E own cc maxL n) {dflt lo hi : Int} {offs : Array Int} {len : Nat} {x kx : Int32} (hd : decode cc pc = .ok (.tableswitch dflt lo hi offs, len)) (h1 : ¬ kx.toInt < lo) (h2 : ¬ hi < kx.toInt) (ho : offs[(kx.toInt - lo).toNat]? = some off) (ht : (pc : Int) + off = (tgt : Int)) (hf : (if x = kx then A else B) = some R0) (ka : A = some R0 → G l w L E M lv tgt st) (kb : ¬ x = kx → B = some R0 → G l w L E M lv pc (.int x :: st)) : G l w L E M lv pc (.int x :: st) := by
  by_cases h : x = kx
  · subst h
    intro H locs ls q1 q2 q3
    exact lv_tableIn cx.1 cx.2.1 hd h1 h2 ho ht (ka (if_t hf rfl) H locs ls q1 q2 q3)
  · exact kb h (if_f hf h)
theorem g_swo (cx : Ok w L E own cc maxL n) {dflt lo hi : Int} {offs : Array Int} {len : Nat} {x : Int32} (hd : decode cc pc = .ok (.tableswitch dflt lo hi offs, len)) (h : x.toInt < lo ∨ hi < x.toInt) (ht : (pc : Int) + dflt = (tgt : Int)) (k : G l w L E M lv tgt st) : G l w L E M lv pc (.int x :: st) :=
  fun H locs ls q1 q2 q3 => lv_tableOut cx.1 cx.2.1 hd h ht (k H locs ls q1 q2 q3)
theorem g_lks (cx : Ok w L E own cc maxL n) {dflt : Int} {ps : Array (Int × Int)} {len : Nat} {x kx : Int32} (hd : decode cc pc = .ok (.lookupswitch dflt ps, len)) (hp : (ps.toList.zip (ps.toList.drop 1)).all (fun (a, next) => a.1 < next.1) = true) (ho : Op.lookupswitch.offset ps.toList dflt kx.toInt = off) (ht : (pc : Int) + off = (tgt : Int)) (hf : (if x = kx then A else B) = some R0) (ka : A = some R0 → G l w L E M lv tgt st) (kb : ¬ x = kx → B = some R0 → G l w L E M lv pc (.int x :: st)) : G l w L E M lv pc (.int x :: st) := by
  by_cases h : x = kx
  · subst h
    intro H locs ls q1 q2 q3
    exact lv_lookup cx.1 cx.2.1 hd hp ho ht (ka (if_t hf rfl) H locs ls q1 q2 q3)
  · exact kb h (if_f hf h)
theorem g_lko (cx : Ok w L E own cc maxL n) {dflt : Int} {ps : Array (Int × Int)} {len : Nat} {x : Int32} (hd : decode cc pc = .ok (.lookupswitch dflt ps, len)) (hp : (ps.toList.zip (ps.toList.drop 1)).all (fun (a, next) => a.1 < next.1) = true) (ho : Op.lookupswitch.offset ps.toList dflt x.toInt = off) (ht : (pc : Int) + off = (tgt : Int)) (k : G l w L E M lv tgt st) : G l w L E M lv pc (.int x :: st) :=
  fun H locs ls q1 q2 q3 => lv_lookup cx.1 cx.2.1 hd hp ho ht (k H locs ls q1 q2 q3)
variable {index : Nat} {C : String} {y : MethodName} {c1 : ByteArray} {m1 n1 ci : Nat} {rt : FieldType} {b : Nat} {r : Int32} {M1 : Mm} {ks : List (Option Nat)} {T : u_T} {N : Nat} {host : String}
theorem g_callVi (As : List Value) (st : List Value) (cx : Ok w L E own cc maxL n) (lk : LkV own index C y c1 m1 (some rt) As.length) (hc : vwCl[ci]? = some (C, T, N)) (hL : L b = some (gO ci ks)) (hn : n1 + 1 ≤ n)
    (hM : CT l w L y c1 m1 (some rt) n1 (.ref b :: As) M (r, M1)) (hd : decode cc pc = .ok (.invokevirtual index, 3)) (hst : (st.map fun v => v.category).sum ≤ 8) (kk : G l w L E M1 lv (pc + 3) (.int r :: st)) : G l w L E M lv pc (As.reverse ++ .ref b :: st) := g_callV cx lk hc hL hn hM hd hst kk
theorem g_callVv (As : List Value) (st : List Value) (cx : Ok w L E own cc maxL n) (lk : LkV own index C y c1 m1 none As.length) (hc : vwCl[ci]? = some (C, T, N)) (hL : L b = some (gO ci ks)) (hn : n1 + 1 ≤ n)
    (hM : CT l w L y c1 m1 none n1 (.ref b :: As) M (r, M1)) (hd : decode cc pc = .ok (.invokevirtual index, 3)) (hst : (st.map fun v => v.category).sum ≤ 8) (kk : G l w L E M1 lv (pc + 3) st) : G l w L E M lv pc (As.reverse ++ .ref b :: st) := g_callV cx lk hc hL hn hM hd hst kk
theorem g_callSi (As : List Value) (st : List Value) (cx : Ok w L E own cc maxL n) (lk : LkS own index y c1 m1 (some rt) As.length) (hn : n1 + 1 ≤ n)
    (hM : CT l w L y c1 m1 (some rt) n1 As M (r, M1)) (hd : decode cc pc = .ok (.invokestatic index, 3)) (hst : (st.map fun v => v.category).sum ≤ 8) (kk : G l w L E M1 lv (pc + 3) (.int r :: st)) : G l w L E M lv pc (As.reverse ++ st) := g_callS cx lk hn hM hd hst kk
theorem g_callNi (As : List Value) (st : List Value) (cx : Ok w L E own cc maxL n) (lk : LkN own index host y c1 m1 (some rt) As.length) (hn : n1 + 1 ≤ n)
    (hM : CT l w L y c1 m1 (some rt) n1 As M (r, M1)) (hd : decode cc pc = .ok (.invokestatic index, 3)) (hst : (st.map fun v => v.category).sum ≤ 8) (kk : G l w L E M1 lv (pc + 3) (.int r :: st)) : G l w L E M lv pc (As.reverse ++ st) := g_callN cx lk hn hM hd hst kk
end GP

/-! longs -/
def jcmp (x y : Int64) : Int32 := lg_cmp x y
section GJ
variable {l : Launch} {w : Wp} {L : Ly} {E : Cx} {M : Mm} {lv : List (Nat × Value)} {pc : Nat} {st : List Value} {own : String} {cc : ByteArray} {maxL n : Nat}
theorem g_nmJ {β : Type} {x : Int64} {A : Int64 → OQ β} {R0 : β × Mm} (hf : bnd x A = some R0) (k : ∀ y : Int64, A y = some R0 → G l w L E M lv pc (.long y :: st)) : G l w L E M lv pc (.long x :: st) := k x hf
theorem g_lconst (cx : Ok w L E own cc maxL n) {nn : Fin 2} {v : Int64} (hd : decode cc pc = .ok (.lconst nn, 1)) (hv : Int64.ofNat (nn : Nat) = v) (k : G l w L E M lv (pc + 1) (.long v :: st)) : G l w L E M lv pc st :=
  fun H locs ls h1 h2 h3 => lv_lconst cx.1 cx.2.1 hd hv (k H locs ls h1 h2 h3)
theorem g_ldc2 (cx : Ok w L E own cc maxL n) {i : Nat} {v : Int64} (hw : Cond.constantLong own i v ∈ TB) (hd : decode cc pc = .ok (.ldc2_w i, 3)) (k : G l w L E M lv (pc + 3) (.long v :: st)) : G l w L E M lv pc st :=
  fun H locs ls h1 h2 h3 => lv_ldc2 cx.1 cx.2.1 cx.2.2.2.1 (cx.2.2.2.2.1 _ hw) hd (k H locs ls h1 h2 h3)
theorem g_lload_n (cx : Ok w L E own cc maxL n) {j : Fin 4} {i : Nat} {x : Int64} (hd : decode cc pc = .ok (.lload_n j, 1)) (hi : (j : Nat) = i) (p : Nat) (hp : lv[p]? = some (i, .long x)) (k : G l w L E M lv (pc + 1) (.long x :: st)) : G l w L E M lv pc st :=
  fun H locs ls h1 h2 h3 => lv_lload_n cx.1 cx.2.1 hd hi (lv_at h3 p hp) (k H locs ls h1 h2 h3)
theorem g_lload (cx : Ok w L E own cc maxL n) {i : Nat} {x : Int64} (hd : decode cc pc = .ok (.lload i, 2)) (p : Nat) (hp : lv[p]? = some (i, .long x)) (k : G l w L E M lv (pc + 2) (.long x :: st)) : G l w L E M lv pc st :=
  fun H locs ls h1 h2 h3 => lv_lload cx.1 cx.2.1 hd (lv_at h3 p hp) (k H locs ls h1 h2 h3)
theorem g_lstore_n (cx : Ok w L E own cc maxL n) {j : Fin 4} {i : Nat} {x : Int64} (lv' : List (Nat × Value)) (hd : decode cc pc = .ok (.lstore_n j, 1)) (hi : (j : Nat) = i) (hn : i + 1 < maxL) (hl : (i, Value.long x) :: lv.filter (fun q => !(q.1 == i) && (!(q.1 == i + 1) && !(q.1 + 1 == i && q.2.category == 2))) = lv') (k : G l w L E M lv' (pc + 1) st) : G l w L E M lv pc (.long x :: st) :=
  fun H locs _ h1 h2 h3 => lv_lstore_n cx.1 cx.2.1 hd hi h3 (by rw [cx.2.2.1]; exact hn) hl (fun ls h => k H locs ls h1 h2 h)
theorem g_lstore (cx : Ok w L E own cc maxL n) {i : Nat} {x : Int64} (lv' : List (Nat × Value)) (hd : decode cc pc = .ok (.lstore i, 2)) (hn : i + 1 < maxL) (hl : (i, Value.long x) :: lv.filter (fun q => !(q.1 == i) && (!(q.1 == i + 1) && !(q.1 + 1 == i && q.2.category == 2))) = lv') (k : G l w L E M lv' (pc + 2) st) : G l w L E M lv pc (.long x :: st) :=
  fun H locs _ h1 h2 h3 => lv_lstore cx.1 cx.2.1 hd h3 (by rw [cx.2.2.1]; exact hn) hl (fun ls h => k H locs ls h1 h2 h)
theorem g_ladd (cx : Ok w L E own cc maxL n) {x y : Int64} (hd : decode cc pc = .ok (.ladd, 1)) (k : G l w L E M lv (pc + 1) (.long (x + y) :: st)) : G l w L E M lv pc (.long y :: .long x :: st) :=
  fun H locs ls h1 h2 h3 => lv_ladd cx.1 cx.2.1 hd (k H locs ls h1 h2 h3)
theorem g_lmul (cx : Ok w L E own cc maxL n) {x y : Int64} (hd : decode cc pc = .ok (.lmul, 1)) (k : G l w L E M lv (pc + 1) (.long (x * y) :: st)) : G l w L E M lv pc (.long y :: .long x :: st) :=
  fun H locs ls h1 h2 h3 => lv_lmul cx.1 cx.2.1 hd (k H locs ls h1 h2 h3)
theorem g_land (cx : Ok w L E own cc maxL n) {x y : Int64} (hd : decode cc pc = .ok (.land, 1)) (k : G l w L E M lv (pc + 1) (.long (x &&& y) :: st)) : G l w L E M lv pc (.long y :: .long x :: st) :=
  fun H locs ls h1 h2 h3 => lv_land cx.1 cx.2.1 hd (k H locs ls h1 h2 h3)
theorem g_lshr (cx : Ok w L E own cc maxL n) {x : Int64} {y : Int32} (hd : decode cc pc = .ok (.lshr, 1)) (k : G l w L E M lv (pc + 1) (.long (x >>> (y.toInt64 &&& 63)) :: st)) : G l w L E M lv pc (.int y :: .long x :: st) :=
  fun H locs ls h1 h2 h3 => lv_lshr cx.1 cx.2.1 hd rfl (k H locs ls h1 h2 h3)
theorem g_i2l (cx : Ok w L E own cc maxL n) {x : Int32} (hd : decode cc pc = .ok (.i2l, 1)) (k : G l w L E M lv (pc + 1) (.long x.toInt64 :: st)) : G l w L E M lv pc (.int x :: st) :=
  fun H locs ls h1 h2 h3 => lv_i2l cx.1 cx.2.1 hd rfl (k H locs ls h1 h2 h3)
theorem g_l2i (cx : Ok w L E own cc maxL n) {x : Int64} (hd : decode cc pc = .ok (.l2i, 1)) (k : G l w L E M lv (pc + 1) (.int x.toInt32 :: st)) : G l w L E M lv pc (.long x :: st) :=
  fun H locs ls h1 h2 h3 => lv_l2i cx.1 cx.2.1 hd rfl (k H locs ls h1 h2 h3)
theorem g_lcmp (cx : Ok w L E own cc maxL n) {x y : Int64} (hd : decode cc pc = .ok (.lcmp, 1)) (k : G l w L E M lv (pc + 1) (.int (jcmp x y) :: st)) : G l w L E M lv pc (.long y :: .long x :: st) :=
  fun H locs ls h1 h2 h3 => W.lcmp cx.1 cx.2.1 hd (k H locs ls h1 h2 h3)
/-- a remainder by a number that is not written -/
theorem g_jremK (cx : Ok w L E own cc maxL n) {x y : Int32} {A : OR} {R0 : Int32 × Mm} (hd : decode cc pc = .ok (.irem, 1)) (hf : dvk y A = some R0) (k : A = some R0 → G l w L E M lv (pc + 1) (.int (jrem x y) :: st)) : G l w L E M lv pc (.int y :: .int x :: st) := by
  unfold dvk at hf
  split at hf
  · cases hf
  · rename_i hy
    exact g_irem cx hd hy (k hf)
/-! methods that answer a long -/
def QJ (w : Wp) (L : Ly) (R0 : Int64 × Mm) : Array Value → State → Outcome → State → Prop := fun _ st oc t =>
  oc = .returned (some (.long R0.1)) ∧ HM w L R0.2 t.heap ∧ va_F (dm L) st t
def EnJ (w : Wp) (L : Ly) (E : Cx) (R0 : Int64 × Mm) : Prop :=
  xQ E = MQ (xB E) (QJ w L R0) (xA E) (xS E) (xN E) (xT E) (dm L) ∧ xF E = dm L ∧ (xY E).sig.returnType = some .long ∧ (xY E).locks = false
def CJ (l : Launch) (w : Wp) (L : Ly) (y : MethodName) (cc : ByteArray) (maxL : Nat) (n : Nat) (av : List Value) (M : Mm) (R0 : Int64 × Mm) : Prop :=
  Met l y (Cond.code y cc maxL (some .long) :: TB) (rmL n) (va_Pc av (fun U => HM w L M U.heap ∧ KK w U)) (QJ w L R0) 0 0 (dm L)
theorem g_lret (cx : Ok w L E own cc maxL n) {R0 : Int64 × Mm} (en : EnJ w L E R0) {x : Int64} (hd : decode cc pc = .ok (.lreturn, 1)) (hf : some (x, M) = some R0) : G l w L E M lv pc [.long x] := by
  intro H locs ls h1 h2 h3
  cases hf
  obtain ⟨e1, e2, e3, e4⟩ := en
  rw [e1]
  exact W.lret cx.1 cx.2.1 e3 (fun t ht hW => ⟨rfl, by rw [ht]; exact h1, by rw [e2] at h2; exact h2.F ht⟩) (by rw [← e2]; exact h2.2.2) hd e4
theorem CJ_of {y : MethodName} {av : List Value} {R1 : Int64 × Mm} (hy : plainName y.cls = true) (hl : (lg_sl av).length ≤ maxL)
    (body : ∀ E : Cx, Ok w L E y.cls cc maxL n → EnJ w L E R1 → G l w L E M (lv_args 0 av) 0 []) : CJ l w L y cc maxL n av M R1 := by
  refine Met.ofW (cc := cc) (maxL := maxL) (ret := some .long) hy rfl ?_
  intro p e s m args below meth c s₁ B hml hv
  obtain ⟨rfl, hP, hK⟩ := hv
  have hts := atoms_spec (ws := Cond.code y cc maxL (some .long) :: TB) B.pre
  have hown : s.vm.findClass y.cls = some m.cls := findClass_of_methodNamed B.named
  rw [lg_entry_eq]
  exact body (p, e, rmL n, s, m, av.toArray, below, meth, c, dm L, 0, 0, MQ below (QJ w L R1) av.toArray s 0 0 (dm L))
    ⟨B.exec, B.bytes, hml, hown, fun w hw => hts w (List.mem_cons_of_mem _ hw), hK, fun q h => h, Nat.le_refl _, Nat.le_refl _, Nat.zero_le _, Nat.zero_le _⟩
    ⟨rfl, rfl, B.returns, B.notSynchronized⟩ s.heap [] _ hP va_S.rf (by show lv_has _ c.maxLocals _; rw [hml]; exact lv_entry av hl)
theorem g_backJ {av : List Value} {R1 : Int64 × Mm} {H : Heap} {locs : List Loc} {ls : Array Slot} {stk : List Value} (cx : Ok w L E own cc maxL n) (h2 : va_S (xF E) (xS E).heap H locs) (h3 : lv_has ls (xC E).maxLocals lv)
    (hr : va_Run (xP E) l (xE E) (xR E) (xS E) (xM E) (xA E) (xB E) (xY E) (xC E) H locs (xN E) (xT E) 0 0 (F0 (xM E) pc ls stk) st (QJ w L R1 av.toArray) (dm L))
    (kk : G l w L E R1.2 lv (pc + 3) (.long R1.1 :: st)) : W (xP E) l (xE E) (xR E) (xS E) (xM E) (xA E) (xB E) (xY E) (xC E) H locs (xN E) (xT E) (xQ E) (F0 (xM E) pc ls stk) := by
  intro T hT X
  obtain ⟨v, st₀, t, T', Lw, h0, X', hL, e1, e2, ⟨hv, hb, hz, hk⟩, stp⟩ := hr T hT X
  cases hv
  rw [h0] at hz hk
  have sub := cx.2.2.2.2.2.2.1
  obtain ⟨t2, a1, b1⟩ := kk T'.heap (locs ++ Lw) ls (by rw [e1]; exact hb)
    ⟨Nat.le_trans h2.1 (by rw [e1]; exact hz), fun q h4 h5 => by rw [e1, hk q (Nat.lt_of_lt_of_le h4 h2.1) (fun z => h5 (sub q z))]; exact h2.2.1 q h4 h5, fun q hq => by
      rcases List.mem_append.mp hq with h | h
      · exact h2.2.2 q h
      · exact sub _ (hL q h)⟩ h3 T' rfl X'
  exact ⟨t2, stp t2 a1, b1⟩
theorem g_callSj {index : Nat} {y : MethodName} {c1 : ByteArray} {m1 n1 : Nat} {r : Int64} {M1 : Mm} (As : List Value) (st : List Value) (cx : Ok w L E own cc maxL n) (lk : LkS own index y c1 m1 (some .long) As.length) (hn : n1 + 1 ≤ n)
    (hM : CJ l w L y c1 m1 n1 As M (r, M1)) (hd : decode cc pc = .ok (.invokestatic index, 3)) (hst : (st.map fun v => v.category).sum ≤ 8) (kk : G l w L E M1 lv (pc + 3) (.long r :: st)) : G l w L E M lv pc (As.reverse ++ st) := by
  intro H locs ls h1 h2 h3
  obtain ⟨k1, k2, k4, k5, ⟨k6, k7, k8⟩, k9⟩ := lk
  have hts := cx.2.2.2.2.1
  have hfit := rm_fit cx hn k9
  refine g_backJ cx h2 h3 (va_runS (As := As) (rest := st) (nL := maxL) (n := As.length) ⟨cx.1, cx.2.1, cx.2.2.1, cx.2.2.2.1, hts⟩ hM ⟨⟨rfl, rfl, hfit.1, hfit.2, pay_tb hts k5, List.mem_cons_self, hts _ k5, hts _ k4, ⟨k6, k7⟩, fun sig h => ?_, hts _ k1⟩, hts _ k2⟩ ⟨fb_Pc, fun U hU hW => ⟨rfl, by rw [hU]; exact h1, cx.2.2.2.2.2.1.warm hW⟩⟩ rfl rfl (by rw [← cx.2.2.1]; exact h3.1) rfl (lv_room hst) hd ⟨cx.2.2.2.2.2.2.2.2.2.1, cx.2.2.2.2.2.2.2.2.2.2⟩) kk
  rw [h] at k8
  exact (Option.some.inj k8).symm
theorem g_callSv {index : Nat} {y : MethodName} {c1 : ByteArray} {m1 n1 : Nat} {r : Int32} {M1 : Mm} (As : List Value) (st : List Value) (cx : Ok w L E own cc maxL n) (lk : LkS own index y c1 m1 none As.length) (hn : n1 + 1 ≤ n)
    (hM : CT l w L y c1 m1 none n1 As M (r, M1)) (hd : decode cc pc = .ok (.invokestatic index, 3)) (hst : (st.map fun v => v.category).sum ≤ 8) (kk : G l w L E M1 lv (pc + 3) st) : G l w L E M lv pc (As.reverse ++ st) := g_callS cx lk hn hM hd hst kk
end GJ
end
section
def ksNet (a : Nat) : List (Option Nat) := [none, none, some (a + 1), some (a + 2), some (a + 3), some (a + 4), some (a + 5), some (a + 6)]
def LNet (w : Wp) (L : Ly) (a : Nat) : Prop := L a = some (gO 2 (ksNet a)) ∧ L (a + 1) = some (gI w 10) ∧ L (a + 2) = some (gI w 16) ∧ L (a + 3) = some (gI w 16) ∧ L (a + 4) = some (gZ w 16) ∧ L (a + 5) = some (gI w 10) ∧ L (a + 6) = some (gZ w 10)
theorem LNet_o {w : Wp} {L : Ly} {a : Nat} (h : LNet w L a) : L a = some (gO 2 (ksNet a)) := h.1
theorem LNet_feeder {w : Wp} {L : Ly} {a : Nat} (h : LNet w L a) : L (a + 1) = some (gI w 10) := h.2.1
theorem LNet_one {w : Wp} {L : Ly} {a : Nat} (h : LNet w L a) : L (a + 2) = some (gI w 16) := h.2.2.1
theorem LNet_other {w : Wp} {L : Ly} {a : Nat} (h : LNet w L a) : L (a + 3) = some (gI w 16) := h.2.2.2.1
theorem LNet_closed {w : Wp} {L : Ly} {a : Nat} (h : LNet w L a) : L (a + 4) = some (gZ w 16) := h.2.2.2.2.1
theorem LNet_lowest {w : Wp} {L : Ly} {a : Nat} (h : LNet w L a) : L (a + 5) = some (gI w 10) := h.2.2.2.2.2.1
theorem LNet_live {w : Wp} {L : Ly} {a : Nat} (h : LNet w L a) : L (a + 6) = some (gZ w 10) := h.2.2.2.2.2.2
def ksService (a : Nat) : List (Option Nat) := [none, none, none, some (a + 1), some (a + 2), some (a + 3), some (a + 4), some (a + 5), some (a + 6), some (a + 7)]
def LService (w : Wp) (L : Ly) (a : Nat) : Prop := L a = some (gO 5 (ksService a)) ∧ L (a + 1) = some (gI w 10) ∧ L (a + 2) = some (gZ w 10) ∧ L (a + 3) = some (gZ w 10) ∧ L (a + 4) = some (gZ w 10) ∧ L (a + 5) = some (gI w 10) ∧ L (a + 6) = some (gI w 10) ∧ L (a + 7) = some (gI w 10)
theorem LService_o {w : Wp} {L : Ly} {a : Nat} (h : LService w L a) : L a = some (gO 5 (ksService a)) := h.1
theorem LService_needed {w : Wp} {L : Ly} {a : Nat} (h : LService w L a) : L (a + 1) = some (gI w 10) := h.2.1
theorem LService_bridged {w : Wp} {L : Ly} {a : Nat} (h : LService w L a) : L (a + 2) = some (gZ w 10) := h.2.2.1
theorem LService_earthed {w : Wp} {L : Ly} {a : Nat} (h : LService w L a) : L (a + 3) = some (gZ w 10) := h.2.2.2.1
theorem LService_gang {w : Wp} {L : Ly} {a : Nat} (h : LService w L a) : L (a + 4) = some (gZ w 10) := h.2.2.2.2.1
theorem LService_brought {w : Wp} {L : Ly} {a : Nat} (h : LService w L a) : L (a + 5) = some (gI w 10) := h.2.2.2.2.2.1
theorem LService_until {w : Wp} {L : Ly} {a : Nat} (h : LService w L a) : L (a + 6) = some (gI w 10) := h.2.2.2.2.2.2.1
theorem LService_tools {w : Wp} {L : Ly} {a : Nat} (h : LService w L a) : L (a + 7) = some (gI w 10) := h.2.2.2.2.2.2.2
def ksLog (a : Nat) : List (Option Nat) := [none, none, some (a + 1), some (a + 2), some (a + 3), some (a + 4), some (a + 5), some (a + 6), some (a + 7)]
def LLog (w : Wp) (L : Ly) (a : Nat) : Prop := L a = some (gO 1 (ksLog a)) ∧ L (a + 1) = some (gI w 24) ∧ L (a + 2) = some (gI w 24) ∧ L (a + 3) = some (gI w 24) ∧ L (a + 4) = some (gI w 10) ∧ L (a + 5) = some (gZ w 16) ∧ L (a + 6) = some (gI w 10) ∧ L (a + 7) = some (gZ w 16)
theorem LLog_o {w : Wp} {L : Ly} {a : Nat} (h : LLog w L a) : L a = some (gO 1 (ksLog a)) := h.1
theorem LLog_kinds {w : Wp} {L : Ly} {a : Nat} (h : LLog w L a) : L (a + 1) = some (gI w 24) := h.2.1
theorem LLog_places {w : Wp} {L : Ly} {a : Nat} (h : LLog w L a) : L (a + 2) = some (gI w 24) := h.2.2.1
theorem LLog_times {w : Wp} {L : Ly} {a : Nat} (h : LLog w L a) : L (a + 3) = some (gI w 24) := h.2.2.2.1
theorem LLog_feederAhead {w : Wp} {L : Ly} {a : Nat} (h : LLog w L a) : L (a + 4) = some (gI w 10) := h.2.2.2.2.1
theorem LLog_closedAhead {w : Wp} {L : Ly} {a : Nat} (h : LLog w L a) : L (a + 5) = some (gZ w 16) := h.2.2.2.2.2.1
theorem LLog_feederTold {w : Wp} {L : Ly} {a : Nat} (h : LLog w L a) : L (a + 6) = some (gI w 10) := h.2.2.2.2.2.2.1
theorem LLog_closedTold {w : Wp} {L : Ly} {a : Nat} (h : LLog w L a) : L (a + 7) = some (gZ w 16) := h.2.2.2.2.2.2.2
def ksWires (a : Nat) : List (Option Nat) := [some (a + 1), some (a + 8), some (a + 16), some (a + 24), some (a + 31)]
def LWires (w : Wp) (L : Ly) (a : Nat) : Prop := L a = some (gO 7 (ksWires a)) ∧ LNet w L (a + 1) ∧ LService w L (a + 8) ∧ LLog w L (a + 16) ∧ LNet w L (a + 24) ∧ L (a + 31) = some (gZ w 10)
theorem LWires_o {w : Wp} {L : Ly} {a : Nat} (h : LWires w L a) : L a = some (gO 7 (ksWires a)) := h.1
theorem LWires_net {w : Wp} {L : Ly} {a : Nat} (h : LWires w L a) : LNet w L (a + 1) := h.2.1
theorem LWires_service {w : Wp} {L : Ly} {a : Nat} (h : LWires w L a) : LService w L (a + 8) := h.2.2.1
theorem LWires_log {w : Wp} {L : Ly} {a : Nat} (h : LWires w L a) : LLog w L (a + 16) := h.2.2.2.1
theorem LWires_supposed {w : Wp} {L : Ly} {a : Nat} (h : LWires w L a) : LNet w L (a + 24) := h.2.2.2.2.1
theorem LWires_reached {w : Wp} {L : Ly} {a : Nat} (h : LWires w L a) : L (a + 31) = some (gZ w 10) := h.2.2.2.2.2
def ksHistory (a : Nat) : List (Option Nat) := [none, some (a + 1)]
def LHistory (w : Wp) (L : Ly) (a : Nat) : Prop := L a = some (gO 0 (ksHistory a)) ∧ L (a + 1) = some (gR w 5) ∧ w.2.2.2.2 = a + 2 ∧ ∀ j : Nat, j < 5 → LWires w L (a + 2 + 32 * j)
theorem LHistory_o {w : Wp} {L : Ly} {a : Nat} (h : LHistory w L a) : L a = some (gO 0 (ksHistory a)) := h.1
theorem LHistory_states {w : Wp} {L : Ly} {a : Nat} (h : LHistory w L a) : L (a + 1) = some (gR w 5) := h.2.1
theorem LHistory_b {w : Wp} {L : Ly} {a : Nat} (h : LHistory w L a) : w.2.2.2.2 = a + 2 := h.2.2.1
theorem LHistory_w {w : Wp} {L : Ly} {a : Nat} (h : LHistory w L a) : ∀ j : Nat, j < 5 → LWires w L (a + 2 + 32 * j) := h.2.2.2
def ksText (a : Nat) : List (Option Nat) := [none, some (a + 1), none, none, none]
def LText (w : Wp) (L : Ly) (a : Nat) : Prop := L a = some (gO 6 (ksText a)) ∧ L (a + 1) = some (gI w 60)
theorem LText_o {w : Wp} {L : Ly} {a : Nat} (h : LText w L a) : L a = some (gO 6 (ksText a)) := h.1
theorem LText_characters {w : Wp} {L : Ly} {a : Nat} (h : LText w L a) : L (a + 1) = some (gI w 60) := h.2
def ksPlan (a : Nat) : List (Option Nat) := [none, some (a + 1), some (a + 2)]
def LPlan (w : Wp) (L : Ly) (a : Nat) : Prop := L a = some (gO 3 (ksPlan a)) ∧ L (a + 1) = some (gI w 19) ∧ L (a + 2) = some (gI w 19)
theorem LPlan_o {w : Wp} {L : Ly} {a : Nat} (h : LPlan w L a) : L a = some (gO 3 (ksPlan a)) := h.1
theorem LPlan_kinds {w : Wp} {L : Ly} {a : Nat} (h : LPlan w L a) : L (a + 1) = some (gI w 19) := h.2.1
theorem LPlan_places {w : Wp} {L : Ly} {a : Nat} (h : LPlan w L a) : L (a + 2) = some (gI w 19) := h.2.2
def ksRehearsal (a : Nat) : List (Option Nat) := [some (a + 1), none, none, none]
def LRehearsal (w : Wp) (L : Ly) (a : Nat) : Prop := L a = some (gO 4 (ksRehearsal a)) ∧ LWires w L (a + 1)
theorem LRehearsal_o {w : Wp} {L : Ly} {a : Nat} (h : LRehearsal w L a) : L a = some (gO 4 (ksRehearsal a)) := h.1
theorem LRehearsal_wires {w : Wp} {L : Ly} {a : Nat} (h : LRehearsal w L a) : LWires w L (a + 1) := h.2
def ksTramWires (a : Nat) : List (Option Nat) := [some (a + 1), some (a + 33), some (a + 195), some (a + 197), some (a + 200)]
def LTramWires (w : Wp) (L : Ly) (a : Nat) : Prop := L a = some (gO 8 (ksTramWires a)) ∧ LWires w L (a + 1) ∧ LHistory w L (a + 33) ∧ LText w L (a + 195) ∧ LPlan w L (a + 197) ∧ LRehearsal w L (a + 200)
theorem LTramWires_o {w : Wp} {L : Ly} {a : Nat} (h : LTramWires w L a) : L a = some (gO 8 (ksTramWires a)) := h.1
theorem LTramWires_now {w : Wp} {L : Ly} {a : Nat} (h : LTramWires w L a) : LWires w L (a + 1) := h.2.1
theorem LTramWires_history {w : Wp} {L : Ly} {a : Nat} (h : LTramWires w L a) : LHistory w L (a + 33) := h.2.2.1
theorem LTramWires_text {w : Wp} {L : Ly} {a : Nat} (h : LTramWires w L a) : LText w L (a + 195) := h.2.2.2.1
theorem LTramWires_outPlan {w : Wp} {L : Ly} {a : Nat} (h : LTramWires w L a) : LPlan w L (a + 197) := h.2.2.2.2.1
theorem LTramWires_rehearsal {w : Wp} {L : Ly} {a : Nat} (h : LTramWires w L a) : LRehearsal w L (a + 200) := h.2.2.2.2.2
end
section
theorem pn_L : plainName RL = true := by decide +kernel
set_option maxRecDepth 100000 in
theorem ini_L : Cond.initialized RL ∈ TB := tb_m (List.mem_of_getElem? (i := 25) (by decide +kernel)) rfl
theorem pn_X0 : plainName RX0 = true := by decide +kernel
set_option maxRecDepth 100000 in
theorem in_X0 : ∀ q ∈ u_ws RX0 TX0 2, q ∈ TB := by
  intro q hq
  obtain ⟨k, hk, rfl⟩ := List.mem_map.mp hq
  have hk := List.mem_range.mp hk
  match k, hk with
  | 0, _ => exact tb_m (List.mem_of_getElem? (i := 232) (by decide +kernel)) rfl
  | 1, _ => exact tb_m (List.mem_of_getElem? (i := 234) (by decide +kernel)) rfl
  | k + 2, h => omega
set_option maxRecDepth 100000 in
theorem ini_X0 : Cond.initialized RX0 ∈ TB := tb_m (List.mem_of_getElem? (i := 31) (by decide +kernel)) rfl
set_option maxRecDepth 100000 in
theorem ins_X0 : Cond.instantiable RX0 2 ∈ TB := tb_m (List.mem_of_getElem? (i := 221) (by decide +kernel)) rfl
theorem pn_X1 : plainName RX1 = true := by decide +kernel
set_option maxRecDepth 100000 in
theorem in_X1 : ∀ q ∈ u_ws RX1 TX1 9, q ∈ TB := by
  intro q hq
  obtain ⟨k, hk, rfl⟩ := List.mem_map.mp hq
  have hk := List.mem_range.mp hk
  match k, hk with
  | 0, _ => exact tb_m (List.mem_of_getElem? (i := 180) (by decide +kernel)) rfl
  | 1, _ => exact tb_m (List.mem_of_getElem? (i := 182) (by decide +kernel)) rfl
  | 2, _ => exact tb_m (List.mem_of_getElem? (i := 184) (by decide +kernel)) rfl
  | 3, _ => exact tb_m (List.mem_of_getElem? (i := 186) (by decide +kernel)) rfl
  | 4, _ => exact tb_m (List.mem_of_getElem? (i := 188) (by decide +kernel)) rfl
  | 5, _ => exact tb_m (List.mem_of_getElem? (i := 190) (by decide +kernel)) rfl
  | 6, _ => exact tb_m (List.mem_of_getElem? (i := 192) (by decide +kernel)) rfl
  | 7, _ => exact tb_m (List.mem_of_getElem? (i := 194) (by decide +kernel)) rfl
  | 8, _ => exact tb_m (List.mem_of_getElem? (i := 196) (by decide +kernel)) rfl
  | k + 9, h => omega
set_option maxRecDepth 100000 in
theorem ini_X1 : Cond.initialized RX1 ∈ TB := tb_m (List.mem_of_getElem? (i := 30) (by decide +kernel)) rfl
set_option maxRecDepth 100000 in
theorem ins_X1 : Cond.instantiable RX1 9 ∈ TB := tb_m (List.mem_of_getElem? (i := 157) (by decide +kernel)) rfl
theorem pn_X2 : plainName RX2 = true := by decide +kernel
set_option maxRecDepth 100000 in
theorem in_X2 : ∀ q ∈ u_ws RX2 TX2 8, q ∈ TB := by
  intro q hq
  obtain ⟨k, hk, rfl⟩ := List.mem_map.mp hq
  have hk := List.mem_range.mp hk
  match k, hk with
  | 0, _ => exact tb_m (List.mem_of_getElem? (i := 82) (by decide +kernel)) rfl
  | 1, _ => exact tb_m (List.mem_of_getElem? (i := 84) (by decide +kernel)) rfl
  | 2, _ => exact tb_m (List.mem_of_getElem? (i := 86) (by decide +kernel)) rfl
  | 3, _ => exact tb_m (List.mem_of_getElem? (i := 88) (by decide +kernel)) rfl
  | 4, _ => exact tb_m (List.mem_of_getElem? (i := 90) (by decide +kernel)) rfl
  | 5, _ => exact tb_m (List.mem_of_getElem? (i := 92) (by decide +kernel)) rfl
  | 6, _ => exact tb_m (List.mem_of_getElem? (i := 94) (by decide +kernel)) rfl
  | 7, _ => exact tb_m (List.mem_of_getElem? (i := 96) (by decide +kernel)) rfl
  | k + 8, h => omega
set_option maxRecDepth 100000 in
theorem ini_X2 : Cond.initialized RX2 ∈ TB := tb_m (List.mem_of_getElem? (i := 28) (by decide +kernel)) rfl
set_option maxRecDepth 100000 in
theorem ins_X2 : Cond.instantiable RX2 8 ∈ TB := tb_m (List.mem_of_getElem? (i := 52) (by decide +kernel)) rfl
theorem pn_X3 : plainName RX3 = true := by decide +kernel
set_option maxRecDepth 100000 in
theorem in_X3 : ∀ q ∈ u_ws RX3 TX3 3, q ∈ TB := by
  intro q hq
  obtain ⟨k, hk, rfl⟩ := List.mem_map.mp hq
  have hk := List.mem_range.mp hk
  match k, hk with
  | 0, _ => exact tb_m (List.mem_of_getElem? (i := 280) (by decide +kernel)) rfl
  | 1, _ => exact tb_m (List.mem_of_getElem? (i := 282) (by decide +kernel)) rfl
  | 2, _ => exact tb_m (List.mem_of_getElem? (i := 284) (by decide +kernel)) rfl
  | k + 3, h => omega
set_option maxRecDepth 100000 in
theorem ini_X3 : Cond.initialized RX3 ∈ TB := tb_m (List.mem_of_getElem? (i := 33) (by decide +kernel)) rfl
set_option maxRecDepth 100000 in
theorem ins_X3 : Cond.instantiable RX3 3 ∈ TB := tb_m (List.mem_of_getElem? (i := 266) (by decide +kernel)) rfl
theorem pn_X4 : plainName RX4 = true := by decide +kernel
set_option maxRecDepth 100000 in
theorem in_X4 : ∀ q ∈ u_ws RX4 TX4 4, q ∈ TB := by
  intro q hq
  obtain ⟨k, hk, rfl⟩ := List.mem_map.mp hq
  have hk := List.mem_range.mp hk
  match k, hk with
  | 0, _ => exact tb_m (List.mem_of_getElem? (i := 303) (by decide +kernel)) rfl
  | 1, _ => exact tb_m (List.mem_of_getElem? (i := 305) (by decide +kernel)) rfl
  | 2, _ => exact tb_m (List.mem_of_getElem? (i := 307) (by decide +kernel)) rfl
  | 3, _ => exact tb_m (List.mem_of_getElem? (i := 309) (by decide +kernel)) rfl
  | k + 4, h => omega
set_option maxRecDepth 100000 in
theorem ini_X4 : Cond.initialized RX4 ∈ TB := tb_m (List.mem_of_getElem? (i := 34) (by decide +kernel)) rfl
set_option maxRecDepth 100000 in
theorem ins_X4 : Cond.instantiable RX4 4 ∈ TB := tb_m (List.mem_of_getElem? (i := 288) (by decide +kernel)) rfl
theorem pn_X5 : plainName RX5 = true := by decide +kernel
set_option maxRecDepth 100000 in
theorem in_X5 : ∀ q ∈ u_ws RX5 TX5 10, q ∈ TB := by
  intro q hq
  obtain ⟨k, hk, rfl⟩ := List.mem_map.mp hq
  have hk := List.mem_range.mp hk
  match k, hk with
  | 0, _ => exact tb_m (List.mem_of_getElem? (i := 135) (by decide +kernel)) rfl
  | 1, _ => exact tb_m (List.mem_of_getElem? (i := 137) (by decide +kernel)) rfl
  | 2, _ => exact tb_m (List.mem_of_getElem? (i := 139) (by decide +kernel)) rfl
  | 3, _ => exact tb_m (List.mem_of_getElem? (i := 141) (by decide +kernel)) rfl
  | 4, _ => exact tb_m (List.mem_of_getElem? (i := 143) (by decide +kernel)) rfl
  | 5, _ => exact tb_m (List.mem_of_getElem? (i := 145) (by decide +kernel)) rfl
  | 6, _ => exact tb_m (List.mem_of_getElem? (i := 147) (by decide +kernel)) rfl
  | 7, _ => exact tb_m (List.mem_of_getElem? (i := 149) (by decide +kernel)) rfl
  | 8, _ => exact tb_m (List.mem_of_getElem? (i := 151) (by decide +kernel)) rfl
  | 9, _ => exact tb_m (List.mem_of_getElem? (i := 153) (by decide +kernel)) rfl
  | k + 10, h => omega
set_option maxRecDepth 100000 in
theorem ini_X5 : Cond.initialized RX5 ∈ TB := tb_m (List.mem_of_getElem? (i := 29) (by decide +kernel)) rfl
set_option maxRecDepth 100000 in
theorem ins_X5 : Cond.instantiable RX5 10 ∈ TB := tb_m (List.mem_of_getElem? (i := 102) (by decide +kernel)) rfl
theorem pn_X6 : plainName RX6 = true := by decide +kernel
set_option maxRecDepth 100000 in
theorem in_X6 : ∀ q ∈ u_ws RX6 TX6 5, q ∈ TB := by
  intro q hq
  obtain ⟨k, hk, rfl⟩ := List.mem_map.mp hq
  have hk := List.mem_range.mp hk
  match k, hk with
  | 0, _ => exact tb_m (List.mem_of_getElem? (i := 254) (by decide +kernel)) rfl
  | 1, _ => exact tb_m (List.mem_of_getElem? (i := 256) (by decide +kernel)) rfl
  | 2, _ => exact tb_m (List.mem_of_getElem? (i := 258) (by decide +kernel)) rfl
  | 3, _ => exact tb_m (List.mem_of_getElem? (i := 260) (by decide +kernel)) rfl
  | 4, _ => exact tb_m (List.mem_of_getElem? (i := 262) (by decide +kernel)) rfl
  | k + 5, h => omega
set_option maxRecDepth 100000 in
theorem ini_X6 : Cond.initialized RX6 ∈ TB := tb_m (List.mem_of_getElem? (i := 32) (by decide +kernel)) rfl
set_option maxRecDepth 100000 in
theorem ins_X6 : Cond.instantiable RX6 5 ∈ TB := tb_m (List.mem_of_getElem? (i := 238) (by decide +kernel)) rfl
theorem pn_X7 : plainName RX7 = true := by decide +kernel
set_option maxRecDepth 100000 in
theorem in_X7 : ∀ q ∈ u_ws RX7 TX7 5, q ∈ TB := by
  intro q hq
  obtain ⟨k, hk, rfl⟩ := List.mem_map.mp hq
  have hk := List.mem_range.mp hk
  match k, hk with
  | 0, _ => exact tb_m (List.mem_of_getElem? (i := 209) (by decide +kernel)) rfl
  | 1, _ => exact tb_m (List.mem_of_getElem? (i := 211) (by decide +kernel)) rfl
  | 2, _ => exact tb_m (List.mem_of_getElem? (i := 213) (by decide +kernel)) rfl
  | 3, _ => exact tb_m (List.mem_of_getElem? (i := 215) (by decide +kernel)) rfl
  | 4, _ => exact tb_m (List.mem_of_getElem? (i := 217) (by decide +kernel)) rfl
  | k + 5, h => omega
set_option maxRecDepth 100000 in
theorem ini_X7 : Cond.initialized RX7 ∈ TB := tb_m (List.mem_of_getElem? (i := 27) (by decide +kernel)) rfl
set_option maxRecDepth 100000 in
theorem ins_X7 : Cond.instantiable RX7 5 ∈ TB := tb_m (List.mem_of_getElem? (i := 46) (by decide +kernel)) rfl
theorem pn_X8 : plainName RX8 = true := by decide +kernel
set_option maxRecDepth 100000 in
theorem in_X8 : ∀ q ∈ u_ws RX8 TX8 5, q ∈ TB := by
  intro q hq
  obtain ⟨k, hk, rfl⟩ := List.mem_map.mp hq
  have hk := List.mem_range.mp hk
  match k, hk with
  | 0, _ => exact tb_m (List.mem_of_getElem? (i := 317) (by decide +kernel)) rfl
  | 1, _ => exact tb_m (List.mem_of_getElem? (i := 319) (by decide +kernel)) rfl
  | 2, _ => exact tb_m (List.mem_of_getElem? (i := 321) (by decide +kernel)) rfl
  | 3, _ => exact tb_m (List.mem_of_getElem? (i := 323) (by decide +kernel)) rfl
  | 4, _ => exact tb_m (List.mem_of_getElem? (i := 325) (by decide +kernel)) rfl
  | k + 5, h => omega
set_option maxRecDepth 100000 in
theorem ini_X8 : Cond.initialized RX8 ∈ TB := tb_m (List.mem_of_getElem? (i := 26) (by decide +kernel)) rfl
set_option maxRecDepth 100000 in
theorem ins_X8 : Cond.instantiable RX8 5 ∈ TB := tb_m (List.mem_of_getElem? (i := 38) (by decide +kernel)) rfl
set_option maxRecDepth 100000 in
theorem tc_X8_init : Cond.code yX8_init cX8_init 1 none ∈ TB := tb_m (List.mem_of_getElem? (i := 41) (by decide +kernel)) rfl
set_option maxRecDepth 100000 in
theorem ti_X8_init : Cond.instanceMethod yX8_init ∈ TB := tb_m (List.mem_of_getElem? (i := 40) (by decide +kernel)) rfl
set_option maxRecDepth 100000 in
theorem tp_X8_init : yX8_init.cls ≠ "java/lang/invoke/MethodHandle" ∧ yX8_init.cls ≠ "java/lang/invoke/VarHandle" ∧ (parseMethodDescriptor yX8_init.desc).map (fun d => d.parameters.length) = some 0 := by decide +kernel
set_option maxRecDepth 100000 in
theorem tc_X8_asNumber : Cond.code yX8_asNumber cX8_asNumber 1 (some .int) ∈ TB := tb_m (List.mem_of_getElem? (i := 589) (by decide +kernel)) rfl
set_option maxRecDepth 100000 in
theorem ts_X8_asNumber : Cond.static yX8_asNumber ∈ TB := tb_m (List.mem_of_getElem? (i := 588) (by decide +kernel)) rfl
set_option maxRecDepth 100000 in
theorem tp_X8_asNumber : yX8_asNumber.cls ≠ "java/lang/invoke/MethodHandle" ∧ yX8_asNumber.cls ≠ "java/lang/invoke/VarHandle" ∧ (parseMethodDescriptor yX8_asNumber.desc).map (fun d => d.parameters.length) = some 1 := by decide +kernel
set_option maxRecDepth 100000 in
theorem tc_X8_canPlan : Cond.code yX8_canPlan cX8_canPlan 2 (some .int) ∈ TB := tb_m (List.mem_of_getElem? (i := 658) (by decide +kernel)) rfl
set_option maxRecDepth 100000 in
theorem ti_X8_canPlan : Cond.instanceMethod yX8_canPlan ∈ TB := tb_m (List.mem_of_getElem? (i := 656) (by decide +kernel)) rfl
set_option maxRecDepth 100000 in
theorem te_X8_canPlan : Cond.selects RX8 yX8_canPlan yX8_canPlan ∈ TB := tb_m (List.mem_of_getElem? (i := 657) (by decide +kernel)) rfl
set_option maxRecDepth 100000 in
theorem tp_X8_canPlan : yX8_canPlan.cls ≠ "java/lang/invoke/MethodHandle" ∧ yX8_canPlan.cls ≠ "java/lang/invoke/VarHandle" ∧ (parseMethodDescriptor yX8_canPlan.desc).map (fun d => d.parameters.length) = some 1 := by decide +kernel
set_option maxRecDepth 100000 in
theorem tc_X8_clearText : Cond.code yX8_clearText cX8_clearText 2 (some .int) ∈ TB := tb_m (List.mem_of_getElem? (i := 722) (by decide +kernel)) rfl
set_option maxRecDepth 100000 in
theorem ti_X8_clearText : Cond.instanceMethod yX8_clearText ∈ TB := tb_m (List.mem_of_getElem? (i := 720) (by decide +kernel)) rfl
set_option maxRecDepth 100000 in
theorem te_X8_clearText : Cond.selects RX8 yX8_clearText yX8_clearText ∈ TB := tb_m (List.mem_of_getElem? (i := 721) (by decide +kernel)) rfl
set_option maxRecDepth 100000 in
theorem tp_X8_clearText : yX8_clearText.cls ≠ "java/lang/invoke/MethodHandle" ∧ yX8_clearText.cls ≠ "java/lang/invoke/VarHandle" ∧ (parseMethodDescriptor yX8_clearText.desc).map (fun d => d.parameters.length) = some 0 := by decide +kernel
set_option maxRecDepth 100000 in
theorem tc_X8_count : Cond.code yX8_count cX8_count 3 (some .int) ∈ TB := tb_m (List.mem_of_getElem? (i := 421) (by decide +kernel)) rfl
set_option maxRecDepth 100000 in
theorem ti_X8_count : Cond.instanceMethod yX8_count ∈ TB := tb_m (List.mem_of_getElem? (i := 419) (by decide +kernel)) rfl
set_option maxRecDepth 100000 in
theorem te_X8_count : Cond.selects RX8 yX8_count yX8_count ∈ TB := tb_m (List.mem_of_getElem? (i := 420) (by decide +kernel)) rfl
set_option maxRecDepth 100000 in
theorem tp_X8_count : yX8_count.cls ≠ "java/lang/invoke/MethodHandle" ∧ yX8_count.cls ≠ "java/lang/invoke/VarHandle" ∧ (parseMethodDescriptor yX8_count.desc).map (fun d => d.parameters.length) = some 1 := by decide +kernel
set_option maxRecDepth 100000 in
theorem tc_X8_countTrue : Cond.code yX8_countTrue cX8_countTrue 3 (some .int) ∈ TB := tb_m (List.mem_of_getElem? (i := 424) (by decide +kernel)) rfl
set_option maxRecDepth 100000 in
theorem ts_X8_countTrue : Cond.static yX8_countTrue ∈ TB := tb_m (List.mem_of_getElem? (i := 423) (by decide +kernel)) rfl
set_option maxRecDepth 100000 in
theorem tp_X8_countTrue : yX8_countTrue.cls ≠ "java/lang/invoke/MethodHandle" ∧ yX8_countTrue.cls ≠ "java/lang/invoke/VarHandle" ∧ (parseMethodDescriptor yX8_countTrue.desc).map (fun d => d.parameters.length) = some 1 := by decide +kernel
set_option maxRecDepth 100000 in
theorem tc_X8_enter : Cond.code yX8_enter cX8_enter 4 (some .int) ∈ TB := tb_m (List.mem_of_getElem? (i := 542) (by decide +kernel)) rfl
set_option maxRecDepth 100000 in
theorem ti_X8_enter : Cond.instanceMethod yX8_enter ∈ TB := tb_m (List.mem_of_getElem? (i := 540) (by decide +kernel)) rfl
set_option maxRecDepth 100000 in
theorem te_X8_enter : Cond.selects RX8 yX8_enter yX8_enter ∈ TB := tb_m (List.mem_of_getElem? (i := 541) (by decide +kernel)) rfl
set_option maxRecDepth 100000 in
theorem tp_X8_enter : yX8_enter.cls ≠ "java/lang/invoke/MethodHandle" ∧ yX8_enter.cls ≠ "java/lang/invoke/VarHandle" ∧ (parseMethodDescriptor yX8_enter.desc).map (fun d => d.parameters.length) = some 3 := by decide +kernel
set_option maxRecDepth 100000 in
theorem tc_X8_fault : Cond.code yX8_fault cX8_fault 2 (some .int) ∈ TB := tb_m (List.mem_of_getElem? (i := 681) (by decide +kernel)) rfl
set_option maxRecDepth 100000 in
theorem ti_X8_fault : Cond.instanceMethod yX8_fault ∈ TB := tb_m (List.mem_of_getElem? (i := 679) (by decide +kernel)) rfl
set_option maxRecDepth 100000 in
theorem te_X8_fault : Cond.selects RX8 yX8_fault yX8_fault ∈ TB := tb_m (List.mem_of_getElem? (i := 680) (by decide +kernel)) rfl
set_option maxRecDepth 100000 in
theorem tp_X8_fault : yX8_fault.cls ≠ "java/lang/invoke/MethodHandle" ∧ yX8_fault.cls ≠ "java/lang/invoke/VarHandle" ∧ (parseMethodDescriptor yX8_fault.desc).map (fun d => d.parameters.length) = some 1 := by decide +kernel
set_option maxRecDepth 100000 in
theorem tc_X8_fetch : Cond.code yX8_fetch cX8_fetch 3 (some .int) ∈ TB := tb_m (List.mem_of_getElem? (i := 562) (by decide +kernel)) rfl
set_option maxRecDepth 100000 in
theorem ti_X8_fetch : Cond.instanceMethod yX8_fetch ∈ TB := tb_m (List.mem_of_getElem? (i := 560) (by decide +kernel)) rfl
set_option maxRecDepth 100000 in
theorem te_X8_fetch : Cond.selects RX8 yX8_fetch yX8_fetch ∈ TB := tb_m (List.mem_of_getElem? (i := 561) (by decide +kernel)) rfl
set_option maxRecDepth 100000 in
theorem tp_X8_fetch : yX8_fetch.cls ≠ "java/lang/invoke/MethodHandle" ∧ yX8_fetch.cls ≠ "java/lang/invoke/VarHandle" ∧ (parseMethodDescriptor yX8_fetch.desc).map (fun d => d.parameters.length) = some 1 := by decide +kernel
set_option maxRecDepth 100000 in
theorem tc_X8_isOutside : Cond.code yX8_isOutside cX8_isOutside 3 (some .boolean) ∈ TB := tb_m (List.mem_of_getElem? (i := 334) (by decide +kernel)) rfl
set_option maxRecDepth 100000 in
theorem ts_X8_isOutside : Cond.static yX8_isOutside ∈ TB := tb_m (List.mem_of_getElem? (i := 333) (by decide +kernel)) rfl
set_option maxRecDepth 100000 in
theorem tp_X8_isOutside : yX8_isOutside.cls ≠ "java/lang/invoke/MethodHandle" ∧ yX8_isOutside.cls ≠ "java/lang/invoke/VarHandle" ∧ (parseMethodDescriptor yX8_isOutside.desc).map (fun d => d.parameters.length) = some 3 := by decide +kernel
set_option maxRecDepth 100000 in
theorem tc_X8_isolator : Cond.code yX8_isolator cX8_isolator 3 (some .int) ∈ TB := tb_m (List.mem_of_getElem? (i := 379) (by decide +kernel)) rfl
set_option maxRecDepth 100000 in
theorem ti_X8_isolator : Cond.instanceMethod yX8_isolator ∈ TB := tb_m (List.mem_of_getElem? (i := 377) (by decide +kernel)) rfl
set_option maxRecDepth 100000 in
theorem te_X8_isolator : Cond.selects RX8 yX8_isolator yX8_isolator ∈ TB := tb_m (List.mem_of_getElem? (i := 378) (by decide +kernel)) rfl
set_option maxRecDepth 100000 in
theorem tp_X8_isolator : yX8_isolator.cls ≠ "java/lang/invoke/MethodHandle" ∧ yX8_isolator.cls ≠ "java/lang/invoke/VarHandle" ∧ (parseMethodDescriptor yX8_isolator.desc).map (fun d => d.parameters.length) = some 2 := by decide +kernel
set_option maxRecDepth 100000 in
theorem tc_X8_isolatorOf : Cond.code yX8_isolatorOf cX8_isolatorOf 4 (some .int) ∈ TB := tb_m (List.mem_of_getElem? (i := 618) (by decide +kernel)) rfl
set_option maxRecDepth 100000 in
theorem ti_X8_isolatorOf : Cond.instanceMethod yX8_isolatorOf ∈ TB := tb_m (List.mem_of_getElem? (i := 616) (by decide +kernel)) rfl
set_option maxRecDepth 100000 in
theorem te_X8_isolatorOf : Cond.selects RX8 yX8_isolatorOf yX8_isolatorOf ∈ TB := tb_m (List.mem_of_getElem? (i := 617) (by decide +kernel)) rfl
set_option maxRecDepth 100000 in
theorem tp_X8_isolatorOf : yX8_isolatorOf.cls ≠ "java/lang/invoke/MethodHandle" ∧ yX8_isolatorOf.cls ≠ "java/lang/invoke/VarHandle" ∧ (parseMethodDescriptor yX8_isolatorOf.desc).map (fun d => d.parameters.length) = some 2 := by decide +kernel
set_option maxRecDepth 100000 in
theorem tc_X8_leave : Cond.code yX8_leave cX8_leave 3 (some .int) ∈ TB := tb_m (List.mem_of_getElem? (i := 551) (by decide +kernel)) rfl
set_option maxRecDepth 100000 in
theorem ti_X8_leave : Cond.instanceMethod yX8_leave ∈ TB := tb_m (List.mem_of_getElem? (i := 549) (by decide +kernel)) rfl
set_option maxRecDepth 100000 in
theorem te_X8_leave : Cond.selects RX8 yX8_leave yX8_leave ∈ TB := tb_m (List.mem_of_getElem? (i := 550) (by decide +kernel)) rfl
set_option maxRecDepth 100000 in
theorem tp_X8_leave : yX8_leave.cls ≠ "java/lang/invoke/MethodHandle" ∧ yX8_leave.cls ≠ "java/lang/invoke/VarHandle" ∧ (parseMethodDescriptor yX8_leave.desc).map (fun d => d.parameters.length) = some 2 := by decide +kernel
set_option maxRecDepth 100000 in
theorem tc_X8_log : Cond.code yX8_log cX8_log 5 (some .int) ∈ TB := tb_m (List.mem_of_getElem? (i := 635) (by decide +kernel)) rfl
set_option maxRecDepth 100000 in
theorem ti_X8_log : Cond.instanceMethod yX8_log ∈ TB := tb_m (List.mem_of_getElem? (i := 633) (by decide +kernel)) rfl
set_option maxRecDepth 100000 in
theorem te_X8_log : Cond.selects RX8 yX8_log yX8_log ∈ TB := tb_m (List.mem_of_getElem? (i := 634) (by decide +kernel)) rfl
set_option maxRecDepth 100000 in
theorem tp_X8_log : yX8_log.cls ≠ "java/lang/invoke/MethodHandle" ∧ yX8_log.cls ≠ "java/lang/invoke/VarHandle" ∧ (parseMethodDescriptor yX8_log.desc).map (fun d => d.parameters.length) = some 2 := by decide +kernel
set_option maxRecDepth 100000 in
theorem tc_X8_pass : Cond.code yX8_pass cX8_pass 2 (some .int) ∈ TB := tb_m (List.mem_of_getElem? (i := 566) (by decide +kernel)) rfl
set_option maxRecDepth 100000 in
theorem ti_X8_pass : Cond.instanceMethod yX8_pass ∈ TB := tb_m (List.mem_of_getElem? (i := 564) (by decide +kernel)) rfl
set_option maxRecDepth 100000 in
theorem te_X8_pass : Cond.selects RX8 yX8_pass yX8_pass ∈ TB := tb_m (List.mem_of_getElem? (i := 565) (by decide +kernel)) rfl
set_option maxRecDepth 100000 in
theorem tp_X8_pass : yX8_pass.cls ≠ "java/lang/invoke/MethodHandle" ∧ yX8_pass.cls ≠ "java/lang/invoke/VarHandle" ∧ (parseMethodDescriptor yX8_pass.desc).map (fun d => d.parameters.length) = some 1 := by decide +kernel
set_option maxRecDepth 100000 in
theorem tc_X8_plan : Cond.code yX8_plan cX8_plan 3 (some .int) ∈ TB := tb_m (List.mem_of_getElem? (i := 645) (by decide +kernel)) rfl
set_option maxRecDepth 100000 in
theorem ti_X8_plan : Cond.instanceMethod yX8_plan ∈ TB := tb_m (List.mem_of_getElem? (i := 643) (by decide +kernel)) rfl
set_option maxRecDepth 100000 in
theorem te_X8_plan : Cond.selects RX8 yX8_plan yX8_plan ∈ TB := tb_m (List.mem_of_getElem? (i := 644) (by decide +kernel)) rfl
set_option maxRecDepth 100000 in
theorem tp_X8_plan : yX8_plan.cls ≠ "java/lang/invoke/MethodHandle" ∧ yX8_plan.cls ≠ "java/lang/invoke/VarHandle" ∧ (parseMethodDescriptor yX8_plan.desc).map (fun d => d.parameters.length) = some 2 := by decide +kernel
set_option maxRecDepth 100000 in
theorem tc_X8_play : Cond.code yX8_play cX8_play 1 (some .int) ∈ TB := tb_m (List.mem_of_getElem? (i := 713) (by decide +kernel)) rfl
set_option maxRecDepth 100000 in
theorem ti_X8_play : Cond.instanceMethod yX8_play ∈ TB := tb_m (List.mem_of_getElem? (i := 711) (by decide +kernel)) rfl
set_option maxRecDepth 100000 in
theorem te_X8_play : Cond.selects RX8 yX8_play yX8_play ∈ TB := tb_m (List.mem_of_getElem? (i := 712) (by decide +kernel)) rfl
set_option maxRecDepth 100000 in
theorem tp_X8_play : yX8_play.cls ≠ "java/lang/invoke/MethodHandle" ∧ yX8_play.cls ≠ "java/lang/invoke/VarHandle" ∧ (parseMethodDescriptor yX8_play.desc).map (fun d => d.parameters.length) = some 0 := by decide +kernel
set_option maxRecDepth 100000 in
theorem tc_X8_pool : Cond.code yX8_pool cX8_pool 2 (some .int) ∈ TB := tb_m (List.mem_of_getElem? (i := 408) (by decide +kernel)) rfl
set_option maxRecDepth 100000 in
theorem ti_X8_pool : Cond.instanceMethod yX8_pool ∈ TB := tb_m (List.mem_of_getElem? (i := 406) (by decide +kernel)) rfl
set_option maxRecDepth 100000 in
theorem te_X8_pool : Cond.selects RX8 yX8_pool yX8_pool ∈ TB := tb_m (List.mem_of_getElem? (i := 407) (by decide +kernel)) rfl
set_option maxRecDepth 100000 in
theorem tp_X8_pool : yX8_pool.cls ≠ "java/lang/invoke/MethodHandle" ∧ yX8_pool.cls ≠ "java/lang/invoke/VarHandle" ∧ (parseMethodDescriptor yX8_pool.desc).map (fun d => d.parameters.length) = some 1 := by decide +kernel
set_option maxRecDepth 100000 in
theorem tc_X8_refusal : Cond.code yX8_refusal cX8_refusal 3 (some .int) ∈ TB := tb_m (List.mem_of_getElem? (i := 673) (by decide +kernel)) rfl
set_option maxRecDepth 100000 in
theorem ti_X8_refusal : Cond.instanceMethod yX8_refusal ∈ TB := tb_m (List.mem_of_getElem? (i := 671) (by decide +kernel)) rfl
set_option maxRecDepth 100000 in
theorem te_X8_refusal : Cond.selects RX8 yX8_refusal yX8_refusal ∈ TB := tb_m (List.mem_of_getElem? (i := 672) (by decide +kernel)) rfl
set_option maxRecDepth 100000 in
theorem tp_X8_refusal : yX8_refusal.cls ≠ "java/lang/invoke/MethodHandle" ∧ yX8_refusal.cls ≠ "java/lang/invoke/VarHandle" ∧ (parseMethodDescriptor yX8_refusal.desc).map (fun d => d.parameters.length) = some 2 := by decide +kernel
set_option maxRecDepth 100000 in
theorem tc_X8_section : Cond.code yX8_section cX8_section 3 (some .int) ∈ TB := tb_m (List.mem_of_getElem? (i := 331) (by decide +kernel)) rfl
set_option maxRecDepth 100000 in
theorem ti_X8_section : Cond.instanceMethod yX8_section ∈ TB := tb_m (List.mem_of_getElem? (i := 329) (by decide +kernel)) rfl
set_option maxRecDepth 100000 in
theorem te_X8_section : Cond.selects RX8 yX8_section yX8_section ∈ TB := tb_m (List.mem_of_getElem? (i := 330) (by decide +kernel)) rfl
set_option maxRecDepth 100000 in
theorem tp_X8_section : yX8_section.cls ≠ "java/lang/invoke/MethodHandle" ∧ yX8_section.cls ≠ "java/lang/invoke/VarHandle" ∧ (parseMethodDescriptor yX8_section.desc).map (fun d => d.parameters.length) = some 2 := by decide +kernel
set_option maxRecDepth 100000 in
theorem tc_X8_sectionOf : Cond.code yX8_sectionOf cX8_sectionOf 5 (some .int) ∈ TB := tb_m (List.mem_of_getElem? (i := 586) (by decide +kernel)) rfl
set_option maxRecDepth 100000 in
theorem ti_X8_sectionOf : Cond.instanceMethod yX8_sectionOf ∈ TB := tb_m (List.mem_of_getElem? (i := 584) (by decide +kernel)) rfl
set_option maxRecDepth 100000 in
theorem te_X8_sectionOf : Cond.selects RX8 yX8_sectionOf yX8_sectionOf ∈ TB := tb_m (List.mem_of_getElem? (i := 585) (by decide +kernel)) rfl
set_option maxRecDepth 100000 in
theorem tp_X8_sectionOf : yX8_sectionOf.cls ≠ "java/lang/invoke/MethodHandle" ∧ yX8_sectionOf.cls ≠ "java/lang/invoke/VarHandle" ∧ (parseMethodDescriptor yX8_sectionOf.desc).map (fun d => d.parameters.length) = some 2 := by decide +kernel
set_option maxRecDepth 100000 in
theorem tc_X8_step : Cond.code yX8_step cX8_step 3 (some .int) ∈ TB := tb_m (List.mem_of_getElem? (i := 448) (by decide +kernel)) rfl
set_option maxRecDepth 100000 in
theorem ti_X8_step : Cond.instanceMethod yX8_step ∈ TB := tb_m (List.mem_of_getElem? (i := 446) (by decide +kernel)) rfl
set_option maxRecDepth 100000 in
theorem te_X8_step : Cond.selects RX8 yX8_step yX8_step ∈ TB := tb_m (List.mem_of_getElem? (i := 447) (by decide +kernel)) rfl
set_option maxRecDepth 100000 in
theorem tp_X8_step : yX8_step.cls ≠ "java/lang/invoke/MethodHandle" ∧ yX8_step.cls ≠ "java/lang/invoke/VarHandle" ∧ (parseMethodDescriptor yX8_step.desc).map (fun d => d.parameters.length) = some 2 := by decide +kernel
set_option maxRecDepth 100000 in
theorem tc_X8_type : Cond.code yX8_type cX8_type 2 (some .int) ∈ TB := tb_m (List.mem_of_getElem? (i := 677) (by decide +kernel)) rfl
set_option maxRecDepth 100000 in
theorem ti_X8_type : Cond.instanceMethod yX8_type ∈ TB := tb_m (List.mem_of_getElem? (i := 675) (by decide +kernel)) rfl
set_option maxRecDepth 100000 in
theorem te_X8_type : Cond.selects RX8 yX8_type yX8_type ∈ TB := tb_m (List.mem_of_getElem? (i := 676) (by decide +kernel)) rfl
set_option maxRecDepth 100000 in
theorem tp_X8_type : yX8_type.cls ≠ "java/lang/invoke/MethodHandle" ∧ yX8_type.cls ≠ "java/lang/invoke/VarHandle" ∧ (parseMethodDescriptor yX8_type.desc).map (fun d => d.parameters.length) = some 1 := by decide +kernel
set_option maxRecDepth 100000 in
theorem tc_X8_undo : Cond.code yX8_undo cX8_undo 1 (some .int) ∈ TB := tb_m (List.mem_of_getElem? (i := 440) (by decide +kernel)) rfl
set_option maxRecDepth 100000 in
theorem ti_X8_undo : Cond.instanceMethod yX8_undo ∈ TB := tb_m (List.mem_of_getElem? (i := 438) (by decide +kernel)) rfl
set_option maxRecDepth 100000 in
theorem te_X8_undo : Cond.selects RX8 yX8_undo yX8_undo ∈ TB := tb_m (List.mem_of_getElem? (i := 439) (by decide +kernel)) rfl
set_option maxRecDepth 100000 in
theorem tp_X8_undo : yX8_undo.cls ≠ "java/lang/invoke/MethodHandle" ∧ yX8_undo.cls ≠ "java/lang/invoke/VarHandle" ∧ (parseMethodDescriptor yX8_undo.desc).map (fun d => d.parameters.length) = some 0 := by decide +kernel
set_option maxRecDepth 100000 in
theorem tc_X0_init : Cond.code yX0_init cX0_init 2 none ∈ TB := tb_m (List.mem_of_getElem? (i := 224) (by decide +kernel)) rfl
set_option maxRecDepth 100000 in
theorem ti_X0_init : Cond.instanceMethod yX0_init ∈ TB := tb_m (List.mem_of_getElem? (i := 223) (by decide +kernel)) rfl
set_option maxRecDepth 100000 in
theorem tp_X0_init : yX0_init.cls ≠ "java/lang/invoke/MethodHandle" ∧ yX0_init.cls ≠ "java/lang/invoke/VarHandle" ∧ (parseMethodDescriptor yX0_init.desc).map (fun d => d.parameters.length) = some 0 := by decide +kernel
set_option maxRecDepth 100000 in
theorem tc_X0_dropOldest : Cond.code yX0_dropOldest cX0_dropOldest 3 none ∈ TB := tb_m (List.mem_of_getElem? (i := 342) (by decide +kernel)) rfl
set_option maxRecDepth 100000 in
theorem ti_X0_dropOldest : Cond.instanceMethod yX0_dropOldest ∈ TB := tb_m (List.mem_of_getElem? (i := 341) (by decide +kernel)) rfl
set_option maxRecDepth 100000 in
theorem te_X0_dropOldest : Cond.selects RX0 yX0_dropOldest yX0_dropOldest ∈ TB := tb_m (List.mem_of_getElem? (i := 0) (by decide +kernel)) rfl
set_option maxRecDepth 100000 in
theorem tp_X0_dropOldest : yX0_dropOldest.cls ≠ "java/lang/invoke/MethodHandle" ∧ yX0_dropOldest.cls ≠ "java/lang/invoke/VarHandle" ∧ (parseMethodDescriptor yX0_dropOldest.desc).map (fun d => d.parameters.length) = some 0 := by decide +kernel
set_option maxRecDepth 100000 in
theorem tc_X0_keep : Cond.code yX0_keep cX0_keep 2 none ∈ TB := tb_m (List.mem_of_getElem? (i := 338) (by decide +kernel)) rfl
set_option maxRecDepth 100000 in
theorem ti_X0_keep : Cond.instanceMethod yX0_keep ∈ TB := tb_m (List.mem_of_getElem? (i := 336) (by decide +kernel)) rfl
set_option maxRecDepth 100000 in
theorem te_X0_keep : Cond.selects RX0 yX0_keep yX0_keep ∈ TB := tb_m (List.mem_of_getElem? (i := 337) (by decide +kernel)) rfl
set_option maxRecDepth 100000 in
theorem tp_X0_keep : yX0_keep.cls ≠ "java/lang/invoke/MethodHandle" ∧ yX0_keep.cls ≠ "java/lang/invoke/VarHandle" ∧ (parseMethodDescriptor yX0_keep.desc).map (fun d => d.parameters.length) = some 1 := by decide +kernel
set_option maxRecDepth 100000 in
theorem tc_X0_restore : Cond.code yX0_restore cX0_restore 2 none ∈ TB := tb_m (List.mem_of_getElem? (i := 444) (by decide +kernel)) rfl
set_option maxRecDepth 100000 in
theorem ti_X0_restore : Cond.instanceMethod yX0_restore ∈ TB := tb_m (List.mem_of_getElem? (i := 442) (by decide +kernel)) rfl
set_option maxRecDepth 100000 in
theorem te_X0_restore : Cond.selects RX0 yX0_restore yX0_restore ∈ TB := tb_m (List.mem_of_getElem? (i := 443) (by decide +kernel)) rfl
set_option maxRecDepth 100000 in
theorem tp_X0_restore : yX0_restore.cls ≠ "java/lang/invoke/MethodHandle" ∧ yX0_restore.cls ≠ "java/lang/invoke/VarHandle" ∧ (parseMethodDescriptor yX0_restore.desc).map (fun d => d.parameters.length) = some 1 := by decide +kernel
set_option maxRecDepth 100000 in
theorem tc_X1_init : Cond.code yX1_init cX1_init 1 none ∈ TB := tb_m (List.mem_of_getElem? (i := 160) (by decide +kernel)) rfl
set_option maxRecDepth 100000 in
theorem ti_X1_init : Cond.instanceMethod yX1_init ∈ TB := tb_m (List.mem_of_getElem? (i := 159) (by decide +kernel)) rfl
set_option maxRecDepth 100000 in
theorem tp_X1_init : yX1_init.cls ≠ "java/lang/invoke/MethodHandle" ∧ yX1_init.cls ≠ "java/lang/invoke/VarHandle" ∧ (parseMethodDescriptor yX1_init.desc).map (fun d => d.parameters.length) = some 0 := by decide +kernel
set_option maxRecDepth 100000 in
theorem tc_X1_copyFrom : Cond.code yX1_copyFrom cX1_copyFrom 2 none ∈ TB := tb_m (List.mem_of_getElem? (i := 362) (by decide +kernel)) rfl
set_option maxRecDepth 100000 in
theorem ti_X1_copyFrom : Cond.instanceMethod yX1_copyFrom ∈ TB := tb_m (List.mem_of_getElem? (i := 360) (by decide +kernel)) rfl
set_option maxRecDepth 100000 in
theorem te_X1_copyFrom : Cond.selects RX1 yX1_copyFrom yX1_copyFrom ∈ TB := tb_m (List.mem_of_getElem? (i := 361) (by decide +kernel)) rfl
set_option maxRecDepth 100000 in
theorem tp_X1_copyFrom : yX1_copyFrom.cls ≠ "java/lang/invoke/MethodHandle" ∧ yX1_copyFrom.cls ≠ "java/lang/invoke/VarHandle" ∧ (parseMethodDescriptor yX1_copyFrom.desc).map (fun d => d.parameters.length) = some 1 := by decide +kernel
set_option maxRecDepth 100000 in
theorem tc_X1_dropOldest : Cond.code yX1_dropOldest cX1_dropOldest 1 none ∈ TB := tb_m (List.mem_of_getElem? (i := 534) (by decide +kernel)) rfl
set_option maxRecDepth 100000 in
theorem ti_X1_dropOldest : Cond.instanceMethod yX1_dropOldest ∈ TB := tb_m (List.mem_of_getElem? (i := 533) (by decide +kernel)) rfl
set_option maxRecDepth 100000 in
theorem te_X1_dropOldest : Cond.selects RX1 yX1_dropOldest yX1_dropOldest ∈ TB := tb_m (List.mem_of_getElem? (i := 18) (by decide +kernel)) rfl
set_option maxRecDepth 100000 in
theorem tp_X1_dropOldest : yX1_dropOldest.cls ≠ "java/lang/invoke/MethodHandle" ∧ yX1_dropOldest.cls ≠ "java/lang/invoke/VarHandle" ∧ (parseMethodDescriptor yX1_dropOldest.desc).map (fun d => d.parameters.length) = some 0 := by decide +kernel
set_option maxRecDepth 100000 in
theorem tc_X1_setBy : Cond.code yX1_setBy cX1_setBy 5 none ∈ TB := tb_m (List.mem_of_getElem? (i := 538) (by decide +kernel)) rfl
set_option maxRecDepth 100000 in
theorem ti_X1_setBy : Cond.instanceMethod yX1_setBy ∈ TB := tb_m (List.mem_of_getElem? (i := 537) (by decide +kernel)) rfl
set_option maxRecDepth 100000 in
theorem te_X1_setBy : Cond.selects RX1 yX1_setBy yX1_setBy ∈ TB := tb_m (List.mem_of_getElem? (i := 19) (by decide +kernel)) rfl
set_option maxRecDepth 100000 in
theorem tp_X1_setBy : yX1_setBy.cls ≠ "java/lang/invoke/MethodHandle" ∧ yX1_setBy.cls ≠ "java/lang/invoke/VarHandle" ∧ (parseMethodDescriptor yX1_setBy.desc).map (fun d => d.parameters.length) = some 3 := by decide +kernel
set_option maxRecDepth 100000 in
theorem tc_X1_tell : Cond.code yX1_tell cX1_tell 2 none ∈ TB := tb_m (List.mem_of_getElem? (i := 597) (by decide +kernel)) rfl
set_option maxRecDepth 100000 in
theorem ti_X1_tell : Cond.instanceMethod yX1_tell ∈ TB := tb_m (List.mem_of_getElem? (i := 595) (by decide +kernel)) rfl
set_option maxRecDepth 100000 in
theorem te_X1_tell : Cond.selects RX1 yX1_tell yX1_tell ∈ TB := tb_m (List.mem_of_getElem? (i := 596) (by decide +kernel)) rfl
set_option maxRecDepth 100000 in
theorem tp_X1_tell : yX1_tell.cls ≠ "java/lang/invoke/MethodHandle" ∧ yX1_tell.cls ≠ "java/lang/invoke/VarHandle" ∧ (parseMethodDescriptor yX1_tell.desc).map (fun d => d.parameters.length) = some 0 := by decide +kernel
set_option maxRecDepth 100000 in
theorem tc_X1_write : Cond.code yX1_write cX1_write 4 none ∈ TB := tb_m (List.mem_of_getElem? (i := 530) (by decide +kernel)) rfl
set_option maxRecDepth 100000 in
theorem ti_X1_write : Cond.instanceMethod yX1_write ∈ TB := tb_m (List.mem_of_getElem? (i := 528) (by decide +kernel)) rfl
set_option maxRecDepth 100000 in
theorem te_X1_write : Cond.selects RX1 yX1_write yX1_write ∈ TB := tb_m (List.mem_of_getElem? (i := 529) (by decide +kernel)) rfl
set_option maxRecDepth 100000 in
theorem tp_X1_write : yX1_write.cls ≠ "java/lang/invoke/MethodHandle" ∧ yX1_write.cls ≠ "java/lang/invoke/VarHandle" ∧ (parseMethodDescriptor yX1_write.desc).map (fun d => d.parameters.length) = some 3 := by decide +kernel
set_option maxRecDepth 100000 in
theorem tc_X2_init : Cond.code yX2_init cX2_init 1 none ∈ TB := tb_m (List.mem_of_getElem? (i := 55) (by decide +kernel)) rfl
set_option maxRecDepth 100000 in
theorem ti_X2_init : Cond.instanceMethod yX2_init ∈ TB := tb_m (List.mem_of_getElem? (i := 54) (by decide +kernel)) rfl
set_option maxRecDepth 100000 in
theorem tp_X2_init : yX2_init.cls ≠ "java/lang/invoke/MethodHandle" ∧ yX2_init.cls ≠ "java/lang/invoke/VarHandle" ∧ (parseMethodDescriptor yX2_init.desc).map (fun d => d.parameters.length) = some 0 := by decide +kernel
set_option maxRecDepth 100000 in
theorem tc_X2_areTogether : Cond.code yX2_areTogether cX2_areTogether 3 (some .boolean) ∈ TB := tb_m (List.mem_of_getElem? (i := 392) (by decide +kernel)) rfl
set_option maxRecDepth 100000 in
theorem ti_X2_areTogether : Cond.instanceMethod yX2_areTogether ∈ TB := tb_m (List.mem_of_getElem? (i := 390) (by decide +kernel)) rfl
set_option maxRecDepth 100000 in
theorem te_X2_areTogether : Cond.selects RX2 yX2_areTogether yX2_areTogether ∈ TB := tb_m (List.mem_of_getElem? (i := 391) (by decide +kernel)) rfl
set_option maxRecDepth 100000 in
theorem tp_X2_areTogether : yX2_areTogether.cls ≠ "java/lang/invoke/MethodHandle" ∧ yX2_areTogether.cls ≠ "java/lang/invoke/VarHandle" ∧ (parseMethodDescriptor yX2_areTogether.desc).map (fun d => d.parameters.length) = some 2 := by decide +kernel
set_option maxRecDepth 100000 in
theorem tc_X2_closedAt : Cond.code yX2_closedAt cX2_closedAt 4 (some .int) ∈ TB := tb_m (List.mem_of_getElem? (i := 610) (by decide +kernel)) rfl
set_option maxRecDepth 100000 in
theorem ti_X2_closedAt : Cond.instanceMethod yX2_closedAt ∈ TB := tb_m (List.mem_of_getElem? (i := 608) (by decide +kernel)) rfl
set_option maxRecDepth 100000 in
theorem te_X2_closedAt : Cond.selects RX2 yX2_closedAt yX2_closedAt ∈ TB := tb_m (List.mem_of_getElem? (i := 609) (by decide +kernel)) rfl
set_option maxRecDepth 100000 in
theorem tp_X2_closedAt : yX2_closedAt.cls ≠ "java/lang/invoke/MethodHandle" ∧ yX2_closedAt.cls ≠ "java/lang/invoke/VarHandle" ∧ (parseMethodDescriptor yX2_closedAt.desc).map (fun d => d.parameters.length) = some 1 := by decide +kernel
set_option maxRecDepth 100000 in
theorem tc_X2_copyFrom : Cond.code yX2_copyFrom cX2_copyFrom 2 none ∈ TB := tb_m (List.mem_of_getElem? (i := 350) (by decide +kernel)) rfl
set_option maxRecDepth 100000 in
theorem ti_X2_copyFrom : Cond.instanceMethod yX2_copyFrom ∈ TB := tb_m (List.mem_of_getElem? (i := 348) (by decide +kernel)) rfl
set_option maxRecDepth 100000 in
theorem te_X2_copyFrom : Cond.selects RX2 yX2_copyFrom yX2_copyFrom ∈ TB := tb_m (List.mem_of_getElem? (i := 349) (by decide +kernel)) rfl
set_option maxRecDepth 100000 in
theorem tp_X2_copyFrom : yX2_copyFrom.cls ≠ "java/lang/invoke/MethodHandle" ∧ yX2_copyFrom.cls ≠ "java/lang/invoke/VarHandle" ∧ (parseMethodDescriptor yX2_copyFrom.desc).map (fun d => d.parameters.length) = some 1 := by decide +kernel
set_option maxRecDepth 100000 in
theorem tc_X2_feed : Cond.code yX2_feed cX2_feed 2 none ∈ TB := tb_m (List.mem_of_getElem? (i := 375) (by decide +kernel)) rfl
set_option maxRecDepth 100000 in
theorem ti_X2_feed : Cond.instanceMethod yX2_feed ∈ TB := tb_m (List.mem_of_getElem? (i := 374) (by decide +kernel)) rfl
set_option maxRecDepth 100000 in
theorem te_X2_feed : Cond.selects RX2 yX2_feed yX2_feed ∈ TB := tb_m (List.mem_of_getElem? (i := 1) (by decide +kernel)) rfl
set_option maxRecDepth 100000 in
theorem tp_X2_feed : yX2_feed.cls ≠ "java/lang/invoke/MethodHandle" ∧ yX2_feed.cls ≠ "java/lang/invoke/VarHandle" ∧ (parseMethodDescriptor yX2_feed.desc).map (fun d => d.parameters.length) = some 0 := by decide +kernel
set_option maxRecDepth 100000 in
theorem tc_X2_groupSize : Cond.code yX2_groupSize cX2_groupSize 4 (some .int) ∈ TB := tb_m (List.mem_of_getElem? (i := 605) (by decide +kernel)) rfl
set_option maxRecDepth 100000 in
theorem ti_X2_groupSize : Cond.instanceMethod yX2_groupSize ∈ TB := tb_m (List.mem_of_getElem? (i := 603) (by decide +kernel)) rfl
set_option maxRecDepth 100000 in
theorem te_X2_groupSize : Cond.selects RX2 yX2_groupSize yX2_groupSize ∈ TB := tb_m (List.mem_of_getElem? (i := 604) (by decide +kernel)) rfl
set_option maxRecDepth 100000 in
theorem tp_X2_groupSize : yX2_groupSize.cls ≠ "java/lang/invoke/MethodHandle" ∧ yX2_groupSize.cls ≠ "java/lang/invoke/VarHandle" ∧ (parseMethodDescriptor yX2_groupSize.desc).map (fun d => d.parameters.length) = some 1 := by decide +kernel
set_option maxRecDepth 100000 in
theorem tc_X2_groups : Cond.code yX2_groups cX2_groups 3 (some .int) ∈ TB := tb_m (List.mem_of_getElem? (i := 436) (by decide +kernel)) rfl
set_option maxRecDepth 100000 in
theorem ti_X2_groups : Cond.instanceMethod yX2_groups ∈ TB := tb_m (List.mem_of_getElem? (i := 434) (by decide +kernel)) rfl
set_option maxRecDepth 100000 in
theorem te_X2_groups : Cond.selects RX2 yX2_groups yX2_groups ∈ TB := tb_m (List.mem_of_getElem? (i := 435) (by decide +kernel)) rfl
set_option maxRecDepth 100000 in
theorem tp_X2_groups : yX2_groups.cls ≠ "java/lang/invoke/MethodHandle" ∧ yX2_groups.cls ≠ "java/lang/invoke/VarHandle" ∧ (parseMethodDescriptor yX2_groups.desc).map (fun d => d.parameters.length) = some 0 := by decide +kernel
set_option maxRecDepth 100000 in
theorem tc_X2_isClosedAt : Cond.code yX2_isClosedAt cX2_isClosedAt 3 (some .boolean) ∈ TB := tb_m (List.mem_of_getElem? (i := 614) (by decide +kernel)) rfl
set_option maxRecDepth 100000 in
theorem ti_X2_isClosedAt : Cond.instanceMethod yX2_isClosedAt ∈ TB := tb_m (List.mem_of_getElem? (i := 612) (by decide +kernel)) rfl
set_option maxRecDepth 100000 in
theorem te_X2_isClosedAt : Cond.selects RX2 yX2_isClosedAt yX2_isClosedAt ∈ TB := tb_m (List.mem_of_getElem? (i := 613) (by decide +kernel)) rfl
set_option maxRecDepth 100000 in
theorem tp_X2_isClosedAt : yX2_isClosedAt.cls ≠ "java/lang/invoke/MethodHandle" ∧ yX2_isClosedAt.cls ≠ "java/lang/invoke/VarHandle" ∧ (parseMethodDescriptor yX2_isClosedAt.desc).map (fun d => d.parameters.length) = some 2 := by decide +kernel
set_option maxRecDepth 100000 in
theorem tc_X2_setFeeder : Cond.code yX2_setFeeder cX2_setFeeder 3 none ∈ TB := tb_m (List.mem_of_getElem? (i := 371) (by decide +kernel)) rfl
set_option maxRecDepth 100000 in
theorem ti_X2_setFeeder : Cond.instanceMethod yX2_setFeeder ∈ TB := tb_m (List.mem_of_getElem? (i := 369) (by decide +kernel)) rfl
set_option maxRecDepth 100000 in
theorem te_X2_setFeeder : Cond.selects RX2 yX2_setFeeder yX2_setFeeder ∈ TB := tb_m (List.mem_of_getElem? (i := 370) (by decide +kernel)) rfl
set_option maxRecDepth 100000 in
theorem tp_X2_setFeeder : yX2_setFeeder.cls ≠ "java/lang/invoke/MethodHandle" ∧ yX2_setFeeder.cls ≠ "java/lang/invoke/VarHandle" ∧ (parseMethodDescriptor yX2_setFeeder.desc).map (fun d => d.parameters.length) = some 2 := by decide +kernel
set_option maxRecDepth 100000 in
theorem tc_X2_setIsolator : Cond.code yX2_setIsolator cX2_setIsolator 4 none ∈ TB := tb_m (List.mem_of_getElem? (i := 400) (by decide +kernel)) rfl
set_option maxRecDepth 100000 in
theorem ti_X2_setIsolator : Cond.instanceMethod yX2_setIsolator ∈ TB := tb_m (List.mem_of_getElem? (i := 398) (by decide +kernel)) rfl
set_option maxRecDepth 100000 in
theorem te_X2_setIsolator : Cond.selects RX2 yX2_setIsolator yX2_setIsolator ∈ TB := tb_m (List.mem_of_getElem? (i := 399) (by decide +kernel)) rfl
set_option maxRecDepth 100000 in
theorem tp_X2_setIsolator : yX2_setIsolator.cls ≠ "java/lang/invoke/MethodHandle" ∧ yX2_setIsolator.cls ≠ "java/lang/invoke/VarHandle" ∧ (parseMethodDescriptor yX2_setIsolator.desc).map (fun d => d.parameters.length) = some 2 := by decide +kernel
set_option maxRecDepth 100000 in
theorem tc_X2_shareLowest : Cond.code yX2_shareLowest cX2_shareLowest 4 none ∈ TB := tb_m (List.mem_of_getElem? (i := 404) (by decide +kernel)) rfl
set_option maxRecDepth 100000 in
theorem ti_X2_shareLowest : Cond.instanceMethod yX2_shareLowest ∈ TB := tb_m (List.mem_of_getElem? (i := 403) (by decide +kernel)) rfl
set_option maxRecDepth 100000 in
theorem te_X2_shareLowest : Cond.selects RX2 yX2_shareLowest yX2_shareLowest ∈ TB := tb_m (List.mem_of_getElem? (i := 2) (by decide +kernel)) rfl
set_option maxRecDepth 100000 in
theorem tp_X2_shareLowest : yX2_shareLowest.cls ≠ "java/lang/invoke/MethodHandle" ∧ yX2_shareLowest.cls ≠ "java/lang/invoke/VarHandle" ∧ (parseMethodDescriptor yX2_shareLowest.desc).map (fun d => d.parameters.length) = some 0 := by decide +kernel
set_option maxRecDepth 100000 in
theorem tc_X3_init : Cond.code yX3_init cX3_init 1 none ∈ TB := tb_m (List.mem_of_getElem? (i := 269) (by decide +kernel)) rfl
set_option maxRecDepth 100000 in
theorem ti_X3_init : Cond.instanceMethod yX3_init ∈ TB := tb_m (List.mem_of_getElem? (i := 268) (by decide +kernel)) rfl
set_option maxRecDepth 100000 in
theorem tp_X3_init : yX3_init.cls ≠ "java/lang/invoke/MethodHandle" ∧ yX3_init.cls ≠ "java/lang/invoke/VarHandle" ∧ (parseMethodDescriptor yX3_init.desc).map (fun d => d.parameters.length) = some 0 := by decide +kernel
set_option maxRecDepth 100000 in
theorem tc_X3_add : Cond.code yX3_add cX3_add 3 none ∈ TB := tb_m (List.mem_of_getElem? (i := 653) (by decide +kernel)) rfl
set_option maxRecDepth 100000 in
theorem ti_X3_add : Cond.instanceMethod yX3_add ∈ TB := tb_m (List.mem_of_getElem? (i := 652) (by decide +kernel)) rfl
set_option maxRecDepth 100000 in
theorem te_X3_add : Cond.selects RX3 yX3_add yX3_add ∈ TB := tb_m (List.mem_of_getElem? (i := 21) (by decide +kernel)) rfl
set_option maxRecDepth 100000 in
theorem tp_X3_add : yX3_add.cls ≠ "java/lang/invoke/MethodHandle" ∧ yX3_add.cls ≠ "java/lang/invoke/VarHandle" ∧ (parseMethodDescriptor yX3_add.desc).map (fun d => d.parameters.length) = some 2 := by decide +kernel
set_option maxRecDepth 100000 in
theorem tc_X3_drawUp : Cond.code yX3_drawUp cX3_drawUp 4 none ∈ TB := tb_m (List.mem_of_getElem? (i := 649) (by decide +kernel)) rfl
set_option maxRecDepth 100000 in
theorem ti_X3_drawUp : Cond.instanceMethod yX3_drawUp ∈ TB := tb_m (List.mem_of_getElem? (i := 647) (by decide +kernel)) rfl
set_option maxRecDepth 100000 in
theorem te_X3_drawUp : Cond.selects RX3 yX3_drawUp yX3_drawUp ∈ TB := tb_m (List.mem_of_getElem? (i := 648) (by decide +kernel)) rfl
set_option maxRecDepth 100000 in
theorem tp_X3_drawUp : yX3_drawUp.cls ≠ "java/lang/invoke/MethodHandle" ∧ yX3_drawUp.cls ≠ "java/lang/invoke/VarHandle" ∧ (parseMethodDescriptor yX3_drawUp.desc).map (fun d => d.parameters.length) = some 2 := by decide +kernel
set_option maxRecDepth 100000 in
theorem tc_X4_init : Cond.code yX4_init cX4_init 1 none ∈ TB := tb_m (List.mem_of_getElem? (i := 291) (by decide +kernel)) rfl
set_option maxRecDepth 100000 in
theorem ti_X4_init : Cond.instanceMethod yX4_init ∈ TB := tb_m (List.mem_of_getElem? (i := 290) (by decide +kernel)) rfl
set_option maxRecDepth 100000 in
theorem tp_X4_init : yX4_init.cls ≠ "java/lang/invoke/MethodHandle" ∧ yX4_init.cls ≠ "java/lang/invoke/VarHandle" ∧ (parseMethodDescriptor yX4_init.desc).map (fun d => d.parameters.length) = some 0 := by decide +kernel
set_option maxRecDepth 100000 in
theorem tc_X4_begin : Cond.code yX4_begin cX4_begin 2 none ∈ TB := tb_m (List.mem_of_getElem? (i := 666) (by decide +kernel)) rfl
set_option maxRecDepth 100000 in
theorem ti_X4_begin : Cond.instanceMethod yX4_begin ∈ TB := tb_m (List.mem_of_getElem? (i := 665) (by decide +kernel)) rfl
set_option maxRecDepth 100000 in
theorem te_X4_begin : Cond.selects RX4 yX4_begin yX4_begin ∈ TB := tb_m (List.mem_of_getElem? (i := 22) (by decide +kernel)) rfl
set_option maxRecDepth 100000 in
theorem tp_X4_begin : yX4_begin.cls ≠ "java/lang/invoke/MethodHandle" ∧ yX4_begin.cls ≠ "java/lang/invoke/VarHandle" ∧ (parseMethodDescriptor yX4_begin.desc).map (fun d => d.parameters.length) = some 1 := by decide +kernel
set_option maxRecDepth 100000 in
theorem tc_X4_tryPlan : Cond.code yX4_tryPlan cX4_tryPlan 4 none ∈ TB := tb_m (List.mem_of_getElem? (i := 662) (by decide +kernel)) rfl
set_option maxRecDepth 100000 in
theorem ti_X4_tryPlan : Cond.instanceMethod yX4_tryPlan ∈ TB := tb_m (List.mem_of_getElem? (i := 660) (by decide +kernel)) rfl
set_option maxRecDepth 100000 in
theorem te_X4_tryPlan : Cond.selects RX4 yX4_tryPlan yX4_tryPlan ∈ TB := tb_m (List.mem_of_getElem? (i := 661) (by decide +kernel)) rfl
set_option maxRecDepth 100000 in
theorem tp_X4_tryPlan : yX4_tryPlan.cls ≠ "java/lang/invoke/MethodHandle" ∧ yX4_tryPlan.cls ≠ "java/lang/invoke/VarHandle" ∧ (parseMethodDescriptor yX4_tryPlan.desc).map (fun d => d.parameters.length) = some 2 := by decide +kernel
set_option maxRecDepth 100000 in
theorem tc_X4_tryText : Cond.code yX4_tryText cX4_tryText 4 none ∈ TB := tb_m (List.mem_of_getElem? (i := 685) (by decide +kernel)) rfl
set_option maxRecDepth 100000 in
theorem ti_X4_tryText : Cond.instanceMethod yX4_tryText ∈ TB := tb_m (List.mem_of_getElem? (i := 683) (by decide +kernel)) rfl
set_option maxRecDepth 100000 in
theorem te_X4_tryText : Cond.selects RX4 yX4_tryText yX4_tryText ∈ TB := tb_m (List.mem_of_getElem? (i := 684) (by decide +kernel)) rfl
set_option maxRecDepth 100000 in
theorem tp_X4_tryText : yX4_tryText.cls ≠ "java/lang/invoke/MethodHandle" ∧ yX4_tryText.cls ≠ "java/lang/invoke/VarHandle" ∧ (parseMethodDescriptor yX4_tryText.desc).map (fun d => d.parameters.length) = some 2 := by decide +kernel
set_option maxRecDepth 100000 in
theorem tc_X5_init : Cond.code yX5_init cX5_init 1 none ∈ TB := tb_m (List.mem_of_getElem? (i := 105) (by decide +kernel)) rfl
set_option maxRecDepth 100000 in
theorem ti_X5_init : Cond.instanceMethod yX5_init ∈ TB := tb_m (List.mem_of_getElem? (i := 104) (by decide +kernel)) rfl
set_option maxRecDepth 100000 in
theorem tp_X5_init : yX5_init.cls ≠ "java/lang/invoke/MethodHandle" ∧ yX5_init.cls ≠ "java/lang/invoke/VarHandle" ∧ (parseMethodDescriptor yX5_init.desc).map (fun d => d.parameters.length) = some 0 := by decide +kernel
set_option maxRecDepth 100000 in
theorem tc_X5_allTools : Cond.code yX5_allTools cX5_allTools 3 (some .int) ∈ TB := tb_m (List.mem_of_getElem? (i := 428) (by decide +kernel)) rfl
set_option maxRecDepth 100000 in
theorem ti_X5_allTools : Cond.instanceMethod yX5_allTools ∈ TB := tb_m (List.mem_of_getElem? (i := 426) (by decide +kernel)) rfl
set_option maxRecDepth 100000 in
theorem te_X5_allTools : Cond.selects RX5 yX5_allTools yX5_allTools ∈ TB := tb_m (List.mem_of_getElem? (i := 427) (by decide +kernel)) rfl
set_option maxRecDepth 100000 in
theorem tp_X5_allTools : yX5_allTools.cls ≠ "java/lang/invoke/MethodHandle" ∧ yX5_allTools.cls ≠ "java/lang/invoke/VarHandle" ∧ (parseMethodDescriptor yX5_allTools.desc).map (fun d => d.parameters.length) = some 0 := by decide +kernel
set_option maxRecDepth 100000 in
theorem tc_X5_bridgingBuses : Cond.code yX5_bridgingBuses cX5_bridgingBuses 3 (some .int) ∈ TB := tb_m (List.mem_of_getElem? (i := 412) (by decide +kernel)) rfl
set_option maxRecDepth 100000 in
theorem ti_X5_bridgingBuses : Cond.instanceMethod yX5_bridgingBuses ∈ TB := tb_m (List.mem_of_getElem? (i := 410) (by decide +kernel)) rfl
set_option maxRecDepth 100000 in
theorem te_X5_bridgingBuses : Cond.selects RX5 yX5_bridgingBuses yX5_bridgingBuses ∈ TB := tb_m (List.mem_of_getElem? (i := 411) (by decide +kernel)) rfl
set_option maxRecDepth 100000 in
theorem tp_X5_bridgingBuses : yX5_bridgingBuses.cls ≠ "java/lang/invoke/MethodHandle" ∧ yX5_bridgingBuses.cls ≠ "java/lang/invoke/VarHandle" ∧ (parseMethodDescriptor yX5_bridgingBuses.desc).map (fun d => d.parameters.length) = some 0 := by decide +kernel
set_option maxRecDepth 100000 in
theorem tc_X5_bringGang : Cond.code yX5_bringGang cX5_bringGang 4 none ∈ TB := tb_m (List.mem_of_getElem? (i := 547) (by decide +kernel)) rfl
set_option maxRecDepth 100000 in
theorem ti_X5_bringGang : Cond.instanceMethod yX5_bringGang ∈ TB := tb_m (List.mem_of_getElem? (i := 545) (by decide +kernel)) rfl
set_option maxRecDepth 100000 in
theorem te_X5_bringGang : Cond.selects RX5 yX5_bringGang yX5_bringGang ∈ TB := tb_m (List.mem_of_getElem? (i := 546) (by decide +kernel)) rfl
set_option maxRecDepth 100000 in
theorem tp_X5_bringGang : yX5_bringGang.cls ≠ "java/lang/invoke/MethodHandle" ∧ yX5_bringGang.cls ≠ "java/lang/invoke/VarHandle" ∧ (parseMethodDescriptor yX5_bringGang.desc).map (fun d => d.parameters.length) = some 3 := by decide +kernel
set_option maxRecDepth 100000 in
theorem tc_X5_copyFrom : Cond.code yX5_copyFrom cX5_copyFrom 2 none ∈ TB := tb_m (List.mem_of_getElem? (i := 357) (by decide +kernel)) rfl
set_option maxRecDepth 100000 in
theorem ti_X5_copyFrom : Cond.instanceMethod yX5_copyFrom ∈ TB := tb_m (List.mem_of_getElem? (i := 355) (by decide +kernel)) rfl
set_option maxRecDepth 100000 in
theorem te_X5_copyFrom : Cond.selects RX5 yX5_copyFrom yX5_copyFrom ∈ TB := tb_m (List.mem_of_getElem? (i := 356) (by decide +kernel)) rfl
set_option maxRecDepth 100000 in
theorem tp_X5_copyFrom : yX5_copyFrom.cls ≠ "java/lang/invoke/MethodHandle" ∧ yX5_copyFrom.cls ≠ "java/lang/invoke/VarHandle" ∧ (parseMethodDescriptor yX5_copyFrom.desc).map (fun d => d.parameters.length) = some 1 := by decide +kernel
set_option maxRecDepth 100000 in
theorem tc_X5_freeBuses : Cond.code yX5_freeBuses cX5_freeBuses 1 (some .int) ∈ TB := tb_m (List.mem_of_getElem? (i := 416) (by decide +kernel)) rfl
set_option maxRecDepth 100000 in
theorem ti_X5_freeBuses : Cond.instanceMethod yX5_freeBuses ∈ TB := tb_m (List.mem_of_getElem? (i := 414) (by decide +kernel)) rfl
set_option maxRecDepth 100000 in
theorem te_X5_freeBuses : Cond.selects RX5 yX5_freeBuses yX5_freeBuses ∈ TB := tb_m (List.mem_of_getElem? (i := 415) (by decide +kernel)) rfl
set_option maxRecDepth 100000 in
theorem tp_X5_freeBuses : yX5_freeBuses.cls ≠ "java/lang/invoke/MethodHandle" ∧ yX5_freeBuses.cls ≠ "java/lang/invoke/VarHandle" ∧ (parseMethodDescriptor yX5_freeBuses.desc).map (fun d => d.parameters.length) = some 0 := by decide +kernel
set_option maxRecDepth 100000 in
theorem tc_X5_lateGangs : Cond.code yX5_lateGangs cX5_lateGangs 3 (some .int) ∈ TB := tb_m (List.mem_of_getElem? (i := 432) (by decide +kernel)) rfl
set_option maxRecDepth 100000 in
theorem ti_X5_lateGangs : Cond.instanceMethod yX5_lateGangs ∈ TB := tb_m (List.mem_of_getElem? (i := 430) (by decide +kernel)) rfl
set_option maxRecDepth 100000 in
theorem te_X5_lateGangs : Cond.selects RX5 yX5_lateGangs yX5_lateGangs ∈ TB := tb_m (List.mem_of_getElem? (i := 431) (by decide +kernel)) rfl
set_option maxRecDepth 100000 in
theorem tp_X5_lateGangs : yX5_lateGangs.cls ≠ "java/lang/invoke/MethodHandle" ∧ yX5_lateGangs.cls ≠ "java/lang/invoke/VarHandle" ∧ (parseMethodDescriptor yX5_lateGangs.desc).map (fun d => d.parameters.length) = some 0 := by decide +kernel
set_option maxRecDepth 100000 in
theorem tc_X5_sendGangOff : Cond.code yX5_sendGangOff cX5_sendGangOff 4 (some .int) ∈ TB := tb_m (List.mem_of_getElem? (i := 555) (by decide +kernel)) rfl
set_option maxRecDepth 100000 in
theorem ti_X5_sendGangOff : Cond.instanceMethod yX5_sendGangOff ∈ TB := tb_m (List.mem_of_getElem? (i := 553) (by decide +kernel)) rfl
set_option maxRecDepth 100000 in
theorem te_X5_sendGangOff : Cond.selects RX5 yX5_sendGangOff yX5_sendGangOff ∈ TB := tb_m (List.mem_of_getElem? (i := 554) (by decide +kernel)) rfl
set_option maxRecDepth 100000 in
theorem tp_X5_sendGangOff : yX5_sendGangOff.cls ≠ "java/lang/invoke/MethodHandle" ∧ yX5_sendGangOff.cls ≠ "java/lang/invoke/VarHandle" ∧ (parseMethodDescriptor yX5_sendGangOff.desc).map (fun d => d.parameters.length) = some 2 := by decide +kernel
set_option maxRecDepth 100000 in
theorem tc_X6_init : Cond.code yX6_init cX6_init 1 none ∈ TB := tb_m (List.mem_of_getElem? (i := 241) (by decide +kernel)) rfl
set_option maxRecDepth 100000 in
theorem ti_X6_init : Cond.instanceMethod yX6_init ∈ TB := tb_m (List.mem_of_getElem? (i := 240) (by decide +kernel)) rfl
set_option maxRecDepth 100000 in
theorem tp_X6_init : yX6_init.cls ≠ "java/lang/invoke/MethodHandle" ∧ yX6_init.cls ≠ "java/lang/invoke/VarHandle" ∧ (parseMethodDescriptor yX6_init.desc).map (fun d => d.parameters.length) = some 0 := by decide +kernel
set_option maxRecDepth 100000 in
theorem tc_X6_characterAt : Cond.code yX6_characterAt cX6_characterAt 2 (some .int) ∈ TB := tb_m (List.mem_of_getElem? (i := 693) (by decide +kernel)) rfl
set_option maxRecDepth 100000 in
theorem ti_X6_characterAt : Cond.instanceMethod yX6_characterAt ∈ TB := tb_m (List.mem_of_getElem? (i := 692) (by decide +kernel)) rfl
set_option maxRecDepth 100000 in
theorem te_X6_characterAt : Cond.selects RX6 yX6_characterAt yX6_characterAt ∈ TB := tb_m (List.mem_of_getElem? (i := 23) (by decide +kernel)) rfl
set_option maxRecDepth 100000 in
theorem tp_X6_characterAt : yX6_characterAt.cls ≠ "java/lang/invoke/MethodHandle" ∧ yX6_characterAt.cls ≠ "java/lang/invoke/VarHandle" ∧ (parseMethodDescriptor yX6_characterAt.desc).map (fun d => d.parameters.length) = some 1 := by decide +kernel
set_option maxRecDepth 100000 in
theorem tc_X6_digitAt : Cond.code yX6_digitAt cX6_digitAt 3 (some .int) ∈ TB := tb_m (List.mem_of_getElem? (i := 701) (by decide +kernel)) rfl
set_option maxRecDepth 100000 in
theorem ti_X6_digitAt : Cond.instanceMethod yX6_digitAt ∈ TB := tb_m (List.mem_of_getElem? (i := 700) (by decide +kernel)) rfl
set_option maxRecDepth 100000 in
theorem te_X6_digitAt : Cond.selects RX6 yX6_digitAt yX6_digitAt ∈ TB := tb_m (List.mem_of_getElem? (i := 24) (by decide +kernel)) rfl
set_option maxRecDepth 100000 in
theorem tp_X6_digitAt : yX6_digitAt.cls ≠ "java/lang/invoke/MethodHandle" ∧ yX6_digitAt.cls ≠ "java/lang/invoke/VarHandle" ∧ (parseMethodDescriptor yX6_digitAt.desc).map (fun d => d.parameters.length) = some 1 := by decide +kernel
set_option maxRecDepth 100000 in
theorem tc_X6_kindOf : Cond.code yX6_kindOf cX6_kindOf 1 (some .int) ∈ TB := tb_m (List.mem_of_getElem? (i := 697) (by decide +kernel)) rfl
set_option maxRecDepth 100000 in
theorem ts_X6_kindOf : Cond.static yX6_kindOf ∈ TB := tb_m (List.mem_of_getElem? (i := 696) (by decide +kernel)) rfl
set_option maxRecDepth 100000 in
theorem tp_X6_kindOf : yX6_kindOf.cls ≠ "java/lang/invoke/MethodHandle" ∧ yX6_kindOf.cls ≠ "java/lang/invoke/VarHandle" ∧ (parseMethodDescriptor yX6_kindOf.desc).map (fun d => d.parameters.length) = some 1 := by decide +kernel
set_option maxRecDepth 100000 in
theorem tc_X6_readStep : Cond.code yX6_readStep cX6_readStep 5 (some .boolean) ∈ TB := tb_m (List.mem_of_getElem? (i := 689) (by decide +kernel)) rfl
set_option maxRecDepth 100000 in
theorem ti_X6_readStep : Cond.instanceMethod yX6_readStep ∈ TB := tb_m (List.mem_of_getElem? (i := 687) (by decide +kernel)) rfl
set_option maxRecDepth 100000 in
theorem te_X6_readStep : Cond.selects RX6 yX6_readStep yX6_readStep ∈ TB := tb_m (List.mem_of_getElem? (i := 688) (by decide +kernel)) rfl
set_option maxRecDepth 100000 in
theorem tp_X6_readStep : yX6_readStep.cls ≠ "java/lang/invoke/MethodHandle" ∧ yX6_readStep.cls ≠ "java/lang/invoke/VarHandle" ∧ (parseMethodDescriptor yX6_readStep.desc).map (fun d => d.parameters.length) = some 1 := by decide +kernel
set_option maxRecDepth 100000 in
theorem tc_X7_init : Cond.code yX7_init cX7_init 1 none ∈ TB := tb_m (List.mem_of_getElem? (i := 49) (by decide +kernel)) rfl
set_option maxRecDepth 100000 in
theorem ti_X7_init : Cond.instanceMethod yX7_init ∈ TB := tb_m (List.mem_of_getElem? (i := 48) (by decide +kernel)) rfl
set_option maxRecDepth 100000 in
theorem tp_X7_init : yX7_init.cls ≠ "java/lang/invoke/MethodHandle" ∧ yX7_init.cls ≠ "java/lang/invoke/VarHandle" ∧ (parseMethodDescriptor yX7_init.desc).map (fun d => d.parameters.length) = some 0 := by decide +kernel
set_option maxRecDepth 100000 in
theorem tc_X7_addIsolator : Cond.code yX7_addIsolator cX7_addIsolator 4 (some .int) ∈ TB := tb_m (List.mem_of_getElem? (i := 396) (by decide +kernel)) rfl
set_option maxRecDepth 100000 in
theorem ti_X7_addIsolator : Cond.instanceMethod yX7_addIsolator ∈ TB := tb_m (List.mem_of_getElem? (i := 394) (by decide +kernel)) rfl
set_option maxRecDepth 100000 in
theorem te_X7_addIsolator : Cond.selects RX7 yX7_addIsolator yX7_addIsolator ∈ TB := tb_m (List.mem_of_getElem? (i := 395) (by decide +kernel)) rfl
set_option maxRecDepth 100000 in
theorem tp_X7_addIsolator : yX7_addIsolator.cls ≠ "java/lang/invoke/MethodHandle" ∧ yX7_addIsolator.cls ≠ "java/lang/invoke/VarHandle" ∧ (parseMethodDescriptor yX7_addIsolator.desc).map (fun d => d.parameters.length) = some 2 := by decide +kernel
set_option maxRecDepth 100000 in
theorem tc_X7_addSection : Cond.code yX7_addSection cX7_addSection 4 (some .int) ∈ TB := tb_m (List.mem_of_getElem? (i := 367) (by decide +kernel)) rfl
set_option maxRecDepth 100000 in
theorem ti_X7_addSection : Cond.instanceMethod yX7_addSection ∈ TB := tb_m (List.mem_of_getElem? (i := 365) (by decide +kernel)) rfl
set_option maxRecDepth 100000 in
theorem te_X7_addSection : Cond.selects RX7 yX7_addSection yX7_addSection ∈ TB := tb_m (List.mem_of_getElem? (i := 366) (by decide +kernel)) rfl
set_option maxRecDepth 100000 in
theorem tp_X7_addSection : yX7_addSection.cls ≠ "java/lang/invoke/MethodHandle" ∧ yX7_addSection.cls ≠ "java/lang/invoke/VarHandle" ∧ (parseMethodDescriptor yX7_addSection.desc).map (fun d => d.parameters.length) = some 2 := by decide +kernel
set_option maxRecDepth 100000 in
theorem tc_X7_againstBridging : Cond.code yX7_againstBridging cX7_againstBridging 2 (some .int) ∈ TB := tb_m (List.mem_of_getElem? (i := 465) (by decide +kernel)) rfl
set_option maxRecDepth 100000 in
theorem ti_X7_againstBridging : Cond.instanceMethod yX7_againstBridging ∈ TB := tb_m (List.mem_of_getElem? (i := 464) (by decide +kernel)) rfl
set_option maxRecDepth 100000 in
theorem te_X7_againstBridging : Cond.selects RX7 yX7_againstBridging yX7_againstBridging ∈ TB := tb_m (List.mem_of_getElem? (i := 3) (by decide +kernel)) rfl
set_option maxRecDepth 100000 in
theorem tp_X7_againstBridging : yX7_againstBridging.cls ≠ "java/lang/invoke/MethodHandle" ∧ yX7_againstBridging.cls ≠ "java/lang/invoke/VarHandle" ∧ (parseMethodDescriptor yX7_againstBridging.desc).map (fun d => d.parameters.length) = some 1 := by decide +kernel
set_option maxRecDepth 100000 in
theorem tc_X7_againstClosing : Cond.code yX7_againstClosing cX7_againstClosing 2 (some .int) ∈ TB := tb_m (List.mem_of_getElem? (i := 490) (by decide +kernel)) rfl
set_option maxRecDepth 100000 in
theorem ti_X7_againstClosing : Cond.instanceMethod yX7_againstClosing ∈ TB := tb_m (List.mem_of_getElem? (i := 489) (by decide +kernel)) rfl
set_option maxRecDepth 100000 in
theorem te_X7_againstClosing : Cond.selects RX7 yX7_againstClosing yX7_againstClosing ∈ TB := tb_m (List.mem_of_getElem? (i := 9) (by decide +kernel)) rfl
set_option maxRecDepth 100000 in
theorem tp_X7_againstClosing : yX7_againstClosing.cls ≠ "java/lang/invoke/MethodHandle" ∧ yX7_againstClosing.cls ≠ "java/lang/invoke/VarHandle" ∧ (parseMethodDescriptor yX7_againstClosing.desc).map (fun d => d.parameters.length) = some 1 := by decide +kernel
set_option maxRecDepth 100000 in
theorem tc_X7_againstEarthing : Cond.code yX7_againstEarthing cX7_againstEarthing 2 (some .int) ∈ TB := tb_m (List.mem_of_getElem? (i := 518) (by decide +kernel)) rfl
set_option maxRecDepth 100000 in
theorem ti_X7_againstEarthing : Cond.instanceMethod yX7_againstEarthing ∈ TB := tb_m (List.mem_of_getElem? (i := 517) (by decide +kernel)) rfl
set_option maxRecDepth 100000 in
theorem te_X7_againstEarthing : Cond.selects RX7 yX7_againstEarthing yX7_againstEarthing ∈ TB := tb_m (List.mem_of_getElem? (i := 16) (by decide +kernel)) rfl
set_option maxRecDepth 100000 in
theorem tp_X7_againstEarthing : yX7_againstEarthing.cls ≠ "java/lang/invoke/MethodHandle" ∧ yX7_againstEarthing.cls ≠ "java/lang/invoke/VarHandle" ∧ (parseMethodDescriptor yX7_againstEarthing.desc).map (fun d => d.parameters.length) = some 1 := by decide +kernel
set_option maxRecDepth 100000 in
theorem tc_X7_againstOpening : Cond.code yX7_againstOpening cX7_againstOpening 2 (some .int) ∈ TB := tb_m (List.mem_of_getElem? (i := 474) (by decide +kernel)) rfl
set_option maxRecDepth 100000 in
theorem ti_X7_againstOpening : Cond.instanceMethod yX7_againstOpening ∈ TB := tb_m (List.mem_of_getElem? (i := 473) (by decide +kernel)) rfl
set_option maxRecDepth 100000 in
theorem te_X7_againstOpening : Cond.selects RX7 yX7_againstOpening yX7_againstOpening ∈ TB := tb_m (List.mem_of_getElem? (i := 5) (by decide +kernel)) rfl
set_option maxRecDepth 100000 in
theorem tp_X7_againstOpening : yX7_againstOpening.cls ≠ "java/lang/invoke/MethodHandle" ∧ yX7_againstOpening.cls ≠ "java/lang/invoke/VarHandle" ∧ (parseMethodDescriptor yX7_againstOpening.desc).map (fun d => d.parameters.length) = some 1 := by decide +kernel
set_option maxRecDepth 100000 in
theorem tc_X7_againstTakingEarth : Cond.code yX7_againstTakingEarth cX7_againstTakingEarth 2 (some .int) ∈ TB := tb_m (List.mem_of_getElem? (i := 522) (by decide +kernel)) rfl
set_option maxRecDepth 100000 in
theorem ti_X7_againstTakingEarth : Cond.instanceMethod yX7_againstTakingEarth ∈ TB := tb_m (List.mem_of_getElem? (i := 521) (by decide +kernel)) rfl
set_option maxRecDepth 100000 in
theorem te_X7_againstTakingEarth : Cond.selects RX7 yX7_againstTakingEarth yX7_againstTakingEarth ∈ TB := tb_m (List.mem_of_getElem? (i := 17) (by decide +kernel)) rfl
set_option maxRecDepth 100000 in
theorem tp_X7_againstTakingEarth : yX7_againstTakingEarth.cls ≠ "java/lang/invoke/MethodHandle" ∧ yX7_againstTakingEarth.cls ≠ "java/lang/invoke/VarHandle" ∧ (parseMethodDescriptor yX7_againstTakingEarth.desc).map (fun d => d.parameters.length) = some 1 := by decide +kernel
set_option maxRecDepth 100000 in
theorem tc_X7_againstTrams : Cond.code yX7_againstTrams cX7_againstTrams 2 (some .int) ∈ TB := tb_m (List.mem_of_getElem? (i := 470) (by decide +kernel)) rfl
set_option maxRecDepth 100000 in
theorem ti_X7_againstTrams : Cond.instanceMethod yX7_againstTrams ∈ TB := tb_m (List.mem_of_getElem? (i := 469) (by decide +kernel)) rfl
set_option maxRecDepth 100000 in
theorem te_X7_againstTrams : Cond.selects RX7 yX7_againstTrams yX7_againstTrams ∈ TB := tb_m (List.mem_of_getElem? (i := 4) (by decide +kernel)) rfl
set_option maxRecDepth 100000 in
theorem tp_X7_againstTrams : yX7_againstTrams.cls ≠ "java/lang/invoke/MethodHandle" ∧ yX7_againstTrams.cls ≠ "java/lang/invoke/VarHandle" ∧ (parseMethodDescriptor yX7_againstTrams.desc).map (fun d => d.parameters.length) = some 1 := by decide +kernel
set_option maxRecDepth 100000 in
theorem tc_X7_againstTurningOff : Cond.code yX7_againstTurningOff cX7_againstTurningOff 2 (some .int) ∈ TB := tb_m (List.mem_of_getElem? (i := 506) (by decide +kernel)) rfl
set_option maxRecDepth 100000 in
theorem ti_X7_againstTurningOff : Cond.instanceMethod yX7_againstTurningOff ∈ TB := tb_m (List.mem_of_getElem? (i := 505) (by decide +kernel)) rfl
set_option maxRecDepth 100000 in
theorem te_X7_againstTurningOff : Cond.selects RX7 yX7_againstTurningOff yX7_againstTurningOff ∈ TB := tb_m (List.mem_of_getElem? (i := 13) (by decide +kernel)) rfl
set_option maxRecDepth 100000 in
theorem tp_X7_againstTurningOff : yX7_againstTurningOff.cls ≠ "java/lang/invoke/MethodHandle" ∧ yX7_againstTurningOff.cls ≠ "java/lang/invoke/VarHandle" ∧ (parseMethodDescriptor yX7_againstTurningOff.desc).map (fun d => d.parameters.length) = some 1 := by decide +kernel
set_option maxRecDepth 100000 in
theorem tc_X7_againstTurningOn : Cond.code yX7_againstTurningOn cX7_againstTurningOn 2 (some .int) ∈ TB := tb_m (List.mem_of_getElem? (i := 514) (by decide +kernel)) rfl
set_option maxRecDepth 100000 in
theorem ti_X7_againstTurningOn : Cond.instanceMethod yX7_againstTurningOn ∈ TB := tb_m (List.mem_of_getElem? (i := 513) (by decide +kernel)) rfl
set_option maxRecDepth 100000 in
theorem te_X7_againstTurningOn : Cond.selects RX7 yX7_againstTurningOn yX7_againstTurningOn ∈ TB := tb_m (List.mem_of_getElem? (i := 15) (by decide +kernel)) rfl
set_option maxRecDepth 100000 in
theorem tp_X7_againstTurningOn : yX7_againstTurningOn.cls ≠ "java/lang/invoke/MethodHandle" ∧ yX7_againstTurningOn.cls ≠ "java/lang/invoke/VarHandle" ∧ (parseMethodDescriptor yX7_againstTurningOn.desc).map (fun d => d.parameters.length) = some 1 := by decide +kernel
set_option maxRecDepth 100000 in
theorem tc_X7_copyFrom : Cond.code yX7_copyFrom cX7_copyFrom 2 none ∈ TB := tb_m (List.mem_of_getElem? (i := 346) (by decide +kernel)) rfl
set_option maxRecDepth 100000 in
theorem ti_X7_copyFrom : Cond.instanceMethod yX7_copyFrom ∈ TB := tb_m (List.mem_of_getElem? (i := 344) (by decide +kernel)) rfl
set_option maxRecDepth 100000 in
theorem te_X7_copyFrom : Cond.selects RX7 yX7_copyFrom yX7_copyFrom ∈ TB := tb_m (List.mem_of_getElem? (i := 345) (by decide +kernel)) rfl
set_option maxRecDepth 100000 in
theorem tp_X7_copyFrom : yX7_copyFrom.cls ≠ "java/lang/invoke/MethodHandle" ∧ yX7_copyFrom.cls ≠ "java/lang/invoke/VarHandle" ∧ (parseMethodDescriptor yX7_copyFrom.desc).map (fun d => d.parameters.length) = some 1 := by decide +kernel
set_option maxRecDepth 100000 in
theorem tc_X7_darkenedByOpening : Cond.code yX7_darkenedByOpening cX7_darkenedByOpening 4 (some .int) ∈ TB := tb_m (List.mem_of_getElem? (i := 627) (by decide +kernel)) rfl
set_option maxRecDepth 100000 in
theorem ti_X7_darkenedByOpening : Cond.instanceMethod yX7_darkenedByOpening ∈ TB := tb_m (List.mem_of_getElem? (i := 625) (by decide +kernel)) rfl
set_option maxRecDepth 100000 in
theorem te_X7_darkenedByOpening : Cond.selects RX7 yX7_darkenedByOpening yX7_darkenedByOpening ∈ TB := tb_m (List.mem_of_getElem? (i := 626) (by decide +kernel)) rfl
set_option maxRecDepth 100000 in
theorem tp_X7_darkenedByOpening : yX7_darkenedByOpening.cls ≠ "java/lang/invoke/MethodHandle" ∧ yX7_darkenedByOpening.cls ≠ "java/lang/invoke/VarHandle" ∧ (parseMethodDescriptor yX7_darkenedByOpening.desc).map (fun d => d.parameters.length) = some 1 := by decide +kernel
set_option maxRecDepth 100000 in
theorem tc_X7_goOutward : Cond.code yX7_goOutward cX7_goOutward 4 none ∈ TB := tb_m (List.mem_of_getElem? (i := 601) (by decide +kernel)) rfl
set_option maxRecDepth 100000 in
theorem ti_X7_goOutward : Cond.instanceMethod yX7_goOutward ∈ TB := tb_m (List.mem_of_getElem? (i := 600) (by decide +kernel)) rfl
set_option maxRecDepth 100000 in
theorem te_X7_goOutward : Cond.selects RX7 yX7_goOutward yX7_goOutward ∈ TB := tb_m (List.mem_of_getElem? (i := 20) (by decide +kernel)) rfl
set_option maxRecDepth 100000 in
theorem tp_X7_goOutward : yX7_goOutward.cls ≠ "java/lang/invoke/MethodHandle" ∧ yX7_goOutward.cls ≠ "java/lang/invoke/VarHandle" ∧ (parseMethodDescriptor yX7_goOutward.desc).map (fun d => d.parameters.length) = some 0 := by decide +kernel
set_option maxRecDepth 100000 in
theorem tc_X7_hasIsolator : Cond.code yX7_hasIsolator cX7_hasIsolator 2 (some .boolean) ∈ TB := tb_m (List.mem_of_getElem? (i := 456) (by decide +kernel)) rfl
set_option maxRecDepth 100000 in
theorem ti_X7_hasIsolator : Cond.instanceMethod yX7_hasIsolator ∈ TB := tb_m (List.mem_of_getElem? (i := 454) (by decide +kernel)) rfl
set_option maxRecDepth 100000 in
theorem te_X7_hasIsolator : Cond.selects RX7 yX7_hasIsolator yX7_hasIsolator ∈ TB := tb_m (List.mem_of_getElem? (i := 455) (by decide +kernel)) rfl
set_option maxRecDepth 100000 in
theorem tp_X7_hasIsolator : yX7_hasIsolator.cls ≠ "java/lang/invoke/MethodHandle" ∧ yX7_hasIsolator.cls ≠ "java/lang/invoke/VarHandle" ∧ (parseMethodDescriptor yX7_hasIsolator.desc).map (fun d => d.parameters.length) = some 1 := by decide +kernel
set_option maxRecDepth 100000 in
theorem tc_X7_hasPlace : Cond.code yX7_hasPlace cX7_hasPlace 3 (some .boolean) ∈ TB := tb_m (List.mem_of_getElem? (i := 452) (by decide +kernel)) rfl
set_option maxRecDepth 100000 in
theorem ti_X7_hasPlace : Cond.instanceMethod yX7_hasPlace ∈ TB := tb_m (List.mem_of_getElem? (i := 450) (by decide +kernel)) rfl
set_option maxRecDepth 100000 in
theorem te_X7_hasPlace : Cond.selects RX7 yX7_hasPlace yX7_hasPlace ∈ TB := tb_m (List.mem_of_getElem? (i := 451) (by decide +kernel)) rfl
set_option maxRecDepth 100000 in
theorem tp_X7_hasPlace : yX7_hasPlace.cls ≠ "java/lang/invoke/MethodHandle" ∧ yX7_hasPlace.cls ≠ "java/lang/invoke/VarHandle" ∧ (parseMethodDescriptor yX7_hasPlace.desc).map (fun d => d.parameters.length) = some 2 := by decide +kernel
set_option maxRecDepth 100000 in
theorem tc_X7_hasSection : Cond.code yX7_hasSection cX7_hasSection 2 (some .boolean) ∈ TB := tb_m (List.mem_of_getElem? (i := 383) (by decide +kernel)) rfl
set_option maxRecDepth 100000 in
theorem ti_X7_hasSection : Cond.instanceMethod yX7_hasSection ∈ TB := tb_m (List.mem_of_getElem? (i := 381) (by decide +kernel)) rfl
set_option maxRecDepth 100000 in
theorem te_X7_hasSection : Cond.selects RX7 yX7_hasSection yX7_hasSection ∈ TB := tb_m (List.mem_of_getElem? (i := 382) (by decide +kernel)) rfl
set_option maxRecDepth 100000 in
theorem tp_X7_hasSection : yX7_hasSection.cls ≠ "java/lang/invoke/MethodHandle" ∧ yX7_hasSection.cls ≠ "java/lang/invoke/VarHandle" ∧ (parseMethodDescriptor yX7_hasSection.desc).map (fun d => d.parameters.length) = some 1 := by decide +kernel
set_option maxRecDepth 100000 in
theorem tc_X7_isClosedByLog : Cond.code yX7_isClosedByLog cX7_isClosedByLog 2 (some .boolean) ∈ TB := tb_m (List.mem_of_getElem? (i := 623) (by decide +kernel)) rfl
set_option maxRecDepth 100000 in
theorem ti_X7_isClosedByLog : Cond.instanceMethod yX7_isClosedByLog ∈ TB := tb_m (List.mem_of_getElem? (i := 621) (by decide +kernel)) rfl
set_option maxRecDepth 100000 in
theorem te_X7_isClosedByLog : Cond.selects RX7 yX7_isClosedByLog yX7_isClosedByLog ∈ TB := tb_m (List.mem_of_getElem? (i := 622) (by decide +kernel)) rfl
set_option maxRecDepth 100000 in
theorem tp_X7_isClosedByLog : yX7_isClosedByLog.cls ≠ "java/lang/invoke/MethodHandle" ∧ yX7_isClosedByLog.cls ≠ "java/lang/invoke/VarHandle" ∧ (parseMethodDescriptor yX7_isClosedByLog.desc).map (fun d => d.parameters.length) = some 1 := by decide +kernel
set_option maxRecDepth 100000 in
theorem tc_X7_isLiveByLog : Cond.code yX7_isLiveByLog cX7_isLiveByLog 3 (some .boolean) ∈ TB := tb_m (List.mem_of_getElem? (i := 593) (by decide +kernel)) rfl
set_option maxRecDepth 100000 in
theorem ti_X7_isLiveByLog : Cond.instanceMethod yX7_isLiveByLog ∈ TB := tb_m (List.mem_of_getElem? (i := 591) (by decide +kernel)) rfl
set_option maxRecDepth 100000 in
theorem te_X7_isLiveByLog : Cond.selects RX7 yX7_isLiveByLog yX7_isLiveByLog ∈ TB := tb_m (List.mem_of_getElem? (i := 592) (by decide +kernel)) rfl
set_option maxRecDepth 100000 in
theorem tp_X7_isLiveByLog : yX7_isLiveByLog.cls ≠ "java/lang/invoke/MethodHandle" ∧ yX7_isLiveByLog.cls ≠ "java/lang/invoke/VarHandle" ∧ (parseMethodDescriptor yX7_isLiveByLog.desc).map (fun d => d.parameters.length) = some 1 := by decide +kernel
set_option maxRecDepth 100000 in
theorem tc_X7_joiningEndangers : Cond.code yX7_joiningEndangers cX7_joiningEndangers 7 (some .boolean) ∈ TB := tb_m (List.mem_of_getElem? (i := 388) (by decide +kernel)) rfl
set_option maxRecDepth 100000 in
theorem ti_X7_joiningEndangers : Cond.instanceMethod yX7_joiningEndangers ∈ TB := tb_m (List.mem_of_getElem? (i := 386) (by decide +kernel)) rfl
set_option maxRecDepth 100000 in
theorem te_X7_joiningEndangers : Cond.selects RX7 yX7_joiningEndangers yX7_joiningEndangers ∈ TB := tb_m (List.mem_of_getElem? (i := 387) (by decide +kernel)) rfl
set_option maxRecDepth 100000 in
theorem tp_X7_joiningEndangers : yX7_joiningEndangers.cls ≠ "java/lang/invoke/MethodHandle" ∧ yX7_joiningEndangers.cls ≠ "java/lang/invoke/VarHandle" ∧ (parseMethodDescriptor yX7_joiningEndangers.desc).map (fun d => d.parameters.length) = some 2 := by decide +kernel
set_option maxRecDepth 100000 in
theorem tc_X7_litByClosing : Cond.code yX7_litByClosing cX7_litByClosing 4 (some .int) ∈ TB := tb_m (List.mem_of_getElem? (i := 631) (by decide +kernel)) rfl
set_option maxRecDepth 100000 in
theorem ti_X7_litByClosing : Cond.instanceMethod yX7_litByClosing ∈ TB := tb_m (List.mem_of_getElem? (i := 629) (by decide +kernel)) rfl
set_option maxRecDepth 100000 in
theorem te_X7_litByClosing : Cond.selects RX7 yX7_litByClosing yX7_litByClosing ∈ TB := tb_m (List.mem_of_getElem? (i := 630) (by decide +kernel)) rfl
set_option maxRecDepth 100000 in
theorem tp_X7_litByClosing : yX7_litByClosing.cls ≠ "java/lang/invoke/MethodHandle" ∧ yX7_litByClosing.cls ≠ "java/lang/invoke/VarHandle" ∧ (parseMethodDescriptor yX7_litByClosing.desc).map (fun d => d.parameters.length) = some 1 := by decide +kernel
set_option maxRecDepth 100000 in
theorem tc_X7_make : Cond.code yX7_make cX7_make 3 none ∈ TB := tb_m (List.mem_of_getElem? (i := 526) (by decide +kernel)) rfl
set_option maxRecDepth 100000 in
theorem ti_X7_make : Cond.instanceMethod yX7_make ∈ TB := tb_m (List.mem_of_getElem? (i := 524) (by decide +kernel)) rfl
set_option maxRecDepth 100000 in
theorem te_X7_make : Cond.selects RX7 yX7_make yX7_make ∈ TB := tb_m (List.mem_of_getElem? (i := 525) (by decide +kernel)) rfl
set_option maxRecDepth 100000 in
theorem tp_X7_make : yX7_make.cls ≠ "java/lang/invoke/MethodHandle" ∧ yX7_make.cls ≠ "java/lang/invoke/VarHandle" ∧ (parseMethodDescriptor yX7_make.desc).map (fun d => d.parameters.length) = some 2 := by decide +kernel
set_option maxRecDepth 100000 in
theorem tc_X7_reasonAgainst : Cond.code yX7_reasonAgainst cX7_reasonAgainst 3 (some .int) ∈ TB := tb_m (List.mem_of_getElem? (i := 461) (by decide +kernel)) rfl
set_option maxRecDepth 100000 in
theorem ti_X7_reasonAgainst : Cond.instanceMethod yX7_reasonAgainst ∈ TB := tb_m (List.mem_of_getElem? (i := 459) (by decide +kernel)) rfl
set_option maxRecDepth 100000 in
theorem te_X7_reasonAgainst : Cond.selects RX7 yX7_reasonAgainst yX7_reasonAgainst ∈ TB := tb_m (List.mem_of_getElem? (i := 460) (by decide +kernel)) rfl
set_option maxRecDepth 100000 in
theorem tp_X7_reasonAgainst : yX7_reasonAgainst.cls ≠ "java/lang/invoke/MethodHandle" ∧ yX7_reasonAgainst.cls ≠ "java/lang/invoke/VarHandle" ∧ (parseMethodDescriptor yX7_reasonAgainst.desc).map (fun d => d.parameters.length) = some 2 := by decide +kernel
set_option maxRecDepth 100000 in
theorem tc_X7_supposeFeeder : Cond.code yX7_supposeFeeder cX7_supposeFeeder 3 none ∈ TB := tb_m (List.mem_of_getElem? (i := 510) (by decide +kernel)) rfl
set_option maxRecDepth 100000 in
theorem ti_X7_supposeFeeder : Cond.instanceMethod yX7_supposeFeeder ∈ TB := tb_m (List.mem_of_getElem? (i := 509) (by decide +kernel)) rfl
set_option maxRecDepth 100000 in
theorem te_X7_supposeFeeder : Cond.selects RX7 yX7_supposeFeeder yX7_supposeFeeder ∈ TB := tb_m (List.mem_of_getElem? (i := 14) (by decide +kernel)) rfl
set_option maxRecDepth 100000 in
theorem tp_X7_supposeFeeder : yX7_supposeFeeder.cls ≠ "java/lang/invoke/MethodHandle" ∧ yX7_supposeFeeder.cls ≠ "java/lang/invoke/VarHandle" ∧ (parseMethodDescriptor yX7_supposeFeeder.desc).map (fun d => d.parameters.length) = some 2 := by decide +kernel
set_option maxRecDepth 100000 in
theorem tc_X7_supposeIsolator : Cond.code yX7_supposeIsolator cX7_supposeIsolator 3 none ∈ TB := tb_m (List.mem_of_getElem? (i := 478) (by decide +kernel)) rfl
set_option maxRecDepth 100000 in
theorem ti_X7_supposeIsolator : Cond.instanceMethod yX7_supposeIsolator ∈ TB := tb_m (List.mem_of_getElem? (i := 477) (by decide +kernel)) rfl
set_option maxRecDepth 100000 in
theorem te_X7_supposeIsolator : Cond.selects RX7 yX7_supposeIsolator yX7_supposeIsolator ∈ TB := tb_m (List.mem_of_getElem? (i := 6) (by decide +kernel)) rfl
set_option maxRecDepth 100000 in
theorem tp_X7_supposeIsolator : yX7_supposeIsolator.cls ≠ "java/lang/invoke/MethodHandle" ∧ yX7_supposeIsolator.cls ≠ "java/lang/invoke/VarHandle" ∧ (parseMethodDescriptor yX7_supposeIsolator.desc).map (fun d => d.parameters.length) = some 2 := by decide +kernel
set_option maxRecDepth 100000 in
theorem tc_X7_wouldDarken : Cond.code yX7_wouldDarken cX7_wouldDarken 2 (some .boolean) ∈ TB := tb_m (List.mem_of_getElem? (i := 486) (by decide +kernel)) rfl
set_option maxRecDepth 100000 in
theorem ti_X7_wouldDarken : Cond.instanceMethod yX7_wouldDarken ∈ TB := tb_m (List.mem_of_getElem? (i := 485) (by decide +kernel)) rfl
set_option maxRecDepth 100000 in
theorem te_X7_wouldDarken : Cond.selects RX7 yX7_wouldDarken yX7_wouldDarken ∈ TB := tb_m (List.mem_of_getElem? (i := 8) (by decide +kernel)) rfl
set_option maxRecDepth 100000 in
theorem tp_X7_wouldDarken : yX7_wouldDarken.cls ≠ "java/lang/invoke/MethodHandle" ∧ yX7_wouldDarken.cls ≠ "java/lang/invoke/VarHandle" ∧ (parseMethodDescriptor yX7_wouldDarken.desc).map (fun d => d.parameters.length) = some 1 := by decide +kernel
set_option maxRecDepth 100000 in
theorem tc_X7_wouldDarkenTrams : Cond.code yX7_wouldDarkenTrams cX7_wouldDarkenTrams 2 (some .boolean) ∈ TB := tb_m (List.mem_of_getElem? (i := 482) (by decide +kernel)) rfl
set_option maxRecDepth 100000 in
theorem ti_X7_wouldDarkenTrams : Cond.instanceMethod yX7_wouldDarkenTrams ∈ TB := tb_m (List.mem_of_getElem? (i := 481) (by decide +kernel)) rfl
set_option maxRecDepth 100000 in
theorem te_X7_wouldDarkenTrams : Cond.selects RX7 yX7_wouldDarkenTrams yX7_wouldDarkenTrams ∈ TB := tb_m (List.mem_of_getElem? (i := 7) (by decide +kernel)) rfl
set_option maxRecDepth 100000 in
theorem tp_X7_wouldDarkenTrams : yX7_wouldDarkenTrams.cls ≠ "java/lang/invoke/MethodHandle" ∧ yX7_wouldDarkenTrams.cls ≠ "java/lang/invoke/VarHandle" ∧ (parseMethodDescriptor yX7_wouldDarkenTrams.desc).map (fun d => d.parameters.length) = some 0 := by decide +kernel
set_option maxRecDepth 100000 in
theorem tc_X7_wouldLight : Cond.code yX7_wouldLight cX7_wouldLight 2 (some .boolean) ∈ TB := tb_m (List.mem_of_getElem? (i := 498) (by decide +kernel)) rfl
set_option maxRecDepth 100000 in
theorem ti_X7_wouldLight : Cond.instanceMethod yX7_wouldLight ∈ TB := tb_m (List.mem_of_getElem? (i := 497) (by decide +kernel)) rfl
set_option maxRecDepth 100000 in
theorem te_X7_wouldLight : Cond.selects RX7 yX7_wouldLight yX7_wouldLight ∈ TB := tb_m (List.mem_of_getElem? (i := 11) (by decide +kernel)) rfl
set_option maxRecDepth 100000 in
theorem tp_X7_wouldLight : yX7_wouldLight.cls ≠ "java/lang/invoke/MethodHandle" ∧ yX7_wouldLight.cls ≠ "java/lang/invoke/VarHandle" ∧ (parseMethodDescriptor yX7_wouldLight.desc).map (fun d => d.parameters.length) = some 1 := by decide +kernel
set_option maxRecDepth 100000 in
theorem tc_X7_wouldLightEarth : Cond.code yX7_wouldLightEarth cX7_wouldLightEarth 2 (some .boolean) ∈ TB := tb_m (List.mem_of_getElem? (i := 494) (by decide +kernel)) rfl
set_option maxRecDepth 100000 in
theorem ti_X7_wouldLightEarth : Cond.instanceMethod yX7_wouldLightEarth ∈ TB := tb_m (List.mem_of_getElem? (i := 493) (by decide +kernel)) rfl
set_option maxRecDepth 100000 in
theorem te_X7_wouldLightEarth : Cond.selects RX7 yX7_wouldLightEarth yX7_wouldLightEarth ∈ TB := tb_m (List.mem_of_getElem? (i := 10) (by decide +kernel)) rfl
set_option maxRecDepth 100000 in
theorem tp_X7_wouldLightEarth : yX7_wouldLightEarth.cls ≠ "java/lang/invoke/MethodHandle" ∧ yX7_wouldLightEarth.cls ≠ "java/lang/invoke/VarHandle" ∧ (parseMethodDescriptor yX7_wouldLightEarth.desc).map (fun d => d.parameters.length) = some 0 := by decide +kernel
set_option maxRecDepth 100000 in
theorem tc_X7_wouldLightTools : Cond.code yX7_wouldLightTools cX7_wouldLightTools 2 (some .boolean) ∈ TB := tb_m (List.mem_of_getElem? (i := 502) (by decide +kernel)) rfl
set_option maxRecDepth 100000 in
theorem ti_X7_wouldLightTools : Cond.instanceMethod yX7_wouldLightTools ∈ TB := tb_m (List.mem_of_getElem? (i := 501) (by decide +kernel)) rfl
set_option maxRecDepth 100000 in
theorem te_X7_wouldLightTools : Cond.selects RX7 yX7_wouldLightTools yX7_wouldLightTools ∈ TB := tb_m (List.mem_of_getElem? (i := 12) (by decide +kernel)) rfl
set_option maxRecDepth 100000 in
theorem tp_X7_wouldLightTools : yX7_wouldLightTools.cls ≠ "java/lang/invoke/MethodHandle" ∧ yX7_wouldLightTools.cls ≠ "java/lang/invoke/VarHandle" ∧ (parseMethodDescriptor yX7_wouldLightTools.desc).map (fun d => d.parameters.length) = some 0 := by decide +kernel
set_option maxRecDepth 100000 in
theorem tc_L_isFault : Cond.code yL_isFault cL_isFault 9 (some .boolean) ∈ TB := tb_m (List.mem_of_getElem? (i := 718) (by decide +kernel)) rfl
set_option maxRecDepth 100000 in
theorem ts_L_isFault : Cond.static yL_isFault ∈ TB := tb_m (List.mem_of_getElem? (i := 717) (by decide +kernel)) rfl
set_option maxRecDepth 100000 in
theorem tp_L_isFault : yL_isFault.cls ≠ "java/lang/invoke/MethodHandle" ∧ yL_isFault.cls ≠ "java/lang/invoke/VarHandle" ∧ (parseMethodDescriptor yL_isFault.desc).map (fun d => d.parameters.length) = some 6 := by decide +kernel
set_option maxRecDepth 100000 in
theorem tc_L_known : Cond.code yL_known cL_known 2 (some .boolean) ∈ TB := tb_m (List.mem_of_getElem? (i := 757) rfl) rfl
set_option maxRecDepth 100000 in
theorem ts_L_known : Cond.static yL_known ∈ TB := tb_m (List.mem_of_getElem? (i := 756) (by decide +kernel)) rfl
set_option maxRecDepth 100000 in
theorem tp_L_known : yL_known.cls ≠ "java/lang/invoke/MethodHandle" ∧ yL_known.cls ≠ "java/lang/invoke/VarHandle" ∧ (parseMethodDescriptor yL_known.desc).map (fun d => d.parameters.length) = some 0 := by decide +kernel
set_option maxRecDepth 100000 in
theorem tc_L_mixed : Cond.code yL_mixed cL_mixed 4 (some .long) ∈ TB := tb_m (List.mem_of_getElem? (i := 581) (by decide +kernel)) rfl
set_option maxRecDepth 100000 in
theorem ts_L_mixed : Cond.static yL_mixed ∈ TB := tb_m (List.mem_of_getElem? (i := 580) (by decide +kernel)) rfl
set_option maxRecDepth 100000 in
theorem tp_L_mixed : yL_mixed.cls ≠ "java/lang/invoke/MethodHandle" ∧ yL_mixed.cls ≠ "java/lang/invoke/VarHandle" ∧ (parseMethodDescriptor yL_mixed.desc).map (fun d => d.parameters.length) = some 2 := by decide +kernel
set_option maxRecDepth 100000 in
theorem tc_L_part : Cond.code yL_part cL_part 2 (some .int) ∈ TB := tb_m (List.mem_of_getElem? (i := 569) (by decide +kernel)) rfl
set_option maxRecDepth 100000 in
theorem ts_L_part : Cond.static yL_part ∈ TB := tb_m (List.mem_of_getElem? (i := 568) (by decide +kernel)) rfl
set_option maxRecDepth 100000 in
theorem tp_L_part : yL_part.cls ≠ "java/lang/invoke/MethodHandle" ∧ yL_part.cls ≠ "java/lang/invoke/VarHandle" ∧ (parseMethodDescriptor yL_part.desc).map (fun d => d.parameters.length) = some 2 := by decide +kernel
set_option maxRecDepth 100000 in
theorem tc_L_refused : Cond.code yL_refused cL_refused 3 (some .boolean) ∈ TB := tb_m (List.mem_of_getElem? (i := 638) (by decide +kernel)) rfl
set_option maxRecDepth 100000 in
theorem ts_L_refused : Cond.static yL_refused ∈ TB := tb_m (List.mem_of_getElem? (i := 637) (by decide +kernel)) rfl
set_option maxRecDepth 100000 in
theorem tp_L_refused : yL_refused.cls ≠ "java/lang/invoke/MethodHandle" ∧ yL_refused.cls ≠ "java/lang/invoke/VarHandle" ∧ (parseMethodDescriptor yL_refused.desc).map (fun d => d.parameters.length) = some 1 := by decide +kernel
set_option maxRecDepth 100000 in
theorem tc_L_refusesPlaces : Cond.code yL_refusesPlaces cL_refusesPlaces 6 (some .boolean) ∈ TB := tb_m (List.mem_of_getElem? (i := 641) (by decide +kernel)) rfl
set_option maxRecDepth 100000 in
theorem ts_L_refusesPlaces : Cond.static yL_refusesPlaces ∈ TB := tb_m (List.mem_of_getElem? (i := 640) (by decide +kernel)) rfl
set_option maxRecDepth 100000 in
theorem tp_L_refusesPlaces : yL_refusesPlaces.cls ≠ "java/lang/invoke/MethodHandle" ∧ yL_refusesPlaces.cls ≠ "java/lang/invoke/VarHandle" ∧ (parseMethodDescriptor yL_refusesPlaces.desc).map (fun d => d.parameters.length) = some 1 := by decide +kernel
set_option maxRecDepth 100000 in
theorem tc_L_state : Cond.code yL_state cL_state 4 (some .long) ∈ TB := tb_m (List.mem_of_getElem? (i := 577) (by decide +kernel)) rfl
set_option maxRecDepth 100000 in
theorem ts_L_state : Cond.static yL_state ∈ TB := tb_m (List.mem_of_getElem? (i := 576) (by decide +kernel)) rfl
set_option maxRecDepth 100000 in
theorem tp_L_state : yL_state.cls ≠ "java/lang/invoke/MethodHandle" ∧ yL_state.cls ≠ "java/lang/invoke/VarHandle" ∧ (parseMethodDescriptor yL_state.desc).map (fun d => d.parameters.length) = some 1 := by decide +kernel
set_option maxRecDepth 100000 in
theorem tc_L_take : Cond.code yL_take cL_take 2 (some .int) ∈ TB := tb_m (List.mem_of_getElem? (i := 573) (by decide +kernel)) rfl
set_option maxRecDepth 100000 in
theorem ts_L_take : Cond.static yL_take ∈ TB := tb_m (List.mem_of_getElem? (i := 572) (by decide +kernel)) rfl
set_option maxRecDepth 100000 in
theorem tp_L_take : yL_take.cls ≠ "java/lang/invoke/MethodHandle" ∧ yL_take.cls ≠ "java/lang/invoke/VarHandle" ∧ (parseMethodDescriptor yL_take.desc).map (fun d => d.parameters.length) = some 2 := by decide +kernel
set_option maxRecDepth 100000 in
theorem tc_L_texts : Cond.code yL_texts cL_texts 4 (some .boolean) ∈ TB := tb_m (List.mem_of_getElem? (i := 706) rfl) rfl
set_option maxRecDepth 100000 in
theorem ts_L_texts : Cond.static yL_texts ∈ TB := tb_m (List.mem_of_getElem? (i := 705) (by decide +kernel)) rfl
set_option maxRecDepth 100000 in
theorem tp_L_texts : yL_texts.cls ≠ "java/lang/invoke/MethodHandle" ∧ yL_texts.cls ≠ "java/lang/invoke/VarHandle" ∧ (parseMethodDescriptor yL_texts.desc).map (fun d => d.parameters.length) = some 0 := by decide +kernel
set_option maxRecDepth 100000 in
theorem tc_L_three : Cond.code yL_three cL_three 2 (some (.object "TramWires")) ∈ TB := tb_m (List.mem_of_getElem? (i := 709) (by decide +kernel)) rfl
set_option maxRecDepth 100000 in
theorem ts_L_three : Cond.static yL_three ∈ TB := tb_m (List.mem_of_getElem? (i := 708) (by decide +kernel)) rfl
set_option maxRecDepth 100000 in
theorem tp_L_three : yL_three.cls ≠ "java/lang/invoke/MethodHandle" ∧ yL_three.cls ≠ "java/lang/invoke/VarHandle" ∧ (parseMethodDescriptor yL_three.desc).map (fun d => d.parameters.length) = some 0 := by decide +kernel
set_option maxRecDepth 100000 in
theorem tc_L_types : Cond.code yL_types cL_types 5 none ∈ TB := tb_m (List.mem_of_getElem? (i := 725) (by decide +kernel)) rfl
set_option maxRecDepth 100000 in
theorem ts_L_types : Cond.static yL_types ∈ TB := tb_m (List.mem_of_getElem? (i := 724) (by decide +kernel)) rfl
set_option maxRecDepth 100000 in
theorem tp_L_types : yL_types.cls ≠ "java/lang/invoke/MethodHandle" ∧ yL_types.cls ≠ "java/lang/invoke/VarHandle" ∧ (parseMethodDescriptor yL_types.desc).map (fun d => d.parameters.length) = some 2 := by decide +kernel
set_option maxRecDepth 100000 in
theorem tm_X8_18 : Cond.methodLink RX8 18 yX0_init ∈ TB := tb_m (List.mem_of_getElem? (i := 222) (by decide +kernel)) rfl
set_option maxRecDepth 100000 in
theorem lk_X8_44 : LkS RX8 44 yX8_isOutside cX8_isOutside 3 (some .boolean) 3 := ⟨tb_m (List.mem_of_getElem? (i := 332) (by decide +kernel)) rfl, ts_X8_isOutside, ini_X8, tc_X8_isOutside, tp_X8_isOutside, by decide⟩
set_option maxRecDepth 100000 in
theorem lk_X8_58 : LkV RX8 58 RX0 yX0_keep cX0_keep 2 none 1 := ⟨tb_m (List.mem_of_getElem? (i := 335) (by decide +kernel)) rfl, ti_X0_keep, te_X0_keep, ini_X0, tc_X0_keep, tp_X0_keep, by decide⟩
set_option maxRecDepth 100000 in
theorem lk_X8_62 : LkV RX8 62 RX7 yX7_addSection cX7_addSection 4 (some .int) 2 := ⟨tb_m (List.mem_of_getElem? (i := 364) (by decide +kernel)) rfl, ti_X7_addSection, te_X7_addSection, ini_X7, tc_X7_addSection, tp_X7_addSection, by decide⟩
set_option maxRecDepth 100000 in
theorem lk_X8_66 : LkV RX8 66 RX7 yX7_hasSection cX7_hasSection 2 (some .boolean) 1 := ⟨tb_m (List.mem_of_getElem? (i := 380) (by decide +kernel)) rfl, ti_X7_hasSection, te_X7_hasSection, ini_X7, tc_X7_hasSection, tp_X7_hasSection, by decide⟩
set_option maxRecDepth 100000 in
theorem lk_X8_70 : LkV RX8 70 RX7 yX7_joiningEndangers cX7_joiningEndangers 7 (some .boolean) 2 := ⟨tb_m (List.mem_of_getElem? (i := 385) (by decide +kernel)) rfl, ti_X7_joiningEndangers, te_X7_joiningEndangers, ini_X7, tc_X7_joiningEndangers, tp_X7_joiningEndangers, by decide⟩
set_option maxRecDepth 100000 in
theorem lk_X8_77 : LkV RX8 77 RX7 yX7_addIsolator cX7_addIsolator 4 (some .int) 2 := ⟨tb_m (List.mem_of_getElem? (i := 393) (by decide +kernel)) rfl, ti_X7_addIsolator, te_X7_addIsolator, ini_X7, tc_X7_addIsolator, tp_X7_addIsolator, by decide⟩
set_option maxRecDepth 100000 in
theorem lk_X8_84 : LkV RX8 84 RX5 yX5_bridgingBuses cX5_bridgingBuses 3 (some .int) 0 := ⟨tb_m (List.mem_of_getElem? (i := 409) (by decide +kernel)) rfl, ti_X5_bridgingBuses, te_X5_bridgingBuses, ini_X5, tc_X5_bridgingBuses, tp_X5_bridgingBuses, by decide⟩
set_option maxRecDepth 100000 in
theorem lk_X8_93 : LkV RX8 93 RX5 yX5_freeBuses cX5_freeBuses 1 (some .int) 0 := ⟨tb_m (List.mem_of_getElem? (i := 413) (by decide +kernel)) rfl, ti_X5_freeBuses, te_X5_freeBuses, ini_X5, tc_X5_freeBuses, tp_X5_freeBuses, by decide⟩
set_option maxRecDepth 100000 in
theorem lk_X8_107 : LkS RX8 107 yX8_asNumber cX8_asNumber 1 (some .int) 1 := ⟨tb_m (List.mem_of_getElem? (i := 587) (by decide +kernel)) rfl, ts_X8_asNumber, ini_X8, tc_X8_asNumber, tp_X8_asNumber, by decide⟩
set_option maxRecDepth 100000 in
theorem lk_X8_111 : LkV RX8 111 RX7 yX7_isLiveByLog cX7_isLiveByLog 3 (some .boolean) 1 := ⟨tb_m (List.mem_of_getElem? (i := 590) (by decide +kernel)) rfl, ti_X7_isLiveByLog, te_X7_isLiveByLog, ini_X7, tc_X7_isLiveByLog, tp_X7_isLiveByLog, by decide⟩
set_option maxRecDepth 100000 in
theorem lk_X8_126 : LkV RX8 126 RX2 yX2_groupSize cX2_groupSize 4 (some .int) 1 := ⟨tb_m (List.mem_of_getElem? (i := 602) (by decide +kernel)) rfl, ti_X2_groupSize, te_X2_groupSize, ini_X2, tc_X2_groupSize, tp_X2_groupSize, by decide⟩
set_option maxRecDepth 100000 in
theorem lk_X8_130 : LkV RX8 130 RX2 yX2_closedAt cX2_closedAt 4 (some .int) 1 := ⟨tb_m (List.mem_of_getElem? (i := 607) (by decide +kernel)) rfl, ti_X2_closedAt, te_X2_closedAt, ini_X2, tc_X2_closedAt, tp_X2_closedAt, by decide⟩
set_option maxRecDepth 100000 in
theorem lk_X8_136 : LkV RX8 136 RX7 yX7_hasIsolator cX7_hasIsolator 2 (some .boolean) 1 := ⟨tb_m (List.mem_of_getElem? (i := 619) (by decide +kernel)) rfl, ti_X7_hasIsolator, te_X7_hasIsolator, ini_X7, tc_X7_hasIsolator, tp_X7_hasIsolator, by decide⟩
set_option maxRecDepth 100000 in
theorem lk_X8_148 : LkV RX8 148 RX7 yX7_isClosedByLog cX7_isClosedByLog 2 (some .boolean) 1 := ⟨tb_m (List.mem_of_getElem? (i := 620) (by decide +kernel)) rfl, ti_X7_isClosedByLog, te_X7_isClosedByLog, ini_X7, tc_X7_isClosedByLog, tp_X7_isClosedByLog, by decide⟩
set_option maxRecDepth 100000 in
theorem lk_X8_151 : LkV RX8 151 RX7 yX7_darkenedByOpening cX7_darkenedByOpening 4 (some .int) 1 := ⟨tb_m (List.mem_of_getElem? (i := 624) (by decide +kernel)) rfl, ti_X7_darkenedByOpening, te_X7_darkenedByOpening, ini_X7, tc_X7_darkenedByOpening, tp_X7_darkenedByOpening, by decide⟩
set_option maxRecDepth 100000 in
theorem lk_X8_154 : LkV RX8 154 RX7 yX7_litByClosing cX7_litByClosing 4 (some .int) 1 := ⟨tb_m (List.mem_of_getElem? (i := 628) (by decide +kernel)) rfl, ti_X7_litByClosing, te_X7_litByClosing, ini_X7, tc_X7_litByClosing, tp_X7_litByClosing, by decide⟩
set_option maxRecDepth 100000 in
theorem lk_X8_157 : LkS RX8 157 yX8_countTrue cX8_countTrue 3 (some .int) 1 := ⟨tb_m (List.mem_of_getElem? (i := 422) (by decide +kernel)) rfl, ts_X8_countTrue, ini_X8, tc_X8_countTrue, tp_X8_countTrue, by decide⟩
set_option maxRecDepth 100000 in
theorem lk_X8_161 : LkV RX8 161 RX5 yX5_allTools cX5_allTools 3 (some .int) 0 := ⟨tb_m (List.mem_of_getElem? (i := 425) (by decide +kernel)) rfl, ti_X5_allTools, te_X5_allTools, ini_X5, tc_X5_allTools, tp_X5_allTools, by decide⟩
set_option maxRecDepth 100000 in
theorem lk_X8_182 : LkV RX8 182 RX5 yX5_lateGangs cX5_lateGangs 3 (some .int) 0 := ⟨tb_m (List.mem_of_getElem? (i := 429) (by decide +kernel)) rfl, ti_X5_lateGangs, te_X5_lateGangs, ini_X5, tc_X5_lateGangs, tp_X5_lateGangs, by decide⟩
set_option maxRecDepth 100000 in
theorem lk_X8_185 : LkV RX8 185 RX2 yX2_groups cX2_groups 3 (some .int) 0 := ⟨tb_m (List.mem_of_getElem? (i := 433) (by decide +kernel)) rfl, ti_X2_groups, te_X2_groups, ini_X2, tc_X2_groups, tp_X2_groups, by decide⟩
set_option maxRecDepth 100000 in
theorem lk_X8_192 : LkV RX8 192 RX0 yX0_restore cX0_restore 2 none 1 := ⟨tb_m (List.mem_of_getElem? (i := 441) (by decide +kernel)) rfl, ti_X0_restore, te_X0_restore, ini_X0, tc_X0_restore, tp_X0_restore, by decide⟩
set_option maxRecDepth 100000 in
theorem lk_X8_195 : LkV RX8 195 RX7 yX7_hasPlace cX7_hasPlace 3 (some .boolean) 2 := ⟨tb_m (List.mem_of_getElem? (i := 449) (by decide +kernel)) rfl, ti_X7_hasPlace, te_X7_hasPlace, ini_X7, tc_X7_hasPlace, tp_X7_hasPlace, by decide⟩
set_option maxRecDepth 100000 in
theorem lk_X8_198 : LkV RX8 198 RX7 yX7_reasonAgainst cX7_reasonAgainst 3 (some .int) 2 := ⟨tb_m (List.mem_of_getElem? (i := 458) (by decide +kernel)) rfl, ti_X7_reasonAgainst, te_X7_reasonAgainst, ini_X7, tc_X7_reasonAgainst, tp_X7_reasonAgainst, by decide⟩
set_option maxRecDepth 100000 in
theorem lk_X8_201 : LkV RX8 201 RX7 yX7_make cX7_make 3 none 2 := ⟨tb_m (List.mem_of_getElem? (i := 523) (by decide +kernel)) rfl, ti_X7_make, te_X7_make, ini_X7, tc_X7_make, tp_X7_make, by decide⟩
set_option maxRecDepth 100000 in
theorem lk_X8_214 : LkV RX8 214 RX3 yX3_drawUp cX3_drawUp 4 none 2 := ⟨tb_m (List.mem_of_getElem? (i := 646) (by decide +kernel)) rfl, ti_X3_drawUp, te_X3_drawUp, ini_X3, tc_X3_drawUp, tp_X3_drawUp, by decide⟩
set_option maxRecDepth 100000 in
theorem lk_X8_221 : LkV RX8 221 RX4 yX4_tryPlan cX4_tryPlan 4 none 2 := ⟨tb_m (List.mem_of_getElem? (i := 659) (by decide +kernel)) rfl, ti_X4_tryPlan, te_X4_tryPlan, ini_X4, tc_X4_tryPlan, tp_X4_tryPlan, by decide⟩
set_option maxRecDepth 100000 in
theorem lk_X8_229 : LkV RX8 229 RX5 yX5_bringGang cX5_bringGang 4 none 3 := ⟨tb_m (List.mem_of_getElem? (i := 544) (by decide +kernel)) rfl, ti_X5_bringGang, te_X5_bringGang, ini_X5, tc_X5_bringGang, tp_X5_bringGang, by decide⟩
set_option maxRecDepth 100000 in
theorem lk_X8_236 : LkV RX8 236 RX5 yX5_sendGangOff cX5_sendGangOff 4 (some .int) 2 := ⟨tb_m (List.mem_of_getElem? (i := 552) (by decide +kernel)) rfl, ti_X5_sendGangOff, te_X5_sendGangOff, ini_X5, tc_X5_sendGangOff, tp_X5_sendGangOff, by decide⟩
set_option maxRecDepth 100000 in
theorem lk_X8_242 : LkV RX8 242 RX4 yX4_tryText cX4_tryText 4 none 2 := ⟨tb_m (List.mem_of_getElem? (i := 682) (by decide +kernel)) rfl, ti_X4_tryText, te_X4_tryText, ini_X4, tc_X4_tryText, tp_X4_tryText, by decide⟩
set_option maxRecDepth 100000 in
theorem lk_X8_255 : LkV RX8 255 RX7 yX7_copyFrom cX7_copyFrom 2 none 1 := ⟨tb_m (List.mem_of_getElem? (i := 714) (by decide +kernel)) rfl, ti_X7_copyFrom, te_X7_copyFrom, ini_X7, tc_X7_copyFrom, tp_X7_copyFrom, by decide⟩
set_option maxRecDepth 100000 in
theorem lk_X0_22 : LkV RX0 22 RX0 yX0_dropOldest cX0_dropOldest 3 none 0 := ⟨tb_m (List.mem_of_getElem? (i := 339) (by decide +kernel)) rfl, ti_X0_dropOldest, te_X0_dropOldest, ini_X0, tc_X0_dropOldest, tp_X0_dropOldest, by decide⟩
set_option maxRecDepth 100000 in
theorem lk_X0_25 : LkV RX0 25 RX7 yX7_copyFrom cX7_copyFrom 2 none 1 := ⟨tb_m (List.mem_of_getElem? (i := 343) (by decide +kernel)) rfl, ti_X7_copyFrom, te_X7_copyFrom, ini_X7, tc_X7_copyFrom, tp_X7_copyFrom, by decide⟩
set_option maxRecDepth 100000 in
theorem tm_X1_41 : Cond.methodLink RX1 41 arraycopyName ∈ TB := tb_m (List.mem_of_getElem? (i := 363) (by decide +kernel)) rfl
set_option maxRecDepth 100000 in
theorem lk_X1_47 : LkV RX1 47 RX1 yX1_dropOldest cX1_dropOldest 1 none 0 := ⟨tb_m (List.mem_of_getElem? (i := 531) (by decide +kernel)) rfl, ti_X1_dropOldest, te_X1_dropOldest, ini_X1, tc_X1_dropOldest, tp_X1_dropOldest, by decide⟩
set_option maxRecDepth 100000 in
theorem lk_X1_50 : LkV RX1 50 RX1 yX1_setBy cX1_setBy 5 none 3 := ⟨tb_m (List.mem_of_getElem? (i := 535) (by decide +kernel)) rfl, ti_X1_setBy, te_X1_setBy, ini_X1, tc_X1_setBy, tp_X1_setBy, by decide⟩
set_option maxRecDepth 100000 in
theorem tm_X2_38 : Cond.methodLink RX2 38 arraycopyName ∈ TB := tb_m (List.mem_of_getElem? (i := 351) (by decide +kernel)) rfl
set_option maxRecDepth 100000 in
theorem lk_X2_44 : LkV RX2 44 RX2 yX2_feed cX2_feed 2 none 0 := ⟨tb_m (List.mem_of_getElem? (i := 372) (by decide +kernel)) rfl, ti_X2_feed, te_X2_feed, ini_X2, tc_X2_feed, tp_X2_feed, by decide⟩
set_option maxRecDepth 100000 in
theorem lk_X2_47 : LkV RX2 47 RX2 yX2_shareLowest cX2_shareLowest 4 none 0 := ⟨tb_m (List.mem_of_getElem? (i := 401) (by decide +kernel)) rfl, ti_X2_shareLowest, te_X2_shareLowest, ini_X2, tc_X2_shareLowest, tp_X2_shareLowest, by decide⟩
set_option maxRecDepth 100000 in
theorem lk_X2_50 : LkV RX2 50 RX2 yX2_areTogether cX2_areTogether 3 (some .boolean) 2 := ⟨tb_m (List.mem_of_getElem? (i := 606) (by decide +kernel)) rfl, ti_X2_areTogether, te_X2_areTogether, ini_X2, tc_X2_areTogether, tp_X2_areTogether, by decide⟩
set_option maxRecDepth 100000 in
theorem lk_X2_54 : LkV RX2 54 RX2 yX2_isClosedAt cX2_isClosedAt 3 (some .boolean) 2 := ⟨tb_m (List.mem_of_getElem? (i := 611) (by decide +kernel)) rfl, ti_X2_isClosedAt, te_X2_isClosedAt, ini_X2, tc_X2_isClosedAt, tp_X2_isClosedAt, by decide⟩
set_option maxRecDepth 100000 in
theorem lk_X3_34 : LkV RX3 34 RX3 yX3_add cX3_add 3 none 2 := ⟨tb_m (List.mem_of_getElem? (i := 650) (by decide +kernel)) rfl, ti_X3_add, te_X3_add, ini_X3, tc_X3_add, tp_X3_add, by decide⟩
set_option maxRecDepth 100000 in
theorem lk_X3_50 : LkV RX3 50 RX2 yX2_isClosedAt cX2_isClosedAt 3 (some .boolean) 2 := ⟨tb_m (List.mem_of_getElem? (i := 654) (by decide +kernel)) rfl, ti_X2_isClosedAt, te_X2_isClosedAt, ini_X2, tc_X2_isClosedAt, tp_X2_isClosedAt, by decide⟩
set_option maxRecDepth 100000 in
theorem lk_X4_18 : LkV RX4 18 RX4 yX4_begin cX4_begin 2 none 1 := ⟨tb_m (List.mem_of_getElem? (i := 663) (by decide +kernel)) rfl, ti_X4_begin, te_X4_begin, ini_X4, tc_X4_begin, tp_X4_begin, by decide⟩
set_option maxRecDepth 100000 in
theorem lk_X4_35 : LkV RX4 35 RX7 yX7_reasonAgainst cX7_reasonAgainst 3 (some .int) 2 := ⟨tb_m (List.mem_of_getElem? (i := 668) (by decide +kernel)) rfl, ti_X7_reasonAgainst, te_X7_reasonAgainst, ini_X7, tc_X7_reasonAgainst, tp_X7_reasonAgainst, by decide⟩
set_option maxRecDepth 100000 in
theorem lk_X4_42 : LkV RX4 42 RX7 yX7_make cX7_make 3 none 2 := ⟨tb_m (List.mem_of_getElem? (i := 669) (by decide +kernel)) rfl, ti_X7_make, te_X7_make, ini_X7, tc_X7_make, tp_X7_make, by decide⟩
set_option maxRecDepth 100000 in
theorem lk_X4_57 : LkV RX4 57 RX6 yX6_readStep cX6_readStep 5 (some .boolean) 1 := ⟨tb_m (List.mem_of_getElem? (i := 686) (by decide +kernel)) rfl, ti_X6_readStep, te_X6_readStep, ini_X6, tc_X6_readStep, tp_X6_readStep, by decide⟩
set_option maxRecDepth 100000 in
theorem lk_X4_67 : LkV RX4 67 RX7 yX7_hasPlace cX7_hasPlace 3 (some .boolean) 2 := ⟨tb_m (List.mem_of_getElem? (i := 702) (by decide +kernel)) rfl, ti_X7_hasPlace, te_X7_hasPlace, ini_X7, tc_X7_hasPlace, tp_X7_hasPlace, by decide⟩
set_option maxRecDepth 100000 in
theorem lk_X4_74 : LkV RX4 74 RX7 yX7_copyFrom cX7_copyFrom 2 none 1 := ⟨tb_m (List.mem_of_getElem? (i := 667) (by decide +kernel)) rfl, ti_X7_copyFrom, te_X7_copyFrom, ini_X7, tc_X7_copyFrom, tp_X7_copyFrom, by decide⟩
set_option maxRecDepth 100000 in
theorem tm_X5_44 : Cond.methodLink RX5 44 arraycopyName ∈ TB := tb_m (List.mem_of_getElem? (i := 358) (by decide +kernel)) rfl
set_option maxRecDepth 100000 in
theorem lk_X5_50 : LkV RX5 50 RX5 yX5_bridgingBuses cX5_bridgingBuses 3 (some .int) 0 := ⟨tb_m (List.mem_of_getElem? (i := 417) (by decide +kernel)) rfl, ti_X5_bridgingBuses, te_X5_bridgingBuses, ini_X5, tc_X5_bridgingBuses, tp_X5_bridgingBuses, by decide⟩
set_option maxRecDepth 100000 in
theorem tm_X5_54 : Cond.methodLink RX5 54 Lib.Math.max.name ∈ TB := tb_m (List.mem_of_getElem? (i := 556) (by decide +kernel)) rfl
set_option maxRecDepth 100000 in
theorem lk_X6_15 : LkV RX6 15 RX6 yX6_characterAt cX6_characterAt 2 (some .int) 1 := ⟨tb_m (List.mem_of_getElem? (i := 690) (by decide +kernel)) rfl, ti_X6_characterAt, te_X6_characterAt, ini_X6, tc_X6_characterAt, tp_X6_characterAt, by decide⟩
set_option maxRecDepth 100000 in
theorem lk_X6_19 : LkS RX6 19 yX6_kindOf cX6_kindOf 1 (some .int) 1 := ⟨tb_m (List.mem_of_getElem? (i := 695) (by decide +kernel)) rfl, ts_X6_kindOf, ini_X6, tc_X6_kindOf, tp_X6_kindOf, by decide⟩
set_option maxRecDepth 100000 in
theorem lk_X6_26 : LkV RX6 26 RX6 yX6_digitAt cX6_digitAt 3 (some .int) 1 := ⟨tb_m (List.mem_of_getElem? (i := 698) (by decide +kernel)) rfl, ti_X6_digitAt, te_X6_digitAt, ini_X6, tc_X6_digitAt, tp_X6_digitAt, by decide⟩
set_option maxRecDepth 100000 in
theorem lk_X7_39 : LkV RX7 39 RX2 yX2_copyFrom cX2_copyFrom 2 none 1 := ⟨tb_m (List.mem_of_getElem? (i := 347) (by decide +kernel)) rfl, ti_X2_copyFrom, te_X2_copyFrom, ini_X2, tc_X2_copyFrom, tp_X2_copyFrom, by decide⟩
set_option maxRecDepth 100000 in
theorem lk_X7_43 : LkV RX7 43 RX5 yX5_copyFrom cX5_copyFrom 2 none 1 := ⟨tb_m (List.mem_of_getElem? (i := 354) (by decide +kernel)) rfl, ti_X5_copyFrom, te_X5_copyFrom, ini_X5, tc_X5_copyFrom, tp_X5_copyFrom, by decide⟩
set_option maxRecDepth 100000 in
theorem lk_X7_46 : LkV RX7 46 RX1 yX1_copyFrom cX1_copyFrom 2 none 1 := ⟨tb_m (List.mem_of_getElem? (i := 359) (by decide +kernel)) rfl, ti_X1_copyFrom, te_X1_copyFrom, ini_X1, tc_X1_copyFrom, tp_X1_copyFrom, by decide⟩
set_option maxRecDepth 100000 in
theorem lk_X7_60 : LkV RX7 60 RX7 yX7_hasIsolator cX7_hasIsolator 2 (some .boolean) 1 := ⟨tb_m (List.mem_of_getElem? (i := 453) (by decide +kernel)) rfl, ti_X7_hasIsolator, te_X7_hasIsolator, ini_X7, tc_X7_hasIsolator, tp_X7_hasIsolator, by decide⟩
set_option maxRecDepth 100000 in
theorem lk_X7_64 : LkV RX7 64 RX7 yX7_hasSection cX7_hasSection 2 (some .boolean) 1 := ⟨tb_m (List.mem_of_getElem? (i := 457) (by decide +kernel)) rfl, ti_X7_hasSection, te_X7_hasSection, ini_X7, tc_X7_hasSection, tp_X7_hasSection, by decide⟩
set_option maxRecDepth 100000 in
theorem lk_X7_77 : LkV RX7 77 RX2 yX2_setFeeder cX2_setFeeder 3 none 2 := ⟨tb_m (List.mem_of_getElem? (i := 368) (by decide +kernel)) rfl, ti_X2_setFeeder, te_X2_setFeeder, ini_X2, tc_X2_setFeeder, tp_X2_setFeeder, by decide⟩
set_option maxRecDepth 100000 in
theorem lk_X7_90 : LkV RX7 90 RX2 yX2_setIsolator cX2_setIsolator 4 none 2 := ⟨tb_m (List.mem_of_getElem? (i := 397) (by decide +kernel)) rfl, ti_X2_setIsolator, te_X2_setIsolator, ini_X2, tc_X2_setIsolator, tp_X2_setIsolator, by decide⟩
set_option maxRecDepth 100000 in
theorem lk_X7_103 : LkV RX7 103 RX2 yX2_areTogether cX2_areTogether 3 (some .boolean) 2 := ⟨tb_m (List.mem_of_getElem? (i := 389) (by decide +kernel)) rfl, ti_X2_areTogether, te_X2_areTogether, ini_X2, tc_X2_areTogether, tp_X2_areTogether, by decide⟩
set_option maxRecDepth 100000 in
theorem lk_X7_107 : LkV RX7 107 RX7 yX7_supposeIsolator cX7_supposeIsolator 3 none 2 := ⟨tb_m (List.mem_of_getElem? (i := 475) (by decide +kernel)) rfl, ti_X7_supposeIsolator, te_X7_supposeIsolator, ini_X7, tc_X7_supposeIsolator, tp_X7_supposeIsolator, by decide⟩
set_option maxRecDepth 100000 in
theorem lk_X7_110 : LkV RX7 110 RX7 yX7_wouldDarken cX7_wouldDarken 2 (some .boolean) 1 := ⟨tb_m (List.mem_of_getElem? (i := 483) (by decide +kernel)) rfl, ti_X7_wouldDarken, te_X7_wouldDarken, ini_X7, tc_X7_wouldDarken, tp_X7_wouldDarken, by decide⟩
set_option maxRecDepth 100000 in
theorem lk_X7_113 : LkV RX7 113 RX7 yX7_wouldLight cX7_wouldLight 2 (some .boolean) 1 := ⟨tb_m (List.mem_of_getElem? (i := 495) (by decide +kernel)) rfl, ti_X7_wouldLight, te_X7_wouldLight, ini_X7, tc_X7_wouldLight, tp_X7_wouldLight, by decide⟩
set_option maxRecDepth 100000 in
theorem lk_X7_116 : LkV RX7 116 RX1 yX1_tell cX1_tell 2 none 0 := ⟨tb_m (List.mem_of_getElem? (i := 594) (by decide +kernel)) rfl, ti_X1_tell, te_X1_tell, ini_X1, tc_X1_tell, tp_X1_tell, by decide⟩
set_option maxRecDepth 100000 in
theorem lk_X7_125 : LkV RX7 125 RX7 yX7_goOutward cX7_goOutward 4 none 0 := ⟨tb_m (List.mem_of_getElem? (i := 598) (by decide +kernel)) rfl, ti_X7_goOutward, te_X7_goOutward, ini_X7, tc_X7_goOutward, tp_X7_goOutward, by decide⟩
set_option maxRecDepth 100000 in
theorem lk_X7_128 : LkV RX7 128 RX7 yX7_againstBridging cX7_againstBridging 2 (some .int) 1 := ⟨tb_m (List.mem_of_getElem? (i := 462) (by decide +kernel)) rfl, ti_X7_againstBridging, te_X7_againstBridging, ini_X7, tc_X7_againstBridging, tp_X7_againstBridging, by decide⟩
set_option maxRecDepth 100000 in
theorem lk_X7_132 : LkV RX7 132 RX7 yX7_againstTrams cX7_againstTrams 2 (some .int) 1 := ⟨tb_m (List.mem_of_getElem? (i := 467) (by decide +kernel)) rfl, ti_X7_againstTrams, te_X7_againstTrams, ini_X7, tc_X7_againstTrams, tp_X7_againstTrams, by decide⟩
set_option maxRecDepth 100000 in
theorem lk_X7_135 : LkV RX7 135 RX7 yX7_againstOpening cX7_againstOpening 2 (some .int) 1 := ⟨tb_m (List.mem_of_getElem? (i := 471) (by decide +kernel)) rfl, ti_X7_againstOpening, te_X7_againstOpening, ini_X7, tc_X7_againstOpening, tp_X7_againstOpening, by decide⟩
set_option maxRecDepth 100000 in
theorem lk_X7_138 : LkV RX7 138 RX7 yX7_againstClosing cX7_againstClosing 2 (some .int) 1 := ⟨tb_m (List.mem_of_getElem? (i := 487) (by decide +kernel)) rfl, ti_X7_againstClosing, te_X7_againstClosing, ini_X7, tc_X7_againstClosing, tp_X7_againstClosing, by decide⟩
set_option maxRecDepth 100000 in
theorem lk_X7_141 : LkV RX7 141 RX7 yX7_againstTurningOff cX7_againstTurningOff 2 (some .int) 1 := ⟨tb_m (List.mem_of_getElem? (i := 503) (by decide +kernel)) rfl, ti_X7_againstTurningOff, te_X7_againstTurningOff, ini_X7, tc_X7_againstTurningOff, tp_X7_againstTurningOff, by decide⟩
set_option maxRecDepth 100000 in
theorem lk_X7_144 : LkV RX7 144 RX7 yX7_againstTurningOn cX7_againstTurningOn 2 (some .int) 1 := ⟨tb_m (List.mem_of_getElem? (i := 511) (by decide +kernel)) rfl, ti_X7_againstTurningOn, te_X7_againstTurningOn, ini_X7, tc_X7_againstTurningOn, tp_X7_againstTurningOn, by decide⟩
set_option maxRecDepth 100000 in
theorem lk_X7_147 : LkV RX7 147 RX7 yX7_againstEarthing cX7_againstEarthing 2 (some .int) 1 := ⟨tb_m (List.mem_of_getElem? (i := 515) (by decide +kernel)) rfl, ti_X7_againstEarthing, te_X7_againstEarthing, ini_X7, tc_X7_againstEarthing, tp_X7_againstEarthing, by decide⟩
set_option maxRecDepth 100000 in
theorem lk_X7_150 : LkV RX7 150 RX7 yX7_againstTakingEarth cX7_againstTakingEarth 2 (some .int) 1 := ⟨tb_m (List.mem_of_getElem? (i := 519) (by decide +kernel)) rfl, ti_X7_againstTakingEarth, te_X7_againstTakingEarth, ini_X7, tc_X7_againstTakingEarth, tp_X7_againstTakingEarth, by decide⟩
set_option maxRecDepth 100000 in
theorem lk_X7_156 : LkV RX7 156 RX5 yX5_freeBuses cX5_freeBuses 1 (some .int) 0 := ⟨tb_m (List.mem_of_getElem? (i := 466) (by decide +kernel)) rfl, ti_X5_freeBuses, te_X5_freeBuses, ini_X5, tc_X5_freeBuses, tp_X5_freeBuses, by decide⟩
set_option maxRecDepth 100000 in
theorem lk_X7_163 : LkV RX7 163 RX7 yX7_wouldDarkenTrams cX7_wouldDarkenTrams 2 (some .boolean) 0 := ⟨tb_m (List.mem_of_getElem? (i := 479) (by decide +kernel)) rfl, ti_X7_wouldDarkenTrams, te_X7_wouldDarkenTrams, ini_X7, tc_X7_wouldDarkenTrams, tp_X7_wouldDarkenTrams, by decide⟩
set_option maxRecDepth 100000 in
theorem lk_X7_167 : LkV RX7 167 RX7 yX7_wouldLightEarth cX7_wouldLightEarth 2 (some .boolean) 0 := ⟨tb_m (List.mem_of_getElem? (i := 491) (by decide +kernel)) rfl, ti_X7_wouldLightEarth, te_X7_wouldLightEarth, ini_X7, tc_X7_wouldLightEarth, tp_X7_wouldLightEarth, by decide⟩
set_option maxRecDepth 100000 in
theorem lk_X7_170 : LkV RX7 170 RX7 yX7_wouldLightTools cX7_wouldLightTools 2 (some .boolean) 0 := ⟨tb_m (List.mem_of_getElem? (i := 499) (by decide +kernel)) rfl, ti_X7_wouldLightTools, te_X7_wouldLightTools, ini_X7, tc_X7_wouldLightTools, tp_X7_wouldLightTools, by decide⟩
set_option maxRecDepth 100000 in
theorem lk_X7_176 : LkV RX7 176 RX7 yX7_supposeFeeder cX7_supposeFeeder 3 none 2 := ⟨tb_m (List.mem_of_getElem? (i := 507) (by decide +kernel)) rfl, ti_X7_supposeFeeder, te_X7_supposeFeeder, ini_X7, tc_X7_supposeFeeder, tp_X7_supposeFeeder, by decide⟩
set_option maxRecDepth 100000 in
theorem lk_X7_185 : LkV RX7 185 RX1 yX1_write cX1_write 4 none 3 := ⟨tb_m (List.mem_of_getElem? (i := 527) (by decide +kernel)) rfl, ti_X1_write, te_X1_write, ini_X1, tc_X1_write, tp_X1_write, by decide⟩
set_option maxRecDepth 100000 in
theorem lk_L_13 : LkV RL 13 RX8 yX8_count cX8_count 3 (some .int) 1 := ⟨tb_m (List.mem_of_getElem? (i := 418) (by decide +kernel)) rfl, ti_X8_count, te_X8_count, ini_X8, tc_X8_count, tp_X8_count, by decide⟩
set_option maxRecDepth 100000 in
theorem lk_L_19 : LkS RL 19 yL_mixed cL_mixed 4 (some .long) 2 := ⟨tb_m (List.mem_of_getElem? (i := 579) (by decide +kernel)) rfl, ts_L_mixed, ini_L, tc_L_mixed, tp_L_mixed, by decide⟩
set_option maxRecDepth 100000 in
theorem lk_L_25 : LkV RL 25 RX8 yX8_sectionOf cX8_sectionOf 5 (some .int) 2 := ⟨tb_m (List.mem_of_getElem? (i := 583) (by decide +kernel)) rfl, ti_X8_sectionOf, te_X8_sectionOf, ini_X8, tc_X8_sectionOf, tp_X8_sectionOf, by decide⟩
set_option maxRecDepth 100000 in
theorem lk_L_29 : LkV RL 29 RX8 yX8_isolatorOf cX8_isolatorOf 4 (some .int) 2 := ⟨tb_m (List.mem_of_getElem? (i := 615) (by decide +kernel)) rfl, ti_X8_isolatorOf, te_X8_isolatorOf, ini_X8, tc_X8_isolatorOf, tp_X8_isolatorOf, by decide⟩
set_option maxRecDepth 100000 in
theorem lk_L_32 : LkV RL 32 RX8 yX8_log cX8_log 5 (some .int) 2 := ⟨tb_m (List.mem_of_getElem? (i := 632) (by decide +kernel)) rfl, ti_X8_log, te_X8_log, ini_X8, tc_X8_log, tp_X8_log, by decide⟩
set_option maxRecDepth 100000 in
theorem lk_L_35 : LkV RL 35 RX8 yX8_plan cX8_plan 3 (some .int) 2 := ⟨tb_m (List.mem_of_getElem? (i := 642) (by decide +kernel)) rfl, ti_X8_plan, te_X8_plan, ini_X8, tc_X8_plan, tp_X8_plan, by decide⟩
set_option maxRecDepth 100000 in
theorem lk_L_38 : LkV RL 38 RX8 yX8_canPlan cX8_canPlan 2 (some .int) 1 := ⟨tb_m (List.mem_of_getElem? (i := 655) (by decide +kernel)) rfl, ti_X8_canPlan, te_X8_canPlan, ini_X8, tc_X8_canPlan, tp_X8_canPlan, by decide⟩
set_option maxRecDepth 100000 in
theorem lk_L_41 : LkV RL 41 RX8 yX8_enter cX8_enter 4 (some .int) 3 := ⟨tb_m (List.mem_of_getElem? (i := 539) (by decide +kernel)) rfl, ti_X8_enter, te_X8_enter, ini_X8, tc_X8_enter, tp_X8_enter, by decide⟩
set_option maxRecDepth 100000 in
theorem lk_L_45 : LkV RL 45 RX8 yX8_leave cX8_leave 3 (some .int) 2 := ⟨tb_m (List.mem_of_getElem? (i := 548) (by decide +kernel)) rfl, ti_X8_leave, te_X8_leave, ini_X8, tc_X8_leave, tp_X8_leave, by decide⟩
set_option maxRecDepth 100000 in
theorem lk_L_48 : LkV RL 48 RX8 yX8_fetch cX8_fetch 3 (some .int) 1 := ⟨tb_m (List.mem_of_getElem? (i := 559) (by decide +kernel)) rfl, ti_X8_fetch, te_X8_fetch, ini_X8, tc_X8_fetch, tp_X8_fetch, by decide⟩
set_option maxRecDepth 100000 in
theorem lk_L_51 : LkV RL 51 RX8 yX8_isolator cX8_isolator 3 (some .int) 2 := ⟨tb_m (List.mem_of_getElem? (i := 376) (by decide +kernel)) rfl, ti_X8_isolator, te_X8_isolator, ini_X8, tc_X8_isolator, tp_X8_isolator, by decide⟩
set_option maxRecDepth 100000 in
theorem lk_L_54 : LkV RL 54 RX8 yX8_refusal cX8_refusal 3 (some .int) 2 := ⟨tb_m (List.mem_of_getElem? (i := 670) (by decide +kernel)) rfl, ti_X8_refusal, te_X8_refusal, ini_X8, tc_X8_refusal, tp_X8_refusal, by decide⟩
set_option maxRecDepth 100000 in
theorem lk_L_57 : LkV RL 57 RX8 yX8_step cX8_step 3 (some .int) 2 := ⟨tb_m (List.mem_of_getElem? (i := 445) (by decide +kernel)) rfl, ti_X8_step, te_X8_step, ini_X8, tc_X8_step, tp_X8_step, by decide⟩
set_option maxRecDepth 100000 in
theorem lk_L_60 : LkS RL 60 yL_state cL_state 4 (some .long) 1 := ⟨tb_m (List.mem_of_getElem? (i := 575) (by decide +kernel)) rfl, ts_L_state, ini_L, tc_L_state, tp_L_state, by decide⟩
set_option maxRecDepth 100000 in
theorem lk_L_64 : LkS RL 64 yL_refusesPlaces cL_refusesPlaces 6 (some .boolean) 1 := ⟨tb_m (List.mem_of_getElem? (i := 639) (by decide +kernel)) rfl, ts_L_refusesPlaces, ini_L, tc_L_refusesPlaces, tp_L_refusesPlaces, by decide⟩
set_option maxRecDepth 100000 in
theorem lk_L_68 : LkV RL 68 RX8 yX8_section cX8_section 3 (some .int) 2 := ⟨tb_m (List.mem_of_getElem? (i := 328) (by decide +kernel)) rfl, ti_X8_section, te_X8_section, ini_X8, tc_X8_section, tp_X8_section, by decide⟩
set_option maxRecDepth 100000 in
theorem lk_L_71 : LkV RL 71 RX8 yX8_pool cX8_pool 2 (some .int) 1 := ⟨tb_m (List.mem_of_getElem? (i := 405) (by decide +kernel)) rfl, ti_X8_pool, te_X8_pool, ini_X8, tc_X8_pool, tp_X8_pool, by decide⟩
set_option maxRecDepth 100000 in
theorem lk_L_74 : LkV RL 74 RX8 yX8_pass cX8_pass 2 (some .int) 1 := ⟨tb_m (List.mem_of_getElem? (i := 563) (by decide +kernel)) rfl, ti_X8_pass, te_X8_pass, ini_X8, tc_X8_pass, tp_X8_pass, by decide⟩
set_option maxRecDepth 100000 in
theorem lk_L_77 : LkV RL 77 RX8 yX8_type cX8_type 2 (some .int) 1 := ⟨tb_m (List.mem_of_getElem? (i := 674) (by decide +kernel)) rfl, ti_X8_type, te_X8_type, ini_X8, tc_X8_type, tp_X8_type, by decide⟩
set_option maxRecDepth 100000 in
theorem lk_L_80 : LkV RL 80 RX8 yX8_fault cX8_fault 2 (some .int) 1 := ⟨tb_m (List.mem_of_getElem? (i := 678) (by decide +kernel)) rfl, ti_X8_fault, te_X8_fault, ini_X8, tc_X8_fault, tp_X8_fault, by decide⟩
set_option maxRecDepth 100000 in
theorem lk_L_86 : LkV RL 86 RX8 yX8_clearText cX8_clearText 2 (some .int) 0 := ⟨tb_m (List.mem_of_getElem? (i := 719) (by decide +kernel)) rfl, ti_X8_clearText, te_X8_clearText, ini_X8, tc_X8_clearText, tp_X8_clearText, by decide⟩
set_option maxRecDepth 100000 in
theorem lk_L_90 : LkS RL 90 yL_types cL_types 5 none 2 := ⟨tb_m (List.mem_of_getElem? (i := 723) (by decide +kernel)) rfl, ts_L_types, ini_L, tc_L_types, tp_L_types, by decide⟩
set_option maxRecDepth 100000 in
theorem tm_L_94 : Cond.methodLink RL 94 yX8_init ∈ TB := tb_m (List.mem_of_getElem? (i := 39) (by decide +kernel)) rfl
set_option maxRecDepth 100000 in
theorem lk_L_95 : LkS RL 95 yL_three cL_three 2 (some (.object "TramWires")) 0 := ⟨tb_m (List.mem_of_getElem? (i := 707) (by decide +kernel)) rfl, ts_L_three, ini_L, tc_L_three, tp_L_three, by decide⟩
set_option maxRecDepth 100000 in
theorem lk_L_99 : LkV RL 99 RX8 yX8_play cX8_play 1 (some .int) 0 := ⟨tb_m (List.mem_of_getElem? (i := 710) (by decide +kernel)) rfl, ti_X8_play, te_X8_play, ini_X8, tc_X8_play, tp_X8_play, by decide⟩
set_option maxRecDepth 100000 in
theorem lk_L_104 : LkS RL 104 yL_isFault cL_isFault 9 (some .boolean) 6 := ⟨tb_m (List.mem_of_getElem? (i := 716) (by decide +kernel)) rfl, ts_L_isFault, ini_L, tc_L_isFault, tp_L_isFault, by decide⟩
set_option maxRecDepth 100000 in
theorem lk_L_164 : LkV RL 164 RX8 yX8_undo cX8_undo 1 (some .int) 0 := ⟨tb_m (List.mem_of_getElem? (i := 437) (by decide +kernel)) rfl, ti_X8_undo, te_X8_undo, ini_X8, tc_X8_undo, tp_X8_undo, by decide⟩
set_option maxRecDepth 100000 in
theorem lk_L_167 : LkS RL 167 yL_texts cL_texts 4 (some .boolean) 0 := ⟨tb_m (List.mem_of_getElem? (i := 704) (by decide +kernel)) rfl, ts_L_texts, ini_L, tc_L_texts, tp_L_texts, by decide⟩
set_option maxRecDepth 100000 in
theorem lk_L_171 : LkS RL 171 yL_known cL_known 2 (some .boolean) 0 := ⟨tb_m (List.mem_of_getElem? (i := 755) (by decide +kernel)) rfl, ts_L_known, ini_L, tc_L_known, tp_L_known, by decide⟩
set_option maxRecDepth 100000 in
theorem lk_L_174 : LkS RL 174 yL_refused cL_refused 3 (some .boolean) 1 := ⟨tb_m (List.mem_of_getElem? (i := 636) (by decide +kernel)) rfl, ts_L_refused, ini_L, tc_L_refused, tp_L_refused, by decide⟩
set_option maxRecDepth 100000 in
theorem lk_L_177 : LkS RL 177 yL_take cL_take 2 (some .int) 2 := ⟨tb_m (List.mem_of_getElem? (i := 571) (by decide +kernel)) rfl, ts_L_take, ini_L, tc_L_take, tp_L_take, by decide⟩
set_option maxRecDepth 100000 in
theorem lk_L_181 : LkS RL 181 yL_part cL_part 2 (some .int) 2 := ⟨tb_m (List.mem_of_getElem? (i := 567) (by decide +kernel)) rfl, ts_L_part, ini_L, tc_L_part, tp_L_part, by decide⟩
theorem tn_X8_9 : Cond.methodLinkNest RX8 9 yX7_init "TramWires" ∈ nwL := List.mem_of_getElem? (i := 0) rfl
theorem tn_X8_25 : Cond.methodLinkNest RX8 25 yX6_init "TramWires" ∈ nwL := List.mem_of_getElem? (i := 1) rfl
theorem tn_X8_32 : Cond.methodLinkNest RX8 32 yX3_init "TramWires" ∈ nwL := List.mem_of_getElem? (i := 2) rfl
theorem tn_X8_39 : Cond.methodLinkNest RX8 39 yX4_init "TramWires" ∈ nwL := List.mem_of_getElem? (i := 3) rfl
theorem tn_X0_17 : Cond.methodLinkNest RX0 17 yX7_init "TramWires" ∈ nwL := List.mem_of_getElem? (i := 4) rfl
theorem tn_X4_11 : Cond.methodLinkNest RX4 11 yX7_init "TramWires" ∈ nwL := List.mem_of_getElem? (i := 5) rfl
set_option maxRecDepth 100000 in
theorem lk_X6_38 : LkN RX6 38 "TramWires" yX8_isOutside cX8_isOutside 3 (some .boolean) 3 := ⟨List.mem_of_getElem? (i := 6) rfl, ts_X8_isOutside, ini_X8, tc_X8_isOutside, tp_X8_isOutside, by decide⟩
theorem tn_X7_11 : Cond.methodLinkNest RX7 11 yX2_init "TramWires" ∈ nwL := List.mem_of_getElem? (i := 7) rfl
theorem tn_X7_20 : Cond.methodLinkNest RX7 20 yX5_init "TramWires" ∈ nwL := List.mem_of_getElem? (i := 8) rfl
theorem tn_X7_27 : Cond.methodLinkNest RX7 27 yX1_init "TramWires" ∈ nwL := List.mem_of_getElem? (i := 9) rfl
set_option maxRecDepth 100000 in
theorem lk_X7_53 : LkN RX7 53 "TramWires" yX8_isOutside cX8_isOutside 3 (some .boolean) 3 := ⟨List.mem_of_getElem? (i := 10) rfl, ts_X8_isOutside, ini_X8, tc_X8_isOutside, tp_X8_isOutside, by decide⟩
set_option maxRecDepth 100000 in
theorem tj_L_9 : Cond.constantLong RL 9 (31) ∈ TB := tb_m (List.mem_of_getElem? (i := 582) (by decide +kernel)) rfl
set_option maxRecDepth 100000 in
theorem tj_L_11 : Cond.constantLong RL 11 (6) ∈ TB := tb_m (List.mem_of_getElem? (i := 578) (by decide +kernel)) rfl
set_option maxRecDepth 100000 in
theorem tj_L_84 : Cond.constantLong RL 84 (255) ∈ TB := tb_m (List.mem_of_getElem? (i := 726) (by decide +kernel)) rfl
set_option maxRecDepth 100000 in
theorem tj_L_102 : Cond.constantLong RL 102 (6434875) ∈ TB := tb_m (List.mem_of_getElem? (i := 715) (by decide +kernel)) rfl
set_option maxRecDepth 100000 in
theorem tj_L_108 : Cond.constantLong RL 108 (6437179) ∈ TB := tb_m (List.mem_of_getElem? (i := 727) (by decide +kernel)) rfl
set_option maxRecDepth 100000 in
theorem tj_L_110 : Cond.constantLong RL 110 (25136) ∈ TB := tb_m (List.mem_of_getElem? (i := 728) (by decide +kernel)) rfl
set_option maxRecDepth 100000 in
theorem tj_L_112 : Cond.constantLong RL 112 (1647325243) ∈ TB := tb_m (List.mem_of_getElem? (i := 729) (by decide +kernel)) rfl
set_option maxRecDepth 100000 in
theorem tj_L_114 : Cond.constantLong RL 114 (421715259451) ∈ TB := tb_m (List.mem_of_getElem? (i := 730) (by decide +kernel)) rfl
set_option maxRecDepth 100000 in
theorem tj_L_116 : Cond.constantLong RL 116 (7876667) ∈ TB := tb_m (List.mem_of_getElem? (i := 731) (by decide +kernel)) rfl
set_option maxRecDepth 100000 in
theorem tj_L_118 : Cond.constantLong RL 118 (107959294242875) ∈ TB := tb_m (List.mem_of_getElem? (i := 732) (by decide +kernel)) rfl
set_option maxRecDepth 100000 in
theorem tj_L_120 : Cond.constantLong RL 120 (7286843) ∈ TB := tb_m (List.mem_of_getElem? (i := 733) (by decide +kernel)) rfl
set_option maxRecDepth 100000 in
theorem tj_L_122 : Cond.constantLong RL 122 (7287355) ∈ TB := tb_m (List.mem_of_getElem? (i := 734) (by decide +kernel)) rfl
set_option maxRecDepth 100000 in
theorem tj_L_124 : Cond.constantLong RL 124 (1866021179) ∈ TB := tb_m (List.mem_of_getElem? (i := 735) (by decide +kernel)) rfl
set_option maxRecDepth 100000 in
theorem tj_L_126 : Cond.constantLong RL 126 (7075783313305855536) ∈ TB := tb_m (List.mem_of_getElem? (i := 736) (by decide +kernel)) rfl
set_option maxRecDepth 100000 in
theorem tj_L_128 : Cond.constantLong RL 128 (59) ∈ TB := tb_m (List.mem_of_getElem? (i := 737) (by decide +kernel)) rfl
set_option maxRecDepth 100000 in
theorem tj_L_130 : Cond.constantLong RL 130 (7075220307517858354) ∈ TB := tb_m (List.mem_of_getElem? (i := 738) (by decide +kernel)) rfl
set_option maxRecDepth 100000 in
theorem tj_L_132 : Cond.constantLong RL 132 (7075783313305855282) ∈ TB := tb_m (List.mem_of_getElem? (i := 739) (by decide +kernel)) rfl
set_option maxRecDepth 100000 in
theorem tj_L_134 : Cond.constantLong RL 134 (996356411) ∈ TB := tb_m (List.mem_of_getElem? (i := 740) (by decide +kernel)) rfl
set_option maxRecDepth 100000 in
theorem tj_L_136 : Cond.constantLong RL 136 (4284385851161525108) ∈ TB := tb_m (List.mem_of_getElem? (i := 741) (by decide +kernel)) rfl
set_option maxRecDepth 100000 in
theorem tj_L_138 : Cond.constantLong RL 138 (12859) ∈ TB := tb_m (List.mem_of_getElem? (i := 742) (by decide +kernel)) rfl
set_option maxRecDepth 100000 in
theorem tj_L_140 : Cond.constantLong RL 140 (6631483) ∈ TB := tb_m (List.mem_of_getElem? (i := 743) (by decide +kernel)) rfl
set_option maxRecDepth 100000 in
theorem tj_L_142 : Cond.constantLong RL 142 (7614523) ∈ TB := tb_m (List.mem_of_getElem? (i := 744) (by decide +kernel)) rfl
set_option maxRecDepth 100000 in
theorem tj_L_144 : Cond.constantLong RL 144 (7221307) ∈ TB := tb_m (List.mem_of_getElem? (i := 745) (by decide +kernel)) rfl
set_option maxRecDepth 100000 in
theorem tj_L_146 : Cond.constantLong RL 146 (7221563) ∈ TB := tb_m (List.mem_of_getElem? (i := 746) (by decide +kernel)) rfl
set_option maxRecDepth 100000 in
theorem tj_L_148 : Cond.constantLong RL 148 (6697275) ∈ TB := tb_m (List.mem_of_getElem? (i := 747) (by decide +kernel)) rfl
set_option maxRecDepth 100000 in
theorem tj_L_150 : Cond.constantLong RL 150 (7680059) ∈ TB := tb_m (List.mem_of_getElem? (i := 748) (by decide +kernel)) rfl
set_option maxRecDepth 100000 in
theorem tj_L_152 : Cond.constantLong RL 152 (6500411) ∈ TB := tb_m (List.mem_of_getElem? (i := 749) (by decide +kernel)) rfl
set_option maxRecDepth 100000 in
theorem tj_L_154 : Cond.constantLong RL 154 (4337723) ∈ TB := tb_m (List.mem_of_getElem? (i := 750) (by decide +kernel)) rfl
set_option maxRecDepth 100000 in
theorem tj_L_156 : Cond.constantLong RL 156 (25147) ∈ TB := tb_m (List.mem_of_getElem? (i := 751) (by decide +kernel)) rfl
set_option maxRecDepth 100000 in
theorem tj_L_158 : Cond.constantLong RL 158 (543305787) ∈ TB := tb_m (List.mem_of_getElem? (i := 752) (by decide +kernel)) rfl
set_option maxRecDepth 100000 in
theorem tj_L_160 : Cond.constantLong RL 160 (1647328059) ∈ TB := tb_m (List.mem_of_getElem? (i := 753) (by decide +kernel)) rfl
set_option maxRecDepth 100000 in
theorem tj_L_162 : Cond.constantLong RL 162 (107967885357627) ∈ TB := tb_m (List.mem_of_getElem? (i := 754) (by decide +kernel)) rfl
set_option maxRecDepth 100000 in
theorem tk_X8_228 : Cond.constant RX8 228 (100000) ∈ TB := tb_m (List.mem_of_getElem? (i := 543) (by decide +kernel)) rfl
set_option maxRecDepth 100000 in
theorem tk_L_7 : Cond.constant RL 7 (2147483647) ∈ TB := tb_m (List.mem_of_getElem? (i := 570) (by decide +kernel)) rfl
set_option maxRecDepth 100000 in
theorem tk_L_8 : Cond.constant RL 8 (2654435) ∈ TB := tb_m (List.mem_of_getElem? (i := 574) (by decide +kernel)) rfl
set_option maxRecDepth 100000 in
theorem tk_L_83 : Cond.constant RL 83 (100001) ∈ TB := tb_m (List.mem_of_getElem? (i := 703) (by decide +kernel)) rfl
set_option maxRecDepth 100000 in
theorem tk_L_184 : Cond.constant RL 184 (90000) ∈ TB := tb_m (List.mem_of_getElem? (i := 758) (by decide +kernel)) rfl
set_option maxRecDepth 100000 in
theorem tf_X8_10 : Cond.fieldLink RX8 10 "TramWires" (TX8 0).2.1 (TX8 0).2.2.1 ∈ TB := tb_m (List.mem_of_getElem? (i := 312) (by decide +kernel)) rfl
theorem fg_X8_10 {l : Launch} {w : Wp} {L : Ly} {E : Cx} {M : Mm} {lv : List (Nat × Value)} {pc : Nat} {st : List Value} {cc : ByteArray} {maxL n a : Nat} (cx : Ok w L E RX8 cc maxL n) (hd : decode cc pc = .ok (.getfield 10, 3)) (h : LTramWires w L a) (kk : G l w L E M lv (pc + 3) (.ref (a + 1) :: st)) : G l w L E M lv pc (.ref a :: st) := g_getR cx (ci := 8) rfl in_X8 0 (by decide) tf_X8_10 rfl (LTramWires_o h) (Nat.le_of_ble_eq_true rfl) rfl hd kk
set_option maxRecDepth 100000 in
theorem tf_X8_19 : Cond.fieldLink RX8 19 "TramWires" (TX8 1).2.1 (TX8 1).2.2.1 ∈ TB := tb_m (List.mem_of_getElem? (i := 313) (by decide +kernel)) rfl
theorem fg_X8_19 {l : Launch} {w : Wp} {L : Ly} {E : Cx} {M : Mm} {lv : List (Nat × Value)} {pc : Nat} {st : List Value} {cc : ByteArray} {maxL n a : Nat} (cx : Ok w L E RX8 cc maxL n) (hd : decode cc pc = .ok (.getfield 19, 3)) (h : LTramWires w L a) (kk : G l w L E M lv (pc + 3) (.ref (a + 33) :: st)) : G l w L E M lv pc (.ref a :: st) := g_getR cx (ci := 8) rfl in_X8 1 (by decide) tf_X8_19 rfl (LTramWires_o h) (Nat.le_of_ble_eq_true rfl) rfl hd kk
set_option maxRecDepth 100000 in
theorem tf_X8_26 : Cond.fieldLink RX8 26 "TramWires" (TX8 2).2.1 (TX8 2).2.2.1 ∈ TB := tb_m (List.mem_of_getElem? (i := 314) (by decide +kernel)) rfl
theorem fg_X8_26 {l : Launch} {w : Wp} {L : Ly} {E : Cx} {M : Mm} {lv : List (Nat × Value)} {pc : Nat} {st : List Value} {cc : ByteArray} {maxL n a : Nat} (cx : Ok w L E RX8 cc maxL n) (hd : decode cc pc = .ok (.getfield 26, 3)) (h : LTramWires w L a) (kk : G l w L E M lv (pc + 3) (.ref (a + 195) :: st)) : G l w L E M lv pc (.ref a :: st) := g_getR cx (ci := 8) rfl in_X8 2 (by decide) tf_X8_26 rfl (LTramWires_o h) (Nat.le_of_ble_eq_true rfl) rfl hd kk
set_option maxRecDepth 100000 in
theorem tf_X8_33 : Cond.fieldLink RX8 33 "TramWires" (TX8 3).2.1 (TX8 3).2.2.1 ∈ TB := tb_m (List.mem_of_getElem? (i := 315) (by decide +kernel)) rfl
theorem fg_X8_33 {l : Launch} {w : Wp} {L : Ly} {E : Cx} {M : Mm} {lv : List (Nat × Value)} {pc : Nat} {st : List Value} {cc : ByteArray} {maxL n a : Nat} (cx : Ok w L E RX8 cc maxL n) (hd : decode cc pc = .ok (.getfield 33, 3)) (h : LTramWires w L a) (kk : G l w L E M lv (pc + 3) (.ref (a + 197) :: st)) : G l w L E M lv pc (.ref a :: st) := g_getR cx (ci := 8) rfl in_X8 3 (by decide) tf_X8_33 rfl (LTramWires_o h) (Nat.le_of_ble_eq_true rfl) rfl hd kk
set_option maxRecDepth 100000 in
theorem tf_X8_40 : Cond.fieldLink RX8 40 "TramWires" (TX8 4).2.1 (TX8 4).2.2.1 ∈ TB := tb_m (List.mem_of_getElem? (i := 316) (by decide +kernel)) rfl
theorem fg_X8_40 {l : Launch} {w : Wp} {L : Ly} {E : Cx} {M : Mm} {lv : List (Nat × Value)} {pc : Nat} {st : List Value} {cc : ByteArray} {maxL n a : Nat} (cx : Ok w L E RX8 cc maxL n) (hd : decode cc pc = .ok (.getfield 40, 3)) (h : LTramWires w L a) (kk : G l w L E M lv (pc + 3) (.ref (a + 200) :: st)) : G l w L E M lv pc (.ref a :: st) := g_getR cx (ci := 8) rfl in_X8 4 (by decide) tf_X8_40 rfl (LTramWires_o h) (Nat.le_of_ble_eq_true rfl) rfl hd kk
set_option maxRecDepth 100000 in
theorem tf_X8_48 : Cond.fieldLink RX8 48 "TramWires$Wires" (TX7 0).2.1 (TX7 0).2.2.1 ∈ TB := tb_m (List.mem_of_getElem? (i := 201) (by decide +kernel)) rfl
theorem fg_X8_48 {l : Launch} {w : Wp} {L : Ly} {E : Cx} {M : Mm} {lv : List (Nat × Value)} {pc : Nat} {st : List Value} {cc : ByteArray} {maxL n a : Nat} (cx : Ok w L E RX8 cc maxL n) (hd : decode cc pc = .ok (.getfield 48, 3)) (h : LWires w L a) (kk : G l w L E M lv (pc + 3) (.ref (a + 1) :: st)) : G l w L E M lv pc (.ref a :: st) := g_getR cx (ci := 7) rfl in_X7 0 (by decide) tf_X8_48 rfl (LWires_o h) (Nat.le_of_ble_eq_true rfl) rfl hd kk
set_option maxRecDepth 100000 in
theorem tf_X8_52 : Cond.fieldLink RX8 52 "TramWires$Net" (TX2 0).2.1 (TX2 0).2.2.1 ∈ TB := tb_m (List.mem_of_getElem? (i := 58) (by decide +kernel)) rfl
theorem fg_X8_52 {l : Launch} {w : Wp} {L : Ly} {E : Cx} {M : Mm} {lv : List (Nat × Value)} {pc : Nat} {st : List Value} {cc : ByteArray} {maxL n a : Nat} (cx : Ok w L E RX8 cc maxL n) (hd : decode cc pc = .ok (.getfield 52, 3)) (h : LNet w L a) (kk : G l w L E M lv (pc + 3) (.int (M a 0) :: st)) : G l w L E M lv pc (.ref a :: st) := g_getI cx (ci := 2) rfl in_X2 0 (by decide) tf_X8_52 rfl (LNet_o h) (Nat.le_of_ble_eq_true rfl) rfl hd kk
theorem fp_X8_52 {l : Launch} {w : Wp} {L : Ly} {E : Cx} {M : Mm} {lv : List (Nat × Value)} {pc : Nat} {st : List Value} {cc : ByteArray} {maxL n a : Nat} (cx : Ok w L E RX8 cc maxL n) {x : Int32} {A : Mm → OR} {R0 : Int32 × Mm} (hd : decode cc pc = .ok (.putfield 52, 3)) (h : LNet w L a) (hf : bnd (mst M a 0 x) A = some R0) (kk : ∀ M1 : Mm, A M1 = some R0 → G l w L E M1 lv (pc + 3) st) : G l w L E M lv pc (.int x :: .ref a :: st) := g_putI cx (ci := 2) rfl in_X2 tyX2 tyX2_ok nmX2 0 (by decide) tf_X8_52 rfl rfl (by decide +kernel) (LNet_o h) (Nat.le_of_ble_eq_true rfl) rfl hd hf kk
set_option maxRecDepth 100000 in
theorem tf_X8_74 : Cond.fieldLink RX8 74 "TramWires$Net" (TX2 1).2.1 (TX2 1).2.2.1 ∈ TB := tb_m (List.mem_of_getElem? (i := 62) (by decide +kernel)) rfl
theorem fg_X8_74 {l : Launch} {w : Wp} {L : Ly} {E : Cx} {M : Mm} {lv : List (Nat × Value)} {pc : Nat} {st : List Value} {cc : ByteArray} {maxL n a : Nat} (cx : Ok w L E RX8 cc maxL n) (hd : decode cc pc = .ok (.getfield 74, 3)) (h : LNet w L a) (kk : G l w L E M lv (pc + 3) (.int (M a 1) :: st)) : G l w L E M lv pc (.ref a :: st) := g_getI cx (ci := 2) rfl in_X2 1 (by decide) tf_X8_74 rfl (LNet_o h) (Nat.le_of_ble_eq_true rfl) rfl hd kk
theorem fp_X8_74 {l : Launch} {w : Wp} {L : Ly} {E : Cx} {M : Mm} {lv : List (Nat × Value)} {pc : Nat} {st : List Value} {cc : ByteArray} {maxL n a : Nat} (cx : Ok w L E RX8 cc maxL n) {x : Int32} {A : Mm → OR} {R0 : Int32 × Mm} (hd : decode cc pc = .ok (.putfield 74, 3)) (h : LNet w L a) (hf : bnd (mst M a 1 x) A = some R0) (kk : ∀ M1 : Mm, A M1 = some R0 → G l w L E M1 lv (pc + 3) st) : G l w L E M lv pc (.int x :: .ref a :: st) := g_putI cx (ci := 2) rfl in_X2 tyX2 tyX2_ok nmX2 1 (by decide) tf_X8_74 rfl rfl (by decide +kernel) (LNet_o h) (Nat.le_of_ble_eq_true rfl) rfl hd hf kk
set_option maxRecDepth 100000 in
theorem tf_X8_80 : Cond.fieldLink RX8 80 "TramWires$Wires" (TX7 1).2.1 (TX7 1).2.2.1 ∈ TB := tb_m (List.mem_of_getElem? (i := 204) (by decide +kernel)) rfl
theorem fg_X8_80 {l : Launch} {w : Wp} {L : Ly} {E : Cx} {M : Mm} {lv : List (Nat × Value)} {pc : Nat} {st : List Value} {cc : ByteArray} {maxL n a : Nat} (cx : Ok w L E RX8 cc maxL n) (hd : decode cc pc = .ok (.getfield 80, 3)) (h : LWires w L a) (kk : G l w L E M lv (pc + 3) (.ref (a + 8) :: st)) : G l w L E M lv pc (.ref a :: st) := g_getR cx (ci := 7) rfl in_X7 1 (by decide) tf_X8_80 rfl (LWires_o h) (Nat.le_of_ble_eq_true rfl) rfl hd kk
set_option maxRecDepth 100000 in
theorem tf_X8_90 : Cond.fieldLink RX8 90 "TramWires$Service" (TX5 1).2.1 (TX5 1).2.2.1 ∈ TB := tb_m (List.mem_of_getElem? (i := 111) (by decide +kernel)) rfl
theorem fg_X8_90 {l : Launch} {w : Wp} {L : Ly} {E : Cx} {M : Mm} {lv : List (Nat × Value)} {pc : Nat} {st : List Value} {cc : ByteArray} {maxL n a : Nat} (cx : Ok w L E RX8 cc maxL n) (hd : decode cc pc = .ok (.getfield 90, 3)) (h : LService w L a) (kk : G l w L E M lv (pc + 3) (.int (M a 1) :: st)) : G l w L E M lv pc (.ref a :: st) := g_getI cx (ci := 5) rfl in_X5 1 (by decide) tf_X8_90 rfl (LService_o h) (Nat.le_of_ble_eq_true rfl) rfl hd kk
theorem fp_X8_90 {l : Launch} {w : Wp} {L : Ly} {E : Cx} {M : Mm} {lv : List (Nat × Value)} {pc : Nat} {st : List Value} {cc : ByteArray} {maxL n a : Nat} (cx : Ok w L E RX8 cc maxL n) {x : Int32} {A : Mm → OR} {R0 : Int32 × Mm} (hd : decode cc pc = .ok (.putfield 90, 3)) (h : LService w L a) (hf : bnd (mst M a 1 x) A = some R0) (kk : ∀ M1 : Mm, A M1 = some R0 → G l w L E M1 lv (pc + 3) st) : G l w L E M lv pc (.int x :: .ref a :: st) := g_putI cx (ci := 5) rfl in_X5 tyX5 tyX5_ok nmX5 1 (by decide) tf_X8_90 rfl rfl (by decide +kernel) (LService_o h) (Nat.le_of_ble_eq_true rfl) rfl hd hf kk
set_option maxRecDepth 100000 in
theorem tf_X8_96 : Cond.fieldLink RX8 96 "TramWires$Service" (TX5 3).2.1 (TX5 3).2.2.1 ∈ TB := tb_m (List.mem_of_getElem? (i := 115) (by decide +kernel)) rfl
theorem fg_X8_96 {l : Launch} {w : Wp} {L : Ly} {E : Cx} {M : Mm} {lv : List (Nat × Value)} {pc : Nat} {st : List Value} {cc : ByteArray} {maxL n a : Nat} (cx : Ok w L E RX8 cc maxL n) (hd : decode cc pc = .ok (.getfield 96, 3)) (h : LService w L a) (kk : G l w L E M lv (pc + 3) (.ref (a + 1) :: st)) : G l w L E M lv pc (.ref a :: st) := g_getR cx (ci := 5) rfl in_X5 3 (by decide) tf_X8_96 rfl (LService_o h) (Nat.le_of_ble_eq_true rfl) rfl hd kk
set_option maxRecDepth 100000 in
theorem tf_X8_100 : Cond.fieldLink RX8 100 "TramWires$Net" (TX2 2).2.1 (TX2 2).2.2.1 ∈ TB := tb_m (List.mem_of_getElem? (i := 66) (by decide +kernel)) rfl
theorem fg_X8_100 {l : Launch} {w : Wp} {L : Ly} {E : Cx} {M : Mm} {lv : List (Nat × Value)} {pc : Nat} {st : List Value} {cc : ByteArray} {maxL n a : Nat} (cx : Ok w L E RX8 cc maxL n) (hd : decode cc pc = .ok (.getfield 100, 3)) (h : LNet w L a) (kk : G l w L E M lv (pc + 3) (.ref (a + 1) :: st)) : G l w L E M lv pc (.ref a :: st) := g_getR cx (ci := 2) rfl in_X2 2 (by decide) tf_X8_100 rfl (LNet_o h) (Nat.le_of_ble_eq_true rfl) rfl hd kk
set_option maxRecDepth 100000 in
theorem tf_X8_103 : Cond.fieldLink RX8 103 "TramWires$Net" (TX2 7).2.1 (TX2 7).2.2.1 ∈ TB := tb_m (List.mem_of_getElem? (i := 80) (by decide +kernel)) rfl
theorem fg_X8_103 {l : Launch} {w : Wp} {L : Ly} {E : Cx} {M : Mm} {lv : List (Nat × Value)} {pc : Nat} {st : List Value} {cc : ByteArray} {maxL n a : Nat} (cx : Ok w L E RX8 cc maxL n) (hd : decode cc pc = .ok (.getfield 103, 3)) (h : LNet w L a) (kk : G l w L E M lv (pc + 3) (.ref (a + 6) :: st)) : G l w L E M lv pc (.ref a :: st) := g_getR cx (ci := 2) rfl in_X2 7 (by decide) tf_X8_103 rfl (LNet_o h) (Nat.le_of_ble_eq_true rfl) rfl hd kk
set_option maxRecDepth 100000 in
theorem tf_X8_114 : Cond.fieldLink RX8 114 "TramWires$Service" (TX5 4).2.1 (TX5 4).2.2.1 ∈ TB := tb_m (List.mem_of_getElem? (i := 119) (by decide +kernel)) rfl
theorem fg_X8_114 {l : Launch} {w : Wp} {L : Ly} {E : Cx} {M : Mm} {lv : List (Nat × Value)} {pc : Nat} {st : List Value} {cc : ByteArray} {maxL n a : Nat} (cx : Ok w L E RX8 cc maxL n) (hd : decode cc pc = .ok (.getfield 114, 3)) (h : LService w L a) (kk : G l w L E M lv (pc + 3) (.ref (a + 2) :: st)) : G l w L E M lv pc (.ref a :: st) := g_getR cx (ci := 5) rfl in_X5 4 (by decide) tf_X8_114 rfl (LService_o h) (Nat.le_of_ble_eq_true rfl) rfl hd kk
set_option maxRecDepth 100000 in
theorem tf_X8_117 : Cond.fieldLink RX8 117 "TramWires$Service" (TX5 5).2.1 (TX5 5).2.2.1 ∈ TB := tb_m (List.mem_of_getElem? (i := 123) (by decide +kernel)) rfl
theorem fg_X8_117 {l : Launch} {w : Wp} {L : Ly} {E : Cx} {M : Mm} {lv : List (Nat × Value)} {pc : Nat} {st : List Value} {cc : ByteArray} {maxL n a : Nat} (cx : Ok w L E RX8 cc maxL n) (hd : decode cc pc = .ok (.getfield 117, 3)) (h : LService w L a) (kk : G l w L E M lv (pc + 3) (.ref (a + 3) :: st)) : G l w L E M lv pc (.ref a :: st) := g_getR cx (ci := 5) rfl in_X5 5 (by decide) tf_X8_117 rfl (LService_o h) (Nat.le_of_ble_eq_true rfl) rfl hd kk
set_option maxRecDepth 100000 in
theorem tf_X8_120 : Cond.fieldLink RX8 120 "TramWires$Service" (TX5 6).2.1 (TX5 6).2.2.1 ∈ TB := tb_m (List.mem_of_getElem? (i := 126) (by decide +kernel)) rfl
theorem fg_X8_120 {l : Launch} {w : Wp} {L : Ly} {E : Cx} {M : Mm} {lv : List (Nat × Value)} {pc : Nat} {st : List Value} {cc : ByteArray} {maxL n a : Nat} (cx : Ok w L E RX8 cc maxL n) (hd : decode cc pc = .ok (.getfield 120, 3)) (h : LService w L a) (kk : G l w L E M lv (pc + 3) (.ref (a + 4) :: st)) : G l w L E M lv pc (.ref a :: st) := g_getR cx (ci := 5) rfl in_X5 6 (by decide) tf_X8_120 rfl (LService_o h) (Nat.le_of_ble_eq_true rfl) rfl hd kk
set_option maxRecDepth 100000 in
theorem tf_X8_123 : Cond.fieldLink RX8 123 "TramWires$Service" (TX5 9).2.1 (TX5 9).2.2.1 ∈ TB := tb_m (List.mem_of_getElem? (i := 133) (by decide +kernel)) rfl
theorem fg_X8_123 {l : Launch} {w : Wp} {L : Ly} {E : Cx} {M : Mm} {lv : List (Nat × Value)} {pc : Nat} {st : List Value} {cc : ByteArray} {maxL n a : Nat} (cx : Ok w L E RX8 cc maxL n) (hd : decode cc pc = .ok (.getfield 123, 3)) (h : LService w L a) (kk : G l w L E M lv (pc + 3) (.ref (a + 7) :: st)) : G l w L E M lv pc (.ref a :: st) := g_getR cx (ci := 5) rfl in_X5 9 (by decide) tf_X8_123 rfl (LService_o h) (Nat.le_of_ble_eq_true rfl) rfl hd kk
set_option maxRecDepth 100000 in
theorem tf_X8_133 : Cond.fieldLink RX8 133 "TramWires$Service" (TX5 8).2.1 (TX5 8).2.2.1 ∈ TB := tb_m (List.mem_of_getElem? (i := 131) (by decide +kernel)) rfl
theorem fg_X8_133 {l : Launch} {w : Wp} {L : Ly} {E : Cx} {M : Mm} {lv : List (Nat × Value)} {pc : Nat} {st : List Value} {cc : ByteArray} {maxL n a : Nat} (cx : Ok w L E RX8 cc maxL n) (hd : decode cc pc = .ok (.getfield 133, 3)) (h : LService w L a) (kk : G l w L E M lv (pc + 3) (.ref (a + 6) :: st)) : G l w L E M lv pc (.ref a :: st) := g_getR cx (ci := 5) rfl in_X5 8 (by decide) tf_X8_133 rfl (LService_o h) (Nat.le_of_ble_eq_true rfl) rfl hd kk
set_option maxRecDepth 100000 in
theorem tf_X8_139 : Cond.fieldLink RX8 139 "TramWires$Net" (TX2 3).2.1 (TX2 3).2.2.1 ∈ TB := tb_m (List.mem_of_getElem? (i := 69) (by decide +kernel)) rfl
theorem fg_X8_139 {l : Launch} {w : Wp} {L : Ly} {E : Cx} {M : Mm} {lv : List (Nat × Value)} {pc : Nat} {st : List Value} {cc : ByteArray} {maxL n a : Nat} (cx : Ok w L E RX8 cc maxL n) (hd : decode cc pc = .ok (.getfield 139, 3)) (h : LNet w L a) (kk : G l w L E M lv (pc + 3) (.ref (a + 2) :: st)) : G l w L E M lv pc (.ref a :: st) := g_getR cx (ci := 2) rfl in_X2 3 (by decide) tf_X8_139 rfl (LNet_o h) (Nat.le_of_ble_eq_true rfl) rfl hd kk
set_option maxRecDepth 100000 in
theorem tf_X8_142 : Cond.fieldLink RX8 142 "TramWires$Net" (TX2 4).2.1 (TX2 4).2.2.1 ∈ TB := tb_m (List.mem_of_getElem? (i := 72) (by decide +kernel)) rfl
theorem fg_X8_142 {l : Launch} {w : Wp} {L : Ly} {E : Cx} {M : Mm} {lv : List (Nat × Value)} {pc : Nat} {st : List Value} {cc : ByteArray} {maxL n a : Nat} (cx : Ok w L E RX8 cc maxL n) (hd : decode cc pc = .ok (.getfield 142, 3)) (h : LNet w L a) (kk : G l w L E M lv (pc + 3) (.ref (a + 3) :: st)) : G l w L E M lv pc (.ref a :: st) := g_getR cx (ci := 2) rfl in_X2 4 (by decide) tf_X8_142 rfl (LNet_o h) (Nat.le_of_ble_eq_true rfl) rfl hd kk
set_option maxRecDepth 100000 in
theorem tf_X8_145 : Cond.fieldLink RX8 145 "TramWires$Net" (TX2 5).2.1 (TX2 5).2.2.1 ∈ TB := tb_m (List.mem_of_getElem? (i := 75) (by decide +kernel)) rfl
theorem fg_X8_145 {l : Launch} {w : Wp} {L : Ly} {E : Cx} {M : Mm} {lv : List (Nat × Value)} {pc : Nat} {st : List Value} {cc : ByteArray} {maxL n a : Nat} (cx : Ok w L E RX8 cc maxL n) (hd : decode cc pc = .ok (.getfield 145, 3)) (h : LNet w L a) (kk : G l w L E M lv (pc + 3) (.ref (a + 4) :: st)) : G l w L E M lv pc (.ref a :: st) := g_getR cx (ci := 2) rfl in_X2 5 (by decide) tf_X8_145 rfl (LNet_o h) (Nat.le_of_ble_eq_true rfl) rfl hd kk
set_option maxRecDepth 100000 in
theorem tf_X8_164 : Cond.fieldLink RX8 164 "TramWires$Service" (TX5 0).2.1 (TX5 0).2.2.1 ∈ TB := tb_m (List.mem_of_getElem? (i := 108) (by decide +kernel)) rfl
theorem fg_X8_164 {l : Launch} {w : Wp} {L : Ly} {E : Cx} {M : Mm} {lv : List (Nat × Value)} {pc : Nat} {st : List Value} {cc : ByteArray} {maxL n a : Nat} (cx : Ok w L E RX8 cc maxL n) (hd : decode cc pc = .ok (.getfield 164, 3)) (h : LService w L a) (kk : G l w L E M lv (pc + 3) (.int (M a 0) :: st)) : G l w L E M lv pc (.ref a :: st) := g_getI cx (ci := 5) rfl in_X5 0 (by decide) tf_X8_164 rfl (LService_o h) (Nat.le_of_ble_eq_true rfl) rfl hd kk
theorem fp_X8_164 {l : Launch} {w : Wp} {L : Ly} {E : Cx} {M : Mm} {lv : List (Nat × Value)} {pc : Nat} {st : List Value} {cc : ByteArray} {maxL n a : Nat} (cx : Ok w L E RX8 cc maxL n) {x : Int32} {A : Mm → OR} {R0 : Int32 × Mm} (hd : decode cc pc = .ok (.putfield 164, 3)) (h : LService w L a) (hf : bnd (mst M a 0 x) A = some R0) (kk : ∀ M1 : Mm, A M1 = some R0 → G l w L E M1 lv (pc + 3) st) : G l w L E M lv pc (.int x :: .ref a :: st) := g_putI cx (ci := 5) rfl in_X5 tyX5 tyX5_ok nmX5 0 (by decide) tf_X8_164 rfl rfl (by decide +kernel) (LService_o h) (Nat.le_of_ble_eq_true rfl) rfl hd hf kk
set_option maxRecDepth 100000 in
theorem tf_X8_167 : Cond.fieldLink RX8 167 "TramWires$Wires" (TX7 2).2.1 (TX7 2).2.2.1 ∈ TB := tb_m (List.mem_of_getElem? (i := 206) (by decide +kernel)) rfl
theorem fg_X8_167 {l : Launch} {w : Wp} {L : Ly} {E : Cx} {M : Mm} {lv : List (Nat × Value)} {pc : Nat} {st : List Value} {cc : ByteArray} {maxL n a : Nat} (cx : Ok w L E RX8 cc maxL n) (hd : decode cc pc = .ok (.getfield 167, 3)) (h : LWires w L a) (kk : G l w L E M lv (pc + 3) (.ref (a + 16) :: st)) : G l w L E M lv pc (.ref a :: st) := g_getR cx (ci := 7) rfl in_X7 2 (by decide) tf_X8_167 rfl (LWires_o h) (Nat.le_of_ble_eq_true rfl) rfl hd kk
set_option maxRecDepth 100000 in
theorem tf_X8_171 : Cond.fieldLink RX8 171 "TramWires$Log" (TX1 0).2.1 (TX1 0).2.2.1 ∈ TB := tb_m (List.mem_of_getElem? (i := 163) (by decide +kernel)) rfl
theorem fg_X8_171 {l : Launch} {w : Wp} {L : Ly} {E : Cx} {M : Mm} {lv : List (Nat × Value)} {pc : Nat} {st : List Value} {cc : ByteArray} {maxL n a : Nat} (cx : Ok w L E RX8 cc maxL n) (hd : decode cc pc = .ok (.getfield 171, 3)) (h : LLog w L a) (kk : G l w L E M lv (pc + 3) (.int (M a 0) :: st)) : G l w L E M lv pc (.ref a :: st) := g_getI cx (ci := 1) rfl in_X1 0 (by decide) tf_X8_171 rfl (LLog_o h) (Nat.le_of_ble_eq_true rfl) rfl hd kk
theorem fp_X8_171 {l : Launch} {w : Wp} {L : Ly} {E : Cx} {M : Mm} {lv : List (Nat × Value)} {pc : Nat} {st : List Value} {cc : ByteArray} {maxL n a : Nat} (cx : Ok w L E RX8 cc maxL n) {x : Int32} {A : Mm → OR} {R0 : Int32 × Mm} (hd : decode cc pc = .ok (.putfield 171, 3)) (h : LLog w L a) (hf : bnd (mst M a 0 x) A = some R0) (kk : ∀ M1 : Mm, A M1 = some R0 → G l w L E M1 lv (pc + 3) st) : G l w L E M lv pc (.int x :: .ref a :: st) := g_putI cx (ci := 1) rfl in_X1 tyX1 tyX1_ok nmX1 0 (by decide) tf_X8_171 rfl rfl (by decide +kernel) (LLog_o h) (Nat.le_of_ble_eq_true rfl) rfl hd hf kk
set_option maxRecDepth 100000 in
theorem tf_X8_176 : Cond.fieldLink RX8 176 "TramWires$Log" (TX1 1).2.1 (TX1 1).2.2.1 ∈ TB := tb_m (List.mem_of_getElem? (i := 165) (by decide +kernel)) rfl
theorem fg_X8_176 {l : Launch} {w : Wp} {L : Ly} {E : Cx} {M : Mm} {lv : List (Nat × Value)} {pc : Nat} {st : List Value} {cc : ByteArray} {maxL n a : Nat} (cx : Ok w L E RX8 cc maxL n) (hd : decode cc pc = .ok (.getfield 176, 3)) (h : LLog w L a) (kk : G l w L E M lv (pc + 3) (.int (M a 1) :: st)) : G l w L E M lv pc (.ref a :: st) := g_getI cx (ci := 1) rfl in_X1 1 (by decide) tf_X8_176 rfl (LLog_o h) (Nat.le_of_ble_eq_true rfl) rfl hd kk
theorem fp_X8_176 {l : Launch} {w : Wp} {L : Ly} {E : Cx} {M : Mm} {lv : List (Nat × Value)} {pc : Nat} {st : List Value} {cc : ByteArray} {maxL n a : Nat} (cx : Ok w L E RX8 cc maxL n) {x : Int32} {A : Mm → OR} {R0 : Int32 × Mm} (hd : decode cc pc = .ok (.putfield 176, 3)) (h : LLog w L a) (hf : bnd (mst M a 1 x) A = some R0) (kk : ∀ M1 : Mm, A M1 = some R0 → G l w L E M1 lv (pc + 3) st) : G l w L E M lv pc (.int x :: .ref a :: st) := g_putI cx (ci := 1) rfl in_X1 tyX1 tyX1_ok nmX1 1 (by decide) tf_X8_176 rfl rfl (by decide +kernel) (LLog_o h) (Nat.le_of_ble_eq_true rfl) rfl hd hf kk
set_option maxRecDepth 100000 in
theorem tf_X8_179 : Cond.fieldLink RX8 179 "TramWires$Service" (TX5 2).2.1 (TX5 2).2.2.1 ∈ TB := tb_m (List.mem_of_getElem? (i := 113) (by decide +kernel)) rfl
theorem fg_X8_179 {l : Launch} {w : Wp} {L : Ly} {E : Cx} {M : Mm} {lv : List (Nat × Value)} {pc : Nat} {st : List Value} {cc : ByteArray} {maxL n a : Nat} (cx : Ok w L E RX8 cc maxL n) (hd : decode cc pc = .ok (.getfield 179, 3)) (h : LService w L a) (kk : G l w L E M lv (pc + 3) (.int (M a 2) :: st)) : G l w L E M lv pc (.ref a :: st) := g_getI cx (ci := 5) rfl in_X5 2 (by decide) tf_X8_179 rfl (LService_o h) (Nat.le_of_ble_eq_true rfl) rfl hd kk
theorem fp_X8_179 {l : Launch} {w : Wp} {L : Ly} {E : Cx} {M : Mm} {lv : List (Nat × Value)} {pc : Nat} {st : List Value} {cc : ByteArray} {maxL n a : Nat} (cx : Ok w L E RX8 cc maxL n) {x : Int32} {A : Mm → OR} {R0 : Int32 × Mm} (hd : decode cc pc = .ok (.putfield 179, 3)) (h : LService w L a) (hf : bnd (mst M a 2 x) A = some R0) (kk : ∀ M1 : Mm, A M1 = some R0 → G l w L E M1 lv (pc + 3) st) : G l w L E M lv pc (.int x :: .ref a :: st) := g_putI cx (ci := 5) rfl in_X5 tyX5 tyX5_ok nmX5 2 (by decide) tf_X8_179 rfl rfl (by decide +kernel) (LService_o h) (Nat.le_of_ble_eq_true rfl) rfl hd hf kk
set_option maxRecDepth 100000 in
theorem tf_X8_188 : Cond.fieldLink RX8 188 "TramWires$History" (TX0 0).2.1 (TX0 0).2.2.1 ∈ TB := tb_m (List.mem_of_getElem? (i := 230) (by decide +kernel)) rfl
theorem fg_X8_188 {l : Launch} {w : Wp} {L : Ly} {E : Cx} {M : Mm} {lv : List (Nat × Value)} {pc : Nat} {st : List Value} {cc : ByteArray} {maxL n a : Nat} (cx : Ok w L E RX8 cc maxL n) (hd : decode cc pc = .ok (.getfield 188, 3)) (h : LHistory w L a) (kk : G l w L E M lv (pc + 3) (.int (M a 0) :: st)) : G l w L E M lv pc (.ref a :: st) := g_getI cx (ci := 0) rfl in_X0 0 (by decide) tf_X8_188 rfl (LHistory_o h) (Nat.le_of_ble_eq_true rfl) rfl hd kk
theorem fp_X8_188 {l : Launch} {w : Wp} {L : Ly} {E : Cx} {M : Mm} {lv : List (Nat × Value)} {pc : Nat} {st : List Value} {cc : ByteArray} {maxL n a : Nat} (cx : Ok w L E RX8 cc maxL n) {x : Int32} {A : Mm → OR} {R0 : Int32 × Mm} (hd : decode cc pc = .ok (.putfield 188, 3)) (h : LHistory w L a) (hf : bnd (mst M a 0 x) A = some R0) (kk : ∀ M1 : Mm, A M1 = some R0 → G l w L E M1 lv (pc + 3) st) : G l w L E M lv pc (.int x :: .ref a :: st) := g_putI cx (ci := 0) rfl in_X0 tyX0 tyX0_ok nmX0 0 (by decide) tf_X8_188 rfl rfl (by decide +kernel) (LHistory_o h) (Nat.le_of_ble_eq_true rfl) rfl hd hf kk
set_option maxRecDepth 100000 in
theorem tf_X8_191 : Cond.fieldLink RX8 191 "TramWires$Text" (TX6 0).2.1 (TX6 0).2.2.1 ∈ TB := tb_m (List.mem_of_getElem? (i := 245) (by decide +kernel)) rfl
theorem fg_X8_191 {l : Launch} {w : Wp} {L : Ly} {E : Cx} {M : Mm} {lv : List (Nat × Value)} {pc : Nat} {st : List Value} {cc : ByteArray} {maxL n a : Nat} (cx : Ok w L E RX8 cc maxL n) (hd : decode cc pc = .ok (.getfield 191, 3)) (h : LText w L a) (kk : G l w L E M lv (pc + 3) (.int (M a 0) :: st)) : G l w L E M lv pc (.ref a :: st) := g_getI cx (ci := 6) rfl in_X6 0 (by decide) tf_X8_191 rfl (LText_o h) (Nat.le_of_ble_eq_true rfl) rfl hd kk
theorem fp_X8_191 {l : Launch} {w : Wp} {L : Ly} {E : Cx} {M : Mm} {lv : List (Nat × Value)} {pc : Nat} {st : List Value} {cc : ByteArray} {maxL n a : Nat} (cx : Ok w L E RX8 cc maxL n) {x : Int32} {A : Mm → OR} {R0 : Int32 × Mm} (hd : decode cc pc = .ok (.putfield 191, 3)) (h : LText w L a) (hf : bnd (mst M a 0 x) A = some R0) (kk : ∀ M1 : Mm, A M1 = some R0 → G l w L E M1 lv (pc + 3) st) : G l w L E M lv pc (.int x :: .ref a :: st) := g_putI cx (ci := 6) rfl in_X6 tyX6 tyX6_ok nmX6 0 (by decide) tf_X8_191 rfl rfl (by decide +kernel) (LText_o h) (Nat.le_of_ble_eq_true rfl) rfl hd hf kk
set_option maxRecDepth 100000 in
theorem tf_X8_205 : Cond.fieldLink RX8 205 "TramWires$Log" (TX1 2).2.1 (TX1 2).2.2.1 ∈ TB := tb_m (List.mem_of_getElem? (i := 167) (by decide +kernel)) rfl
theorem fg_X8_205 {l : Launch} {w : Wp} {L : Ly} {E : Cx} {M : Mm} {lv : List (Nat × Value)} {pc : Nat} {st : List Value} {cc : ByteArray} {maxL n a : Nat} (cx : Ok w L E RX8 cc maxL n) (hd : decode cc pc = .ok (.getfield 205, 3)) (h : LLog w L a) (kk : G l w L E M lv (pc + 3) (.ref (a + 1) :: st)) : G l w L E M lv pc (.ref a :: st) := g_getR cx (ci := 1) rfl in_X1 2 (by decide) tf_X8_205 rfl (LLog_o h) (Nat.le_of_ble_eq_true rfl) rfl hd kk
set_option maxRecDepth 100000 in
theorem tf_X8_208 : Cond.fieldLink RX8 208 "TramWires$Log" (TX1 3).2.1 (TX1 3).2.2.1 ∈ TB := tb_m (List.mem_of_getElem? (i := 169) (by decide +kernel)) rfl
theorem fg_X8_208 {l : Launch} {w : Wp} {L : Ly} {E : Cx} {M : Mm} {lv : List (Nat × Value)} {pc : Nat} {st : List Value} {cc : ByteArray} {maxL n a : Nat} (cx : Ok w L E RX8 cc maxL n) (hd : decode cc pc = .ok (.getfield 208, 3)) (h : LLog w L a) (kk : G l w L E M lv (pc + 3) (.ref (a + 2) :: st)) : G l w L E M lv pc (.ref a :: st) := g_getR cx (ci := 1) rfl in_X1 3 (by decide) tf_X8_208 rfl (LLog_o h) (Nat.le_of_ble_eq_true rfl) rfl hd kk
set_option maxRecDepth 100000 in
theorem tf_X8_211 : Cond.fieldLink RX8 211 "TramWires$Log" (TX1 4).2.1 (TX1 4).2.2.1 ∈ TB := tb_m (List.mem_of_getElem? (i := 171) (by decide +kernel)) rfl
theorem fg_X8_211 {l : Launch} {w : Wp} {L : Ly} {E : Cx} {M : Mm} {lv : List (Nat × Value)} {pc : Nat} {st : List Value} {cc : ByteArray} {maxL n a : Nat} (cx : Ok w L E RX8 cc maxL n) (hd : decode cc pc = .ok (.getfield 211, 3)) (h : LLog w L a) (kk : G l w L E M lv (pc + 3) (.ref (a + 3) :: st)) : G l w L E M lv pc (.ref a :: st) := g_getR cx (ci := 1) rfl in_X1 4 (by decide) tf_X8_211 rfl (LLog_o h) (Nat.le_of_ble_eq_true rfl) rfl hd kk
set_option maxRecDepth 100000 in
theorem tf_X8_218 : Cond.fieldLink RX8 218 "TramWires$Plan" (TX3 0).2.1 (TX3 0).2.2.1 ∈ TB := tb_m (List.mem_of_getElem? (i := 273) (by decide +kernel)) rfl
theorem fg_X8_218 {l : Launch} {w : Wp} {L : Ly} {E : Cx} {M : Mm} {lv : List (Nat × Value)} {pc : Nat} {st : List Value} {cc : ByteArray} {maxL n a : Nat} (cx : Ok w L E RX8 cc maxL n) (hd : decode cc pc = .ok (.getfield 218, 3)) (h : LPlan w L a) (kk : G l w L E M lv (pc + 3) (.int (M a 0) :: st)) : G l w L E M lv pc (.ref a :: st) := g_getI cx (ci := 3) rfl in_X3 0 (by decide) tf_X8_218 rfl (LPlan_o h) (Nat.le_of_ble_eq_true rfl) rfl hd kk
theorem fp_X8_218 {l : Launch} {w : Wp} {L : Ly} {E : Cx} {M : Mm} {lv : List (Nat × Value)} {pc : Nat} {st : List Value} {cc : ByteArray} {maxL n a : Nat} (cx : Ok w L E RX8 cc maxL n) {x : Int32} {A : Mm → OR} {R0 : Int32 × Mm} (hd : decode cc pc = .ok (.putfield 218, 3)) (h : LPlan w L a) (hf : bnd (mst M a 0 x) A = some R0) (kk : ∀ M1 : Mm, A M1 = some R0 → G l w L E M1 lv (pc + 3) st) : G l w L E M lv pc (.int x :: .ref a :: st) := g_putI cx (ci := 3) rfl in_X3 tyX3 tyX3_ok nmX3 0 (by decide) tf_X8_218 rfl rfl (by decide +kernel) (LPlan_o h) (Nat.le_of_ble_eq_true rfl) rfl hd hf kk
set_option maxRecDepth 100000 in
theorem tf_X8_219 : Cond.fieldLink RX8 219 "TramWires$Plan" (TX3 1).2.1 (TX3 1).2.2.1 ∈ TB := tb_m (List.mem_of_getElem? (i := 276) (by decide +kernel)) rfl
theorem fg_X8_219 {l : Launch} {w : Wp} {L : Ly} {E : Cx} {M : Mm} {lv : List (Nat × Value)} {pc : Nat} {st : List Value} {cc : ByteArray} {maxL n a : Nat} (cx : Ok w L E RX8 cc maxL n) (hd : decode cc pc = .ok (.getfield 219, 3)) (h : LPlan w L a) (kk : G l w L E M lv (pc + 3) (.ref (a + 1) :: st)) : G l w L E M lv pc (.ref a :: st) := g_getR cx (ci := 3) rfl in_X3 1 (by decide) tf_X8_219 rfl (LPlan_o h) (Nat.le_of_ble_eq_true rfl) rfl hd kk
set_option maxRecDepth 100000 in
theorem tf_X8_220 : Cond.fieldLink RX8 220 "TramWires$Plan" (TX3 2).2.1 (TX3 2).2.2.1 ∈ TB := tb_m (List.mem_of_getElem? (i := 279) (by decide +kernel)) rfl
theorem fg_X8_220 {l : Launch} {w : Wp} {L : Ly} {E : Cx} {M : Mm} {lv : List (Nat × Value)} {pc : Nat} {st : List Value} {cc : ByteArray} {maxL n a : Nat} (cx : Ok w L E RX8 cc maxL n) (hd : decode cc pc = .ok (.getfield 220, 3)) (h : LPlan w L a) (kk : G l w L E M lv (pc + 3) (.ref (a + 2) :: st)) : G l w L E M lv pc (.ref a :: st) := g_getR cx (ci := 3) rfl in_X3 2 (by decide) tf_X8_220 rfl (LPlan_o h) (Nat.le_of_ble_eq_true rfl) rfl hd kk
set_option maxRecDepth 100000 in
theorem tf_X8_225 : Cond.fieldLink RX8 225 "TramWires$Rehearsal" (TX4 1).2.1 (TX4 1).2.2.1 ∈ TB := tb_m (List.mem_of_getElem? (i := 298) (by decide +kernel)) rfl
theorem fg_X8_225 {l : Launch} {w : Wp} {L : Ly} {E : Cx} {M : Mm} {lv : List (Nat × Value)} {pc : Nat} {st : List Value} {cc : ByteArray} {maxL n a : Nat} (cx : Ok w L E RX8 cc maxL n) (hd : decode cc pc = .ok (.getfield 225, 3)) (h : LRehearsal w L a) (kk : G l w L E M lv (pc + 3) (.int (M a 1) :: st)) : G l w L E M lv pc (.ref a :: st) := g_getI cx (ci := 4) rfl in_X4 1 (by decide) tf_X8_225 rfl (LRehearsal_o h) (Nat.le_of_ble_eq_true rfl) rfl hd kk
theorem fp_X8_225 {l : Launch} {w : Wp} {L : Ly} {E : Cx} {M : Mm} {lv : List (Nat × Value)} {pc : Nat} {st : List Value} {cc : ByteArray} {maxL n a : Nat} (cx : Ok w L E RX8 cc maxL n) {x : Int32} {A : Mm → OR} {R0 : Int32 × Mm} (hd : decode cc pc = .ok (.putfield 225, 3)) (h : LRehearsal w L a) (hf : bnd (mst M a 1 x) A = some R0) (kk : ∀ M1 : Mm, A M1 = some R0 → G l w L E M1 lv (pc + 3) st) : G l w L E M lv pc (.int x :: .ref a :: st) := g_putI cx (ci := 4) rfl in_X4 tyX4 tyX4_ok nmX4 1 (by decide) tf_X8_225 rfl rfl (by decide +kernel) (LRehearsal_o h) (Nat.le_of_ble_eq_true rfl) rfl hd hf kk
set_option maxRecDepth 100000 in
theorem tf_X8_233 : Cond.fieldLink RX8 233 "TramWires$Service" (TX5 7).2.1 (TX5 7).2.2.1 ∈ TB := tb_m (List.mem_of_getElem? (i := 129) (by decide +kernel)) rfl
theorem fg_X8_233 {l : Launch} {w : Wp} {L : Ly} {E : Cx} {M : Mm} {lv : List (Nat × Value)} {pc : Nat} {st : List Value} {cc : ByteArray} {maxL n a : Nat} (cx : Ok w L E RX8 cc maxL n) (hd : decode cc pc = .ok (.getfield 233, 3)) (h : LService w L a) (kk : G l w L E M lv (pc + 3) (.ref (a + 5) :: st)) : G l w L E M lv pc (.ref a :: st) := g_getR cx (ci := 5) rfl in_X5 7 (by decide) tf_X8_233 rfl (LService_o h) (Nat.le_of_ble_eq_true rfl) rfl hd kk
set_option maxRecDepth 100000 in
theorem tf_X8_239 : Cond.fieldLink RX8 239 "TramWires$Text" (TX6 1).2.1 (TX6 1).2.2.1 ∈ TB := tb_m (List.mem_of_getElem? (i := 247) (by decide +kernel)) rfl
theorem fg_X8_239 {l : Launch} {w : Wp} {L : Ly} {E : Cx} {M : Mm} {lv : List (Nat × Value)} {pc : Nat} {st : List Value} {cc : ByteArray} {maxL n a : Nat} (cx : Ok w L E RX8 cc maxL n) (hd : decode cc pc = .ok (.getfield 239, 3)) (h : LText w L a) (kk : G l w L E M lv (pc + 3) (.ref (a + 1) :: st)) : G l w L E M lv pc (.ref a :: st) := g_getR cx (ci := 6) rfl in_X6 1 (by decide) tf_X8_239 rfl (LText_o h) (Nat.le_of_ble_eq_true rfl) rfl hd kk
set_option maxRecDepth 100000 in
theorem tf_X8_246 : Cond.fieldLink RX8 246 "TramWires$Rehearsal" (TX4 3).2.1 (TX4 3).2.2.1 ∈ TB := tb_m (List.mem_of_getElem? (i := 302) (by decide +kernel)) rfl
theorem fg_X8_246 {l : Launch} {w : Wp} {L : Ly} {E : Cx} {M : Mm} {lv : List (Nat × Value)} {pc : Nat} {st : List Value} {cc : ByteArray} {maxL n a : Nat} (cx : Ok w L E RX8 cc maxL n) (hd : decode cc pc = .ok (.getfield 246, 3)) (h : LRehearsal w L a) (kk : G l w L E M lv (pc + 3) (.int (M a 3) :: st)) : G l w L E M lv pc (.ref a :: st) := g_getI cx (ci := 4) rfl in_X4 3 (by decide) tf_X8_246 rfl (LRehearsal_o h) (Nat.le_of_ble_eq_true rfl) rfl hd kk
theorem fp_X8_246 {l : Launch} {w : Wp} {L : Ly} {E : Cx} {M : Mm} {lv : List (Nat × Value)} {pc : Nat} {st : List Value} {cc : ByteArray} {maxL n a : Nat} (cx : Ok w L E RX8 cc maxL n) {x : Int32} {A : Mm → OR} {R0 : Int32 × Mm} (hd : decode cc pc = .ok (.putfield 246, 3)) (h : LRehearsal w L a) (hf : bnd (mst M a 3 x) A = some R0) (kk : ∀ M1 : Mm, A M1 = some R0 → G l w L E M1 lv (pc + 3) st) : G l w L E M lv pc (.int x :: .ref a :: st) := g_putI cx (ci := 4) rfl in_X4 tyX4 tyX4_ok nmX4 3 (by decide) tf_X8_246 rfl rfl (by decide +kernel) (LRehearsal_o h) (Nat.le_of_ble_eq_true rfl) rfl hd hf kk
set_option maxRecDepth 100000 in
theorem tf_X8_249 : Cond.fieldLink RX8 249 "TramWires$Rehearsal" (TX4 2).2.1 (TX4 2).2.2.1 ∈ TB := tb_m (List.mem_of_getElem? (i := 300) (by decide +kernel)) rfl
theorem fg_X8_249 {l : Launch} {w : Wp} {L : Ly} {E : Cx} {M : Mm} {lv : List (Nat × Value)} {pc : Nat} {st : List Value} {cc : ByteArray} {maxL n a : Nat} (cx : Ok w L E RX8 cc maxL n) (hd : decode cc pc = .ok (.getfield 249, 3)) (h : LRehearsal w L a) (kk : G l w L E M lv (pc + 3) (.int (M a 2) :: st)) : G l w L E M lv pc (.ref a :: st) := g_getI cx (ci := 4) rfl in_X4 2 (by decide) tf_X8_249 rfl (LRehearsal_o h) (Nat.le_of_ble_eq_true rfl) rfl hd kk
theorem fp_X8_249 {l : Launch} {w : Wp} {L : Ly} {E : Cx} {M : Mm} {lv : List (Nat × Value)} {pc : Nat} {st : List Value} {cc : ByteArray} {maxL n a : Nat} (cx : Ok w L E RX8 cc maxL n) {x : Int32} {A : Mm → OR} {R0 : Int32 × Mm} (hd : decode cc pc = .ok (.putfield 249, 3)) (h : LRehearsal w L a) (hf : bnd (mst M a 2 x) A = some R0) (kk : ∀ M1 : Mm, A M1 = some R0 → G l w L E M1 lv (pc + 3) st) : G l w L E M lv pc (.int x :: .ref a :: st) := g_putI cx (ci := 4) rfl in_X4 tyX4 tyX4_ok nmX4 2 (by decide) tf_X8_249 rfl rfl (by decide +kernel) (LRehearsal_o h) (Nat.le_of_ble_eq_true rfl) rfl hd hf kk
set_option maxRecDepth 100000 in
theorem tf_X8_252 : Cond.fieldLink RX8 252 "TramWires$Rehearsal" (TX4 0).2.1 (TX4 0).2.2.1 ∈ TB := tb_m (List.mem_of_getElem? (i := 296) (by decide +kernel)) rfl
theorem fg_X8_252 {l : Launch} {w : Wp} {L : Ly} {E : Cx} {M : Mm} {lv : List (Nat × Value)} {pc : Nat} {st : List Value} {cc : ByteArray} {maxL n a : Nat} (cx : Ok w L E RX8 cc maxL n) (hd : decode cc pc = .ok (.getfield 252, 3)) (h : LRehearsal w L a) (kk : G l w L E M lv (pc + 3) (.ref (a + 1) :: st)) : G l w L E M lv pc (.ref a :: st) := g_getR cx (ci := 4) rfl in_X4 0 (by decide) tf_X8_252 rfl (LRehearsal_o h) (Nat.le_of_ble_eq_true rfl) rfl hd kk
set_option maxRecDepth 100000 in
theorem tf_X0_11 : Cond.fieldLink RX0 11 "TramWires$History" (TX0 1).2.1 (TX0 1).2.2.1 ∈ TB := tb_m (List.mem_of_getElem? (i := 231) (by decide +kernel)) rfl
theorem fg_X0_11 {l : Launch} {w : Wp} {L : Ly} {E : Cx} {M : Mm} {lv : List (Nat × Value)} {pc : Nat} {st : List Value} {cc : ByteArray} {maxL n a : Nat} (cx : Ok w L E RX0 cc maxL n) (hd : decode cc pc = .ok (.getfield 11, 3)) (h : LHistory w L a) (kk : G l w L E M lv (pc + 3) (.ref (a + 1) :: st)) : G l w L E M lv pc (.ref a :: st) := g_getR cx (ci := 0) rfl in_X0 1 (by decide) tf_X0_11 rfl (LHistory_o h) (Nat.le_of_ble_eq_true rfl) rfl hd kk
set_option maxRecDepth 100000 in
theorem tf_X0_18 : Cond.fieldLink RX0 18 "TramWires$History" (TX0 0).2.1 (TX0 0).2.2.1 ∈ TB := tb_m (List.mem_of_getElem? (i := 229) (by decide +kernel)) rfl
theorem fg_X0_18 {l : Launch} {w : Wp} {L : Ly} {E : Cx} {M : Mm} {lv : List (Nat × Value)} {pc : Nat} {st : List Value} {cc : ByteArray} {maxL n a : Nat} (cx : Ok w L E RX0 cc maxL n) (hd : decode cc pc = .ok (.getfield 18, 3)) (h : LHistory w L a) (kk : G l w L E M lv (pc + 3) (.int (M a 0) :: st)) : G l w L E M lv pc (.ref a :: st) := g_getI cx (ci := 0) rfl in_X0 0 (by decide) tf_X0_18 rfl (LHistory_o h) (Nat.le_of_ble_eq_true rfl) rfl hd kk
theorem fp_X0_18 {l : Launch} {w : Wp} {L : Ly} {E : Cx} {M : Mm} {lv : List (Nat × Value)} {pc : Nat} {st : List Value} {cc : ByteArray} {maxL n a : Nat} (cx : Ok w L E RX0 cc maxL n) {x : Int32} {A : Mm → OR} {R0 : Int32 × Mm} (hd : decode cc pc = .ok (.putfield 18, 3)) (h : LHistory w L a) (hf : bnd (mst M a 0 x) A = some R0) (kk : ∀ M1 : Mm, A M1 = some R0 → G l w L E M1 lv (pc + 3) st) : G l w L E M lv pc (.int x :: .ref a :: st) := g_putI cx (ci := 0) rfl in_X0 tyX0 tyX0_ok nmX0 0 (by decide) tf_X0_18 rfl rfl (by decide +kernel) (LHistory_o h) (Nat.le_of_ble_eq_true rfl) rfl hd hf kk
set_option maxRecDepth 100000 in
theorem tf_X1_9 : Cond.fieldLink RX1 9 "TramWires$Log" (TX1 2).2.1 (TX1 2).2.2.1 ∈ TB := tb_m (List.mem_of_getElem? (i := 166) (by decide +kernel)) rfl
theorem fg_X1_9 {l : Launch} {w : Wp} {L : Ly} {E : Cx} {M : Mm} {lv : List (Nat × Value)} {pc : Nat} {st : List Value} {cc : ByteArray} {maxL n a : Nat} (cx : Ok w L E RX1 cc maxL n) (hd : decode cc pc = .ok (.getfield 9, 3)) (h : LLog w L a) (kk : G l w L E M lv (pc + 3) (.ref (a + 1) :: st)) : G l w L E M lv pc (.ref a :: st) := g_getR cx (ci := 1) rfl in_X1 2 (by decide) tf_X1_9 rfl (LLog_o h) (Nat.le_of_ble_eq_true rfl) rfl hd kk
set_option maxRecDepth 100000 in
theorem tf_X1_15 : Cond.fieldLink RX1 15 "TramWires$Log" (TX1 3).2.1 (TX1 3).2.2.1 ∈ TB := tb_m (List.mem_of_getElem? (i := 168) (by decide +kernel)) rfl
theorem fg_X1_15 {l : Launch} {w : Wp} {L : Ly} {E : Cx} {M : Mm} {lv : List (Nat × Value)} {pc : Nat} {st : List Value} {cc : ByteArray} {maxL n a : Nat} (cx : Ok w L E RX1 cc maxL n) (hd : decode cc pc = .ok (.getfield 15, 3)) (h : LLog w L a) (kk : G l w L E M lv (pc + 3) (.ref (a + 2) :: st)) : G l w L E M lv pc (.ref a :: st) := g_getR cx (ci := 1) rfl in_X1 3 (by decide) tf_X1_15 rfl (LLog_o h) (Nat.le_of_ble_eq_true rfl) rfl hd kk
set_option maxRecDepth 100000 in
theorem tf_X1_18 : Cond.fieldLink RX1 18 "TramWires$Log" (TX1 4).2.1 (TX1 4).2.2.1 ∈ TB := tb_m (List.mem_of_getElem? (i := 170) (by decide +kernel)) rfl
theorem fg_X1_18 {l : Launch} {w : Wp} {L : Ly} {E : Cx} {M : Mm} {lv : List (Nat × Value)} {pc : Nat} {st : List Value} {cc : ByteArray} {maxL n a : Nat} (cx : Ok w L E RX1 cc maxL n) (hd : decode cc pc = .ok (.getfield 18, 3)) (h : LLog w L a) (kk : G l w L E M lv (pc + 3) (.ref (a + 3) :: st)) : G l w L E M lv pc (.ref a :: st) := g_getR cx (ci := 1) rfl in_X1 4 (by decide) tf_X1_18 rfl (LLog_o h) (Nat.le_of_ble_eq_true rfl) rfl hd kk
set_option maxRecDepth 100000 in
theorem tf_X1_21 : Cond.fieldLink RX1 21 "TramWires$Log" (TX1 5).2.1 (TX1 5).2.2.1 ∈ TB := tb_m (List.mem_of_getElem? (i := 172) (by decide +kernel)) rfl
theorem fg_X1_21 {l : Launch} {w : Wp} {L : Ly} {E : Cx} {M : Mm} {lv : List (Nat × Value)} {pc : Nat} {st : List Value} {cc : ByteArray} {maxL n a : Nat} (cx : Ok w L E RX1 cc maxL n) (hd : decode cc pc = .ok (.getfield 21, 3)) (h : LLog w L a) (kk : G l w L E M lv (pc + 3) (.ref (a + 4) :: st)) : G l w L E M lv pc (.ref a :: st) := g_getR cx (ci := 1) rfl in_X1 5 (by decide) tf_X1_21 rfl (LLog_o h) (Nat.le_of_ble_eq_true rfl) rfl hd kk
set_option maxRecDepth 100000 in
theorem tf_X1_24 : Cond.fieldLink RX1 24 "TramWires$Log" (TX1 6).2.1 (TX1 6).2.2.1 ∈ TB := tb_m (List.mem_of_getElem? (i := 174) (by decide +kernel)) rfl
theorem fg_X1_24 {l : Launch} {w : Wp} {L : Ly} {E : Cx} {M : Mm} {lv : List (Nat × Value)} {pc : Nat} {st : List Value} {cc : ByteArray} {maxL n a : Nat} (cx : Ok w L E RX1 cc maxL n) (hd : decode cc pc = .ok (.getfield 24, 3)) (h : LLog w L a) (kk : G l w L E M lv (pc + 3) (.ref (a + 5) :: st)) : G l w L E M lv pc (.ref a :: st) := g_getR cx (ci := 1) rfl in_X1 6 (by decide) tf_X1_24 rfl (LLog_o h) (Nat.le_of_ble_eq_true rfl) rfl hd kk
set_option maxRecDepth 100000 in
theorem tf_X1_28 : Cond.fieldLink RX1 28 "TramWires$Log" (TX1 7).2.1 (TX1 7).2.2.1 ∈ TB := tb_m (List.mem_of_getElem? (i := 176) (by decide +kernel)) rfl
theorem fg_X1_28 {l : Launch} {w : Wp} {L : Ly} {E : Cx} {M : Mm} {lv : List (Nat × Value)} {pc : Nat} {st : List Value} {cc : ByteArray} {maxL n a : Nat} (cx : Ok w L E RX1 cc maxL n) (hd : decode cc pc = .ok (.getfield 28, 3)) (h : LLog w L a) (kk : G l w L E M lv (pc + 3) (.ref (a + 6) :: st)) : G l w L E M lv pc (.ref a :: st) := g_getR cx (ci := 1) rfl in_X1 7 (by decide) tf_X1_28 rfl (LLog_o h) (Nat.le_of_ble_eq_true rfl) rfl hd kk
set_option maxRecDepth 100000 in
theorem tf_X1_31 : Cond.fieldLink RX1 31 "TramWires$Log" (TX1 8).2.1 (TX1 8).2.2.1 ∈ TB := tb_m (List.mem_of_getElem? (i := 178) (by decide +kernel)) rfl
theorem fg_X1_31 {l : Launch} {w : Wp} {L : Ly} {E : Cx} {M : Mm} {lv : List (Nat × Value)} {pc : Nat} {st : List Value} {cc : ByteArray} {maxL n a : Nat} (cx : Ok w L E RX1 cc maxL n) (hd : decode cc pc = .ok (.getfield 31, 3)) (h : LLog w L a) (kk : G l w L E M lv (pc + 3) (.ref (a + 7) :: st)) : G l w L E M lv pc (.ref a :: st) := g_getR cx (ci := 1) rfl in_X1 8 (by decide) tf_X1_31 rfl (LLog_o h) (Nat.le_of_ble_eq_true rfl) rfl hd kk
set_option maxRecDepth 100000 in
theorem tf_X1_34 : Cond.fieldLink RX1 34 "TramWires$Log" (TX1 0).2.1 (TX1 0).2.2.1 ∈ TB := tb_m (List.mem_of_getElem? (i := 162) (by decide +kernel)) rfl
theorem fg_X1_34 {l : Launch} {w : Wp} {L : Ly} {E : Cx} {M : Mm} {lv : List (Nat × Value)} {pc : Nat} {st : List Value} {cc : ByteArray} {maxL n a : Nat} (cx : Ok w L E RX1 cc maxL n) (hd : decode cc pc = .ok (.getfield 34, 3)) (h : LLog w L a) (kk : G l w L E M lv (pc + 3) (.int (M a 0) :: st)) : G l w L E M lv pc (.ref a :: st) := g_getI cx (ci := 1) rfl in_X1 0 (by decide) tf_X1_34 rfl (LLog_o h) (Nat.le_of_ble_eq_true rfl) rfl hd kk
theorem fp_X1_34 {l : Launch} {w : Wp} {L : Ly} {E : Cx} {M : Mm} {lv : List (Nat × Value)} {pc : Nat} {st : List Value} {cc : ByteArray} {maxL n a : Nat} (cx : Ok w L E RX1 cc maxL n) {x : Int32} {A : Mm → OR} {R0 : Int32 × Mm} (hd : decode cc pc = .ok (.putfield 34, 3)) (h : LLog w L a) (hf : bnd (mst M a 0 x) A = some R0) (kk : ∀ M1 : Mm, A M1 = some R0 → G l w L E M1 lv (pc + 3) st) : G l w L E M lv pc (.int x :: .ref a :: st) := g_putI cx (ci := 1) rfl in_X1 tyX1 tyX1_ok nmX1 0 (by decide) tf_X1_34 rfl rfl (by decide +kernel) (LLog_o h) (Nat.le_of_ble_eq_true rfl) rfl hd hf kk
set_option maxRecDepth 100000 in
theorem tf_X1_38 : Cond.fieldLink RX1 38 "TramWires$Log" (TX1 1).2.1 (TX1 1).2.2.1 ∈ TB := tb_m (List.mem_of_getElem? (i := 164) (by decide +kernel)) rfl
theorem fg_X1_38 {l : Launch} {w : Wp} {L : Ly} {E : Cx} {M : Mm} {lv : List (Nat × Value)} {pc : Nat} {st : List Value} {cc : ByteArray} {maxL n a : Nat} (cx : Ok w L E RX1 cc maxL n) (hd : decode cc pc = .ok (.getfield 38, 3)) (h : LLog w L a) (kk : G l w L E M lv (pc + 3) (.int (M a 1) :: st)) : G l w L E M lv pc (.ref a :: st) := g_getI cx (ci := 1) rfl in_X1 1 (by decide) tf_X1_38 rfl (LLog_o h) (Nat.le_of_ble_eq_true rfl) rfl hd kk
theorem fp_X1_38 {l : Launch} {w : Wp} {L : Ly} {E : Cx} {M : Mm} {lv : List (Nat × Value)} {pc : Nat} {st : List Value} {cc : ByteArray} {maxL n a : Nat} (cx : Ok w L E RX1 cc maxL n) {x : Int32} {A : Mm → OR} {R0 : Int32 × Mm} (hd : decode cc pc = .ok (.putfield 38, 3)) (h : LLog w L a) (hf : bnd (mst M a 1 x) A = some R0) (kk : ∀ M1 : Mm, A M1 = some R0 → G l w L E M1 lv (pc + 3) st) : G l w L E M lv pc (.int x :: .ref a :: st) := g_putI cx (ci := 1) rfl in_X1 tyX1 tyX1_ok nmX1 1 (by decide) tf_X1_38 rfl rfl (by decide +kernel) (LLog_o h) (Nat.le_of_ble_eq_true rfl) rfl hd hf kk
set_option maxRecDepth 100000 in
theorem tf_X2_9 : Cond.fieldLink RX2 9 "TramWires$Net" (TX2 2).2.1 (TX2 2).2.2.1 ∈ TB := tb_m (List.mem_of_getElem? (i := 64) (by decide +kernel)) rfl
theorem fg_X2_9 {l : Launch} {w : Wp} {L : Ly} {E : Cx} {M : Mm} {lv : List (Nat × Value)} {pc : Nat} {st : List Value} {cc : ByteArray} {maxL n a : Nat} (cx : Ok w L E RX2 cc maxL n) (hd : decode cc pc = .ok (.getfield 9, 3)) (h : LNet w L a) (kk : G l w L E M lv (pc + 3) (.ref (a + 1) :: st)) : G l w L E M lv pc (.ref a :: st) := g_getR cx (ci := 2) rfl in_X2 2 (by decide) tf_X2_9 rfl (LNet_o h) (Nat.le_of_ble_eq_true rfl) rfl hd kk
set_option maxRecDepth 100000 in
theorem tf_X2_15 : Cond.fieldLink RX2 15 "TramWires$Net" (TX2 3).2.1 (TX2 3).2.2.1 ∈ TB := tb_m (List.mem_of_getElem? (i := 68) (by decide +kernel)) rfl
theorem fg_X2_15 {l : Launch} {w : Wp} {L : Ly} {E : Cx} {M : Mm} {lv : List (Nat × Value)} {pc : Nat} {st : List Value} {cc : ByteArray} {maxL n a : Nat} (cx : Ok w L E RX2 cc maxL n) (hd : decode cc pc = .ok (.getfield 15, 3)) (h : LNet w L a) (kk : G l w L E M lv (pc + 3) (.ref (a + 2) :: st)) : G l w L E M lv pc (.ref a :: st) := g_getR cx (ci := 2) rfl in_X2 3 (by decide) tf_X2_15 rfl (LNet_o h) (Nat.le_of_ble_eq_true rfl) rfl hd kk
set_option maxRecDepth 100000 in
theorem tf_X2_18 : Cond.fieldLink RX2 18 "TramWires$Net" (TX2 4).2.1 (TX2 4).2.2.1 ∈ TB := tb_m (List.mem_of_getElem? (i := 71) (by decide +kernel)) rfl
theorem fg_X2_18 {l : Launch} {w : Wp} {L : Ly} {E : Cx} {M : Mm} {lv : List (Nat × Value)} {pc : Nat} {st : List Value} {cc : ByteArray} {maxL n a : Nat} (cx : Ok w L E RX2 cc maxL n) (hd : decode cc pc = .ok (.getfield 18, 3)) (h : LNet w L a) (kk : G l w L E M lv (pc + 3) (.ref (a + 3) :: st)) : G l w L E M lv pc (.ref a :: st) := g_getR cx (ci := 2) rfl in_X2 4 (by decide) tf_X2_18 rfl (LNet_o h) (Nat.le_of_ble_eq_true rfl) rfl hd kk
set_option maxRecDepth 100000 in
theorem tf_X2_21 : Cond.fieldLink RX2 21 "TramWires$Net" (TX2 5).2.1 (TX2 5).2.2.1 ∈ TB := tb_m (List.mem_of_getElem? (i := 74) (by decide +kernel)) rfl
theorem fg_X2_21 {l : Launch} {w : Wp} {L : Ly} {E : Cx} {M : Mm} {lv : List (Nat × Value)} {pc : Nat} {st : List Value} {cc : ByteArray} {maxL n a : Nat} (cx : Ok w L E RX2 cc maxL n) (hd : decode cc pc = .ok (.getfield 21, 3)) (h : LNet w L a) (kk : G l w L E M lv (pc + 3) (.ref (a + 4) :: st)) : G l w L E M lv pc (.ref a :: st) := g_getR cx (ci := 2) rfl in_X2 5 (by decide) tf_X2_21 rfl (LNet_o h) (Nat.le_of_ble_eq_true rfl) rfl hd kk
set_option maxRecDepth 100000 in
theorem tf_X2_25 : Cond.fieldLink RX2 25 "TramWires$Net" (TX2 6).2.1 (TX2 6).2.2.1 ∈ TB := tb_m (List.mem_of_getElem? (i := 77) (by decide +kernel)) rfl
theorem fg_X2_25 {l : Launch} {w : Wp} {L : Ly} {E : Cx} {M : Mm} {lv : List (Nat × Value)} {pc : Nat} {st : List Value} {cc : ByteArray} {maxL n a : Nat} (cx : Ok w L E RX2 cc maxL n) (hd : decode cc pc = .ok (.getfield 25, 3)) (h : LNet w L a) (kk : G l w L E M lv (pc + 3) (.ref (a + 5) :: st)) : G l w L E M lv pc (.ref a :: st) := g_getR cx (ci := 2) rfl in_X2 6 (by decide) tf_X2_25 rfl (LNet_o h) (Nat.le_of_ble_eq_true rfl) rfl hd kk
set_option maxRecDepth 100000 in
theorem tf_X2_28 : Cond.fieldLink RX2 28 "TramWires$Net" (TX2 7).2.1 (TX2 7).2.2.1 ∈ TB := tb_m (List.mem_of_getElem? (i := 79) (by decide +kernel)) rfl
theorem fg_X2_28 {l : Launch} {w : Wp} {L : Ly} {E : Cx} {M : Mm} {lv : List (Nat × Value)} {pc : Nat} {st : List Value} {cc : ByteArray} {maxL n a : Nat} (cx : Ok w L E RX2 cc maxL n) (hd : decode cc pc = .ok (.getfield 28, 3)) (h : LNet w L a) (kk : G l w L E M lv (pc + 3) (.ref (a + 6) :: st)) : G l w L E M lv pc (.ref a :: st) := g_getR cx (ci := 2) rfl in_X2 7 (by decide) tf_X2_28 rfl (LNet_o h) (Nat.le_of_ble_eq_true rfl) rfl hd kk
set_option maxRecDepth 100000 in
theorem tf_X2_31 : Cond.fieldLink RX2 31 "TramWires$Net" (TX2 0).2.1 (TX2 0).2.2.1 ∈ TB := tb_m (List.mem_of_getElem? (i := 57) (by decide +kernel)) rfl
theorem fg_X2_31 {l : Launch} {w : Wp} {L : Ly} {E : Cx} {M : Mm} {lv : List (Nat × Value)} {pc : Nat} {st : List Value} {cc : ByteArray} {maxL n a : Nat} (cx : Ok w L E RX2 cc maxL n) (hd : decode cc pc = .ok (.getfield 31, 3)) (h : LNet w L a) (kk : G l w L E M lv (pc + 3) (.int (M a 0) :: st)) : G l w L E M lv pc (.ref a :: st) := g_getI cx (ci := 2) rfl in_X2 0 (by decide) tf_X2_31 rfl (LNet_o h) (Nat.le_of_ble_eq_true rfl) rfl hd kk
theorem fp_X2_31 {l : Launch} {w : Wp} {L : Ly} {E : Cx} {M : Mm} {lv : List (Nat × Value)} {pc : Nat} {st : List Value} {cc : ByteArray} {maxL n a : Nat} (cx : Ok w L E RX2 cc maxL n) {x : Int32} {A : Mm → OR} {R0 : Int32 × Mm} (hd : decode cc pc = .ok (.putfield 31, 3)) (h : LNet w L a) (hf : bnd (mst M a 0 x) A = some R0) (kk : ∀ M1 : Mm, A M1 = some R0 → G l w L E M1 lv (pc + 3) st) : G l w L E M lv pc (.int x :: .ref a :: st) := g_putI cx (ci := 2) rfl in_X2 tyX2 tyX2_ok nmX2 0 (by decide) tf_X2_31 rfl rfl (by decide +kernel) (LNet_o h) (Nat.le_of_ble_eq_true rfl) rfl hd hf kk
set_option maxRecDepth 100000 in
theorem tf_X2_35 : Cond.fieldLink RX2 35 "TramWires$Net" (TX2 1).2.1 (TX2 1).2.2.1 ∈ TB := tb_m (List.mem_of_getElem? (i := 60) (by decide +kernel)) rfl
theorem fg_X2_35 {l : Launch} {w : Wp} {L : Ly} {E : Cx} {M : Mm} {lv : List (Nat × Value)} {pc : Nat} {st : List Value} {cc : ByteArray} {maxL n a : Nat} (cx : Ok w L E RX2 cc maxL n) (hd : decode cc pc = .ok (.getfield 35, 3)) (h : LNet w L a) (kk : G l w L E M lv (pc + 3) (.int (M a 1) :: st)) : G l w L E M lv pc (.ref a :: st) := g_getI cx (ci := 2) rfl in_X2 1 (by decide) tf_X2_35 rfl (LNet_o h) (Nat.le_of_ble_eq_true rfl) rfl hd kk
theorem fp_X2_35 {l : Launch} {w : Wp} {L : Ly} {E : Cx} {M : Mm} {lv : List (Nat × Value)} {pc : Nat} {st : List Value} {cc : ByteArray} {maxL n a : Nat} (cx : Ok w L E RX2 cc maxL n) {x : Int32} {A : Mm → OR} {R0 : Int32 × Mm} (hd : decode cc pc = .ok (.putfield 35, 3)) (h : LNet w L a) (hf : bnd (mst M a 1 x) A = some R0) (kk : ∀ M1 : Mm, A M1 = some R0 → G l w L E M1 lv (pc + 3) st) : G l w L E M lv pc (.int x :: .ref a :: st) := g_putI cx (ci := 2) rfl in_X2 tyX2 tyX2_ok nmX2 1 (by decide) tf_X2_35 rfl rfl (by decide +kernel) (LNet_o h) (Nat.le_of_ble_eq_true rfl) rfl hd hf kk
set_option maxRecDepth 100000 in
theorem tf_X3_9 : Cond.fieldLink RX3 9 "TramWires$Plan" (TX3 1).2.1 (TX3 1).2.2.1 ∈ TB := tb_m (List.mem_of_getElem? (i := 274) (by decide +kernel)) rfl
theorem fg_X3_9 {l : Launch} {w : Wp} {L : Ly} {E : Cx} {M : Mm} {lv : List (Nat × Value)} {pc : Nat} {st : List Value} {cc : ByteArray} {maxL n a : Nat} (cx : Ok w L E RX3 cc maxL n) (hd : decode cc pc = .ok (.getfield 9, 3)) (h : LPlan w L a) (kk : G l w L E M lv (pc + 3) (.ref (a + 1) :: st)) : G l w L E M lv pc (.ref a :: st) := g_getR cx (ci := 3) rfl in_X3 1 (by decide) tf_X3_9 rfl (LPlan_o h) (Nat.le_of_ble_eq_true rfl) rfl hd kk
set_option maxRecDepth 100000 in
theorem tf_X3_15 : Cond.fieldLink RX3 15 "TramWires$Plan" (TX3 2).2.1 (TX3 2).2.2.1 ∈ TB := tb_m (List.mem_of_getElem? (i := 277) (by decide +kernel)) rfl
theorem fg_X3_15 {l : Launch} {w : Wp} {L : Ly} {E : Cx} {M : Mm} {lv : List (Nat × Value)} {pc : Nat} {st : List Value} {cc : ByteArray} {maxL n a : Nat} (cx : Ok w L E RX3 cc maxL n) (hd : decode cc pc = .ok (.getfield 15, 3)) (h : LPlan w L a) (kk : G l w L E M lv (pc + 3) (.ref (a + 2) :: st)) : G l w L E M lv pc (.ref a :: st) := g_getR cx (ci := 3) rfl in_X3 2 (by decide) tf_X3_15 rfl (LPlan_o h) (Nat.le_of_ble_eq_true rfl) rfl hd kk
set_option maxRecDepth 100000 in
theorem tf_X3_18 : Cond.fieldLink RX3 18 "TramWires$Plan" (TX3 0).2.1 (TX3 0).2.2.1 ∈ TB := tb_m (List.mem_of_getElem? (i := 271) (by decide +kernel)) rfl
theorem fg_X3_18 {l : Launch} {w : Wp} {L : Ly} {E : Cx} {M : Mm} {lv : List (Nat × Value)} {pc : Nat} {st : List Value} {cc : ByteArray} {maxL n a : Nat} (cx : Ok w L E RX3 cc maxL n) (hd : decode cc pc = .ok (.getfield 18, 3)) (h : LPlan w L a) (kk : G l w L E M lv (pc + 3) (.int (M a 0) :: st)) : G l w L E M lv pc (.ref a :: st) := g_getI cx (ci := 3) rfl in_X3 0 (by decide) tf_X3_18 rfl (LPlan_o h) (Nat.le_of_ble_eq_true rfl) rfl hd kk
theorem fp_X3_18 {l : Launch} {w : Wp} {L : Ly} {E : Cx} {M : Mm} {lv : List (Nat × Value)} {pc : Nat} {st : List Value} {cc : ByteArray} {maxL n a : Nat} (cx : Ok w L E RX3 cc maxL n) {x : Int32} {A : Mm → OR} {R0 : Int32 × Mm} (hd : decode cc pc = .ok (.putfield 18, 3)) (h : LPlan w L a) (hf : bnd (mst M a 0 x) A = some R0) (kk : ∀ M1 : Mm, A M1 = some R0 → G l w L E M1 lv (pc + 3) st) : G l w L E M lv pc (.int x :: .ref a :: st) := g_putI cx (ci := 3) rfl in_X3 tyX3 tyX3_ok nmX3 0 (by decide) tf_X3_18 rfl rfl (by decide +kernel) (LPlan_o h) (Nat.le_of_ble_eq_true rfl) rfl hd hf kk
set_option maxRecDepth 100000 in
theorem tf_X3_22 : Cond.fieldLink RX3 22 "TramWires$Wires" (TX7 1).2.1 (TX7 1).2.2.1 ∈ TB := tb_m (List.mem_of_getElem? (i := 203) (by decide +kernel)) rfl
theorem fg_X3_22 {l : Launch} {w : Wp} {L : Ly} {E : Cx} {M : Mm} {lv : List (Nat × Value)} {pc : Nat} {st : List Value} {cc : ByteArray} {maxL n a : Nat} (cx : Ok w L E RX3 cc maxL n) (hd : decode cc pc = .ok (.getfield 22, 3)) (h : LWires w L a) (kk : G l w L E M lv (pc + 3) (.ref (a + 8) :: st)) : G l w L E M lv pc (.ref a :: st) := g_getR cx (ci := 7) rfl in_X7 1 (by decide) tf_X3_22 rfl (LWires_o h) (Nat.le_of_ble_eq_true rfl) rfl hd kk
set_option maxRecDepth 100000 in
theorem tf_X3_28 : Cond.fieldLink RX3 28 "TramWires$Service" (TX5 4).2.1 (TX5 4).2.2.1 ∈ TB := tb_m (List.mem_of_getElem? (i := 118) (by decide +kernel)) rfl
theorem fg_X3_28 {l : Launch} {w : Wp} {L : Ly} {E : Cx} {M : Mm} {lv : List (Nat × Value)} {pc : Nat} {st : List Value} {cc : ByteArray} {maxL n a : Nat} (cx : Ok w L E RX3 cc maxL n) (hd : decode cc pc = .ok (.getfield 28, 3)) (h : LService w L a) (kk : G l w L E M lv (pc + 3) (.ref (a + 2) :: st)) : G l w L E M lv pc (.ref a :: st) := g_getR cx (ci := 5) rfl in_X5 4 (by decide) tf_X3_28 rfl (LService_o h) (Nat.le_of_ble_eq_true rfl) rfl hd kk
set_option maxRecDepth 100000 in
theorem tf_X3_38 : Cond.fieldLink RX3 38 "TramWires$Wires" (TX7 0).2.1 (TX7 0).2.2.1 ∈ TB := tb_m (List.mem_of_getElem? (i := 200) (by decide +kernel)) rfl
theorem fg_X3_38 {l : Launch} {w : Wp} {L : Ly} {E : Cx} {M : Mm} {lv : List (Nat × Value)} {pc : Nat} {st : List Value} {cc : ByteArray} {maxL n a : Nat} (cx : Ok w L E RX3 cc maxL n) (hd : decode cc pc = .ok (.getfield 38, 3)) (h : LWires w L a) (kk : G l w L E M lv (pc + 3) (.ref (a + 1) :: st)) : G l w L E M lv pc (.ref a :: st) := g_getR cx (ci := 7) rfl in_X7 0 (by decide) tf_X3_38 rfl (LWires_o h) (Nat.le_of_ble_eq_true rfl) rfl hd kk
set_option maxRecDepth 100000 in
theorem tf_X3_42 : Cond.fieldLink RX3 42 "TramWires$Net" (TX2 2).2.1 (TX2 2).2.2.1 ∈ TB := tb_m (List.mem_of_getElem? (i := 65) (by decide +kernel)) rfl
theorem fg_X3_42 {l : Launch} {w : Wp} {L : Ly} {E : Cx} {M : Mm} {lv : List (Nat × Value)} {pc : Nat} {st : List Value} {cc : ByteArray} {maxL n a : Nat} (cx : Ok w L E RX3 cc maxL n) (hd : decode cc pc = .ok (.getfield 42, 3)) (h : LNet w L a) (kk : G l w L E M lv (pc + 3) (.ref (a + 1) :: st)) : G l w L E M lv pc (.ref a :: st) := g_getR cx (ci := 2) rfl in_X2 2 (by decide) tf_X3_42 rfl (LNet_o h) (Nat.le_of_ble_eq_true rfl) rfl hd kk
set_option maxRecDepth 100000 in
theorem tf_X3_47 : Cond.fieldLink RX3 47 "TramWires$Net" (TX2 1).2.1 (TX2 1).2.2.1 ∈ TB := tb_m (List.mem_of_getElem? (i := 61) (by decide +kernel)) rfl
theorem fg_X3_47 {l : Launch} {w : Wp} {L : Ly} {E : Cx} {M : Mm} {lv : List (Nat × Value)} {pc : Nat} {st : List Value} {cc : ByteArray} {maxL n a : Nat} (cx : Ok w L E RX3 cc maxL n) (hd : decode cc pc = .ok (.getfield 47, 3)) (h : LNet w L a) (kk : G l w L E M lv (pc + 3) (.int (M a 1) :: st)) : G l w L E M lv pc (.ref a :: st) := g_getI cx (ci := 2) rfl in_X2 1 (by decide) tf_X3_47 rfl (LNet_o h) (Nat.le_of_ble_eq_true rfl) rfl hd kk
theorem fp_X3_47 {l : Launch} {w : Wp} {L : Ly} {E : Cx} {M : Mm} {lv : List (Nat × Value)} {pc : Nat} {st : List Value} {cc : ByteArray} {maxL n a : Nat} (cx : Ok w L E RX3 cc maxL n) {x : Int32} {A : Mm → OR} {R0 : Int32 × Mm} (hd : decode cc pc = .ok (.putfield 47, 3)) (h : LNet w L a) (hf : bnd (mst M a 1 x) A = some R0) (kk : ∀ M1 : Mm, A M1 = some R0 → G l w L E M1 lv (pc + 3) st) : G l w L E M lv pc (.int x :: .ref a :: st) := g_putI cx (ci := 2) rfl in_X2 tyX2 tyX2_ok nmX2 1 (by decide) tf_X3_47 rfl rfl (by decide +kernel) (LNet_o h) (Nat.le_of_ble_eq_true rfl) rfl hd hf kk
set_option maxRecDepth 100000 in
theorem tf_X3_54 : Cond.fieldLink RX3 54 "TramWires$Service" (TX5 5).2.1 (TX5 5).2.2.1 ∈ TB := tb_m (List.mem_of_getElem? (i := 122) (by decide +kernel)) rfl
theorem fg_X3_54 {l : Launch} {w : Wp} {L : Ly} {E : Cx} {M : Mm} {lv : List (Nat × Value)} {pc : Nat} {st : List Value} {cc : ByteArray} {maxL n a : Nat} (cx : Ok w L E RX3 cc maxL n) (hd : decode cc pc = .ok (.getfield 54, 3)) (h : LService w L a) (kk : G l w L E M lv (pc + 3) (.ref (a + 3) :: st)) : G l w L E M lv pc (.ref a :: st) := g_getR cx (ci := 5) rfl in_X5 5 (by decide) tf_X3_54 rfl (LService_o h) (Nat.le_of_ble_eq_true rfl) rfl hd kk
set_option maxRecDepth 100000 in
theorem tf_X4_12 : Cond.fieldLink RX4 12 "TramWires$Rehearsal" (TX4 0).2.1 (TX4 0).2.2.1 ∈ TB := tb_m (List.mem_of_getElem? (i := 295) (by decide +kernel)) rfl
theorem fg_X4_12 {l : Launch} {w : Wp} {L : Ly} {E : Cx} {M : Mm} {lv : List (Nat × Value)} {pc : Nat} {st : List Value} {cc : ByteArray} {maxL n a : Nat} (cx : Ok w L E RX4 cc maxL n) (hd : decode cc pc = .ok (.getfield 12, 3)) (h : LRehearsal w L a) (kk : G l w L E M lv (pc + 3) (.ref (a + 1) :: st)) : G l w L E M lv pc (.ref a :: st) := g_getR cx (ci := 4) rfl in_X4 0 (by decide) tf_X4_12 rfl (LRehearsal_o h) (Nat.le_of_ble_eq_true rfl) rfl hd kk
set_option maxRecDepth 100000 in
theorem tf_X4_22 : Cond.fieldLink RX4 22 "TramWires$Plan" (TX3 0).2.1 (TX3 0).2.2.1 ∈ TB := tb_m (List.mem_of_getElem? (i := 272) (by decide +kernel)) rfl
theorem fg_X4_22 {l : Launch} {w : Wp} {L : Ly} {E : Cx} {M : Mm} {lv : List (Nat × Value)} {pc : Nat} {st : List Value} {cc : ByteArray} {maxL n a : Nat} (cx : Ok w L E RX4 cc maxL n) (hd : decode cc pc = .ok (.getfield 22, 3)) (h : LPlan w L a) (kk : G l w L E M lv (pc + 3) (.int (M a 0) :: st)) : G l w L E M lv pc (.ref a :: st) := g_getI cx (ci := 3) rfl in_X3 0 (by decide) tf_X4_22 rfl (LPlan_o h) (Nat.le_of_ble_eq_true rfl) rfl hd kk
theorem fp_X4_22 {l : Launch} {w : Wp} {L : Ly} {E : Cx} {M : Mm} {lv : List (Nat × Value)} {pc : Nat} {st : List Value} {cc : ByteArray} {maxL n a : Nat} (cx : Ok w L E RX4 cc maxL n) {x : Int32} {A : Mm → OR} {R0 : Int32 × Mm} (hd : decode cc pc = .ok (.putfield 22, 3)) (h : LPlan w L a) (hf : bnd (mst M a 0 x) A = some R0) (kk : ∀ M1 : Mm, A M1 = some R0 → G l w L E M1 lv (pc + 3) st) : G l w L E M lv pc (.int x :: .ref a :: st) := g_putI cx (ci := 3) rfl in_X3 tyX3 tyX3_ok nmX3 0 (by decide) tf_X4_22 rfl rfl (by decide +kernel) (LPlan_o h) (Nat.le_of_ble_eq_true rfl) rfl hd hf kk
set_option maxRecDepth 100000 in
theorem tf_X4_28 : Cond.fieldLink RX4 28 "TramWires$Plan" (TX3 1).2.1 (TX3 1).2.2.1 ∈ TB := tb_m (List.mem_of_getElem? (i := 275) (by decide +kernel)) rfl
theorem fg_X4_28 {l : Launch} {w : Wp} {L : Ly} {E : Cx} {M : Mm} {lv : List (Nat × Value)} {pc : Nat} {st : List Value} {cc : ByteArray} {maxL n a : Nat} (cx : Ok w L E RX4 cc maxL n) (hd : decode cc pc = .ok (.getfield 28, 3)) (h : LPlan w L a) (kk : G l w L E M lv (pc + 3) (.ref (a + 1) :: st)) : G l w L E M lv pc (.ref a :: st) := g_getR cx (ci := 3) rfl in_X3 1 (by decide) tf_X4_28 rfl (LPlan_o h) (Nat.le_of_ble_eq_true rfl) rfl hd kk
set_option maxRecDepth 100000 in
theorem tf_X4_32 : Cond.fieldLink RX4 32 "TramWires$Plan" (TX3 2).2.1 (TX3 2).2.2.1 ∈ TB := tb_m (List.mem_of_getElem? (i := 278) (by decide +kernel)) rfl
theorem fg_X4_32 {l : Launch} {w : Wp} {L : Ly} {E : Cx} {M : Mm} {lv : List (Nat × Value)} {pc : Nat} {st : List Value} {cc : ByteArray} {maxL n a : Nat} (cx : Ok w L E RX4 cc maxL n) (hd : decode cc pc = .ok (.getfield 32, 3)) (h : LPlan w L a) (kk : G l w L E M lv (pc + 3) (.ref (a + 2) :: st)) : G l w L E M lv pc (.ref a :: st) := g_getR cx (ci := 3) rfl in_X3 2 (by decide) tf_X4_32 rfl (LPlan_o h) (Nat.le_of_ble_eq_true rfl) rfl hd kk
set_option maxRecDepth 100000 in
theorem tf_X4_39 : Cond.fieldLink RX4 39 "TramWires$Rehearsal" (TX4 3).2.1 (TX4 3).2.2.1 ∈ TB := tb_m (List.mem_of_getElem? (i := 301) (by decide +kernel)) rfl
theorem fg_X4_39 {l : Launch} {w : Wp} {L : Ly} {E : Cx} {M : Mm} {lv : List (Nat × Value)} {pc : Nat} {st : List Value} {cc : ByteArray} {maxL n a : Nat} (cx : Ok w L E RX4 cc maxL n) (hd : decode cc pc = .ok (.getfield 39, 3)) (h : LRehearsal w L a) (kk : G l w L E M lv (pc + 3) (.int (M a 3) :: st)) : G l w L E M lv pc (.ref a :: st) := g_getI cx (ci := 4) rfl in_X4 3 (by decide) tf_X4_39 rfl (LRehearsal_o h) (Nat.le_of_ble_eq_true rfl) rfl hd kk
theorem fp_X4_39 {l : Launch} {w : Wp} {L : Ly} {E : Cx} {M : Mm} {lv : List (Nat × Value)} {pc : Nat} {st : List Value} {cc : ByteArray} {maxL n a : Nat} (cx : Ok w L E RX4 cc maxL n) {x : Int32} {A : Mm → OR} {R0 : Int32 × Mm} (hd : decode cc pc = .ok (.putfield 39, 3)) (h : LRehearsal w L a) (hf : bnd (mst M a 3 x) A = some R0) (kk : ∀ M1 : Mm, A M1 = some R0 → G l w L E M1 lv (pc + 3) st) : G l w L E M lv pc (.int x :: .ref a :: st) := g_putI cx (ci := 4) rfl in_X4 tyX4 tyX4_ok nmX4 3 (by decide) tf_X4_39 rfl rfl (by decide +kernel) (LRehearsal_o h) (Nat.le_of_ble_eq_true rfl) rfl hd hf kk
set_option maxRecDepth 100000 in
theorem tf_X4_46 : Cond.fieldLink RX4 46 "TramWires$Rehearsal" (TX4 1).2.1 (TX4 1).2.2.1 ∈ TB := tb_m (List.mem_of_getElem? (i := 297) (by decide +kernel)) rfl
theorem fg_X4_46 {l : Launch} {w : Wp} {L : Ly} {E : Cx} {M : Mm} {lv : List (Nat × Value)} {pc : Nat} {st : List Value} {cc : ByteArray} {maxL n a : Nat} (cx : Ok w L E RX4 cc maxL n) (hd : decode cc pc = .ok (.getfield 46, 3)) (h : LRehearsal w L a) (kk : G l w L E M lv (pc + 3) (.int (M a 1) :: st)) : G l w L E M lv pc (.ref a :: st) := g_getI cx (ci := 4) rfl in_X4 1 (by decide) tf_X4_46 rfl (LRehearsal_o h) (Nat.le_of_ble_eq_true rfl) rfl hd kk
theorem fp_X4_46 {l : Launch} {w : Wp} {L : Ly} {E : Cx} {M : Mm} {lv : List (Nat × Value)} {pc : Nat} {st : List Value} {cc : ByteArray} {maxL n a : Nat} (cx : Ok w L E RX4 cc maxL n) {x : Int32} {A : Mm → OR} {R0 : Int32 × Mm} (hd : decode cc pc = .ok (.putfield 46, 3)) (h : LRehearsal w L a) (hf : bnd (mst M a 1 x) A = some R0) (kk : ∀ M1 : Mm, A M1 = some R0 → G l w L E M1 lv (pc + 3) st) : G l w L E M lv pc (.int x :: .ref a :: st) := g_putI cx (ci := 4) rfl in_X4 tyX4 tyX4_ok nmX4 1 (by decide) tf_X4_46 rfl rfl (by decide +kernel) (LRehearsal_o h) (Nat.le_of_ble_eq_true rfl) rfl hd hf kk
set_option maxRecDepth 100000 in
theorem tf_X4_49 : Cond.fieldLink RX4 49 "TramWires$Rehearsal" (TX4 2).2.1 (TX4 2).2.2.1 ∈ TB := tb_m (List.mem_of_getElem? (i := 299) (by decide +kernel)) rfl
theorem fg_X4_49 {l : Launch} {w : Wp} {L : Ly} {E : Cx} {M : Mm} {lv : List (Nat × Value)} {pc : Nat} {st : List Value} {cc : ByteArray} {maxL n a : Nat} (cx : Ok w L E RX4 cc maxL n) (hd : decode cc pc = .ok (.getfield 49, 3)) (h : LRehearsal w L a) (kk : G l w L E M lv (pc + 3) (.int (M a 2) :: st)) : G l w L E M lv pc (.ref a :: st) := g_getI cx (ci := 4) rfl in_X4 2 (by decide) tf_X4_49 rfl (LRehearsal_o h) (Nat.le_of_ble_eq_true rfl) rfl hd kk
theorem fp_X4_49 {l : Launch} {w : Wp} {L : Ly} {E : Cx} {M : Mm} {lv : List (Nat × Value)} {pc : Nat} {st : List Value} {cc : ByteArray} {maxL n a : Nat} (cx : Ok w L E RX4 cc maxL n) {x : Int32} {A : Mm → OR} {R0 : Int32 × Mm} (hd : decode cc pc = .ok (.putfield 49, 3)) (h : LRehearsal w L a) (hf : bnd (mst M a 2 x) A = some R0) (kk : ∀ M1 : Mm, A M1 = some R0 → G l w L E M1 lv (pc + 3) st) : G l w L E M lv pc (.int x :: .ref a :: st) := g_putI cx (ci := 4) rfl in_X4 tyX4 tyX4_ok nmX4 2 (by decide) tf_X4_49 rfl rfl (by decide +kernel) (LRehearsal_o h) (Nat.le_of_ble_eq_true rfl) rfl hd hf kk
set_option maxRecDepth 100000 in
theorem tf_X4_52 : Cond.fieldLink RX4 52 "TramWires$Text" (TX6 0).2.1 (TX6 0).2.2.1 ∈ TB := tb_m (List.mem_of_getElem? (i := 244) (by decide +kernel)) rfl
theorem fg_X4_52 {l : Launch} {w : Wp} {L : Ly} {E : Cx} {M : Mm} {lv : List (Nat × Value)} {pc : Nat} {st : List Value} {cc : ByteArray} {maxL n a : Nat} (cx : Ok w L E RX4 cc maxL n) (hd : decode cc pc = .ok (.getfield 52, 3)) (h : LText w L a) (kk : G l w L E M lv (pc + 3) (.int (M a 0) :: st)) : G l w L E M lv pc (.ref a :: st) := g_getI cx (ci := 6) rfl in_X6 0 (by decide) tf_X4_52 rfl (LText_o h) (Nat.le_of_ble_eq_true rfl) rfl hd kk
theorem fp_X4_52 {l : Launch} {w : Wp} {L : Ly} {E : Cx} {M : Mm} {lv : List (Nat × Value)} {pc : Nat} {st : List Value} {cc : ByteArray} {maxL n a : Nat} (cx : Ok w L E RX4 cc maxL n) {x : Int32} {A : Mm → OR} {R0 : Int32 × Mm} (hd : decode cc pc = .ok (.putfield 52, 3)) (h : LText w L a) (hf : bnd (mst M a 0 x) A = some R0) (kk : ∀ M1 : Mm, A M1 = some R0 → G l w L E M1 lv (pc + 3) st) : G l w L E M lv pc (.int x :: .ref a :: st) := g_putI cx (ci := 6) rfl in_X6 tyX6 tyX6_ok nmX6 0 (by decide) tf_X4_52 rfl rfl (by decide +kernel) (LText_o h) (Nat.le_of_ble_eq_true rfl) rfl hd hf kk
set_option maxRecDepth 100000 in
theorem tf_X4_61 : Cond.fieldLink RX4 61 "TramWires$Text" (TX6 2).2.1 (TX6 2).2.2.1 ∈ TB := tb_m (List.mem_of_getElem? (i := 249) (by decide +kernel)) rfl
theorem fg_X4_61 {l : Launch} {w : Wp} {L : Ly} {E : Cx} {M : Mm} {lv : List (Nat × Value)} {pc : Nat} {st : List Value} {cc : ByteArray} {maxL n a : Nat} (cx : Ok w L E RX4 cc maxL n) (hd : decode cc pc = .ok (.getfield 61, 3)) (h : LText w L a) (kk : G l w L E M lv (pc + 3) (.int (M a 2) :: st)) : G l w L E M lv pc (.ref a :: st) := g_getI cx (ci := 6) rfl in_X6 2 (by decide) tf_X4_61 rfl (LText_o h) (Nat.le_of_ble_eq_true rfl) rfl hd kk
theorem fp_X4_61 {l : Launch} {w : Wp} {L : Ly} {E : Cx} {M : Mm} {lv : List (Nat × Value)} {pc : Nat} {st : List Value} {cc : ByteArray} {maxL n a : Nat} (cx : Ok w L E RX4 cc maxL n) {x : Int32} {A : Mm → OR} {R0 : Int32 × Mm} (hd : decode cc pc = .ok (.putfield 61, 3)) (h : LText w L a) (hf : bnd (mst M a 2 x) A = some R0) (kk : ∀ M1 : Mm, A M1 = some R0 → G l w L E M1 lv (pc + 3) st) : G l w L E M lv pc (.int x :: .ref a :: st) := g_putI cx (ci := 6) rfl in_X6 tyX6 tyX6_ok nmX6 2 (by decide) tf_X4_61 rfl rfl (by decide +kernel) (LText_o h) (Nat.le_of_ble_eq_true rfl) rfl hd hf kk
set_option maxRecDepth 100000 in
theorem tf_X4_64 : Cond.fieldLink RX4 64 "TramWires$Text" (TX6 3).2.1 (TX6 3).2.2.1 ∈ TB := tb_m (List.mem_of_getElem? (i := 251) (by decide +kernel)) rfl
theorem fg_X4_64 {l : Launch} {w : Wp} {L : Ly} {E : Cx} {M : Mm} {lv : List (Nat × Value)} {pc : Nat} {st : List Value} {cc : ByteArray} {maxL n a : Nat} (cx : Ok w L E RX4 cc maxL n) (hd : decode cc pc = .ok (.getfield 64, 3)) (h : LText w L a) (kk : G l w L E M lv (pc + 3) (.int (M a 3) :: st)) : G l w L E M lv pc (.ref a :: st) := g_getI cx (ci := 6) rfl in_X6 3 (by decide) tf_X4_64 rfl (LText_o h) (Nat.le_of_ble_eq_true rfl) rfl hd kk
theorem fp_X4_64 {l : Launch} {w : Wp} {L : Ly} {E : Cx} {M : Mm} {lv : List (Nat × Value)} {pc : Nat} {st : List Value} {cc : ByteArray} {maxL n a : Nat} (cx : Ok w L E RX4 cc maxL n) {x : Int32} {A : Mm → OR} {R0 : Int32 × Mm} (hd : decode cc pc = .ok (.putfield 64, 3)) (h : LText w L a) (hf : bnd (mst M a 3 x) A = some R0) (kk : ∀ M1 : Mm, A M1 = some R0 → G l w L E M1 lv (pc + 3) st) : G l w L E M lv pc (.int x :: .ref a :: st) := g_putI cx (ci := 6) rfl in_X6 tyX6 tyX6_ok nmX6 3 (by decide) tf_X4_64 rfl rfl (by decide +kernel) (LText_o h) (Nat.le_of_ble_eq_true rfl) rfl hd hf kk
set_option maxRecDepth 100000 in
theorem tf_X4_71 : Cond.fieldLink RX4 71 "TramWires$Text" (TX6 4).2.1 (TX6 4).2.2.1 ∈ TB := tb_m (List.mem_of_getElem? (i := 253) (by decide +kernel)) rfl
theorem fg_X4_71 {l : Launch} {w : Wp} {L : Ly} {E : Cx} {M : Mm} {lv : List (Nat × Value)} {pc : Nat} {st : List Value} {cc : ByteArray} {maxL n a : Nat} (cx : Ok w L E RX4 cc maxL n) (hd : decode cc pc = .ok (.getfield 71, 3)) (h : LText w L a) (kk : G l w L E M lv (pc + 3) (.int (M a 4) :: st)) : G l w L E M lv pc (.ref a :: st) := g_getI cx (ci := 6) rfl in_X6 4 (by decide) tf_X4_71 rfl (LText_o h) (Nat.le_of_ble_eq_true rfl) rfl hd kk
theorem fp_X4_71 {l : Launch} {w : Wp} {L : Ly} {E : Cx} {M : Mm} {lv : List (Nat × Value)} {pc : Nat} {st : List Value} {cc : ByteArray} {maxL n a : Nat} (cx : Ok w L E RX4 cc maxL n) {x : Int32} {A : Mm → OR} {R0 : Int32 × Mm} (hd : decode cc pc = .ok (.putfield 71, 3)) (h : LText w L a) (hf : bnd (mst M a 4 x) A = some R0) (kk : ∀ M1 : Mm, A M1 = some R0 → G l w L E M1 lv (pc + 3) st) : G l w L E M lv pc (.int x :: .ref a :: st) := g_putI cx (ci := 6) rfl in_X6 tyX6 tyX6_ok nmX6 4 (by decide) tf_X4_71 rfl rfl (by decide +kernel) (LText_o h) (Nat.le_of_ble_eq_true rfl) rfl hd hf kk
set_option maxRecDepth 100000 in
theorem tf_X5_9 : Cond.fieldLink RX5 9 "TramWires$Service" (TX5 1).2.1 (TX5 1).2.2.1 ∈ TB := tb_m (List.mem_of_getElem? (i := 110) (by decide +kernel)) rfl
theorem fg_X5_9 {l : Launch} {w : Wp} {L : Ly} {E : Cx} {M : Mm} {lv : List (Nat × Value)} {pc : Nat} {st : List Value} {cc : ByteArray} {maxL n a : Nat} (cx : Ok w L E RX5 cc maxL n) (hd : decode cc pc = .ok (.getfield 9, 3)) (h : LService w L a) (kk : G l w L E M lv (pc + 3) (.int (M a 1) :: st)) : G l w L E M lv pc (.ref a :: st) := g_getI cx (ci := 5) rfl in_X5 1 (by decide) tf_X5_9 rfl (LService_o h) (Nat.le_of_ble_eq_true rfl) rfl hd kk
theorem fp_X5_9 {l : Launch} {w : Wp} {L : Ly} {E : Cx} {M : Mm} {lv : List (Nat × Value)} {pc : Nat} {st : List Value} {cc : ByteArray} {maxL n a : Nat} (cx : Ok w L E RX5 cc maxL n) {x : Int32} {A : Mm → OR} {R0 : Int32 × Mm} (hd : decode cc pc = .ok (.putfield 9, 3)) (h : LService w L a) (hf : bnd (mst M a 1 x) A = some R0) (kk : ∀ M1 : Mm, A M1 = some R0 → G l w L E M1 lv (pc + 3) st) : G l w L E M lv pc (.int x :: .ref a :: st) := g_putI cx (ci := 5) rfl in_X5 tyX5 tyX5_ok nmX5 1 (by decide) tf_X5_9 rfl rfl (by decide +kernel) (LService_o h) (Nat.le_of_ble_eq_true rfl) rfl hd hf kk
set_option maxRecDepth 100000 in
theorem tf_X5_15 : Cond.fieldLink RX5 15 "TramWires$Service" (TX5 3).2.1 (TX5 3).2.2.1 ∈ TB := tb_m (List.mem_of_getElem? (i := 114) (by decide +kernel)) rfl
theorem fg_X5_15 {l : Launch} {w : Wp} {L : Ly} {E : Cx} {M : Mm} {lv : List (Nat × Value)} {pc : Nat} {st : List Value} {cc : ByteArray} {maxL n a : Nat} (cx : Ok w L E RX5 cc maxL n) (hd : decode cc pc = .ok (.getfield 15, 3)) (h : LService w L a) (kk : G l w L E M lv (pc + 3) (.ref (a + 1) :: st)) : G l w L E M lv pc (.ref a :: st) := g_getR cx (ci := 5) rfl in_X5 3 (by decide) tf_X5_15 rfl (LService_o h) (Nat.le_of_ble_eq_true rfl) rfl hd kk
set_option maxRecDepth 100000 in
theorem tf_X5_19 : Cond.fieldLink RX5 19 "TramWires$Service" (TX5 4).2.1 (TX5 4).2.2.1 ∈ TB := tb_m (List.mem_of_getElem? (i := 117) (by decide +kernel)) rfl
theorem fg_X5_19 {l : Launch} {w : Wp} {L : Ly} {E : Cx} {M : Mm} {lv : List (Nat × Value)} {pc : Nat} {st : List Value} {cc : ByteArray} {maxL n a : Nat} (cx : Ok w L E RX5 cc maxL n) (hd : decode cc pc = .ok (.getfield 19, 3)) (h : LService w L a) (kk : G l w L E M lv (pc + 3) (.ref (a + 2) :: st)) : G l w L E M lv pc (.ref a :: st) := g_getR cx (ci := 5) rfl in_X5 4 (by decide) tf_X5_19 rfl (LService_o h) (Nat.le_of_ble_eq_true rfl) rfl hd kk
set_option maxRecDepth 100000 in
theorem tf_X5_23 : Cond.fieldLink RX5 23 "TramWires$Service" (TX5 5).2.1 (TX5 5).2.2.1 ∈ TB := tb_m (List.mem_of_getElem? (i := 121) (by decide +kernel)) rfl
theorem fg_X5_23 {l : Launch} {w : Wp} {L : Ly} {E : Cx} {M : Mm} {lv : List (Nat × Value)} {pc : Nat} {st : List Value} {cc : ByteArray} {maxL n a : Nat} (cx : Ok w L E RX5 cc maxL n) (hd : decode cc pc = .ok (.getfield 23, 3)) (h : LService w L a) (kk : G l w L E M lv (pc + 3) (.ref (a + 3) :: st)) : G l w L E M lv pc (.ref a :: st) := g_getR cx (ci := 5) rfl in_X5 5 (by decide) tf_X5_23 rfl (LService_o h) (Nat.le_of_ble_eq_true rfl) rfl hd kk
set_option maxRecDepth 100000 in
theorem tf_X5_26 : Cond.fieldLink RX5 26 "TramWires$Service" (TX5 6).2.1 (TX5 6).2.2.1 ∈ TB := tb_m (List.mem_of_getElem? (i := 125) (by decide +kernel)) rfl
theorem fg_X5_26 {l : Launch} {w : Wp} {L : Ly} {E : Cx} {M : Mm} {lv : List (Nat × Value)} {pc : Nat} {st : List Value} {cc : ByteArray} {maxL n a : Nat} (cx : Ok w L E RX5 cc maxL n) (hd : decode cc pc = .ok (.getfield 26, 3)) (h : LService w L a) (kk : G l w L E M lv (pc + 3) (.ref (a + 4) :: st)) : G l w L E M lv pc (.ref a :: st) := g_getR cx (ci := 5) rfl in_X5 6 (by decide) tf_X5_26 rfl (LService_o h) (Nat.le_of_ble_eq_true rfl) rfl hd kk
set_option maxRecDepth 100000 in
theorem tf_X5_29 : Cond.fieldLink RX5 29 "TramWires$Service" (TX5 7).2.1 (TX5 7).2.2.1 ∈ TB := tb_m (List.mem_of_getElem? (i := 128) (by decide +kernel)) rfl
theorem fg_X5_29 {l : Launch} {w : Wp} {L : Ly} {E : Cx} {M : Mm} {lv : List (Nat × Value)} {pc : Nat} {st : List Value} {cc : ByteArray} {maxL n a : Nat} (cx : Ok w L E RX5 cc maxL n) (hd : decode cc pc = .ok (.getfield 29, 3)) (h : LService w L a) (kk : G l w L E M lv (pc + 3) (.ref (a + 5) :: st)) : G l w L E M lv pc (.ref a :: st) := g_getR cx (ci := 5) rfl in_X5 7 (by decide) tf_X5_29 rfl (LService_o h) (Nat.le_of_ble_eq_true rfl) rfl hd kk
set_option maxRecDepth 100000 in
theorem tf_X5_32 : Cond.fieldLink RX5 32 "TramWires$Service" (TX5 8).2.1 (TX5 8).2.2.1 ∈ TB := tb_m (List.mem_of_getElem? (i := 130) (by decide +kernel)) rfl
theorem fg_X5_32 {l : Launch} {w : Wp} {L : Ly} {E : Cx} {M : Mm} {lv : List (Nat × Value)} {pc : Nat} {st : List Value} {cc : ByteArray} {maxL n a : Nat} (cx : Ok w L E RX5 cc maxL n) (hd : decode cc pc = .ok (.getfield 32, 3)) (h : LService w L a) (kk : G l w L E M lv (pc + 3) (.ref (a + 6) :: st)) : G l w L E M lv pc (.ref a :: st) := g_getR cx (ci := 5) rfl in_X5 8 (by decide) tf_X5_32 rfl (LService_o h) (Nat.le_of_ble_eq_true rfl) rfl hd kk
set_option maxRecDepth 100000 in
theorem tf_X5_35 : Cond.fieldLink RX5 35 "TramWires$Service" (TX5 9).2.1 (TX5 9).2.2.1 ∈ TB := tb_m (List.mem_of_getElem? (i := 132) (by decide +kernel)) rfl
theorem fg_X5_35 {l : Launch} {w : Wp} {L : Ly} {E : Cx} {M : Mm} {lv : List (Nat × Value)} {pc : Nat} {st : List Value} {cc : ByteArray} {maxL n a : Nat} (cx : Ok w L E RX5 cc maxL n) (hd : decode cc pc = .ok (.getfield 35, 3)) (h : LService w L a) (kk : G l w L E M lv (pc + 3) (.ref (a + 7) :: st)) : G l w L E M lv pc (.ref a :: st) := g_getR cx (ci := 5) rfl in_X5 9 (by decide) tf_X5_35 rfl (LService_o h) (Nat.le_of_ble_eq_true rfl) rfl hd kk
set_option maxRecDepth 100000 in
theorem tf_X5_38 : Cond.fieldLink RX5 38 "TramWires$Service" (TX5 0).2.1 (TX5 0).2.2.1 ∈ TB := tb_m (List.mem_of_getElem? (i := 107) (by decide +kernel)) rfl
theorem fg_X5_38 {l : Launch} {w : Wp} {L : Ly} {E : Cx} {M : Mm} {lv : List (Nat × Value)} {pc : Nat} {st : List Value} {cc : ByteArray} {maxL n a : Nat} (cx : Ok w L E RX5 cc maxL n) (hd : decode cc pc = .ok (.getfield 38, 3)) (h : LService w L a) (kk : G l w L E M lv (pc + 3) (.int (M a 0) :: st)) : G l w L E M lv pc (.ref a :: st) := g_getI cx (ci := 5) rfl in_X5 0 (by decide) tf_X5_38 rfl (LService_o h) (Nat.le_of_ble_eq_true rfl) rfl hd kk
theorem fp_X5_38 {l : Launch} {w : Wp} {L : Ly} {E : Cx} {M : Mm} {lv : List (Nat × Value)} {pc : Nat} {st : List Value} {cc : ByteArray} {maxL n a : Nat} (cx : Ok w L E RX5 cc maxL n) {x : Int32} {A : Mm → OR} {R0 : Int32 × Mm} (hd : decode cc pc = .ok (.putfield 38, 3)) (h : LService w L a) (hf : bnd (mst M a 0 x) A = some R0) (kk : ∀ M1 : Mm, A M1 = some R0 → G l w L E M1 lv (pc + 3) st) : G l w L E M lv pc (.int x :: .ref a :: st) := g_putI cx (ci := 5) rfl in_X5 tyX5 tyX5_ok nmX5 0 (by decide) tf_X5_38 rfl rfl (by decide +kernel) (LService_o h) (Nat.le_of_ble_eq_true rfl) rfl hd hf kk
set_option maxRecDepth 100000 in
theorem tf_X5_41 : Cond.fieldLink RX5 41 "TramWires$Service" (TX5 2).2.1 (TX5 2).2.2.1 ∈ TB := tb_m (List.mem_of_getElem? (i := 112) (by decide +kernel)) rfl
theorem fg_X5_41 {l : Launch} {w : Wp} {L : Ly} {E : Cx} {M : Mm} {lv : List (Nat × Value)} {pc : Nat} {st : List Value} {cc : ByteArray} {maxL n a : Nat} (cx : Ok w L E RX5 cc maxL n) (hd : decode cc pc = .ok (.getfield 41, 3)) (h : LService w L a) (kk : G l w L E M lv (pc + 3) (.int (M a 2) :: st)) : G l w L E M lv pc (.ref a :: st) := g_getI cx (ci := 5) rfl in_X5 2 (by decide) tf_X5_41 rfl (LService_o h) (Nat.le_of_ble_eq_true rfl) rfl hd kk
theorem fp_X5_41 {l : Launch} {w : Wp} {L : Ly} {E : Cx} {M : Mm} {lv : List (Nat × Value)} {pc : Nat} {st : List Value} {cc : ByteArray} {maxL n a : Nat} (cx : Ok w L E RX5 cc maxL n) {x : Int32} {A : Mm → OR} {R0 : Int32 × Mm} (hd : decode cc pc = .ok (.putfield 41, 3)) (h : LService w L a) (hf : bnd (mst M a 2 x) A = some R0) (kk : ∀ M1 : Mm, A M1 = some R0 → G l w L E M1 lv (pc + 3) st) : G l w L E M lv pc (.int x :: .ref a :: st) := g_putI cx (ci := 5) rfl in_X5 tyX5 tyX5_ok nmX5 2 (by decide) tf_X5_41 rfl rfl (by decide +kernel) (LService_o h) (Nat.le_of_ble_eq_true rfl) rfl hd hf kk
set_option maxRecDepth 100000 in
theorem tf_X6_9 : Cond.fieldLink RX6 9 "TramWires$Text" (TX6 1).2.1 (TX6 1).2.2.1 ∈ TB := tb_m (List.mem_of_getElem? (i := 246) (by decide +kernel)) rfl
theorem fg_X6_9 {l : Launch} {w : Wp} {L : Ly} {E : Cx} {M : Mm} {lv : List (Nat × Value)} {pc : Nat} {st : List Value} {cc : ByteArray} {maxL n a : Nat} (cx : Ok w L E RX6 cc maxL n) (hd : decode cc pc = .ok (.getfield 9, 3)) (h : LText w L a) (kk : G l w L E M lv (pc + 3) (.ref (a + 1) :: st)) : G l w L E M lv pc (.ref a :: st) := g_getR cx (ci := 6) rfl in_X6 1 (by decide) tf_X6_9 rfl (LText_o h) (Nat.le_of_ble_eq_true rfl) rfl hd kk
set_option maxRecDepth 100000 in
theorem tf_X6_22 : Cond.fieldLink RX6 22 "TramWires$Text" (TX6 2).2.1 (TX6 2).2.2.1 ∈ TB := tb_m (List.mem_of_getElem? (i := 248) (by decide +kernel)) rfl
theorem fg_X6_22 {l : Launch} {w : Wp} {L : Ly} {E : Cx} {M : Mm} {lv : List (Nat × Value)} {pc : Nat} {st : List Value} {cc : ByteArray} {maxL n a : Nat} (cx : Ok w L E RX6 cc maxL n) (hd : decode cc pc = .ok (.getfield 22, 3)) (h : LText w L a) (kk : G l w L E M lv (pc + 3) (.int (M a 2) :: st)) : G l w L E M lv pc (.ref a :: st) := g_getI cx (ci := 6) rfl in_X6 2 (by decide) tf_X6_22 rfl (LText_o h) (Nat.le_of_ble_eq_true rfl) rfl hd kk
theorem fp_X6_22 {l : Launch} {w : Wp} {L : Ly} {E : Cx} {M : Mm} {lv : List (Nat × Value)} {pc : Nat} {st : List Value} {cc : ByteArray} {maxL n a : Nat} (cx : Ok w L E RX6 cc maxL n) {x : Int32} {A : Mm → OR} {R0 : Int32 × Mm} (hd : decode cc pc = .ok (.putfield 22, 3)) (h : LText w L a) (hf : bnd (mst M a 2 x) A = some R0) (kk : ∀ M1 : Mm, A M1 = some R0 → G l w L E M1 lv (pc + 3) st) : G l w L E M lv pc (.int x :: .ref a :: st) := g_putI cx (ci := 6) rfl in_X6 tyX6 tyX6_ok nmX6 2 (by decide) tf_X6_22 rfl rfl (by decide +kernel) (LText_o h) (Nat.le_of_ble_eq_true rfl) rfl hd hf kk
set_option maxRecDepth 100000 in
theorem tf_X6_29 : Cond.fieldLink RX6 29 "TramWires$Text" (TX6 3).2.1 (TX6 3).2.2.1 ∈ TB := tb_m (List.mem_of_getElem? (i := 250) (by decide +kernel)) rfl
theorem fg_X6_29 {l : Launch} {w : Wp} {L : Ly} {E : Cx} {M : Mm} {lv : List (Nat × Value)} {pc : Nat} {st : List Value} {cc : ByteArray} {maxL n a : Nat} (cx : Ok w L E RX6 cc maxL n) (hd : decode cc pc = .ok (.getfield 29, 3)) (h : LText w L a) (kk : G l w L E M lv (pc + 3) (.int (M a 3) :: st)) : G l w L E M lv pc (.ref a :: st) := g_getI cx (ci := 6) rfl in_X6 3 (by decide) tf_X6_29 rfl (LText_o h) (Nat.le_of_ble_eq_true rfl) rfl hd kk
theorem fp_X6_29 {l : Launch} {w : Wp} {L : Ly} {E : Cx} {M : Mm} {lv : List (Nat × Value)} {pc : Nat} {st : List Value} {cc : ByteArray} {maxL n a : Nat} (cx : Ok w L E RX6 cc maxL n) {x : Int32} {A : Mm → OR} {R0 : Int32 × Mm} (hd : decode cc pc = .ok (.putfield 29, 3)) (h : LText w L a) (hf : bnd (mst M a 3 x) A = some R0) (kk : ∀ M1 : Mm, A M1 = some R0 → G l w L E M1 lv (pc + 3) st) : G l w L E M lv pc (.int x :: .ref a :: st) := g_putI cx (ci := 6) rfl in_X6 tyX6 tyX6_ok nmX6 3 (by decide) tf_X6_29 rfl rfl (by decide +kernel) (LText_o h) (Nat.le_of_ble_eq_true rfl) rfl hd hf kk
set_option maxRecDepth 100000 in
theorem tf_X6_32 : Cond.fieldLink RX6 32 "TramWires$Text" (TX6 4).2.1 (TX6 4).2.2.1 ∈ TB := tb_m (List.mem_of_getElem? (i := 252) (by decide +kernel)) rfl
theorem fg_X6_32 {l : Launch} {w : Wp} {L : Ly} {E : Cx} {M : Mm} {lv : List (Nat × Value)} {pc : Nat} {st : List Value} {cc : ByteArray} {maxL n a : Nat} (cx : Ok w L E RX6 cc maxL n) (hd : decode cc pc = .ok (.getfield 32, 3)) (h : LText w L a) (kk : G l w L E M lv (pc + 3) (.int (M a 4) :: st)) : G l w L E M lv pc (.ref a :: st) := g_getI cx (ci := 6) rfl in_X6 4 (by decide) tf_X6_32 rfl (LText_o h) (Nat.le_of_ble_eq_true rfl) rfl hd kk
theorem fp_X6_32 {l : Launch} {w : Wp} {L : Ly} {E : Cx} {M : Mm} {lv : List (Nat × Value)} {pc : Nat} {st : List Value} {cc : ByteArray} {maxL n a : Nat} (cx : Ok w L E RX6 cc maxL n) {x : Int32} {A : Mm → OR} {R0 : Int32 × Mm} (hd : decode cc pc = .ok (.putfield 32, 3)) (h : LText w L a) (hf : bnd (mst M a 4 x) A = some R0) (kk : ∀ M1 : Mm, A M1 = some R0 → G l w L E M1 lv (pc + 3) st) : G l w L E M lv pc (.int x :: .ref a :: st) := g_putI cx (ci := 6) rfl in_X6 tyX6 tyX6_ok nmX6 4 (by decide) tf_X6_32 rfl rfl (by decide +kernel) (LText_o h) (Nat.le_of_ble_eq_true rfl) rfl hd hf kk
set_option maxRecDepth 100000 in
theorem tf_X6_35 : Cond.fieldLink RX6 35 "TramWires$Text" (TX6 0).2.1 (TX6 0).2.2.1 ∈ TB := tb_m (List.mem_of_getElem? (i := 243) (by decide +kernel)) rfl
theorem fg_X6_35 {l : Launch} {w : Wp} {L : Ly} {E : Cx} {M : Mm} {lv : List (Nat × Value)} {pc : Nat} {st : List Value} {cc : ByteArray} {maxL n a : Nat} (cx : Ok w L E RX6 cc maxL n) (hd : decode cc pc = .ok (.getfield 35, 3)) (h : LText w L a) (kk : G l w L E M lv (pc + 3) (.int (M a 0) :: st)) : G l w L E M lv pc (.ref a :: st) := g_getI cx (ci := 6) rfl in_X6 0 (by decide) tf_X6_35 rfl (LText_o h) (Nat.le_of_ble_eq_true rfl) rfl hd kk
theorem fp_X6_35 {l : Launch} {w : Wp} {L : Ly} {E : Cx} {M : Mm} {lv : List (Nat × Value)} {pc : Nat} {st : List Value} {cc : ByteArray} {maxL n a : Nat} (cx : Ok w L E RX6 cc maxL n) {x : Int32} {A : Mm → OR} {R0 : Int32 × Mm} (hd : decode cc pc = .ok (.putfield 35, 3)) (h : LText w L a) (hf : bnd (mst M a 0 x) A = some R0) (kk : ∀ M1 : Mm, A M1 = some R0 → G l w L E M1 lv (pc + 3) st) : G l w L E M lv pc (.int x :: .ref a :: st) := g_putI cx (ci := 6) rfl in_X6 tyX6 tyX6_ok nmX6 0 (by decide) tf_X6_35 rfl rfl (by decide +kernel) (LText_o h) (Nat.le_of_ble_eq_true rfl) rfl hd hf kk
set_option maxRecDepth 100000 in
theorem tf_X7_12 : Cond.fieldLink RX7 12 "TramWires$Wires" (TX7 0).2.1 (TX7 0).2.2.1 ∈ TB := tb_m (List.mem_of_getElem? (i := 199) (by decide +kernel)) rfl
theorem fg_X7_12 {l : Launch} {w : Wp} {L : Ly} {E : Cx} {M : Mm} {lv : List (Nat × Value)} {pc : Nat} {st : List Value} {cc : ByteArray} {maxL n a : Nat} (cx : Ok w L E RX7 cc maxL n) (hd : decode cc pc = .ok (.getfield 12, 3)) (h : LWires w L a) (kk : G l w L E M lv (pc + 3) (.ref (a + 1) :: st)) : G l w L E M lv pc (.ref a :: st) := g_getR cx (ci := 7) rfl in_X7 0 (by decide) tf_X7_12 rfl (LWires_o h) (Nat.le_of_ble_eq_true rfl) rfl hd kk
set_option maxRecDepth 100000 in
theorem tf_X7_21 : Cond.fieldLink RX7 21 "TramWires$Wires" (TX7 1).2.1 (TX7 1).2.2.1 ∈ TB := tb_m (List.mem_of_getElem? (i := 202) (by decide +kernel)) rfl
theorem fg_X7_21 {l : Launch} {w : Wp} {L : Ly} {E : Cx} {M : Mm} {lv : List (Nat × Value)} {pc : Nat} {st : List Value} {cc : ByteArray} {maxL n a : Nat} (cx : Ok w L E RX7 cc maxL n) (hd : decode cc pc = .ok (.getfield 21, 3)) (h : LWires w L a) (kk : G l w L E M lv (pc + 3) (.ref (a + 8) :: st)) : G l w L E M lv pc (.ref a :: st) := g_getR cx (ci := 7) rfl in_X7 1 (by decide) tf_X7_21 rfl (LWires_o h) (Nat.le_of_ble_eq_true rfl) rfl hd kk
set_option maxRecDepth 100000 in
theorem tf_X7_28 : Cond.fieldLink RX7 28 "TramWires$Wires" (TX7 2).2.1 (TX7 2).2.2.1 ∈ TB := tb_m (List.mem_of_getElem? (i := 205) (by decide +kernel)) rfl
theorem fg_X7_28 {l : Launch} {w : Wp} {L : Ly} {E : Cx} {M : Mm} {lv : List (Nat × Value)} {pc : Nat} {st : List Value} {cc : ByteArray} {maxL n a : Nat} (cx : Ok w L E RX7 cc maxL n) (hd : decode cc pc = .ok (.getfield 28, 3)) (h : LWires w L a) (kk : G l w L E M lv (pc + 3) (.ref (a + 16) :: st)) : G l w L E M lv pc (.ref a :: st) := g_getR cx (ci := 7) rfl in_X7 2 (by decide) tf_X7_28 rfl (LWires_o h) (Nat.le_of_ble_eq_true rfl) rfl hd kk
set_option maxRecDepth 100000 in
theorem tf_X7_32 : Cond.fieldLink RX7 32 "TramWires$Wires" (TX7 3).2.1 (TX7 3).2.2.1 ∈ TB := tb_m (List.mem_of_getElem? (i := 207) (by decide +kernel)) rfl
theorem fg_X7_32 {l : Launch} {w : Wp} {L : Ly} {E : Cx} {M : Mm} {lv : List (Nat × Value)} {pc : Nat} {st : List Value} {cc : ByteArray} {maxL n a : Nat} (cx : Ok w L E RX7 cc maxL n) (hd : decode cc pc = .ok (.getfield 32, 3)) (h : LWires w L a) (kk : G l w L E M lv (pc + 3) (.ref (a + 24) :: st)) : G l w L E M lv pc (.ref a :: st) := g_getR cx (ci := 7) rfl in_X7 3 (by decide) tf_X7_32 rfl (LWires_o h) (Nat.le_of_ble_eq_true rfl) rfl hd kk
set_option maxRecDepth 100000 in
theorem tf_X7_35 : Cond.fieldLink RX7 35 "TramWires$Wires" (TX7 4).2.1 (TX7 4).2.2.1 ∈ TB := tb_m (List.mem_of_getElem? (i := 208) (by decide +kernel)) rfl
theorem fg_X7_35 {l : Launch} {w : Wp} {L : Ly} {E : Cx} {M : Mm} {lv : List (Nat × Value)} {pc : Nat} {st : List Value} {cc : ByteArray} {maxL n a : Nat} (cx : Ok w L E RX7 cc maxL n) (hd : decode cc pc = .ok (.getfield 35, 3)) (h : LWires w L a) (kk : G l w L E M lv (pc + 3) (.ref (a + 31) :: st)) : G l w L E M lv pc (.ref a :: st) := g_getR cx (ci := 7) rfl in_X7 4 (by decide) tf_X7_35 rfl (LWires_o h) (Nat.le_of_ble_eq_true rfl) rfl hd kk
set_option maxRecDepth 100000 in
theorem tf_X7_49 : Cond.fieldLink RX7 49 "TramWires$Net" (TX2 0).2.1 (TX2 0).2.2.1 ∈ TB := tb_m (List.mem_of_getElem? (i := 59) (by decide +kernel)) rfl
theorem fg_X7_49 {l : Launch} {w : Wp} {L : Ly} {E : Cx} {M : Mm} {lv : List (Nat × Value)} {pc : Nat} {st : List Value} {cc : ByteArray} {maxL n a : Nat} (cx : Ok w L E RX7 cc maxL n) (hd : decode cc pc = .ok (.getfield 49, 3)) (h : LNet w L a) (kk : G l w L E M lv (pc + 3) (.int (M a 0) :: st)) : G l w L E M lv pc (.ref a :: st) := g_getI cx (ci := 2) rfl in_X2 0 (by decide) tf_X7_49 rfl (LNet_o h) (Nat.le_of_ble_eq_true rfl) rfl hd kk
theorem fp_X7_49 {l : Launch} {w : Wp} {L : Ly} {E : Cx} {M : Mm} {lv : List (Nat × Value)} {pc : Nat} {st : List Value} {cc : ByteArray} {maxL n a : Nat} (cx : Ok w L E RX7 cc maxL n) {x : Int32} {A : Mm → OR} {R0 : Int32 × Mm} (hd : decode cc pc = .ok (.putfield 49, 3)) (h : LNet w L a) (hf : bnd (mst M a 0 x) A = some R0) (kk : ∀ M1 : Mm, A M1 = some R0 → G l w L E M1 lv (pc + 3) st) : G l w L E M lv pc (.int x :: .ref a :: st) := g_putI cx (ci := 2) rfl in_X2 tyX2 tyX2_ok nmX2 0 (by decide) tf_X7_49 rfl rfl (by decide +kernel) (LNet_o h) (Nat.le_of_ble_eq_true rfl) rfl hd hf kk
set_option maxRecDepth 100000 in
theorem tf_X7_57 : Cond.fieldLink RX7 57 "TramWires$Net" (TX2 1).2.1 (TX2 1).2.2.1 ∈ TB := tb_m (List.mem_of_getElem? (i := 63) (by decide +kernel)) rfl
theorem fg_X7_57 {l : Launch} {w : Wp} {L : Ly} {E : Cx} {M : Mm} {lv : List (Nat × Value)} {pc : Nat} {st : List Value} {cc : ByteArray} {maxL n a : Nat} (cx : Ok w L E RX7 cc maxL n) (hd : decode cc pc = .ok (.getfield 57, 3)) (h : LNet w L a) (kk : G l w L E M lv (pc + 3) (.int (M a 1) :: st)) : G l w L E M lv pc (.ref a :: st) := g_getI cx (ci := 2) rfl in_X2 1 (by decide) tf_X7_57 rfl (LNet_o h) (Nat.le_of_ble_eq_true rfl) rfl hd kk
theorem fp_X7_57 {l : Launch} {w : Wp} {L : Ly} {E : Cx} {M : Mm} {lv : List (Nat × Value)} {pc : Nat} {st : List Value} {cc : ByteArray} {maxL n a : Nat} (cx : Ok w L E RX7 cc maxL n) {x : Int32} {A : Mm → OR} {R0 : Int32 × Mm} (hd : decode cc pc = .ok (.putfield 57, 3)) (h : LNet w L a) (hf : bnd (mst M a 1 x) A = some R0) (kk : ∀ M1 : Mm, A M1 = some R0 → G l w L E M1 lv (pc + 3) st) : G l w L E M lv pc (.int x :: .ref a :: st) := g_putI cx (ci := 2) rfl in_X2 tyX2 tyX2_ok nmX2 1 (by decide) tf_X7_57 rfl rfl (by decide +kernel) (LNet_o h) (Nat.le_of_ble_eq_true rfl) rfl hd hf kk
set_option maxRecDepth 100000 in
theorem tf_X7_67 : Cond.fieldLink RX7 67 "TramWires$Service" (TX5 3).2.1 (TX5 3).2.2.1 ∈ TB := tb_m (List.mem_of_getElem? (i := 116) (by decide +kernel)) rfl
theorem fg_X7_67 {l : Launch} {w : Wp} {L : Ly} {E : Cx} {M : Mm} {lv : List (Nat × Value)} {pc : Nat} {st : List Value} {cc : ByteArray} {maxL n a : Nat} (cx : Ok w L E RX7 cc maxL n) (hd : decode cc pc = .ok (.getfield 67, 3)) (h : LService w L a) (kk : G l w L E M lv (pc + 3) (.ref (a + 1) :: st)) : G l w L E M lv pc (.ref a :: st) := g_getR cx (ci := 5) rfl in_X5 3 (by decide) tf_X7_67 rfl (LService_o h) (Nat.le_of_ble_eq_true rfl) rfl hd kk
set_option maxRecDepth 100000 in
theorem tf_X7_71 : Cond.fieldLink RX7 71 "TramWires$Log" (TX1 5).2.1 (TX1 5).2.2.1 ∈ TB := tb_m (List.mem_of_getElem? (i := 173) (by decide +kernel)) rfl
theorem fg_X7_71 {l : Launch} {w : Wp} {L : Ly} {E : Cx} {M : Mm} {lv : List (Nat × Value)} {pc : Nat} {st : List Value} {cc : ByteArray} {maxL n a : Nat} (cx : Ok w L E RX7 cc maxL n) (hd : decode cc pc = .ok (.getfield 71, 3)) (h : LLog w L a) (kk : G l w L E M lv (pc + 3) (.ref (a + 4) :: st)) : G l w L E M lv pc (.ref a :: st) := g_getR cx (ci := 1) rfl in_X1 5 (by decide) tf_X7_71 rfl (LLog_o h) (Nat.le_of_ble_eq_true rfl) rfl hd kk
set_option maxRecDepth 100000 in
theorem tf_X7_74 : Cond.fieldLink RX7 74 "TramWires$Net" (TX2 6).2.1 (TX2 6).2.2.1 ∈ TB := tb_m (List.mem_of_getElem? (i := 78) (by decide +kernel)) rfl
theorem fg_X7_74 {l : Launch} {w : Wp} {L : Ly} {E : Cx} {M : Mm} {lv : List (Nat × Value)} {pc : Nat} {st : List Value} {cc : ByteArray} {maxL n a : Nat} (cx : Ok w L E RX7 cc maxL n) (hd : decode cc pc = .ok (.getfield 74, 3)) (h : LNet w L a) (kk : G l w L E M lv (pc + 3) (.ref (a + 5) :: st)) : G l w L E M lv pc (.ref a :: st) := g_getR cx (ci := 2) rfl in_X2 6 (by decide) tf_X7_74 rfl (LNet_o h) (Nat.le_of_ble_eq_true rfl) rfl hd kk
set_option maxRecDepth 100000 in
theorem tf_X7_81 : Cond.fieldLink RX7 81 "TramWires$Net" (TX2 3).2.1 (TX2 3).2.2.1 ∈ TB := tb_m (List.mem_of_getElem? (i := 70) (by decide +kernel)) rfl
theorem fg_X7_81 {l : Launch} {w : Wp} {L : Ly} {E : Cx} {M : Mm} {lv : List (Nat × Value)} {pc : Nat} {st : List Value} {cc : ByteArray} {maxL n a : Nat} (cx : Ok w L E RX7 cc maxL n) (hd : decode cc pc = .ok (.getfield 81, 3)) (h : LNet w L a) (kk : G l w L E M lv (pc + 3) (.ref (a + 2) :: st)) : G l w L E M lv pc (.ref a :: st) := g_getR cx (ci := 2) rfl in_X2 3 (by decide) tf_X7_81 rfl (LNet_o h) (Nat.le_of_ble_eq_true rfl) rfl hd kk
set_option maxRecDepth 100000 in
theorem tf_X7_84 : Cond.fieldLink RX7 84 "TramWires$Net" (TX2 4).2.1 (TX2 4).2.2.1 ∈ TB := tb_m (List.mem_of_getElem? (i := 73) (by decide +kernel)) rfl
theorem fg_X7_84 {l : Launch} {w : Wp} {L : Ly} {E : Cx} {M : Mm} {lv : List (Nat × Value)} {pc : Nat} {st : List Value} {cc : ByteArray} {maxL n a : Nat} (cx : Ok w L E RX7 cc maxL n) (hd : decode cc pc = .ok (.getfield 84, 3)) (h : LNet w L a) (kk : G l w L E M lv (pc + 3) (.ref (a + 3) :: st)) : G l w L E M lv pc (.ref a :: st) := g_getR cx (ci := 2) rfl in_X2 4 (by decide) tf_X7_84 rfl (LNet_o h) (Nat.le_of_ble_eq_true rfl) rfl hd kk
set_option maxRecDepth 100000 in
theorem tf_X7_87 : Cond.fieldLink RX7 87 "TramWires$Log" (TX1 6).2.1 (TX1 6).2.2.1 ∈ TB := tb_m (List.mem_of_getElem? (i := 175) (by decide +kernel)) rfl
theorem fg_X7_87 {l : Launch} {w : Wp} {L : Ly} {E : Cx} {M : Mm} {lv : List (Nat × Value)} {pc : Nat} {st : List Value} {cc : ByteArray} {maxL n a : Nat} (cx : Ok w L E RX7 cc maxL n) (hd : decode cc pc = .ok (.getfield 87, 3)) (h : LLog w L a) (kk : G l w L E M lv (pc + 3) (.ref (a + 5) :: st)) : G l w L E M lv pc (.ref a :: st) := g_getR cx (ci := 1) rfl in_X1 6 (by decide) tf_X7_87 rfl (LLog_o h) (Nat.le_of_ble_eq_true rfl) rfl hd kk
set_option maxRecDepth 100000 in
theorem tf_X7_94 : Cond.fieldLink RX7 94 "TramWires$Service" (TX5 5).2.1 (TX5 5).2.2.1 ∈ TB := tb_m (List.mem_of_getElem? (i := 124) (by decide +kernel)) rfl
theorem fg_X7_94 {l : Launch} {w : Wp} {L : Ly} {E : Cx} {M : Mm} {lv : List (Nat × Value)} {pc : Nat} {st : List Value} {cc : ByteArray} {maxL n a : Nat} (cx : Ok w L E RX7 cc maxL n) (hd : decode cc pc = .ok (.getfield 94, 3)) (h : LService w L a) (kk : G l w L E M lv (pc + 3) (.ref (a + 3) :: st)) : G l w L E M lv pc (.ref a :: st) := g_getR cx (ci := 5) rfl in_X5 5 (by decide) tf_X7_94 rfl (LService_o h) (Nat.le_of_ble_eq_true rfl) rfl hd kk
set_option maxRecDepth 100000 in
theorem tf_X7_97 : Cond.fieldLink RX7 97 "TramWires$Service" (TX5 9).2.1 (TX5 9).2.2.1 ∈ TB := tb_m (List.mem_of_getElem? (i := 134) (by decide +kernel)) rfl
theorem fg_X7_97 {l : Launch} {w : Wp} {L : Ly} {E : Cx} {M : Mm} {lv : List (Nat × Value)} {pc : Nat} {st : List Value} {cc : ByteArray} {maxL n a : Nat} (cx : Ok w L E RX7 cc maxL n) (hd : decode cc pc = .ok (.getfield 97, 3)) (h : LService w L a) (kk : G l w L E M lv (pc + 3) (.ref (a + 7) :: st)) : G l w L E M lv pc (.ref a :: st) := g_getR cx (ci := 5) rfl in_X5 9 (by decide) tf_X7_97 rfl (LService_o h) (Nat.le_of_ble_eq_true rfl) rfl hd kk
set_option maxRecDepth 100000 in
theorem tf_X7_100 : Cond.fieldLink RX7 100 "TramWires$Net" (TX2 7).2.1 (TX2 7).2.2.1 ∈ TB := tb_m (List.mem_of_getElem? (i := 81) (by decide +kernel)) rfl
theorem fg_X7_100 {l : Launch} {w : Wp} {L : Ly} {E : Cx} {M : Mm} {lv : List (Nat × Value)} {pc : Nat} {st : List Value} {cc : ByteArray} {maxL n a : Nat} (cx : Ok w L E RX7 cc maxL n) (hd : decode cc pc = .ok (.getfield 100, 3)) (h : LNet w L a) (kk : G l w L E M lv (pc + 3) (.ref (a + 6) :: st)) : G l w L E M lv pc (.ref a :: st) := g_getR cx (ci := 2) rfl in_X2 7 (by decide) tf_X7_100 rfl (LNet_o h) (Nat.le_of_ble_eq_true rfl) rfl hd kk
set_option maxRecDepth 100000 in
theorem tf_X7_119 : Cond.fieldLink RX7 119 "TramWires$Log" (TX1 8).2.1 (TX1 8).2.2.1 ∈ TB := tb_m (List.mem_of_getElem? (i := 179) (by decide +kernel)) rfl
theorem fg_X7_119 {l : Launch} {w : Wp} {L : Ly} {E : Cx} {M : Mm} {lv : List (Nat × Value)} {pc : Nat} {st : List Value} {cc : ByteArray} {maxL n a : Nat} (cx : Ok w L E RX7 cc maxL n) (hd : decode cc pc = .ok (.getfield 119, 3)) (h : LLog w L a) (kk : G l w L E M lv (pc + 3) (.ref (a + 7) :: st)) : G l w L E M lv pc (.ref a :: st) := g_getR cx (ci := 1) rfl in_X1 8 (by decide) tf_X7_119 rfl (LLog_o h) (Nat.le_of_ble_eq_true rfl) rfl hd kk
set_option maxRecDepth 100000 in
theorem tf_X7_122 : Cond.fieldLink RX7 122 "TramWires$Log" (TX1 7).2.1 (TX1 7).2.2.1 ∈ TB := tb_m (List.mem_of_getElem? (i := 177) (by decide +kernel)) rfl
theorem fg_X7_122 {l : Launch} {w : Wp} {L : Ly} {E : Cx} {M : Mm} {lv : List (Nat × Value)} {pc : Nat} {st : List Value} {cc : ByteArray} {maxL n a : Nat} (cx : Ok w L E RX7 cc maxL n) (hd : decode cc pc = .ok (.getfield 122, 3)) (h : LLog w L a) (kk : G l w L E M lv (pc + 3) (.ref (a + 6) :: st)) : G l w L E M lv pc (.ref a :: st) := g_getR cx (ci := 1) rfl in_X1 7 (by decide) tf_X7_122 rfl (LLog_o h) (Nat.le_of_ble_eq_true rfl) rfl hd kk
set_option maxRecDepth 100000 in
theorem tf_X7_153 : Cond.fieldLink RX7 153 "TramWires$Service" (TX5 4).2.1 (TX5 4).2.2.1 ∈ TB := tb_m (List.mem_of_getElem? (i := 120) (by decide +kernel)) rfl
theorem fg_X7_153 {l : Launch} {w : Wp} {L : Ly} {E : Cx} {M : Mm} {lv : List (Nat × Value)} {pc : Nat} {st : List Value} {cc : ByteArray} {maxL n a : Nat} (cx : Ok w L E RX7 cc maxL n) (hd : decode cc pc = .ok (.getfield 153, 3)) (h : LService w L a) (kk : G l w L E M lv (pc + 3) (.ref (a + 2) :: st)) : G l w L E M lv pc (.ref a :: st) := g_getR cx (ci := 5) rfl in_X5 4 (by decide) tf_X7_153 rfl (LService_o h) (Nat.le_of_ble_eq_true rfl) rfl hd kk
set_option maxRecDepth 100000 in
theorem tf_X7_160 : Cond.fieldLink RX7 160 "TramWires$Net" (TX2 5).2.1 (TX2 5).2.2.1 ∈ TB := tb_m (List.mem_of_getElem? (i := 76) (by decide +kernel)) rfl
theorem fg_X7_160 {l : Launch} {w : Wp} {L : Ly} {E : Cx} {M : Mm} {lv : List (Nat × Value)} {pc : Nat} {st : List Value} {cc : ByteArray} {maxL n a : Nat} (cx : Ok w L E RX7 cc maxL n) (hd : decode cc pc = .ok (.getfield 160, 3)) (h : LNet w L a) (kk : G l w L E M lv (pc + 3) (.ref (a + 4) :: st)) : G l w L E M lv pc (.ref a :: st) := g_getR cx (ci := 2) rfl in_X2 5 (by decide) tf_X7_160 rfl (LNet_o h) (Nat.le_of_ble_eq_true rfl) rfl hd kk
set_option maxRecDepth 100000 in
theorem tf_X7_173 : Cond.fieldLink RX7 173 "TramWires$Net" (TX2 2).2.1 (TX2 2).2.2.1 ∈ TB := tb_m (List.mem_of_getElem? (i := 67) (by decide +kernel)) rfl
theorem fg_X7_173 {l : Launch} {w : Wp} {L : Ly} {E : Cx} {M : Mm} {lv : List (Nat × Value)} {pc : Nat} {st : List Value} {cc : ByteArray} {maxL n a : Nat} (cx : Ok w L E RX7 cc maxL n) (hd : decode cc pc = .ok (.getfield 173, 3)) (h : LNet w L a) (kk : G l w L E M lv (pc + 3) (.ref (a + 1) :: st)) : G l w L E M lv pc (.ref a :: st) := g_getR cx (ci := 2) rfl in_X2 2 (by decide) tf_X7_173 rfl (LNet_o h) (Nat.le_of_ble_eq_true rfl) rfl hd kk
set_option maxRecDepth 100000 in
theorem tf_X7_179 : Cond.fieldLink RX7 179 "TramWires$Service" (TX5 6).2.1 (TX5 6).2.2.1 ∈ TB := tb_m (List.mem_of_getElem? (i := 127) (by decide +kernel)) rfl
theorem fg_X7_179 {l : Launch} {w : Wp} {L : Ly} {E : Cx} {M : Mm} {lv : List (Nat × Value)} {pc : Nat} {st : List Value} {cc : ByteArray} {maxL n a : Nat} (cx : Ok w L E RX7 cc maxL n) (hd : decode cc pc = .ok (.getfield 179, 3)) (h : LService w L a) (kk : G l w L E M lv (pc + 3) (.ref (a + 4) :: st)) : G l w L E M lv pc (.ref a :: st) := g_getR cx (ci := 5) rfl in_X5 6 (by decide) tf_X7_179 rfl (LService_o h) (Nat.le_of_ble_eq_true rfl) rfl hd kk
set_option maxRecDepth 100000 in
theorem tf_X7_182 : Cond.fieldLink RX7 182 "TramWires$Service" (TX5 0).2.1 (TX5 0).2.2.1 ∈ TB := tb_m (List.mem_of_getElem? (i := 109) (by decide +kernel)) rfl
theorem fg_X7_182 {l : Launch} {w : Wp} {L : Ly} {E : Cx} {M : Mm} {lv : List (Nat × Value)} {pc : Nat} {st : List Value} {cc : ByteArray} {maxL n a : Nat} (cx : Ok w L E RX7 cc maxL n) (hd : decode cc pc = .ok (.getfield 182, 3)) (h : LService w L a) (kk : G l w L E M lv (pc + 3) (.int (M a 0) :: st)) : G l w L E M lv pc (.ref a :: st) := g_getI cx (ci := 5) rfl in_X5 0 (by decide) tf_X7_182 rfl (LService_o h) (Nat.le_of_ble_eq_true rfl) rfl hd kk
theorem fp_X7_182 {l : Launch} {w : Wp} {L : Ly} {E : Cx} {M : Mm} {lv : List (Nat × Value)} {pc : Nat} {st : List Value} {cc : ByteArray} {maxL n a : Nat} (cx : Ok w L E RX7 cc maxL n) {x : Int32} {A : Mm → OR} {R0 : Int32 × Mm} (hd : decode cc pc = .ok (.putfield 182, 3)) (h : LService w L a) (hf : bnd (mst M a 0 x) A = some R0) (kk : ∀ M1 : Mm, A M1 = some R0 → G l w L E M1 lv (pc + 3) st) : G l w L E M lv pc (.int x :: .ref a :: st) := g_putI cx (ci := 5) rfl in_X5 tyX5 tyX5_ok nmX5 0 (by decide) tf_X7_182 rfl rfl (by decide +kernel) (LService_o h) (Nat.le_of_ble_eq_true rfl) rfl hd hf kk
end
