section
-- ===== PART A: goes FIRST, ahead of the names: the tables' words, and 'selects' of the private methods out of them =====
/-- a private method of a class that the tables say can be made, by its rows of tables_1 -/
def lw_okq (q : MethodName × Nat) : Prop := (q.1.cls ≠ "java/lang/invoke/MethodHandle" ∧ q.1.cls ≠ "java/lang/invoke/VarHandle") ∧ Cond.instantiable q.1.cls q.2 ∈ tables_1 ∧ Cond.privateMethod q.1 ∈ tables_1 ∧ Cond.instanceMethod q.1 ∈ tables_1
theorem lw_p0 : lw_okq (⟨"StarLists$Pairing", "turnSky", "(II)V"⟩, 10) := ⟨⟨by decide +kernel, by decide +kernel⟩, List.mem_of_getElem? (i := 78) (by decide +kernel), List.mem_of_getElem? (i := 288) (by decide +kernel), List.mem_of_getElem? (i := 289) (by decide +kernel)⟩
theorem lw_p1 : lw_okq (⟨"StarLists$Pairing", "gatherFits", "(II)I"⟩, 10) := ⟨⟨by decide +kernel, by decide +kernel⟩, List.mem_of_getElem? (i := 78) (by decide +kernel), List.mem_of_getElem? (i := 333) (by decide +kernel), List.mem_of_getElem? (i := 334) (by decide +kernel)⟩
theorem lw_p2 : lw_okq (⟨"StarLists$Pairing", "takeLine", "(II)V"⟩, 10) := ⟨⟨by decide +kernel, by decide +kernel⟩, List.mem_of_getElem? (i := 78) (by decide +kernel), List.mem_of_getElem? (i := 349) (by decide +kernel), List.mem_of_getElem? (i := 350) (by decide +kernel)⟩
theorem lw_p3 : lw_okq (⟨"StarLists$Pairing", "leastKey", "(I)J"⟩, 10) := ⟨⟨by decide +kernel, by decide +kernel⟩, List.mem_of_getElem? (i := 78) (by decide +kernel), List.mem_of_getElem? (i := 356) (by decide +kernel), List.mem_of_getElem? (i := 357) (by decide +kernel)⟩
theorem lw_p4 : lw_okq (⟨"StarLists$Pairing", "readKey", "(JI)V"⟩, 10) := ⟨⟨by decide +kernel, by decide +kernel⟩, List.mem_of_getElem? (i := 78) (by decide +kernel), List.mem_of_getElem? (i := 360) (by decide +kernel), List.mem_of_getElem? (i := 361) (by decide +kernel)⟩
theorem lw_p5 : lw_okq (⟨"StarLists", "weighYears", "(IIII)I"⟩, 5) := ⟨⟨by decide +kernel, by decide +kernel⟩, List.mem_of_getElem? (i := 11) (by decide +kernel), List.mem_of_getElem? (i := 378) (by decide +kernel), List.mem_of_getElem? (i := 379) (by decide +kernel)⟩
theorem lw_p6 : lw_okq (⟨"StarLists$Pairing", "insertWay", "(II)V"⟩, 10) := ⟨⟨by decide +kernel, by decide +kernel⟩, List.mem_of_getElem? (i := 78) (by decide +kernel), List.mem_of_getElem? (i := 398) (by decide +kernel), List.mem_of_getElem? (i := 399) (by decide +kernel)⟩
theorem lw_p7 : lw_okq (⟨"StarLists$Copies", "addRow", "()V"⟩, 8) := ⟨⟨by decide +kernel, by decide +kernel⟩, List.mem_of_getElem? (i := 120) (by decide +kernel), List.mem_of_getElem? (i := 443) (by decide +kernel), List.mem_of_getElem? (i := 444) (by decide +kernel)⟩
theorem lw_p8 : lw_okq (⟨"StarLists$Copies", "join", "(II)V"⟩, 8) := ⟨⟨by decide +kernel, by decide +kernel⟩, List.mem_of_getElem? (i := 120) (by decide +kernel), List.mem_of_getElem? (i := 448) (by decide +kernel), List.mem_of_getElem? (i := 449) (by decide +kernel)⟩
theorem lw_p9 : lw_okq (⟨"StarListsModel", "isStar", "(I)Z"⟩, 20) := ⟨⟨by decide +kernel, by decide +kernel⟩, List.mem_of_getElem? (i := 469) (by decide +kernel), List.mem_of_getElem? (i := 553) (by decide +kernel), List.mem_of_getElem? (i := 554) (by decide +kernel)⟩
theorem lw_p10 : lw_okq (⟨"StarListsModel", "skyOf", "(II)I"⟩, 20) := ⟨⟨by decide +kernel, by decide +kernel⟩, List.mem_of_getElem? (i := 469) (by decide +kernel), List.mem_of_getElem? (i := 560) (by decide +kernel), List.mem_of_getElem? (i := 561) (by decide +kernel)⟩
theorem lw_p11 : lw_okq (⟨"StarListsModel", "isList", "(I)Z"⟩, 20) := ⟨⟨by decide +kernel, by decide +kernel⟩, List.mem_of_getElem? (i := 469) (by decide +kernel), List.mem_of_getElem? (i := 593) (by decide +kernel), List.mem_of_getElem? (i := 594) (by decide +kernel)⟩
theorem lw_p12 : lw_okq (⟨"StarListsModel", "isLine", "(II)Z"⟩, 20) := ⟨⟨by decide +kernel, by decide +kernel⟩, List.mem_of_getElem? (i := 469) (by decide +kernel), List.mem_of_getElem? (i := 601) (by decide +kernel), List.mem_of_getElem? (i := 602) (by decide +kernel)⟩
theorem lw_p13 : lw_okq (⟨"StarListsModel", "face", "(IIIII)V"⟩, 20) := ⟨⟨by decide +kernel, by decide +kernel⟩, List.mem_of_getElem? (i := 469) (by decide +kernel), List.mem_of_getElem? (i := 620) (by decide +kernel), List.mem_of_getElem? (i := 621) (by decide +kernel)⟩
theorem lw_p14 : lw_okq (⟨"StarListsModel", "tries", "(IIII)V"⟩, 20) := ⟨⟨by decide +kernel, by decide +kernel⟩, List.mem_of_getElem? (i := 469) (by decide +kernel), List.mem_of_getElem? (i := 625) (by decide +kernel), List.mem_of_getElem? (i := 626) (by decide +kernel)⟩
theorem lw_p15 : lw_okq (⟨"StarListsModel", "mayAsk", "(III)I"⟩, 20) := ⟨⟨by decide +kernel, by decide +kernel⟩, List.mem_of_getElem? (i := 469) (by decide +kernel), List.mem_of_getElem? (i := 640) (by decide +kernel), List.mem_of_getElem? (i := 641) (by decide +kernel)⟩
def lw_privs_1 : List (MethodName × Nat) := [(⟨"StarLists$Pairing", "turnSky", "(II)V"⟩, 10), (⟨"StarLists$Pairing", "gatherFits", "(II)I"⟩, 10), (⟨"StarLists$Pairing", "takeLine", "(II)V"⟩, 10), (⟨"StarLists$Pairing", "leastKey", "(I)J"⟩, 10), (⟨"StarLists$Pairing", "readKey", "(JI)V"⟩, 10), (⟨"StarLists", "weighYears", "(IIII)I"⟩, 5), (⟨"StarLists$Pairing", "insertWay", "(II)V"⟩, 10), (⟨"StarLists$Copies", "addRow", "()V"⟩, 8), (⟨"StarLists$Copies", "join", "(II)V"⟩, 8), (⟨"StarListsModel", "isStar", "(I)Z"⟩, 20), (⟨"StarListsModel", "skyOf", "(II)I"⟩, 20), (⟨"StarListsModel", "isList", "(I)Z"⟩, 20), (⟨"StarListsModel", "isLine", "(II)Z"⟩, 20), (⟨"StarListsModel", "face", "(IIIII)V"⟩, 20), (⟨"StarListsModel", "tries", "(IIII)V"⟩, 20), (⟨"StarListsModel", "mayAsk", "(III)I"⟩, 20)]
theorem lw_r1 : ∀ q ∈ lw_privs_1, lw_okq q := List.forall_mem_cons.mpr ⟨lw_p0, List.forall_mem_cons.mpr ⟨lw_p1, List.forall_mem_cons.mpr ⟨lw_p2, List.forall_mem_cons.mpr ⟨lw_p3, List.forall_mem_cons.mpr ⟨lw_p4, List.forall_mem_cons.mpr ⟨lw_p5, List.forall_mem_cons.mpr ⟨lw_p6, List.forall_mem_cons.mpr ⟨lw_p7, List.forall_mem_cons.mpr ⟨lw_p8, List.forall_mem_cons.mpr ⟨lw_p9, List.forall_mem_cons.mpr ⟨lw_p10, List.forall_mem_cons.mpr ⟨lw_p11, List.forall_mem_cons.mpr ⟨lw_p12, List.forall_mem_cons.mpr ⟨lw_p13, List.forall_mem_cons.mpr ⟨lw_p14, List.forall_mem_cons.mpr ⟨lw_p15, fun _ h => absurd h List.not_mem_nil⟩⟩⟩⟩⟩⟩⟩⟩⟩⟩⟩⟩⟩⟩⟩⟩
theorem lw_p16 : lw_okq (⟨"StarListsModel", "lay", "(III)I"⟩, 20) := ⟨⟨by decide +kernel, by decide +kernel⟩, List.mem_of_getElem? (i := 469) (by decide +kernel), List.mem_of_getElem? (i := 644) (by decide +kernel), List.mem_of_getElem? (i := 645) (by decide +kernel)⟩
theorem lw_p17 : lw_okq (⟨"StarListsModel", "match", "(III)V"⟩, 20) := ⟨⟨by decide +kernel, by decide +kernel⟩, List.mem_of_getElem? (i := 469) (by decide +kernel), List.mem_of_getElem? (i := 652) (by decide +kernel), List.mem_of_getElem? (i := 653) (by decide +kernel)⟩
theorem lw_p18 : lw_okq (⟨"StarListsModel", "datedTo", "(IIII)I"⟩, 20) := ⟨⟨by decide +kernel, by decide +kernel⟩, List.mem_of_getElem? (i := 469) (by decide +kernel), List.mem_of_getElem? (i := 663) (by decide +kernel), List.mem_of_getElem? (i := 664) (by decide +kernel)⟩
theorem lw_p19 : lw_okq (⟨"StarListsModel", "layFaults", "(III)V"⟩, 20) := ⟨⟨by decide +kernel, by decide +kernel⟩, List.mem_of_getElem? (i := 469) (by decide +kernel), List.mem_of_getElem? (i := 679) (by decide +kernel), List.mem_of_getElem? (i := 680) (by decide +kernel)⟩
theorem lw_p20 : lw_okq (⟨"StarListsModel", "mayCompare", "(IIII)I"⟩, 20) := ⟨⟨by decide +kernel, by decide +kernel⟩, List.mem_of_getElem? (i := 469) (by decide +kernel), List.mem_of_getElem? (i := 687) (by decide +kernel), List.mem_of_getElem? (i := 688) (by decide +kernel)⟩
theorem lw_p21 : lw_okq (⟨"StarListsModel", "apartOf", "(II)I"⟩, 20) := ⟨⟨by decide +kernel, by decide +kernel⟩, List.mem_of_getElem? (i := 469) (by decide +kernel), List.mem_of_getElem? (i := 695) (by decide +kernel), List.mem_of_getElem? (i := 696) (by decide +kernel)⟩
theorem lw_p22 : lw_okq (⟨"StarListsModel", "layTree", "(II)I"⟩, 20) := ⟨⟨by decide +kernel, by decide +kernel⟩, List.mem_of_getElem? (i := 469) (by decide +kernel), List.mem_of_getElem? (i := 703) (by decide +kernel), List.mem_of_getElem? (i := 704) (by decide +kernel)⟩
def lw_privs_2 : List (MethodName × Nat) := [(⟨"StarListsModel", "lay", "(III)I"⟩, 20), (⟨"StarListsModel", "match", "(III)V"⟩, 20), (⟨"StarListsModel", "datedTo", "(IIII)I"⟩, 20), (⟨"StarListsModel", "layFaults", "(III)V"⟩, 20), (⟨"StarListsModel", "mayCompare", "(IIII)I"⟩, 20), (⟨"StarListsModel", "apartOf", "(II)I"⟩, 20), (⟨"StarListsModel", "layTree", "(II)I"⟩, 20)]
theorem lw_r2 : ∀ q ∈ lw_privs_2, lw_okq q := List.forall_mem_cons.mpr ⟨lw_p16, List.forall_mem_cons.mpr ⟨lw_p17, List.forall_mem_cons.mpr ⟨lw_p18, List.forall_mem_cons.mpr ⟨lw_p19, List.forall_mem_cons.mpr ⟨lw_p20, List.forall_mem_cons.mpr ⟨lw_p21, List.forall_mem_cons.mpr ⟨lw_p22, fun _ h => absurd h List.not_mem_nil⟩⟩⟩⟩⟩⟩⟩
def lw_privs : List (MethodName × Nat) := lw_privs_1 ++ (lw_privs_2)
def lw_tbl : List Cond := k2_sels lw_privs ++ tables_1
theorem lw_privs_ok : ∀ q ∈ lw_privs, lw_okq q := by
  show ∀ q ∈ lw_privs_1 ++ (lw_privs_2), lw_okq q
  exact List.forall_mem_append.mpr ⟨lw_r1, lw_r2⟩
-- ===== end of PART A; then your names; then what follows =====
end
section

def RX0 : String := "StarLists$Copies"
def TX0 : u_T := fun k => match k with
  | 0 => ("StarLists$Copies", "pairs", "[I", true)
  | 1 => ("StarLists$Copies", "rows", "I", false)
  | 2 => ("StarLists$Copies", "needed", "I", false)
  | 3 => ("StarLists$Copies", "stars", "LStarLists$Stars;", true)
  | 4 => ("StarLists$Copies", "rolls", "LStarLists$Rolls;", true)
  | 5 => ("StarLists$Copies", "pairing", "LStarLists$Pairing;", true)
  | 6 => ("StarLists$Copies", "faults", "[I", true)
  | _ => ("StarLists$Copies", "groups", "[I", true)
def tyX0 : Nat → FieldType := fun k => match k with
  | 0 => .array .int
  | 1 => .int
  | 2 => .int
  | 3 => .object "StarLists$Stars"
  | 4 => .object "StarLists$Rolls"
  | 5 => .object "StarLists$Pairing"
  | 6 => .array .int
  | _ => .array .int
abbrev wsX00 : List Cond := u_ws RX0 TX0 8
theorem nmX0 : ∀ a, a < 8 → ∀ b, b < 8 → a ≠ b → (TX0 a).2.1 ≠ (TX0 b).2.1 := by decide +kernel
theorem tyX0_ok : ∀ k, k < 8 → parseFieldDescriptor (TX0 k).2.2.1 = some (tyX0 k) := by decide +kernel
abbrev cX0_init : ByteArray := prog_2_method_1_code
def yX0_init : MethodName := ⟨RX0, "<init>", "(LStarLists$Stars;LStarLists$Rolls;LStarLists$Pairing;)V"⟩
abbrev cX0_note : ByteArray := prog_2_method_2_code
def yX0_note : MethodName := ⟨RX0, "note", "(III)V"⟩
abbrev cX0_faultOf : ByteArray := prog_2_method_3_code
def yX0_faultOf : MethodName := ⟨RX0, "faultOf", "(II)I"⟩
abbrev cX0_inBoth : ByteArray := prog_2_method_4_code
def yX0_inBoth : MethodName := ⟨RX0, "inBoth", "(II)I"⟩
abbrev cX0_unlike : ByteArray := prog_2_method_5_code
def yX0_unlike : MethodName := ⟨RX0, "unlike", "(II)I"⟩
abbrev cX0_grow : ByteArray := prog_2_method_6_code
def yX0_grow : MethodName := ⟨RX0, "grow", "(II)V"⟩
abbrev cX0_addRow : ByteArray := prog_2_method_7_code
def yX0_addRow : MethodName := ⟨RX0, "addRow", "()V"⟩
abbrev cX0_join : ByteArray := prog_2_method_8_code
def yX0_join : MethodName := ⟨RX0, "join", "(II)V"⟩
def RX1 : String := "StarLists$Pairing"
def TX1 : u_T := fun k => match k with
  | 0 => ("StarLists$Pairing", "starOf", "[I", true)
  | 1 => ("StarLists$Pairing", "ways", "[I", true)
  | 2 => ("StarLists$Pairing", "total", "I", false)
  | 3 => ("StarLists$Pairing", "stars", "LStarLists$Stars;", true)
  | 4 => ("StarLists$Pairing", "rolls", "LStarLists$Rolls;", true)
  | 5 => ("StarLists$Pairing", "skyLongs", "[I", true)
  | 6 => ("StarLists$Pairing", "keys", "[J", true)
  | 7 => ("StarLists$Pairing", "fitBits", "[I", true)
  | 8 => ("StarLists$Pairing", "fitKeys", "[J", true)
  | _ => ("StarLists$Pairing", "fits", "I", false)
def tyX1 : Nat → FieldType := fun k => match k with
  | 0 => .array .int
  | 1 => .array .int
  | 2 => .int
  | 3 => .object "StarLists$Stars"
  | 4 => .object "StarLists$Rolls"
  | 5 => .array .int
  | 6 => .array .long
  | 7 => .array .int
  | 8 => .array .long
  | _ => .int
abbrev wsX10 : List Cond := u_ws RX1 TX1 10
theorem nmX1 : ∀ a, a < 10 → ∀ b, b < 10 → a ≠ b → (TX1 a).2.1 ≠ (TX1 b).2.1 := by decide +kernel
theorem tyX1_ok : ∀ k, k < 10 → parseFieldDescriptor (TX1 k).2.2.1 = some (tyX1 k) := by decide +kernel
abbrev cX1_init : ByteArray := prog_3_method_1_code
def yX1_init : MethodName := ⟨RX1, "<init>", "(LStarLists$Stars;LStarLists$Rolls;)V"⟩
abbrev cX1_rankOf : ByteArray := prog_3_method_2_code
def yX1_rankOf : MethodName := ⟨RX1, "rankOf", "(IIIII)I"⟩
abbrev cX1_find : ByteArray := prog_3_method_3_code
def yX1_find : MethodName := ⟨RX1, "find", "(III)V"⟩
abbrev cX1_turnSky : ByteArray := prog_3_method_4_code
def yX1_turnSky : MethodName := ⟨RX1, "turnSky", "(II)V"⟩
abbrev cX1_turnedRank : ByteArray := prog_3_method_5_code
def yX1_turnedRank : MethodName := ⟨RX1, "turnedRank", "(III)I"⟩
abbrev cX1_gatherFits : ByteArray := prog_3_method_6_code
def yX1_gatherFits : MethodName := ⟨RX1, "gatherFits", "(II)I"⟩
abbrev cX1_keyPart : ByteArray := prog_3_method_7_code
def yX1_keyPart : MethodName := ⟨RX1, "keyPart", "(III)J"⟩
abbrev cX1_digitPlace : ByteArray := prog_3_method_8_code
def yX1_digitPlace : MethodName := ⟨RX1, "digitPlace", "(I)I"⟩
abbrev cX1_takeLine : ByteArray := prog_3_method_9_code
def yX1_takeLine : MethodName := ⟨RX1, "takeLine", "(II)V"⟩
abbrev cX1_leastKey : ByteArray := prog_3_method_10_code
def yX1_leastKey : MethodName := ⟨RX1, "leastKey", "(I)J"⟩
abbrev cX1_readKey : ByteArray := prog_3_method_11_code
def yX1_readKey : MethodName := ⟨RX1, "readKey", "(JI)V"⟩
abbrev cX1_sortPlainWays : ByteArray := prog_3_method_12_code
def yX1_sortPlainWays : MethodName := ⟨RX1, "sortPlainWays", "(I)I"⟩
abbrev cX1_insertWay : ByteArray := prog_3_method_13_code
def yX1_insertWay : MethodName := ⟨RX1, "insertWay", "(II)V"⟩
def RX2 : String := "StarLists$Rolls"
def TX2 : u_T := fun k => match k with
  | 0 => ("StarLists$Rolls", "lines", "[I", true)
  | 1 => ("StarLists$Rolls", "size", "I", false)
  | 2 => ("StarLists$Rolls", "longs", "[I", true)
  | _ => ("StarLists$Rolls", "wides", "[I", true)
def tyX2 : Nat → FieldType := fun k => match k with
  | 0 => .array .int
  | 1 => .int
  | 2 => .array .int
  | _ => .array .int
abbrev wsX20 : List Cond := u_ws RX2 TX2 4
theorem nmX2 : ∀ a, a < 4 → ∀ b, b < 4 → a ≠ b → (TX2 a).2.1 ≠ (TX2 b).2.1 := by decide +kernel
theorem tyX2_ok : ∀ k, k < 4 → parseFieldDescriptor (TX2 k).2.2.1 = some (tyX2 k) := by decide +kernel
abbrev cX2_init : ByteArray := prog_4_method_1_code
def yX2_init : MethodName := ⟨RX2, "<init>", "()V"⟩
abbrev cX2_has : ByteArray := prog_4_method_2_code
def yX2_has : MethodName := ⟨RX2, "has", "(I)Z"⟩
abbrev cX2_hasLine : ByteArray := prog_4_method_3_code
def yX2_hasLine : MethodName := ⟨RX2, "hasLine", "(II)Z"⟩
abbrev cX2_open : ByteArray := prog_4_method_4_code
def yX2_open : MethodName := ⟨RX2, "open", "()I"⟩
abbrev cX2_add : ByteArray := prog_4_method_5_code
def yX2_add : MethodName := ⟨RX2, "add", "(III)I"⟩
abbrev cX2_write : ByteArray := prog_4_method_6_code
def yX2_write : MethodName := ⟨RX2, "write", "(IIII)V"⟩
abbrev cX2_longOf : ByteArray := prog_4_method_7_code
def yX2_longOf : MethodName := ⟨RX2, "longOf", "(II)I"⟩
abbrev cX2_wideOf : ByteArray := prog_4_method_8_code
def yX2_wideOf : MethodName := ⟨RX2, "wideOf", "(II)I"⟩
abbrev cX2_allLines : ByteArray := prog_4_method_9_code
def yX2_allLines : MethodName := ⟨RX2, "allLines", "()I"⟩
def RX3 : String := "StarLists$Slips"
def TX3 : u_T := fun k => match k with
  | _ => ("", "", "", false)
def tyX3 : Nat → FieldType := fun k => match k with
  | _ => .int
abbrev wsX30 : List Cond := u_ws RX3 TX3 0
theorem nmX3 : ∀ a, a < 0 → ∀ b, b < 0 → a ≠ b → (TX3 a).2.1 ≠ (TX3 b).2.1 := by decide +kernel
theorem tyX3_ok : ∀ k, k < 0 → parseFieldDescriptor (TX3 k).2.2.1 = some (tyX3 k) := by decide +kernel
abbrev cX3_rank : ByteArray := prog_5_method_2_code
def yX3_rank : MethodName := ⟨RX3, "rank", "(III)I"⟩
abbrev cX3_lesser : ByteArray := prog_5_method_3_code
def yX3_lesser : MethodName := ⟨RX3, "lesser", "(IIIII)I"⟩
abbrev cX3_kindOf : ByteArray := prog_5_method_4_code
def yX3_kindOf : MethodName := ⟨RX3, "kindOf", "(I)I"⟩
abbrev cX3_costOf : ByteArray := prog_5_method_5_code
def yX3_costOf : MethodName := ⟨RX3, "costOf", "(I)I"⟩
def RX4 : String := "StarLists$Stars"
def TX4 : u_T := fun k => match k with
  | 0 => ("StarLists$Stars", "longs", "[I", true)
  | 1 => ("StarLists$Stars", "wides", "[I", true)
  | 2 => ("StarLists$Stars", "motions", "[I", true)
  | 3 => ("StarLists$Stars", "lights", "[I", true)
  | 4 => ("StarLists$Stars", "size", "I", false)
  | _ => ("StarLists$Stars", "faintest", "I", false)
def tyX4 : Nat → FieldType := fun k => match k with
  | 0 => .array .int
  | 1 => .array .int
  | 2 => .array .int
  | 3 => .array .int
  | 4 => .int
  | _ => .int
abbrev wsX40 : List Cond := u_ws RX4 TX4 6
theorem nmX4 : ∀ a, a < 6 → ∀ b, b < 6 → a ≠ b → (TX4 a).2.1 ≠ (TX4 b).2.1 := by decide +kernel
theorem tyX4_ok : ∀ k, k < 6 → parseFieldDescriptor (TX4 k).2.2.1 = some (tyX4 k) := by decide +kernel
abbrev cX4_init : ByteArray := prog_6_method_1_code
def yX4_init : MethodName := ⟨RX4, "<init>", "()V"⟩
abbrev cX4_has : ByteArray := prog_6_method_2_code
def yX4_has : MethodName := ⟨RX4, "has", "(I)Z"⟩
abbrev cX4_add : ByteArray := prog_6_method_3_code
def yX4_add : MethodName := ⟨RX4, "add", "(IIII)I"⟩
abbrev cX4_longIn : ByteArray := prog_6_method_4_code
def yX4_longIn : MethodName := ⟨RX4, "longIn", "(II)I"⟩
abbrev cX4_counts : ByteArray := prog_6_method_5_code
def yX4_counts : MethodName := ⟨RX4, "counts", "(I)Z"⟩
abbrev cX4_bright : ByteArray := prog_6_method_6_code
def yX4_bright : MethodName := ⟨RX4, "bright", "()I"⟩
def RX5 : String := "StarLists"
def TX5 : u_T := fun k => match k with
  | 0 => ("StarLists", "stars", "LStarLists$Stars;", true)
  | 1 => ("StarLists", "rolls", "LStarLists$Rolls;", true)
  | 2 => ("StarLists", "pairing", "LStarLists$Pairing;", true)
  | 3 => ("StarLists", "copies", "LStarLists$Copies;", true)
  | _ => ("StarLists", "yearCosts", "[I", true)
def tyX5 : Nat → FieldType := fun k => match k with
  | 0 => .object "StarLists$Stars"
  | 1 => .object "StarLists$Rolls"
  | 2 => .object "StarLists$Pairing"
  | 3 => .object "StarLists$Copies"
  | _ => .array .int
abbrev wsX50 : List Cond := u_ws RX5 TX5 5
theorem nmX5 : ∀ a, a < 5 → ∀ b, b < 5 → a ≠ b → (TX5 a).2.1 ≠ (TX5 b).2.1 := by decide +kernel
theorem tyX5_ok : ∀ k, k < 5 → parseFieldDescriptor (TX5 k).2.2.1 = some (tyX5 k) := by decide +kernel
abbrev cX5_init : ByteArray := prog_1_method_1_code
def yX5_init : MethodName := ⟨RX5, "<init>", "()V"⟩
abbrev cX5_star : ByteArray := prog_1_method_2_code
def yX5_star : MethodName := ⟨RX5, "star", "(IIII)I"⟩
abbrev cX5_sky : ByteArray := prog_1_method_3_code
def yX5_sky : MethodName := ⟨RX5, "sky", "(II)I"⟩
abbrev cX5_about : ByteArray := prog_1_method_4_code
def yX5_about : MethodName := ⟨RX5, "about", "(II)I"⟩
abbrev cX5_limit : ByteArray := prog_1_method_5_code
def yX5_limit : MethodName := ⟨RX5, "limit", "(I)I"⟩
abbrev cX5_way : ByteArray := prog_1_method_6_code
def yX5_way : MethodName := ⟨RX5, "way", "(II)I"⟩
abbrev cX5_list : ByteArray := prog_1_method_7_code
def yX5_list : MethodName := ⟨RX5, "list", "()I"⟩
abbrev cX5_line : ByteArray := prog_1_method_8_code
def yX5_line : MethodName := ⟨RX5, "line", "(III)I"⟩
abbrev cX5_written : ByteArray := prog_1_method_9_code
def yX5_written : MethodName := ⟨RX5, "written", "(III)I"⟩
abbrev cX5_mend : ByteArray := prog_1_method_10_code
def yX5_mend : MethodName := ⟨RX5, "mend", "(IIII)I"⟩
abbrev cX5_round : ByteArray := prog_1_method_11_code
def yX5_round : MethodName := ⟨RX5, "round", "(II)I"⟩
abbrev cX5_slip : ByteArray := prog_1_method_12_code
def yX5_slip : MethodName := ⟨RX5, "slip", "(IIIII)I"⟩
abbrev cX5_cost : ByteArray := prog_1_method_13_code
def yX5_cost : MethodName := ⟨RX5, "cost", "(IIIII)I"⟩
abbrev cX5_best : ByteArray := prog_1_method_14_code
def yX5_best : MethodName := ⟨RX5, "best", "(III)I"⟩
abbrev cX5_matched : ByteArray := prog_1_method_15_code
def yX5_matched : MethodName := ⟨RX5, "matched", "(IIII)I"⟩
abbrev cX5_dated : ByteArray := prog_1_method_16_code
def yX5_dated : MethodName := ⟨RX5, "dated", "(IIII)I"⟩
abbrev cX5_doubt : ByteArray := prog_1_method_17_code
def yX5_doubt : MethodName := ⟨RX5, "doubt", "(IIIII)I"⟩
abbrev cX5_shift : ByteArray := prog_1_method_18_code
def yX5_shift : MethodName := ⟨RX5, "shift", "(II)I"⟩
abbrev cX5_fault : ByteArray := prog_1_method_19_code
def yX5_fault : MethodName := ⟨RX5, "fault", "(IIII)I"⟩
abbrev cX5_share : ByteArray := prog_1_method_20_code
def yX5_share : MethodName := ⟨RX5, "share", "(IIII)I"⟩
abbrev cX5_apart : ByteArray := prog_1_method_21_code
def yX5_apart : MethodName := ⟨RX5, "apart", "(IIII)I"⟩
abbrev cX5_tree : ByteArray := prog_1_method_22_code
def yX5_tree : MethodName := ⟨RX5, "tree", "(II)I"⟩
abbrev cX5_row : ByteArray := prog_1_method_23_code
def yX5_row : MethodName := ⟨RX5, "row", "(III)I"⟩
abbrev cX5_count : ByteArray := prog_1_method_24_code
def yX5_count : MethodName := ⟨RX5, "count", "(I)I"⟩
abbrev cX5_isWithin : ByteArray := prog_1_method_25_code
def yX5_isWithin : MethodName := ⟨RX5, "isWithin", "(III)Z"⟩
abbrev cX5_isLong : ByteArray := prog_1_method_26_code
def yX5_isLong : MethodName := ⟨RX5, "isLong", "(I)Z"⟩
abbrev cX5_isPlace : ByteArray := prog_1_method_27_code
def yX5_isPlace : MethodName := ⟨RX5, "isPlace", "(II)Z"⟩
abbrev cX5_isYear : ByteArray := prog_1_method_28_code
def yX5_isYear : MethodName := ⟨RX5, "isYear", "(I)Z"⟩
abbrev cX5_isShift : ByteArray := prog_1_method_29_code
def yX5_isShift : MethodName := ⟨RX5, "isShift", "(I)Z"⟩
abbrev cX5_isMoment : ByteArray := prog_1_method_30_code
def yX5_isMoment : MethodName := ⟨RX5, "isMoment", "(II)Z"⟩
abbrev cX5_areYears : ByteArray := prog_1_method_31_code
def yX5_areYears : MethodName := ⟨RX5, "areYears", "(III)Z"⟩
abbrev cX5_yearsBetween : ByteArray := prog_1_method_32_code
def yX5_yearsBetween : MethodName := ⟨RX5, "yearsBetween", "(II)I"⟩
abbrev cX5_weighYears : ByteArray := prog_1_method_33_code
def yX5_weighYears : MethodName := ⟨RX5, "weighYears", "(IIII)I"⟩
abbrev cX5_leads : ByteArray := prog_1_method_34_code
def yX5_leads : MethodName := ⟨RX5, "leads", "(II)I"⟩
def RX6 : String := "StarListsModel"
def TX6 : u_T := fun k => match k with
  | 0 => ("StarListsModel", "stars", "I", false)
  | 1 => ("StarListsModel", "longs", "[I", true)
  | 2 => ("StarListsModel", "wides", "[I", true)
  | 3 => ("StarListsModel", "motions", "[I", true)
  | 4 => ("StarListsModel", "lights", "[I", true)
  | 5 => ("StarListsModel", "limit", "I", false)
  | 6 => ("StarListsModel", "lists", "I", false)
  | 7 => ("StarListsModel", "lines", "[I", true)
  | 8 => ("StarListsModel", "lineLong", "[I", true)
  | 9 => ("StarListsModel", "lineWide", "[I", true)
  | 10 => ("StarListsModel", "foundSlip", "I", false)
  | 11 => ("StarListsModel", "foundCost", "I", false)
  | 12 => ("StarListsModel", "rest", "[I", true)
  | 13 => ("StarListsModel", "pairCost", "[I", true)
  | 14 => ("StarListsModel", "pairSlip", "[I", true)
  | 15 => ("StarListsModel", "starOf", "[I", true)
  | 16 => ("StarListsModel", "ways", "[I", true)
  | 17 => ("StarListsModel", "faults", "[I", true)
  | 18 => ("StarListsModel", "part", "[I", true)
  | _ => ("StarListsModel", "rows", "[I", true)
def tyX6 : Nat → FieldType := fun k => match k with
  | 0 => .int
  | 1 => .array .int
  | 2 => .array .int
  | 3 => .array .int
  | 4 => .array .int
  | 5 => .int
  | 6 => .int
  | 7 => .array .int
  | 8 => .array .int
  | 9 => .array .int
  | 10 => .int
  | 11 => .int
  | 12 => .array .int
  | 13 => .array .int
  | 14 => .array .int
  | 15 => .array .int
  | 16 => .array .int
  | 17 => .array .int
  | 18 => .array .int
  | _ => .array .int
abbrev wsX60 : List Cond := u_ws RX6 TX6 20
theorem nmX6 : ∀ a, a < 20 → ∀ b, b < 20 → a ≠ b → (TX6 a).2.1 ≠ (TX6 b).2.1 := by decide +kernel
theorem tyX6_ok : ∀ k, k < 20 → parseFieldDescriptor (TX6 k).2.2.1 = some (tyX6 k) := by decide +kernel
abbrev cX6_init : ByteArray := prog_8_method_1_code
def yX6_init : MethodName := ⟨RX6, "<init>", "()V"⟩
abbrev cX6_in : ByteArray := prog_8_method_3_code
def yX6_in : MethodName := ⟨RX6, "in", "(III)Z"⟩
abbrev cX6_size : ByteArray := prog_8_method_4_code
def yX6_size : MethodName := ⟨RX6, "size", "(I)I"⟩
abbrev cX6_isLong : ByteArray := prog_8_method_5_code
def yX6_isLong : MethodName := ⟨RX6, "isLong", "(I)Z"⟩
abbrev cX6_isWide : ByteArray := prog_8_method_6_code
def yX6_isWide : MethodName := ⟨RX6, "isWide", "(I)Z"⟩
abbrev cX6_isYear : ByteArray := prog_8_method_7_code
def yX6_isYear : MethodName := ⟨RX6, "isYear", "(I)Z"⟩
abbrev cX6_isShift : ByteArray := prog_8_method_8_code
def yX6_isShift : MethodName := ⟨RX6, "isShift", "(I)Z"⟩
abbrev cX6_isStar : ByteArray := prog_8_method_9_code
def yX6_isStar : MethodName := ⟨RX6, "isStar", "(I)Z"⟩
abbrev cX6_isList : ByteArray := prog_8_method_10_code
def yX6_isList : MethodName := ⟨RX6, "isList", "(I)Z"⟩
abbrev cX6_isLine : ByteArray := prog_8_method_11_code
def yX6_isLine : MethodName := ⟨RX6, "isLine", "(II)Z"⟩
abbrev cX6_star : ByteArray := prog_8_method_12_code
def yX6_star : MethodName := ⟨RX6, "star", "(IIII)I"⟩
abbrev cX6_by : ByteArray := prog_8_method_13_code
def yX6_by : MethodName := ⟨RX6, "by", "(II)I"⟩
abbrev cX6_round : ByteArray := prog_8_method_14_code
def yX6_round : MethodName := ⟨RX6, "round", "(I)I"⟩
abbrev cX6_skyOf : ByteArray := prog_8_method_15_code
def yX6_skyOf : MethodName := ⟨RX6, "skyOf", "(II)I"⟩
abbrev cX6_sky : ByteArray := prog_8_method_16_code
def yX6_sky : MethodName := ⟨RX6, "sky", "(II)I"⟩
abbrev cX6_about : ByteArray := prog_8_method_17_code
def yX6_about : MethodName := ⟨RX6, "about", "(II)I"⟩
abbrev cX6_limit : ByteArray := prog_8_method_18_code
def yX6_limit : MethodName := ⟨RX6, "limit", "(I)I"⟩
abbrev cX6_wayOf : ByteArray := prog_8_method_19_code
def yX6_wayOf : MethodName := ⟨RX6, "wayOf", "(II)I"⟩
abbrev cX6_way : ByteArray := prog_8_method_20_code
def yX6_way : MethodName := ⟨RX6, "way", "(II)I"⟩
abbrev cX6_list : ByteArray := prog_8_method_21_code
def yX6_list : MethodName := ⟨RX6, "list", "()I"⟩
abbrev cX6_line : ByteArray := prog_8_method_22_code
def yX6_line : MethodName := ⟨RX6, "line", "(III)I"⟩
abbrev cX6_written : ByteArray := prog_8_method_23_code
def yX6_written : MethodName := ⟨RX6, "written", "(III)I"⟩
abbrev cX6_mend : ByteArray := prog_8_method_24_code
def yX6_mend : MethodName := ⟨RX6, "mend", "(IIII)I"⟩
abbrev cX6_round_ : ByteArray := prog_8_method_25_code
def yX6_round_ : MethodName := ⟨RX6, "round", "(II)I"⟩
abbrev cX6_tries : ByteArray := prog_8_method_26_code
def yX6_tries : MethodName := ⟨RX6, "tries", "(IIII)V"⟩
abbrev cX6_face : ByteArray := prog_8_method_27_code
def yX6_face : MethodName := ⟨RX6, "face", "(IIIII)V"⟩
abbrev cX6_slip : ByteArray := prog_8_method_28_code
def yX6_slip : MethodName := ⟨RX6, "slip", "(IIIII)I"⟩
abbrev cX6_cost : ByteArray := prog_8_method_29_code
def yX6_cost : MethodName := ⟨RX6, "cost", "(IIIII)I"⟩
abbrev cX6_lay : ByteArray := prog_8_method_30_code
def yX6_lay : MethodName := ⟨RX6, "lay", "(III)I"⟩
abbrev cX6_match : ByteArray := prog_8_method_31_code
def yX6_match : MethodName := ⟨RX6, "match", "(III)V"⟩
abbrev cX6_mayAsk : ByteArray := prog_8_method_32_code
def yX6_mayAsk : MethodName := ⟨RX6, "mayAsk", "(III)I"⟩
abbrev cX6_best : ByteArray := prog_8_method_33_code
def yX6_best : MethodName := ⟨RX6, "best", "(III)I"⟩
abbrev cX6_matched : ByteArray := prog_8_method_34_code
def yX6_matched : MethodName := ⟨RX6, "matched", "(IIII)I"⟩
abbrev cX6_areYears : ByteArray := prog_8_method_35_code
def yX6_areYears : MethodName := ⟨RX6, "areYears", "(II)Z"⟩
abbrev cX6_datedTo : ByteArray := prog_8_method_36_code
def yX6_datedTo : MethodName := ⟨RX6, "datedTo", "(IIII)I"⟩
abbrev cX6_dated : ByteArray := prog_8_method_37_code
def yX6_dated : MethodName := ⟨RX6, "dated", "(IIII)I"⟩
abbrev cX6_doubt : ByteArray := prog_8_method_38_code
def yX6_doubt : MethodName := ⟨RX6, "doubt", "(IIIII)I"⟩
abbrev cX6_shift : ByteArray := prog_8_method_39_code
def yX6_shift : MethodName := ⟨RX6, "shift", "(II)I"⟩
abbrev cX6_layFaults : ByteArray := prog_8_method_40_code
def yX6_layFaults : MethodName := ⟨RX6, "layFaults", "(III)V"⟩
abbrev cX6_fault : ByteArray := prog_8_method_41_code
def yX6_fault : MethodName := ⟨RX6, "fault", "(IIII)I"⟩
abbrev cX6_apartOf : ByteArray := prog_8_method_42_code
def yX6_apartOf : MethodName := ⟨RX6, "apartOf", "(II)I"⟩
abbrev cX6_mayCompare : ByteArray := prog_8_method_43_code
def yX6_mayCompare : MethodName := ⟨RX6, "mayCompare", "(IIII)I"⟩
abbrev cX6_share : ByteArray := prog_8_method_44_code
def yX6_share : MethodName := ⟨RX6, "share", "(IIII)I"⟩
abbrev cX6_apart : ByteArray := prog_8_method_45_code
def yX6_apart : MethodName := ⟨RX6, "apart", "(IIII)I"⟩
abbrev cX6_layTree : ByteArray := prog_8_method_46_code
def yX6_layTree : MethodName := ⟨RX6, "layTree", "(II)I"⟩
abbrev cX6_tree : ByteArray := prog_8_method_47_code
def yX6_tree : MethodName := ⟨RX6, "tree", "(II)I"⟩
abbrev cX6_row : ByteArray := prog_8_method_48_code
def yX6_row : MethodName := ⟨RX6, "row", "(III)I"⟩
abbrev cX6_count : ByteArray := prog_8_method_49_code
def yX6_count : MethodName := ⟨RX6, "count", "(I)I"⟩
def RJ9 : String := "java/lang/Math"
def TJ9 : u_T := fun k => match k with
  | _ => ("", "", "", false)
def tyJ9 : Nat → FieldType := fun k => match k with
  | _ => .int
abbrev wsJ90 : List Cond := u_ws RJ9 TJ9 0
theorem nmJ9 : ∀ a, a < 0 → ∀ b, b < 0 → a ≠ b → (TJ9 a).2.1 ≠ (TJ9 b).2.1 := by decide +kernel
theorem tyJ9_ok : ∀ k, k < 0 → parseFieldDescriptor (TJ9 k).2.2.1 = some (tyJ9 k) := by decide +kernel
abbrev cJ9_floorDiv_7cf53 : ByteArray := prog_9_method_47_code
def yJ9_floorDiv_7cf53 : MethodName := ⟨RJ9, "floorDiv", "(II)I"⟩
abbrev cJ9_floorMod_7cf53 : ByteArray := prog_9_method_50_code
def yJ9_floorMod_7cf53 : MethodName := ⟨RJ9, "floorMod", "(II)I"⟩
abbrev cJ9_abs_0f7a4 : ByteArray := prog_9_method_59_code
def yJ9_abs_0f7a4 : MethodName := ⟨RJ9, "abs", "(I)I"⟩
abbrev cJ9_min_7cf53 : ByteArray := prog_9_method_69_code
def yJ9_min_7cf53 : MethodName := ⟨RJ9, "min", "(II)I"⟩
abbrev cJ9_min_f86c9 : ByteArray := prog_9_method_70_code
def yJ9_min_f86c9 : MethodName := ⟨RJ9, "min", "(JJ)J"⟩
def RJ7 : String := "java/util/Arrays"
def TJ7 : u_T := fun k => match k with
  | _ => ("", "", "", false)
def tyJ7 : Nat → FieldType := fun k => match k with
  | _ => .int
abbrev wsJ70 : List Cond := u_ws RJ7 TJ7 0
theorem nmJ7 : ∀ a, a < 0 → ∀ b, b < 0 → a ≠ b → (TJ7 a).2.1 ≠ (TJ7 b).2.1 := by decide +kernel
theorem tyJ7_ok : ∀ k, k < 0 → parseFieldDescriptor (TJ7 k).2.2.1 = some (tyJ7 k) := by decide +kernel
abbrev cJ7_fill_d0a16 : ByteArray := prog_10_method_101_code
def yJ7_fill_d0a16 : MethodName := ⟨RJ7, "fill", "([JJ)V"⟩
def RL : String := "StarListsLaw"
abbrev cL_law : ByteArray := code
def yL_law : MethodName := ⟨RL, "law", "([I)Z"⟩
abbrev vwCl : List vw_C := [(RX0, TX0, 8), (RX1, TX1, 10), (RX2, TX2, 4), (RX4, TX4, 6), (RX5, TX5, 5), (RX6, TX6, 20)]
end
section
def BIG_0 : List Cond := [Cond.code yX0_init cX0_init 4 none, Cond.methodLink RX0 3 objectInit, Cond.instanceMethod objectInit, Cond.code objectInit ⟨#[0xb1]⟩ 1 none, Cond.arrayClass .int, Cond.fieldLink RX0 9 "StarLists$Copies" "pairs" "[I", Cond.fieldLink RX0 15 "StarLists$Copies" "rows" "I", Cond.fieldLink RX0 19 "StarLists$Copies" "needed" "I", Cond.fieldLink RX0 22 "StarLists$Copies" "faults" "[I", Cond.fieldLink RX0 25 "StarLists$Copies" "groups" "[I", Cond.fieldLink RX0 28 "StarLists$Copies" "stars" "LStarLists$Stars;", Cond.fieldLink RX0 32 "StarLists$Copies" "rolls" "LStarLists$Rolls;", Cond.fieldLink RX0 36 "StarLists$Copies" "pairing" "LStarLists$Pairing;", Cond.code yJ9_floorDiv_7cf53 cJ9_floorDiv_7cf53 3 (some .int), Cond.code yJ9_floorMod_7cf53 cJ9_floorMod_7cf53 3 (some .int), Cond.code yX4_longIn cX4_longIn 5 (some .int), Cond.fieldLink RX4 18 "StarLists$Stars" "motions" "[I", Cond.fieldLink RX4 9 "StarLists$Stars" "longs" "[I", Cond.methodLink RX4 31 yJ9_floorDiv_7cf53, Cond.static yJ9_floorDiv_7cf53, Cond.initialized RJ9, Cond.methodLink RX4 37 yJ9_floorMod_7cf53, Cond.static yJ9_floorMod_7cf53, Cond.code yX1_turnSky cX1_turnSky 4 none, Cond.fieldLink RX1 38 "StarLists$Pairing" "stars" "LStarLists$Stars;", Cond.fieldLink RX1 82 "StarLists$Stars" "size" "I", Cond.fieldLink RX1 22 "StarLists$Pairing" "skyLongs" "[I", Cond.methodLink RX1 87 yX4_longIn, Cond.instanceMethod yX4_longIn, Cond.selects RX4 yX4_longIn yX4_longIn, Cond.initialized RX4, Cond.code yJ7_fill_d0a16 cJ7_fill_d0a16 5 none, Cond.code yX4_counts cX4_counts 2 (some .boolean), Cond.fieldLink RX4 21 "StarLists$Stars" "lights" "[I", Cond.fieldLink RX4 28 "StarLists$Stars" "faintest" "I", Cond.code yX2_longOf cX2_longOf 3 (some .int), Cond.fieldLink RX2 19 "StarLists$Rolls" "longs" "[I", Cond.code yX5_leads cX5_leads 2 (some .int), Cond.methodLink RX5 199 yJ9_floorMod_7cf53, Cond.code yX2_wideOf cX2_wideOf 3 (some .int), Cond.fieldLink RX2 22 "StarLists$Rolls" "wides" "[I", Cond.code yX3_lesser cX3_lesser 6 (some .int), Cond.code yX3_rank cX3_rank 7 (some .int), Cond.methodLink RX3 7 Lib.Math.abs.name, Cond.static Lib.Math.abs.name, Cond.initialized "java/lang/Math", Cond.code Lib.Math.abs.name Lib.Math.abs.code 1 (some .int), Cond.constant RX3 15 (1048576), Cond.methodLink RX3 16 yX3_lesser, Cond.static yX3_lesser, Cond.initialized RX3, Cond.fieldLink RX1 42 "StarLists$Pairing" "rolls" "LStarLists$Rolls;", Cond.fieldLink RX1 99 "StarLists$Stars" "wides" "[I", Cond.methodLink RX1 90 yX2_longOf, Cond.instanceMethod yX2_longOf, Cond.selects RX2 yX2_longOf yX2_longOf, Cond.initialized RX2, Cond.static yX5_leads, Cond.initialized RX5, Cond.methodLink RX1 96 yX2_wideOf]
def BIG_1 : List Cond := [Cond.instanceMethod yX2_wideOf, Cond.selects RX2 yX2_wideOf yX2_wideOf, Cond.methodLink RX1 102 yX3_rank, Cond.static yX3_rank, Cond.code yX1_turnedRank cX1_turnedRank 5 (some .int), Cond.code yX3_costOf cX3_costOf 1 (some .int), Cond.code yX1_digitPlace cX1_digitPlace 1 (some .int), Cond.code yX1_keyPart cX1_keyPart 3 (some .long), Cond.methodLink RX1 120 yX1_digitPlace, Cond.static yX1_digitPlace, Cond.initialized RX1, Cond.fieldLink RX1 35 "StarLists$Pairing" "fits" "I", Cond.constant RX1 111 (1048576), Cond.fieldLink RX1 29 "StarLists$Pairing" "fitBits" "[I", Cond.fieldLink RX1 32 "StarLists$Pairing" "fitKeys" "[J", Cond.methodLink RX1 107 yX4_counts, Cond.instanceMethod yX4_counts, Cond.selects RX4 yX4_counts yX4_counts, Cond.methodLink RX1 50 yX1_turnedRank, Cond.instanceMethod yX1_turnedRank, Cond.selects RX1 yX1_turnedRank yX1_turnedRank, Cond.methodLink RX1 112 yX3_costOf, Cond.static yX3_costOf, Cond.methodLink RX1 116 yX1_keyPart, Cond.static yX1_keyPart, Cond.code yX1_gatherFits cX1_gatherFits 6 (some .int), Cond.code yX1_takeLine cX1_takeLine 9 none, Cond.fieldLink RX1 25 "StarLists$Pairing" "keys" "[J", Cond.methodLink RX1 123 Lib.MathLoose.min_long.x, Cond.static Lib.MathLoose.min_long.x, Cond.code Lib.MathLoose.min_long.x Lib.MathLoose.min_long.code 4 (some .long), Cond.code yX1_leastKey cX1_leastKey 5 (some .long), Cond.code yX1_readKey cX1_readKey 6 none, Cond.fieldLink RX1 18 "StarLists$Pairing" "total" "I", Cond.fieldLink RX1 11 "StarLists$Pairing" "starOf" "[I", Cond.constantLong RX1 54 (1152921504606846976), Cond.fieldLink RX1 62 "StarLists$Rolls" "lines" "[I", Cond.methodLink RX1 46 yX1_turnSky, Cond.instanceMethod yX1_turnSky, Cond.selects RX1 yX1_turnSky yX1_turnSky, Cond.methodLink RX1 56 yJ7_fill_d0a16, Cond.static yJ7_fill_d0a16, Cond.initialized RJ7, Cond.methodLink RX1 67 yX1_gatherFits, Cond.instanceMethod yX1_gatherFits, Cond.selects RX1 yX1_gatherFits yX1_gatherFits, Cond.methodLink RX1 71 yX1_takeLine, Cond.instanceMethod yX1_takeLine, Cond.selects RX1 yX1_takeLine yX1_takeLine, Cond.methodLink RX1 74 yX1_leastKey, Cond.instanceMethod yX1_leastKey, Cond.selects RX1 yX1_leastKey yX1_leastKey, Cond.methodLink RX1 78 yX1_readKey, Cond.instanceMethod yX1_readKey, Cond.selects RX1 yX1_readKey yX1_readKey, Cond.code yX1_find cX1_find 6 none, Cond.code yX3_kindOf cX3_kindOf 1 (some .int), Cond.fieldLink RX0 48 "StarLists$Rolls" "lines" "[I", Cond.fieldLink RX0 53 "StarLists$Pairing" "starOf" "[I", Cond.methodLink RX0 42 yX1_find]
def BIG_2 : List Cond := [Cond.instanceMethod yX1_find, Cond.selects RX1 yX1_find yX1_find, Cond.methodLink RX0 56 yX1_turnedRank, Cond.methodLink RX0 60 yX3_kindOf, Cond.static yX3_kindOf, Cond.code yX0_note cX0_note 6 none, Cond.code yX0_faultOf cX0_faultOf 3 (some .int), Cond.code yX0_inBoth cX0_inBoth 6 (some .int), Cond.fieldLink RX0 64 "StarLists$Stars" "size" "I", Cond.methodLink RX0 69 yX0_faultOf, Cond.instanceMethod yX0_faultOf, Cond.selects RX0 yX0_faultOf yX0_faultOf, Cond.initialized RX0, Cond.code yX0_unlike cX0_unlike 5 (some .int), Cond.code yX0_join cX0_join 4 none, Cond.fieldLink RX0 73 "StarLists$Rolls" "size" "I", Cond.code yX0_addRow cX0_addRow 7 none, Cond.methodLink RX0 80 yX0_unlike, Cond.instanceMethod yX0_unlike, Cond.selects RX0 yX0_unlike yX0_unlike, Cond.methodLink RX0 83 yX0_join, Cond.instanceMethod yX0_join, Cond.selects RX0 yX0_join yX0_join, Cond.methodLink RX0 74 yX0_note, Cond.instanceMethod yX0_note, Cond.selects RX0 yX0_note yX0_note, Cond.methodLink RX0 77 yX0_addRow, Cond.instanceMethod yX0_addRow, Cond.selects RX0 yX0_addRow yX0_addRow, Cond.code yX0_grow cX0_grow 4 none, Cond.code yX1_init cX1_init 3 none, Cond.methodLink RX1 5 objectInit, Cond.fieldLink RX1 15 "StarLists$Pairing" "ways" "[I", Cond.arrayClass .long, Cond.code yX1_rankOf cX1_rankOf 6 (some .int), Cond.code yX1_insertWay cX1_insertWay 4 none, Cond.methodLink RX1 129 yX3_kindOf, Cond.methodLink RX1 132 yX1_insertWay, Cond.instanceMethod yX1_insertWay, Cond.selects RX1 yX1_insertWay yX1_insertWay, Cond.code yX1_sortPlainWays cX1_sortPlainWays 5 (some .int), Cond.code yX2_init cX2_init 1 none, Cond.methodLink RX2 3 objectInit, Cond.fieldLink RX2 9 "StarLists$Rolls" "lines" "[I", Cond.fieldLink RX2 15 "StarLists$Rolls" "size" "I", Cond.code yX2_has cX2_has 2 (some .boolean), Cond.code yX2_hasLine cX2_hasLine 3 (some .boolean), Cond.methodLink RX2 25 yX2_has, Cond.instanceMethod yX2_has, Cond.selects RX2 yX2_has yX2_has, Cond.code yX2_open cX2_open 1 (some .int), Cond.code yX2_write cX2_write 5 none, Cond.code yX2_add cX2_add 5 (some .int), Cond.methodLink RX2 29 yX2_write, Cond.instanceMethod yX2_write, Cond.selects RX2 yX2_write yX2_write, Cond.code yX2_allLines cX2_allLines 3 (some .int), Cond.code yX4_init cX4_init 1 none, Cond.methodLink RX4 3 objectInit, Cond.fieldLink RX4 15 "StarLists$Stars" "wides" "[I"]
def BIG_3 : List Cond := [Cond.fieldLink RX4 24 "StarLists$Stars" "size" "I", Cond.code yX4_has cX4_has 2 (some .boolean), Cond.code yX4_add cX4_add 5 (some .int), Cond.code yX4_bright cX4_bright 3 (some .int), Cond.methodLink RX4 40 yX4_counts, Cond.methodLink RX5 1 objectInit, Cond.classLink RX5 7 RX4, Cond.instantiable RX4 6, Cond.fieldLink RX5 10 "StarLists" "stars" "LStarLists$Stars;", Cond.classLink RX5 16 RX2, Cond.instantiable RX2 4, Cond.fieldLink RX5 19 "StarLists" "rolls" "LStarLists$Rolls;", Cond.classLink RX5 23 RX1, Cond.instantiable RX1 10, Cond.fieldLink RX5 28 "StarLists" "pairing" "LStarLists$Pairing;", Cond.classLink RX5 32 RX0, Cond.instantiable RX0 8, Cond.fieldLink RX5 37 "StarLists" "copies" "LStarLists$Copies;", Cond.fieldLink RX5 41 "StarLists" "yearCosts" "[I", Cond.instanceMethod yX4_init, Cond.instanceMethod yX2_init, Cond.methodLink RX5 25 yX1_init, Cond.instanceMethod yX1_init, Cond.methodLink RX5 34 yX0_init, Cond.instanceMethod yX0_init, Cond.code yX5_init cX5_init 1 none, Cond.code yX5_isWithin cX5_isWithin 3 (some .boolean), Cond.code yX5_isLong cX5_isLong 1 (some .boolean), Cond.methodLink RX5 49 yX5_isWithin, Cond.static yX5_isWithin, Cond.code yX5_isPlace cX5_isPlace 2 (some .boolean), Cond.methodLink RX5 87 yX5_isLong, Cond.static yX5_isLong, Cond.code yX5_star cX5_star 5 (some .int), Cond.fieldLink RX5 53 "StarLists$Stars" "size" "I", Cond.methodLink RX5 45 yX5_isPlace, Cond.static yX5_isPlace, Cond.methodLink RX5 57 yX4_add, Cond.instanceMethod yX4_add, Cond.selects RX4 yX4_add yX4_add, Cond.code yX5_isYear cX5_isYear 1 (some .boolean), Cond.methodLink RX5 61 yX4_has, Cond.instanceMethod yX4_has, Cond.selects RX4 yX4_has yX4_has, Cond.methodLink RX5 65 yX5_isYear, Cond.static yX5_isYear, Cond.methodLink RX5 68 yX4_longIn, Cond.code yX5_sky cX5_sky 3 (some .int), Cond.code yX5_about cX5_about 3 (some .int), Cond.fieldLink RX5 72 "StarLists$Stars" "longs" "[I", Cond.fieldLink RX5 75 "StarLists$Stars" "motions" "[I", Cond.fieldLink RX5 78 "StarLists$Stars" "lights" "[I", Cond.fieldLink RX5 81 "StarLists$Stars" "wides" "[I", Cond.code yX5_limit cX5_limit 3 (some .int), Cond.fieldLink RX5 84 "StarLists$Stars" "faintest" "I", Cond.code yX5_way cX5_way 3 (some .int), Cond.methodLink RX5 90 yX5_leads, Cond.code yX5_list cX5_list 1 (some .int), Cond.fieldLink RX5 93 "StarLists$Rolls" "size" "I", Cond.methodLink RX5 94 yX2_open]
def BIG_4 : List Cond := [Cond.instanceMethod yX2_open, Cond.selects RX2 yX2_open yX2_open, Cond.fieldLink RX5 99 "StarLists$Rolls" "lines" "[I", Cond.methodLink RX5 98 yX2_has, Cond.methodLink RX5 102 yX2_add, Cond.instanceMethod yX2_add, Cond.selects RX2 yX2_add yX2_add, Cond.code yX5_line cX5_line 4 (some .int), Cond.code yX5_written cX5_written 4 (some .int), Cond.methodLink RX5 105 yX2_hasLine, Cond.instanceMethod yX2_hasLine, Cond.selects RX2 yX2_hasLine yX2_hasLine, Cond.methodLink RX5 108 yX2_longOf, Cond.methodLink RX5 111 yX2_wideOf, Cond.methodLink RX5 114 yX2_write, Cond.code yX5_mend cX5_mend 6 (some .int), Cond.code yX5_round cX5_round 5 (some .int), Cond.code yX5_isShift cX5_isShift 1 (some .boolean), Cond.code yX5_isMoment cX5_isMoment 2 (some .boolean), Cond.methodLink RX5 193 yX5_isShift, Cond.static yX5_isShift, Cond.constant RX5 127 (1048576), Cond.methodLink RX5 118 yX5_isMoment, Cond.static yX5_isMoment, Cond.methodLink RX5 121 yX1_rankOf, Cond.instanceMethod yX1_rankOf, Cond.selects RX1 yX1_rankOf yX1_rankOf, Cond.methodLink RX5 128 yX3_kindOf, Cond.code yX5_slip cX5_slip 7 (some .int), Cond.methodLink RX5 132 yX3_costOf, Cond.code yX5_cost cX5_cost 7 (some .int), Cond.fieldLink RX5 139 "StarLists$Pairing" "total" "I", Cond.methodLink RX5 135 yX1_find, Cond.code yX5_best cX5_best 4 (some .int), Cond.fieldLink RX5 142 "StarLists$Pairing" "starOf" "[I", Cond.code yX5_matched cX5_matched 5 (some .int), Cond.code yX5_yearsBetween cX5_yearsBetween 2 (some .int), Cond.code yX5_areYears cX5_areYears 3 (some .boolean), Cond.methodLink RX5 196 yX5_yearsBetween, Cond.static yX5_yearsBetween, Cond.methodLink RX5 151 Lib.Math.min.name, Cond.static Lib.Math.min.name, Cond.code Lib.Math.min.name Lib.Math.min.code 2 (some .int), Cond.code yX5_weighYears cX5_weighYears 7 (some .int), Cond.methodLink RX5 145 yX5_areYears, Cond.static yX5_areYears, Cond.methodLink RX5 148 yX5_weighYears, Cond.instanceMethod yX5_weighYears, Cond.selects RX5 yX5_weighYears yX5_weighYears, Cond.code yX5_dated cX5_dated 8 (some .int), Cond.code yX5_doubt cX5_doubt 10 (some .int), Cond.fieldLink RX5 159 "StarLists$Pairing" "ways" "[I", Cond.methodLink RX5 156 yX1_sortPlainWays, Cond.instanceMethod yX1_sortPlainWays, Cond.selects RX1 yX1_sortPlainWays yX1_sortPlainWays, Cond.code yX5_shift cX5_shift 4 (some .int), Cond.methodLink RX5 162 yX0_note, Cond.methodLink RX5 165 yX0_faultOf, Cond.code yX5_fault cX5_fault 5 (some .int), Cond.methodLink RX5 168 yX0_inBoth]
def BIG_5 : List Cond := [Cond.instanceMethod yX0_inBoth, Cond.selects RX0 yX0_inBoth yX0_inBoth, Cond.code yX5_share cX5_share 5 (some .int), Cond.methodLink RX5 171 yX0_unlike, Cond.code yX5_apart cX5_apart 5 (some .int), Cond.fieldLink RX5 178 "StarLists$Copies" "needed" "I", Cond.methodLink RX5 174 yX0_grow, Cond.instanceMethod yX0_grow, Cond.selects RX0 yX0_grow yX0_grow, Cond.code yX5_tree cX5_tree 3 (some .int), Cond.fieldLink RX5 181 "StarLists$Copies" "rows" "I", Cond.fieldLink RX5 184 "StarLists$Copies" "pairs" "[I", Cond.code yX5_row cX5_row 4 (some .int), Cond.code yX5_count cX5_count 2 (some .int), Cond.methodLink RX5 187 yX2_allLines, Cond.instanceMethod yX2_allLines, Cond.selects RX2 yX2_allLines yX2_allLines, Cond.methodLink RX5 190 yX4_bright, Cond.instanceMethod yX4_bright, Cond.selects RX4 yX4_bright yX4_bright, Cond.code yX6_init cX6_init 1 none, Cond.methodLink RX6 1 objectInit, Cond.fieldLink RX6 7 "StarListsModel" "longs" "[I", Cond.fieldLink RX6 13 "StarListsModel" "wides" "[I", Cond.fieldLink RX6 16 "StarListsModel" "motions" "[I", Cond.fieldLink RX6 19 "StarListsModel" "lights" "[I", Cond.fieldLink RX6 22 "StarListsModel" "limit" "I", Cond.fieldLink RX6 26 "StarListsModel" "lines" "[I", Cond.fieldLink RX6 29 "StarListsModel" "lineLong" "[I", Cond.fieldLink RX6 32 "StarListsModel" "lineWide" "[I", Cond.fieldLink RX6 35 "StarListsModel" "rest" "[I", Cond.fieldLink RX6 38 "StarListsModel" "pairCost" "[I", Cond.fieldLink RX6 41 "StarListsModel" "pairSlip" "[I", Cond.fieldLink RX6 44 "StarListsModel" "starOf" "[I", Cond.fieldLink RX6 47 "StarListsModel" "ways" "[I", Cond.fieldLink RX6 50 "StarListsModel" "faults" "[I", Cond.fieldLink RX6 53 "StarListsModel" "part" "[I", Cond.fieldLink RX6 56 "StarListsModel" "rows" "[I", Cond.code yX6_in cX6_in 3 (some .boolean), Cond.code yX6_size cX6_size 1 (some .int), Cond.code yX6_isLong cX6_isLong 1 (some .boolean), Cond.methodLink RX6 59 yX6_in, Cond.static yX6_in, Cond.initialized RX6, Cond.code yX6_isWide cX6_isWide 1 (some .boolean), Cond.code yX6_isYear cX6_isYear 1 (some .boolean), Cond.code yX6_isShift cX6_isShift 1 (some .boolean), Cond.code yX6_isStar cX6_isStar 2 (some .boolean), Cond.fieldLink RX6 63 "StarListsModel" "stars" "I", Cond.code yX6_isList cX6_isList 2 (some .boolean), Cond.fieldLink RX6 66 "StarListsModel" "lists" "I", Cond.code yX6_isLine cX6_isLine 3 (some .boolean), Cond.methodLink RX6 69 yX6_isList, Cond.instanceMethod yX6_isList, Cond.selects RX6 yX6_isList yX6_isList, Cond.code yX6_star cX6_star 5 (some .int), Cond.methodLink RX6 73 yX6_isLong, Cond.static yX6_isLong, Cond.methodLink RX6 76 yX6_isWide, Cond.static yX6_isWide]
def BIG_6 : List Cond := [Cond.code yX6_by cX6_by 3 (some .int), Cond.code yX6_round cX6_round 1 (some .int), Cond.code yX6_skyOf cX6_skyOf 3 (some .int), Cond.methodLink RX6 79 yX6_by, Cond.static yX6_by, Cond.methodLink RX6 83 yX6_round, Cond.static yX6_round, Cond.code yX6_sky cX6_sky 3 (some .int), Cond.methodLink RX6 87 yX6_isStar, Cond.instanceMethod yX6_isStar, Cond.selects RX6 yX6_isStar yX6_isStar, Cond.methodLink RX6 90 yX6_isYear, Cond.static yX6_isYear, Cond.methodLink RX6 93 yX6_skyOf, Cond.instanceMethod yX6_skyOf, Cond.selects RX6 yX6_skyOf yX6_skyOf, Cond.code yX6_about cX6_about 3 (some .int), Cond.code yX6_limit cX6_limit 3 (some .int), Cond.code yX6_wayOf cX6_wayOf 2 (some .int), Cond.code yX6_way cX6_way 3 (some .int), Cond.methodLink RX6 96 yX6_wayOf, Cond.static yX6_wayOf, Cond.code yX6_list cX6_list 1 (some .int), Cond.code yX6_line cX6_line 4 (some .int), Cond.code yX6_written cX6_written 4 (some .int), Cond.methodLink RX6 99 yX6_isLine, Cond.instanceMethod yX6_isLine, Cond.selects RX6 yX6_isLine yX6_isLine, Cond.code yX6_mend cX6_mend 6 (some .int), Cond.code yX6_round_ cX6_round_ 5 (some .int), Cond.code yX6_tries cX6_tries 6 none, Cond.fieldLink RX6 106 "StarListsModel" "foundCost" "I", Cond.fieldLink RX6 109 "StarListsModel" "foundSlip" "I", Cond.methodLink RX6 103 yX6_size, Cond.static yX6_size, Cond.constant RX6 112 (100000), Cond.methodLink RX6 113 yX6_tries, Cond.instanceMethod yX6_tries, Cond.selects RX6 yX6_tries yX6_tries, Cond.code yX6_face cX6_face 10 none, Cond.methodLink RX6 117 yX6_isShift, Cond.static yX6_isShift, Cond.methodLink RX6 120 yX6_face, Cond.instanceMethod yX6_face, Cond.selects RX6 yX6_face yX6_face, Cond.code yX6_slip cX6_slip 6 (some .int), Cond.code yX6_cost cX6_cost 6 (some .int), Cond.code yX6_lay cX6_lay 10 (some .int), Cond.methodLink RX6 124 yX6_lay, Cond.instanceMethod yX6_lay, Cond.selects RX6 yX6_lay yX6_lay, Cond.code yX6_match cX6_match 9 none, Cond.code yX6_mayAsk cX6_mayAsk 4 (some .int), Cond.methodLink RX6 128 yX6_mayAsk, Cond.instanceMethod yX6_mayAsk, Cond.selects RX6 yX6_mayAsk yX6_mayAsk, Cond.code yX6_best cX6_best 5 (some .int), Cond.methodLink RX6 131 yX6_match, Cond.instanceMethod yX6_match, Cond.selects RX6 yX6_match yX6_match]
def BIG_7 : List Cond := [Cond.code yX6_matched cX6_matched 5 (some .int), Cond.code yX6_areYears cX6_areYears 2 (some .boolean), Cond.code yX6_datedTo cX6_datedTo 9 (some .int), Cond.methodLink RX6 135 yX6_areYears, Cond.static yX6_areYears, Cond.methodLink RX6 138 yX6_datedTo, Cond.instanceMethod yX6_datedTo, Cond.selects RX6 yX6_datedTo yX6_datedTo, Cond.code yX6_dated cX6_dated 5 (some .int), Cond.code yX6_doubt cX6_doubt 9 (some .int), Cond.code yX6_shift cX6_shift 7 (some .int), Cond.code yX6_layFaults cX6_layFaults 5 none, Cond.methodLink RX6 142 yX6_layFaults, Cond.instanceMethod yX6_layFaults, Cond.selects RX6 yX6_layFaults yX6_layFaults, Cond.code yX6_fault cX6_fault 5 (some .int), Cond.code yX6_apartOf cX6_apartOf 5 (some .int), Cond.code yX6_mayCompare cX6_mayCompare 5 (some .int), Cond.methodLink RX6 145 yX6_mayCompare, Cond.instanceMethod yX6_mayCompare, Cond.selects RX6 yX6_mayCompare yX6_mayCompare, Cond.code yX6_share cX6_share 8 (some .int), Cond.methodLink RX6 148 yX6_apartOf, Cond.instanceMethod yX6_apartOf, Cond.selects RX6 yX6_apartOf yX6_apartOf, Cond.code yX6_apart cX6_apart 6 (some .int), Cond.code yX6_layTree cX6_layTree 9 (some .int), Cond.methodLink RX6 151 yX6_layTree, Cond.instanceMethod yX6_layTree, Cond.selects RX6 yX6_layTree yX6_layTree, Cond.code yX6_tree cX6_tree 3 (some .int), Cond.code yX6_row cX6_row 5 (some .int), Cond.code yX6_count cX6_count 5 (some .int), Cond.code yJ9_abs_0f7a4 cJ9_abs_0f7a4 1 (some .int), Cond.code yJ9_min_7cf53 cJ9_min_7cf53 2 (some .int), Cond.code yJ9_min_f86c9 cJ9_min_f86c9 4 (some .long), Cond.classLink RL 7 RX5, Cond.instantiable RX5 5, Cond.classLink RL 10 RX6, Cond.instantiable RX6 20, Cond.methodLink RL 9 yX5_init, Cond.instanceMethod yX5_init, Cond.methodLink RL 12 yX6_init, Cond.instanceMethod yX6_init, Cond.methodLink RL 13 yX5_star, Cond.instanceMethod yX5_star, Cond.selects RX5 yX5_star yX5_star, Cond.methodLink RL 17 yX6_star, Cond.instanceMethod yX6_star, Cond.selects RX6 yX6_star yX6_star, Cond.methodLink RL 18 yX5_sky, Cond.instanceMethod yX5_sky, Cond.selects RX5 yX5_sky yX5_sky, Cond.methodLink RL 22 yX6_sky, Cond.instanceMethod yX6_sky, Cond.selects RX6 yX6_sky yX6_sky, Cond.methodLink RL 23 yX5_about, Cond.instanceMethod yX5_about, Cond.selects RX5 yX5_about yX5_about, Cond.methodLink RL 26 yX6_about]
def BIG_8 : List Cond := [Cond.instanceMethod yX6_about, Cond.selects RX6 yX6_about yX6_about, Cond.methodLink RL 27 yX5_limit, Cond.instanceMethod yX5_limit, Cond.selects RX5 yX5_limit yX5_limit, Cond.methodLink RL 31 yX6_limit, Cond.instanceMethod yX6_limit, Cond.selects RX6 yX6_limit yX6_limit, Cond.methodLink RL 32 yX5_way, Cond.instanceMethod yX5_way, Cond.selects RX5 yX5_way yX5_way, Cond.methodLink RL 35 yX6_way, Cond.instanceMethod yX6_way, Cond.selects RX6 yX6_way yX6_way, Cond.methodLink RL 36 yX5_list, Cond.instanceMethod yX5_list, Cond.selects RX5 yX5_list yX5_list, Cond.methodLink RL 40 yX6_list, Cond.instanceMethod yX6_list, Cond.selects RX6 yX6_list yX6_list, Cond.methodLink RL 41 yX5_line, Cond.instanceMethod yX5_line, Cond.selects RX5 yX5_line yX5_line, Cond.methodLink RL 45 yX6_line, Cond.instanceMethod yX6_line, Cond.selects RX6 yX6_line yX6_line, Cond.methodLink RL 46 yX5_written, Cond.instanceMethod yX5_written, Cond.selects RX5 yX5_written yX5_written, Cond.methodLink RL 49 yX6_written, Cond.instanceMethod yX6_written, Cond.selects RX6 yX6_written yX6_written, Cond.methodLink RL 50 yX5_mend, Cond.instanceMethod yX5_mend, Cond.selects RX5 yX5_mend yX5_mend, Cond.methodLink RL 53 yX6_mend, Cond.instanceMethod yX6_mend, Cond.selects RX6 yX6_mend yX6_mend, Cond.methodLink RL 54 yX5_round, Cond.instanceMethod yX5_round, Cond.selects RX5 yX5_round yX5_round, Cond.methodLink RL 57 yX6_round_, Cond.instanceMethod yX6_round_, Cond.selects RX6 yX6_round_ yX6_round_, Cond.methodLink RL 58 yX5_slip, Cond.instanceMethod yX5_slip, Cond.selects RX5 yX5_slip yX5_slip, Cond.methodLink RL 62 yX6_slip, Cond.instanceMethod yX6_slip, Cond.selects RX6 yX6_slip yX6_slip, Cond.methodLink RL 63 yX5_cost, Cond.instanceMethod yX5_cost, Cond.selects RX5 yX5_cost yX5_cost, Cond.methodLink RL 66 yX6_cost, Cond.instanceMethod yX6_cost, Cond.selects RX6 yX6_cost yX6_cost, Cond.methodLink RL 67 yX5_best, Cond.instanceMethod yX5_best, Cond.selects RX5 yX5_best yX5_best, Cond.methodLink RL 70 yX6_best]
def BIG_9 : List Cond := [Cond.instanceMethod yX6_best, Cond.selects RX6 yX6_best yX6_best, Cond.methodLink RL 71 yX5_matched, Cond.instanceMethod yX5_matched, Cond.selects RX5 yX5_matched yX5_matched, Cond.methodLink RL 74 yX6_matched, Cond.instanceMethod yX6_matched, Cond.selects RX6 yX6_matched yX6_matched, Cond.methodLink RL 75 yX5_dated, Cond.instanceMethod yX5_dated, Cond.selects RX5 yX5_dated yX5_dated, Cond.methodLink RL 78 yX6_dated, Cond.instanceMethod yX6_dated, Cond.selects RX6 yX6_dated yX6_dated, Cond.methodLink RL 79 yX5_doubt, Cond.instanceMethod yX5_doubt, Cond.selects RX5 yX5_doubt yX5_doubt, Cond.methodLink RL 82 yX6_doubt, Cond.instanceMethod yX6_doubt, Cond.selects RX6 yX6_doubt yX6_doubt, Cond.methodLink RL 83 yX5_shift, Cond.instanceMethod yX5_shift, Cond.selects RX5 yX5_shift yX5_shift, Cond.methodLink RL 86 yX6_shift, Cond.instanceMethod yX6_shift, Cond.selects RX6 yX6_shift yX6_shift, Cond.methodLink RL 87 yX5_fault, Cond.instanceMethod yX5_fault, Cond.selects RX5 yX5_fault yX5_fault, Cond.methodLink RL 90 yX6_fault, Cond.instanceMethod yX6_fault, Cond.selects RX6 yX6_fault yX6_fault, Cond.methodLink RL 91 yX5_share, Cond.instanceMethod yX5_share, Cond.selects RX5 yX5_share yX5_share, Cond.methodLink RL 94 yX6_share, Cond.instanceMethod yX6_share, Cond.selects RX6 yX6_share yX6_share, Cond.methodLink RL 95 yX5_apart, Cond.instanceMethod yX5_apart, Cond.selects RX5 yX5_apart yX5_apart, Cond.methodLink RL 98 yX6_apart, Cond.instanceMethod yX6_apart, Cond.selects RX6 yX6_apart yX6_apart, Cond.methodLink RL 99 yX5_tree, Cond.instanceMethod yX5_tree, Cond.selects RX5 yX5_tree yX5_tree, Cond.methodLink RL 102 yX6_tree, Cond.instanceMethod yX6_tree, Cond.selects RX6 yX6_tree yX6_tree, Cond.methodLink RL 103 yX5_row, Cond.instanceMethod yX5_row, Cond.selects RX5 yX5_row yX5_row, Cond.methodLink RL 106 yX6_row, Cond.instanceMethod yX6_row, Cond.selects RX6 yX6_row yX6_row, Cond.methodLink RL 107 yX5_count, Cond.instanceMethod yX5_count, Cond.selects RX5 yX5_count yX5_count, Cond.methodLink RL 110 yX6_count]
def BIG_10 : List Cond := [Cond.instanceMethod yX6_count, Cond.selects RX6 yX6_count yX6_count]
def BIG : List Cond := BIG_0 ++ (BIG_1 ++ (BIG_2 ++ (BIG_3 ++ (BIG_4 ++ (BIG_5 ++ (BIG_6 ++ (BIG_7 ++ (BIG_8 ++ (BIG_9 ++ (BIG_10))))))))))
abbrev UWX0 : List Cond := u_ws RX0 TX0 8
abbrev UWX1 : List Cond := u_ws RX1 TX1 10
abbrev UWX2 : List Cond := u_ws RX2 TX2 4
abbrev UWX4 : List Cond := u_ws RX4 TX4 6
abbrev UWX5 : List Cond := u_ws RX5 TX5 5
abbrev UWX6 : List Cond := u_ws RX6 TX6 20
def BIGU : List Cond := UWX0 ++ (UWX1 ++ (UWX2 ++ (UWX4 ++ (UWX5 ++ UWX6))))
def ALLW : List Cond := BIGU ++ BIG
end
section
/-! numbers: an Int32 (Int64) by its Int -/
def iI (z : Int) : Int32 := Int32.ofInt z
def lI (z : Int) : Int64 := Int64.ofInt z
abbrev InI (z : Int) : Prop := -2147483648 ≤ z ∧ z ≤ 2147483647
abbrev InL (z : Int) : Prop := -9223372036854775808 ≤ z ∧ z ≤ 9223372036854775807
abbrev vI (z : Int) : Value := .int (iI z)
abbrev vL (z : Int) : Value := .long (lI z)
theorem iI_t {z : Int} (h : InI z) : (iI z).toInt = z := Int32.toInt_ofInt_of_le (by omega) (by omega)
theorem lI_t {z : Int} (h : InL z) : (lI z).toInt = z := Int64.toInt_ofInt_of_le (by omega) (by omega)
theorem iI_x (x : Int32) : iI x.toInt = x := Int32.ofInt_toInt x
theorem iI_rng (x : Int32) : InI x.toInt := ⟨Int32.le_toInt x, by have := Int32.toInt_lt x; omega⟩
theorem iI_add (a b : Int) : iI a + iI b = iI (a + b) := (Int32.ofInt_add a b).symm
theorem iI_sub (a b : Int) : iI a - iI b = iI (a - b) := (Int32.ofInt_sub a b).symm
theorem iI_mul (a b : Int) : iI a * iI b = iI (a * b) := (Int32.ofInt_mul a b).symm
theorem iI_neg (a : Int) : -iI a = iI (-a) := (Int32.ofInt_neg a).symm
theorem lI_add (a b : Int) : lI a + lI b = lI (a + b) := (Int64.ofInt_add a b).symm
theorem iI_le {a b : Int} (ha : InI a) (hb : InI b) : iI a ≤ iI b ↔ a ≤ b := by
  rw [Int32.le_iff_toInt_le, iI_t ha, iI_t hb]
theorem iI_lt {a b : Int} (ha : InI a) (hb : InI b) : iI a < iI b ↔ a < b := by
  rw [Int32.lt_iff_toInt_lt, iI_t ha, iI_t hb]
theorem iI_eq {a b : Int} (ha : InI a) (hb : InI b) : iI a = iI b ↔ a = b :=
  ⟨fun h => by have := congrArg Int32.toInt h; rwa [iI_t ha, iI_t hb] at this, fun h => by rw [h]⟩
theorem lI_le {a b : Int} (ha : InL a) (hb : InL b) : lI a ≤ lI b ↔ a ≤ b := by
  rw [Int64.le_iff_toInt_le, lI_t ha, lI_t hb]
theorem lI_lt {a b : Int} (ha : InL a) (hb : InL b) : lI a < lI b ↔ a < b := by
  rw [Int64.lt_iff_toInt_lt, lI_t ha, lI_t hb]
theorem lI_eq {a b : Int} (ha : InL a) (hb : InL b) : lI a = lI b ↔ a = b :=
  ⟨fun h => by have := congrArg Int64.toInt h; rwa [lI_t ha, lI_t hb] at this, fun h => by rw [h]⟩
theorem iI_div {a b : Int} (ha : InI a) (hb : InI b) : iI a / iI b = iI (a.tdiv b) := by
  apply Int32.toInt_inj.mp
  rw [Int32.toInt_div, iI_t ha, iI_t hb, iI, Int32.toInt_ofInt]
theorem iI_rem {a b : Int} (ha : InI a) (hb : InI b) : iI a - iI a / iI b * iI b = iI (a.tmod b) := by
  rw [iI_div ha hb, iI_mul, iI_sub, Int.tmod_def, Int.mul_comm]
theorem iI_cl {z : Int} (h : InI z) (h0 : 0 ≤ z) : (((iI z).toNatClampNeg : Nat) : Int) = z := by
  rw [Int32.toNatClampNeg, iI_t h]; omega
theorem iI_in {z : Int} {n : Nat} (hn : n < 2147483648) (h0 : 0 ≤ z) (h1 : z < n) : vp_in (iI z) n :=
  vp_in_iff.mpr (by rw [iI_t ⟨by omega, by omega⟩]; exact ⟨h0, h1⟩)
theorem iI_nat (n : Nat) : Int32.ofNat n = iI (n : Int) := (Int32.ofInt_eq_ofNat (n := n)).symm
theorem iI_0 : iI 0 = 0 := rfl
/-! worlds of a fixed shape: objects whose references never change, arrays of a fixed length -/
abbrev pw_H : Type := Nat → Int → Int
abbrev pw_C : Type := (Nat × List (Option Nat)) ⊕ (Bool × Nat)
abbrev pw_S : Type := List pw_C
abbrev pw_G : Type := va_G × (Nat → Nat) × ClassId × ClassId
def pw_f (ad : Nat → Nat) (f : Int → Int) (j : Nat) (r : Option Nat) : Value := match r with
  | none => .int (iI (f (j : Int)))
  | some k => .ref (ad k)
def pw_e (G : pw_G) (f : Int → Int) (x : pw_C) : va_E := match x with
  | .inl o => .inr (o.1, o.2.mapIdx (pw_f G.2.1 f))
  | .inr (false, n) => .inl (G.2.2.1, n, .inl (fun j => iI (f (j : Int))))
  | .inr (true, n) => .inl (G.2.2.2, n, .inr (.inl (fun j => lI (f (j : Int)))))
def pw_w (sh : pw_S) (G : pw_G) (σ : pw_H) : va_W := sh.mapIdx (fun k x => (G.2.1 k, pw_e G (σ k) x))
def pw_u (σ : pw_H) (k : Nat) (j v : Int) : pw_H := fun k' j' => if k' = k ∧ j' = j then v else σ k' j'
theorem pw_u_s (σ : pw_H) (k : Nat) (j v : Int) : pw_u σ k j v k j = v := by simp [pw_u]
theorem pw_u_k {σ : pw_H} {k k' : Nat} {j j' v : Int} (h : k' ≠ k) : pw_u σ k j v k' j' = σ k' j' := by simp [pw_u, h]
theorem pw_u_j {σ : pw_H} {k k' : Nat} {j j' v : Int} (h : j' ≠ j) : pw_u σ k j v k' j' = σ k' j' := by simp [pw_u, h]
theorem pw_at {sh : pw_S} {G : pw_G} {σ : pw_H} {k : Nat} {x : pw_C} (h : sh[k]? = some x) : (pw_w sh G σ)[k]? = some (G.2.1 k, pw_e G (σ k) x) := by
  simp [pw_w, List.getElem?_mapIdx, h]
theorem pw_set {sh : pw_S} {G : pw_G} {σ : pw_H} {k : Nat} {x : pw_C} {j v : Int} (h : sh[k]? = some x) : (pw_w sh G σ).set k (G.2.1 k, pw_e G (pw_u σ k j v k) x) = pw_w sh G (pw_u σ k j v) := by
  apply List.ext_getElem?
  intro i
  rw [List.getElem?_set]
  have hk : k < sh.length := (List.getElem?_eq_some_iff.mp h).1
  by_cases hi : k = i
  · subst hi
    rw [if_pos rfl, if_pos (by simpa [pw_w] using hk), pw_at h]
  · rw [if_neg hi]
    simp only [pw_w, List.getElem?_mapIdx]
    have e : pw_u σ k j v i = σ i := by funext t; exact pw_u_k (fun q => hi q.symm)
    rw [e]
theorem pw_dom {A : Nat → Prop} {sh : pw_S} {G : pw_G} {σ τ : pw_H} (h : va_D A (pw_w sh G σ)) : va_D A (pw_w sh G τ) := by
  have e : ∀ (k : Nat) (q : Nat × va_E), (pw_w sh G τ)[k]? = some q → ∃ q', (pw_w sh G σ)[k]? = some q' ∧ q'.1 = q.1 := by
    intro k q hq
    simp only [pw_w, List.getElem?_mapIdx, Option.map_eq_some_iff] at hq ⊢
    obtain ⟨x, hx, rfl⟩ := hq
    exact ⟨_, ⟨x, hx, rfl⟩, rfl⟩
  refine ⟨fun i j p q hp hq hpq => ?_, fun k q hq => ?_⟩
  · obtain ⟨p', h1, e1⟩ := e i p hp
    obtain ⟨q', h2, e2⟩ := e j q hq
    exact h.1 i j p' q' h1 h2 (by rw [e1, e2, hpq])
  · obtain ⟨q', h2, e2⟩ := e k q hq
    exact e2 ▸ h.2 k q' h2
theorem pw_A {sh : pw_S} {G : pw_G} {σ τ : pw_H} {sz q : Nat} (h : va_A (pw_w sh G σ) sz q) : va_A (pw_w sh G τ) sz q := by
  rcases h with ⟨k, e, h⟩ | h
  · simp only [pw_w, List.getElem?_mapIdx, Option.map_eq_some_iff, Prod.mk.injEq] at h
    obtain ⟨x, hx, h1, h2⟩ := h
    refine Or.inl ⟨k, pw_e G (τ k) x, ?_⟩
    simp only [pw_w, List.getElem?_mapIdx, Option.map_eq_some_iff, Prod.mk.injEq]
    exact ⟨x, hx, h1, rfl⟩
  · exact Or.inr h
/-! locals by place -/
def pw_l : Nat → List (Option Value) → List (Nat × Value)
  | _, [] => []
  | i, none :: r => pw_l (i + 1) r
  | i, some v :: r => (i, v) :: pw_l (i + 1) r
theorem pw_l_mem (ls : List (Option Value)) : ∀ (i j : Nat) (v : Value), (j, v) ∈ pw_l i ls ↔ ∃ t, j = i + t ∧ ls[t]? = some (some v) := by
  induction ls with
  | nil => intro i j v; simp [pw_l]
  | cons a r ih =>
    intro i j v
    cases a with
    | none =>
      simp only [pw_l, ih]
      constructor
      · rintro ⟨t, rfl, h⟩
        exact ⟨t + 1, by omega, by simpa using h⟩
      · rintro ⟨t, rfl, h⟩
        cases t with
        | zero => simp at h
        | succ t => exact ⟨t, by omega, by simpa using h⟩
    | some w =>
      simp only [pw_l, List.mem_cons, ih, Prod.mk.injEq]
      constructor
      · rintro (⟨rfl, rfl⟩ | ⟨t, rfl, h⟩)
        · exact ⟨0, by omega, by simp⟩
        · exact ⟨t + 1, by omega, by simpa using h⟩
      · rintro ⟨t, rfl, h⟩
        cases t with
        | zero => left; simpa using h.symm
        | succ t => exact Or.inr ⟨t, by omega, by simpa using h⟩
theorem pw_lg {la : Array Slot} {n : Nat} {ls : List (Option Value)} {i : Nat} {v : Value} (h : lv_has la n (pw_l 0 ls)) (hi : ls[i]? = some (some v)) : la[i]? = some (.val v) :=
  h.2.2 (i, v) ((pw_l_mem ls 0 i v).mpr ⟨i, by omega, hi⟩)
def pw_c (ls : List (Option Value)) (i : Nat) : Bool := match i with
  | 0 => true
  | k + 1 => match ls[k]? with
    | some (some w) => w.category != 2
    | _ => true
theorem pw_c_ne {ls : List (Option Value)} {i j : Nat} {w : Value} (h : pw_c ls i = true) (hj : ls[j]? = some (some w)) (e : j + 1 = i) : w.category ≠ 2 := by
  subst e
  simp only [pw_c, hj] at h
  simpa using h
theorem pw_s1 {la : Array Slot} {n i : Nat} {v : Value} {ls : List (Option Value)} (hc : pw_c ls i = true)
    (h' : lv_has la n ((i, v) :: (pw_l 0 ls).filter (fun q => !(q.1 == i) && !(q.1 + 1 == i && q.2.category == 2)))) : lv_has la n (pw_l 0 (ls.set i (some v))) := by
  refine ⟨h'.1, h'.2.1, fun q hq => ?_⟩
  obtain ⟨j, w⟩ := q
  obtain ⟨t, ht, hw⟩ := (pw_l_mem _ 0 j w).mp hq
  have ht : j = t := by omega
  subst ht
  rw [List.getElem?_set] at hw
  by_cases e : i = j
  · rw [if_pos e] at hw
    split at hw
    · cases hw; subst e; exact h'.2.2 _ List.mem_cons_self
    · cases hw
  · rw [if_neg e] at hw
    refine h'.2.2 _ (List.mem_cons_of_mem _ (List.mem_filter.mpr ⟨(pw_l_mem _ 0 j w).mpr ⟨j, by omega, hw⟩, ?_⟩))
    have e2 : ¬ j = i := fun q => e q.symm
    by_cases e3 : j + 1 = i
    · have := pw_c_ne hc hw e3
      simp [e2, e3, this]
    · simp [e2, e3]
theorem pw_s2 {la : Array Slot} {n i : Nat} {v : Value} {ls : List (Option Value)} (hc : pw_c ls i = true)
    (h' : lv_has la n ((i, v) :: (pw_l 0 ls).filter (fun q => !(q.1 == i) && (!(q.1 == i + 1) && !(q.1 + 1 == i && q.2.category == 2))))) : lv_has la n (pw_l 0 ((ls.set i (some v)).set (i + 1) none)) := by
  refine ⟨h'.1, h'.2.1, fun q hq => ?_⟩
  obtain ⟨j, w⟩ := q
  obtain ⟨t, ht, hw⟩ := (pw_l_mem _ 0 j w).mp hq
  have ht : j = t := by omega
  subst ht
  rw [List.getElem?_set] at hw
  by_cases e0 : i + 1 = j
  · rw [if_pos e0] at hw
    split at hw <;> cases hw
  rw [if_neg e0, List.getElem?_set] at hw
  by_cases e : i = j
  · rw [if_pos e] at hw
    split at hw
    · cases hw; subst e; exact h'.2.2 _ List.mem_cons_self
    · cases hw
  · rw [if_neg e] at hw
    refine h'.2.2 _ (List.mem_cons_of_mem _ (List.mem_filter.mpr ⟨(pw_l_mem _ 0 j w).mpr ⟨j, by omega, hw⟩, ?_⟩))
    have e2 : ¬ j = i := fun q => e q.symm
    have e4 : ¬ j = i + 1 := fun q => e0 q.symm
    by_cases e3 : j + 1 = i
    · have := pw_c_ne hc hw e3
      simp [e2, e3, e4, this]
    · simp [e2, e3, e4]
end
section
def zabs (x : Int) : Int := if x < 0 then -x else x
def zmin (x y : Int) : Int := if y < x then y else x
def zB (b : Bool) : Int := if b then 1 else 0
/-! the judgement over a world of a fixed shape -/
abbrev PXT : Type := Program × Launch × Env × Room × State × MethodId × Array Value × List Frame × Method × Code × (Nat → Prop) × (State → Prop) × Nat
def PW (X : PXT) (sh : pw_S) (G : pw_G) (pc : Nat) (ls : List (Option Value)) (st : List Value) (σ : pw_H) : Prop := match X with
  | (p, l, e, R, s, m, args, below, meth, c, A, Z, nL) => ∀ (H : Heap) (locs : List Loc) (la : Array Slot), lv_has la nL (pw_l 0 ls) → va_P G.1 vwCl (pw_w sh G σ) H → va_S A s.heap H locs → W p l e R s m args below meth c H locs 0 0 Z (F0 m pc la st)
/-- what every method of the system may take as known of the machine -/
abbrev pw_tys (G : pw_G) : List (ClassId × FieldType) := [(G.2.2.1, .int), (G.2.2.2, .long)]
abbrev pw_nw : Cond := .methodLinkNest RX1 93 yX5_leads RX5
def pw_K (G : pw_G) (U : State) : Prop := va_K G.1 vwCl (pw_tys G) U ∧ va_Nw pw_nw U
theorem pw_K.alike {G : pw_G} {u U : State} (hW : u.WarmedH U.vm) (h : pw_K G u) : pw_K G U := ⟨va_K.moved hW.alike h.1, va_Nw.warmM hW h.2⟩
theorem pw_K.same {G : pw_G} {u : State} {g : JFrame} {mk : MethodId} {a : Array Value} (h : pw_K G u) : pw_K G (u.calling g mk a) := ⟨va_K.moved (Vm.Alike.refl u.vm) h.1, va_Nw.same rfl rfl h.2⟩
/-- the answer and the world behind a method -/
def pw_B (sh : pw_S) (G : pw_G) (σ : pw_H) (t : State) : Prop := va_P G.1 vwCl (pw_w sh G σ) t.heap
def pw_Q (sh : pw_S) (G : pw_G) (Q : Option Value → pw_H → Prop) (A : Nat → Prop) : Array Value → State → Outcome → State → Prop := fun _ st oc t => (∃ (v : Option Value) (τ : pw_H), oc = .returned v ∧ Q v τ ∧ pw_B sh G τ t) ∧ va_F A st t
def pw_P (sh : pw_S) (G : pw_G) (σ : pw_H) (sz : Nat) (U : State) : Prop := U.heap.size = sz ∧ va_P G.1 vwCl (pw_w sh G σ) U.heap ∧ pw_K G U ∧ va_D (fun _ => True) (pw_w sh G σ)
/-- a method, in one: its name, its code, its locals, what it answers, its room (frames, locals), how many arguments -/
abbrev MB : Type := MethodName × ByteArray × Nat × Option FieldType × Nat × Nat × Nat
abbrev MB.ws (M : MB) : List Cond := Cond.code M.1 M.2.1 M.2.2.1 M.2.2.2.1 :: ALLW
abbrev MB.rm (M : MB) : Room := { frames := M.2.2.2.2.1, cells := 0, slots := 0, locals := M.2.2.2.2.2.1 }
/-- a method's contract: with these arguments, over this world, it ends, and Q holds of its answer and of the world behind it -/
def Ct (l : Launch) (sh : pw_S) (G : pw_G) (M : MB) (As : List Value) (σ : pw_H) (Q : Option Value → pw_H → Prop) : Prop :=
  ∀ sz : Nat, Met l M.1 (MB.ws M) (MB.rm M) (va_Pc As (pw_P sh G σ sz)) (pw_Q sh G Q (va_A (pw_w sh G σ) sz)) 0 0 (va_A (pw_w sh G σ) sz)
/-- a method's own standing facts -/
def PC (X : PXT) (sh : pw_S) (G : pw_G) (M : MB) (Q : Option Value → pw_H → Prop) : Prop := match X with
  | (p, l, e, R, s, m, args, below, meth, c, A, Z, n) => p.tables.exec = Jvm.exec ∧ c.code = M.2.1 ∧ (c.maxLocals = M.2.2.1 ∧ n = M.2.2.1) ∧ s.vm.findClass M.1.cls = some m.cls ∧ (∀ w ∈ ALLW, w.before args s = true) ∧ meth.sig.returnType = M.2.2.2.1 ∧ meth.locks = false ∧ pw_K G s ∧ va_D A (pw_w sh G (fun _ _ => 0)) ∧ (∀ q, s.heap.size ≤ q → A q) ∧ (R.frames = M.2.2.2.2.1 ∧ R.locals = M.2.2.2.2.2.1) ∧ Z = MQ below (pw_Q sh G Q A) args s 0 0 A
theorem Ct_of {l : Launch} {sh : pw_S} {G : pw_G} {M : MB} {As : List Value} {σ : pw_H} {Q : Option Value → pw_H → Prop} {ls : List (Option Value)}
    (hy : plainName M.1.cls = true) (hlen : (lg_sl As).length ≤ M.2.2.1) (hls : pw_l 0 ls = lv_args 0 As)
    (body : ∀ X : PXT, PC X sh G M Q → PW X sh G 0 ls [] σ) : Ct l sh G M As σ Q := by
  intro sz
  refine Met.ofW (cc := M.2.1) (maxL := M.2.2.1) (ret := M.2.2.2.1) hy rfl ?_
  intro p e s m args below meth c s₁ B hml hv
  obtain ⟨rfl, hsz, hP, hK, hD0⟩ := hv
  subst hsz
  have hD := hD0.self (sz := s.heap.size)
  have k := body (p, l, e, (headSpec (MB.ws M) (MB.rm M)).room, s, m, As.toArray, below, meth, c, va_A (pw_w sh G σ) s.heap.size, _, M.2.2.1) ⟨B.exec, B.bytes, ⟨hml, rfl⟩, findClass_of_methodNamed B.named, fun w hw => atoms_spec (ws := MB.ws M) B.pre w (List.mem_cons_of_mem _ hw), B.returns, B.notSynchronized, hK, pw_dom hD, fun q h => Or.inr h, ⟨rfl, rfl⟩, rfl⟩
  have hl := lv_entry As (n := M.2.2.1) hlen
  rw [lg_entry_eq]
  exact k s.heap [] _ (by rw [hls]; exact hl) hP va_S.rf
theorem goodALL : ∀ w ∈ ALLW, ((w.onTables && w.keeps) = true ∨ ∃ ty, w = .arrayClass ty) := fun w h => good_of_word (List.all_eq_true.mp (by decide +kernel : ALLW.all goodWord = true) w h)
def okM (M : MB) : Prop := Cond.initialized M.1.cls ∈ ALLW ∧ Cond.code M.1 M.2.1 M.2.2.1 M.2.2.2.1 ∈ ALLW ∧ (M.1.cls ≠ "java/lang/invoke/MethodHandle" ∧ M.1.cls ≠ "java/lang/invoke/VarHandle") ∧ (parseMethodDescriptor M.1.desc).map (fun d => d.parameters.length) = some M.2.2.2.2.2.2
def okS (M : MB) : Prop := okM M ∧ Cond.static M.1 ∈ ALLW
def okV (M : MB) : Prop := okM M ∧ Cond.instanceMethod M.1 ∈ ALLW ∧ Cond.selects M.1.cls M.1 M.1 ∈ ALLW
theorem okM.good {M : MB} (h : okM M) : GoodIn ALLW (MB.ws M) := fun w hw => by
  rcases List.mem_cons.mp hw with rfl | hw
  · exact ⟨h.2.1, goodALL _ h.2.1⟩
  · exact ⟨hw, goodALL _ hw⟩
theorem okS.good {M : MB} {own : String} {idx : Nat} (h : okS M) (hl : Cond.methodLink own idx M.1 ∈ ALLW) : GoodIn ALLW (va_wsS own idx M.1 (MB.ws M)) := fun w hw => by
  rcases List.mem_append.mp hw with hw | hw
  · have hm : w ∈ ALLW := by
      rcases List.mem_cons.mp hw with rfl | hw
      · exact hl
      rcases List.mem_cons.mp hw with rfl | hw
      · exact h.2
      rcases List.mem_cons.mp hw with rfl | hw
      · exact h.1.1
      · cases hw
    exact ⟨hm, goodALL _ hm⟩
  · exact h.1.good w hw
theorem okV.good {M : MB} {own : String} {idx : Nat} (h : okV M) (hl : Cond.methodLink own idx M.1 ∈ ALLW) : GoodIn ALLW (wsV own idx M.1.cls M.1 (MB.ws M)) := fun w hw => by
  rcases List.mem_append.mp hw with hw | hw
  · have hm : w ∈ ALLW := by
      rcases List.mem_cons.mp hw with rfl | hw
      · exact hl
      rcases List.mem_cons.mp hw with rfl | hw
      · exact h.2.1
      rcases List.mem_cons.mp hw with rfl | hw
      · exact h.2.2
      rcases List.mem_cons.mp hw with rfl | hw
      · exact h.1.1
      · cases hw
    exact ⟨hm, goodALL _ hm⟩
  · exact h.1.good w hw
section ROWS
variable {X : PXT} {sh : pw_S} {G : pw_G} {M : MB} {Q : Option Value → pw_H → Prop} {pc : Nat} {ls ls' : List (Option Value)} {st : List Value} {σ : pw_H}
theorem r_iconst (C : PC X sh G M Q) {z : Int} (hd : decode M.2.1 pc = .ok (.iconst z, 1)) (k : PW X sh G (pc + 1) ls (vI z :: st) σ) : PW X sh G pc ls (st) σ := by
  obtain ⟨p, l, e, R, s, m, args, below, meth, c, A, Z, n⟩ := X
  obtain ⟨hx, hb, ⟨hml, rfl⟩, hown, hts, hr, hlk, hK, hD, hA, hR, hZ⟩ := C
  intro H locs la hl hP hS
  exact lv_iconst (v := iI z) hx hb hd rfl (k H locs la hl hP hS)
theorem r_bipush (C : PC X sh G M Q) {z : Int} (hv : (Int8.ofInt z).toInt32 = iI z) (hd : decode M.2.1 pc = .ok (.bipush z, 2)) (k : PW X sh G (pc + 2) ls (vI z :: st) σ) : PW X sh G pc ls (st) σ := by
  obtain ⟨p, l, e, R, s, m, args, below, meth, c, A, Z, n⟩ := X
  obtain ⟨hx, hb, ⟨hml, rfl⟩, hown, hts, hr, hlk, hK, hD, hA, hR, hZ⟩ := C
  intro H locs la hl hP hS
  exact lv_bipush hx hb hd hv (k H locs la hl hP hS)
theorem r_sipush (C : PC X sh G M Q) {z : Int} (hv : (Int16.ofInt z).toInt32 = iI z) (hd : decode M.2.1 pc = .ok (.sipush z, 3)) (k : PW X sh G (pc + 3) ls (vI z :: st) σ) : PW X sh G pc ls (st) σ := by
  obtain ⟨p, l, e, R, s, m, args, below, meth, c, A, Z, n⟩ := X
  obtain ⟨hx, hb, ⟨hml, rfl⟩, hown, hts, hr, hlk, hK, hD, hA, hR, hZ⟩ := C
  intro H locs la hl hP hS
  exact lv_sipush hx hb hd hv (k H locs la hl hP hS)
theorem r_ldc (C : PC X sh G M Q) {i : Nat} {v : Int32} {z : Int} (hw : Cond.constant M.1.cls i v ∈ ALLW) (hv : v = iI z) (hd : decode M.2.1 pc = .ok (.ldc i, 2)) (k : PW X sh G (pc + 2) ls (vI z :: st) σ) : PW X sh G pc ls (st) σ := by
  obtain ⟨p, l, e, R, s, m, args, below, meth, c, A, Z, n⟩ := X
  obtain ⟨hx, hb, ⟨hml, rfl⟩, hown, hts, hr, hlk, hK, hD, hA, hR, hZ⟩ := C
  intro H locs la hl hP hS
  subst hv; exact lv_ldc hx hb hown (hts _ hw) hd (k H locs la hl hP hS)
theorem r_ldc2 (C : PC X sh G M Q) {i : Nat} {v : Int64} {z : Int} (hw : Cond.constantLong M.1.cls i v ∈ ALLW) (hv : v = lI z) (hd : decode M.2.1 pc = .ok (.ldc2_w i, 3)) (k : PW X sh G (pc + 3) ls (vL z :: st) σ) : PW X sh G pc ls (st) σ := by
  obtain ⟨p, l, e, R, s, m, args, below, meth, c, A, Z, n⟩ := X
  obtain ⟨hx, hb, ⟨hml, rfl⟩, hown, hts, hr, hlk, hK, hD, hA, hR, hZ⟩ := C
  intro H locs la hl hP hS
  subst hv; exact lv_ldc2 hx hb hown (hts _ hw) hd (k H locs la hl hP hS)
theorem r_lconst (C : PC X sh G M Q) {q : Fin 2} {z : Int} (hv : Int64.ofNat (q : Nat) = lI z) (hd : decode M.2.1 pc = .ok (.lconst q, 1)) (k : PW X sh G (pc + 1) ls (vL z :: st) σ) : PW X sh G pc ls (st) σ := by
  obtain ⟨p, l, e, R, s, m, args, below, meth, c, A, Z, n⟩ := X
  obtain ⟨hx, hb, ⟨hml, rfl⟩, hown, hts, hr, hlk, hK, hD, hA, hR, hZ⟩ := C
  intro H locs la hl hP hS
  exact lv_lconst hx hb hd hv (k H locs la hl hP hS)
theorem r_iload_n (C : PC X sh G M Q) {q : Fin 4} {x : Int} (hl0 : ls[(q : Nat)]? = some (some (vI x))) (hd : decode M.2.1 pc = .ok (.iload_n q, 1)) (k : PW X sh G (pc + 1) ls (vI x :: st) σ) : PW X sh G pc ls (st) σ := by
  obtain ⟨p, l, e, R, s, m, args, below, meth, c, A, Z, n⟩ := X
  obtain ⟨hx, hb, ⟨hml, rfl⟩, hown, hts, hr, hlk, hK, hD, hA, hR, hZ⟩ := C
  intro H locs la hl hP hS
  exact lv_iload_n hx hb hd rfl (pw_lg hl hl0) (k H locs la hl hP hS)
theorem r_iload (C : PC X sh G M Q) {i : Nat} {x : Int} (hl0 : ls[i]? = some (some (vI x))) (hd : decode M.2.1 pc = .ok (.iload i, 2)) (k : PW X sh G (pc + 2) ls (vI x :: st) σ) : PW X sh G pc ls (st) σ := by
  obtain ⟨p, l, e, R, s, m, args, below, meth, c, A, Z, n⟩ := X
  obtain ⟨hx, hb, ⟨hml, rfl⟩, hown, hts, hr, hlk, hK, hD, hA, hR, hZ⟩ := C
  intro H locs la hl hP hS
  exact lv_iload hx hb hd (pw_lg hl hl0) (k H locs la hl hP hS)
theorem r_lload_n (C : PC X sh G M Q) {q : Fin 4} {x : Int} (hl0 : ls[(q : Nat)]? = some (some (vL x))) (hd : decode M.2.1 pc = .ok (.lload_n q, 1)) (k : PW X sh G (pc + 1) ls (vL x :: st) σ) : PW X sh G pc ls (st) σ := by
  obtain ⟨p, l, e, R, s, m, args, below, meth, c, A, Z, n⟩ := X
  obtain ⟨hx, hb, ⟨hml, rfl⟩, hown, hts, hr, hlk, hK, hD, hA, hR, hZ⟩ := C
  intro H locs la hl hP hS
  exact lv_lload_n hx hb hd rfl (pw_lg hl hl0) (k H locs la hl hP hS)
theorem r_lload (C : PC X sh G M Q) {i : Nat} {x : Int} (hl0 : ls[i]? = some (some (vL x))) (hd : decode M.2.1 pc = .ok (.lload i, 2)) (k : PW X sh G (pc + 2) ls (vL x :: st) σ) : PW X sh G pc ls (st) σ := by
  obtain ⟨p, l, e, R, s, m, args, below, meth, c, A, Z, n⟩ := X
  obtain ⟨hx, hb, ⟨hml, rfl⟩, hown, hts, hr, hlk, hK, hD, hA, hR, hZ⟩ := C
  intro H locs la hl hP hS
  exact lv_lload hx hb hd (pw_lg hl hl0) (k H locs la hl hP hS)
theorem r_aload_n (C : PC X sh G M Q) {q : Fin 4} {x : Nat} (hl0 : ls[(q : Nat)]? = some (some (.ref x))) (hd : decode M.2.1 pc = .ok (.aload_n q, 1)) (k : PW X sh G (pc + 1) ls (.ref x :: st) σ) : PW X sh G pc ls (st) σ := by
  obtain ⟨p, l, e, R, s, m, args, below, meth, c, A, Z, n⟩ := X
  obtain ⟨hx, hb, ⟨hml, rfl⟩, hown, hts, hr, hlk, hK, hD, hA, hR, hZ⟩ := C
  intro H locs la hl hP hS
  exact lv_aload_n hx hb hd rfl (pw_lg hl hl0) (k H locs la hl hP hS)
theorem r_aload (C : PC X sh G M Q) {i : Nat} {x : Nat} (hl0 : ls[i]? = some (some (.ref x))) (hd : decode M.2.1 pc = .ok (.aload i, 2)) (k : PW X sh G (pc + 2) ls (.ref x :: st) σ) : PW X sh G pc ls (st) σ := by
  obtain ⟨p, l, e, R, s, m, args, below, meth, c, A, Z, n⟩ := X
  obtain ⟨hx, hb, ⟨hml, rfl⟩, hown, hts, hr, hlk, hK, hD, hA, hR, hZ⟩ := C
  intro H locs la hl hP hS
  exact lv_aload hx hb hd (pw_lg hl hl0) (k H locs la hl hP hS)
theorem r_iadd (C : PC X sh G M Q) {x y : Int} (hd : decode M.2.1 pc = .ok (.iadd, 1)) (k : PW X sh G (pc + 1) ls (vI (x + y) :: st) σ) : PW X sh G pc ls (vI y :: vI x :: st) σ := by
  obtain ⟨p, l, e, R, s, m, args, below, meth, c, A, Z, n⟩ := X
  obtain ⟨hx, hb, ⟨hml, rfl⟩, hown, hts, hr, hlk, hK, hD, hA, hR, hZ⟩ := C
  intro H locs la hl hP hS
  exact lv_iadd hx hb hd (by rw [iI_add]; exact k H locs la hl hP hS)
theorem r_isub (C : PC X sh G M Q) {x y : Int} (hd : decode M.2.1 pc = .ok (.isub, 1)) (k : PW X sh G (pc + 1) ls (vI (x - y) :: st) σ) : PW X sh G pc ls (vI y :: vI x :: st) σ := by
  obtain ⟨p, l, e, R, s, m, args, below, meth, c, A, Z, n⟩ := X
  obtain ⟨hx, hb, ⟨hml, rfl⟩, hown, hts, hr, hlk, hK, hD, hA, hR, hZ⟩ := C
  intro H locs la hl hP hS
  exact lv_isub hx hb hd (by rw [iI_sub]; exact k H locs la hl hP hS)
theorem r_imul (C : PC X sh G M Q) {x y : Int} (hd : decode M.2.1 pc = .ok (.imul, 1)) (k : PW X sh G (pc + 1) ls (vI (x * y) :: st) σ) : PW X sh G pc ls (vI y :: vI x :: st) σ := by
  obtain ⟨p, l, e, R, s, m, args, below, meth, c, A, Z, n⟩ := X
  obtain ⟨hx, hb, ⟨hml, rfl⟩, hown, hts, hr, hlk, hK, hD, hA, hR, hZ⟩ := C
  intro H locs la hl hP hS
  exact lv_imul hx hb hd (by rw [iI_mul]; exact k H locs la hl hP hS)
theorem r_ineg (C : PC X sh G M Q) {x : Int} (hd : decode M.2.1 pc = .ok (.ineg, 1)) (k : PW X sh G (pc + 1) ls (vI (-x) :: st) σ) : PW X sh G pc ls (vI x :: st) σ := by
  obtain ⟨p, l, e, R, s, m, args, below, meth, c, A, Z, n⟩ := X
  obtain ⟨hx, hb, ⟨hml, rfl⟩, hown, hts, hr, hlk, hK, hD, hA, hR, hZ⟩ := C
  intro H locs la hl hP hS
  exact lv_ineg hx hb hd (by rw [iI_neg]; exact k H locs la hl hP hS)
theorem r_idiv (C : PC X sh G M Q) {x y : Int} (h1 : InI x) (h2 : InI y) (h3 : y ≠ 0) (hd : decode M.2.1 pc = .ok (.idiv, 1)) (k : PW X sh G (pc + 1) ls (vI (x.tdiv y) :: st) σ) : PW X sh G pc ls (vI y :: vI x :: st) σ := by
  obtain ⟨p, l, e, R, s, m, args, below, meth, c, A, Z, n⟩ := X
  obtain ⟨hx, hb, ⟨hml, rfl⟩, hown, hts, hr, hlk, hK, hD, hA, hR, hZ⟩ := C
  intro H locs la hl hP hS
  exact lv_idiv hx hb hd (fun q => h3 ((iI_eq h2 ⟨by omega, by omega⟩).mp (q.trans iI_0.symm))) (by rw [iI_div h1 h2]; exact k H locs la hl hP hS)
theorem r_irem (C : PC X sh G M Q) {x y : Int} (h1 : InI x) (h2 : InI y) (h3 : y ≠ 0) (hd : decode M.2.1 pc = .ok (.irem, 1)) (k : PW X sh G (pc + 1) ls (vI (x.tmod y) :: st) σ) : PW X sh G pc ls (vI y :: vI x :: st) σ := by
  obtain ⟨p, l, e, R, s, m, args, below, meth, c, A, Z, n⟩ := X
  obtain ⟨hx, hb, ⟨hml, rfl⟩, hown, hts, hr, hlk, hK, hD, hA, hR, hZ⟩ := C
  intro H locs la hl hP hS
  exact lv_irem hx hb hd (fun q => h3 ((iI_eq h2 ⟨by omega, by omega⟩).mp (q.trans iI_0.symm))) (by rw [iI_rem h1 h2]; exact k H locs la hl hP hS)
theorem r_iand (C : PC X sh G M Q) {x y z : Int} (h : iI x &&& iI y = iI z) (hd : decode M.2.1 pc = .ok (.iand, 1)) (k : PW X sh G (pc + 1) ls (vI z :: st) σ) : PW X sh G pc ls (vI y :: vI x :: st) σ := by
  obtain ⟨p, l, e, R, s, m, args, below, meth, c, A, Z, n⟩ := X
  obtain ⟨hx, hb, ⟨hml, rfl⟩, hown, hts, hr, hlk, hK, hD, hA, hR, hZ⟩ := C
  intro H locs la hl hP hS
  exact lv_iand hx hb hd (by rw [h]; exact k H locs la hl hP hS)
theorem r_ior (C : PC X sh G M Q) {x y z : Int} (h : iI x ||| iI y = iI z) (hd : decode M.2.1 pc = .ok (.ior, 1)) (k : PW X sh G (pc + 1) ls (vI z :: st) σ) : PW X sh G pc ls (vI y :: vI x :: st) σ := by
  obtain ⟨p, l, e, R, s, m, args, below, meth, c, A, Z, n⟩ := X
  obtain ⟨hx, hb, ⟨hml, rfl⟩, hown, hts, hr, hlk, hK, hD, hA, hR, hZ⟩ := C
  intro H locs la hl hP hS
  exact lv_ior hx hb hd (by rw [h]; exact k H locs la hl hP hS)
theorem r_ixor (C : PC X sh G M Q) {x y z : Int} (h : iI x ^^^ iI y = iI z) (hd : decode M.2.1 pc = .ok (.ixor, 1)) (k : PW X sh G (pc + 1) ls (vI z :: st) σ) : PW X sh G pc ls (vI y :: vI x :: st) σ := by
  obtain ⟨p, l, e, R, s, m, args, below, meth, c, A, Z, n⟩ := X
  obtain ⟨hx, hb, ⟨hml, rfl⟩, hown, hts, hr, hlk, hK, hD, hA, hR, hZ⟩ := C
  intro H locs la hl hP hS
  exact lv_ixor hx hb hd (by rw [h]; exact k H locs la hl hP hS)
theorem r_ishl (C : PC X sh G M Q) {x y z : Int} (h : iI x <<< (iI y &&& 31) = iI z) (hd : decode M.2.1 pc = .ok (.ishl, 1)) (k : PW X sh G (pc + 1) ls (vI z :: st) σ) : PW X sh G pc ls (vI y :: vI x :: st) σ := by
  obtain ⟨p, l, e, R, s, m, args, below, meth, c, A, Z, n⟩ := X
  obtain ⟨hx, hb, ⟨hml, rfl⟩, hown, hts, hr, hlk, hK, hD, hA, hR, hZ⟩ := C
  intro H locs la hl hP hS
  exact lv_ishl hx hb hd (by rw [h]; exact k H locs la hl hP hS)
theorem r_ishr (C : PC X sh G M Q) {x y z : Int} (h : iI x >>> (iI y &&& 31) = iI z) (hd : decode M.2.1 pc = .ok (.ishr, 1)) (k : PW X sh G (pc + 1) ls (vI z :: st) σ) : PW X sh G pc ls (vI y :: vI x :: st) σ := by
  obtain ⟨p, l, e, R, s, m, args, below, meth, c, A, Z, n⟩ := X
  obtain ⟨hx, hb, ⟨hml, rfl⟩, hown, hts, hr, hlk, hK, hD, hA, hR, hZ⟩ := C
  intro H locs la hl hP hS
  exact lv_ishr hx hb hd (by rw [h]; exact k H locs la hl hP hS)
theorem r_ladd (C : PC X sh G M Q) {x y : Int} (hd : decode M.2.1 pc = .ok (.ladd, 1)) (k : PW X sh G (pc + 1) ls (vL (x + y) :: st) σ) : PW X sh G pc ls (vL y :: vL x :: st) σ := by
  obtain ⟨p, l, e, R, s, m, args, below, meth, c, A, Z, n⟩ := X
  obtain ⟨hx, hb, ⟨hml, rfl⟩, hown, hts, hr, hlk, hK, hD, hA, hR, hZ⟩ := C
  intro H locs la hl hP hS
  exact lv_ladd hx hb hd (by rw [lI_add]; exact k H locs la hl hP hS)
theorem r_i2l (C : PC X sh G M Q) {x z : Int} (h : (iI x).toInt64 = lI z) (hd : decode M.2.1 pc = .ok (.i2l, 1)) (k : PW X sh G (pc + 1) ls (vL z :: st) σ) : PW X sh G pc ls (vI x :: st) σ := by
  obtain ⟨p, l, e, R, s, m, args, below, meth, c, A, Z, n⟩ := X
  obtain ⟨hx, hb, ⟨hml, rfl⟩, hown, hts, hr, hlk, hK, hD, hA, hR, hZ⟩ := C
  intro H locs la hl hP hS
  exact lv_i2l hx hb hd h (k H locs la hl hP hS)
theorem r_l2i (C : PC X sh G M Q) {x z : Int} (h : (lI x).toInt32 = iI z) (hd : decode M.2.1 pc = .ok (.l2i, 1)) (k : PW X sh G (pc + 1) ls (vI z :: st) σ) : PW X sh G pc ls (vL x :: st) σ := by
  obtain ⟨p, l, e, R, s, m, args, below, meth, c, A, Z, n⟩ := X
  obtain ⟨hx, hb, ⟨hml, rfl⟩, hown, hts, hr, hlk, hK, hD, hA, hR, hZ⟩ := C
  intro H locs la hl hP hS
  exact lv_l2i hx hb hd h (k H locs la hl hP hS)
theorem r_lshl (C : PC X sh G M Q) {x y z : Int} (h : lI x <<< ((iI y).toInt64 &&& 63) = lI z) (hd : decode M.2.1 pc = .ok (.lshl, 1)) (k : PW X sh G (pc + 1) ls (vL z :: st) σ) : PW X sh G pc ls (vI y :: vL x :: st) σ := by
  obtain ⟨p, l, e, R, s, m, args, below, meth, c, A, Z, n⟩ := X
  obtain ⟨hx, hb, ⟨hml, rfl⟩, hown, hts, hr, hlk, hK, hD, hA, hR, hZ⟩ := C
  intro H locs la hl hP hS
  exact lv_lshl hx hb hd h (k H locs la hl hP hS)
theorem r_lshr (C : PC X sh G M Q) {x y z : Int} (h : lI x >>> ((iI y).toInt64 &&& 63) = lI z) (hd : decode M.2.1 pc = .ok (.lshr, 1)) (k : PW X sh G (pc + 1) ls (vL z :: st) σ) : PW X sh G pc ls (vI y :: vL x :: st) σ := by
  obtain ⟨p, l, e, R, s, m, args, below, meth, c, A, Z, n⟩ := X
  obtain ⟨hx, hb, ⟨hml, rfl⟩, hown, hts, hr, hlk, hK, hD, hA, hR, hZ⟩ := C
  intro H locs la hl hP hS
  exact lv_lshr hx hb hd h (k H locs la hl hP hS)
theorem r_dup (C : PC X sh G M Q) {v : Value} (h : v.category = 1) (hd : decode M.2.1 pc = .ok (.dup, 1)) (k : PW X sh G (pc + 1) ls (v :: v :: st) σ) : PW X sh G pc ls (v :: st) σ := by
  obtain ⟨p, l, e, R, s, m, args, below, meth, c, A, Z, n⟩ := X
  obtain ⟨hx, hb, ⟨hml, rfl⟩, hown, hts, hr, hlk, hK, hD, hA, hR, hZ⟩ := C
  intro H locs la hl hP hS
  exact lv_dup hx hb hd h (k H locs la hl hP hS)
theorem r_dup_x1 (C : PC X sh G M Q) {v w : Value} (h : v.category = 1) (h2 : w.category = 1) (hd : decode M.2.1 pc = .ok (.dup_x1, 1)) (k : PW X sh G (pc + 1) ls (v :: w :: v :: st) σ) : PW X sh G pc ls (v :: w :: st) σ := by
  obtain ⟨p, l, e, R, s, m, args, below, meth, c, A, Z, n⟩ := X
  obtain ⟨hx, hb, ⟨hml, rfl⟩, hown, hts, hr, hlk, hK, hD, hA, hR, hZ⟩ := C
  intro H locs la hl hP hS
  exact lv_dup_x1 hx hb hd h h2 (k H locs la hl hP hS)
theorem r_dup2 (C : PC X sh G M Q) {v w : Value} (h : v.category = 1) (h2 : w.category = 1) (hd : decode M.2.1 pc = .ok (.dup2, 1)) (k : PW X sh G (pc + 1) ls (v :: w :: v :: w :: st) σ) : PW X sh G pc ls (v :: w :: st) σ := by
  obtain ⟨p, l, e, R, s, m, args, below, meth, c, A, Z, n⟩ := X
  obtain ⟨hx, hb, ⟨hml, rfl⟩, hown, hts, hr, hlk, hK, hD, hA, hR, hZ⟩ := C
  intro H locs la hl hP hS
  exact lv_dup2_11 hx hb hd h h2 (k H locs la hl hP hS)
theorem r_istore_n (C : PC X sh G M Q) {q : Fin 4} {x : Int} (hn : (q : Nat) < M.2.2.1) (hc : pw_c ls (q : Nat) = true) (hs : ls.set (q : Nat) (some (vI x)) = ls') (hd : decode M.2.1 pc = .ok (.istore_n q, 1)) (k : PW X sh G (pc + 1) ls' st σ) : PW X sh G pc ls (vI x :: st) σ := by
  obtain ⟨p, l, e, R, s, m, args, below, meth, c, A, Z, n⟩ := X
  obtain ⟨hx, hb, ⟨hml, rfl⟩, hown, hts, hr, hlk, hK, hD, hA, hR, hZ⟩ := C
  intro H locs la hl hP hS
  exact lv_istore_n hx hb hd rfl hl hn rfl (fun la hl => k H locs la (hs ▸ pw_s1 hc hl) hP hS)
theorem r_istore (C : PC X sh G M Q) {i : Nat} {x : Int} (hn : i < M.2.2.1) (hc : pw_c ls i = true) (hs : ls.set i (some (vI x)) = ls') (hd : decode M.2.1 pc = .ok (.istore i, 2)) (k : PW X sh G (pc + 2) ls' st σ) : PW X sh G pc ls (vI x :: st) σ := by
  obtain ⟨p, l, e, R, s, m, args, below, meth, c, A, Z, n⟩ := X
  obtain ⟨hx, hb, ⟨hml, rfl⟩, hown, hts, hr, hlk, hK, hD, hA, hR, hZ⟩ := C
  intro H locs la hl hP hS
  exact lv_istore hx hb hd hl hn rfl (fun la hl => k H locs la (hs ▸ pw_s1 hc hl) hP hS)
theorem r_astore_n (C : PC X sh G M Q) {q : Fin 4} {x : Nat} (hn : (q : Nat) < M.2.2.1) (hc : pw_c ls (q : Nat) = true) (hs : ls.set (q : Nat) (some (.ref x)) = ls') (hd : decode M.2.1 pc = .ok (.astore_n q, 1)) (k : PW X sh G (pc + 1) ls' st σ) : PW X sh G pc ls (.ref x :: st) σ := by
  obtain ⟨p, l, e, R, s, m, args, below, meth, c, A, Z, n⟩ := X
  obtain ⟨hx, hb, ⟨hml, rfl⟩, hown, hts, hr, hlk, hK, hD, hA, hR, hZ⟩ := C
  intro H locs la hl hP hS
  exact lv_astore_n hx hb hd rfl hl hn rfl (fun la hl => k H locs la (hs ▸ pw_s1 hc hl) hP hS)
theorem r_astore (C : PC X sh G M Q) {i : Nat} {x : Nat} (hn : i < M.2.2.1) (hc : pw_c ls i = true) (hs : ls.set i (some (.ref x)) = ls') (hd : decode M.2.1 pc = .ok (.astore i, 2)) (k : PW X sh G (pc + 2) ls' st σ) : PW X sh G pc ls (.ref x :: st) σ := by
  obtain ⟨p, l, e, R, s, m, args, below, meth, c, A, Z, n⟩ := X
  obtain ⟨hx, hb, ⟨hml, rfl⟩, hown, hts, hr, hlk, hK, hD, hA, hR, hZ⟩ := C
  intro H locs la hl hP hS
  exact lv_astore hx hb hd hl hn rfl (fun la hl => k H locs la (hs ▸ pw_s1 hc hl) hP hS)
theorem r_lstore_n (C : PC X sh G M Q) {q : Fin 4} {x : Int} (hn : (q : Nat) + 1 < M.2.2.1) (hc : pw_c ls (q : Nat) = true) (hs : (ls.set (q : Nat) (some (vL x))).set ((q : Nat) + 1) none = ls') (hd : decode M.2.1 pc = .ok (.lstore_n q, 1)) (k : PW X sh G (pc + 1) ls' st σ) : PW X sh G pc ls (vL x :: st) σ := by
  obtain ⟨p, l, e, R, s, m, args, below, meth, c, A, Z, n⟩ := X
  obtain ⟨hx, hb, ⟨hml, rfl⟩, hown, hts, hr, hlk, hK, hD, hA, hR, hZ⟩ := C
  intro H locs la hl hP hS
  exact lv_lstore_n hx hb hd rfl hl hn rfl (fun la hl => k H locs la (hs ▸ pw_s2 hc hl) hP hS)
theorem r_lstore (C : PC X sh G M Q) {i : Nat} {x : Int} (hn : i + 1 < M.2.2.1) (hc : pw_c ls i = true) (hs : (ls.set i (some (vL x))).set (i + 1) none = ls') (hd : decode M.2.1 pc = .ok (.lstore i, 2)) (k : PW X sh G (pc + 2) ls' st σ) : PW X sh G pc ls (vL x :: st) σ := by
  obtain ⟨p, l, e, R, s, m, args, below, meth, c, A, Z, n⟩ := X
  obtain ⟨hx, hb, ⟨hml, rfl⟩, hown, hts, hr, hlk, hK, hD, hA, hR, hZ⟩ := C
  intro H locs la hl hP hS
  exact lv_lstore hx hb hd hl hn rfl (fun la hl => k H locs la (hs ▸ pw_s2 hc hl) hP hS)
theorem r_iinc (C : PC X sh G M Q) {i : Nat} {z x : Int} (hl0 : ls[i]? = some (some (vI x))) (hn : i < M.2.2.1) (hc : pw_c ls i = true) (hs : ls.set i (some (vI (x + z))) = ls') (hd : decode M.2.1 pc = .ok (.iinc i z, 3)) (k : PW X sh G (pc + 3) ls' st σ) : PW X sh G pc ls st σ := by
  obtain ⟨p, l, e, R, s, m, args, below, meth, c, A, Z, n⟩ := X
  obtain ⟨hx, hb, ⟨hml, rfl⟩, hown, hts, hr, hlk, hK, hD, hA, hR, hZ⟩ := C
  intro H locs la hl hP hS
  obtain ⟨kk, hkk⟩ := List.getElem?_of_mem ((pw_l_mem ls 0 i (vI x)).mpr ⟨i, by omega, hl0⟩)
  exact lv_iinc (v := iI (x + z)) hx hb hd hl hkk (iI_add x z) hn rfl (fun la hl => k H locs la (hs ▸ pw_s1 hc hl) hP hS)
theorem r_goto (C : PC X sh G M Q) {off : Int} {tgt : Nat} (ht : (pc : Int) + off = (tgt : Int)) (hd : decode M.2.1 pc = .ok (.goto off, 3)) (k : PW X sh G tgt ls st σ) : PW X sh G pc ls st σ := by
  obtain ⟨p, l, e, R, s, m, args, below, meth, c, A, Z, n⟩ := X
  obtain ⟨hx, hb, ⟨hml, rfl⟩, hown, hts, hr, hlk, hK, hD, hA, hR, hZ⟩ := C
  intro H locs la hl hP hS
  exact lv_goto hx hb hd ht (k H locs la hl hP hS)
theorem r_icmp_eq (C : PC X sh G M Q) {off : Int} {tgt : Nat} {x y : Int} (ht : (pc : Int) + off = (tgt : Int)) (h1 : InI x) (h2 : InI y) (hd : decode M.2.1 pc = .ok (.if_icmp .eq off, 3)) (kt : x = y → PW X sh G tgt ls st σ) (kf : ¬ (x = y) → PW X sh G (pc + 3) ls st σ) : PW X sh G pc ls (vI y :: vI x :: st) σ := by
  obtain ⟨p, l, e, R, s, m, args, below, meth, c, A, Z, n⟩ := X
  obtain ⟨hx, hb, ⟨hml, rfl⟩, hown, hts, hr, hlk, hK, hD, hA, hR, hZ⟩ := C
  intro H locs la hl hP hS
  exact lv_icmp_eq hx hb hd ht (fun q => kt ((iI_eq h1 h2).mp q) H locs la hl hP hS) (fun q => kf (fun z => q ((iI_eq h1 h2).mpr z)) H locs la hl hP hS)
theorem r_if_eq (C : PC X sh G M Q) {off : Int} {tgt : Nat} {x : Int} (ht : (pc : Int) + off = (tgt : Int)) (h1 : InI x) (hd : decode M.2.1 pc = .ok (.ifCond .eq off, 3)) (kt : x = 0 → PW X sh G tgt ls st σ) (kf : ¬ (x = 0) → PW X sh G (pc + 3) ls st σ) : PW X sh G pc ls (vI x :: st) σ := by
  obtain ⟨p, l, e, R, s, m, args, below, meth, c, A, Z, n⟩ := X
  obtain ⟨hx, hb, ⟨hml, rfl⟩, hown, hts, hr, hlk, hK, hD, hA, hR, hZ⟩ := C
  intro H locs la hl hP hS
  exact lv_if_eq hx hb hd ht (fun q => kt ((iI_eq h1 (b := 0) ⟨by omega, by omega⟩).mp q) H locs la hl hP hS) (fun q => kf (fun z => q ((iI_eq h1 (b := 0) ⟨by omega, by omega⟩).mpr z)) H locs la hl hP hS)
theorem r_icmp_ne (C : PC X sh G M Q) {off : Int} {tgt : Nat} {x y : Int} (ht : (pc : Int) + off = (tgt : Int)) (h1 : InI x) (h2 : InI y) (hd : decode M.2.1 pc = .ok (.if_icmp .ne off, 3)) (kt : x ≠ y → PW X sh G tgt ls st σ) (kf : ¬ (x ≠ y) → PW X sh G (pc + 3) ls st σ) : PW X sh G pc ls (vI y :: vI x :: st) σ := by
  obtain ⟨p, l, e, R, s, m, args, below, meth, c, A, Z, n⟩ := X
  obtain ⟨hx, hb, ⟨hml, rfl⟩, hown, hts, hr, hlk, hK, hD, hA, hR, hZ⟩ := C
  intro H locs la hl hP hS
  exact lv_icmp_ne hx hb hd ht (fun q => kt (fun z => q ((iI_eq h1 h2).mpr z)) H locs la hl hP hS) (fun q => kf (fun z => z (by first | exact (iI_eq h1 h2).mp q | exact (iI_eq h1 h2).mp (Decidable.not_not.mp q))) H locs la hl hP hS)
theorem r_if_ne (C : PC X sh G M Q) {off : Int} {tgt : Nat} {x : Int} (ht : (pc : Int) + off = (tgt : Int)) (h1 : InI x) (hd : decode M.2.1 pc = .ok (.ifCond .ne off, 3)) (kt : x ≠ 0 → PW X sh G tgt ls st σ) (kf : ¬ (x ≠ 0) → PW X sh G (pc + 3) ls st σ) : PW X sh G pc ls (vI x :: st) σ := by
  obtain ⟨p, l, e, R, s, m, args, below, meth, c, A, Z, n⟩ := X
  obtain ⟨hx, hb, ⟨hml, rfl⟩, hown, hts, hr, hlk, hK, hD, hA, hR, hZ⟩ := C
  intro H locs la hl hP hS
  exact lv_if_ne hx hb hd ht (fun q => kt (fun z => q ((iI_eq h1 (b := 0) ⟨by omega, by omega⟩).mpr z)) H locs la hl hP hS) (fun q => kf (fun z => z (by first | exact (iI_eq h1 (b := 0) ⟨by omega, by omega⟩).mp q | exact (iI_eq h1 (b := 0) ⟨by omega, by omega⟩).mp (Decidable.not_not.mp q))) H locs la hl hP hS)
theorem r_icmp_lt (C : PC X sh G M Q) {off : Int} {tgt : Nat} {x y : Int} (ht : (pc : Int) + off = (tgt : Int)) (h1 : InI x) (h2 : InI y) (hd : decode M.2.1 pc = .ok (.if_icmp .lt off, 3)) (kt : x < y → PW X sh G tgt ls st σ) (kf : ¬ (x < y) → PW X sh G (pc + 3) ls st σ) : PW X sh G pc ls (vI y :: vI x :: st) σ := by
  obtain ⟨p, l, e, R, s, m, args, below, meth, c, A, Z, n⟩ := X
  obtain ⟨hx, hb, ⟨hml, rfl⟩, hown, hts, hr, hlk, hK, hD, hA, hR, hZ⟩ := C
  intro H locs la hl hP hS
  exact lv_icmp_lt hx hb hd ht (fun q => kt ((iI_lt h1 h2).mp q) H locs la hl hP hS) (fun q => kf (fun z => q ((iI_lt h1 h2).mpr z)) H locs la hl hP hS)
theorem r_if_lt (C : PC X sh G M Q) {off : Int} {tgt : Nat} {x : Int} (ht : (pc : Int) + off = (tgt : Int)) (h1 : InI x) (hd : decode M.2.1 pc = .ok (.ifCond .lt off, 3)) (kt : x < 0 → PW X sh G tgt ls st σ) (kf : ¬ (x < 0) → PW X sh G (pc + 3) ls st σ) : PW X sh G pc ls (vI x :: st) σ := by
  obtain ⟨p, l, e, R, s, m, args, below, meth, c, A, Z, n⟩ := X
  obtain ⟨hx, hb, ⟨hml, rfl⟩, hown, hts, hr, hlk, hK, hD, hA, hR, hZ⟩ := C
  intro H locs la hl hP hS
  exact lv_if_lt hx hb hd ht (fun q => kt ((iI_lt h1 (b := 0) ⟨by omega, by omega⟩).mp q) H locs la hl hP hS) (fun q => kf (fun z => q ((iI_lt h1 (b := 0) ⟨by omega, by omega⟩).mpr z)) H locs la hl hP hS)
theorem r_icmp_ge (C : PC X sh G M Q) {off : Int} {tgt : Nat} {x y : Int} (ht : (pc : Int) + off = (tgt : Int)) (h1 : InI x) (h2 : InI y) (hd : decode M.2.1 pc = .ok (.if_icmp .ge off, 3)) (kt : y ≤ x → PW X sh G tgt ls st σ) (kf : ¬ (y ≤ x) → PW X sh G (pc + 3) ls st σ) : PW X sh G pc ls (vI y :: vI x :: st) σ := by
  obtain ⟨p, l, e, R, s, m, args, below, meth, c, A, Z, n⟩ := X
  obtain ⟨hx, hb, ⟨hml, rfl⟩, hown, hts, hr, hlk, hK, hD, hA, hR, hZ⟩ := C
  intro H locs la hl hP hS
  exact lv_icmp_ge hx hb hd ht (fun q => kt ((iI_le h2 h1).mp q) H locs la hl hP hS) (fun q => kf (fun z => q ((iI_le h2 h1).mpr z)) H locs la hl hP hS)
theorem r_if_ge (C : PC X sh G M Q) {off : Int} {tgt : Nat} {x : Int} (ht : (pc : Int) + off = (tgt : Int)) (h1 : InI x) (hd : decode M.2.1 pc = .ok (.ifCond .ge off, 3)) (kt : 0 ≤ x → PW X sh G tgt ls st σ) (kf : ¬ (0 ≤ x) → PW X sh G (pc + 3) ls st σ) : PW X sh G pc ls (vI x :: st) σ := by
  obtain ⟨p, l, e, R, s, m, args, below, meth, c, A, Z, n⟩ := X
  obtain ⟨hx, hb, ⟨hml, rfl⟩, hown, hts, hr, hlk, hK, hD, hA, hR, hZ⟩ := C
  intro H locs la hl hP hS
  exact lv_if_ge hx hb hd ht (fun q => kt ((iI_le (a := 0) ⟨by omega, by omega⟩ h1).mp q) H locs la hl hP hS) (fun q => kf (fun z => q ((iI_le (a := 0) ⟨by omega, by omega⟩ h1).mpr z)) H locs la hl hP hS)
theorem r_icmp_gt (C : PC X sh G M Q) {off : Int} {tgt : Nat} {x y : Int} (ht : (pc : Int) + off = (tgt : Int)) (h1 : InI x) (h2 : InI y) (hd : decode M.2.1 pc = .ok (.if_icmp .gt off, 3)) (kt : y < x → PW X sh G tgt ls st σ) (kf : ¬ (y < x) → PW X sh G (pc + 3) ls st σ) : PW X sh G pc ls (vI y :: vI x :: st) σ := by
  obtain ⟨p, l, e, R, s, m, args, below, meth, c, A, Z, n⟩ := X
  obtain ⟨hx, hb, ⟨hml, rfl⟩, hown, hts, hr, hlk, hK, hD, hA, hR, hZ⟩ := C
  intro H locs la hl hP hS
  exact lv_icmp_gt hx hb hd ht (fun q => kt ((iI_lt h2 h1).mp q) H locs la hl hP hS) (fun q => kf (fun z => q ((iI_lt h2 h1).mpr z)) H locs la hl hP hS)
theorem r_if_gt (C : PC X sh G M Q) {off : Int} {tgt : Nat} {x : Int} (ht : (pc : Int) + off = (tgt : Int)) (h1 : InI x) (hd : decode M.2.1 pc = .ok (.ifCond .gt off, 3)) (kt : 0 < x → PW X sh G tgt ls st σ) (kf : ¬ (0 < x) → PW X sh G (pc + 3) ls st σ) : PW X sh G pc ls (vI x :: st) σ := by
  obtain ⟨p, l, e, R, s, m, args, below, meth, c, A, Z, n⟩ := X
  obtain ⟨hx, hb, ⟨hml, rfl⟩, hown, hts, hr, hlk, hK, hD, hA, hR, hZ⟩ := C
  intro H locs la hl hP hS
  exact lv_if_gt hx hb hd ht (fun q => kt ((iI_lt (a := 0) ⟨by omega, by omega⟩ h1).mp q) H locs la hl hP hS) (fun q => kf (fun z => q ((iI_lt (a := 0) ⟨by omega, by omega⟩ h1).mpr z)) H locs la hl hP hS)
theorem r_icmp_le (C : PC X sh G M Q) {off : Int} {tgt : Nat} {x y : Int} (ht : (pc : Int) + off = (tgt : Int)) (h1 : InI x) (h2 : InI y) (hd : decode M.2.1 pc = .ok (.if_icmp .le off, 3)) (kt : x ≤ y → PW X sh G tgt ls st σ) (kf : ¬ (x ≤ y) → PW X sh G (pc + 3) ls st σ) : PW X sh G pc ls (vI y :: vI x :: st) σ := by
  obtain ⟨p, l, e, R, s, m, args, below, meth, c, A, Z, n⟩ := X
  obtain ⟨hx, hb, ⟨hml, rfl⟩, hown, hts, hr, hlk, hK, hD, hA, hR, hZ⟩ := C
  intro H locs la hl hP hS
  exact lv_icmp_le hx hb hd ht (fun q => kt ((iI_le h1 h2).mp q) H locs la hl hP hS) (fun q => kf (fun z => q ((iI_le h1 h2).mpr z)) H locs la hl hP hS)
theorem r_if_le (C : PC X sh G M Q) {off : Int} {tgt : Nat} {x : Int} (ht : (pc : Int) + off = (tgt : Int)) (h1 : InI x) (hd : decode M.2.1 pc = .ok (.ifCond .le off, 3)) (kt : x ≤ 0 → PW X sh G tgt ls st σ) (kf : ¬ (x ≤ 0) → PW X sh G (pc + 3) ls st σ) : PW X sh G pc ls (vI x :: st) σ := by
  obtain ⟨p, l, e, R, s, m, args, below, meth, c, A, Z, n⟩ := X
  obtain ⟨hx, hb, ⟨hml, rfl⟩, hown, hts, hr, hlk, hK, hD, hA, hR, hZ⟩ := C
  intro H locs la hl hP hS
  exact lv_if_le hx hb hd ht (fun q => kt ((iI_le h1 (b := 0) ⟨by omega, by omega⟩).mp q) H locs la hl hP hS) (fun q => kf (fun z => q ((iI_le h1 (b := 0) ⟨by omega, by omega⟩).mpr z)) H locs la hl hP hS)
theorem r_lcmp (C : PC X sh G M Q) {x y z : Int} (h : lg_cmp (lI x) (lI y) = iI z) (hd : decode M.2.1 pc = .ok (.lcmp, 1)) (k : PW X sh G (pc + 1) ls (vI z :: st) σ) : PW X sh G pc ls (vL y :: vL x :: st) σ := by
  obtain ⟨p, l, e, R, s, m, args, below, meth, c, A, Z, n⟩ := X
  obtain ⟨hx, hb, ⟨hml, rfl⟩, hown, hts, hr, hlk, hK, hD, hA, hR, hZ⟩ := C
  intro H locs la hl hP hS
  exact W.lcmp hx hb hd (by rw [h]; exact k H locs la hl hP hS)
theorem r_tableIn (C : PC X sh G M Q) {dflt lo hi : Int} {offs : Array Int} {len : Nat} {x off : Int} {tgt : Nat} (h0 : InI x) (h1 : ¬ x < lo) (h2 : ¬ hi < x) (ho : offs[(x - lo).toNat]? = some off) (ht : (pc : Int) + off = (tgt : Int)) (hd : decode M.2.1 pc = .ok (.tableswitch dflt lo hi offs, len)) (k : PW X sh G tgt ls st σ) : PW X sh G pc ls (vI x :: st) σ := by
  obtain ⟨p, l, e, R, s, m, args, below, meth, c, A, Z, n⟩ := X
  obtain ⟨hx, hb, ⟨hml, rfl⟩, hown, hts, hr, hlk, hK, hD, hA, hR, hZ⟩ := C
  intro H locs la hl hP hS
  exact lv_tableIn hx hb hd (by rw [iI_t h0]; exact h1) (by rw [iI_t h0]; exact h2) (by rw [iI_t h0]; exact ho) ht (k H locs la hl hP hS)
theorem r_tableOut (C : PC X sh G M Q) {dflt lo hi : Int} {offs : Array Int} {len : Nat} {x : Int} {tgt : Nat} (h0 : InI x) (h1 : x < lo ∨ hi < x) (ht : (pc : Int) + dflt = (tgt : Int)) (hd : decode M.2.1 pc = .ok (.tableswitch dflt lo hi offs, len)) (k : PW X sh G tgt ls st σ) : PW X sh G pc ls (vI x :: st) σ := by
  obtain ⟨p, l, e, R, s, m, args, below, meth, c, A, Z, n⟩ := X
  obtain ⟨hx, hb, ⟨hml, rfl⟩, hown, hts, hr, hlk, hK, hD, hA, hR, hZ⟩ := C
  intro H locs la hl hP hS
  exact lv_tableOut hx hb hd (by rw [iI_t h0]; exact h1) ht (k H locs la hl hP hS)
theorem r_lookup (C : PC X sh G M Q) {dflt : Int} {ps : Array (Int × Int)} {len : Nat} {x off : Int} {tgt : Nat} (h0 : InI x) (hp : (ps.toList.zip (ps.toList.drop 1)).all (fun (a, next) => a.1 < next.1) = true) (ho : Op.lookupswitch.offset ps.toList dflt x = off) (ht : (pc : Int) + off = (tgt : Int)) (hd : decode M.2.1 pc = .ok (.lookupswitch dflt ps, len)) (k : PW X sh G tgt ls st σ) : PW X sh G pc ls (vI x :: st) σ := by
  obtain ⟨p, l, e, R, s, m, args, below, meth, c, A, Z, n⟩ := X
  obtain ⟨hx, hb, ⟨hml, rfl⟩, hown, hts, hr, hlk, hK, hD, hA, hR, hZ⟩ := C
  intro H locs la hl hP hS
  exact lv_lookup hx hb hd hp (by rw [iI_t h0]; exact ho) ht (k H locs la hl hP hS)
theorem r_getI (C : PC X sh G M Q) {idx k : Nat} {fs : List (Option Nat)} {Cn : String} {T : u_T} {N : Nat} (ci j : Nat) (hsh : sh[k]? = some (.inl (ci, fs))) (hc : vwCl[ci]? = some (Cn, T, N)) (hj : j < N) (hf : fs[j]? = some none) (hin : ∀ w ∈ u_ws Cn T N, w ∈ ALLW) (hw : Cond.fieldLink M.1.cls idx (T j).1 (T j).2.1 (T j).2.2.1 ∈ ALLW) (hd : decode M.2.1 pc = .ok (.getfield idx, 3)) (kk : PW X sh G (pc + 3) ls (vI (σ k (j : Int)) :: st) σ) : PW X sh G pc ls (.ref (G.2.1 k) :: st) σ := by
  obtain ⟨p, l, e, R, s, m, args, below, meth, c, A, Z, n⟩ := X
  obtain ⟨hx, hb, ⟨hml, rfl⟩, hown, hts, hr, hlk, hK, hD, hA, hR, hZ⟩ := C
  intro H locs la hl hP hS
  exact va_get (D := G.1) (ci := ci) (v := vI (σ k (j : Int))) (C := Cn) (T := T) (N := N) hx hb hts hin hown hK.1 hP k (pw_at hsh) hc j hj (hts _ hw) (fun _ h9 => h9) (by simp [pw_f, List.getElem?_mapIdx, hf]) hd (kk H locs la hl hP hS)
theorem r_getR (C : PC X sh G M Q) {idx k k2 : Nat} {fs : List (Option Nat)} {Cn : String} {T : u_T} {N : Nat} (ci j : Nat) (hsh : sh[k]? = some (.inl (ci, fs))) (hc : vwCl[ci]? = some (Cn, T, N)) (hj : j < N) (hf : fs[j]? = some (some k2)) (hin : ∀ w ∈ u_ws Cn T N, w ∈ ALLW) (hw : Cond.fieldLink M.1.cls idx (T j).1 (T j).2.1 (T j).2.2.1 ∈ ALLW) (hd : decode M.2.1 pc = .ok (.getfield idx, 3)) (kk : PW X sh G (pc + 3) ls (.ref (G.2.1 k2) :: st) σ) : PW X sh G pc ls (.ref (G.2.1 k) :: st) σ := by
  obtain ⟨p, l, e, R, s, m, args, below, meth, c, A, Z, n⟩ := X
  obtain ⟨hx, hb, ⟨hml, rfl⟩, hown, hts, hr, hlk, hK, hD, hA, hR, hZ⟩ := C
  intro H locs la hl hP hS
  exact va_get (D := G.1) (ci := ci) (v := .ref (G.2.1 k2)) (C := Cn) (T := T) (N := N) hx hb hts hin hown hK.1 hP k (pw_at hsh) hc j hj (hts _ hw) (fun _ h9 => h9) (by simp [pw_f, List.getElem?_mapIdx, hf]) hd (kk H locs la hl hP hS)
theorem pw_fset {ad : Nat → Nat} {fs : List (Option Nat)} {σ : pw_H} {k j : Nat} {x : Int} (hf : fs[j]? = some none) : (fs.mapIdx (pw_f ad (σ k))).set j (.int (iI x)) = fs.mapIdx (pw_f ad (pw_u σ k (j : Int) x k)) := by
  apply List.ext_getElem?
  intro i
  rw [List.getElem?_set]
  have hk : j < fs.length := (List.getElem?_eq_some_iff.mp hf).1
  by_cases hi : j = i
  · subst hi
    rw [if_pos rfl, if_pos (by simpa using hk), List.getElem?_mapIdx, hf]
    simp [pw_f, pw_u]
  · rw [if_neg hi]
    simp only [List.getElem?_mapIdx]
    cases fs[i]? with
    | none => rfl
    | some r => cases r with
      | none => simp only [Option.map_some, pw_f]; rw [pw_u_j (by omega)]
      | some r => rfl
theorem r_putI (C : PC X sh G M Q) {idx k : Nat} {fs : List (Option Nat)} {Cn : String} {T : u_T} {N : Nat} {x : Int} (ci j : Nat) (ty0 : Nat → FieldType) (hty : ∀ k, k < N → parseFieldDescriptor (T k).2.2.1 = some (ty0 k)) (hnm : ∀ a, a < N → ∀ b, b < N → a ≠ b → (T a).2.1 ≠ (T b).2.1) (hsh : sh[k]? = some (.inl (ci, fs))) (hc : vwCl[ci]? = some (Cn, T, N)) (hj : j < N) (hf : fs[j]? = some none) (hin : ∀ w ∈ u_ws Cn T N, w ∈ ALLW) (hw : Cond.fieldLink M.1.cls idx (T j).1 (T j).2.1 (T j).2.2.1 ∈ ALLW) (hfin : (T j).2.2.2 = false) (hint : (T j).2.2.1 = "I") (hd : decode M.2.1 pc = .ok (.putfield idx, 3)) (kk : PW X sh G (pc + 3) ls st (pw_u σ k (j : Int) x)) : PW X sh G pc ls (vI x :: .ref (G.2.1 k) :: st) σ := by
  obtain ⟨p, l, e, R, s, m, args, below, meth, c, A, Z, n⟩ := X
  obtain ⟨hx, hb, ⟨hml, rfl⟩, hown, hts, hr, hlk, hK, hD, hA, hR, hZ⟩ := C
  intro H locs la hl hP hS
  refine va_put (D := G.1) (ci := ci) (v := vI x) (ty := .int) (C := Cn) (T := T) (N := N) hx hb hts hin ty0 hty hnm hown hK.1 hP (pw_dom hD) hS k (pw_at hsh) hc j hj (hts _ hw) (fun _ h9 => h9) hfin (by rw [hint]; decide +kernel) rfl rfl (by simp; exact (List.getElem?_eq_some_iff.mp hf).1) hd (fun H locs hP hD hS => ?_)
  have e : (pw_w sh G σ).set k (G.2.1 k, .inr (ci, (fs.mapIdx (pw_f G.2.1 (σ k))).set j (vI x))) = pw_w sh G (pw_u σ k (j : Int) x) := by
    rw [pw_fset hf]; exact pw_set hsh
  exact kk H locs la hl (e ▸ hP) hS
theorem r_iaload (C : PC X sh G M Q) {k n : Nat} {z : Int} (hsh : sh[k]? = some (.inr (false, n))) (hn : n < 2147483648) (hz : 0 ≤ z ∧ z < n) (hd : decode M.2.1 pc = .ok (.iaload, 1)) (kk : PW X sh G (pc + 1) ls (vI (σ k z) :: st) σ) : PW X sh G pc ls (vI z :: .ref (G.2.1 k) :: st) σ := by
  obtain ⟨p, l, e, R, s, m, args, below, meth, c, A, Z, n⟩ := X
  obtain ⟨hx, hb, ⟨hml, rfl⟩, hown, hts, hr, hlk, hK, hD, hA, hR, hZ⟩ := C
  intro H locs la hl hP hS
  refine va_iald (D := G.1) hx hb hK.1 hP k 0 (pw_at hsh) rfl (iI_in hn hz.1 hz.2) hd ?_
  have e : ((((iI z).toNatClampNeg : Nat)) : Int) = z := iI_cl ⟨by omega, by omega⟩ hz.1
  rw [e]
  exact kk H locs la hl hP hS
theorem r_laload (C : PC X sh G M Q) {k n : Nat} {z : Int} (hsh : sh[k]? = some (.inr (true, n))) (hn : n < 2147483648) (hz : 0 ≤ z ∧ z < n) (hd : decode M.2.1 pc = .ok (.laload, 1)) (kk : PW X sh G (pc + 1) ls (vL (σ k z) :: st) σ) : PW X sh G pc ls (vI z :: .ref (G.2.1 k) :: st) σ := by
  obtain ⟨p, l, e, R, s, m, args, below, meth, c, A, Z, n⟩ := X
  obtain ⟨hx, hb, ⟨hml, rfl⟩, hown, hts, hr, hlk, hK, hD, hA, hR, hZ⟩ := C
  intro H locs la hl hP hS
  refine va_lald (D := G.1) hx hb hK.1 hP k 1 (pw_at hsh) rfl (iI_in hn hz.1 hz.2) hd ?_
  have e : ((((iI z).toNatClampNeg : Nat)) : Int) = z := iI_cl ⟨by omega, by omega⟩ hz.1
  rw [e]
  exact kk H locs la hl hP hS
theorem r_iastore (C : PC X sh G M Q) {k n : Nat} {z x : Int} (hsh : sh[k]? = some (.inr (false, n))) (hn : n < 2147483648) (hz : 0 ≤ z ∧ z < n) (hd : decode M.2.1 pc = .ok (.iastore, 1)) (kk : PW X sh G (pc + 1) ls st (pw_u σ k z x)) : PW X sh G pc ls (vI x :: vI z :: .ref (G.2.1 k) :: st) σ := by
  obtain ⟨p, l, e, R, s, m, args, below, meth, c, A, Z, n⟩ := X
  obtain ⟨hx, hb, ⟨hml, rfl⟩, hown, hts, hr, hlk, hK, hD, hA, hR, hZ⟩ := C
  intro H locs la hl hP hS
  refine va_iast (D := G.1) hx hb hK.1 hP (pw_dom hD) hS k 0 (pw_at hsh) rfl (iI_in hn hz.1 hz.2) hd (fun H locs hP hD hS => ?_)
  have e : ((((iI z).toNatClampNeg : Nat)) : Int) = z := iI_cl ⟨by omega, by omega⟩ hz.1
  have e2 : upd (fun (j : Nat) => iI (σ k (j : Int))) (iI z).toNatClampNeg (iI x) = fun (j : Nat) => iI (pw_u σ k z x k (j : Int)) := by
    funext j
    by_cases q : j = (iI z).toNatClampNeg
    · rw [q, pk_us, e, pw_u_s]
    · rw [pk_un q, pw_u_j (by omega)]
  rw [e2] at hP
  exact kk H locs la hl (pw_set hsh ▸ hP) hS
theorem r_lastore (C : PC X sh G M Q) {k n : Nat} {z x : Int} (hsh : sh[k]? = some (.inr (true, n))) (hn : n < 2147483648) (hz : 0 ≤ z ∧ z < n) (hd : decode M.2.1 pc = .ok (.lastore, 1)) (kk : PW X sh G (pc + 1) ls st (pw_u σ k z x)) : PW X sh G pc ls (vL x :: vI z :: .ref (G.2.1 k) :: st) σ := by
  obtain ⟨p, l, e, R, s, m, args, below, meth, c, A, Z, n⟩ := X
  obtain ⟨hx, hb, ⟨hml, rfl⟩, hown, hts, hr, hlk, hK, hD, hA, hR, hZ⟩ := C
  intro H locs la hl hP hS
  refine va_last (D := G.1) hx hb hK.1 hP (pw_dom hD) hS k 1 (pw_at hsh) rfl (iI_in hn hz.1 hz.2) hd (fun H locs hP hD hS => ?_)
  have e : ((((iI z).toNatClampNeg : Nat)) : Int) = z := iI_cl ⟨by omega, by omega⟩ hz.1
  have e2 : vp_updL (fun (j : Nat) => lI (σ k (j : Int))) (iI z).toNatClampNeg (lI x) = fun (j : Nat) => lI (pw_u σ k z x k (j : Int)) := by
    funext j
    by_cases q : j = (iI z).toNatClampNeg
    · rw [q, pk_uLs, e, pw_u_s]
    · rw [pk_uLn q, pw_u_j (by omega)]
  rw [e2] at hP
  exact kk H locs la hl (pw_set hsh ▸ hP) hS
theorem r_alen (C : PC X sh G M Q) {k n : Nat} {b : Bool} (hsh : sh[k]? = some (.inr (b, n))) (hd : decode M.2.1 pc = .ok (.arraylength, 1)) (kk : PW X sh G (pc + 1) ls (vI (n : Int) :: st) σ) : PW X sh G pc ls (.ref (G.2.1 k) :: st) σ := by
  obtain ⟨p, l, e, R, s, m, args, below, meth, c, A, Z, n⟩ := X
  obtain ⟨hx, hb, ⟨hml, rfl⟩, hown, hts, hr, hlk, hK, hD, hA, hR, hZ⟩ := C
  intro H locs la hl hP hS
  cases b with
  | false => exact va_alen (D := G.1) hx hb hK.1 hP k 0 (pw_at hsh) rfl (iI_nat n) hd (kk H locs la hl hP hS)
  | true => exact va_alen (D := G.1) hx hb hK.1 hP k 1 (pw_at hsh) rfl (iI_nat n) hd (kk H locs la hl hP hS)
/-! answers -/
theorem pw_ans {X : PXT} {A : Nat → Prop} {s t : State} {H : Heap} {locs : List Loc} {args : Array Value} {v : Option Value} (hQ : Q v σ) (ht : t.heap = H) (hP : va_P G.1 vwCl (pw_w sh G σ) H) (hS : va_S A s.heap H locs) : pw_Q sh G Q A args s (.returned v) t :=
  ⟨⟨v, σ, rfl, hQ, by unfold pw_B; rw [ht]; exact hP⟩, hS.F ht⟩
theorem r_ireturn {Q : Option Value → pw_H → Prop} (C : PC X sh G M Q) (hret : M.2.2.2.1 = some .int) {x : Int} (hQ : Q (some (vI x)) σ) (hd : decode M.2.1 pc = .ok (.ireturn, 1)) : PW X sh G pc ls [vI x] σ := by
  obtain ⟨p, l, e, R, s, m, args, below, meth, c, A, Z, n⟩ := X
  obtain ⟨hx, hb, ⟨hml, rfl⟩, hown, hts, hr, hlk, hK, hD, hA, hR, hZ⟩ := C
  intro H locs la hl hP hS
  subst hZ
  exact W.iret hx hb (hr.trans hret) (fun t ht _ => pw_ans (X := (p, l, e, R, s, m, args, below, meth, c, A, (fun _ => True), 0)) hQ ht hP hS) hS.2.2 hd
theorem r_zreturn {Q : Option Value → pw_H → Prop} (C : PC X sh G M Q) (hret : M.2.2.2.1 = some .boolean) {x : Int} (h01 : x = 0 ∨ x = 1) (hQ : Q (some (vI x)) σ) (hd : decode M.2.1 pc = .ok (.ireturn, 1)) : PW X sh G pc ls [vI x] σ := by
  obtain ⟨p, l, e, R, s, m, args, below, meth, c, A, Z, n⟩ := X
  obtain ⟨hx, hb, ⟨hml, rfl⟩, hown, hts, hr, hlk, hK, hD, hA, hR, hZ⟩ := C
  intro H locs la hl hP hS
  subst hZ
  exact W.zret hx hb (hr.trans hret) (by rcases h01 with rfl | rfl <;> rfl) (fun t ht _ => pw_ans (X := (p, l, e, R, s, m, args, below, meth, c, A, (fun _ => True), 0)) hQ ht hP hS) hS.2.2 hd
theorem r_lreturn {Q : Option Value → pw_H → Prop} (C : PC X sh G M Q) (hret : M.2.2.2.1 = some .long) {x : Int} (hQ : Q (some (vL x)) σ) (hd : decode M.2.1 pc = .ok (.lreturn, 1)) : PW X sh G pc ls [vL x] σ := by
  obtain ⟨p, l, e, R, s, m, args, below, meth, c, A, Z, n⟩ := X
  obtain ⟨hx, hb, ⟨hml, rfl⟩, hown, hts, hr, hlk, hK, hD, hA, hR, hZ⟩ := C
  intro H locs la hl hP hS
  subst hZ
  exact W.lret hx hb (hr.trans hret) (fun t ht _ => pw_ans (X := (p, l, e, R, s, m, args, below, meth, c, A, (fun _ => True), 0)) hQ ht hP hS) hS.2.2 hd
theorem r_return {Q : Option Value → pw_H → Prop} (C : PC X sh G M Q) (hret : M.2.2.2.1 = none) (hQ : Q none σ) (hd : decode M.2.1 pc = .ok (.return_, 1)) : PW X sh G pc ls [] σ := by
  obtain ⟨p, l, e, R, s, m, args, below, meth, c, A, Z, n⟩ := X
  obtain ⟨hx, hb, ⟨hml, rfl⟩, hown, hts, hr, hlk, hK, hD, hA, hR, hZ⟩ := C
  intro H locs la hl hP hS
  subst hZ
  exact W.vret hx hb (hr.trans hret) (fun t ht _ => pw_ans (X := (p, l, e, R, s, m, args, below, meth, c, A, (fun _ => True), 0)) hQ ht hP hS) hS.2.2 hd
/-! calls -/
theorem pw_go {p : Program} {l : Launch} {e : Env} {R : Room} {s : State} {m : MethodId} {args : Array Value} {below : List Frame} {meth : Method} {c : Code} {H : Heap} {locs : List Loc} {A : Nat → Prop} {Z : State → Prop} {la : Array Slot} {st0 rest : List Value} {a : Array Value} {Q2 : Option Value → pw_H → Prop}
    (hr : va_Run p l e R s m args below meth c H locs 0 0 0 0 (F0 m pc la st0) rest (pw_Q sh G Q2 (va_A (pw_w sh G σ) H.size) a) (va_A (pw_w sh G σ) H.size)) (hS : va_S A s.heap H locs) (hA : ∀ q, va_A (pw_w sh G σ) H.size q → A q)
    (kk : ∀ (v : Option Value) (τ : pw_H) (H1 : Heap) (locs1 : List Loc), Q2 v τ → va_P G.1 vwCl (pw_w sh G τ) H1 → va_S A s.heap H1 locs1 → W p l e R s m args below meth c H1 locs1 0 0 Z (F0 m (pc + 3) la (v.toList ++ rest))) : W p l e R s m args below meth c H locs 0 0 Z (F0 m pc la st0) := by
  intro T hT Y
  obtain ⟨v, st₀, t, T', L, h0, Y', hL, e1, e2, ⟨⟨v', τ, hv, hp, hb⟩, hz, hk⟩, st⟩ := hr T hT Y
  cases hv
  rw [h0] at hz hk
  unfold pw_B at hb
  rw [← e1] at hb hz hk
  obtain ⟨t2, a1, b1⟩ := kk v τ T'.heap (locs ++ L) hp hb
    ⟨Nat.le_trans hS.1 hz, fun q h1 h2 => by rw [hk q (Nat.lt_of_lt_of_le h1 hS.1) (fun z => h2 (hA q z))]; exact hS.2.1 q h1 h2, fun q hq => by
      rcases List.mem_append.mp hq with h | h
      · exact hS.2.2 q h
      · exact hA _ (hL q h)⟩ T' rfl Y'
  exact ⟨t2, st t2 a1, b1⟩
theorem pw_free {A : Nat → Prop} {H0 H : Heap} {locs : List Loc} (hD : va_D A (pw_w sh G (fun _ _ => 0))) (hS : va_S A H0 H locs) (hA : ∀ q, H0.size ≤ q → A q) : ∀ q, va_A (pw_w sh G σ) H.size q → A q := by
  intro q h
  rcases h with ⟨k, e, h⟩ | h
  · exact (pw_dom (τ := σ) hD).2 k (q, e) h
  · exact hA q (Nat.le_trans hS.1 h)
theorem pw_blind {As : List Value} {sz : Nat} : FrameBlind (va_Pc As (pw_P sh G σ sz)) := fun a U g mk q => by
  obtain ⟨q0, q1, qP, qK, qD⟩ := q
  exact ⟨q0, q1, qP, qK.same, qD⟩
/-- a call of a static method of any class -/
theorem r_callS (C : PC X sh G M Q) {idx : Nat} {M2 : MB} {As stk : List Value} {Q2 : Option Value → pw_H → Prop} (hM : Ct X.2.1 sh G M2 As σ Q2) (hok : okS M2) (hlink : Cond.methodLink M.1.cls idx M2.1 ∈ ALLW) (hst : stk = As.reverse ++ st) (hn : As.length = M2.2.2.2.2.2.2) (hR1 : M2.2.2.2.2.1 + 1 ≤ M.2.2.2.2.1) (hR2 : 8 + (M2.2.2.1 + 11) + M2.2.2.2.2.2.1 ≤ M.2.2.2.2.2.1) (hcat : (st.map fun v => v.category).sum ≤ 8) (hd : decode M.2.1 pc = .ok (.invokestatic idx, 3)) (kk : ∀ v τ, Q2 v τ → PW X sh G (pc + 3) ls (v.toList ++ st) τ) : PW X sh G pc ls stk σ := by
  obtain ⟨p, l, e, R, s, m, args, below, meth, c, A, Z, n⟩ := X
  obtain ⟨hx, hb, ⟨hml, rfl⟩, hown, hts, hr, hlk, hK, hD, hA, ⟨hRf, hRl⟩, hZ⟩ := C
  subst hst
  intro H locs la hl hP hS
  exact pw_go (va_runS (As := As) (rest := st) ⟨hx, hb, hml, hown, hts⟩ (hM H.size) (va_cwS M2.2.2.2.2.2.2 hts (hok.good hlink) rfl rfl rfl ⟨hok.1.2.2.1.1, hok.1.2.2.1.2, hok.1.2.2.2⟩ ⟨by rw [hRf]; exact hR1, by rw [hRl]; exact hR2⟩) ⟨pw_blind, fun U hU hW => ⟨rfl, by rw [hU], by rw [hU]; exact hP, hK.alike hW, (pw_dom (τ := σ) hD).weaken (fun _ _ _ _ => trivial)⟩⟩ rfl hn hl.1 rfl (lv_room hcat) hd ⟨Nat.zero_le _, Nat.zero_le _⟩) hS (pw_free hD hS hA) (fun v τ H1 locs1 hq hP1 hS1 => kk v τ hq H1 locs1 la hl hP1 hS1)
/-- a call of an instance method: the receiver is cell k -/
theorem r_callV (C : PC X sh G M Q) {idx k ci : Nat} {M2 : MB} {As stk : List Value} {Q2 : Option Value → pw_H → Prop} {T : u_T} {N : Nat} {fs : List (Option Nat)} (hM : Ct X.2.1 sh G M2 (.ref (G.2.1 k) :: As) σ Q2) (hok : okV M2) (hlink : Cond.methodLink M.1.cls idx M2.1 ∈ ALLW) (hsh : sh[k]? = some (.inl (ci, fs))) (hc : vwCl[ci]? = some (M2.1.cls, T, N)) (hst : stk = As.reverse ++ .ref (G.2.1 k) :: st) (hn : As.length = M2.2.2.2.2.2.2) (hR1 : M2.2.2.2.2.1 + 1 ≤ M.2.2.2.2.1) (hR2 : 8 + (M2.2.2.1 + 11) + M2.2.2.2.2.2.1 ≤ M.2.2.2.2.2.1) (hcat : (st.map fun v => v.category).sum ≤ 8) (hd : decode M.2.1 pc = .ok (.invokevirtual idx, 3)) (kk : ∀ v τ, Q2 v τ → PW X sh G (pc + 3) ls (v.toList ++ st) τ) : PW X sh G pc ls stk σ := by
  obtain ⟨p, l, e, R, s, m, args, below, meth, c, A, Z, n⟩ := X
  obtain ⟨hx, hb, ⟨hml, rfl⟩, hown, hts, hr, hlk, hK, hD, hA, ⟨hRf, hRl⟩, hZ⟩ := C
  subst hst
  intro H locs la hl hP hS
  exact pw_go (va_runV (C := M2.1.cls) (As := As) (rest := st) ⟨hx, hb, hml, hown, hts⟩ (hM H.size) (cwV M2.2.2.2.2.2.2 hts (hok.good hlink) rfl rfl rfl ⟨rfl, hok.1.2.2.1.1, hok.1.2.2.1.2, hok.1.2.2.2⟩ ⟨by rw [hRf]; exact hR1, by rw [hRl]; exact hR2⟩) ⟨pw_blind, va_recv hK.1 hP hc (pw_at hsh), fun U hU hW => ⟨rfl, by rw [hU], by rw [hU]; exact hP, hK.alike hW, (pw_dom (τ := σ) hD).weaken (fun _ _ _ _ => trivial)⟩⟩ rfl hn hl.1 rfl (lv_room hcat) hd ⟨Nat.zero_le _, Nat.zero_le _⟩) hS (pw_free hD hS hA) (fun v τ H1 locs1 hq hP1 hS1 => kk v τ hq H1 locs1 la hl hP1 hS1)
/-- a call of the private static method 'leads' of the nest's host -/
theorem r_callN (C : PC X sh G M Q) {M2 : MB} {As stk : List Value} {Q2 : Option Value → pw_H → Prop} (hM : Ct X.2.1 sh G M2 As σ Q2) (hok : okS M2) (hname : M2.1 = yX5_leads) (howner : M.1.cls = RX1) (hst : stk = As.reverse ++ st) (hn : As.length = M2.2.2.2.2.2.2) (hR1 : M2.2.2.2.2.1 + 1 ≤ M.2.2.2.2.1) (hR2 : 8 + (M2.2.2.1 + 11) + M2.2.2.2.2.2.1 ≤ M.2.2.2.2.2.1) (hcat : (st.map fun v => v.category).sum ≤ 8) (hd : decode M.2.1 pc = .ok (.invokestatic 93, 3)) (kk : ∀ v τ, Q2 v τ → PW X sh G (pc + 3) ls (v.toList ++ st) τ) : PW X sh G pc ls stk σ := by
  obtain ⟨p, l, e, R, s, m, args, below, meth, c, A, Z, n⟩ := X
  obtain ⟨hx, hb, ⟨hml, rfl⟩, hown, hts, hr, hlk, hK, hD, hA, ⟨hRf, hRl⟩, hZ⟩ := C
  subst hst
  intro H locs la hl hP hS
  have hnw : va_Nw (.methodLinkNest M.1.cls 93 M2.1 RX5) s := by rw [hname, howner]; exact hK.2
  exact pw_go (va_runSN (host := RX5) (As := As) (rest := st) ⟨hx, hb, hml, hown, hts⟩ (hM H.size) ⟨va_cnB M2.2.2.2.2.2.2 hts hok.1.good rfl rfl rfl hnw (hts _ hok.1.1) ⟨hok.1.2.2.1.1, hok.1.2.2.1.2, hok.1.2.2.2⟩ ⟨by rw [hRf]; exact hR1, by rw [hRl]; exact hR2⟩, hts _ hok.2, trivial⟩ ⟨pw_blind, fun U hU hW => ⟨rfl, by rw [hU], by rw [hU]; exact hP, hK.alike hW, (pw_dom (τ := σ) hD).weaken (fun _ _ _ _ => trivial)⟩⟩ rfl hn hl.1 rfl (lv_room hcat) hd ⟨Nat.zero_le _, Nat.zero_le _⟩) hS (pw_free hD hS hA) (fun v τ H1 locs1 hq hP1 hS1 => kk v τ hq H1 locs1 la hl hP1 hS1)
theorem r_mabs (C : PC X sh G M Q) {idx : Nat} {x : Int} (h1 : InI x) (w1 : Cond.methodLink M.1.cls idx Lib.Math.abs.name ∈ ALLW) (w2 : Cond.static Lib.Math.abs.name ∈ ALLW) (w3 : Cond.initialized "java/lang/Math" ∈ ALLW) (w4 : Cond.code Lib.Math.abs.name Lib.Math.abs.code 1 (some .int) ∈ ALLW) (hf : 1 ≤ M.2.2.2.2.1) (hlo : (st.map fun v => v.category).sum + 13 ≤ M.2.2.2.2.2.1) (hd : decode M.2.1 pc = .ok (.invokestatic idx, 3)) (k : PW X sh G (pc + 3) ls (vI (zabs x) :: st) σ) : PW X sh G pc ls (vI x :: st) σ := by
  obtain ⟨p, l, e, R, s, m, args, below, meth, c, A, Z, n⟩ := X
  obtain ⟨hx, hb, ⟨hml, rfl⟩, hown, hts, hr, hlk, hK, hD, hA, ⟨hRf, hRl⟩, hZ⟩ := C
  intro H locs la hl hP hS
  refine va_mabs hx hb (hml.trans hl.1.symm) hown (hts _ w1) (hts _ w2) (hts _ w3) (hts _ w4) (by rw [hRf]; exact hf) (by rw [hRl]; exact hlo) (Nat.zero_le _) (Nat.zero_le _) hd ?_
  have e : (if 0 ≤ iI x then iI x else 0 - iI x) = iI (zabs x) := by
    rw [← iI_0]
    simp only [iI_le (a := 0) ⟨by omega, by omega⟩ h1, iI_sub, zabs]
    by_cases q : 0 ≤ x
    · rw [if_pos q, if_neg (by omega)]
    · rw [if_neg q, if_pos (by omega), Int.zero_sub]
  rw [e]
  exact k H locs la hl hP hS
theorem r_mmin (C : PC X sh G M Q) {idx : Nat} {x y : Int} (h1 : InI x) (h2 : InI y) (w1 : Cond.methodLink M.1.cls idx Lib.Math.min.name ∈ ALLW) (w2 : Cond.static Lib.Math.min.name ∈ ALLW) (w3 : Cond.initialized "java/lang/Math" ∈ ALLW) (w4 : Cond.code Lib.Math.min.name Lib.Math.min.code 2 (some .int) ∈ ALLW) (hf : 1 ≤ M.2.2.2.2.1) (hlo : (st.map fun v => v.category).sum + 13 ≤ M.2.2.2.2.2.1) (hd : decode M.2.1 pc = .ok (.invokestatic idx, 3)) (k : PW X sh G (pc + 3) ls (vI (zmin x y) :: st) σ) : PW X sh G pc ls (vI y :: vI x :: st) σ := by
  obtain ⟨p, l, e, R, s, m, args, below, meth, c, A, Z, n⟩ := X
  obtain ⟨hx, hb, ⟨hml, rfl⟩, hown, hts, hr, hlk, hK, hD, hA, ⟨hRf, hRl⟩, hZ⟩ := C
  intro H locs la hl hP hS
  refine va_mmin hx hb (hml.trans hl.1.symm) hown (hts _ w1) (hts _ w2) (hts _ w3) (hts _ w4) (by rw [hRf]; exact hf) (by rw [hRl]; exact hlo) (Nat.zero_le _) (Nat.zero_le _) hd ?_
  have e : (if iI y < iI x then iI y else iI x) = iI (zmin x y) := by
    simp only [iI_lt h2 h1, zmin]
    by_cases q : y < x
    · rw [if_pos q, if_pos q]
    · rw [if_neg q, if_neg q]
  rw [e]
  exact k H locs la hl hP hS
theorem r_mminL (C : PC X sh G M Q) {idx : Nat} {x y : Int} (h1 : InL x) (h2 : InL y) (w1 : Cond.methodLink M.1.cls idx Lib.MathLoose.min_long.x ∈ ALLW) (w2 : Cond.static Lib.MathLoose.min_long.x ∈ ALLW) (w3 : Cond.initialized "java/lang/Math" ∈ ALLW) (w4 : Cond.code Lib.MathLoose.min_long.x Lib.MathLoose.min_long.code 4 (some .long) ∈ ALLW) (hf : 1 ≤ M.2.2.2.2.1) (hlo : (st.map fun v => v.category).sum + 15 ≤ M.2.2.2.2.2.1) (hd : decode M.2.1 pc = .ok (.invokestatic idx, 3)) (k : PW X sh G (pc + 3) ls (vL (zmin x y) :: st) σ) : PW X sh G pc ls (vL y :: vL x :: st) σ := by
  obtain ⟨p, l, e, R, s, m, args, below, meth, c, A, Z, n⟩ := X
  obtain ⟨hx, hb, ⟨hml, rfl⟩, hown, hts, hr, hlk, hK, hD, hA, ⟨hRf, hRl⟩, hZ⟩ := C
  intro H locs la hl hP hS
  refine va_mmin_long hx hb (hml.trans hl.1.symm) hown (hts _ w1) (hts _ w2) (hts _ w3) (hts _ w4) (by rw [hRf]; exact hf) (by rw [hRl]; exact hlo) (Nat.zero_le _) (Nat.zero_le _) hd ?_
  have e : (if lI y < lI x then lI y else lI x) = lI (zmin x y) := by
    simp only [lI_lt h2 h1, zmin]
    by_cases q : y < x
    · rw [if_pos q, if_pos q]
    · rw [if_neg q, if_neg q]
  rw [e]
  exact k H locs la hl hP hS
/-! a truth value on the stack -/
theorem r_ifB_eq (C : PC X sh G M Q) {off : Int} {tgt : Nat} {b : Bool} (ht : (pc : Int) + off = (tgt : Int)) (hd : decode M.2.1 pc = .ok (.ifCond .eq off, 3)) (kt : b = false → PW X sh G tgt ls st σ) (kf : b = true → PW X sh G (pc + 3) ls st σ) : PW X sh G pc ls (vI (zB b) :: st) σ :=
  r_if_eq C ht (by cases b <;> exact ⟨by decide, by decide⟩) hd (fun q => kt (by cases b <;> first | rfl | exact absurd q (by decide))) (fun q => kf (by cases b <;> first | rfl | exact absurd rfl q))
theorem r_ifB_ne (C : PC X sh G M Q) {off : Int} {tgt : Nat} {b : Bool} (ht : (pc : Int) + off = (tgt : Int)) (hd : decode M.2.1 pc = .ok (.ifCond .ne off, 3)) (kt : b = true → PW X sh G tgt ls st σ) (kf : b = false → PW X sh G (pc + 3) ls st σ) : PW X sh G pc ls (vI (zB b) :: st) σ :=
  r_if_ne C ht (by cases b <;> exact ⟨by decide, by decide⟩) hd (fun q => kt (by cases b <;> first | rfl | exact absurd rfl q)) (fun q => kf (by cases b <;> first | rfl | exact absurd (by decide) q))
theorem r_breturn {Q : Option Value → pw_H → Prop} (C : PC X sh G M Q) (hret : M.2.2.2.1 = some .boolean) {b : Bool} (hQ : Q (some (vI (zB b))) σ) (hd : decode M.2.1 pc = .ok (.ireturn, 1)) : PW X sh G pc ls [vI (zB b)] σ :=
  r_zreturn C hret (by cases b <;> first | exact Or.inl rfl | exact Or.inr rfl) hQ hd
end ROWS
end
