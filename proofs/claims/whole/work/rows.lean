section
-- ===== PART A: goes FIRST, ahead of the names: the tables' words, and 'selects' of the private methods out of them =====
/-- a private method of a class that the tables say can be made, by its rows of tables_1 -/
def lw_okq (q : MethodName × Nat) : Prop := (q.1.cls ≠ "java/lang/invoke/MethodHandle" ∧ q.1.cls ≠ "java/lang/invoke/VarHandle") ∧ Cond.instantiable q.1.cls q.2 ∈ tables_1 ∧ Cond.privateMethod q.1 ∈ tables_1 ∧ Cond.instanceMethod q.1 ∈ tables_1
theorem lw_p0 : lw_okq (⟨"StarLists$Pairing", "turnSky", "(II)V"⟩, 10) := ⟨⟨by decide +kernel, by decide +kernel⟩, List.mem_of_getElem? (i := 78) (by decide +kernel), List.mem_of_getElem? (i := 288) (by decide +kernel), List.mem_of_getElem? (i := 289) (by decide +kernel)⟩
theorem lw_p1 : lw_okq (⟨"StarLists$Pairing", "gatherFits", "(II)I"⟩, 10) := ⟨⟨by decide +kernel, by decide +kernel⟩, List.mem_of_getElem? (i := 78) (by decide +kernel), List.mem_of_getElem? (i := 333) (by decide +kernel), List.mem_of_getElem? (i := 334) (by decide +kernel)⟩
theorem lw_p2 : lw_okq (⟨"StarLists$Pairing", "takeLine", "(II)V"⟩, 10) := ⟨⟨by decide +kernel, by decide +kernel⟩, List.mem_of_getElem? (i := 78) (by decide +kernel), List.mem_of_getElem? (i := 349) (by decide +kernel), List.mem_of_getElem? (i := 350) (by decide +kernel)⟩
theorem lw_p3 : lw_okq (⟨"StarLists$Pairing", "leastKey", "(I)J"⟩, 10) := ⟨⟨by decide +kernel, by decide +kernel⟩, List.mem_of_getElem? (i := 78) (by decide +kernel), List.mem_of_getElem? (i := 356) (by decide +kernel), List.mem_of_getElem? (i := 357) (by decide +kernel)⟩
theorem lw_p4 : lw_okq (⟨"StarLists$Pairing", "readKey", "(JI)V"⟩, 10) := ⟨⟨by decide +kernel, by decide +kernel⟩, List.mem_of_getElem? (i := 78) (by decide +kernel), List.mem_of_getElem? (i := 360) (by decide +kernel), List.mem_of_getElem? (i := 361) (by decide +kernel)⟩
theorem lw_p5 : lw_okq (⟨"StarLists", "weighYears", "(IIII)I"⟩, 5) := ⟨⟨by decide +kernel, by decide +kernel⟩, List.mem_of_getElem? (i := 11) (by decide +kernel), List.mem_of_getElem? (i := 378) (by decide +kernel), List.mem_of_getElem? (i := 379) (by decide +kernel)⟩
theorem lw_p6 : lw_okq (⟨"StarLists$Pairing", "insertWay", "(II)V"⟩, 10) := ⟨⟨by decide +kernel, by decide +kernel⟩, List.mem_of_getElem? (i := 78) (by decide +kernel), List.mem_of_getElem? (i := 398) (by decide +kernel), List.mem_of_getElem? (i := 399) (by decide +kernel)⟩
theorem lw_p7 : lw_okq (⟨"StarLists$Copies", "addRow", "()V"⟩, 8) := ⟨⟨by decide +kernel, by decide +kernel⟩, List.mem_of_getElem? (i := 120) (by decide +kernel), List.mem_of_getElem? (i := 443) (by decide +kernel), List.mem_of_getElem? (i := 444) (by decide +kernel)⟩
theorem lw_p8 : lw_okq (⟨"StarLists$Copies", "join", "(II)V"⟩, 8) := ⟨⟨by decide +kernel, by decide +kernel⟩, List.mem_of_getElem? (i := 120) (by decide +kernel), List.mem_of_getElem? (i := 448) (by decide +kernel), List.mem_of_getElem? (i := 449) (by decide +kernel)⟩
theorem lw_p9 : lw_okq (⟨"StarListsModel", "isStar", "(I)Z"⟩, 20) := ⟨⟨by decide +kernel, by decide +kernel⟩, List.mem_of_getElem? (i := 469) (by decide +kernel), List.mem_of_getElem? (i := 553) (by decide +kernel), List.mem_of_getElem? (i := 554) (by decide +kernel)⟩
theorem lw_p10 : lw_okq (⟨"StarListsModel", "skyOf", "(II)I"⟩, 20) := ⟨⟨by decide +kernel, by decide +kernel⟩, List.mem_of_getElem? (i := 469) (by decide +kernel), List.mem_of_getElem? (i := 560) (by decide +kernel), List.mem_of_getElem? (i := 561) (by decide +kernel)⟩
theorem lw_p11 : lw_okq (⟨"StarListsModel", "isList", "(I)Z"⟩, 20) := ⟨⟨by decide +kernel, by decide +kernel⟩, List.mem_of_getElem? (i := 469) (by decide +kernel), List.mem_of_getElem? (i := 593) (by decide +kernel), List.mem_of_getElem? (i := 594) (by decide +kernel)⟩
theorem lw_p12 : lw_okq (⟨"StarListsModel", "isLine", "(II)Z"⟩, 20) := ⟨⟨by decide +kernel, by decide +kernel⟩, List.mem_of_getElem? (i := 469) (by decide +kernel), List.mem_of_getElem? (i := 601) (by decide +kernel), List.mem_of_getElem? (i := 602) (by decide +kernel)⟩
theorem lw_p13 : lw_okq (⟨"StarListsModel", "face", "(IIIII)V"⟩, 20) := ⟨⟨by decide +kernel, by decide +kernel⟩, List.mem_of_getElem? (i := 469) (by decide +kernel), List.mem_of_getElem? (i := 620) (by decide +kernel), List.mem_of_getElem? (i := 621) (by decide +kernel)⟩
theorem lw_p14 : lw_okq (⟨"StarListsModel", "tries", "(IIII)V"⟩, 20) := ⟨⟨by decide +kernel, by decide +kernel⟩, List.mem_of_getElem? (i := 469) (by decide +kernel), List.mem_of_getElem? (i := 625) (by decide +kernel), List.mem_of_getElem? (i := 626) (by decide +kernel)⟩
theorem lw_p15 : lw_okq (⟨"StarListsModel", "mayAsk", "(III)I"⟩, 20) := ⟨⟨by decide +kernel, by decide +kernel⟩, List.mem_of_getElem? (i := 469) (by decide +kernel), List.mem_of_getElem? (i := 640) (by decide +kernel), List.mem_of_getElem? (i := 641) (by decide +kernel)⟩
def lw_privs_1 : List (MethodName × Nat) := [(⟨"StarLists$Pairing", "turnSky", "(II)V"⟩, 10), (⟨"StarLists$Pairing", "gatherFits", "(II)I"⟩, 10), (⟨"StarLists$Pairing", "takeLine", "(II)V"⟩, 10), (⟨"StarLists$Pairing", "leastKey", "(I)J"⟩, 10), (⟨"StarLists$Pairing", "readKey", "(JI)V"⟩, 10), (⟨"StarLists", "weighYears", "(IIII)I"⟩, 5), (⟨"StarLists$Pairing", "insertWay", "(II)V"⟩, 10), (⟨"StarLists$Copies", "addRow", "()V"⟩, 8), (⟨"StarLists$Copies", "join", "(II)V"⟩, 8), (⟨"StarListsModel", "isStar", "(I)Z"⟩, 20), (⟨"StarListsModel", "skyOf", "(II)I"⟩, 20), (⟨"StarListsModel", "isList", "(I)Z"⟩, 20), (⟨"StarListsModel", "isLine", "(II)Z"⟩, 20), (⟨"StarListsModel", "face", "(IIIII)V"⟩, 20), (⟨"StarListsModel", "tries", "(IIII)V"⟩, 20), (⟨"StarListsModel", "mayAsk", "(III)I"⟩, 20)]
theorem lw_r1 : ∀ q ∈ lw_privs_1, lw_okq q := List.forall_mem_cons.mpr ⟨lw_p0, List.forall_mem_cons.mpr ⟨lw_p1, List.forall_mem_cons.mpr ⟨lw_p2, List.forall_mem_cons.mpr ⟨lw_p3, List.forall_mem_cons.mpr ⟨lw_p4, List.forall_mem_cons.mpr ⟨lw_p5, List.forall_mem_cons.mpr ⟨lw_p6, List.forall_mem_cons.mpr ⟨lw_p7, List.forall_mem_cons.mpr ⟨lw_p8, List.forall_mem_cons.mpr ⟨lw_p9, List.forall_mem_cons.mpr ⟨lw_p10, List.forall_mem_cons.mpr ⟨lw_p11, List.forall_mem_cons.mpr ⟨lw_p12, List.forall_mem_cons.mpr ⟨lw_p13, List.forall_mem_cons.mpr ⟨lw_p14, List.forall_mem_cons.mpr ⟨lw_p15, fun _ h => absurd h List.not_mem_nil⟩⟩⟩⟩⟩⟩⟩⟩⟩⟩⟩⟩⟩⟩⟩⟩
theorem lw_p16 : lw_okq (⟨"StarListsModel", "lay", "(III)I"⟩, 20) := ⟨⟨by decide +kernel, by decide +kernel⟩, List.mem_of_getElem? (i := 469) (by decide +kernel), List.mem_of_getElem? (i := 644) (by decide +kernel), List.mem_of_getElem? (i := 645) (by decide +kernel)⟩
theorem lw_p17 : lw_okq (⟨"StarListsModel", "match", "(III)V"⟩, 20) := ⟨⟨by decide +kernel, by decide +kernel⟩, List.mem_of_getElem? (i := 469) (by decide +kernel), List.mem_of_getElem? (i := 652) (by decide +kernel), List.mem_of_getElem? (i := 653) (by decide +kernel)⟩
theorem lw_p18 : lw_okq (⟨"StarListsModel", "datedTo", "(IIII)I"⟩, 20) := ⟨⟨by decide +kernel, by decide +kernel⟩, List.mem_of_getElem? (i := 469) (by decide +kernel), List.mem_of_getElem? (i := 663) (by decide +kernel), List.mem_of_getElem? (i := 664) (by decide +kernel)⟩
theorem lw_p19 : lw_okq (⟨"StarListsModel", "layFaults", "(III)V"⟩, 20) := ⟨⟨by decide +kernel, by decide +kernel⟩, List.mem_of_getElem? (i := 469) (by decide +kernel), List.mem_of_getElem? (i := 679) (by decide +kernel), List.mem_of_getElem? (i := 680) (by decide +kernel)⟩
theorem lw_p20 : lw_okq (⟨"StarListsModel", "mayCompare", "(IIII)I"⟩, 20) := ⟨⟨by decide +kernel, by decide +kernel⟩, List.mem_of_getElem? (i := 469) (by decide +kernel), List.mem_of_getElem? (i := 687) (by decide +kernel), List.mem_of_getElem? (i := 688) (by decide +kernel)⟩
theorem lw_p21 : lw_okq (⟨"StarListsModel", "apartOf", "(II)I"⟩, 20) := ⟨⟨by decide +kernel, by decide +kernel⟩, List.mem_of_getElem? (i := 469) (by decide +kernel), List.mem_of_getElem? (i := 695) (by decide +kernel), List.mem_of_getElem? (i := 696) (by decide +kernel)⟩
theorem lw_p22 : lw_okq (⟨"StarListsModel", "layTree", "(II)I"⟩, 20) := ⟨⟨by decide +kernel, by decide +kernel⟩, List.mem_of_getElem? (i := 469) (by decide +kernel), List.mem_of_getElem? (i := 703) (by decide +kernel), List.mem_of_getElem? (i := 704) (by decide +kernel)⟩
def lw_privs_2 : List (MethodName × Nat) := [(⟨"StarListsModel", "lay", "(III)I"⟩, 20), (⟨"StarListsModel", "match", "(III)V"⟩, 20), (⟨"StarListsModel", "datedTo", "(IIII)I"⟩, 20), (⟨"StarListsModel", "layFaults", "(III)V"⟩, 20), (⟨"StarListsModel", "mayCompare", "(IIII)I"⟩, 20), (⟨"StarListsModel", "apartOf", "(II)I"⟩, 20), (⟨"StarListsModel", "layTree", "(II)I"⟩, 20)]
theorem lw_r2 : ∀ q ∈ lw_privs_2, lw_okq q := List.forall_mem_cons.mpr ⟨lw_p16, List.forall_mem_cons.mpr ⟨lw_p17, List.forall_mem_cons.mpr ⟨lw_p18, List.forall_mem_cons.mpr ⟨lw_p19, List.forall_mem_cons.mpr ⟨lw_p20, List.forall_mem_cons.mpr ⟨lw_p21, List.forall_mem_cons.mpr ⟨lw_p22, fun _ h => absurd h List.not_mem_nil⟩⟩⟩⟩⟩⟩⟩
def lw_privs : List (MethodName × Nat) := lw_privs_1 ++ (lw_privs_2)
def lw_tbl : List Cond := k2_sels lw_privs ++ tables_1
theorem lw_privs_ok : ∀ q ∈ lw_privs, lw_okq q := by
  show ∀ q ∈ lw_privs_1 ++ (lw_privs_2), lw_okq q
  exact List.forall_mem_append.mpr ⟨lw_r1, lw_r2⟩
-- ===== end of PART A; then your names; then what follows =====
end
section

def RX0 : String := "StarLists$Copies"
def TX0 : u_T := fun k => match k with
  | 0 => ("StarLists$Copies", "pairs", "[I", true)
  | 1 => ("StarLists$Copies", "rows", "I", false)
  | 2 => ("StarLists$Copies", "needed", "I", false)
  | 3 => ("StarLists$Copies", "stars", "LStarLists$Stars;", true)
  | 4 => ("StarLists$Copies", "rolls", "LStarLists$Rolls;", true)
  | 5 => ("StarLists$Copies", "pairing", "LStarLists$Pairing;", true)
  | 6 => ("StarLists$Copies", "faults", "[I", true)
  | _ => ("StarLists$Copies", "groups", "[I", true)
def tyX0 : Nat → FieldType := fun k => match k with
  | 0 => .array .int
  | 1 => .int
  | 2 => .int
  | 3 => .object "StarLists$Stars"
  | 4 => .object "StarLists$Rolls"
  | 5 => .object "StarLists$Pairing"
  | 6 => .array .int
  | _ => .array .int
abbrev wsX00 : List Cond := u_ws RX0 TX0 8
theorem nmX0 : ∀ a, a < 8 → ∀ b, b < 8 → a ≠ b → (TX0 a).2.1 ≠ (TX0 b).2.1 := by decide +kernel
theorem tyX0_ok : ∀ k, k < 8 → parseFieldDescriptor (TX0 k).2.2.1 = some (tyX0 k) := by decide +kernel
abbrev cX0_init : ByteArray := prog_2_method_1_code
def yX0_init : MethodName := ⟨RX0, "<init>", "(LStarLists$Stars;LStarLists$Rolls;LStarLists$Pairing;)V"⟩
abbrev cX0_note : ByteArray := prog_2_method_2_code
def yX0_note : MethodName := ⟨RX0, "note", "(III)V"⟩
abbrev cX0_faultOf : ByteArray := prog_2_method_3_code
def yX0_faultOf : MethodName := ⟨RX0, "faultOf", "(II)I"⟩
abbrev cX0_inBoth : ByteArray := prog_2_method_4_code
def yX0_inBoth : MethodName := ⟨RX0, "inBoth", "(II)I"⟩
abbrev cX0_unlike : ByteArray := prog_2_method_5_code
def yX0_unlike : MethodName := ⟨RX0, "unlike", "(II)I"⟩
abbrev cX0_grow : ByteArray := prog_2_method_6_code
def yX0_grow : MethodName := ⟨RX0, "grow", "(II)V"⟩
abbrev cX0_addRow : ByteArray := prog_2_method_7_code
def yX0_addRow : MethodName := ⟨RX0, "addRow", "()V"⟩
abbrev cX0_join : ByteArray := prog_2_method_8_code
def yX0_join : MethodName := ⟨RX0, "join", "(II)V"⟩
def RX1 : String := "StarLists$Pairing"
def TX1 : u_T := fun k => match k with
  | 0 => ("StarLists$Pairing", "starOf", "[I", true)
  | 1 => ("StarLists$Pairing", "ways", "[I", true)
  | 2 => ("StarLists$Pairing", "total", "I", false)
  | 3 => ("StarLists$Pairing", "stars", "LStarLists$Stars;", true)
  | 4 => ("StarLists$Pairing", "rolls", "LStarLists$Rolls;", true)
  | 5 => ("StarLists$Pairing", "skyLongs", "[I", true)
  | 6 => ("StarLists$Pairing", "keys", "[J", true)
  | 7 => ("StarLists$Pairing", "fitBits", "[I", true)
  | 8 => ("StarLists$Pairing", "fitKeys", "[J", true)
  | _ => ("StarLists$Pairing", "fits", "I", false)
def tyX1 : Nat → FieldType := fun k => match k with
  | 0 => .array .int
  | 1 => .array .int
  | 2 => .int
  | 3 => .object "StarLists$Stars"
  | 4 => .object "StarLists$Rolls"
  | 5 => .array .int
  | 6 => .array .long
  | 7 => .array .int
  | 8 => .array .long
  | _ => .int
abbrev wsX10 : List Cond := u_ws RX1 TX1 10
theorem nmX1 : ∀ a, a < 10 → ∀ b, b < 10 → a ≠ b → (TX1 a).2.1 ≠ (TX1 b).2.1 := by decide +kernel
theorem tyX1_ok : ∀ k, k < 10 → parseFieldDescriptor (TX1 k).2.2.1 = some (tyX1 k) := by decide +kernel
abbrev cX1_init : ByteArray := prog_3_method_1_code
def yX1_init : MethodName := ⟨RX1, "<init>", "(LStarLists$Stars;LStarLists$Rolls;)V"⟩
abbrev cX1_rankOf : ByteArray := prog_3_method_2_code
def yX1_rankOf : MethodName := ⟨RX1, "rankOf", "(IIIII)I"⟩
abbrev cX1_find : ByteArray := prog_3_method_3_code
def yX1_find : MethodName := ⟨RX1, "find", "(III)V"⟩
abbrev cX1_turnSky : ByteArray := prog_3_method_4_code
def yX1_turnSky : MethodName := ⟨RX1, "turnSky", "(II)V"⟩
abbrev cX1_turnedRank : ByteArray := prog_3_method_5_code
def yX1_turnedRank : MethodName := ⟨RX1, "turnedRank", "(III)I"⟩
abbrev cX1_gatherFits : ByteArray := prog_3_method_6_code
def yX1_gatherFits : MethodName := ⟨RX1, "gatherFits", "(II)I"⟩
abbrev cX1_keyPart : ByteArray := prog_3_method_7_code
def yX1_keyPart : MethodName := ⟨RX1, "keyPart", "(III)J"⟩
abbrev cX1_digitPlace : ByteArray := prog_3_method_8_code
def yX1_digitPlace : MethodName := ⟨RX1, "digitPlace", "(I)I"⟩
abbrev cX1_takeLine : ByteArray := prog_3_method_9_code
def yX1_takeLine : MethodName := ⟨RX1, "takeLine", "(II)V"⟩
abbrev cX1_leastKey : ByteArray := prog_3_method_10_code
def yX1_leastKey : MethodName := ⟨RX1, "leastKey", "(I)J"⟩
abbrev cX1_readKey : ByteArray := prog_3_method_11_code
def yX1_readKey : MethodName := ⟨RX1, "readKey", "(JI)V"⟩
abbrev cX1_sortPlainWays : ByteArray := prog_3_method_12_code
def yX1_sortPlainWays : MethodName := ⟨RX1, "sortPlainWays", "(I)I"⟩
abbrev cX1_insertWay : ByteArray := prog_3_method_13_code
def yX1_insertWay : MethodName := ⟨RX1, "insertWay", "(II)V"⟩
def RX2 : String := "StarLists$Rolls"
def TX2 : u_T := fun k => match k with
  | 0 => ("StarLists$Rolls", "lines", "[I", true)
  | 1 => ("StarLists$Rolls", "size", "I", false)
  | 2 => ("StarLists$Rolls", "longs", "[I", true)
  | _ => ("StarLists$Rolls", "wides", "[I", true)
def tyX2 : Nat → FieldType := fun k => match k with
  | 0 => .array .int
  | 1 => .int
  | 2 => .array .int
  | _ => .array .int
abbrev wsX20 : List Cond := u_ws RX2 TX2 4
theorem nmX2 : ∀ a, a < 4 → ∀ b, b < 4 → a ≠ b → (TX2 a).2.1 ≠ (TX2 b).2.1 := by decide +kernel
theorem tyX2_ok : ∀ k, k < 4 → parseFieldDescriptor (TX2 k).2.2.1 = some (tyX2 k) := by decide +kernel
abbrev cX2_init : ByteArray := prog_4_method_1_code
def yX2_init : MethodName := ⟨RX2, "<init>", "()V"⟩
abbrev cX2_has : ByteArray := prog_4_method_2_code
def yX2_has : MethodName := ⟨RX2, "has", "(I)Z"⟩
abbrev cX2_hasLine : ByteArray := prog_4_method_3_code
def yX2_hasLine : MethodName := ⟨RX2, "hasLine", "(II)Z"⟩
abbrev cX2_open : ByteArray := prog_4_method_4_code
def yX2_open : MethodName := ⟨RX2, "open", "()I"⟩
abbrev cX2_add : ByteArray := prog_4_method_5_code
def yX2_add : MethodName := ⟨RX2, "add", "(III)I"⟩
abbrev cX2_write : ByteArray := prog_4_method_6_code
def yX2_write : MethodName := ⟨RX2, "write", "(IIII)V"⟩
abbrev cX2_longOf : ByteArray := prog_4_method_7_code
def yX2_longOf : MethodName := ⟨RX2, "longOf", "(II)I"⟩
abbrev cX2_wideOf : ByteArray := prog_4_method_8_code
def yX2_wideOf : MethodName := ⟨RX2, "wideOf", "(II)I"⟩
abbrev cX2_allLines : ByteArray := prog_4_method_9_code
def yX2_allLines : MethodName := ⟨RX2, "allLines", "()I"⟩
def RX3 : String := "StarLists$Slips"
def TX3 : u_T := fun k => match k with
  | _ => ("", "", "", false)
def tyX3 : Nat → FieldType := fun k => match k with
  | _ => .int
abbrev wsX30 : List Cond := u_ws RX3 TX3 0
theorem nmX3 : ∀ a, a < 0 → ∀ b, b < 0 → a ≠ b → (TX3 a).2.1 ≠ (TX3 b).2.1 := by decide +kernel
theorem tyX3_ok : ∀ k, k < 0 → parseFieldDescriptor (TX3 k).2.2.1 = some (tyX3 k) := by decide +kernel
abbrev cX3_rank : ByteArray := prog_5_method_2_code
def yX3_rank : MethodName := ⟨RX3, "rank", "(III)I"⟩
abbrev cX3_lesser : ByteArray := prog_5_method_3_code
def yX3_lesser : MethodName := ⟨RX3, "lesser", "(IIIII)I"⟩
abbrev cX3_kindOf : ByteArray := prog_5_method_4_code
def yX3_kindOf : MethodName := ⟨RX3, "kindOf", "(I)I"⟩
abbrev cX3_costOf : ByteArray := prog_5_method_5_code
def yX3_costOf : MethodName := ⟨RX3, "costOf", "(I)I"⟩
def RX4 : String := "StarLists$Stars"
def TX4 : u_T := fun k => match k with
  | 0 => ("StarLists$Stars", "longs", "[I", true)
  | 1 => ("StarLists$Stars", "wides", "[I", true)
  | 2 => ("StarLists$Stars", "motions", "[I", true)
  | 3 => ("StarLists$Stars", "lights", "[I", true)
  | 4 => ("StarLists$Stars", "size", "I", false)
  | _ => ("StarLists$Stars", "faintest", "I", false)
def tyX4 : Nat → FieldType := fun k => match k with
  | 0 => .array .int
  | 1 => .array .int
  | 2 => .array .int
  | 3 => .array .int
  | 4 => .int
  | _ => .int
abbrev wsX40 : List Cond := u_ws RX4 TX4 6
theorem nmX4 : ∀ a, a < 6 → ∀ b, b < 6 → a ≠ b → (TX4 a).2.1 ≠ (TX4 b).2.1 := by decide +kernel
theorem tyX4_ok : ∀ k, k < 6 → parseFieldDescriptor (TX4 k).2.2.1 = some (tyX4 k) := by decide +kernel
abbrev cX4_init : ByteArray := prog_6_method_1_code
def yX4_init : MethodName := ⟨RX4, "<init>", "()V"⟩
abbrev cX4_has : ByteArray := prog_6_method_2_code
def yX4_has : MethodName := ⟨RX4, "has", "(I)Z"⟩
abbrev cX4_add : ByteArray := prog_6_method_3_code
def yX4_add : MethodName := ⟨RX4, "add", "(IIII)I"⟩
abbrev cX4_longIn : ByteArray := prog_6_method_4_code
def yX4_longIn : MethodName := ⟨RX4, "longIn", "(II)I"⟩
abbrev cX4_counts : ByteArray := prog_6_method_5_code
def yX4_counts : MethodName := ⟨RX4, "counts", "(I)Z"⟩
abbrev cX4_bright : ByteArray := prog_6_method_6_code
def yX4_bright : MethodName := ⟨RX4, "bright", "()I"⟩
def RX5 : String := "StarLists"
def TX5 : u_T := fun k => match k with
  | 0 => ("StarLists", "stars", "LStarLists$Stars;", true)
  | 1 => ("StarLists", "rolls", "LStarLists$Rolls;", true)
  | 2 => ("StarLists", "pairing", "LStarLists$Pairing;", true)
  | 3 => ("StarLists", "copies", "LStarLists$Copies;", true)
  | _ => ("StarLists", "yearCosts", "[I", true)
def tyX5 : Nat → FieldType := fun k => match k with
  | 0 => .object "StarLists$Stars"
  | 1 => .object "StarLists$Rolls"
  | 2 => .object "StarLists$Pairing"
  | 3 => .object "StarLists$Copies"
  | _ => .array .int
abbrev wsX50 : List Cond := u_ws RX5 TX5 5
theorem nmX5 : ∀ a, a < 5 → ∀ b, b < 5 → a ≠ b → (TX5 a).2.1 ≠ (TX5 b).2.1 := by decide +kernel
theorem tyX5_ok : ∀ k, k < 5 → parseFieldDescriptor (TX5 k).2.2.1 = some (tyX5 k) := by decide +kernel
abbrev cX5_init : ByteArray := prog_1_method_1_code
def yX5_init : MethodName := ⟨RX5, "<init>", "()V"⟩
abbrev cX5_star : ByteArray := prog_1_method_2_code
def yX5_star : MethodName := ⟨RX5, "star", "(IIII)I"⟩
abbrev cX5_sky : ByteArray := prog_1_method_3_code
def yX5_sky : MethodName := ⟨RX5, "sky", "(II)I"⟩
abbrev cX5_about : ByteArray := prog_1_method_4_code
def yX5_about : MethodName := ⟨RX5, "about", "(II)I"⟩
abbrev cX5_limit : ByteArray := prog_1_method_5_code
def yX5_limit : MethodName := ⟨RX5, "limit", "(I)I"⟩
abbrev cX5_way : ByteArray := prog_1_method_6_code
def yX5_way : MethodName := ⟨RX5, "way", "(II)I"⟩
abbrev cX5_list : ByteArray := prog_1_method_7_code
def yX5_list : MethodName := ⟨RX5, "list", "()I"⟩
abbrev cX5_line : ByteArray := prog_1_method_8_code
def yX5_line : MethodName := ⟨RX5, "line", "(III)I"⟩
abbrev cX5_written : ByteArray := prog_1_method_9_code
def yX5_written : MethodName := ⟨RX5, "written", "(III)I"⟩
abbrev cX5_mend : ByteArray := prog_1_method_10_code
def yX5_mend : MethodName := ⟨RX5, "mend", "(IIII)I"⟩
abbrev cX5_round : ByteArray := prog_1_method_11_code
def yX5_round : MethodName := ⟨RX5, "round", "(II)I"⟩
abbrev cX5_slip : ByteArray := prog_1_method_12_code
def yX5_slip : MethodName := ⟨RX5, "slip", "(IIIII)I"⟩
abbrev cX5_cost : ByteArray := prog_1_method_13_code
def yX5_cost : MethodName := ⟨RX5, "cost", "(IIIII)I"⟩
abbrev cX5_best : ByteArray := prog_1_method_14_code
def yX5_best : MethodName := ⟨RX5, "best", "(III)I"⟩
abbrev cX5_matched : ByteArray := prog_1_method_15_code
def yX5_matched : MethodName := ⟨RX5, "matched", "(IIII)I"⟩
abbrev cX5_dated : ByteArray := prog_1_method_16_code
def yX5_dated : MethodName := ⟨RX5, "dated", "(IIII)I"⟩
abbrev cX5_doubt : ByteArray := prog_1_method_17_code
def yX5_doubt : MethodName := ⟨RX5, "doubt", "(IIIII)I"⟩
abbrev cX5_shift : ByteArray := prog_1_method_18_code
def yX5_shift : MethodName := ⟨RX5, "shift", "(II)I"⟩
abbrev cX5_fault : ByteArray := prog_1_method_19_code
def yX5_fault : MethodName := ⟨RX5, "fault", "(IIII)I"⟩
abbrev cX5_share : ByteArray := prog_1_method_20_code
def yX5_share : MethodName := ⟨RX5, "share", "(IIII)I"⟩
abbrev cX5_apart : ByteArray := prog_1_method_21_code
def yX5_apart : MethodName := ⟨RX5, "apart", "(IIII)I"⟩
abbrev cX5_tree : ByteArray := prog_1_method_22_code
def yX5_tree : MethodName := ⟨RX5, "tree", "(II)I"⟩
abbrev cX5_row : ByteArray := prog_1_method_23_code
def yX5_row : MethodName := ⟨RX5, "row", "(III)I"⟩
abbrev cX5_count : ByteArray := prog_1_method_24_code
def yX5_count : MethodName := ⟨RX5, "count", "(I)I"⟩
abbrev cX5_isWithin : ByteArray := prog_1_method_25_code
def yX5_isWithin : MethodName := ⟨RX5, "isWithin", "(III)Z"⟩
abbrev cX5_isLong : ByteArray := prog_1_method_26_code
def yX5_isLong : MethodName := ⟨RX5, "isLong", "(I)Z"⟩
abbrev cX5_isPlace : ByteArray := prog_1_method_27_code
def yX5_isPlace : MethodName := ⟨RX5, "isPlace", "(II)Z"⟩
abbrev cX5_isYear : ByteArray := prog_1_method_28_code
def yX5_isYear : MethodName := ⟨RX5, "isYear", "(I)Z"⟩
abbrev cX5_isShift : ByteArray := prog_1_method_29_code
def yX5_isShift : MethodName := ⟨RX5, "isShift", "(I)Z"⟩
abbrev cX5_isMoment : ByteArray := prog_1_method_30_code
def yX5_isMoment : MethodName := ⟨RX5, "isMoment", "(II)Z"⟩
abbrev cX5_areYears : ByteArray := prog_1_method_31_code
def yX5_areYears : MethodName := ⟨RX5, "areYears", "(III)Z"⟩
abbrev cX5_yearsBetween : ByteArray := prog_1_method_32_code
def yX5_yearsBetween : MethodName := ⟨RX5, "yearsBetween", "(II)I"⟩
abbrev cX5_weighYears : ByteArray := prog_1_method_33_code
def yX5_weighYears : MethodName := ⟨RX5, "weighYears", "(IIII)I"⟩
abbrev cX5_leads : ByteArray := prog_1_method_34_code
def yX5_leads : MethodName := ⟨RX5, "leads", "(II)I"⟩
def RX6 : String := "StarListsModel"
def TX6 : u_T := fun k => match k with
  | 0 => ("StarListsModel", "stars", "I", false)
  | 1 => ("StarListsModel", "longs", "[I", true)
  | 2 => ("StarListsModel", "wides", "[I", true)
  | 3 => ("StarListsModel", "motions", "[I", true)
  | 4 => ("StarListsModel", "lights", "[I", true)
  | 5 => ("StarListsModel", "limit", "I", false)
  | 6 => ("StarListsModel", "lists", "I", false)
  | 7 => ("StarListsModel", "lines", "[I", true)
  | 8 => ("StarListsModel", "lineLong", "[I", true)
  | 9 => ("StarListsModel", "lineWide", "[I", true)
  | 10 => ("StarListsModel", "foundSlip", "I", false)
  | 11 => ("StarListsModel", "foundCost", "I", false)
  | 12 => ("StarListsModel", "rest", "[I", true)
  | 13 => ("StarListsModel", "pairCost", "[I", true)
  | 14 => ("StarListsModel", "pairSlip", "[I", true)
  | 15 => ("StarListsModel", "starOf", "[I", true)
  | 16 => ("StarListsModel", "ways", "[I", true)
  | 17 => ("StarListsModel", "faults", "[I", true)
  | 18 => ("StarListsModel", "part", "[I", true)
  | _ => ("StarListsModel", "rows", "[I", true)
def tyX6 : Nat → FieldType := fun k => match k with
  | 0 => .int
  | 1 => .array .int
  | 2 => .array .int
  | 3 => .array .int
  | 4 => .array .int
  | 5 => .int
  | 6 => .int
  | 7 => .array .int
  | 8 => .array .int
  | 9 => .array .int
  | 10 => .int
  | 11 => .int
  | 12 => .array .int
  | 13 => .array .int
  | 14 => .array .int
  | 15 => .array .int
  | 16 => .array .int
  | 17 => .array .int
  | 18 => .array .int
  | _ => .array .int
abbrev wsX60 : List Cond := u_ws RX6 TX6 20
theorem nmX6 : ∀ a, a < 20 → ∀ b, b < 20 → a ≠ b → (TX6 a).2.1 ≠ (TX6 b).2.1 := by decide +kernel
theorem tyX6_ok : ∀ k, k < 20 → parseFieldDescriptor (TX6 k).2.2.1 = some (tyX6 k) := by decide +kernel
abbrev cX6_init : ByteArray := prog_8_method_1_code
def yX6_init : MethodName := ⟨RX6, "<init>", "()V"⟩
abbrev cX6_in : ByteArray := prog_8_method_3_code
def yX6_in : MethodName := ⟨RX6, "in", "(III)Z"⟩
abbrev cX6_size : ByteArray := prog_8_method_4_code
def yX6_size : MethodName := ⟨RX6, "size", "(I)I"⟩
abbrev cX6_isLong : ByteArray := prog_8_method_5_code
def yX6_isLong : MethodName := ⟨RX6, "isLong", "(I)Z"⟩
abbrev cX6_isWide : ByteArray := prog_8_method_6_code
def yX6_isWide : MethodName := ⟨RX6, "isWide", "(I)Z"⟩
abbrev cX6_isYear : ByteArray := prog_8_method_7_code
def yX6_isYear : MethodName := ⟨RX6, "isYear", "(I)Z"⟩
abbrev cX6_isShift : ByteArray := prog_8_method_8_code
def yX6_isShift : MethodName := ⟨RX6, "isShift", "(I)Z"⟩
abbrev cX6_isStar : ByteArray := prog_8_method_9_code
def yX6_isStar : MethodName := ⟨RX6, "isStar", "(I)Z"⟩
abbrev cX6_isList : ByteArray := prog_8_method_10_code
def yX6_isList : MethodName := ⟨RX6, "isList", "(I)Z"⟩
abbrev cX6_isLine : ByteArray := prog_8_method_11_code
def yX6_isLine : MethodName := ⟨RX6, "isLine", "(II)Z"⟩
abbrev cX6_star : ByteArray := prog_8_method_12_code
def yX6_star : MethodName := ⟨RX6, "star", "(IIII)I"⟩
abbrev cX6_by : ByteArray := prog_8_method_13_code
def yX6_by : MethodName := ⟨RX6, "by", "(II)I"⟩
abbrev cX6_round : ByteArray := prog_8_method_14_code
def yX6_round : MethodName := ⟨RX6, "round", "(I)I"⟩
abbrev cX6_skyOf : ByteArray := prog_8_method_15_code
def yX6_skyOf : MethodName := ⟨RX6, "skyOf", "(II)I"⟩
abbrev cX6_sky : ByteArray := prog_8_method_16_code
def yX6_sky : MethodName := ⟨RX6, "sky", "(II)I"⟩
abbrev cX6_about : ByteArray := prog_8_method_17_code
def yX6_about : MethodName := ⟨RX6, "about", "(II)I"⟩
abbrev cX6_limit : ByteArray := prog_8_method_18_code
def yX6_limit : MethodName := ⟨RX6, "limit", "(I)I"⟩
abbrev cX6_wayOf : ByteArray := prog_8_method_19_code
def yX6_wayOf : MethodName := ⟨RX6, "wayOf", "(II)I"⟩
abbrev cX6_way : ByteArray := prog_8_method_20_code
def yX6_way : MethodName := ⟨RX6, "way", "(II)I"⟩
abbrev cX6_list : ByteArray := prog_8_method_21_code
def yX6_list : MethodName := ⟨RX6, "list", "()I"⟩
abbrev cX6_line : ByteArray := prog_8_method_22_code
def yX6_line : MethodName := ⟨RX6, "line", "(III)I"⟩
abbrev cX6_written : ByteArray := prog_8_method_23_code
def yX6_written : MethodName := ⟨RX6, "written", "(III)I"⟩
abbrev cX6_mend : ByteArray := prog_8_method_24_code
def yX6_mend : MethodName := ⟨RX6, "mend", "(IIII)I"⟩
abbrev cX6_round_ : ByteArray := prog_8_method_25_code
def yX6_round_ : MethodName := ⟨RX6, "round", "(II)I"⟩
abbrev cX6_tries : ByteArray := prog_8_method_26_code
def yX6_tries : MethodName := ⟨RX6, "tries", "(IIII)V"⟩
abbrev cX6_face : ByteArray := prog_8_method_27_code
def yX6_face : MethodName := ⟨RX6, "face", "(IIIII)V"⟩
abbrev cX6_slip : ByteArray := prog_8_method_28_code
def yX6_slip : MethodName := ⟨RX6, "slip", "(IIIII)I"⟩
abbrev cX6_cost : ByteArray := prog_8_method_29_code
def yX6_cost : MethodName := ⟨RX6, "cost", "(IIIII)I"⟩
abbrev cX6_lay : ByteArray := prog_8_method_30_code
def yX6_lay : MethodName := ⟨RX6, "lay", "(III)I"⟩
abbrev cX6_match : ByteArray := prog_8_method_31_code
def yX6_match : MethodName := ⟨RX6, "match", "(III)V"⟩
abbrev cX6_mayAsk : ByteArray := prog_8_method_32_code
def yX6_mayAsk : MethodName := ⟨RX6, "mayAsk", "(III)I"⟩
abbrev cX6_best : ByteArray := prog_8_method_33_code
def yX6_best : MethodName := ⟨RX6, "best", "(III)I"⟩
abbrev cX6_matched : ByteArray := prog_8_method_34_code
def yX6_matched : MethodName := ⟨RX6, "matched", "(IIII)I"⟩
abbrev cX6_areYears : ByteArray := prog_8_method_35_code
def yX6_areYears : MethodName := ⟨RX6, "areYears", "(II)Z"⟩
abbrev cX6_datedTo : ByteArray := prog_8_method_36_code
def yX6_datedTo : MethodName := ⟨RX6, "datedTo", "(IIII)I"⟩
abbrev cX6_dated : ByteArray := prog_8_method_37_code
def yX6_dated : MethodName := ⟨RX6, "dated", "(IIII)I"⟩
abbrev cX6_doubt : ByteArray := prog_8_method_38_code
def yX6_doubt : MethodName := ⟨RX6, "doubt", "(IIIII)I"⟩
abbrev cX6_shift : ByteArray := prog_8_method_39_code
def yX6_shift : MethodName := ⟨RX6, "shift", "(II)I"⟩
abbrev cX6_layFaults : ByteArray := prog_8_method_40_code
def yX6_layFaults : MethodName := ⟨RX6, "layFaults", "(III)V"⟩
abbrev cX6_fault : ByteArray := prog_8_method_41_code
def yX6_fault : MethodName := ⟨RX6, "fault", "(IIII)I"⟩
abbrev cX6_apartOf : ByteArray := prog_8_method_42_code
def yX6_apartOf : MethodName := ⟨RX6, "apartOf", "(II)I"⟩
abbrev cX6_mayCompare : ByteArray := prog_8_method_43_code
def yX6_mayCompare : MethodName := ⟨RX6, "mayCompare", "(IIII)I"⟩
abbrev cX6_share : ByteArray := prog_8_method_44_code
def yX6_share : MethodName := ⟨RX6, "share", "(IIII)I"⟩
abbrev cX6_apart : ByteArray := prog_8_method_45_code
def yX6_apart : MethodName := ⟨RX6, "apart", "(IIII)I"⟩
abbrev cX6_layTree : ByteArray := prog_8_method_46_code
def yX6_layTree : MethodName := ⟨RX6, "layTree", "(II)I"⟩
abbrev cX6_tree : ByteArray := prog_8_method_47_code
def yX6_tree : MethodName := ⟨RX6, "tree", "(II)I"⟩
abbrev cX6_row : ByteArray := prog_8_method_48_code
def yX6_row : MethodName := ⟨RX6, "row", "(III)I"⟩
abbrev cX6_count : ByteArray := prog_8_method_49_code
def yX6_count : MethodName := ⟨RX6, "count", "(I)I"⟩
def RJ9 : String := "java/lang/Math"
def TJ9 : u_T := fun k => match k with
  | _ => ("", "", "", false)
def tyJ9 : Nat → FieldType := fun k => match k with
  | _ => .int
abbrev wsJ90 : List Cond := u_ws RJ9 TJ9 0
theorem nmJ9 : ∀ a, a < 0 → ∀ b, b < 0 → a ≠ b → (TJ9 a).2.1 ≠ (TJ9 b).2.1 := by decide +kernel
theorem tyJ9_ok : ∀ k, k < 0 → parseFieldDescriptor (TJ9 k).2.2.1 = some (tyJ9 k) := by decide +kernel
abbrev cJ9_floorDiv_7cf53 : ByteArray := prog_9_method_47_code
def yJ9_floorDiv_7cf53 : MethodName := ⟨RJ9, "floorDiv", "(II)I"⟩
abbrev cJ9_floorMod_7cf53 : ByteArray := prog_9_method_50_code
def yJ9_floorMod_7cf53 : MethodName := ⟨RJ9, "floorMod", "(II)I"⟩
abbrev cJ9_abs_0f7a4 : ByteArray := prog_9_method_59_code
def yJ9_abs_0f7a4 : MethodName := ⟨RJ9, "abs", "(I)I"⟩
abbrev cJ9_min_7cf53 : ByteArray := prog_9_method_69_code
def yJ9_min_7cf53 : MethodName := ⟨RJ9, "min", "(II)I"⟩
abbrev cJ9_min_f86c9 : ByteArray := prog_9_method_70_code
def yJ9_min_f86c9 : MethodName := ⟨RJ9, "min", "(JJ)J"⟩
def RJ7 : String := "java/util/Arrays"
def TJ7 : u_T := fun k => match k with
  | _ => ("", "", "", false)
def tyJ7 : Nat → FieldType := fun k => match k with
  | _ => .int
abbrev wsJ70 : List Cond := u_ws RJ7 TJ7 0
theorem nmJ7 : ∀ a, a < 0 → ∀ b, b < 0 → a ≠ b → (TJ7 a).2.1 ≠ (TJ7 b).2.1 := by decide +kernel
theorem tyJ7_ok : ∀ k, k < 0 → parseFieldDescriptor (TJ7 k).2.2.1 = some (tyJ7 k) := by decide +kernel
abbrev cJ7_fill_d0a16 : ByteArray := prog_10_method_101_code
def yJ7_fill_d0a16 : MethodName := ⟨RJ7, "fill", "([JJ)V"⟩
def RL : String := "StarListsLaw"
abbrev cL_law : ByteArray := code
def yL_law : MethodName := ⟨RL, "law", "([I)Z"⟩
abbrev vwCl : List vw_C := [(RX0, TX0, 8), (RX1, TX1, 10), (RX2, TX2, 4), (RX4, TX4, 6), (RX5, TX5, 5), (RX6, TX6, 20)]
end
section
def BIG_0 : List Cond := [Cond.code yX0_init cX0_init 4 none, Cond.methodLink RX0 3 objectInit, Cond.instanceMethod objectInit, Cond.code objectInit ⟨#[0xb1]⟩ 1 none, Cond.arrayClass .int, Cond.fieldLink RX0 9 "StarLists$Copies" "pairs" "[I", Cond.fieldLink RX0 15 "StarLists$Copies" "rows" "I", Cond.fieldLink RX0 19 "StarLists$Copies" "needed" "I", Cond.fieldLink RX0 22 "StarLists$Copies" "faults" "[I", Cond.fieldLink RX0 25 "StarLists$Copies" "groups" "[I", Cond.fieldLink RX0 28 "StarLists$Copies" "stars" "LStarLists$Stars;", Cond.fieldLink RX0 32 "StarLists$Copies" "rolls" "LStarLists$Rolls;", Cond.fieldLink RX0 36 "StarLists$Copies" "pairing" "LStarLists$Pairing;", Cond.code yJ9_floorDiv_7cf53 cJ9_floorDiv_7cf53 3 (some .int), Cond.code yJ9_floorMod_7cf53 cJ9_floorMod_7cf53 3 (some .int), Cond.code yX4_longIn cX4_longIn 5 (some .int), Cond.fieldLink RX4 18 "StarLists$Stars" "motions" "[I", Cond.fieldLink RX4 9 "StarLists$Stars" "longs" "[I", Cond.methodLink RX4 31 yJ9_floorDiv_7cf53, Cond.static yJ9_floorDiv_7cf53, Cond.initialized RJ9, Cond.methodLink RX4 37 yJ9_floorMod_7cf53, Cond.static yJ9_floorMod_7cf53, Cond.code yX1_turnSky cX1_turnSky 4 none, Cond.fieldLink RX1 38 "StarLists$Pairing" "stars" "LStarLists$Stars;", Cond.fieldLink RX1 82 "StarLists$Stars" "size" "I", Cond.fieldLink RX1 22 "StarLists$Pairing" "skyLongs" "[I", Cond.methodLink RX1 87 yX4_longIn, Cond.instanceMethod yX4_longIn, Cond.selects RX4 yX4_longIn yX4_longIn, Cond.initialized RX4, Cond.code yJ7_fill_d0a16 cJ7_fill_d0a16 5 none, Cond.code yX4_counts cX4_counts 2 (some .boolean), Cond.fieldLink RX4 21 "StarLists$Stars" "lights" "[I", Cond.fieldLink RX4 28 "StarLists$Stars" "faintest" "I", Cond.code yX2_longOf cX2_longOf 3 (some .int), Cond.fieldLink RX2 19 "StarLists$Rolls" "longs" "[I", Cond.code yX5_leads cX5_leads 2 (some .int), Cond.methodLink RX5 199 yJ9_floorMod_7cf53, Cond.code yX2_wideOf cX2_wideOf 3 (some .int), Cond.fieldLink RX2 22 "StarLists$Rolls" "wides" "[I", Cond.code yX3_lesser cX3_lesser 6 (some .int), Cond.code yX3_rank cX3_rank 7 (some .int), Cond.methodLink RX3 7 Lib.Math.abs.name, Cond.static Lib.Math.abs.name, Cond.initialized "java/lang/Math", Cond.code Lib.Math.abs.name Lib.Math.abs.code 1 (some .int), Cond.constant RX3 15 (1048576), Cond.methodLink RX3 16 yX3_lesser, Cond.static yX3_lesser, Cond.initialized RX3, Cond.fieldLink RX1 42 "StarLists$Pairing" "rolls" "LStarLists$Rolls;", Cond.fieldLink RX1 99 "StarLists$Stars" "wides" "[I", Cond.methodLink RX1 90 yX2_longOf, Cond.instanceMethod yX2_longOf, Cond.selects RX2 yX2_longOf yX2_longOf, Cond.initialized RX2, Cond.static yX5_leads, Cond.initialized RX5, Cond.methodLink RX1 96 yX2_wideOf]
def BIG_1 : List Cond := [Cond.instanceMethod yX2_wideOf, Cond.selects RX2 yX2_wideOf yX2_wideOf, Cond.methodLink RX1 102 yX3_rank, Cond.static yX3_rank, Cond.code yX1_turnedRank cX1_turnedRank 5 (some .int), Cond.code yX3_costOf cX3_costOf 1 (some .int), Cond.code yX1_digitPlace cX1_digitPlace 1 (some .int), Cond.code yX1_keyPart cX1_keyPart 3 (some .long), Cond.methodLink RX1 120 yX1_digitPlace, Cond.static yX1_digitPlace, Cond.initialized RX1, Cond.fieldLink RX1 35 "StarLists$Pairing" "fits" "I", Cond.constant RX1 111 (1048576), Cond.fieldLink RX1 29 "StarLists$Pairing" "fitBits" "[I", Cond.fieldLink RX1 32 "StarLists$Pairing" "fitKeys" "[J", Cond.methodLink RX1 107 yX4_counts, Cond.instanceMethod yX4_counts, Cond.selects RX4 yX4_counts yX4_counts, Cond.methodLink RX1 50 yX1_turnedRank, Cond.instanceMethod yX1_turnedRank, Cond.selects RX1 yX1_turnedRank yX1_turnedRank, Cond.methodLink RX1 112 yX3_costOf, Cond.static yX3_costOf, Cond.methodLink RX1 116 yX1_keyPart, Cond.static yX1_keyPart, Cond.code yX1_gatherFits cX1_gatherFits 6 (some .int), Cond.code yX1_takeLine cX1_takeLine 9 none, Cond.fieldLink RX1 25 "StarLists$Pairing" "keys" "[J", Cond.methodLink RX1 123 Lib.MathLoose.min_long.x, Cond.static Lib.MathLoose.min_long.x, Cond.code Lib.MathLoose.min_long.x Lib.MathLoose.min_long.code 4 (some .long), Cond.code yX1_leastKey cX1_leastKey 5 (some .long), Cond.code yX1_readKey cX1_readKey 6 none, Cond.fieldLink RX1 18 "StarLists$Pairing" "total" "I", Cond.fieldLink RX1 11 "StarLists$Pairing" "starOf" "[I", Cond.constantLong RX1 54 (1152921504606846976), Cond.fieldLink RX1 62 "StarLists$Rolls" "lines" "[I", Cond.methodLink RX1 46 yX1_turnSky, Cond.instanceMethod yX1_turnSky, Cond.selects RX1 yX1_turnSky yX1_turnSky, Cond.methodLink RX1 56 yJ7_fill_d0a16, Cond.static yJ7_fill_d0a16, Cond.initialized RJ7, Cond.methodLink RX1 67 yX1_gatherFits, Cond.instanceMethod yX1_gatherFits, Cond.selects RX1 yX1_gatherFits yX1_gatherFits, Cond.methodLink RX1 71 yX1_takeLine, Cond.instanceMethod yX1_takeLine, Cond.selects RX1 yX1_takeLine yX1_takeLine, Cond.methodLink RX1 74 yX1_leastKey, Cond.instanceMethod yX1_leastKey, Cond.selects RX1 yX1_leastKey yX1_leastKey, Cond.methodLink RX1 78 yX1_readKey, Cond.instanceMethod yX1_readKey, Cond.selects RX1 yX1_readKey yX1_readKey, Cond.code yX1_find cX1_find 6 none, Cond.code yX3_kindOf cX3_kindOf 1 (some .int), Cond.fieldLink RX0 48 "StarLists$Rolls" "lines" "[I", Cond.fieldLink RX0 53 "StarLists$Pairing" "starOf" "[I", Cond.methodLink RX0 42 yX1_find]
def BIG_2 : List Cond := [Cond.instanceMethod yX1_find, Cond.selects RX1 yX1_find yX1_find, Cond.methodLink RX0 56 yX1_turnedRank, Cond.methodLink RX0 60 yX3_kindOf, Cond.static yX3_kindOf, Cond.code yX0_note cX0_note 6 none, Cond.code yX0_faultOf cX0_faultOf 3 (some .int), Cond.code yX0_inBoth cX0_inBoth 6 (some .int), Cond.fieldLink RX0 64 "StarLists$Stars" "size" "I", Cond.methodLink RX0 69 yX0_faultOf, Cond.instanceMethod yX0_faultOf, Cond.selects RX0 yX0_faultOf yX0_faultOf, Cond.initialized RX0, Cond.code yX0_unlike cX0_unlike 5 (some .int), Cond.code yX0_join cX0_join 4 none, Cond.fieldLink RX0 73 "StarLists$Rolls" "size" "I", Cond.code yX0_addRow cX0_addRow 7 none, Cond.methodLink RX0 80 yX0_unlike, Cond.instanceMethod yX0_unlike, Cond.selects RX0 yX0_unlike yX0_unlike, Cond.methodLink RX0 83 yX0_join, Cond.instanceMethod yX0_join, Cond.selects RX0 yX0_join yX0_join, Cond.methodLink RX0 74 yX0_note, Cond.instanceMethod yX0_note, Cond.selects RX0 yX0_note yX0_note, Cond.methodLink RX0 77 yX0_addRow, Cond.instanceMethod yX0_addRow, Cond.selects RX0 yX0_addRow yX0_addRow, Cond.code yX0_grow cX0_grow 4 none, Cond.code yX1_init cX1_init 3 none, Cond.methodLink RX1 5 objectInit, Cond.fieldLink RX1 15 "StarLists$Pairing" "ways" "[I", Cond.arrayClass .long, Cond.code yX1_rankOf cX1_rankOf 6 (some .int), Cond.code yX1_insertWay cX1_insertWay 4 none, Cond.methodLink RX1 129 yX3_kindOf, Cond.methodLink RX1 132 yX1_insertWay, Cond.instanceMethod yX1_insertWay, Cond.selects RX1 yX1_insertWay yX1_insertWay, Cond.code yX1_sortPlainWays cX1_sortPlainWays 5 (some .int), Cond.code yX2_init cX2_init 1 none, Cond.methodLink RX2 3 objectInit, Cond.fieldLink RX2 9 "StarLists$Rolls" "lines" "[I", Cond.fieldLink RX2 15 "StarLists$Rolls" "size" "I", Cond.code yX2_has cX2_has 2 (some .boolean), Cond.code yX2_hasLine cX2_hasLine 3 (some .boolean), Cond.methodLink RX2 25 yX2_has, Cond.instanceMethod yX2_has, Cond.selects RX2 yX2_has yX2_has, Cond.code yX2_open cX2_open 1 (some .int), Cond.code yX2_write cX2_write 5 none, Cond.code yX2_add cX2_add 5 (some .int), Cond.methodLink RX2 29 yX2_write, Cond.instanceMethod yX2_write, Cond.selects RX2 yX2_write yX2_write, Cond.code yX2_allLines cX2_allLines 3 (some .int), Cond.code yX4_init cX4_init 1 none, Cond.methodLink RX4 3 objectInit, Cond.fieldLink RX4 15 "StarLists$Stars" "wides" "[I"]
def BIG_3 : List Cond := [Cond.fieldLink RX4 24 "StarLists$Stars" "size" "I", Cond.code yX4_has cX4_has 2 (some .boolean), Cond.code yX4_add cX4_add 5 (some .int), Cond.code yX4_bright cX4_bright 3 (some .int), Cond.methodLink RX4 40 yX4_counts, Cond.methodLink RX5 1 objectInit, Cond.classLink RX5 7 RX4, Cond.instantiable RX4 6, Cond.fieldLink RX5 10 "StarLists" "stars" "LStarLists$Stars;", Cond.classLink RX5 16 RX2, Cond.instantiable RX2 4, Cond.fieldLink RX5 19 "StarLists" "rolls" "LStarLists$Rolls;", Cond.classLink RX5 23 RX1, Cond.instantiable RX1 10, Cond.fieldLink RX5 28 "StarLists" "pairing" "LStarLists$Pairing;", Cond.classLink RX5 32 RX0, Cond.instantiable RX0 8, Cond.fieldLink RX5 37 "StarLists" "copies" "LStarLists$Copies;", Cond.fieldLink RX5 41 "StarLists" "yearCosts" "[I", Cond.instanceMethod yX4_init, Cond.instanceMethod yX2_init, Cond.methodLink RX5 25 yX1_init, Cond.instanceMethod yX1_init, Cond.methodLink RX5 34 yX0_init, Cond.instanceMethod yX0_init, Cond.code yX5_init cX5_init 1 none, Cond.code yX5_isWithin cX5_isWithin 3 (some .boolean), Cond.code yX5_isLong cX5_isLong 1 (some .boolean), Cond.methodLink RX5 49 yX5_isWithin, Cond.static yX5_isWithin, Cond.code yX5_isPlace cX5_isPlace 2 (some .boolean), Cond.methodLink RX5 87 yX5_isLong, Cond.static yX5_isLong, Cond.code yX5_star cX5_star 5 (some .int), Cond.fieldLink RX5 53 "StarLists$Stars" "size" "I", Cond.methodLink RX5 45 yX5_isPlace, Cond.static yX5_isPlace, Cond.methodLink RX5 57 yX4_add, Cond.instanceMethod yX4_add, Cond.selects RX4 yX4_add yX4_add, Cond.code yX5_isYear cX5_isYear 1 (some .boolean), Cond.methodLink RX5 61 yX4_has, Cond.instanceMethod yX4_has, Cond.selects RX4 yX4_has yX4_has, Cond.methodLink RX5 65 yX5_isYear, Cond.static yX5_isYear, Cond.methodLink RX5 68 yX4_longIn, Cond.code yX5_sky cX5_sky 3 (some .int), Cond.code yX5_about cX5_about 3 (some .int), Cond.fieldLink RX5 72 "StarLists$Stars" "longs" "[I", Cond.fieldLink RX5 75 "StarLists$Stars" "motions" "[I", Cond.fieldLink RX5 78 "StarLists$Stars" "lights" "[I", Cond.fieldLink RX5 81 "StarLists$Stars" "wides" "[I", Cond.code yX5_limit cX5_limit 3 (some .int), Cond.fieldLink RX5 84 "StarLists$Stars" "faintest" "I", Cond.code yX5_way cX5_way 3 (some .int), Cond.methodLink RX5 90 yX5_leads, Cond.code yX5_list cX5_list 1 (some .int), Cond.fieldLink RX5 93 "StarLists$Rolls" "size" "I", Cond.methodLink RX5 94 yX2_open]
def BIG_4 : List Cond := [Cond.instanceMethod yX2_open, Cond.selects RX2 yX2_open yX2_open, Cond.fieldLink RX5 99 "StarLists$Rolls" "lines" "[I", Cond.methodLink RX5 98 yX2_has, Cond.methodLink RX5 102 yX2_add, Cond.instanceMethod yX2_add, Cond.selects RX2 yX2_add yX2_add, Cond.code yX5_line cX5_line 4 (some .int), Cond.code yX5_written cX5_written 4 (some .int), Cond.methodLink RX5 105 yX2_hasLine, Cond.instanceMethod yX2_hasLine, Cond.selects RX2 yX2_hasLine yX2_hasLine, Cond.methodLink RX5 108 yX2_longOf, Cond.methodLink RX5 111 yX2_wideOf, Cond.methodLink RX5 114 yX2_write, Cond.code yX5_mend cX5_mend 6 (some .int), Cond.code yX5_round cX5_round 5 (some .int), Cond.code yX5_isShift cX5_isShift 1 (some .boolean), Cond.code yX5_isMoment cX5_isMoment 2 (some .boolean), Cond.methodLink RX5 193 yX5_isShift, Cond.static yX5_isShift, Cond.constant RX5 127 (1048576), Cond.methodLink RX5 118 yX5_isMoment, Cond.static yX5_isMoment, Cond.methodLink RX5 121 yX1_rankOf, Cond.instanceMethod yX1_rankOf, Cond.selects RX1 yX1_rankOf yX1_rankOf, Cond.methodLink RX5 128 yX3_kindOf, Cond.code yX5_slip cX5_slip 7 (some .int), Cond.methodLink RX5 132 yX3_costOf, Cond.code yX5_cost cX5_cost 7 (some .int), Cond.fieldLink RX5 139 "StarLists$Pairing" "total" "I", Cond.methodLink RX5 135 yX1_find, Cond.code yX5_best cX5_best 4 (some .int), Cond.fieldLink RX5 142 "StarLists$Pairing" "starOf" "[I", Cond.code yX5_matched cX5_matched 5 (some .int), Cond.code yX5_yearsBetween cX5_yearsBetween 2 (some .int), Cond.code yX5_areYears cX5_areYears 3 (some .boolean), Cond.methodLink RX5 196 yX5_yearsBetween, Cond.static yX5_yearsBetween, Cond.methodLink RX5 151 Lib.Math.min.name, Cond.static Lib.Math.min.name, Cond.code Lib.Math.min.name Lib.Math.min.code 2 (some .int), Cond.code yX5_weighYears cX5_weighYears 7 (some .int), Cond.methodLink RX5 145 yX5_areYears, Cond.static yX5_areYears, Cond.methodLink RX5 148 yX5_weighYears, Cond.instanceMethod yX5_weighYears, Cond.selects RX5 yX5_weighYears yX5_weighYears, Cond.code yX5_dated cX5_dated 8 (some .int), Cond.code yX5_doubt cX5_doubt 10 (some .int), Cond.fieldLink RX5 159 "StarLists$Pairing" "ways" "[I", Cond.methodLink RX5 156 yX1_sortPlainWays, Cond.instanceMethod yX1_sortPlainWays, Cond.selects RX1 yX1_sortPlainWays yX1_sortPlainWays, Cond.code yX5_shift cX5_shift 4 (some .int), Cond.methodLink RX5 162 yX0_note, Cond.methodLink RX5 165 yX0_faultOf, Cond.code yX5_fault cX5_fault 5 (some .int), Cond.methodLink RX5 168 yX0_inBoth]
def BIG_5 : List Cond := [Cond.instanceMethod yX0_inBoth, Cond.selects RX0 yX0_inBoth yX0_inBoth, Cond.code yX5_share cX5_share 5 (some .int), Cond.methodLink RX5 171 yX0_unlike, Cond.code yX5_apart cX5_apart 5 (some .int), Cond.fieldLink RX5 178 "StarLists$Copies" "needed" "I", Cond.methodLink RX5 174 yX0_grow, Cond.instanceMethod yX0_grow, Cond.selects RX0 yX0_grow yX0_grow, Cond.code yX5_tree cX5_tree 3 (some .int), Cond.fieldLink RX5 181 "StarLists$Copies" "rows" "I", Cond.fieldLink RX5 184 "StarLists$Copies" "pairs" "[I", Cond.code yX5_row cX5_row 4 (some .int), Cond.code yX5_count cX5_count 2 (some .int), Cond.methodLink RX5 187 yX2_allLines, Cond.instanceMethod yX2_allLines, Cond.selects RX2 yX2_allLines yX2_allLines, Cond.methodLink RX5 190 yX4_bright, Cond.instanceMethod yX4_bright, Cond.selects RX4 yX4_bright yX4_bright, Cond.code yX6_init cX6_init 1 none, Cond.methodLink RX6 1 objectInit, Cond.fieldLink RX6 7 "StarListsModel" "longs" "[I", Cond.fieldLink RX6 13 "StarListsModel" "wides" "[I", Cond.fieldLink RX6 16 "StarListsModel" "motions" "[I", Cond.fieldLink RX6 19 "StarListsModel" "lights" "[I", Cond.fieldLink RX6 22 "StarListsModel" "limit" "I", Cond.fieldLink RX6 26 "StarListsModel" "lines" "[I", Cond.fieldLink RX6 29 "StarListsModel" "lineLong" "[I", Cond.fieldLink RX6 32 "StarListsModel" "lineWide" "[I", Cond.fieldLink RX6 35 "StarListsModel" "rest" "[I", Cond.fieldLink RX6 38 "StarListsModel" "pairCost" "[I", Cond.fieldLink RX6 41 "StarListsModel" "pairSlip" "[I", Cond.fieldLink RX6 44 "StarListsModel" "starOf" "[I", Cond.fieldLink RX6 47 "StarListsModel" "ways" "[I", Cond.fieldLink RX6 50 "StarListsModel" "faults" "[I", Cond.fieldLink RX6 53 "StarListsModel" "part" "[I", Cond.fieldLink RX6 56 "StarListsModel" "rows" "[I", Cond.code yX6_in cX6_in 3 (some .boolean), Cond.code yX6_size cX6_size 1 (some .int), Cond.code yX6_isLong cX6_isLong 1 (some .boolean), Cond.methodLink RX6 59 yX6_in, Cond.static yX6_in, Cond.initialized RX6, Cond.code yX6_isWide cX6_isWide 1 (some .boolean), Cond.code yX6_isYear cX6_isYear 1 (some .boolean), Cond.code yX6_isShift cX6_isShift 1 (some .boolean), Cond.code yX6_isStar cX6_isStar 2 (some .boolean), Cond.fieldLink RX6 63 "StarListsModel" "stars" "I", Cond.code yX6_isList cX6_isList 2 (some .boolean), Cond.fieldLink RX6 66 "StarListsModel" "lists" "I", Cond.code yX6_isLine cX6_isLine 3 (some .boolean), Cond.methodLink RX6 69 yX6_isList, Cond.instanceMethod yX6_isList, Cond.selects RX6 yX6_isList yX6_isList, Cond.code yX6_star cX6_star 5 (some .int), Cond.methodLink RX6 73 yX6_isLong, Cond.static yX6_isLong, Cond.methodLink RX6 76 yX6_isWide, Cond.static yX6_isWide]
def BIG_6 : List Cond := [Cond.code yX6_by cX6_by 3 (some .int), Cond.code yX6_round cX6_round 1 (some .int), Cond.code yX6_skyOf cX6_skyOf 3 (some .int), Cond.methodLink RX6 79 yX6_by, Cond.static yX6_by, Cond.methodLink RX6 83 yX6_round, Cond.static yX6_round, Cond.code yX6_sky cX6_sky 3 (some .int), Cond.methodLink RX6 87 yX6_isStar, Cond.instanceMethod yX6_isStar, Cond.selects RX6 yX6_isStar yX6_isStar, Cond.methodLink RX6 90 yX6_isYear, Cond.static yX6_isYear, Cond.methodLink RX6 93 yX6_skyOf, Cond.instanceMethod yX6_skyOf, Cond.selects RX6 yX6_skyOf yX6_skyOf, Cond.code yX6_about cX6_about 3 (some .int), Cond.code yX6_limit cX6_limit 3 (some .int), Cond.code yX6_wayOf cX6_wayOf 2 (some .int), Cond.code yX6_way cX6_way 3 (some .int), Cond.methodLink RX6 96 yX6_wayOf, Cond.static yX6_wayOf, Cond.code yX6_list cX6_list 1 (some .int), Cond.code yX6_line cX6_line 4 (some .int), Cond.code yX6_written cX6_written 4 (some .int), Cond.methodLink RX6 99 yX6_isLine, Cond.instanceMethod yX6_isLine, Cond.selects RX6 yX6_isLine yX6_isLine, Cond.code yX6_mend cX6_mend 6 (some .int), Cond.code yX6_round_ cX6_round_ 5 (some .int), Cond.code yX6_tries cX6_tries 6 none, Cond.fieldLink RX6 106 "StarListsModel" "foundCost" "I", Cond.fieldLink RX6 109 "StarListsModel" "foundSlip" "I", Cond.methodLink RX6 103 yX6_size, Cond.static yX6_size, Cond.constant RX6 112 (100000), Cond.methodLink RX6 113 yX6_tries, Cond.instanceMethod yX6_tries, Cond.selects RX6 yX6_tries yX6_tries, Cond.code yX6_face cX6_face 10 none, Cond.methodLink RX6 117 yX6_isShift, Cond.static yX6_isShift, Cond.methodLink RX6 120 yX6_face, Cond.instanceMethod yX6_face, Cond.selects RX6 yX6_face yX6_face, Cond.code yX6_slip cX6_slip 6 (some .int), Cond.code yX6_cost cX6_cost 6 (some .int), Cond.code yX6_lay cX6_lay 10 (some .int), Cond.methodLink RX6 124 yX6_lay, Cond.instanceMethod yX6_lay, Cond.selects RX6 yX6_lay yX6_lay, Cond.code yX6_match cX6_match 9 none, Cond.code yX6_mayAsk cX6_mayAsk 4 (some .int), Cond.methodLink RX6 128 yX6_mayAsk, Cond.instanceMethod yX6_mayAsk, Cond.selects RX6 yX6_mayAsk yX6_mayAsk, Cond.code yX6_best cX6_best 5 (some .int), Cond.methodLink RX6 131 yX6_match, Cond.instanceMethod yX6_match, Cond.selects RX6 yX6_match yX6_match]
def BIG_7 : List Cond := [Cond.code yX6_matched cX6_matched 5 (some .int), Cond.code yX6_areYears cX6_areYears 2 (some .boolean), Cond.code yX6_datedTo cX6_datedTo 9 (some .int), Cond.methodLink RX6 135 yX6_areYears, Cond.static yX6_areYears, Cond.methodLink RX6 138 yX6_datedTo, Cond.instanceMethod yX6_datedTo, Cond.selects RX6 yX6_datedTo yX6_datedTo, Cond.code yX6_dated cX6_dated 5 (some .int), Cond.code yX6_doubt cX6_doubt 9 (some .int), Cond.code yX6_shift cX6_shift 7 (some .int), Cond.code yX6_layFaults cX6_layFaults 5 none, Cond.methodLink RX6 142 yX6_layFaults, Cond.instanceMethod yX6_layFaults, Cond.selects RX6 yX6_layFaults yX6_layFaults, Cond.code yX6_fault cX6_fault 5 (some .int), Cond.code yX6_apartOf cX6_apartOf 5 (some .int), Cond.code yX6_mayCompare cX6_mayCompare 5 (some .int), Cond.methodLink RX6 145 yX6_mayCompare, Cond.instanceMethod yX6_mayCompare, Cond.selects RX6 yX6_mayCompare yX6_mayCompare, Cond.code yX6_share cX6_share 8 (some .int), Cond.methodLink RX6 148 yX6_apartOf, Cond.instanceMethod yX6_apartOf, Cond.selects RX6 yX6_apartOf yX6_apartOf, Cond.code yX6_apart cX6_apart 6 (some .int), Cond.code yX6_layTree cX6_layTree 9 (some .int), Cond.methodLink RX6 151 yX6_layTree, Cond.instanceMethod yX6_layTree, Cond.selects RX6 yX6_layTree yX6_layTree, Cond.code yX6_tree cX6_tree 3 (some .int), Cond.code yX6_row cX6_row 5 (some .int), Cond.code yX6_count cX6_count 5 (some .int), Cond.code yJ9_abs_0f7a4 cJ9_abs_0f7a4 1 (some .int), Cond.code yJ9_min_7cf53 cJ9_min_7cf53 2 (some .int), Cond.code yJ9_min_f86c9 cJ9_min_f86c9 4 (some .long), Cond.classLink RL 7 RX5, Cond.instantiable RX5 5, Cond.classLink RL 10 RX6, Cond.instantiable RX6 20, Cond.methodLink RL 9 yX5_init, Cond.instanceMethod yX5_init, Cond.methodLink RL 12 yX6_init, Cond.instanceMethod yX6_init, Cond.methodLink RL 13 yX5_star, Cond.instanceMethod yX5_star, Cond.selects RX5 yX5_star yX5_star, Cond.methodLink RL 17 yX6_star, Cond.instanceMethod yX6_star, Cond.selects RX6 yX6_star yX6_star, Cond.methodLink RL 18 yX5_sky, Cond.instanceMethod yX5_sky, Cond.selects RX5 yX5_sky yX5_sky, Cond.methodLink RL 22 yX6_sky, Cond.instanceMethod yX6_sky, Cond.selects RX6 yX6_sky yX6_sky, Cond.methodLink RL 23 yX5_about, Cond.instanceMethod yX5_about, Cond.selects RX5 yX5_about yX5_about, Cond.methodLink RL 26 yX6_about]
def BIG_8 : List Cond := [Cond.instanceMethod yX6_about, Cond.selects RX6 yX6_about yX6_about, Cond.methodLink RL 27 yX5_limit, Cond.instanceMethod yX5_limit, Cond.selects RX5 yX5_limit yX5_limit, Cond.methodLink RL 31 yX6_limit, Cond.instanceMethod yX6_limit, Cond.selects RX6 yX6_limit yX6_limit, Cond.methodLink RL 32 yX5_way, Cond.instanceMethod yX5_way, Cond.selects RX5 yX5_way yX5_way, Cond.methodLink RL 35 yX6_way, Cond.instanceMethod yX6_way, Cond.selects RX6 yX6_way yX6_way, Cond.methodLink RL 36 yX5_list, Cond.instanceMethod yX5_list, Cond.selects RX5 yX5_list yX5_list, Cond.methodLink RL 40 yX6_list, Cond.instanceMethod yX6_list, Cond.selects RX6 yX6_list yX6_list, Cond.methodLink RL 41 yX5_line, Cond.instanceMethod yX5_line, Cond.selects RX5 yX5_line yX5_line, Cond.methodLink RL 45 yX6_line, Cond.instanceMethod yX6_line, Cond.selects RX6 yX6_line yX6_line, Cond.methodLink RL 46 yX5_written, Cond.instanceMethod yX5_written, Cond.selects RX5 yX5_written yX5_written, Cond.methodLink RL 49 yX6_written, Cond.instanceMethod yX6_written, Cond.selects RX6 yX6_written yX6_written, Cond.methodLink RL 50 yX5_mend, Cond.instanceMethod yX5_mend, Cond.selects RX5 yX5_mend yX5_mend, Cond.methodLink RL 53 yX6_mend, Cond.instanceMethod yX6_mend, Cond.selects RX6 yX6_mend yX6_mend, Cond.methodLink RL 54 yX5_round, Cond.instanceMethod yX5_round, Cond.selects RX5 yX5_round yX5_round, Cond.methodLink RL 57 yX6_round_, Cond.instanceMethod yX6_round_, Cond.selects RX6 yX6_round_ yX6_round_, Cond.methodLink RL 58 yX5_slip, Cond.instanceMethod yX5_slip, Cond.selects RX5 yX5_slip yX5_slip, Cond.methodLink RL 62 yX6_slip, Cond.instanceMethod yX6_slip, Cond.selects RX6 yX6_slip yX6_slip, Cond.methodLink RL 63 yX5_cost, Cond.instanceMethod yX5_cost, Cond.selects RX5 yX5_cost yX5_cost, Cond.methodLink RL 66 yX6_cost, Cond.instanceMethod yX6_cost, Cond.selects RX6 yX6_cost yX6_cost, Cond.methodLink RL 67 yX5_best, Cond.instanceMethod yX5_best, Cond.selects RX5 yX5_best yX5_best, Cond.methodLink RL 70 yX6_best]
def BIG_9 : List Cond := [Cond.instanceMethod yX6_best, Cond.selects RX6 yX6_best yX6_best, Cond.methodLink RL 71 yX5_matched, Cond.instanceMethod yX5_matched, Cond.selects RX5 yX5_matched yX5_matched, Cond.methodLink RL 74 yX6_matched, Cond.instanceMethod yX6_matched, Cond.selects RX6 yX6_matched yX6_matched, Cond.methodLink RL 75 yX5_dated, Cond.instanceMethod yX5_dated, Cond.selects RX5 yX5_dated yX5_dated, Cond.methodLink RL 78 yX6_dated, Cond.instanceMethod yX6_dated, Cond.selects RX6 yX6_dated yX6_dated, Cond.methodLink RL 79 yX5_doubt, Cond.instanceMethod yX5_doubt, Cond.selects RX5 yX5_doubt yX5_doubt, Cond.methodLink RL 82 yX6_doubt, Cond.instanceMethod yX6_doubt, Cond.selects RX6 yX6_doubt yX6_doubt, Cond.methodLink RL 83 yX5_shift, Cond.instanceMethod yX5_shift, Cond.selects RX5 yX5_shift yX5_shift, Cond.methodLink RL 86 yX6_shift, Cond.instanceMethod yX6_shift, Cond.selects RX6 yX6_shift yX6_shift, Cond.methodLink RL 87 yX5_fault, Cond.instanceMethod yX5_fault, Cond.selects RX5 yX5_fault yX5_fault, Cond.methodLink RL 90 yX6_fault, Cond.instanceMethod yX6_fault, Cond.selects RX6 yX6_fault yX6_fault, Cond.methodLink RL 91 yX5_share, Cond.instanceMethod yX5_share, Cond.selects RX5 yX5_share yX5_share, Cond.methodLink RL 94 yX6_share, Cond.instanceMethod yX6_share, Cond.selects RX6 yX6_share yX6_share, Cond.methodLink RL 95 yX5_apart, Cond.instanceMethod yX5_apart, Cond.selects RX5 yX5_apart yX5_apart, Cond.methodLink RL 98 yX6_apart, Cond.instanceMethod yX6_apart, Cond.selects RX6 yX6_apart yX6_apart, Cond.methodLink RL 99 yX5_tree, Cond.instanceMethod yX5_tree, Cond.selects RX5 yX5_tree yX5_tree, Cond.methodLink RL 102 yX6_tree, Cond.instanceMethod yX6_tree, Cond.selects RX6 yX6_tree yX6_tree, Cond.methodLink RL 103 yX5_row, Cond.instanceMethod yX5_row, Cond.selects RX5 yX5_row yX5_row, Cond.methodLink RL 106 yX6_row, Cond.instanceMethod yX6_row, Cond.selects RX6 yX6_row yX6_row, Cond.methodLink RL 107 yX5_count, Cond.instanceMethod yX5_count, Cond.selects RX5 yX5_count yX5_count, Cond.methodLink RL 110 yX6_count]
def BIG_10 : List Cond := [Cond.instanceMethod yX6_count, Cond.selects RX6 yX6_count yX6_count]
def BIG : List Cond := BIG_0 ++ (BIG_1 ++ (BIG_2 ++ (BIG_3 ++ (BIG_4 ++ (BIG_5 ++ (BIG_6 ++ (BIG_7 ++ (BIG_8 ++ (BIG_9 ++ (BIG_10))))))))))
abbrev UWX0 : List Cond := u_ws RX0 TX0 8
abbrev UWX1 : List Cond := u_ws RX1 TX1 10
abbrev UWX2 : List Cond := u_ws RX2 TX2 4
abbrev UWX4 : List Cond := u_ws RX4 TX4 6
abbrev UWX5 : List Cond := u_ws RX5 TX5 5
abbrev UWX6 : List Cond := u_ws RX6 TX6 20
def BIGU : List Cond := UWX0 ++ (UWX1 ++ (UWX2 ++ (UWX4 ++ (UWX5 ++ UWX6))))
def ALLW : List Cond := BIGU ++ BIG
end
section
theorem dX0_init_0 : decode cX0_init 0 = .ok (.aload_n 0, 1) := by decide +kernel
theorem dX0_init_1 : decode cX0_init 1 = .ok (.invokespecial 3, 3) := by decide +kernel
theorem dX0_init_4 : decode cX0_init 4 = .ok (.aload_n 0, 1) := by decide +kernel
theorem dX0_init_5 : decode cX0_init 5 = .ok (.iconst 5, 1) := by decide +kernel
theorem dX0_init_6 : decode cX0_init 6 = .ok (.newarray .int, 2) := by decide +kernel
theorem dX0_init_8 : decode cX0_init 8 = .ok (.putfield 9, 3) := by decide +kernel
theorem dX0_init_11 : decode cX0_init 11 = .ok (.aload_n 0, 1) := by decide +kernel
theorem dX0_init_12 : decode cX0_init 12 = .ok (.iconst 0, 1) := by decide +kernel
theorem dX0_init_13 : decode cX0_init 13 = .ok (.putfield 15, 3) := by decide +kernel
theorem dX0_init_16 : decode cX0_init 16 = .ok (.aload_n 0, 1) := by decide +kernel
theorem dX0_init_17 : decode cX0_init 17 = .ok (.iconst 0, 1) := by decide +kernel
theorem dX0_init_18 : decode cX0_init 18 = .ok (.putfield 19, 3) := by decide +kernel
theorem dX0_init_21 : decode cX0_init 21 = .ok (.aload_n 0, 1) := by decide +kernel
theorem dX0_init_22 : decode cX0_init 22 = .ok (.bipush 48, 2) := by decide +kernel
theorem dX0_init_24 : decode cX0_init 24 = .ok (.newarray .int, 2) := by decide +kernel
theorem dX0_init_26 : decode cX0_init 26 = .ok (.putfield 22, 3) := by decide +kernel
theorem dX0_init_29 : decode cX0_init 29 = .ok (.aload_n 0, 1) := by decide +kernel
theorem dX0_init_30 : decode cX0_init 30 = .ok (.bipush 6, 2) := by decide +kernel
theorem dX0_init_32 : decode cX0_init 32 = .ok (.newarray .int, 2) := by decide +kernel
theorem dX0_init_34 : decode cX0_init 34 = .ok (.putfield 25, 3) := by decide +kernel
theorem dX0_init_37 : decode cX0_init 37 = .ok (.aload_n 0, 1) := by decide +kernel
theorem dX0_init_38 : decode cX0_init 38 = .ok (.aload_n 1, 1) := by decide +kernel
theorem dX0_init_39 : decode cX0_init 39 = .ok (.putfield 28, 3) := by decide +kernel
theorem dX0_init_42 : decode cX0_init 42 = .ok (.aload_n 0, 1) := by decide +kernel
theorem dX0_init_43 : decode cX0_init 43 = .ok (.aload_n 2, 1) := by decide +kernel
theorem dX0_init_44 : decode cX0_init 44 = .ok (.putfield 32, 3) := by decide +kernel
theorem dX0_init_47 : decode cX0_init 47 = .ok (.aload_n 0, 1) := by decide +kernel
theorem dX0_init_48 : decode cX0_init 48 = .ok (.aload_n 3, 1) := by decide +kernel
theorem dX0_init_49 : decode cX0_init 49 = .ok (.putfield 36, 3) := by decide +kernel
theorem dX0_init_52 : decode cX0_init 52 = .ok (.return_, 1) := by decide +kernel
theorem dX0_note_0 : decode cX0_note 0 = .ok (.iconst 0, 1) := by decide +kernel
theorem dX0_note_1 : decode cX0_note 1 = .ok (.istore 4, 2) := by decide +kernel
theorem dX0_note_3 : decode cX0_note 3 = .ok (.iload 4, 2) := by decide +kernel
theorem dX0_note_5 : decode cX0_note 5 = .ok (.bipush 8, 2) := by decide +kernel
theorem dX0_note_7 : decode cX0_note 7 = .ok (.if_icmp .ge 22, 3) := by decide +kernel
theorem dX0_note_10 : decode cX0_note 10 = .ok (.aload_n 0, 1) := by decide +kernel
theorem dX0_note_11 : decode cX0_note 11 = .ok (.getfield 22, 3) := by decide +kernel
theorem dX0_note_14 : decode cX0_note 14 = .ok (.iload_n 1, 1) := by decide +kernel
theorem dX0_note_15 : decode cX0_note 15 = .ok (.bipush 8, 2) := by decide +kernel
theorem dX0_note_17 : decode cX0_note 17 = .ok (.imul, 1) := by decide +kernel
theorem dX0_note_18 : decode cX0_note 18 = .ok (.iload 4, 2) := by decide +kernel
theorem dX0_note_20 : decode cX0_note 20 = .ok (.iadd, 1) := by decide +kernel
theorem dX0_note_21 : decode cX0_note 21 = .ok (.iconst 0, 1) := by decide +kernel
theorem dX0_note_22 : decode cX0_note 22 = .ok (.iastore, 1) := by decide +kernel
theorem dX0_note_23 : decode cX0_note 23 = .ok (.iinc 4 1, 3) := by decide +kernel
theorem dX0_note_26 : decode cX0_note 26 = .ok (.goto (-23), 3) := by decide +kernel
theorem dX0_note_29 : decode cX0_note 29 = .ok (.aload_n 0, 1) := by decide +kernel
theorem dX0_note_30 : decode cX0_note 30 = .ok (.getfield 36, 3) := by decide +kernel
theorem dX0_note_33 : decode cX0_note 33 = .ok (.iload_n 1, 1) := by decide +kernel
theorem dX0_note_34 : decode cX0_note 34 = .ok (.iload_n 2, 1) := by decide +kernel
theorem dX0_note_35 : decode cX0_note 35 = .ok (.iload_n 3, 1) := by decide +kernel
theorem dX0_note_36 : decode cX0_note 36 = .ok (.invokevirtual 42, 3) := by decide +kernel
theorem dX0_note_39 : decode cX0_note 39 = .ok (.iconst 0, 1) := by decide +kernel
theorem dX0_note_40 : decode cX0_note 40 = .ok (.istore 4, 2) := by decide +kernel
theorem dX0_note_42 : decode cX0_note 42 = .ok (.iload 4, 2) := by decide +kernel
theorem dX0_note_44 : decode cX0_note 44 = .ok (.aload_n 0, 1) := by decide +kernel
theorem dX0_note_45 : decode cX0_note 45 = .ok (.getfield 32, 3) := by decide +kernel
theorem dX0_note_48 : decode cX0_note 48 = .ok (.getfield 48, 3) := by decide +kernel
theorem dX0_note_51 : decode cX0_note 51 = .ok (.iload_n 1, 1) := by decide +kernel
theorem dX0_note_52 : decode cX0_note 52 = .ok (.iaload, 1) := by decide +kernel
theorem dX0_note_53 : decode cX0_note 53 = .ok (.if_icmp .ge 58, 3) := by decide +kernel
theorem dX0_note_56 : decode cX0_note 56 = .ok (.aload_n 0, 1) := by decide +kernel
theorem dX0_note_57 : decode cX0_note 57 = .ok (.getfield 36, 3) := by decide +kernel
theorem dX0_note_60 : decode cX0_note 60 = .ok (.getfield 53, 3) := by decide +kernel
theorem dX0_note_63 : decode cX0_note 63 = .ok (.iload 4, 2) := by decide +kernel
theorem dX0_note_65 : decode cX0_note 65 = .ok (.iaload, 1) := by decide +kernel
theorem dX0_note_66 : decode cX0_note 66 = .ok (.istore 5, 2) := by decide +kernel
theorem dX0_note_68 : decode cX0_note 68 = .ok (.iload 5, 2) := by decide +kernel
theorem dX0_note_70 : decode cX0_note 70 = .ok (.bipush (-9), 2) := by decide +kernel
theorem dX0_note_72 : decode cX0_note 72 = .ok (.if_icmp .ne 6, 3) := by decide +kernel
theorem dX0_note_75 : decode cX0_note 75 = .ok (.goto 30, 3) := by decide +kernel
theorem dX0_note_78 : decode cX0_note 78 = .ok (.aload_n 0, 1) := by decide +kernel
theorem dX0_note_79 : decode cX0_note 79 = .ok (.getfield 22, 3) := by decide +kernel
theorem dX0_note_82 : decode cX0_note 82 = .ok (.iload_n 1, 1) := by decide +kernel
theorem dX0_note_83 : decode cX0_note 83 = .ok (.bipush 8, 2) := by decide +kernel
theorem dX0_note_85 : decode cX0_note 85 = .ok (.imul, 1) := by decide +kernel
theorem dX0_note_86 : decode cX0_note 86 = .ok (.iload 5, 2) := by decide +kernel
theorem dX0_note_88 : decode cX0_note 88 = .ok (.iadd, 1) := by decide +kernel
theorem dX0_note_89 : decode cX0_note 89 = .ok (.aload_n 0, 1) := by decide +kernel
theorem dX0_note_90 : decode cX0_note 90 = .ok (.getfield 36, 3) := by decide +kernel
theorem dX0_note_93 : decode cX0_note 93 = .ok (.iload_n 1, 1) := by decide +kernel
theorem dX0_note_94 : decode cX0_note 94 = .ok (.iload 4, 2) := by decide +kernel
theorem dX0_note_96 : decode cX0_note 96 = .ok (.iload 5, 2) := by decide +kernel
theorem dX0_note_98 : decode cX0_note 98 = .ok (.invokevirtual 56, 3) := by decide +kernel
theorem dX0_note_101 : decode cX0_note 101 = .ok (.invokestatic 60, 3) := by decide +kernel
theorem dX0_note_104 : decode cX0_note 104 = .ok (.iastore, 1) := by decide +kernel
theorem dX0_note_105 : decode cX0_note 105 = .ok (.iinc 4 1, 3) := by decide +kernel
theorem dX0_note_108 : decode cX0_note 108 = .ok (.goto (-66), 3) := by decide +kernel
theorem dX0_note_111 : decode cX0_note 111 = .ok (.return_, 1) := by decide +kernel
theorem dX0_faultOf_0 : decode cX0_faultOf 0 = .ok (.aload_n 0, 1) := by decide +kernel
theorem dX0_faultOf_1 : decode cX0_faultOf 1 = .ok (.getfield 22, 3) := by decide +kernel
theorem dX0_faultOf_4 : decode cX0_faultOf 4 = .ok (.iload_n 1, 1) := by decide +kernel
theorem dX0_faultOf_5 : decode cX0_faultOf 5 = .ok (.bipush 8, 2) := by decide +kernel
theorem dX0_faultOf_7 : decode cX0_faultOf 7 = .ok (.imul, 1) := by decide +kernel
theorem dX0_faultOf_8 : decode cX0_faultOf 8 = .ok (.iload_n 2, 1) := by decide +kernel
theorem dX0_faultOf_9 : decode cX0_faultOf 9 = .ok (.iadd, 1) := by decide +kernel
theorem dX0_faultOf_10 : decode cX0_faultOf 10 = .ok (.iaload, 1) := by decide +kernel
theorem dX0_faultOf_11 : decode cX0_faultOf 11 = .ok (.ireturn, 1) := by decide +kernel
theorem dX0_inBoth_0 : decode cX0_inBoth 0 = .ok (.iconst 0, 1) := by decide +kernel
theorem dX0_inBoth_1 : decode cX0_inBoth 1 = .ok (.istore_n 3, 1) := by decide +kernel
theorem dX0_inBoth_2 : decode cX0_inBoth 2 = .ok (.iconst 0, 1) := by decide +kernel
theorem dX0_inBoth_3 : decode cX0_inBoth 3 = .ok (.istore 4, 2) := by decide +kernel
theorem dX0_inBoth_5 : decode cX0_inBoth 5 = .ok (.iload 4, 2) := by decide +kernel
theorem dX0_inBoth_7 : decode cX0_inBoth 7 = .ok (.aload_n 0, 1) := by decide +kernel
theorem dX0_inBoth_8 : decode cX0_inBoth 8 = .ok (.getfield 28, 3) := by decide +kernel
theorem dX0_inBoth_11 : decode cX0_inBoth 11 = .ok (.getfield 64, 3) := by decide +kernel
theorem dX0_inBoth_14 : decode cX0_inBoth 14 = .ok (.if_icmp .ge 38, 3) := by decide +kernel
theorem dX0_inBoth_17 : decode cX0_inBoth 17 = .ok (.aload_n 0, 1) := by decide +kernel
theorem dX0_inBoth_18 : decode cX0_inBoth 18 = .ok (.iload_n 1, 1) := by decide +kernel
theorem dX0_inBoth_19 : decode cX0_inBoth 19 = .ok (.iload 4, 2) := by decide +kernel
theorem dX0_inBoth_21 : decode cX0_inBoth 21 = .ok (.invokevirtual 69, 3) := by decide +kernel
theorem dX0_inBoth_24 : decode cX0_inBoth 24 = .ok (.istore 5, 2) := by decide +kernel
theorem dX0_inBoth_26 : decode cX0_inBoth 26 = .ok (.iload 5, 2) := by decide +kernel
theorem dX0_inBoth_28 : decode cX0_inBoth 28 = .ok (.ifCond .eq 18, 3) := by decide +kernel
theorem dX0_inBoth_31 : decode cX0_inBoth 31 = .ok (.iload 5, 2) := by decide +kernel
theorem dX0_inBoth_33 : decode cX0_inBoth 33 = .ok (.aload_n 0, 1) := by decide +kernel
theorem dX0_inBoth_34 : decode cX0_inBoth 34 = .ok (.iload_n 2, 1) := by decide +kernel
theorem dX0_inBoth_35 : decode cX0_inBoth 35 = .ok (.iload 4, 2) := by decide +kernel
theorem dX0_inBoth_37 : decode cX0_inBoth 37 = .ok (.invokevirtual 69, 3) := by decide +kernel
theorem dX0_inBoth_40 : decode cX0_inBoth 40 = .ok (.if_icmp .ne 6, 3) := by decide +kernel
theorem dX0_inBoth_43 : decode cX0_inBoth 43 = .ok (.iinc 3 1, 3) := by decide +kernel
theorem dX0_inBoth_46 : decode cX0_inBoth 46 = .ok (.iinc 4 1, 3) := by decide +kernel
theorem dX0_inBoth_49 : decode cX0_inBoth 49 = .ok (.goto (-44), 3) := by decide +kernel
theorem dX0_inBoth_52 : decode cX0_inBoth 52 = .ok (.iload_n 3, 1) := by decide +kernel
theorem dX0_inBoth_53 : decode cX0_inBoth 53 = .ok (.ireturn, 1) := by decide +kernel
theorem dX0_unlike_0 : decode cX0_unlike 0 = .ok (.iconst 0, 1) := by decide +kernel
theorem dX0_unlike_1 : decode cX0_unlike 1 = .ok (.istore_n 3, 1) := by decide +kernel
theorem dX0_unlike_2 : decode cX0_unlike 2 = .ok (.iconst 0, 1) := by decide +kernel
theorem dX0_unlike_3 : decode cX0_unlike 3 = .ok (.istore 4, 2) := by decide +kernel
theorem dX0_unlike_5 : decode cX0_unlike 5 = .ok (.iload 4, 2) := by decide +kernel
theorem dX0_unlike_7 : decode cX0_unlike 7 = .ok (.aload_n 0, 1) := by decide +kernel
theorem dX0_unlike_8 : decode cX0_unlike 8 = .ok (.getfield 28, 3) := by decide +kernel
theorem dX0_unlike_11 : decode cX0_unlike 11 = .ok (.getfield 64, 3) := by decide +kernel
theorem dX0_unlike_14 : decode cX0_unlike 14 = .ok (.if_icmp .ge 29, 3) := by decide +kernel
theorem dX0_unlike_17 : decode cX0_unlike 17 = .ok (.aload_n 0, 1) := by decide +kernel
theorem dX0_unlike_18 : decode cX0_unlike 18 = .ok (.iload_n 1, 1) := by decide +kernel
theorem dX0_unlike_19 : decode cX0_unlike 19 = .ok (.iload 4, 2) := by decide +kernel
theorem dX0_unlike_21 : decode cX0_unlike 21 = .ok (.invokevirtual 69, 3) := by decide +kernel
theorem dX0_unlike_24 : decode cX0_unlike 24 = .ok (.aload_n 0, 1) := by decide +kernel
theorem dX0_unlike_25 : decode cX0_unlike 25 = .ok (.iload_n 2, 1) := by decide +kernel
theorem dX0_unlike_26 : decode cX0_unlike 26 = .ok (.iload 4, 2) := by decide +kernel
theorem dX0_unlike_28 : decode cX0_unlike 28 = .ok (.invokevirtual 69, 3) := by decide +kernel
theorem dX0_unlike_31 : decode cX0_unlike 31 = .ok (.if_icmp .eq 6, 3) := by decide +kernel
theorem dX0_unlike_34 : decode cX0_unlike 34 = .ok (.iinc 3 1, 3) := by decide +kernel
theorem dX0_unlike_37 : decode cX0_unlike 37 = .ok (.iinc 4 1, 3) := by decide +kernel
theorem dX0_unlike_40 : decode cX0_unlike 40 = .ok (.goto (-35), 3) := by decide +kernel
theorem dX0_unlike_43 : decode cX0_unlike 43 = .ok (.iload_n 3, 1) := by decide +kernel
theorem dX0_unlike_44 : decode cX0_unlike 44 = .ok (.ireturn, 1) := by decide +kernel
theorem dX0_grow_0 : decode cX0_grow 0 = .ok (.aload_n 0, 1) := by decide +kernel
theorem dX0_grow_1 : decode cX0_grow 1 = .ok (.iconst 0, 1) := by decide +kernel
theorem dX0_grow_2 : decode cX0_grow 2 = .ok (.putfield 15, 3) := by decide +kernel
theorem dX0_grow_5 : decode cX0_grow 5 = .ok (.aload_n 0, 1) := by decide +kernel
theorem dX0_grow_6 : decode cX0_grow 6 = .ok (.iconst 0, 1) := by decide +kernel
theorem dX0_grow_7 : decode cX0_grow 7 = .ok (.putfield 19, 3) := by decide +kernel
theorem dX0_grow_10 : decode cX0_grow 10 = .ok (.iconst 0, 1) := by decide +kernel
theorem dX0_grow_11 : decode cX0_grow 11 = .ok (.istore_n 3, 1) := by decide +kernel
theorem dX0_grow_12 : decode cX0_grow 12 = .ok (.iload_n 3, 1) := by decide +kernel
theorem dX0_grow_13 : decode cX0_grow 13 = .ok (.aload_n 0, 1) := by decide +kernel
theorem dX0_grow_14 : decode cX0_grow 14 = .ok (.getfield 32, 3) := by decide +kernel
theorem dX0_grow_17 : decode cX0_grow 17 = .ok (.getfield 73, 3) := by decide +kernel
theorem dX0_grow_20 : decode cX0_grow 20 = .ok (.if_icmp .ge 23, 3) := by decide +kernel
theorem dX0_grow_23 : decode cX0_grow 23 = .ok (.aload_n 0, 1) := by decide +kernel
theorem dX0_grow_24 : decode cX0_grow 24 = .ok (.iload_n 3, 1) := by decide +kernel
theorem dX0_grow_25 : decode cX0_grow 25 = .ok (.iload_n 1, 1) := by decide +kernel
theorem dX0_grow_26 : decode cX0_grow 26 = .ok (.iload_n 2, 1) := by decide +kernel
theorem dX0_grow_27 : decode cX0_grow 27 = .ok (.invokevirtual 74, 3) := by decide +kernel
theorem dX0_grow_30 : decode cX0_grow 30 = .ok (.aload_n 0, 1) := by decide +kernel
theorem dX0_grow_31 : decode cX0_grow 31 = .ok (.getfield 25, 3) := by decide +kernel
theorem dX0_grow_34 : decode cX0_grow 34 = .ok (.iload_n 3, 1) := by decide +kernel
theorem dX0_grow_35 : decode cX0_grow 35 = .ok (.iload_n 3, 1) := by decide +kernel
theorem dX0_grow_36 : decode cX0_grow 36 = .ok (.iastore, 1) := by decide +kernel
theorem dX0_grow_37 : decode cX0_grow 37 = .ok (.iinc 3 1, 3) := by decide +kernel
theorem dX0_grow_40 : decode cX0_grow 40 = .ok (.goto (-28), 3) := by decide +kernel
theorem dX0_grow_43 : decode cX0_grow 43 = .ok (.iconst 1, 1) := by decide +kernel
theorem dX0_grow_44 : decode cX0_grow 44 = .ok (.istore_n 3, 1) := by decide +kernel
theorem dX0_grow_45 : decode cX0_grow 45 = .ok (.iload_n 3, 1) := by decide +kernel
theorem dX0_grow_46 : decode cX0_grow 46 = .ok (.aload_n 0, 1) := by decide +kernel
theorem dX0_grow_47 : decode cX0_grow 47 = .ok (.getfield 32, 3) := by decide +kernel
theorem dX0_grow_50 : decode cX0_grow 50 = .ok (.getfield 73, 3) := by decide +kernel
theorem dX0_grow_53 : decode cX0_grow 53 = .ok (.if_icmp .ge 13, 3) := by decide +kernel
theorem dX0_grow_56 : decode cX0_grow 56 = .ok (.aload_n 0, 1) := by decide +kernel
theorem dX0_grow_57 : decode cX0_grow 57 = .ok (.invokevirtual 77, 3) := by decide +kernel
theorem dX0_grow_60 : decode cX0_grow 60 = .ok (.iinc 3 1, 3) := by decide +kernel
theorem dX0_grow_63 : decode cX0_grow 63 = .ok (.goto (-18), 3) := by decide +kernel
theorem dX0_grow_66 : decode cX0_grow 66 = .ok (.return_, 1) := by decide +kernel
theorem dX0_addRow_0 : decode cX0_addRow 0 = .ok (.bipush (-9), 2) := by decide +kernel
theorem dX0_addRow_2 : decode cX0_addRow 2 = .ok (.istore_n 1, 1) := by decide +kernel
theorem dX0_addRow_3 : decode cX0_addRow 3 = .ok (.bipush (-9), 2) := by decide +kernel
theorem dX0_addRow_5 : decode cX0_addRow 5 = .ok (.istore_n 2, 1) := by decide +kernel
theorem dX0_addRow_6 : decode cX0_addRow 6 = .ok (.bipush 9, 2) := by decide +kernel
theorem dX0_addRow_8 : decode cX0_addRow 8 = .ok (.istore_n 3, 1) := by decide +kernel
theorem dX0_addRow_9 : decode cX0_addRow 9 = .ok (.iconst 0, 1) := by decide +kernel
theorem dX0_addRow_10 : decode cX0_addRow 10 = .ok (.istore 4, 2) := by decide +kernel
theorem dX0_addRow_12 : decode cX0_addRow 12 = .ok (.iload 4, 2) := by decide +kernel
theorem dX0_addRow_14 : decode cX0_addRow 14 = .ok (.aload_n 0, 1) := by decide +kernel
theorem dX0_addRow_15 : decode cX0_addRow 15 = .ok (.getfield 32, 3) := by decide +kernel
theorem dX0_addRow_18 : decode cX0_addRow 18 = .ok (.getfield 73, 3) := by decide +kernel
theorem dX0_addRow_21 : decode cX0_addRow 21 = .ok (.if_icmp .ge 81, 3) := by decide +kernel
theorem dX0_addRow_24 : decode cX0_addRow 24 = .ok (.iload 4, 2) := by decide +kernel
theorem dX0_addRow_26 : decode cX0_addRow 26 = .ok (.iconst 1, 1) := by decide +kernel
theorem dX0_addRow_27 : decode cX0_addRow 27 = .ok (.iadd, 1) := by decide +kernel
theorem dX0_addRow_28 : decode cX0_addRow 28 = .ok (.istore 5, 2) := by decide +kernel
theorem dX0_addRow_30 : decode cX0_addRow 30 = .ok (.iload 5, 2) := by decide +kernel
theorem dX0_addRow_32 : decode cX0_addRow 32 = .ok (.aload_n 0, 1) := by decide +kernel
theorem dX0_addRow_33 : decode cX0_addRow 33 = .ok (.getfield 32, 3) := by decide +kernel
theorem dX0_addRow_36 : decode cX0_addRow 36 = .ok (.getfield 73, 3) := by decide +kernel
theorem dX0_addRow_39 : decode cX0_addRow 39 = .ok (.if_icmp .ge 57, 3) := by decide +kernel
theorem dX0_addRow_42 : decode cX0_addRow 42 = .ok (.aload_n 0, 1) := by decide +kernel
theorem dX0_addRow_43 : decode cX0_addRow 43 = .ok (.getfield 25, 3) := by decide +kernel
theorem dX0_addRow_46 : decode cX0_addRow 46 = .ok (.iload 4, 2) := by decide +kernel
theorem dX0_addRow_48 : decode cX0_addRow 48 = .ok (.iaload, 1) := by decide +kernel
theorem dX0_addRow_49 : decode cX0_addRow 49 = .ok (.aload_n 0, 1) := by decide +kernel
theorem dX0_addRow_50 : decode cX0_addRow 50 = .ok (.getfield 25, 3) := by decide +kernel
theorem dX0_addRow_53 : decode cX0_addRow 53 = .ok (.iload 5, 2) := by decide +kernel
theorem dX0_addRow_55 : decode cX0_addRow 55 = .ok (.iaload, 1) := by decide +kernel
theorem dX0_addRow_56 : decode cX0_addRow 56 = .ok (.if_icmp .ne 6, 3) := by decide +kernel
theorem dX0_addRow_59 : decode cX0_addRow 59 = .ok (.goto 31, 3) := by decide +kernel
theorem dX0_addRow_62 : decode cX0_addRow 62 = .ok (.aload_n 0, 1) := by decide +kernel
theorem dX0_addRow_63 : decode cX0_addRow 63 = .ok (.iload 4, 2) := by decide +kernel
theorem dX0_addRow_65 : decode cX0_addRow 65 = .ok (.iload 5, 2) := by decide +kernel
theorem dX0_addRow_67 : decode cX0_addRow 67 = .ok (.invokevirtual 80, 3) := by decide +kernel
theorem dX0_addRow_70 : decode cX0_addRow 70 = .ok (.istore 6, 2) := by decide +kernel
theorem dX0_addRow_72 : decode cX0_addRow 72 = .ok (.iload 6, 2) := by decide +kernel
theorem dX0_addRow_74 : decode cX0_addRow 74 = .ok (.iload_n 3, 1) := by decide +kernel
theorem dX0_addRow_75 : decode cX0_addRow 75 = .ok (.if_icmp .lt 6, 3) := by decide +kernel
theorem dX0_addRow_78 : decode cX0_addRow 78 = .ok (.goto 12, 3) := by decide +kernel
theorem dX0_addRow_81 : decode cX0_addRow 81 = .ok (.iload 4, 2) := by decide +kernel
theorem dX0_addRow_83 : decode cX0_addRow 83 = .ok (.istore_n 1, 1) := by decide +kernel
theorem dX0_addRow_84 : decode cX0_addRow 84 = .ok (.iload 5, 2) := by decide +kernel
theorem dX0_addRow_86 : decode cX0_addRow 86 = .ok (.istore_n 2, 1) := by decide +kernel
theorem dX0_addRow_87 : decode cX0_addRow 87 = .ok (.iload 6, 2) := by decide +kernel
theorem dX0_addRow_89 : decode cX0_addRow 89 = .ok (.istore_n 3, 1) := by decide +kernel
theorem dX0_addRow_90 : decode cX0_addRow 90 = .ok (.iinc 5 1, 3) := by decide +kernel
theorem dX0_addRow_93 : decode cX0_addRow 93 = .ok (.goto (-63), 3) := by decide +kernel
theorem dX0_addRow_96 : decode cX0_addRow 96 = .ok (.iinc 4 1, 3) := by decide +kernel
theorem dX0_addRow_99 : decode cX0_addRow 99 = .ok (.goto (-87), 3) := by decide +kernel
theorem dX0_addRow_102 : decode cX0_addRow 102 = .ok (.iload_n 1, 1) := by decide +kernel
theorem dX0_addRow_103 : decode cX0_addRow 103 = .ok (.bipush (-9), 2) := by decide +kernel
theorem dX0_addRow_105 : decode cX0_addRow 105 = .ok (.if_icmp .eq 15, 3) := by decide +kernel
theorem dX0_addRow_108 : decode cX0_addRow 108 = .ok (.aload_n 0, 1) := by decide +kernel
theorem dX0_addRow_109 : decode cX0_addRow 109 = .ok (.getfield 15, 3) := by decide +kernel
theorem dX0_addRow_112 : decode cX0_addRow 112 = .ok (.aload_n 0, 1) := by decide +kernel
theorem dX0_addRow_113 : decode cX0_addRow 113 = .ok (.getfield 9, 3) := by decide +kernel
theorem dX0_addRow_116 : decode cX0_addRow 116 = .ok (.arraylength, 1) := by decide +kernel
theorem dX0_addRow_117 : decode cX0_addRow 117 = .ok (.if_icmp .lt 4, 3) := by decide +kernel
theorem dX0_addRow_120 : decode cX0_addRow 120 = .ok (.return_, 1) := by decide +kernel
theorem dX0_addRow_121 : decode cX0_addRow 121 = .ok (.aload_n 0, 1) := by decide +kernel
theorem dX0_addRow_122 : decode cX0_addRow 122 = .ok (.getfield 9, 3) := by decide +kernel
theorem dX0_addRow_125 : decode cX0_addRow 125 = .ok (.aload_n 0, 1) := by decide +kernel
theorem dX0_addRow_126 : decode cX0_addRow 126 = .ok (.getfield 15, 3) := by decide +kernel
theorem dX0_addRow_129 : decode cX0_addRow 129 = .ok (.bipush 10, 2) := by decide +kernel
theorem dX0_addRow_131 : decode cX0_addRow 131 = .ok (.iload_n 1, 1) := by decide +kernel
theorem dX0_addRow_132 : decode cX0_addRow 132 = .ok (.imul, 1) := by decide +kernel
theorem dX0_addRow_133 : decode cX0_addRow 133 = .ok (.iload_n 2, 1) := by decide +kernel
theorem dX0_addRow_134 : decode cX0_addRow 134 = .ok (.iadd, 1) := by decide +kernel
theorem dX0_addRow_135 : decode cX0_addRow 135 = .ok (.iastore, 1) := by decide +kernel
theorem dX0_addRow_136 : decode cX0_addRow 136 = .ok (.aload_n 0, 1) := by decide +kernel
theorem dX0_addRow_137 : decode cX0_addRow 137 = .ok (.dup, 1) := by decide +kernel
theorem dX0_addRow_138 : decode cX0_addRow 138 = .ok (.getfield 15, 3) := by decide +kernel
theorem dX0_addRow_141 : decode cX0_addRow 141 = .ok (.iconst 1, 1) := by decide +kernel
theorem dX0_addRow_142 : decode cX0_addRow 142 = .ok (.iadd, 1) := by decide +kernel
theorem dX0_addRow_143 : decode cX0_addRow 143 = .ok (.putfield 15, 3) := by decide +kernel
theorem dX0_addRow_146 : decode cX0_addRow 146 = .ok (.aload_n 0, 1) := by decide +kernel
theorem dX0_addRow_147 : decode cX0_addRow 147 = .ok (.dup, 1) := by decide +kernel
theorem dX0_addRow_148 : decode cX0_addRow 148 = .ok (.getfield 19, 3) := by decide +kernel
theorem dX0_addRow_151 : decode cX0_addRow 151 = .ok (.iload_n 3, 1) := by decide +kernel
theorem dX0_addRow_152 : decode cX0_addRow 152 = .ok (.iadd, 1) := by decide +kernel
theorem dX0_addRow_153 : decode cX0_addRow 153 = .ok (.putfield 19, 3) := by decide +kernel
theorem dX0_addRow_156 : decode cX0_addRow 156 = .ok (.aload_n 0, 1) := by decide +kernel
theorem dX0_addRow_157 : decode cX0_addRow 157 = .ok (.aload_n 0, 1) := by decide +kernel
theorem dX0_addRow_158 : decode cX0_addRow 158 = .ok (.getfield 25, 3) := by decide +kernel
theorem dX0_addRow_161 : decode cX0_addRow 161 = .ok (.iload_n 1, 1) := by decide +kernel
theorem dX0_addRow_162 : decode cX0_addRow 162 = .ok (.iaload, 1) := by decide +kernel
theorem dX0_addRow_163 : decode cX0_addRow 163 = .ok (.aload_n 0, 1) := by decide +kernel
theorem dX0_addRow_164 : decode cX0_addRow 164 = .ok (.getfield 25, 3) := by decide +kernel
theorem dX0_addRow_167 : decode cX0_addRow 167 = .ok (.iload_n 2, 1) := by decide +kernel
theorem dX0_addRow_168 : decode cX0_addRow 168 = .ok (.iaload, 1) := by decide +kernel
theorem dX0_addRow_169 : decode cX0_addRow 169 = .ok (.invokevirtual 83, 3) := by decide +kernel
theorem dX0_addRow_172 : decode cX0_addRow 172 = .ok (.return_, 1) := by decide +kernel
theorem dX0_join_0 : decode cX0_join 0 = .ok (.iconst 0, 1) := by decide +kernel
theorem dX0_join_1 : decode cX0_join 1 = .ok (.istore_n 3, 1) := by decide +kernel
theorem dX0_join_2 : decode cX0_join 2 = .ok (.iload_n 3, 1) := by decide +kernel
theorem dX0_join_3 : decode cX0_join 3 = .ok (.aload_n 0, 1) := by decide +kernel
theorem dX0_join_4 : decode cX0_join 4 = .ok (.getfield 32, 3) := by decide +kernel
theorem dX0_join_7 : decode cX0_join 7 = .ok (.getfield 73, 3) := by decide +kernel
theorem dX0_join_10 : decode cX0_join 10 = .ok (.if_icmp .ge 26, 3) := by decide +kernel
theorem dX0_join_13 : decode cX0_join 13 = .ok (.aload_n 0, 1) := by decide +kernel
theorem dX0_join_14 : decode cX0_join 14 = .ok (.getfield 25, 3) := by decide +kernel
theorem dX0_join_17 : decode cX0_join 17 = .ok (.iload_n 3, 1) := by decide +kernel
theorem dX0_join_18 : decode cX0_join 18 = .ok (.iaload, 1) := by decide +kernel
theorem dX0_join_19 : decode cX0_join 19 = .ok (.iload_n 2, 1) := by decide +kernel
theorem dX0_join_20 : decode cX0_join 20 = .ok (.if_icmp .ne 10, 3) := by decide +kernel
theorem dX0_join_23 : decode cX0_join 23 = .ok (.aload_n 0, 1) := by decide +kernel
theorem dX0_join_24 : decode cX0_join 24 = .ok (.getfield 25, 3) := by decide +kernel
theorem dX0_join_27 : decode cX0_join 27 = .ok (.iload_n 3, 1) := by decide +kernel
theorem dX0_join_28 : decode cX0_join 28 = .ok (.iload_n 1, 1) := by decide +kernel
theorem dX0_join_29 : decode cX0_join 29 = .ok (.iastore, 1) := by decide +kernel
theorem dX0_join_30 : decode cX0_join 30 = .ok (.iinc 3 1, 3) := by decide +kernel
theorem dX0_join_33 : decode cX0_join 33 = .ok (.goto (-31), 3) := by decide +kernel
theorem dX0_join_36 : decode cX0_join 36 = .ok (.return_, 1) := by decide +kernel
theorem dX1_init_0 : decode cX1_init 0 = .ok (.aload_n 0, 1) := by decide +kernel
theorem dX1_init_1 : decode cX1_init 1 = .ok (.invokespecial 5, 3) := by decide +kernel
theorem dX1_init_4 : decode cX1_init 4 = .ok (.aload_n 0, 1) := by decide +kernel
theorem dX1_init_5 : decode cX1_init 5 = .ok (.bipush 8, 2) := by decide +kernel
theorem dX1_init_7 : decode cX1_init 7 = .ok (.newarray .int, 2) := by decide +kernel
theorem dX1_init_9 : decode cX1_init 9 = .ok (.putfield 11, 3) := by decide +kernel
theorem dX1_init_12 : decode cX1_init 12 = .ok (.aload_n 0, 1) := by decide +kernel
theorem dX1_init_13 : decode cX1_init 13 = .ok (.bipush 8, 2) := by decide +kernel
theorem dX1_init_15 : decode cX1_init 15 = .ok (.newarray .int, 2) := by decide +kernel
theorem dX1_init_17 : decode cX1_init 17 = .ok (.putfield 15, 3) := by decide +kernel
theorem dX1_init_20 : decode cX1_init 20 = .ok (.aload_n 0, 1) := by decide +kernel
theorem dX1_init_21 : decode cX1_init 21 = .ok (.iconst 0, 1) := by decide +kernel
theorem dX1_init_22 : decode cX1_init 22 = .ok (.putfield 18, 3) := by decide +kernel
theorem dX1_init_25 : decode cX1_init 25 = .ok (.aload_n 0, 1) := by decide +kernel
theorem dX1_init_26 : decode cX1_init 26 = .ok (.bipush 8, 2) := by decide +kernel
theorem dX1_init_28 : decode cX1_init 28 = .ok (.newarray .int, 2) := by decide +kernel
theorem dX1_init_30 : decode cX1_init 30 = .ok (.putfield 22, 3) := by decide +kernel
theorem dX1_init_33 : decode cX1_init 33 = .ok (.aload_n 0, 1) := by decide +kernel
theorem dX1_init_34 : decode cX1_init 34 = .ok (.sipush 256, 3) := by decide +kernel
theorem dX1_init_37 : decode cX1_init 37 = .ok (.newarray .long, 2) := by decide +kernel
theorem dX1_init_39 : decode cX1_init 39 = .ok (.putfield 25, 3) := by decide +kernel
theorem dX1_init_42 : decode cX1_init 42 = .ok (.aload_n 0, 1) := by decide +kernel
theorem dX1_init_43 : decode cX1_init 43 = .ok (.bipush 8, 2) := by decide +kernel
theorem dX1_init_45 : decode cX1_init 45 = .ok (.newarray .int, 2) := by decide +kernel
theorem dX1_init_47 : decode cX1_init 47 = .ok (.putfield 29, 3) := by decide +kernel
theorem dX1_init_50 : decode cX1_init 50 = .ok (.aload_n 0, 1) := by decide +kernel
theorem dX1_init_51 : decode cX1_init 51 = .ok (.bipush 8, 2) := by decide +kernel
theorem dX1_init_53 : decode cX1_init 53 = .ok (.newarray .long, 2) := by decide +kernel
theorem dX1_init_55 : decode cX1_init 55 = .ok (.putfield 32, 3) := by decide +kernel
theorem dX1_init_58 : decode cX1_init 58 = .ok (.aload_n 0, 1) := by decide +kernel
theorem dX1_init_59 : decode cX1_init 59 = .ok (.iconst 0, 1) := by decide +kernel
theorem dX1_init_60 : decode cX1_init 60 = .ok (.putfield 35, 3) := by decide +kernel
theorem dX1_init_63 : decode cX1_init 63 = .ok (.aload_n 0, 1) := by decide +kernel
theorem dX1_init_64 : decode cX1_init 64 = .ok (.aload_n 1, 1) := by decide +kernel
theorem dX1_init_65 : decode cX1_init 65 = .ok (.putfield 38, 3) := by decide +kernel
theorem dX1_init_68 : decode cX1_init 68 = .ok (.aload_n 0, 1) := by decide +kernel
theorem dX1_init_69 : decode cX1_init 69 = .ok (.aload_n 2, 1) := by decide +kernel
theorem dX1_init_70 : decode cX1_init 70 = .ok (.putfield 42, 3) := by decide +kernel
theorem dX1_init_73 : decode cX1_init 73 = .ok (.return_, 1) := by decide +kernel
theorem dX1_rankOf_0 : decode cX1_rankOf 0 = .ok (.aload_n 0, 1) := by decide +kernel
theorem dX1_rankOf_1 : decode cX1_rankOf 1 = .ok (.iload 4, 2) := by decide +kernel
theorem dX1_rankOf_3 : decode cX1_rankOf 3 = .ok (.iload 5, 2) := by decide +kernel
theorem dX1_rankOf_5 : decode cX1_rankOf 5 = .ok (.invokevirtual 46, 3) := by decide +kernel
theorem dX1_rankOf_8 : decode cX1_rankOf 8 = .ok (.aload_n 0, 1) := by decide +kernel
theorem dX1_rankOf_9 : decode cX1_rankOf 9 = .ok (.iload_n 1, 1) := by decide +kernel
theorem dX1_rankOf_10 : decode cX1_rankOf 10 = .ok (.iload_n 2, 1) := by decide +kernel
theorem dX1_rankOf_11 : decode cX1_rankOf 11 = .ok (.iload_n 3, 1) := by decide +kernel
theorem dX1_rankOf_12 : decode cX1_rankOf 12 = .ok (.invokevirtual 50, 3) := by decide +kernel
theorem dX1_rankOf_15 : decode cX1_rankOf 15 = .ok (.ireturn, 1) := by decide +kernel
theorem dX1_find_0 : decode cX1_find 0 = .ok (.aload_n 0, 1) := by decide +kernel
theorem dX1_find_1 : decode cX1_find 1 = .ok (.iload_n 2, 1) := by decide +kernel
theorem dX1_find_2 : decode cX1_find 2 = .ok (.iload_n 3, 1) := by decide +kernel
theorem dX1_find_3 : decode cX1_find 3 = .ok (.invokevirtual 46, 3) := by decide +kernel
theorem dX1_find_6 : decode cX1_find 6 = .ok (.aload_n 0, 1) := by decide +kernel
theorem dX1_find_7 : decode cX1_find 7 = .ok (.getfield 25, 3) := by decide +kernel
theorem dX1_find_10 : decode cX1_find 10 = .ok (.ldc2_w 54, 3) := by decide +kernel
theorem dX1_find_13 : decode cX1_find 13 = .ok (.invokestatic 56, 3) := by decide +kernel
theorem dX1_find_16 : decode cX1_find 16 = .ok (.aload_n 0, 1) := by decide +kernel
theorem dX1_find_17 : decode cX1_find 17 = .ok (.getfield 25, 3) := by decide +kernel
theorem dX1_find_20 : decode cX1_find 20 = .ok (.iconst 0, 1) := by decide +kernel
theorem dX1_find_21 : decode cX1_find 21 = .ok (.lconst 0, 1) := by decide +kernel
theorem dX1_find_22 : decode cX1_find 22 = .ok (.lastore, 1) := by decide +kernel
theorem dX1_find_23 : decode cX1_find 23 = .ok (.iconst 0, 1) := by decide +kernel
theorem dX1_find_24 : decode cX1_find 24 = .ok (.istore 4, 2) := by decide +kernel
theorem dX1_find_26 : decode cX1_find 26 = .ok (.iconst 0, 1) := by decide +kernel
theorem dX1_find_27 : decode cX1_find 27 = .ok (.istore 5, 2) := by decide +kernel
theorem dX1_find_29 : decode cX1_find 29 = .ok (.iload 5, 2) := by decide +kernel
theorem dX1_find_31 : decode cX1_find 31 = .ok (.aload_n 0, 1) := by decide +kernel
theorem dX1_find_32 : decode cX1_find 32 = .ok (.getfield 42, 3) := by decide +kernel
theorem dX1_find_35 : decode cX1_find 35 = .ok (.getfield 62, 3) := by decide +kernel
theorem dX1_find_38 : decode cX1_find 38 = .ok (.iload_n 1, 1) := by decide +kernel
theorem dX1_find_39 : decode cX1_find 39 = .ok (.iaload, 1) := by decide +kernel
theorem dX1_find_40 : decode cX1_find 40 = .ok (.if_icmp .ge 29, 3) := by decide +kernel
theorem dX1_find_43 : decode cX1_find 43 = .ok (.iload 4, 2) := by decide +kernel
theorem dX1_find_45 : decode cX1_find 45 = .ok (.aload_n 0, 1) := by decide +kernel
theorem dX1_find_46 : decode cX1_find 46 = .ok (.iload_n 1, 1) := by decide +kernel
theorem dX1_find_47 : decode cX1_find 47 = .ok (.iload 5, 2) := by decide +kernel
theorem dX1_find_49 : decode cX1_find 49 = .ok (.invokevirtual 67, 3) := by decide +kernel
theorem dX1_find_52 : decode cX1_find 52 = .ok (.ior, 1) := by decide +kernel
theorem dX1_find_53 : decode cX1_find 53 = .ok (.istore 4, 2) := by decide +kernel
theorem dX1_find_55 : decode cX1_find 55 = .ok (.aload_n 0, 1) := by decide +kernel
theorem dX1_find_56 : decode cX1_find 56 = .ok (.iload 5, 2) := by decide +kernel
theorem dX1_find_58 : decode cX1_find 58 = .ok (.iload 4, 2) := by decide +kernel
theorem dX1_find_60 : decode cX1_find 60 = .ok (.invokevirtual 71, 3) := by decide +kernel
theorem dX1_find_63 : decode cX1_find 63 = .ok (.iinc 5 1, 3) := by decide +kernel
theorem dX1_find_66 : decode cX1_find 66 = .ok (.goto (-37), 3) := by decide +kernel
theorem dX1_find_69 : decode cX1_find 69 = .ok (.aload_n 0, 1) := by decide +kernel
theorem dX1_find_70 : decode cX1_find 70 = .ok (.aload_n 0, 1) := by decide +kernel
theorem dX1_find_71 : decode cX1_find 71 = .ok (.iload 4, 2) := by decide +kernel
theorem dX1_find_73 : decode cX1_find 73 = .ok (.invokevirtual 74, 3) := by decide +kernel
theorem dX1_find_76 : decode cX1_find 76 = .ok (.aload_n 0, 1) := by decide +kernel
theorem dX1_find_77 : decode cX1_find 77 = .ok (.getfield 42, 3) := by decide +kernel
theorem dX1_find_80 : decode cX1_find 80 = .ok (.getfield 62, 3) := by decide +kernel
theorem dX1_find_83 : decode cX1_find 83 = .ok (.iload_n 1, 1) := by decide +kernel
theorem dX1_find_84 : decode cX1_find 84 = .ok (.iaload, 1) := by decide +kernel
theorem dX1_find_85 : decode cX1_find 85 = .ok (.invokevirtual 78, 3) := by decide +kernel
theorem dX1_find_88 : decode cX1_find 88 = .ok (.return_, 1) := by decide +kernel
theorem dX1_turnSky_0 : decode cX1_turnSky 0 = .ok (.iconst 0, 1) := by decide +kernel
theorem dX1_turnSky_1 : decode cX1_turnSky 1 = .ok (.istore_n 3, 1) := by decide +kernel
theorem dX1_turnSky_2 : decode cX1_turnSky 2 = .ok (.iload_n 3, 1) := by decide +kernel
theorem dX1_turnSky_3 : decode cX1_turnSky 3 = .ok (.aload_n 0, 1) := by decide +kernel
theorem dX1_turnSky_4 : decode cX1_turnSky 4 = .ok (.getfield 38, 3) := by decide +kernel
theorem dX1_turnSky_7 : decode cX1_turnSky 7 = .ok (.getfield 82, 3) := by decide +kernel
theorem dX1_turnSky_10 : decode cX1_turnSky 10 = .ok (.if_icmp .ge 26, 3) := by decide +kernel
theorem dX1_turnSky_13 : decode cX1_turnSky 13 = .ok (.aload_n 0, 1) := by decide +kernel
theorem dX1_turnSky_14 : decode cX1_turnSky 14 = .ok (.getfield 22, 3) := by decide +kernel
theorem dX1_turnSky_17 : decode cX1_turnSky 17 = .ok (.iload_n 3, 1) := by decide +kernel
theorem dX1_turnSky_18 : decode cX1_turnSky 18 = .ok (.aload_n 0, 1) := by decide +kernel
theorem dX1_turnSky_19 : decode cX1_turnSky 19 = .ok (.getfield 38, 3) := by decide +kernel
theorem dX1_turnSky_22 : decode cX1_turnSky 22 = .ok (.iload_n 3, 1) := by decide +kernel
theorem dX1_turnSky_23 : decode cX1_turnSky 23 = .ok (.iload_n 1, 1) := by decide +kernel
theorem dX1_turnSky_24 : decode cX1_turnSky 24 = .ok (.invokevirtual 87, 3) := by decide +kernel
theorem dX1_turnSky_27 : decode cX1_turnSky 27 = .ok (.iload_n 2, 1) := by decide +kernel
theorem dX1_turnSky_28 : decode cX1_turnSky 28 = .ok (.iadd, 1) := by decide +kernel
theorem dX1_turnSky_29 : decode cX1_turnSky 29 = .ok (.iastore, 1) := by decide +kernel
theorem dX1_turnSky_30 : decode cX1_turnSky 30 = .ok (.iinc 3 1, 3) := by decide +kernel
theorem dX1_turnSky_33 : decode cX1_turnSky 33 = .ok (.goto (-31), 3) := by decide +kernel
theorem dX1_turnSky_36 : decode cX1_turnSky 36 = .ok (.return_, 1) := by decide +kernel
theorem dX1_turnedRank_0 : decode cX1_turnedRank 0 = .ok (.aload_n 0, 1) := by decide +kernel
theorem dX1_turnedRank_1 : decode cX1_turnedRank 1 = .ok (.getfield 22, 3) := by decide +kernel
theorem dX1_turnedRank_4 : decode cX1_turnedRank 4 = .ok (.iload_n 3, 1) := by decide +kernel
theorem dX1_turnedRank_5 : decode cX1_turnedRank 5 = .ok (.iaload, 1) := by decide +kernel
theorem dX1_turnedRank_6 : decode cX1_turnedRank 6 = .ok (.aload_n 0, 1) := by decide +kernel
theorem dX1_turnedRank_7 : decode cX1_turnedRank 7 = .ok (.getfield 42, 3) := by decide +kernel
theorem dX1_turnedRank_10 : decode cX1_turnedRank 10 = .ok (.iload_n 1, 1) := by decide +kernel
theorem dX1_turnedRank_11 : decode cX1_turnedRank 11 = .ok (.iload_n 2, 1) := by decide +kernel
theorem dX1_turnedRank_12 : decode cX1_turnedRank 12 = .ok (.invokevirtual 90, 3) := by decide +kernel
theorem dX1_turnedRank_15 : decode cX1_turnedRank 15 = .ok (.invokestatic 93, 3) := by decide +kernel
theorem dX1_turnedRank_18 : decode cX1_turnedRank 18 = .ok (.istore 4, 2) := by decide +kernel
theorem dX1_turnedRank_20 : decode cX1_turnedRank 20 = .ok (.iload 4, 2) := by decide +kernel
theorem dX1_turnedRank_22 : decode cX1_turnedRank 22 = .ok (.aload_n 0, 1) := by decide +kernel
theorem dX1_turnedRank_23 : decode cX1_turnedRank 23 = .ok (.getfield 42, 3) := by decide +kernel
theorem dX1_turnedRank_26 : decode cX1_turnedRank 26 = .ok (.iload_n 1, 1) := by decide +kernel
theorem dX1_turnedRank_27 : decode cX1_turnedRank 27 = .ok (.iload_n 2, 1) := by decide +kernel
theorem dX1_turnedRank_28 : decode cX1_turnedRank 28 = .ok (.invokevirtual 96, 3) := by decide +kernel
theorem dX1_turnedRank_31 : decode cX1_turnedRank 31 = .ok (.aload_n 0, 1) := by decide +kernel
theorem dX1_turnedRank_32 : decode cX1_turnedRank 32 = .ok (.getfield 38, 3) := by decide +kernel
theorem dX1_turnedRank_35 : decode cX1_turnedRank 35 = .ok (.getfield 99, 3) := by decide +kernel
theorem dX1_turnedRank_38 : decode cX1_turnedRank 38 = .ok (.iload_n 3, 1) := by decide +kernel
theorem dX1_turnedRank_39 : decode cX1_turnedRank 39 = .ok (.iaload, 1) := by decide +kernel
theorem dX1_turnedRank_40 : decode cX1_turnedRank 40 = .ok (.invokestatic 102, 3) := by decide +kernel
theorem dX1_turnedRank_43 : decode cX1_turnedRank 43 = .ok (.ireturn, 1) := by decide +kernel
theorem dX1_gatherFits_0 : decode cX1_gatherFits 0 = .ok (.iconst 0, 1) := by decide +kernel
theorem dX1_gatherFits_1 : decode cX1_gatherFits 1 = .ok (.istore_n 3, 1) := by decide +kernel
theorem dX1_gatherFits_2 : decode cX1_gatherFits 2 = .ok (.aload_n 0, 1) := by decide +kernel
theorem dX1_gatherFits_3 : decode cX1_gatherFits 3 = .ok (.iconst 0, 1) := by decide +kernel
theorem dX1_gatherFits_4 : decode cX1_gatherFits 4 = .ok (.putfield 35, 3) := by decide +kernel
theorem dX1_gatherFits_7 : decode cX1_gatherFits 7 = .ok (.iconst 0, 1) := by decide +kernel
theorem dX1_gatherFits_8 : decode cX1_gatherFits 8 = .ok (.istore 4, 2) := by decide +kernel
theorem dX1_gatherFits_10 : decode cX1_gatherFits 10 = .ok (.iload 4, 2) := by decide +kernel
theorem dX1_gatherFits_12 : decode cX1_gatherFits 12 = .ok (.aload_n 0, 1) := by decide +kernel
theorem dX1_gatherFits_13 : decode cX1_gatherFits 13 = .ok (.getfield 38, 3) := by decide +kernel
theorem dX1_gatherFits_16 : decode cX1_gatherFits 16 = .ok (.getfield 82, 3) := by decide +kernel
theorem dX1_gatherFits_19 : decode cX1_gatherFits 19 = .ok (.if_icmp .ge 99, 3) := by decide +kernel
theorem dX1_gatherFits_22 : decode cX1_gatherFits 22 = .ok (.aload_n 0, 1) := by decide +kernel
theorem dX1_gatherFits_23 : decode cX1_gatherFits 23 = .ok (.getfield 38, 3) := by decide +kernel
theorem dX1_gatherFits_26 : decode cX1_gatherFits 26 = .ok (.iload 4, 2) := by decide +kernel
theorem dX1_gatherFits_28 : decode cX1_gatherFits 28 = .ok (.invokevirtual 107, 3) := by decide +kernel
theorem dX1_gatherFits_31 : decode cX1_gatherFits 31 = .ok (.ifCond .ne 6, 3) := by decide +kernel
theorem dX1_gatherFits_34 : decode cX1_gatherFits 34 = .ok (.goto 78, 3) := by decide +kernel
theorem dX1_gatherFits_37 : decode cX1_gatherFits 37 = .ok (.aload_n 0, 1) := by decide +kernel
theorem dX1_gatherFits_38 : decode cX1_gatherFits 38 = .ok (.iload_n 1, 1) := by decide +kernel
theorem dX1_gatherFits_39 : decode cX1_gatherFits 39 = .ok (.iload_n 2, 1) := by decide +kernel
theorem dX1_gatherFits_40 : decode cX1_gatherFits 40 = .ok (.iload 4, 2) := by decide +kernel
theorem dX1_gatherFits_42 : decode cX1_gatherFits 42 = .ok (.invokevirtual 50, 3) := by decide +kernel
theorem dX1_gatherFits_45 : decode cX1_gatherFits 45 = .ok (.istore 5, 2) := by decide +kernel
theorem dX1_gatherFits_47 : decode cX1_gatherFits 47 = .ok (.iload 5, 2) := by decide +kernel
theorem dX1_gatherFits_49 : decode cX1_gatherFits 49 = .ok (.ldc 111, 2) := by decide +kernel
theorem dX1_gatherFits_51 : decode cX1_gatherFits 51 = .ok (.if_icmp .ne 6, 3) := by decide +kernel
theorem dX1_gatherFits_54 : decode cX1_gatherFits 54 = .ok (.goto 58, 3) := by decide +kernel
theorem dX1_gatherFits_57 : decode cX1_gatherFits 57 = .ok (.aload_n 0, 1) := by decide +kernel
theorem dX1_gatherFits_58 : decode cX1_gatherFits 58 = .ok (.getfield 29, 3) := by decide +kernel
theorem dX1_gatherFits_61 : decode cX1_gatherFits 61 = .ok (.aload_n 0, 1) := by decide +kernel
theorem dX1_gatherFits_62 : decode cX1_gatherFits 62 = .ok (.getfield 35, 3) := by decide +kernel
theorem dX1_gatherFits_65 : decode cX1_gatherFits 65 = .ok (.iconst 1, 1) := by decide +kernel
theorem dX1_gatherFits_66 : decode cX1_gatherFits 66 = .ok (.iload 4, 2) := by decide +kernel
theorem dX1_gatherFits_68 : decode cX1_gatherFits 68 = .ok (.ishl, 1) := by decide +kernel
theorem dX1_gatherFits_69 : decode cX1_gatherFits 69 = .ok (.iastore, 1) := by decide +kernel
theorem dX1_gatherFits_70 : decode cX1_gatherFits 70 = .ok (.aload_n 0, 1) := by decide +kernel
theorem dX1_gatherFits_71 : decode cX1_gatherFits 71 = .ok (.getfield 32, 3) := by decide +kernel
theorem dX1_gatherFits_74 : decode cX1_gatherFits 74 = .ok (.aload_n 0, 1) := by decide +kernel
theorem dX1_gatherFits_75 : decode cX1_gatherFits 75 = .ok (.getfield 35, 3) := by decide +kernel
theorem dX1_gatherFits_78 : decode cX1_gatherFits 78 = .ok (.iload_n 2, 1) := by decide +kernel
theorem dX1_gatherFits_79 : decode cX1_gatherFits 79 = .ok (.iload 5, 2) := by decide +kernel
theorem dX1_gatherFits_81 : decode cX1_gatherFits 81 = .ok (.invokestatic 112, 3) := by decide +kernel
theorem dX1_gatherFits_84 : decode cX1_gatherFits 84 = .ok (.iload 4, 2) := by decide +kernel
theorem dX1_gatherFits_86 : decode cX1_gatherFits 86 = .ok (.invokestatic 116, 3) := by decide +kernel
theorem dX1_gatherFits_89 : decode cX1_gatherFits 89 = .ok (.lastore, 1) := by decide +kernel
theorem dX1_gatherFits_90 : decode cX1_gatherFits 90 = .ok (.iload_n 3, 1) := by decide +kernel
theorem dX1_gatherFits_91 : decode cX1_gatherFits 91 = .ok (.aload_n 0, 1) := by decide +kernel
theorem dX1_gatherFits_92 : decode cX1_gatherFits 92 = .ok (.getfield 29, 3) := by decide +kernel
theorem dX1_gatherFits_95 : decode cX1_gatherFits 95 = .ok (.aload_n 0, 1) := by decide +kernel
theorem dX1_gatherFits_96 : decode cX1_gatherFits 96 = .ok (.getfield 35, 3) := by decide +kernel
theorem dX1_gatherFits_99 : decode cX1_gatherFits 99 = .ok (.iaload, 1) := by decide +kernel
theorem dX1_gatherFits_100 : decode cX1_gatherFits 100 = .ok (.ior, 1) := by decide +kernel
theorem dX1_gatherFits_101 : decode cX1_gatherFits 101 = .ok (.istore_n 3, 1) := by decide +kernel
theorem dX1_gatherFits_102 : decode cX1_gatherFits 102 = .ok (.aload_n 0, 1) := by decide +kernel
theorem dX1_gatherFits_103 : decode cX1_gatherFits 103 = .ok (.dup, 1) := by decide +kernel
theorem dX1_gatherFits_104 : decode cX1_gatherFits 104 = .ok (.getfield 35, 3) := by decide +kernel
theorem dX1_gatherFits_107 : decode cX1_gatherFits 107 = .ok (.iconst 1, 1) := by decide +kernel
theorem dX1_gatherFits_108 : decode cX1_gatherFits 108 = .ok (.iadd, 1) := by decide +kernel
theorem dX1_gatherFits_109 : decode cX1_gatherFits 109 = .ok (.putfield 35, 3) := by decide +kernel
theorem dX1_gatherFits_112 : decode cX1_gatherFits 112 = .ok (.iinc 4 1, 3) := by decide +kernel
theorem dX1_gatherFits_115 : decode cX1_gatherFits 115 = .ok (.goto (-105), 3) := by decide +kernel
theorem dX1_gatherFits_118 : decode cX1_gatherFits 118 = .ok (.iload_n 3, 1) := by decide +kernel
theorem dX1_gatherFits_119 : decode cX1_gatherFits 119 = .ok (.ireturn, 1) := by decide +kernel
theorem dX1_keyPart_0 : decode cX1_keyPart 0 = .ok (.iload_n 1, 1) := by decide +kernel
theorem dX1_keyPart_1 : decode cX1_keyPart 1 = .ok (.i2l, 1) := by decide +kernel
theorem dX1_keyPart_2 : decode cX1_keyPart 2 = .ok (.bipush 32, 2) := by decide +kernel
theorem dX1_keyPart_4 : decode cX1_keyPart 4 = .ok (.lshl, 1) := by decide +kernel
theorem dX1_keyPart_5 : decode cX1_keyPart 5 = .ok (.iload_n 2, 1) := by decide +kernel
theorem dX1_keyPart_6 : decode cX1_keyPart 6 = .ok (.i2l, 1) := by decide +kernel
theorem dX1_keyPart_7 : decode cX1_keyPart 7 = .ok (.iload_n 0, 1) := by decide +kernel
theorem dX1_keyPart_8 : decode cX1_keyPart 8 = .ok (.invokestatic 120, 3) := by decide +kernel
theorem dX1_keyPart_11 : decode cX1_keyPart 11 = .ok (.lshl, 1) := by decide +kernel
theorem dX1_keyPart_12 : decode cX1_keyPart 12 = .ok (.ladd, 1) := by decide +kernel
theorem dX1_keyPart_13 : decode cX1_keyPart 13 = .ok (.lreturn, 1) := by decide +kernel
theorem dX1_digitPlace_0 : decode cX1_digitPlace 0 = .ok (.iconst 4, 1) := by decide +kernel
theorem dX1_digitPlace_1 : decode cX1_digitPlace 1 = .ok (.bipush 7, 2) := by decide +kernel
theorem dX1_digitPlace_3 : decode cX1_digitPlace 3 = .ok (.iload_n 0, 1) := by decide +kernel
theorem dX1_digitPlace_4 : decode cX1_digitPlace 4 = .ok (.isub, 1) := by decide +kernel
theorem dX1_digitPlace_5 : decode cX1_digitPlace 5 = .ok (.imul, 1) := by decide +kernel
theorem dX1_digitPlace_6 : decode cX1_digitPlace 6 = .ok (.ireturn, 1) := by decide +kernel
theorem dX1_takeLine_0 : decode cX1_takeLine 0 = .ok (.iload_n 1, 1) := by decide +kernel
theorem dX1_takeLine_1 : decode cX1_takeLine 1 = .ok (.bipush 100, 2) := by decide +kernel
theorem dX1_takeLine_3 : decode cX1_takeLine 3 = .ok (.bipush 8, 2) := by decide +kernel
theorem dX1_takeLine_5 : decode cX1_takeLine 5 = .ok (.invokestatic 116, 3) := by decide +kernel
theorem dX1_takeLine_8 : decode cX1_takeLine 8 = .ok (.lstore_n 3, 1) := by decide +kernel
theorem dX1_takeLine_9 : decode cX1_takeLine 9 = .ok (.iload_n 2, 1) := by decide +kernel
theorem dX1_takeLine_10 : decode cX1_takeLine 10 = .ok (.istore 5, 2) := by decide +kernel
theorem dX1_takeLine_12 : decode cX1_takeLine 12 = .ok (.iload 5, 2) := by decide +kernel
theorem dX1_takeLine_14 : decode cX1_takeLine 14 = .ok (.ifCond .lt 105, 3) := by decide +kernel
theorem dX1_takeLine_17 : decode cX1_takeLine 17 = .ok (.iload 5, 2) := by decide +kernel
theorem dX1_takeLine_19 : decode cX1_takeLine 19 = .ok (.iload_n 2, 1) := by decide +kernel
theorem dX1_takeLine_20 : decode cX1_takeLine 20 = .ok (.iconst (-1), 1) := by decide +kernel
theorem dX1_takeLine_21 : decode cX1_takeLine 21 = .ok (.ixor, 1) := by decide +kernel
theorem dX1_takeLine_22 : decode cX1_takeLine 22 = .ok (.iand, 1) := by decide +kernel
theorem dX1_takeLine_23 : decode cX1_takeLine 23 = .ok (.ifCond .eq 6, 3) := by decide +kernel
theorem dX1_takeLine_26 : decode cX1_takeLine 26 = .ok (.goto 87, 3) := by decide +kernel
theorem dX1_takeLine_29 : decode cX1_takeLine 29 = .ok (.aload_n 0, 1) := by decide +kernel
theorem dX1_takeLine_30 : decode cX1_takeLine 30 = .ok (.getfield 25, 3) := by decide +kernel
theorem dX1_takeLine_33 : decode cX1_takeLine 33 = .ok (.iload 5, 2) := by decide +kernel
theorem dX1_takeLine_35 : decode cX1_takeLine 35 = .ok (.laload, 1) := by decide +kernel
theorem dX1_takeLine_36 : decode cX1_takeLine 36 = .ok (.lload_n 3, 1) := by decide +kernel
theorem dX1_takeLine_37 : decode cX1_takeLine 37 = .ok (.ladd, 1) := by decide +kernel
theorem dX1_takeLine_38 : decode cX1_takeLine 38 = .ok (.lstore 6, 2) := by decide +kernel
theorem dX1_takeLine_40 : decode cX1_takeLine 40 = .ok (.iconst 0, 1) := by decide +kernel
theorem dX1_takeLine_41 : decode cX1_takeLine 41 = .ok (.istore 8, 2) := by decide +kernel
theorem dX1_takeLine_43 : decode cX1_takeLine 43 = .ok (.iload 8, 2) := by decide +kernel
theorem dX1_takeLine_45 : decode cX1_takeLine 45 = .ok (.aload_n 0, 1) := by decide +kernel
theorem dX1_takeLine_46 : decode cX1_takeLine 46 = .ok (.getfield 35, 3) := by decide +kernel
theorem dX1_takeLine_49 : decode cX1_takeLine 49 = .ok (.if_icmp .ge 55, 3) := by decide +kernel
theorem dX1_takeLine_52 : decode cX1_takeLine 52 = .ok (.iload 5, 2) := by decide +kernel
theorem dX1_takeLine_54 : decode cX1_takeLine 54 = .ok (.aload_n 0, 1) := by decide +kernel
theorem dX1_takeLine_55 : decode cX1_takeLine 55 = .ok (.getfield 29, 3) := by decide +kernel
theorem dX1_takeLine_58 : decode cX1_takeLine 58 = .ok (.iload 8, 2) := by decide +kernel
theorem dX1_takeLine_60 : decode cX1_takeLine 60 = .ok (.iaload, 1) := by decide +kernel
theorem dX1_takeLine_61 : decode cX1_takeLine 61 = .ok (.iand, 1) := by decide +kernel
theorem dX1_takeLine_62 : decode cX1_takeLine 62 = .ok (.ifCond .ne 6, 3) := by decide +kernel
theorem dX1_takeLine_65 : decode cX1_takeLine 65 = .ok (.goto 33, 3) := by decide +kernel
theorem dX1_takeLine_68 : decode cX1_takeLine 68 = .ok (.lload 6, 2) := by decide +kernel
theorem dX1_takeLine_70 : decode cX1_takeLine 70 = .ok (.aload_n 0, 1) := by decide +kernel
theorem dX1_takeLine_71 : decode cX1_takeLine 71 = .ok (.getfield 25, 3) := by decide +kernel
theorem dX1_takeLine_74 : decode cX1_takeLine 74 = .ok (.iload 5, 2) := by decide +kernel
theorem dX1_takeLine_76 : decode cX1_takeLine 76 = .ok (.aload_n 0, 1) := by decide +kernel
theorem dX1_takeLine_77 : decode cX1_takeLine 77 = .ok (.getfield 29, 3) := by decide +kernel
theorem dX1_takeLine_80 : decode cX1_takeLine 80 = .ok (.iload 8, 2) := by decide +kernel
theorem dX1_takeLine_82 : decode cX1_takeLine 82 = .ok (.iaload, 1) := by decide +kernel
theorem dX1_takeLine_83 : decode cX1_takeLine 83 = .ok (.ixor, 1) := by decide +kernel
theorem dX1_takeLine_84 : decode cX1_takeLine 84 = .ok (.laload, 1) := by decide +kernel
theorem dX1_takeLine_85 : decode cX1_takeLine 85 = .ok (.aload_n 0, 1) := by decide +kernel
theorem dX1_takeLine_86 : decode cX1_takeLine 86 = .ok (.getfield 32, 3) := by decide +kernel
theorem dX1_takeLine_89 : decode cX1_takeLine 89 = .ok (.iload 8, 2) := by decide +kernel
theorem dX1_takeLine_91 : decode cX1_takeLine 91 = .ok (.laload, 1) := by decide +kernel
theorem dX1_takeLine_92 : decode cX1_takeLine 92 = .ok (.ladd, 1) := by decide +kernel
theorem dX1_takeLine_93 : decode cX1_takeLine 93 = .ok (.invokestatic 123, 3) := by decide +kernel
theorem dX1_takeLine_96 : decode cX1_takeLine 96 = .ok (.lstore 6, 2) := by decide +kernel
theorem dX1_takeLine_98 : decode cX1_takeLine 98 = .ok (.iinc 8 1, 3) := by decide +kernel
theorem dX1_takeLine_101 : decode cX1_takeLine 101 = .ok (.goto (-58), 3) := by decide +kernel
theorem dX1_takeLine_104 : decode cX1_takeLine 104 = .ok (.aload_n 0, 1) := by decide +kernel
theorem dX1_takeLine_105 : decode cX1_takeLine 105 = .ok (.getfield 25, 3) := by decide +kernel
theorem dX1_takeLine_108 : decode cX1_takeLine 108 = .ok (.iload 5, 2) := by decide +kernel
theorem dX1_takeLine_110 : decode cX1_takeLine 110 = .ok (.lload 6, 2) := by decide +kernel
theorem dX1_takeLine_112 : decode cX1_takeLine 112 = .ok (.lastore, 1) := by decide +kernel
theorem dX1_takeLine_113 : decode cX1_takeLine 113 = .ok (.iinc 5 (-1), 3) := by decide +kernel
theorem dX1_takeLine_116 : decode cX1_takeLine 116 = .ok (.goto (-104), 3) := by decide +kernel
theorem dX1_takeLine_119 : decode cX1_takeLine 119 = .ok (.return_, 1) := by decide +kernel
theorem dX1_leastKey_0 : decode cX1_leastKey 0 = .ok (.aload_n 0, 1) := by decide +kernel
theorem dX1_leastKey_1 : decode cX1_leastKey 1 = .ok (.getfield 25, 3) := by decide +kernel
theorem dX1_leastKey_4 : decode cX1_leastKey 4 = .ok (.iconst 0, 1) := by decide +kernel
theorem dX1_leastKey_5 : decode cX1_leastKey 5 = .ok (.laload, 1) := by decide +kernel
theorem dX1_leastKey_6 : decode cX1_leastKey 6 = .ok (.lstore_n 2, 1) := by decide +kernel
theorem dX1_leastKey_7 : decode cX1_leastKey 7 = .ok (.iconst 1, 1) := by decide +kernel
theorem dX1_leastKey_8 : decode cX1_leastKey 8 = .ok (.istore 4, 2) := by decide +kernel
theorem dX1_leastKey_10 : decode cX1_leastKey 10 = .ok (.iload 4, 2) := by decide +kernel
theorem dX1_leastKey_12 : decode cX1_leastKey 12 = .ok (.iload_n 1, 1) := by decide +kernel
theorem dX1_leastKey_13 : decode cX1_leastKey 13 = .ok (.if_icmp .gt 21, 3) := by decide +kernel
theorem dX1_leastKey_16 : decode cX1_leastKey 16 = .ok (.lload_n 2, 1) := by decide +kernel
theorem dX1_leastKey_17 : decode cX1_leastKey 17 = .ok (.aload_n 0, 1) := by decide +kernel
theorem dX1_leastKey_18 : decode cX1_leastKey 18 = .ok (.getfield 25, 3) := by decide +kernel
theorem dX1_leastKey_21 : decode cX1_leastKey 21 = .ok (.iload 4, 2) := by decide +kernel
theorem dX1_leastKey_23 : decode cX1_leastKey 23 = .ok (.laload, 1) := by decide +kernel
theorem dX1_leastKey_24 : decode cX1_leastKey 24 = .ok (.invokestatic 123, 3) := by decide +kernel
theorem dX1_leastKey_27 : decode cX1_leastKey 27 = .ok (.lstore_n 2, 1) := by decide +kernel
theorem dX1_leastKey_28 : decode cX1_leastKey 28 = .ok (.iinc 4 1, 3) := by decide +kernel
theorem dX1_leastKey_31 : decode cX1_leastKey 31 = .ok (.goto (-21), 3) := by decide +kernel
theorem dX1_leastKey_34 : decode cX1_leastKey 34 = .ok (.lload_n 2, 1) := by decide +kernel
theorem dX1_leastKey_35 : decode cX1_leastKey 35 = .ok (.lreturn, 1) := by decide +kernel
theorem dX1_readKey_0 : decode cX1_readKey 0 = .ok (.aload_n 0, 1) := by decide +kernel
theorem dX1_readKey_1 : decode cX1_readKey 1 = .ok (.lload_n 1, 1) := by decide +kernel
theorem dX1_readKey_2 : decode cX1_readKey 2 = .ok (.bipush 32, 2) := by decide +kernel
theorem dX1_readKey_4 : decode cX1_readKey 4 = .ok (.lshr, 1) := by decide +kernel
theorem dX1_readKey_5 : decode cX1_readKey 5 = .ok (.l2i, 1) := by decide +kernel
theorem dX1_readKey_6 : decode cX1_readKey 6 = .ok (.putfield 18, 3) := by decide +kernel
theorem dX1_readKey_9 : decode cX1_readKey 9 = .ok (.iconst 0, 1) := by decide +kernel
theorem dX1_readKey_10 : decode cX1_readKey 10 = .ok (.istore 4, 2) := by decide +kernel
theorem dX1_readKey_12 : decode cX1_readKey 12 = .ok (.iload 4, 2) := by decide +kernel
theorem dX1_readKey_14 : decode cX1_readKey 14 = .ok (.iload_n 3, 1) := by decide +kernel
theorem dX1_readKey_15 : decode cX1_readKey 15 = .ok (.if_icmp .ge 43, 3) := by decide +kernel
theorem dX1_readKey_18 : decode cX1_readKey 18 = .ok (.lload_n 1, 1) := by decide +kernel
theorem dX1_readKey_19 : decode cX1_readKey 19 = .ok (.iload 4, 2) := by decide +kernel
theorem dX1_readKey_21 : decode cX1_readKey 21 = .ok (.invokestatic 120, 3) := by decide +kernel
theorem dX1_readKey_24 : decode cX1_readKey 24 = .ok (.lshr, 1) := by decide +kernel
theorem dX1_readKey_25 : decode cX1_readKey 25 = .ok (.l2i, 1) := by decide +kernel
theorem dX1_readKey_26 : decode cX1_readKey 26 = .ok (.bipush 15, 2) := by decide +kernel
theorem dX1_readKey_28 : decode cX1_readKey 28 = .ok (.iand, 1) := by decide +kernel
theorem dX1_readKey_29 : decode cX1_readKey 29 = .ok (.istore 5, 2) := by decide +kernel
theorem dX1_readKey_31 : decode cX1_readKey 31 = .ok (.aload_n 0, 1) := by decide +kernel
theorem dX1_readKey_32 : decode cX1_readKey 32 = .ok (.getfield 11, 3) := by decide +kernel
theorem dX1_readKey_35 : decode cX1_readKey 35 = .ok (.iload 4, 2) := by decide +kernel
theorem dX1_readKey_37 : decode cX1_readKey 37 = .ok (.iload 5, 2) := by decide +kernel
theorem dX1_readKey_39 : decode cX1_readKey 39 = .ok (.bipush 8, 2) := by decide +kernel
theorem dX1_readKey_41 : decode cX1_readKey 41 = .ok (.if_icmp .ne 8, 3) := by decide +kernel
theorem dX1_readKey_44 : decode cX1_readKey 44 = .ok (.bipush (-9), 2) := by decide +kernel
theorem dX1_readKey_46 : decode cX1_readKey 46 = .ok (.goto 5, 3) := by decide +kernel
theorem dX1_readKey_49 : decode cX1_readKey 49 = .ok (.iload 5, 2) := by decide +kernel
theorem dX1_readKey_51 : decode cX1_readKey 51 = .ok (.iastore, 1) := by decide +kernel
theorem dX1_readKey_52 : decode cX1_readKey 52 = .ok (.iinc 4 1, 3) := by decide +kernel
theorem dX1_readKey_55 : decode cX1_readKey 55 = .ok (.goto (-43), 3) := by decide +kernel
theorem dX1_readKey_58 : decode cX1_readKey 58 = .ok (.return_, 1) := by decide +kernel
theorem dX1_sortPlainWays_0 : decode cX1_sortPlainWays 0 = .ok (.iconst 0, 1) := by decide +kernel
theorem dX1_sortPlainWays_1 : decode cX1_sortPlainWays 1 = .ok (.istore_n 2, 1) := by decide +kernel
theorem dX1_sortPlainWays_2 : decode cX1_sortPlainWays 2 = .ok (.iconst 0, 1) := by decide +kernel
theorem dX1_sortPlainWays_3 : decode cX1_sortPlainWays 3 = .ok (.istore_n 3, 1) := by decide +kernel
theorem dX1_sortPlainWays_4 : decode cX1_sortPlainWays 4 = .ok (.iload_n 3, 1) := by decide +kernel
theorem dX1_sortPlainWays_5 : decode cX1_sortPlainWays 5 = .ok (.aload_n 0, 1) := by decide +kernel
theorem dX1_sortPlainWays_6 : decode cX1_sortPlainWays 6 = .ok (.getfield 42, 3) := by decide +kernel
theorem dX1_sortPlainWays_9 : decode cX1_sortPlainWays 9 = .ok (.getfield 62, 3) := by decide +kernel
theorem dX1_sortPlainWays_12 : decode cX1_sortPlainWays 12 = .ok (.iload_n 1, 1) := by decide +kernel
theorem dX1_sortPlainWays_13 : decode cX1_sortPlainWays 13 = .ok (.iaload, 1) := by decide +kernel
theorem dX1_sortPlainWays_14 : decode cX1_sortPlainWays 14 = .ok (.if_icmp .ge 68, 3) := by decide +kernel
theorem dX1_sortPlainWays_17 : decode cX1_sortPlainWays 17 = .ok (.aload_n 0, 1) := by decide +kernel
theorem dX1_sortPlainWays_18 : decode cX1_sortPlainWays 18 = .ok (.getfield 11, 3) := by decide +kernel
theorem dX1_sortPlainWays_21 : decode cX1_sortPlainWays 21 = .ok (.iload_n 3, 1) := by decide +kernel
theorem dX1_sortPlainWays_22 : decode cX1_sortPlainWays 22 = .ok (.iaload, 1) := by decide +kernel
theorem dX1_sortPlainWays_23 : decode cX1_sortPlainWays 23 = .ok (.istore 4, 2) := by decide +kernel
theorem dX1_sortPlainWays_25 : decode cX1_sortPlainWays 25 = .ok (.iload 4, 2) := by decide +kernel
theorem dX1_sortPlainWays_27 : decode cX1_sortPlainWays 27 = .ok (.bipush (-9), 2) := by decide +kernel
theorem dX1_sortPlainWays_29 : decode cX1_sortPlainWays 29 = .ok (.if_icmp .eq 47, 3) := by decide +kernel
theorem dX1_sortPlainWays_32 : decode cX1_sortPlainWays 32 = .ok (.aload_n 0, 1) := by decide +kernel
theorem dX1_sortPlainWays_33 : decode cX1_sortPlainWays 33 = .ok (.iload_n 1, 1) := by decide +kernel
theorem dX1_sortPlainWays_34 : decode cX1_sortPlainWays 34 = .ok (.iload_n 3, 1) := by decide +kernel
theorem dX1_sortPlainWays_35 : decode cX1_sortPlainWays 35 = .ok (.iload 4, 2) := by decide +kernel
theorem dX1_sortPlainWays_37 : decode cX1_sortPlainWays 37 = .ok (.invokevirtual 50, 3) := by decide +kernel
theorem dX1_sortPlainWays_40 : decode cX1_sortPlainWays 40 = .ok (.invokestatic 129, 3) := by decide +kernel
theorem dX1_sortPlainWays_43 : decode cX1_sortPlainWays 43 = .ok (.ifCond .eq 6, 3) := by decide +kernel
theorem dX1_sortPlainWays_46 : decode cX1_sortPlainWays 46 = .ok (.goto 30, 3) := by decide +kernel
theorem dX1_sortPlainWays_49 : decode cX1_sortPlainWays 49 = .ok (.aload_n 0, 1) := by decide +kernel
theorem dX1_sortPlainWays_50 : decode cX1_sortPlainWays 50 = .ok (.iload_n 2, 1) := by decide +kernel
theorem dX1_sortPlainWays_51 : decode cX1_sortPlainWays 51 = .ok (.aload_n 0, 1) := by decide +kernel
theorem dX1_sortPlainWays_52 : decode cX1_sortPlainWays 52 = .ok (.getfield 22, 3) := by decide +kernel
theorem dX1_sortPlainWays_55 : decode cX1_sortPlainWays 55 = .ok (.iload 4, 2) := by decide +kernel
theorem dX1_sortPlainWays_57 : decode cX1_sortPlainWays 57 = .ok (.iaload, 1) := by decide +kernel
theorem dX1_sortPlainWays_58 : decode cX1_sortPlainWays 58 = .ok (.aload_n 0, 1) := by decide +kernel
theorem dX1_sortPlainWays_59 : decode cX1_sortPlainWays 59 = .ok (.getfield 42, 3) := by decide +kernel
theorem dX1_sortPlainWays_62 : decode cX1_sortPlainWays 62 = .ok (.iload_n 1, 1) := by decide +kernel
theorem dX1_sortPlainWays_63 : decode cX1_sortPlainWays 63 = .ok (.iload_n 3, 1) := by decide +kernel
theorem dX1_sortPlainWays_64 : decode cX1_sortPlainWays 64 = .ok (.invokevirtual 90, 3) := by decide +kernel
theorem dX1_sortPlainWays_67 : decode cX1_sortPlainWays 67 = .ok (.invokestatic 93, 3) := by decide +kernel
theorem dX1_sortPlainWays_70 : decode cX1_sortPlainWays 70 = .ok (.invokevirtual 132, 3) := by decide +kernel
theorem dX1_sortPlainWays_73 : decode cX1_sortPlainWays 73 = .ok (.iinc 2 1, 3) := by decide +kernel
theorem dX1_sortPlainWays_76 : decode cX1_sortPlainWays 76 = .ok (.iinc 3 1, 3) := by decide +kernel
theorem dX1_sortPlainWays_79 : decode cX1_sortPlainWays 79 = .ok (.goto (-75), 3) := by decide +kernel
theorem dX1_sortPlainWays_82 : decode cX1_sortPlainWays 82 = .ok (.iload_n 2, 1) := by decide +kernel
theorem dX1_sortPlainWays_83 : decode cX1_sortPlainWays 83 = .ok (.ireturn, 1) := by decide +kernel
theorem dX1_insertWay_0 : decode cX1_insertWay 0 = .ok (.iload_n 1, 1) := by decide +kernel
theorem dX1_insertWay_1 : decode cX1_insertWay 1 = .ok (.istore_n 3, 1) := by decide +kernel
theorem dX1_insertWay_2 : decode cX1_insertWay 2 = .ok (.iload_n 3, 1) := by decide +kernel
theorem dX1_insertWay_3 : decode cX1_insertWay 3 = .ok (.ifCond .le 35, 3) := by decide +kernel
theorem dX1_insertWay_6 : decode cX1_insertWay 6 = .ok (.aload_n 0, 1) := by decide +kernel
theorem dX1_insertWay_7 : decode cX1_insertWay 7 = .ok (.getfield 15, 3) := by decide +kernel
theorem dX1_insertWay_10 : decode cX1_insertWay 10 = .ok (.iload_n 3, 1) := by decide +kernel
theorem dX1_insertWay_11 : decode cX1_insertWay 11 = .ok (.iconst 1, 1) := by decide +kernel
theorem dX1_insertWay_12 : decode cX1_insertWay 12 = .ok (.isub, 1) := by decide +kernel
theorem dX1_insertWay_13 : decode cX1_insertWay 13 = .ok (.iaload, 1) := by decide +kernel
theorem dX1_insertWay_14 : decode cX1_insertWay 14 = .ok (.iload_n 2, 1) := by decide +kernel
theorem dX1_insertWay_15 : decode cX1_insertWay 15 = .ok (.if_icmp .le 23, 3) := by decide +kernel
theorem dX1_insertWay_18 : decode cX1_insertWay 18 = .ok (.aload_n 0, 1) := by decide +kernel
theorem dX1_insertWay_19 : decode cX1_insertWay 19 = .ok (.getfield 15, 3) := by decide +kernel
theorem dX1_insertWay_22 : decode cX1_insertWay 22 = .ok (.iload_n 3, 1) := by decide +kernel
theorem dX1_insertWay_23 : decode cX1_insertWay 23 = .ok (.aload_n 0, 1) := by decide +kernel
theorem dX1_insertWay_24 : decode cX1_insertWay 24 = .ok (.getfield 15, 3) := by decide +kernel
theorem dX1_insertWay_27 : decode cX1_insertWay 27 = .ok (.iload_n 3, 1) := by decide +kernel
theorem dX1_insertWay_28 : decode cX1_insertWay 28 = .ok (.iconst 1, 1) := by decide +kernel
theorem dX1_insertWay_29 : decode cX1_insertWay 29 = .ok (.isub, 1) := by decide +kernel
theorem dX1_insertWay_30 : decode cX1_insertWay 30 = .ok (.iaload, 1) := by decide +kernel
theorem dX1_insertWay_31 : decode cX1_insertWay 31 = .ok (.iastore, 1) := by decide +kernel
theorem dX1_insertWay_32 : decode cX1_insertWay 32 = .ok (.iinc 3 (-1), 3) := by decide +kernel
theorem dX1_insertWay_35 : decode cX1_insertWay 35 = .ok (.goto (-33), 3) := by decide +kernel
theorem dX1_insertWay_38 : decode cX1_insertWay 38 = .ok (.aload_n 0, 1) := by decide +kernel
theorem dX1_insertWay_39 : decode cX1_insertWay 39 = .ok (.getfield 15, 3) := by decide +kernel
theorem dX1_insertWay_42 : decode cX1_insertWay 42 = .ok (.iload_n 3, 1) := by decide +kernel
theorem dX1_insertWay_43 : decode cX1_insertWay 43 = .ok (.iload_n 2, 1) := by decide +kernel
theorem dX1_insertWay_44 : decode cX1_insertWay 44 = .ok (.iastore, 1) := by decide +kernel
theorem dX1_insertWay_45 : decode cX1_insertWay 45 = .ok (.return_, 1) := by decide +kernel
theorem dX2_init_0 : decode cX2_init 0 = .ok (.aload_n 0, 1) := by decide +kernel
theorem dX2_init_1 : decode cX2_init 1 = .ok (.invokespecial 3, 3) := by decide +kernel
theorem dX2_init_4 : decode cX2_init 4 = .ok (.aload_n 0, 1) := by decide +kernel
theorem dX2_init_5 : decode cX2_init 5 = .ok (.bipush 6, 2) := by decide +kernel
theorem dX2_init_7 : decode cX2_init 7 = .ok (.newarray .int, 2) := by decide +kernel
theorem dX2_init_9 : decode cX2_init 9 = .ok (.putfield 9, 3) := by decide +kernel
theorem dX2_init_12 : decode cX2_init 12 = .ok (.aload_n 0, 1) := by decide +kernel
theorem dX2_init_13 : decode cX2_init 13 = .ok (.iconst 0, 1) := by decide +kernel
theorem dX2_init_14 : decode cX2_init 14 = .ok (.putfield 15, 3) := by decide +kernel
theorem dX2_init_17 : decode cX2_init 17 = .ok (.aload_n 0, 1) := by decide +kernel
theorem dX2_init_18 : decode cX2_init 18 = .ok (.bipush 48, 2) := by decide +kernel
theorem dX2_init_20 : decode cX2_init 20 = .ok (.newarray .int, 2) := by decide +kernel
theorem dX2_init_22 : decode cX2_init 22 = .ok (.putfield 19, 3) := by decide +kernel
theorem dX2_init_25 : decode cX2_init 25 = .ok (.aload_n 0, 1) := by decide +kernel
theorem dX2_init_26 : decode cX2_init 26 = .ok (.bipush 48, 2) := by decide +kernel
theorem dX2_init_28 : decode cX2_init 28 = .ok (.newarray .int, 2) := by decide +kernel
theorem dX2_init_30 : decode cX2_init 30 = .ok (.putfield 22, 3) := by decide +kernel
theorem dX2_init_33 : decode cX2_init 33 = .ok (.return_, 1) := by decide +kernel
theorem dX2_has_0 : decode cX2_has 0 = .ok (.iload_n 1, 1) := by decide +kernel
theorem dX2_has_1 : decode cX2_has 1 = .ok (.ifCond .lt 15, 3) := by decide +kernel
theorem dX2_has_4 : decode cX2_has 4 = .ok (.iload_n 1, 1) := by decide +kernel
theorem dX2_has_5 : decode cX2_has 5 = .ok (.aload_n 0, 1) := by decide +kernel
theorem dX2_has_6 : decode cX2_has 6 = .ok (.getfield 15, 3) := by decide +kernel
theorem dX2_has_9 : decode cX2_has 9 = .ok (.if_icmp .ge 7, 3) := by decide +kernel
theorem dX2_has_12 : decode cX2_has 12 = .ok (.iconst 1, 1) := by decide +kernel
theorem dX2_has_13 : decode cX2_has 13 = .ok (.goto 4, 3) := by decide +kernel
theorem dX2_has_16 : decode cX2_has 16 = .ok (.iconst 0, 1) := by decide +kernel
theorem dX2_has_17 : decode cX2_has 17 = .ok (.ireturn, 1) := by decide +kernel
theorem dX2_hasLine_0 : decode cX2_hasLine 0 = .ok (.aload_n 0, 1) := by decide +kernel
theorem dX2_hasLine_1 : decode cX2_hasLine 1 = .ok (.iload_n 1, 1) := by decide +kernel
theorem dX2_hasLine_2 : decode cX2_hasLine 2 = .ok (.invokevirtual 25, 3) := by decide +kernel
theorem dX2_hasLine_5 : decode cX2_hasLine 5 = .ok (.ifCond .eq 21, 3) := by decide +kernel
theorem dX2_hasLine_8 : decode cX2_hasLine 8 = .ok (.iload_n 2, 1) := by decide +kernel
theorem dX2_hasLine_9 : decode cX2_hasLine 9 = .ok (.ifCond .lt 17, 3) := by decide +kernel
theorem dX2_hasLine_12 : decode cX2_hasLine 12 = .ok (.iload_n 2, 1) := by decide +kernel
theorem dX2_hasLine_13 : decode cX2_hasLine 13 = .ok (.aload_n 0, 1) := by decide +kernel
theorem dX2_hasLine_14 : decode cX2_hasLine 14 = .ok (.getfield 9, 3) := by decide +kernel
theorem dX2_hasLine_17 : decode cX2_hasLine 17 = .ok (.iload_n 1, 1) := by decide +kernel
theorem dX2_hasLine_18 : decode cX2_hasLine 18 = .ok (.iaload, 1) := by decide +kernel
theorem dX2_hasLine_19 : decode cX2_hasLine 19 = .ok (.if_icmp .ge 7, 3) := by decide +kernel
theorem dX2_hasLine_22 : decode cX2_hasLine 22 = .ok (.iconst 1, 1) := by decide +kernel
theorem dX2_hasLine_23 : decode cX2_hasLine 23 = .ok (.goto 4, 3) := by decide +kernel
theorem dX2_hasLine_26 : decode cX2_hasLine 26 = .ok (.iconst 0, 1) := by decide +kernel
theorem dX2_hasLine_27 : decode cX2_hasLine 27 = .ok (.ireturn, 1) := by decide +kernel
theorem dX2_open_0 : decode cX2_open 0 = .ok (.aload_n 0, 1) := by decide +kernel
theorem dX2_open_1 : decode cX2_open 1 = .ok (.dup, 1) := by decide +kernel
theorem dX2_open_2 : decode cX2_open 2 = .ok (.getfield 15, 3) := by decide +kernel
theorem dX2_open_5 : decode cX2_open 5 = .ok (.dup_x1, 1) := by decide +kernel
theorem dX2_open_6 : decode cX2_open 6 = .ok (.iconst 1, 1) := by decide +kernel
theorem dX2_open_7 : decode cX2_open 7 = .ok (.iadd, 1) := by decide +kernel
theorem dX2_open_8 : decode cX2_open 8 = .ok (.putfield 15, 3) := by decide +kernel
theorem dX2_open_11 : decode cX2_open 11 = .ok (.ireturn, 1) := by decide +kernel
theorem dX2_add_0 : decode cX2_add 0 = .ok (.aload_n 0, 1) := by decide +kernel
theorem dX2_add_1 : decode cX2_add 1 = .ok (.getfield 9, 3) := by decide +kernel
theorem dX2_add_4 : decode cX2_add 4 = .ok (.iload_n 1, 1) := by decide +kernel
theorem dX2_add_5 : decode cX2_add 5 = .ok (.iaload, 1) := by decide +kernel
theorem dX2_add_6 : decode cX2_add 6 = .ok (.istore 4, 2) := by decide +kernel
theorem dX2_add_8 : decode cX2_add 8 = .ok (.aload_n 0, 1) := by decide +kernel
theorem dX2_add_9 : decode cX2_add 9 = .ok (.getfield 9, 3) := by decide +kernel
theorem dX2_add_12 : decode cX2_add 12 = .ok (.iload_n 1, 1) := by decide +kernel
theorem dX2_add_13 : decode cX2_add 13 = .ok (.iload 4, 2) := by decide +kernel
theorem dX2_add_15 : decode cX2_add 15 = .ok (.iconst 1, 1) := by decide +kernel
theorem dX2_add_16 : decode cX2_add 16 = .ok (.iadd, 1) := by decide +kernel
theorem dX2_add_17 : decode cX2_add 17 = .ok (.iastore, 1) := by decide +kernel
theorem dX2_add_18 : decode cX2_add 18 = .ok (.aload_n 0, 1) := by decide +kernel
theorem dX2_add_19 : decode cX2_add 19 = .ok (.iload_n 1, 1) := by decide +kernel
theorem dX2_add_20 : decode cX2_add 20 = .ok (.iload 4, 2) := by decide +kernel
theorem dX2_add_22 : decode cX2_add 22 = .ok (.iload_n 2, 1) := by decide +kernel
theorem dX2_add_23 : decode cX2_add 23 = .ok (.iload_n 3, 1) := by decide +kernel
theorem dX2_add_24 : decode cX2_add 24 = .ok (.invokevirtual 29, 3) := by decide +kernel
theorem dX2_add_27 : decode cX2_add 27 = .ok (.iload 4, 2) := by decide +kernel
theorem dX2_add_29 : decode cX2_add 29 = .ok (.ireturn, 1) := by decide +kernel
theorem dX2_write_0 : decode cX2_write 0 = .ok (.aload_n 0, 1) := by decide +kernel
theorem dX2_write_1 : decode cX2_write 1 = .ok (.getfield 19, 3) := by decide +kernel
theorem dX2_write_4 : decode cX2_write 4 = .ok (.iload_n 1, 1) := by decide +kernel
theorem dX2_write_5 : decode cX2_write 5 = .ok (.bipush 8, 2) := by decide +kernel
theorem dX2_write_7 : decode cX2_write 7 = .ok (.imul, 1) := by decide +kernel
theorem dX2_write_8 : decode cX2_write 8 = .ok (.iload_n 2, 1) := by decide +kernel
theorem dX2_write_9 : decode cX2_write 9 = .ok (.iadd, 1) := by decide +kernel
theorem dX2_write_10 : decode cX2_write 10 = .ok (.iload_n 3, 1) := by decide +kernel
theorem dX2_write_11 : decode cX2_write 11 = .ok (.iastore, 1) := by decide +kernel
theorem dX2_write_12 : decode cX2_write 12 = .ok (.aload_n 0, 1) := by decide +kernel
theorem dX2_write_13 : decode cX2_write 13 = .ok (.getfield 22, 3) := by decide +kernel
theorem dX2_write_16 : decode cX2_write 16 = .ok (.iload_n 1, 1) := by decide +kernel
theorem dX2_write_17 : decode cX2_write 17 = .ok (.bipush 8, 2) := by decide +kernel
theorem dX2_write_19 : decode cX2_write 19 = .ok (.imul, 1) := by decide +kernel
theorem dX2_write_20 : decode cX2_write 20 = .ok (.iload_n 2, 1) := by decide +kernel
theorem dX2_write_21 : decode cX2_write 21 = .ok (.iadd, 1) := by decide +kernel
theorem dX2_write_22 : decode cX2_write 22 = .ok (.iload 4, 2) := by decide +kernel
theorem dX2_write_24 : decode cX2_write 24 = .ok (.iastore, 1) := by decide +kernel
theorem dX2_write_25 : decode cX2_write 25 = .ok (.return_, 1) := by decide +kernel
theorem dX2_longOf_0 : decode cX2_longOf 0 = .ok (.aload_n 0, 1) := by decide +kernel
theorem dX2_longOf_1 : decode cX2_longOf 1 = .ok (.getfield 19, 3) := by decide +kernel
theorem dX2_longOf_4 : decode cX2_longOf 4 = .ok (.iload_n 1, 1) := by decide +kernel
theorem dX2_longOf_5 : decode cX2_longOf 5 = .ok (.bipush 8, 2) := by decide +kernel
theorem dX2_longOf_7 : decode cX2_longOf 7 = .ok (.imul, 1) := by decide +kernel
theorem dX2_longOf_8 : decode cX2_longOf 8 = .ok (.iload_n 2, 1) := by decide +kernel
theorem dX2_longOf_9 : decode cX2_longOf 9 = .ok (.iadd, 1) := by decide +kernel
theorem dX2_longOf_10 : decode cX2_longOf 10 = .ok (.iaload, 1) := by decide +kernel
theorem dX2_longOf_11 : decode cX2_longOf 11 = .ok (.ireturn, 1) := by decide +kernel
theorem dX2_wideOf_0 : decode cX2_wideOf 0 = .ok (.aload_n 0, 1) := by decide +kernel
theorem dX2_wideOf_1 : decode cX2_wideOf 1 = .ok (.getfield 22, 3) := by decide +kernel
theorem dX2_wideOf_4 : decode cX2_wideOf 4 = .ok (.iload_n 1, 1) := by decide +kernel
theorem dX2_wideOf_5 : decode cX2_wideOf 5 = .ok (.bipush 8, 2) := by decide +kernel
theorem dX2_wideOf_7 : decode cX2_wideOf 7 = .ok (.imul, 1) := by decide +kernel
theorem dX2_wideOf_8 : decode cX2_wideOf 8 = .ok (.iload_n 2, 1) := by decide +kernel
theorem dX2_wideOf_9 : decode cX2_wideOf 9 = .ok (.iadd, 1) := by decide +kernel
theorem dX2_wideOf_10 : decode cX2_wideOf 10 = .ok (.iaload, 1) := by decide +kernel
theorem dX2_wideOf_11 : decode cX2_wideOf 11 = .ok (.ireturn, 1) := by decide +kernel
theorem dX2_allLines_0 : decode cX2_allLines 0 = .ok (.iconst 0, 1) := by decide +kernel
theorem dX2_allLines_1 : decode cX2_allLines 1 = .ok (.istore_n 1, 1) := by decide +kernel
theorem dX2_allLines_2 : decode cX2_allLines 2 = .ok (.iconst 0, 1) := by decide +kernel
theorem dX2_allLines_3 : decode cX2_allLines 3 = .ok (.istore_n 2, 1) := by decide +kernel
theorem dX2_allLines_4 : decode cX2_allLines 4 = .ok (.iload_n 2, 1) := by decide +kernel
theorem dX2_allLines_5 : decode cX2_allLines 5 = .ok (.aload_n 0, 1) := by decide +kernel
theorem dX2_allLines_6 : decode cX2_allLines 6 = .ok (.getfield 15, 3) := by decide +kernel
theorem dX2_allLines_9 : decode cX2_allLines 9 = .ok (.if_icmp .ge 18, 3) := by decide +kernel
theorem dX2_allLines_12 : decode cX2_allLines 12 = .ok (.iload_n 1, 1) := by decide +kernel
theorem dX2_allLines_13 : decode cX2_allLines 13 = .ok (.aload_n 0, 1) := by decide +kernel
theorem dX2_allLines_14 : decode cX2_allLines 14 = .ok (.getfield 9, 3) := by decide +kernel
theorem dX2_allLines_17 : decode cX2_allLines 17 = .ok (.iload_n 2, 1) := by decide +kernel
theorem dX2_allLines_18 : decode cX2_allLines 18 = .ok (.iaload, 1) := by decide +kernel
theorem dX2_allLines_19 : decode cX2_allLines 19 = .ok (.iadd, 1) := by decide +kernel
theorem dX2_allLines_20 : decode cX2_allLines 20 = .ok (.istore_n 1, 1) := by decide +kernel
theorem dX2_allLines_21 : decode cX2_allLines 21 = .ok (.iinc 2 1, 3) := by decide +kernel
theorem dX2_allLines_24 : decode cX2_allLines 24 = .ok (.goto (-20), 3) := by decide +kernel
theorem dX2_allLines_27 : decode cX2_allLines 27 = .ok (.iload_n 1, 1) := by decide +kernel
theorem dX2_allLines_28 : decode cX2_allLines 28 = .ok (.ireturn, 1) := by decide +kernel
theorem dX3_rank_0 : decode cX3_rank 0 = .ok (.iload_n 0, 1) := by decide +kernel
theorem dX3_rank_1 : decode cX3_rank 1 = .ok (.invokestatic 7, 3) := by decide +kernel
theorem dX3_rank_4 : decode cX3_rank 4 = .ok (.istore_n 3, 1) := by decide +kernel
theorem dX3_rank_5 : decode cX3_rank 5 = .ok (.iload_n 1, 1) := by decide +kernel
theorem dX3_rank_6 : decode cX3_rank 6 = .ok (.iload_n 2, 1) := by decide +kernel
theorem dX3_rank_7 : decode cX3_rank 7 = .ok (.isub, 1) := by decide +kernel
theorem dX3_rank_8 : decode cX3_rank 8 = .ok (.invokestatic 7, 3) := by decide +kernel
theorem dX3_rank_11 : decode cX3_rank 11 = .ok (.istore 4, 2) := by decide +kernel
theorem dX3_rank_13 : decode cX3_rank 13 = .ok (.iload_n 1, 1) := by decide +kernel
theorem dX3_rank_14 : decode cX3_rank 14 = .ok (.iload_n 2, 1) := by decide +kernel
theorem dX3_rank_15 : decode cX3_rank 15 = .ok (.iadd, 1) := by decide +kernel
theorem dX3_rank_16 : decode cX3_rank 16 = .ok (.invokestatic 7, 3) := by decide +kernel
theorem dX3_rank_19 : decode cX3_rank 19 = .ok (.istore 5, 2) := by decide +kernel
theorem dX3_rank_21 : decode cX3_rank 21 = .ok (.ldc 15, 2) := by decide +kernel
theorem dX3_rank_23 : decode cX3_rank 23 = .ok (.iconst 0, 1) := by decide +kernel
theorem dX3_rank_24 : decode cX3_rank 24 = .ok (.iload_n 3, 1) := by decide +kernel
theorem dX3_rank_25 : decode cX3_rank 25 = .ok (.iload 4, 2) := by decide +kernel
theorem dX3_rank_27 : decode cX3_rank 27 = .ok (.iconst 0, 1) := by decide +kernel
theorem dX3_rank_28 : decode cX3_rank 28 = .ok (.invokestatic 16, 3) := by decide +kernel
theorem dX3_rank_31 : decode cX3_rank 31 = .ok (.istore 6, 2) := by decide +kernel
theorem dX3_rank_33 : decode cX3_rank 33 = .ok (.iload 6, 2) := by decide +kernel
theorem dX3_rank_35 : decode cX3_rank 35 = .ok (.iconst 1, 1) := by decide +kernel
theorem dX3_rank_36 : decode cX3_rank 36 = .ok (.iload_n 3, 1) := by decide +kernel
theorem dX3_rank_37 : decode cX3_rank 37 = .ok (.iload 5, 2) := by decide +kernel
theorem dX3_rank_39 : decode cX3_rank 39 = .ok (.bipush 40, 2) := by decide +kernel
theorem dX3_rank_41 : decode cX3_rank 41 = .ok (.invokestatic 16, 3) := by decide +kernel
theorem dX3_rank_44 : decode cX3_rank 44 = .ok (.istore 6, 2) := by decide +kernel
theorem dX3_rank_46 : decode cX3_rank 46 = .ok (.iload 6, 2) := by decide +kernel
theorem dX3_rank_48 : decode cX3_rank 48 = .ok (.iconst 2, 1) := by decide +kernel
theorem dX3_rank_49 : decode cX3_rank 49 = .ok (.iload_n 3, 1) := by decide +kernel
theorem dX3_rank_50 : decode cX3_rank 50 = .ok (.sipush 1800, 3) := by decide +kernel
theorem dX3_rank_53 : decode cX3_rank 53 = .ok (.isub, 1) := by decide +kernel
theorem dX3_rank_54 : decode cX3_rank 54 = .ok (.invokestatic 7, 3) := by decide +kernel
theorem dX3_rank_57 : decode cX3_rank 57 = .ok (.iload 4, 2) := by decide +kernel
theorem dX3_rank_59 : decode cX3_rank 59 = .ok (.bipush 50, 2) := by decide +kernel
theorem dX3_rank_61 : decode cX3_rank 61 = .ok (.invokestatic 16, 3) := by decide +kernel
theorem dX3_rank_64 : decode cX3_rank 64 = .ok (.istore 6, 2) := by decide +kernel
theorem dX3_rank_66 : decode cX3_rank 66 = .ok (.iload 6, 2) := by decide +kernel
theorem dX3_rank_68 : decode cX3_rank 68 = .ok (.iconst 3, 1) := by decide +kernel
theorem dX3_rank_69 : decode cX3_rank 69 = .ok (.iload_n 3, 1) := by decide +kernel
theorem dX3_rank_70 : decode cX3_rank 70 = .ok (.sipush 600, 3) := by decide +kernel
theorem dX3_rank_73 : decode cX3_rank 73 = .ok (.isub, 1) := by decide +kernel
theorem dX3_rank_74 : decode cX3_rank 74 = .ok (.invokestatic 7, 3) := by decide +kernel
theorem dX3_rank_77 : decode cX3_rank 77 = .ok (.iload 4, 2) := by decide +kernel
theorem dX3_rank_79 : decode cX3_rank 79 = .ok (.bipush 45, 2) := by decide +kernel
theorem dX3_rank_81 : decode cX3_rank 81 = .ok (.invokestatic 16, 3) := by decide +kernel
theorem dX3_rank_84 : decode cX3_rank 84 = .ok (.istore 6, 2) := by decide +kernel
theorem dX3_rank_86 : decode cX3_rank 86 = .ok (.iload 6, 2) := by decide +kernel
theorem dX3_rank_88 : decode cX3_rank 88 = .ok (.iconst 3, 1) := by decide +kernel
theorem dX3_rank_89 : decode cX3_rank 89 = .ok (.iload_n 3, 1) := by decide +kernel
theorem dX3_rank_90 : decode cX3_rank 90 = .ok (.iload 4, 2) := by decide +kernel
theorem dX3_rank_92 : decode cX3_rank 92 = .ok (.sipush 600, 3) := by decide +kernel
theorem dX3_rank_95 : decode cX3_rank 95 = .ok (.isub, 1) := by decide +kernel
theorem dX3_rank_96 : decode cX3_rank 96 = .ok (.invokestatic 7, 3) := by decide +kernel
theorem dX3_rank_99 : decode cX3_rank 99 = .ok (.bipush 45, 2) := by decide +kernel
theorem dX3_rank_101 : decode cX3_rank 101 = .ok (.invokestatic 16, 3) := by decide +kernel
theorem dX3_rank_104 : decode cX3_rank 104 = .ok (.ireturn, 1) := by decide +kernel
theorem dX3_lesser_0 : decode cX3_lesser 0 = .ok (.iload_n 2, 1) := by decide +kernel
theorem dX3_lesser_1 : decode cX3_lesser 1 = .ok (.bipush 30, 2) := by decide +kernel
theorem dX3_lesser_3 : decode cX3_lesser 3 = .ok (.if_icmp .gt 9, 3) := by decide +kernel
theorem dX3_lesser_6 : decode cX3_lesser 6 = .ok (.iload_n 3, 1) := by decide +kernel
theorem dX3_lesser_7 : decode cX3_lesser 7 = .ok (.bipush 30, 2) := by decide +kernel
theorem dX3_lesser_9 : decode cX3_lesser 9 = .ok (.if_icmp .le 5, 3) := by decide +kernel
theorem dX3_lesser_12 : decode cX3_lesser 12 = .ok (.iload_n 0, 1) := by decide +kernel
theorem dX3_lesser_13 : decode cX3_lesser 13 = .ok (.ireturn, 1) := by decide +kernel
theorem dX3_lesser_14 : decode cX3_lesser 14 = .ok (.iconst 4, 1) := by decide +kernel
theorem dX3_lesser_15 : decode cX3_lesser 15 = .ok (.iload_n 2, 1) := by decide +kernel
theorem dX3_lesser_16 : decode cX3_lesser 16 = .ok (.iload_n 3, 1) := by decide +kernel
theorem dX3_lesser_17 : decode cX3_lesser 17 = .ok (.iadd, 1) := by decide +kernel
theorem dX3_lesser_18 : decode cX3_lesser 18 = .ok (.iload 4, 2) := by decide +kernel
theorem dX3_lesser_20 : decode cX3_lesser 20 = .ok (.iadd, 1) := by decide +kernel
theorem dX3_lesser_21 : decode cX3_lesser 21 = .ok (.imul, 1) := by decide +kernel
theorem dX3_lesser_22 : decode cX3_lesser 22 = .ok (.iload_n 1, 1) := by decide +kernel
theorem dX3_lesser_23 : decode cX3_lesser 23 = .ok (.iadd, 1) := by decide +kernel
theorem dX3_lesser_24 : decode cX3_lesser 24 = .ok (.istore 5, 2) := by decide +kernel
theorem dX3_lesser_26 : decode cX3_lesser 26 = .ok (.iload 5, 2) := by decide +kernel
theorem dX3_lesser_28 : decode cX3_lesser 28 = .ok (.iload_n 0, 1) := by decide +kernel
theorem dX3_lesser_29 : decode cX3_lesser 29 = .ok (.if_icmp .ge 8, 3) := by decide +kernel
theorem dX3_lesser_32 : decode cX3_lesser 32 = .ok (.iload 5, 2) := by decide +kernel
theorem dX3_lesser_34 : decode cX3_lesser 34 = .ok (.goto 4, 3) := by decide +kernel
theorem dX3_lesser_37 : decode cX3_lesser 37 = .ok (.iload_n 0, 1) := by decide +kernel
theorem dX3_lesser_38 : decode cX3_lesser 38 = .ok (.ireturn, 1) := by decide +kernel
theorem dX3_kindOf_0 : decode cX3_kindOf 0 = .ok (.iload_n 0, 1) := by decide +kernel
theorem dX3_kindOf_1 : decode cX3_kindOf 1 = .ok (.iconst 4, 1) := by decide +kernel
theorem dX3_kindOf_2 : decode cX3_kindOf 2 = .ok (.irem, 1) := by decide +kernel
theorem dX3_kindOf_3 : decode cX3_kindOf 3 = .ok (.ireturn, 1) := by decide +kernel
theorem dX3_costOf_0 : decode cX3_costOf 0 = .ok (.iload_n 0, 1) := by decide +kernel
theorem dX3_costOf_1 : decode cX3_costOf 1 = .ok (.iconst 4, 1) := by decide +kernel
theorem dX3_costOf_2 : decode cX3_costOf 2 = .ok (.idiv, 1) := by decide +kernel
theorem dX3_costOf_3 : decode cX3_costOf 3 = .ok (.ireturn, 1) := by decide +kernel
theorem dX4_init_0 : decode cX4_init 0 = .ok (.aload_n 0, 1) := by decide +kernel
theorem dX4_init_1 : decode cX4_init 1 = .ok (.invokespecial 3, 3) := by decide +kernel
theorem dX4_init_4 : decode cX4_init 4 = .ok (.aload_n 0, 1) := by decide +kernel
theorem dX4_init_5 : decode cX4_init 5 = .ok (.bipush 8, 2) := by decide +kernel
theorem dX4_init_7 : decode cX4_init 7 = .ok (.newarray .int, 2) := by decide +kernel
theorem dX4_init_9 : decode cX4_init 9 = .ok (.putfield 9, 3) := by decide +kernel
theorem dX4_init_12 : decode cX4_init 12 = .ok (.aload_n 0, 1) := by decide +kernel
theorem dX4_init_13 : decode cX4_init 13 = .ok (.bipush 8, 2) := by decide +kernel
theorem dX4_init_15 : decode cX4_init 15 = .ok (.newarray .int, 2) := by decide +kernel
theorem dX4_init_17 : decode cX4_init 17 = .ok (.putfield 15, 3) := by decide +kernel
theorem dX4_init_20 : decode cX4_init 20 = .ok (.aload_n 0, 1) := by decide +kernel
theorem dX4_init_21 : decode cX4_init 21 = .ok (.bipush 8, 2) := by decide +kernel
theorem dX4_init_23 : decode cX4_init 23 = .ok (.newarray .int, 2) := by decide +kernel
theorem dX4_init_25 : decode cX4_init 25 = .ok (.putfield 18, 3) := by decide +kernel
theorem dX4_init_28 : decode cX4_init 28 = .ok (.aload_n 0, 1) := by decide +kernel
theorem dX4_init_29 : decode cX4_init 29 = .ok (.bipush 8, 2) := by decide +kernel
theorem dX4_init_31 : decode cX4_init 31 = .ok (.newarray .int, 2) := by decide +kernel
theorem dX4_init_33 : decode cX4_init 33 = .ok (.putfield 21, 3) := by decide +kernel
theorem dX4_init_36 : decode cX4_init 36 = .ok (.aload_n 0, 1) := by decide +kernel
theorem dX4_init_37 : decode cX4_init 37 = .ok (.iconst 0, 1) := by decide +kernel
theorem dX4_init_38 : decode cX4_init 38 = .ok (.putfield 24, 3) := by decide +kernel
theorem dX4_init_41 : decode cX4_init 41 = .ok (.aload_n 0, 1) := by decide +kernel
theorem dX4_init_42 : decode cX4_init 42 = .ok (.bipush 6, 2) := by decide +kernel
theorem dX4_init_44 : decode cX4_init 44 = .ok (.putfield 28, 3) := by decide +kernel
theorem dX4_init_47 : decode cX4_init 47 = .ok (.return_, 1) := by decide +kernel
theorem dX4_has_0 : decode cX4_has 0 = .ok (.iload_n 1, 1) := by decide +kernel
theorem dX4_has_1 : decode cX4_has 1 = .ok (.ifCond .lt 15, 3) := by decide +kernel
theorem dX4_has_4 : decode cX4_has 4 = .ok (.iload_n 1, 1) := by decide +kernel
theorem dX4_has_5 : decode cX4_has 5 = .ok (.aload_n 0, 1) := by decide +kernel
theorem dX4_has_6 : decode cX4_has 6 = .ok (.getfield 24, 3) := by decide +kernel
theorem dX4_has_9 : decode cX4_has 9 = .ok (.if_icmp .ge 7, 3) := by decide +kernel
theorem dX4_has_12 : decode cX4_has 12 = .ok (.iconst 1, 1) := by decide +kernel
theorem dX4_has_13 : decode cX4_has 13 = .ok (.goto 4, 3) := by decide +kernel
theorem dX4_has_16 : decode cX4_has 16 = .ok (.iconst 0, 1) := by decide +kernel
theorem dX4_has_17 : decode cX4_has 17 = .ok (.ireturn, 1) := by decide +kernel
theorem dX4_add_0 : decode cX4_add 0 = .ok (.aload_n 0, 1) := by decide +kernel
theorem dX4_add_1 : decode cX4_add 1 = .ok (.getfield 9, 3) := by decide +kernel
theorem dX4_add_4 : decode cX4_add 4 = .ok (.aload_n 0, 1) := by decide +kernel
theorem dX4_add_5 : decode cX4_add 5 = .ok (.getfield 24, 3) := by decide +kernel
theorem dX4_add_8 : decode cX4_add 8 = .ok (.iload_n 1, 1) := by decide +kernel
theorem dX4_add_9 : decode cX4_add 9 = .ok (.iastore, 1) := by decide +kernel
theorem dX4_add_10 : decode cX4_add 10 = .ok (.aload_n 0, 1) := by decide +kernel
theorem dX4_add_11 : decode cX4_add 11 = .ok (.getfield 15, 3) := by decide +kernel
theorem dX4_add_14 : decode cX4_add 14 = .ok (.aload_n 0, 1) := by decide +kernel
theorem dX4_add_15 : decode cX4_add 15 = .ok (.getfield 24, 3) := by decide +kernel
theorem dX4_add_18 : decode cX4_add 18 = .ok (.iload_n 2, 1) := by decide +kernel
theorem dX4_add_19 : decode cX4_add 19 = .ok (.iastore, 1) := by decide +kernel
theorem dX4_add_20 : decode cX4_add 20 = .ok (.aload_n 0, 1) := by decide +kernel
theorem dX4_add_21 : decode cX4_add 21 = .ok (.getfield 18, 3) := by decide +kernel
theorem dX4_add_24 : decode cX4_add 24 = .ok (.aload_n 0, 1) := by decide +kernel
theorem dX4_add_25 : decode cX4_add 25 = .ok (.getfield 24, 3) := by decide +kernel
theorem dX4_add_28 : decode cX4_add 28 = .ok (.iload_n 3, 1) := by decide +kernel
theorem dX4_add_29 : decode cX4_add 29 = .ok (.iastore, 1) := by decide +kernel
theorem dX4_add_30 : decode cX4_add 30 = .ok (.aload_n 0, 1) := by decide +kernel
theorem dX4_add_31 : decode cX4_add 31 = .ok (.getfield 21, 3) := by decide +kernel
theorem dX4_add_34 : decode cX4_add 34 = .ok (.aload_n 0, 1) := by decide +kernel
theorem dX4_add_35 : decode cX4_add 35 = .ok (.getfield 24, 3) := by decide +kernel
theorem dX4_add_38 : decode cX4_add 38 = .ok (.iload 4, 2) := by decide +kernel
theorem dX4_add_40 : decode cX4_add 40 = .ok (.iastore, 1) := by decide +kernel
theorem dX4_add_41 : decode cX4_add 41 = .ok (.aload_n 0, 1) := by decide +kernel
theorem dX4_add_42 : decode cX4_add 42 = .ok (.dup, 1) := by decide +kernel
theorem dX4_add_43 : decode cX4_add 43 = .ok (.getfield 24, 3) := by decide +kernel
theorem dX4_add_46 : decode cX4_add 46 = .ok (.dup_x1, 1) := by decide +kernel
theorem dX4_add_47 : decode cX4_add 47 = .ok (.iconst 1, 1) := by decide +kernel
theorem dX4_add_48 : decode cX4_add 48 = .ok (.iadd, 1) := by decide +kernel
theorem dX4_add_49 : decode cX4_add 49 = .ok (.putfield 24, 3) := by decide +kernel
theorem dX4_add_52 : decode cX4_add 52 = .ok (.ireturn, 1) := by decide +kernel
theorem dX4_longIn_0 : decode cX4_longIn 0 = .ok (.iconst 5, 1) := by decide +kernel
theorem dX4_longIn_1 : decode cX4_longIn 1 = .ok (.iload_n 2, 1) := by decide +kernel
theorem dX4_longIn_2 : decode cX4_longIn 2 = .ok (.imul, 1) := by decide +kernel
theorem dX4_longIn_3 : decode cX4_longIn 3 = .ok (.bipush 6, 2) := by decide +kernel
theorem dX4_longIn_5 : decode cX4_longIn 5 = .ok (.invokestatic 31, 3) := by decide +kernel
theorem dX4_longIn_8 : decode cX4_longIn 8 = .ok (.istore_n 3, 1) := by decide +kernel
theorem dX4_longIn_9 : decode cX4_longIn 9 = .ok (.aload_n 0, 1) := by decide +kernel
theorem dX4_longIn_10 : decode cX4_longIn 10 = .ok (.getfield 18, 3) := by decide +kernel
theorem dX4_longIn_13 : decode cX4_longIn 13 = .ok (.iload_n 1, 1) := by decide +kernel
theorem dX4_longIn_14 : decode cX4_longIn 14 = .ok (.iaload, 1) := by decide +kernel
theorem dX4_longIn_15 : decode cX4_longIn 15 = .ok (.iload_n 2, 1) := by decide +kernel
theorem dX4_longIn_16 : decode cX4_longIn 16 = .ok (.imul, 1) := by decide +kernel
theorem dX4_longIn_17 : decode cX4_longIn 17 = .ok (.bipush 100, 2) := by decide +kernel
theorem dX4_longIn_19 : decode cX4_longIn 19 = .ok (.invokestatic 31, 3) := by decide +kernel
theorem dX4_longIn_22 : decode cX4_longIn 22 = .ok (.istore 4, 2) := by decide +kernel
theorem dX4_longIn_24 : decode cX4_longIn 24 = .ok (.aload_n 0, 1) := by decide +kernel
theorem dX4_longIn_25 : decode cX4_longIn 25 = .ok (.getfield 9, 3) := by decide +kernel
theorem dX4_longIn_28 : decode cX4_longIn 28 = .ok (.iload_n 1, 1) := by decide +kernel
theorem dX4_longIn_29 : decode cX4_longIn 29 = .ok (.iaload, 1) := by decide +kernel
theorem dX4_longIn_30 : decode cX4_longIn 30 = .ok (.iload_n 3, 1) := by decide +kernel
theorem dX4_longIn_31 : decode cX4_longIn 31 = .ok (.iadd, 1) := by decide +kernel
theorem dX4_longIn_32 : decode cX4_longIn 32 = .ok (.iload 4, 2) := by decide +kernel
theorem dX4_longIn_34 : decode cX4_longIn 34 = .ok (.iadd, 1) := by decide +kernel
theorem dX4_longIn_35 : decode cX4_longIn 35 = .ok (.sipush 21600, 3) := by decide +kernel
theorem dX4_longIn_38 : decode cX4_longIn 38 = .ok (.invokestatic 37, 3) := by decide +kernel
theorem dX4_longIn_41 : decode cX4_longIn 41 = .ok (.ireturn, 1) := by decide +kernel
theorem dX4_counts_0 : decode cX4_counts 0 = .ok (.aload_n 0, 1) := by decide +kernel
theorem dX4_counts_1 : decode cX4_counts 1 = .ok (.getfield 21, 3) := by decide +kernel
theorem dX4_counts_4 : decode cX4_counts 4 = .ok (.iload_n 1, 1) := by decide +kernel
theorem dX4_counts_5 : decode cX4_counts 5 = .ok (.iaload, 1) := by decide +kernel
theorem dX4_counts_6 : decode cX4_counts 6 = .ok (.aload_n 0, 1) := by decide +kernel
theorem dX4_counts_7 : decode cX4_counts 7 = .ok (.getfield 28, 3) := by decide +kernel
theorem dX4_counts_10 : decode cX4_counts 10 = .ok (.if_icmp .gt 7, 3) := by decide +kernel
theorem dX4_counts_13 : decode cX4_counts 13 = .ok (.iconst 1, 1) := by decide +kernel
theorem dX4_counts_14 : decode cX4_counts 14 = .ok (.goto 4, 3) := by decide +kernel
theorem dX4_counts_17 : decode cX4_counts 17 = .ok (.iconst 0, 1) := by decide +kernel
theorem dX4_counts_18 : decode cX4_counts 18 = .ok (.ireturn, 1) := by decide +kernel
theorem dX4_bright_0 : decode cX4_bright 0 = .ok (.iconst 0, 1) := by decide +kernel
theorem dX4_bright_1 : decode cX4_bright 1 = .ok (.istore_n 1, 1) := by decide +kernel
theorem dX4_bright_2 : decode cX4_bright 2 = .ok (.iconst 0, 1) := by decide +kernel
theorem dX4_bright_3 : decode cX4_bright 3 = .ok (.istore_n 2, 1) := by decide +kernel
theorem dX4_bright_4 : decode cX4_bright 4 = .ok (.iload_n 2, 1) := by decide +kernel
theorem dX4_bright_5 : decode cX4_bright 5 = .ok (.aload_n 0, 1) := by decide +kernel
theorem dX4_bright_6 : decode cX4_bright 6 = .ok (.getfield 24, 3) := by decide +kernel
theorem dX4_bright_9 : decode cX4_bright 9 = .ok (.if_icmp .ge 20, 3) := by decide +kernel
theorem dX4_bright_12 : decode cX4_bright 12 = .ok (.aload_n 0, 1) := by decide +kernel
theorem dX4_bright_13 : decode cX4_bright 13 = .ok (.iload_n 2, 1) := by decide +kernel
theorem dX4_bright_14 : decode cX4_bright 14 = .ok (.invokevirtual 40, 3) := by decide +kernel
theorem dX4_bright_17 : decode cX4_bright 17 = .ok (.ifCond .eq 6, 3) := by decide +kernel
theorem dX4_bright_20 : decode cX4_bright 20 = .ok (.iinc 1 1, 3) := by decide +kernel
theorem dX4_bright_23 : decode cX4_bright 23 = .ok (.iinc 2 1, 3) := by decide +kernel
theorem dX4_bright_26 : decode cX4_bright 26 = .ok (.goto (-22), 3) := by decide +kernel
theorem dX4_bright_29 : decode cX4_bright 29 = .ok (.iload_n 1, 1) := by decide +kernel
theorem dX4_bright_30 : decode cX4_bright 30 = .ok (.ireturn, 1) := by decide +kernel
theorem dX5_init_0 : decode cX5_init 0 = .ok (.aload_n 0, 1) := by decide +kernel
theorem dX5_init_1 : decode cX5_init 1 = .ok (.invokespecial 1, 3) := by decide +kernel
theorem dX5_init_4 : decode cX5_init 4 = .ok (.aload_n 0, 1) := by decide +kernel
theorem dX5_init_5 : decode cX5_init 5 = .ok (.new 7, 3) := by decide +kernel
theorem dX5_init_8 : decode cX5_init 8 = .ok (.dup, 1) := by decide +kernel
theorem dX5_init_9 : decode cX5_init 9 = .ok (.invokespecial 9, 3) := by decide +kernel
theorem dX5_init_12 : decode cX5_init 12 = .ok (.putfield 10, 3) := by decide +kernel
theorem dX5_init_15 : decode cX5_init 15 = .ok (.aload_n 0, 1) := by decide +kernel
theorem dX5_init_16 : decode cX5_init 16 = .ok (.new 16, 3) := by decide +kernel
theorem dX5_init_19 : decode cX5_init 19 = .ok (.dup, 1) := by decide +kernel
theorem dX5_init_20 : decode cX5_init 20 = .ok (.invokespecial 18, 3) := by decide +kernel
theorem dX5_init_23 : decode cX5_init 23 = .ok (.putfield 19, 3) := by decide +kernel
theorem dX5_init_26 : decode cX5_init 26 = .ok (.aload_n 0, 1) := by decide +kernel
theorem dX5_init_27 : decode cX5_init 27 = .ok (.new 23, 3) := by decide +kernel
theorem dX5_init_30 : decode cX5_init 30 = .ok (.dup, 1) := by decide +kernel
theorem dX5_init_31 : decode cX5_init 31 = .ok (.aload_n 0, 1) := by decide +kernel
theorem dX5_init_32 : decode cX5_init 32 = .ok (.getfield 10, 3) := by decide +kernel
theorem dX5_init_35 : decode cX5_init 35 = .ok (.aload_n 0, 1) := by decide +kernel
theorem dX5_init_36 : decode cX5_init 36 = .ok (.getfield 19, 3) := by decide +kernel
theorem dX5_init_39 : decode cX5_init 39 = .ok (.invokespecial 25, 3) := by decide +kernel
theorem dX5_init_42 : decode cX5_init 42 = .ok (.putfield 28, 3) := by decide +kernel
theorem dX5_init_45 : decode cX5_init 45 = .ok (.aload_n 0, 1) := by decide +kernel
theorem dX5_init_46 : decode cX5_init 46 = .ok (.new 32, 3) := by decide +kernel
theorem dX5_init_49 : decode cX5_init 49 = .ok (.dup, 1) := by decide +kernel
theorem dX5_init_50 : decode cX5_init 50 = .ok (.aload_n 0, 1) := by decide +kernel
theorem dX5_init_51 : decode cX5_init 51 = .ok (.getfield 10, 3) := by decide +kernel
theorem dX5_init_54 : decode cX5_init 54 = .ok (.aload_n 0, 1) := by decide +kernel
theorem dX5_init_55 : decode cX5_init 55 = .ok (.getfield 19, 3) := by decide +kernel
theorem dX5_init_58 : decode cX5_init 58 = .ok (.aload_n 0, 1) := by decide +kernel
theorem dX5_init_59 : decode cX5_init 59 = .ok (.getfield 28, 3) := by decide +kernel
theorem dX5_init_62 : decode cX5_init 62 = .ok (.invokespecial 34, 3) := by decide +kernel
theorem dX5_init_65 : decode cX5_init 65 = .ok (.putfield 37, 3) := by decide +kernel
theorem dX5_init_68 : decode cX5_init 68 = .ok (.aload_n 0, 1) := by decide +kernel
theorem dX5_init_69 : decode cX5_init 69 = .ok (.bipush 41, 2) := by decide +kernel
theorem dX5_init_71 : decode cX5_init 71 = .ok (.newarray .int, 2) := by decide +kernel
theorem dX5_init_73 : decode cX5_init 73 = .ok (.putfield 41, 3) := by decide +kernel
theorem dX5_init_76 : decode cX5_init 76 = .ok (.return_, 1) := by decide +kernel
theorem dX5_star_0 : decode cX5_star 0 = .ok (.iload_n 1, 1) := by decide +kernel
theorem dX5_star_1 : decode cX5_star 1 = .ok (.iload_n 2, 1) := by decide +kernel
theorem dX5_star_2 : decode cX5_star 2 = .ok (.invokestatic 45, 3) := by decide +kernel
theorem dX5_star_5 : decode cX5_star 5 = .ok (.ifCond .ne 6, 3) := by decide +kernel
theorem dX5_star_8 : decode cX5_star 8 = .ok (.bipush (-2), 2) := by decide +kernel
theorem dX5_star_10 : decode cX5_star 10 = .ok (.ireturn, 1) := by decide +kernel
theorem dX5_star_11 : decode cX5_star 11 = .ok (.iload_n 3, 1) := by decide +kernel
theorem dX5_star_12 : decode cX5_star 12 = .ok (.bipush (-50), 2) := by decide +kernel
theorem dX5_star_14 : decode cX5_star 14 = .ok (.bipush 50, 2) := by decide +kernel
theorem dX5_star_16 : decode cX5_star 16 = .ok (.invokestatic 49, 3) := by decide +kernel
theorem dX5_star_19 : decode cX5_star 19 = .ok (.ifCond .ne 6, 3) := by decide +kernel
theorem dX5_star_22 : decode cX5_star 22 = .ok (.bipush (-2), 2) := by decide +kernel
theorem dX5_star_24 : decode cX5_star 24 = .ok (.ireturn, 1) := by decide +kernel
theorem dX5_star_25 : decode cX5_star 25 = .ok (.iload 4, 2) := by decide +kernel
theorem dX5_star_27 : decode cX5_star 27 = .ok (.iconst 0, 1) := by decide +kernel
theorem dX5_star_28 : decode cX5_star 28 = .ok (.bipush 6, 2) := by decide +kernel
theorem dX5_star_30 : decode cX5_star 30 = .ok (.invokestatic 49, 3) := by decide +kernel
theorem dX5_star_33 : decode cX5_star 33 = .ok (.ifCond .ne 6, 3) := by decide +kernel
theorem dX5_star_36 : decode cX5_star 36 = .ok (.bipush (-2), 2) := by decide +kernel
theorem dX5_star_38 : decode cX5_star 38 = .ok (.ireturn, 1) := by decide +kernel
theorem dX5_star_39 : decode cX5_star 39 = .ok (.aload_n 0, 1) := by decide +kernel
theorem dX5_star_40 : decode cX5_star 40 = .ok (.getfield 10, 3) := by decide +kernel
theorem dX5_star_43 : decode cX5_star 43 = .ok (.getfield 53, 3) := by decide +kernel
theorem dX5_star_46 : decode cX5_star 46 = .ok (.bipush 8, 2) := by decide +kernel
theorem dX5_star_48 : decode cX5_star 48 = .ok (.if_icmp .lt 6, 3) := by decide +kernel
theorem dX5_star_51 : decode cX5_star 51 = .ok (.bipush (-4), 2) := by decide +kernel
theorem dX5_star_53 : decode cX5_star 53 = .ok (.ireturn, 1) := by decide +kernel
theorem dX5_star_54 : decode cX5_star 54 = .ok (.aload_n 0, 1) := by decide +kernel
theorem dX5_star_55 : decode cX5_star 55 = .ok (.getfield 10, 3) := by decide +kernel
theorem dX5_star_58 : decode cX5_star 58 = .ok (.iload_n 1, 1) := by decide +kernel
theorem dX5_star_59 : decode cX5_star 59 = .ok (.iload_n 2, 1) := by decide +kernel
theorem dX5_star_60 : decode cX5_star 60 = .ok (.iload_n 3, 1) := by decide +kernel
theorem dX5_star_61 : decode cX5_star 61 = .ok (.iload 4, 2) := by decide +kernel
theorem dX5_star_63 : decode cX5_star 63 = .ok (.invokevirtual 57, 3) := by decide +kernel
theorem dX5_star_66 : decode cX5_star 66 = .ok (.ireturn, 1) := by decide +kernel
theorem dX5_sky_0 : decode cX5_sky 0 = .ok (.aload_n 0, 1) := by decide +kernel
theorem dX5_sky_1 : decode cX5_sky 1 = .ok (.getfield 10, 3) := by decide +kernel
theorem dX5_sky_4 : decode cX5_sky 4 = .ok (.iload_n 1, 1) := by decide +kernel
theorem dX5_sky_5 : decode cX5_sky 5 = .ok (.invokevirtual 61, 3) := by decide +kernel
theorem dX5_sky_8 : decode cX5_sky 8 = .ok (.ifCond .ne 5, 3) := by decide +kernel
theorem dX5_sky_11 : decode cX5_sky 11 = .ok (.iconst (-1), 1) := by decide +kernel
theorem dX5_sky_12 : decode cX5_sky 12 = .ok (.ireturn, 1) := by decide +kernel
theorem dX5_sky_13 : decode cX5_sky 13 = .ok (.iload_n 2, 1) := by decide +kernel
theorem dX5_sky_14 : decode cX5_sky 14 = .ok (.invokestatic 65, 3) := by decide +kernel
theorem dX5_sky_17 : decode cX5_sky 17 = .ok (.ifCond .ne 6, 3) := by decide +kernel
theorem dX5_sky_20 : decode cX5_sky 20 = .ok (.bipush (-2), 2) := by decide +kernel
theorem dX5_sky_22 : decode cX5_sky 22 = .ok (.ireturn, 1) := by decide +kernel
theorem dX5_sky_23 : decode cX5_sky 23 = .ok (.aload_n 0, 1) := by decide +kernel
theorem dX5_sky_24 : decode cX5_sky 24 = .ok (.getfield 10, 3) := by decide +kernel
theorem dX5_sky_27 : decode cX5_sky 27 = .ok (.iload_n 1, 1) := by decide +kernel
theorem dX5_sky_28 : decode cX5_sky 28 = .ok (.iload_n 2, 1) := by decide +kernel
theorem dX5_sky_29 : decode cX5_sky 29 = .ok (.invokevirtual 68, 3) := by decide +kernel
theorem dX5_sky_32 : decode cX5_sky 32 = .ok (.ireturn, 1) := by decide +kernel
theorem dX5_about_0 : decode cX5_about 0 = .ok (.aload_n 0, 1) := by decide +kernel
theorem dX5_about_1 : decode cX5_about 1 = .ok (.getfield 10, 3) := by decide +kernel
theorem dX5_about_4 : decode cX5_about 4 = .ok (.iload_n 1, 1) := by decide +kernel
theorem dX5_about_5 : decode cX5_about 5 = .ok (.invokevirtual 61, 3) := by decide +kernel
theorem dX5_about_8 : decode cX5_about 8 = .ok (.ifCond .ne 5, 3) := by decide +kernel
theorem dX5_about_11 : decode cX5_about 11 = .ok (.iconst (-1), 1) := by decide +kernel
theorem dX5_about_12 : decode cX5_about 12 = .ok (.ireturn, 1) := by decide +kernel
theorem dX5_about_13 : decode cX5_about 13 = .ok (.iload_n 2, 1) := by decide +kernel
theorem dX5_about_14 : decode cX5_about 14 = .ok (.tableswitch 74 0 3 #[30, 40, 50, 60], 30) := by decide +kernel
theorem dX5_about_44 : decode cX5_about 44 = .ok (.aload_n 0, 1) := by decide +kernel
theorem dX5_about_45 : decode cX5_about 45 = .ok (.getfield 10, 3) := by decide +kernel
theorem dX5_about_48 : decode cX5_about 48 = .ok (.getfield 72, 3) := by decide +kernel
theorem dX5_about_51 : decode cX5_about 51 = .ok (.iload_n 1, 1) := by decide +kernel
theorem dX5_about_52 : decode cX5_about 52 = .ok (.iaload, 1) := by decide +kernel
theorem dX5_about_53 : decode cX5_about 53 = .ok (.ireturn, 1) := by decide +kernel
theorem dX5_about_54 : decode cX5_about 54 = .ok (.aload_n 0, 1) := by decide +kernel
theorem dX5_about_55 : decode cX5_about 55 = .ok (.getfield 10, 3) := by decide +kernel
theorem dX5_about_58 : decode cX5_about 58 = .ok (.getfield 75, 3) := by decide +kernel
theorem dX5_about_61 : decode cX5_about 61 = .ok (.iload_n 1, 1) := by decide +kernel
theorem dX5_about_62 : decode cX5_about 62 = .ok (.iaload, 1) := by decide +kernel
theorem dX5_about_63 : decode cX5_about 63 = .ok (.ireturn, 1) := by decide +kernel
theorem dX5_about_64 : decode cX5_about 64 = .ok (.aload_n 0, 1) := by decide +kernel
theorem dX5_about_65 : decode cX5_about 65 = .ok (.getfield 10, 3) := by decide +kernel
theorem dX5_about_68 : decode cX5_about 68 = .ok (.getfield 78, 3) := by decide +kernel
theorem dX5_about_71 : decode cX5_about 71 = .ok (.iload_n 1, 1) := by decide +kernel
theorem dX5_about_72 : decode cX5_about 72 = .ok (.iaload, 1) := by decide +kernel
theorem dX5_about_73 : decode cX5_about 73 = .ok (.ireturn, 1) := by decide +kernel
theorem dX5_about_74 : decode cX5_about 74 = .ok (.aload_n 0, 1) := by decide +kernel
theorem dX5_about_75 : decode cX5_about 75 = .ok (.getfield 10, 3) := by decide +kernel
theorem dX5_about_78 : decode cX5_about 78 = .ok (.getfield 81, 3) := by decide +kernel
theorem dX5_about_81 : decode cX5_about 81 = .ok (.iload_n 1, 1) := by decide +kernel
theorem dX5_about_82 : decode cX5_about 82 = .ok (.iaload, 1) := by decide +kernel
theorem dX5_about_83 : decode cX5_about 83 = .ok (.sipush 5400, 3) := by decide +kernel
theorem dX5_about_86 : decode cX5_about 86 = .ok (.iadd, 1) := by decide +kernel
theorem dX5_about_87 : decode cX5_about 87 = .ok (.ireturn, 1) := by decide +kernel
theorem dX5_about_88 : decode cX5_about 88 = .ok (.bipush (-2), 2) := by decide +kernel
theorem dX5_about_90 : decode cX5_about 90 = .ok (.ireturn, 1) := by decide +kernel
theorem dX5_limit_0 : decode cX5_limit 0 = .ok (.iload_n 1, 1) := by decide +kernel
theorem dX5_limit_1 : decode cX5_limit 1 = .ok (.iconst 0, 1) := by decide +kernel
theorem dX5_limit_2 : decode cX5_limit 2 = .ok (.bipush 6, 2) := by decide +kernel
theorem dX5_limit_4 : decode cX5_limit 4 = .ok (.invokestatic 49, 3) := by decide +kernel
theorem dX5_limit_7 : decode cX5_limit 7 = .ok (.ifCond .ne 6, 3) := by decide +kernel
theorem dX5_limit_10 : decode cX5_limit 10 = .ok (.bipush (-2), 2) := by decide +kernel
theorem dX5_limit_12 : decode cX5_limit 12 = .ok (.ireturn, 1) := by decide +kernel
theorem dX5_limit_13 : decode cX5_limit 13 = .ok (.aload_n 0, 1) := by decide +kernel
theorem dX5_limit_14 : decode cX5_limit 14 = .ok (.getfield 10, 3) := by decide +kernel
theorem dX5_limit_17 : decode cX5_limit 17 = .ok (.getfield 84, 3) := by decide +kernel
theorem dX5_limit_20 : decode cX5_limit 20 = .ok (.istore_n 2, 1) := by decide +kernel
theorem dX5_limit_21 : decode cX5_limit 21 = .ok (.aload_n 0, 1) := by decide +kernel
theorem dX5_limit_22 : decode cX5_limit 22 = .ok (.getfield 10, 3) := by decide +kernel
theorem dX5_limit_25 : decode cX5_limit 25 = .ok (.iload_n 1, 1) := by decide +kernel
theorem dX5_limit_26 : decode cX5_limit 26 = .ok (.putfield 84, 3) := by decide +kernel
theorem dX5_limit_29 : decode cX5_limit 29 = .ok (.iload_n 2, 1) := by decide +kernel
theorem dX5_limit_30 : decode cX5_limit 30 = .ok (.ireturn, 1) := by decide +kernel
theorem dX5_way_0 : decode cX5_way 0 = .ok (.iload_n 1, 1) := by decide +kernel
theorem dX5_way_1 : decode cX5_way 1 = .ok (.invokestatic 87, 3) := by decide +kernel
theorem dX5_way_4 : decode cX5_way 4 = .ok (.ifCond .eq 10, 3) := by decide +kernel
theorem dX5_way_7 : decode cX5_way 7 = .ok (.iload_n 2, 1) := by decide +kernel
theorem dX5_way_8 : decode cX5_way 8 = .ok (.invokestatic 87, 3) := by decide +kernel
theorem dX5_way_11 : decode cX5_way 11 = .ok (.ifCond .ne 6, 3) := by decide +kernel
theorem dX5_way_14 : decode cX5_way 14 = .ok (.bipush (-2), 2) := by decide +kernel
theorem dX5_way_16 : decode cX5_way 16 = .ok (.ireturn, 1) := by decide +kernel
theorem dX5_way_17 : decode cX5_way 17 = .ok (.iload_n 1, 1) := by decide +kernel
theorem dX5_way_18 : decode cX5_way 18 = .ok (.iload_n 2, 1) := by decide +kernel
theorem dX5_way_19 : decode cX5_way 19 = .ok (.invokestatic 90, 3) := by decide +kernel
theorem dX5_way_22 : decode cX5_way 22 = .ok (.sipush 10800, 3) := by decide +kernel
theorem dX5_way_25 : decode cX5_way 25 = .ok (.iadd, 1) := by decide +kernel
theorem dX5_way_26 : decode cX5_way 26 = .ok (.ireturn, 1) := by decide +kernel
theorem dX5_list_0 : decode cX5_list 0 = .ok (.aload_n 0, 1) := by decide +kernel
theorem dX5_list_1 : decode cX5_list 1 = .ok (.getfield 19, 3) := by decide +kernel
theorem dX5_list_4 : decode cX5_list 4 = .ok (.getfield 93, 3) := by decide +kernel
theorem dX5_list_7 : decode cX5_list 7 = .ok (.bipush 6, 2) := by decide +kernel
theorem dX5_list_9 : decode cX5_list 9 = .ok (.if_icmp .lt 6, 3) := by decide +kernel
theorem dX5_list_12 : decode cX5_list 12 = .ok (.bipush (-4), 2) := by decide +kernel
theorem dX5_list_14 : decode cX5_list 14 = .ok (.ireturn, 1) := by decide +kernel
theorem dX5_list_15 : decode cX5_list 15 = .ok (.aload_n 0, 1) := by decide +kernel
theorem dX5_list_16 : decode cX5_list 16 = .ok (.getfield 19, 3) := by decide +kernel
theorem dX5_list_19 : decode cX5_list 19 = .ok (.invokevirtual 94, 3) := by decide +kernel
theorem dX5_list_22 : decode cX5_list 22 = .ok (.ireturn, 1) := by decide +kernel
theorem dX5_line_0 : decode cX5_line 0 = .ok (.aload_n 0, 1) := by decide +kernel
theorem dX5_line_1 : decode cX5_line 1 = .ok (.getfield 19, 3) := by decide +kernel
theorem dX5_line_4 : decode cX5_line 4 = .ok (.iload_n 1, 1) := by decide +kernel
theorem dX5_line_5 : decode cX5_line 5 = .ok (.invokevirtual 98, 3) := by decide +kernel
theorem dX5_line_8 : decode cX5_line 8 = .ok (.ifCond .ne 5, 3) := by decide +kernel
theorem dX5_line_11 : decode cX5_line 11 = .ok (.iconst (-1), 1) := by decide +kernel
theorem dX5_line_12 : decode cX5_line 12 = .ok (.ireturn, 1) := by decide +kernel
theorem dX5_line_13 : decode cX5_line 13 = .ok (.iload_n 2, 1) := by decide +kernel
theorem dX5_line_14 : decode cX5_line 14 = .ok (.iload_n 3, 1) := by decide +kernel
theorem dX5_line_15 : decode cX5_line 15 = .ok (.invokestatic 45, 3) := by decide +kernel
theorem dX5_line_18 : decode cX5_line 18 = .ok (.ifCond .ne 6, 3) := by decide +kernel
theorem dX5_line_21 : decode cX5_line 21 = .ok (.bipush (-2), 2) := by decide +kernel
theorem dX5_line_23 : decode cX5_line 23 = .ok (.ireturn, 1) := by decide +kernel
theorem dX5_line_24 : decode cX5_line 24 = .ok (.aload_n 0, 1) := by decide +kernel
theorem dX5_line_25 : decode cX5_line 25 = .ok (.getfield 19, 3) := by decide +kernel
theorem dX5_line_28 : decode cX5_line 28 = .ok (.getfield 99, 3) := by decide +kernel
theorem dX5_line_31 : decode cX5_line 31 = .ok (.iload_n 1, 1) := by decide +kernel
theorem dX5_line_32 : decode cX5_line 32 = .ok (.iaload, 1) := by decide +kernel
theorem dX5_line_33 : decode cX5_line 33 = .ok (.bipush 8, 2) := by decide +kernel
theorem dX5_line_35 : decode cX5_line 35 = .ok (.if_icmp .lt 6, 3) := by decide +kernel
theorem dX5_line_38 : decode cX5_line 38 = .ok (.bipush (-4), 2) := by decide +kernel
theorem dX5_line_40 : decode cX5_line 40 = .ok (.ireturn, 1) := by decide +kernel
theorem dX5_line_41 : decode cX5_line 41 = .ok (.aload_n 0, 1) := by decide +kernel
theorem dX5_line_42 : decode cX5_line 42 = .ok (.getfield 19, 3) := by decide +kernel
theorem dX5_line_45 : decode cX5_line 45 = .ok (.iload_n 1, 1) := by decide +kernel
theorem dX5_line_46 : decode cX5_line 46 = .ok (.iload_n 2, 1) := by decide +kernel
theorem dX5_line_47 : decode cX5_line 47 = .ok (.iload_n 3, 1) := by decide +kernel
theorem dX5_line_48 : decode cX5_line 48 = .ok (.invokevirtual 102, 3) := by decide +kernel
theorem dX5_line_51 : decode cX5_line 51 = .ok (.ireturn, 1) := by decide +kernel
theorem dX5_written_0 : decode cX5_written 0 = .ok (.aload_n 0, 1) := by decide +kernel
theorem dX5_written_1 : decode cX5_written 1 = .ok (.getfield 19, 3) := by decide +kernel
theorem dX5_written_4 : decode cX5_written 4 = .ok (.iload_n 1, 1) := by decide +kernel
theorem dX5_written_5 : decode cX5_written 5 = .ok (.iload_n 2, 1) := by decide +kernel
theorem dX5_written_6 : decode cX5_written 6 = .ok (.invokevirtual 105, 3) := by decide +kernel
theorem dX5_written_9 : decode cX5_written 9 = .ok (.ifCond .ne 5, 3) := by decide +kernel
theorem dX5_written_12 : decode cX5_written 12 = .ok (.iconst (-1), 1) := by decide +kernel
theorem dX5_written_13 : decode cX5_written 13 = .ok (.ireturn, 1) := by decide +kernel
theorem dX5_written_14 : decode cX5_written 14 = .ok (.iload_n 3, 1) := by decide +kernel
theorem dX5_written_15 : decode cX5_written 15 = .ok (.lookupswitch 49 #[(0, 25), (1, 35)], 25) := by decide +kernel
theorem dX5_written_40 : decode cX5_written 40 = .ok (.aload_n 0, 1) := by decide +kernel
theorem dX5_written_41 : decode cX5_written 41 = .ok (.getfield 19, 3) := by decide +kernel
theorem dX5_written_44 : decode cX5_written 44 = .ok (.iload_n 1, 1) := by decide +kernel
theorem dX5_written_45 : decode cX5_written 45 = .ok (.iload_n 2, 1) := by decide +kernel
theorem dX5_written_46 : decode cX5_written 46 = .ok (.invokevirtual 108, 3) := by decide +kernel
theorem dX5_written_49 : decode cX5_written 49 = .ok (.ireturn, 1) := by decide +kernel
theorem dX5_written_50 : decode cX5_written 50 = .ok (.aload_n 0, 1) := by decide +kernel
theorem dX5_written_51 : decode cX5_written 51 = .ok (.getfield 19, 3) := by decide +kernel
theorem dX5_written_54 : decode cX5_written 54 = .ok (.iload_n 1, 1) := by decide +kernel
theorem dX5_written_55 : decode cX5_written 55 = .ok (.iload_n 2, 1) := by decide +kernel
theorem dX5_written_56 : decode cX5_written 56 = .ok (.invokevirtual 111, 3) := by decide +kernel
theorem dX5_written_59 : decode cX5_written 59 = .ok (.sipush 5400, 3) := by decide +kernel
theorem dX5_written_62 : decode cX5_written 62 = .ok (.iadd, 1) := by decide +kernel
theorem dX5_written_63 : decode cX5_written 63 = .ok (.ireturn, 1) := by decide +kernel
theorem dX5_written_64 : decode cX5_written 64 = .ok (.bipush (-2), 2) := by decide +kernel
theorem dX5_written_66 : decode cX5_written 66 = .ok (.ireturn, 1) := by decide +kernel
theorem dX5_mend_0 : decode cX5_mend 0 = .ok (.aload_n 0, 1) := by decide +kernel
theorem dX5_mend_1 : decode cX5_mend 1 = .ok (.getfield 19, 3) := by decide +kernel
theorem dX5_mend_4 : decode cX5_mend 4 = .ok (.iload_n 1, 1) := by decide +kernel
theorem dX5_mend_5 : decode cX5_mend 5 = .ok (.iload_n 2, 1) := by decide +kernel
theorem dX5_mend_6 : decode cX5_mend 6 = .ok (.invokevirtual 105, 3) := by decide +kernel
theorem dX5_mend_9 : decode cX5_mend 9 = .ok (.ifCond .ne 5, 3) := by decide +kernel
theorem dX5_mend_12 : decode cX5_mend 12 = .ok (.iconst (-1), 1) := by decide +kernel
theorem dX5_mend_13 : decode cX5_mend 13 = .ok (.ireturn, 1) := by decide +kernel
theorem dX5_mend_14 : decode cX5_mend 14 = .ok (.iload_n 3, 1) := by decide +kernel
theorem dX5_mend_15 : decode cX5_mend 15 = .ok (.iload 4, 2) := by decide +kernel
theorem dX5_mend_17 : decode cX5_mend 17 = .ok (.invokestatic 45, 3) := by decide +kernel
theorem dX5_mend_20 : decode cX5_mend 20 = .ok (.ifCond .ne 6, 3) := by decide +kernel
theorem dX5_mend_23 : decode cX5_mend 23 = .ok (.bipush (-2), 2) := by decide +kernel
theorem dX5_mend_25 : decode cX5_mend 25 = .ok (.ireturn, 1) := by decide +kernel
theorem dX5_mend_26 : decode cX5_mend 26 = .ok (.aload_n 0, 1) := by decide +kernel
theorem dX5_mend_27 : decode cX5_mend 27 = .ok (.getfield 19, 3) := by decide +kernel
theorem dX5_mend_30 : decode cX5_mend 30 = .ok (.iload_n 1, 1) := by decide +kernel
theorem dX5_mend_31 : decode cX5_mend 31 = .ok (.iload_n 2, 1) := by decide +kernel
theorem dX5_mend_32 : decode cX5_mend 32 = .ok (.invokevirtual 108, 3) := by decide +kernel
theorem dX5_mend_35 : decode cX5_mend 35 = .ok (.istore 5, 2) := by decide +kernel
theorem dX5_mend_37 : decode cX5_mend 37 = .ok (.aload_n 0, 1) := by decide +kernel
theorem dX5_mend_38 : decode cX5_mend 38 = .ok (.getfield 19, 3) := by decide +kernel
theorem dX5_mend_41 : decode cX5_mend 41 = .ok (.iload_n 1, 1) := by decide +kernel
theorem dX5_mend_42 : decode cX5_mend 42 = .ok (.iload_n 2, 1) := by decide +kernel
theorem dX5_mend_43 : decode cX5_mend 43 = .ok (.iload_n 3, 1) := by decide +kernel
theorem dX5_mend_44 : decode cX5_mend 44 = .ok (.iload 4, 2) := by decide +kernel
theorem dX5_mend_46 : decode cX5_mend 46 = .ok (.invokevirtual 114, 3) := by decide +kernel
theorem dX5_mend_49 : decode cX5_mend 49 = .ok (.iload 5, 2) := by decide +kernel
theorem dX5_mend_51 : decode cX5_mend 51 = .ok (.ireturn, 1) := by decide +kernel
theorem dX5_round_0 : decode cX5_round 0 = .ok (.aload_n 0, 1) := by decide +kernel
theorem dX5_round_1 : decode cX5_round 1 = .ok (.getfield 19, 3) := by decide +kernel
theorem dX5_round_4 : decode cX5_round 4 = .ok (.iload_n 1, 1) := by decide +kernel
theorem dX5_round_5 : decode cX5_round 5 = .ok (.invokevirtual 98, 3) := by decide +kernel
theorem dX5_round_8 : decode cX5_round 8 = .ok (.ifCond .ne 5, 3) := by decide +kernel
theorem dX5_round_11 : decode cX5_round 11 = .ok (.iconst (-1), 1) := by decide +kernel
theorem dX5_round_12 : decode cX5_round 12 = .ok (.ireturn, 1) := by decide +kernel
theorem dX5_round_13 : decode cX5_round 13 = .ok (.iload_n 2, 1) := by decide +kernel
theorem dX5_round_14 : decode cX5_round 14 = .ok (.iconst 2, 1) := by decide +kernel
theorem dX5_round_15 : decode cX5_round 15 = .ok (.sipush 1800, 3) := by decide +kernel
theorem dX5_round_18 : decode cX5_round 18 = .ok (.invokestatic 49, 3) := by decide +kernel
theorem dX5_round_21 : decode cX5_round 21 = .ok (.ifCond .ne 6, 3) := by decide +kernel
theorem dX5_round_24 : decode cX5_round 24 = .ok (.bipush (-2), 2) := by decide +kernel
theorem dX5_round_26 : decode cX5_round 26 = .ok (.ireturn, 1) := by decide +kernel
theorem dX5_round_27 : decode cX5_round 27 = .ok (.iconst 0, 1) := by decide +kernel
theorem dX5_round_28 : decode cX5_round 28 = .ok (.istore_n 3, 1) := by decide +kernel
theorem dX5_round_29 : decode cX5_round 29 = .ok (.iconst 0, 1) := by decide +kernel
theorem dX5_round_30 : decode cX5_round 30 = .ok (.istore 4, 2) := by decide +kernel
theorem dX5_round_32 : decode cX5_round 32 = .ok (.iload 4, 2) := by decide +kernel
theorem dX5_round_34 : decode cX5_round 34 = .ok (.aload_n 0, 1) := by decide +kernel
theorem dX5_round_35 : decode cX5_round 35 = .ok (.getfield 19, 3) := by decide +kernel
theorem dX5_round_38 : decode cX5_round 38 = .ok (.getfield 99, 3) := by decide +kernel
theorem dX5_round_41 : decode cX5_round 41 = .ok (.iload_n 1, 1) := by decide +kernel
theorem dX5_round_42 : decode cX5_round 42 = .ok (.iaload, 1) := by decide +kernel
theorem dX5_round_43 : decode cX5_round 43 = .ok (.if_icmp .ge 27, 3) := by decide +kernel
theorem dX5_round_46 : decode cX5_round 46 = .ok (.aload_n 0, 1) := by decide +kernel
theorem dX5_round_47 : decode cX5_round 47 = .ok (.getfield 19, 3) := by decide +kernel
theorem dX5_round_50 : decode cX5_round 50 = .ok (.iload_n 1, 1) := by decide +kernel
theorem dX5_round_51 : decode cX5_round 51 = .ok (.iload 4, 2) := by decide +kernel
theorem dX5_round_53 : decode cX5_round 53 = .ok (.invokevirtual 108, 3) := by decide +kernel
theorem dX5_round_56 : decode cX5_round 56 = .ok (.iload_n 2, 1) := by decide +kernel
theorem dX5_round_57 : decode cX5_round 57 = .ok (.irem, 1) := by decide +kernel
theorem dX5_round_58 : decode cX5_round 58 = .ok (.ifCond .ne 6, 3) := by decide +kernel
theorem dX5_round_61 : decode cX5_round 61 = .ok (.iinc 3 1, 3) := by decide +kernel
theorem dX5_round_64 : decode cX5_round 64 = .ok (.iinc 4 1, 3) := by decide +kernel
theorem dX5_round_67 : decode cX5_round 67 = .ok (.goto (-35), 3) := by decide +kernel
theorem dX5_round_70 : decode cX5_round 70 = .ok (.iload_n 3, 1) := by decide +kernel
theorem dX5_round_71 : decode cX5_round 71 = .ok (.ireturn, 1) := by decide +kernel
theorem dX5_slip_0 : decode cX5_slip 0 = .ok (.aload_n 0, 1) := by decide +kernel
theorem dX5_slip_1 : decode cX5_slip 1 = .ok (.getfield 19, 3) := by decide +kernel
theorem dX5_slip_4 : decode cX5_slip 4 = .ok (.iload_n 1, 1) := by decide +kernel
theorem dX5_slip_5 : decode cX5_slip 5 = .ok (.iload_n 2, 1) := by decide +kernel
theorem dX5_slip_6 : decode cX5_slip 6 = .ok (.invokevirtual 105, 3) := by decide +kernel
theorem dX5_slip_9 : decode cX5_slip 9 = .ok (.ifCond .eq 14, 3) := by decide +kernel
theorem dX5_slip_12 : decode cX5_slip 12 = .ok (.aload_n 0, 1) := by decide +kernel
theorem dX5_slip_13 : decode cX5_slip 13 = .ok (.getfield 10, 3) := by decide +kernel
theorem dX5_slip_16 : decode cX5_slip 16 = .ok (.iload_n 3, 1) := by decide +kernel
theorem dX5_slip_17 : decode cX5_slip 17 = .ok (.invokevirtual 61, 3) := by decide +kernel
theorem dX5_slip_20 : decode cX5_slip 20 = .ok (.ifCond .ne 5, 3) := by decide +kernel
theorem dX5_slip_23 : decode cX5_slip 23 = .ok (.iconst (-1), 1) := by decide +kernel
theorem dX5_slip_24 : decode cX5_slip 24 = .ok (.ireturn, 1) := by decide +kernel
theorem dX5_slip_25 : decode cX5_slip 25 = .ok (.iload 4, 2) := by decide +kernel
theorem dX5_slip_27 : decode cX5_slip 27 = .ok (.iload 5, 2) := by decide +kernel
theorem dX5_slip_29 : decode cX5_slip 29 = .ok (.invokestatic 118, 3) := by decide +kernel
theorem dX5_slip_32 : decode cX5_slip 32 = .ok (.ifCond .ne 6, 3) := by decide +kernel
theorem dX5_slip_35 : decode cX5_slip 35 = .ok (.bipush (-2), 2) := by decide +kernel
theorem dX5_slip_37 : decode cX5_slip 37 = .ok (.ireturn, 1) := by decide +kernel
theorem dX5_slip_38 : decode cX5_slip 38 = .ok (.aload_n 0, 1) := by decide +kernel
theorem dX5_slip_39 : decode cX5_slip 39 = .ok (.getfield 28, 3) := by decide +kernel
theorem dX5_slip_42 : decode cX5_slip 42 = .ok (.iload_n 1, 1) := by decide +kernel
theorem dX5_slip_43 : decode cX5_slip 43 = .ok (.iload_n 2, 1) := by decide +kernel
theorem dX5_slip_44 : decode cX5_slip 44 = .ok (.iload_n 3, 1) := by decide +kernel
theorem dX5_slip_45 : decode cX5_slip 45 = .ok (.iload 4, 2) := by decide +kernel
theorem dX5_slip_47 : decode cX5_slip 47 = .ok (.iload 5, 2) := by decide +kernel
theorem dX5_slip_49 : decode cX5_slip 49 = .ok (.invokevirtual 121, 3) := by decide +kernel
theorem dX5_slip_52 : decode cX5_slip 52 = .ok (.istore 6, 2) := by decide +kernel
theorem dX5_slip_54 : decode cX5_slip 54 = .ok (.iload 6, 2) := by decide +kernel
theorem dX5_slip_56 : decode cX5_slip 56 = .ok (.ldc 127, 2) := by decide +kernel
theorem dX5_slip_58 : decode cX5_slip 58 = .ok (.if_icmp .ne 8, 3) := by decide +kernel
theorem dX5_slip_61 : decode cX5_slip 61 = .ok (.bipush (-9), 2) := by decide +kernel
theorem dX5_slip_63 : decode cX5_slip 63 = .ok (.goto 8, 3) := by decide +kernel
theorem dX5_slip_66 : decode cX5_slip 66 = .ok (.iload 6, 2) := by decide +kernel
theorem dX5_slip_68 : decode cX5_slip 68 = .ok (.invokestatic 128, 3) := by decide +kernel
theorem dX5_slip_71 : decode cX5_slip 71 = .ok (.ireturn, 1) := by decide +kernel
theorem dX5_cost_0 : decode cX5_cost 0 = .ok (.aload_n 0, 1) := by decide +kernel
theorem dX5_cost_1 : decode cX5_cost 1 = .ok (.getfield 19, 3) := by decide +kernel
theorem dX5_cost_4 : decode cX5_cost 4 = .ok (.iload_n 1, 1) := by decide +kernel
theorem dX5_cost_5 : decode cX5_cost 5 = .ok (.iload_n 2, 1) := by decide +kernel
theorem dX5_cost_6 : decode cX5_cost 6 = .ok (.invokevirtual 105, 3) := by decide +kernel
theorem dX5_cost_9 : decode cX5_cost 9 = .ok (.ifCond .eq 14, 3) := by decide +kernel
theorem dX5_cost_12 : decode cX5_cost 12 = .ok (.aload_n 0, 1) := by decide +kernel
theorem dX5_cost_13 : decode cX5_cost 13 = .ok (.getfield 10, 3) := by decide +kernel
theorem dX5_cost_16 : decode cX5_cost 16 = .ok (.iload_n 3, 1) := by decide +kernel
theorem dX5_cost_17 : decode cX5_cost 17 = .ok (.invokevirtual 61, 3) := by decide +kernel
theorem dX5_cost_20 : decode cX5_cost 20 = .ok (.ifCond .ne 5, 3) := by decide +kernel
theorem dX5_cost_23 : decode cX5_cost 23 = .ok (.iconst (-1), 1) := by decide +kernel
theorem dX5_cost_24 : decode cX5_cost 24 = .ok (.ireturn, 1) := by decide +kernel
theorem dX5_cost_25 : decode cX5_cost 25 = .ok (.iload 4, 2) := by decide +kernel
theorem dX5_cost_27 : decode cX5_cost 27 = .ok (.iload 5, 2) := by decide +kernel
theorem dX5_cost_29 : decode cX5_cost 29 = .ok (.invokestatic 118, 3) := by decide +kernel
theorem dX5_cost_32 : decode cX5_cost 32 = .ok (.ifCond .ne 6, 3) := by decide +kernel
theorem dX5_cost_35 : decode cX5_cost 35 = .ok (.bipush (-2), 2) := by decide +kernel
theorem dX5_cost_37 : decode cX5_cost 37 = .ok (.ireturn, 1) := by decide +kernel
theorem dX5_cost_38 : decode cX5_cost 38 = .ok (.aload_n 0, 1) := by decide +kernel
theorem dX5_cost_39 : decode cX5_cost 39 = .ok (.getfield 28, 3) := by decide +kernel
theorem dX5_cost_42 : decode cX5_cost 42 = .ok (.iload_n 1, 1) := by decide +kernel
theorem dX5_cost_43 : decode cX5_cost 43 = .ok (.iload_n 2, 1) := by decide +kernel
theorem dX5_cost_44 : decode cX5_cost 44 = .ok (.iload_n 3, 1) := by decide +kernel
theorem dX5_cost_45 : decode cX5_cost 45 = .ok (.iload 4, 2) := by decide +kernel
theorem dX5_cost_47 : decode cX5_cost 47 = .ok (.iload 5, 2) := by decide +kernel
theorem dX5_cost_49 : decode cX5_cost 49 = .ok (.invokevirtual 121, 3) := by decide +kernel
theorem dX5_cost_52 : decode cX5_cost 52 = .ok (.istore 6, 2) := by decide +kernel
theorem dX5_cost_54 : decode cX5_cost 54 = .ok (.iload 6, 2) := by decide +kernel
theorem dX5_cost_56 : decode cX5_cost 56 = .ok (.ldc 127, 2) := by decide +kernel
theorem dX5_cost_58 : decode cX5_cost 58 = .ok (.if_icmp .ne 8, 3) := by decide +kernel
theorem dX5_cost_61 : decode cX5_cost 61 = .ok (.bipush (-9), 2) := by decide +kernel
theorem dX5_cost_63 : decode cX5_cost 63 = .ok (.goto 8, 3) := by decide +kernel
theorem dX5_cost_66 : decode cX5_cost 66 = .ok (.iload 6, 2) := by decide +kernel
theorem dX5_cost_68 : decode cX5_cost 68 = .ok (.invokestatic 132, 3) := by decide +kernel
theorem dX5_cost_71 : decode cX5_cost 71 = .ok (.ireturn, 1) := by decide +kernel
theorem dX5_best_0 : decode cX5_best 0 = .ok (.aload_n 0, 1) := by decide +kernel
theorem dX5_best_1 : decode cX5_best 1 = .ok (.getfield 19, 3) := by decide +kernel
theorem dX5_best_4 : decode cX5_best 4 = .ok (.iload_n 1, 1) := by decide +kernel
theorem dX5_best_5 : decode cX5_best 5 = .ok (.invokevirtual 98, 3) := by decide +kernel
theorem dX5_best_8 : decode cX5_best 8 = .ok (.ifCond .ne 5, 3) := by decide +kernel
theorem dX5_best_11 : decode cX5_best 11 = .ok (.iconst (-1), 1) := by decide +kernel
theorem dX5_best_12 : decode cX5_best 12 = .ok (.ireturn, 1) := by decide +kernel
theorem dX5_best_13 : decode cX5_best 13 = .ok (.iload_n 2, 1) := by decide +kernel
theorem dX5_best_14 : decode cX5_best 14 = .ok (.iload_n 3, 1) := by decide +kernel
theorem dX5_best_15 : decode cX5_best 15 = .ok (.invokestatic 118, 3) := by decide +kernel
theorem dX5_best_18 : decode cX5_best 18 = .ok (.ifCond .ne 6, 3) := by decide +kernel
theorem dX5_best_21 : decode cX5_best 21 = .ok (.bipush (-2), 2) := by decide +kernel
theorem dX5_best_23 : decode cX5_best 23 = .ok (.ireturn, 1) := by decide +kernel
theorem dX5_best_24 : decode cX5_best 24 = .ok (.aload_n 0, 1) := by decide +kernel
theorem dX5_best_25 : decode cX5_best 25 = .ok (.getfield 28, 3) := by decide +kernel
theorem dX5_best_28 : decode cX5_best 28 = .ok (.iload_n 1, 1) := by decide +kernel
theorem dX5_best_29 : decode cX5_best 29 = .ok (.iload_n 2, 1) := by decide +kernel
theorem dX5_best_30 : decode cX5_best 30 = .ok (.iload_n 3, 1) := by decide +kernel
theorem dX5_best_31 : decode cX5_best 31 = .ok (.invokevirtual 135, 3) := by decide +kernel
theorem dX5_best_34 : decode cX5_best 34 = .ok (.aload_n 0, 1) := by decide +kernel
theorem dX5_best_35 : decode cX5_best 35 = .ok (.getfield 28, 3) := by decide +kernel
theorem dX5_best_38 : decode cX5_best 38 = .ok (.getfield 139, 3) := by decide +kernel
theorem dX5_best_41 : decode cX5_best 41 = .ok (.ireturn, 1) := by decide +kernel
theorem dX5_matched_0 : decode cX5_matched 0 = .ok (.aload_n 0, 1) := by decide +kernel
theorem dX5_matched_1 : decode cX5_matched 1 = .ok (.getfield 19, 3) := by decide +kernel
theorem dX5_matched_4 : decode cX5_matched 4 = .ok (.iload_n 1, 1) := by decide +kernel
theorem dX5_matched_5 : decode cX5_matched 5 = .ok (.iload_n 2, 1) := by decide +kernel
theorem dX5_matched_6 : decode cX5_matched 6 = .ok (.invokevirtual 105, 3) := by decide +kernel
theorem dX5_matched_9 : decode cX5_matched 9 = .ok (.ifCond .ne 5, 3) := by decide +kernel
theorem dX5_matched_12 : decode cX5_matched 12 = .ok (.iconst (-1), 1) := by decide +kernel
theorem dX5_matched_13 : decode cX5_matched 13 = .ok (.ireturn, 1) := by decide +kernel
theorem dX5_matched_14 : decode cX5_matched 14 = .ok (.iload_n 3, 1) := by decide +kernel
theorem dX5_matched_15 : decode cX5_matched 15 = .ok (.iload 4, 2) := by decide +kernel
theorem dX5_matched_17 : decode cX5_matched 17 = .ok (.invokestatic 118, 3) := by decide +kernel
theorem dX5_matched_20 : decode cX5_matched 20 = .ok (.ifCond .ne 6, 3) := by decide +kernel
theorem dX5_matched_23 : decode cX5_matched 23 = .ok (.bipush (-2), 2) := by decide +kernel
theorem dX5_matched_25 : decode cX5_matched 25 = .ok (.ireturn, 1) := by decide +kernel
theorem dX5_matched_26 : decode cX5_matched 26 = .ok (.aload_n 0, 1) := by decide +kernel
theorem dX5_matched_27 : decode cX5_matched 27 = .ok (.getfield 28, 3) := by decide +kernel
theorem dX5_matched_30 : decode cX5_matched 30 = .ok (.iload_n 1, 1) := by decide +kernel
theorem dX5_matched_31 : decode cX5_matched 31 = .ok (.iload_n 3, 1) := by decide +kernel
theorem dX5_matched_32 : decode cX5_matched 32 = .ok (.iload 4, 2) := by decide +kernel
theorem dX5_matched_34 : decode cX5_matched 34 = .ok (.invokevirtual 135, 3) := by decide +kernel
theorem dX5_matched_37 : decode cX5_matched 37 = .ok (.aload_n 0, 1) := by decide +kernel
theorem dX5_matched_38 : decode cX5_matched 38 = .ok (.getfield 28, 3) := by decide +kernel
theorem dX5_matched_41 : decode cX5_matched 41 = .ok (.getfield 142, 3) := by decide +kernel
theorem dX5_matched_44 : decode cX5_matched 44 = .ok (.iload_n 2, 1) := by decide +kernel
theorem dX5_matched_45 : decode cX5_matched 45 = .ok (.iaload, 1) := by decide +kernel
theorem dX5_matched_46 : decode cX5_matched 46 = .ok (.ireturn, 1) := by decide +kernel
theorem dX5_dated_0 : decode cX5_dated 0 = .ok (.aload_n 0, 1) := by decide +kernel
theorem dX5_dated_1 : decode cX5_dated 1 = .ok (.getfield 19, 3) := by decide +kernel
theorem dX5_dated_4 : decode cX5_dated 4 = .ok (.iload_n 1, 1) := by decide +kernel
theorem dX5_dated_5 : decode cX5_dated 5 = .ok (.invokevirtual 98, 3) := by decide +kernel
theorem dX5_dated_8 : decode cX5_dated 8 = .ok (.ifCond .ne 5, 3) := by decide +kernel
theorem dX5_dated_11 : decode cX5_dated 11 = .ok (.iconst (-1), 1) := by decide +kernel
theorem dX5_dated_12 : decode cX5_dated 12 = .ok (.ireturn, 1) := by decide +kernel
theorem dX5_dated_13 : decode cX5_dated 13 = .ok (.iload_n 2, 1) := by decide +kernel
theorem dX5_dated_14 : decode cX5_dated 14 = .ok (.iload_n 3, 1) := by decide +kernel
theorem dX5_dated_15 : decode cX5_dated 15 = .ok (.iload 4, 2) := by decide +kernel
theorem dX5_dated_17 : decode cX5_dated 17 = .ok (.invokestatic 145, 3) := by decide +kernel
theorem dX5_dated_20 : decode cX5_dated 20 = .ok (.ifCond .ne 6, 3) := by decide +kernel
theorem dX5_dated_23 : decode cX5_dated 23 = .ok (.bipush (-2), 2) := by decide +kernel
theorem dX5_dated_25 : decode cX5_dated 25 = .ok (.ireturn, 1) := by decide +kernel
theorem dX5_dated_26 : decode cX5_dated 26 = .ok (.aload_n 0, 1) := by decide +kernel
theorem dX5_dated_27 : decode cX5_dated 27 = .ok (.iload_n 1, 1) := by decide +kernel
theorem dX5_dated_28 : decode cX5_dated 28 = .ok (.iload_n 2, 1) := by decide +kernel
theorem dX5_dated_29 : decode cX5_dated 29 = .ok (.iload_n 3, 1) := by decide +kernel
theorem dX5_dated_30 : decode cX5_dated 30 = .ok (.iload 4, 2) := by decide +kernel
theorem dX5_dated_32 : decode cX5_dated 32 = .ok (.invokevirtual 148, 3) := by decide +kernel
theorem dX5_dated_35 : decode cX5_dated 35 = .ok (.istore 5, 2) := by decide +kernel
theorem dX5_dated_37 : decode cX5_dated 37 = .ok (.iconst 0, 1) := by decide +kernel
theorem dX5_dated_38 : decode cX5_dated 38 = .ok (.istore 6, 2) := by decide +kernel
theorem dX5_dated_40 : decode cX5_dated 40 = .ok (.iconst 1, 1) := by decide +kernel
theorem dX5_dated_41 : decode cX5_dated 41 = .ok (.istore 7, 2) := by decide +kernel
theorem dX5_dated_43 : decode cX5_dated 43 = .ok (.iload 7, 2) := by decide +kernel
theorem dX5_dated_45 : decode cX5_dated 45 = .ok (.iload 5, 2) := by decide +kernel
theorem dX5_dated_47 : decode cX5_dated 47 = .ok (.if_icmp .ge 30, 3) := by decide +kernel
theorem dX5_dated_50 : decode cX5_dated 50 = .ok (.aload_n 0, 1) := by decide +kernel
theorem dX5_dated_51 : decode cX5_dated 51 = .ok (.getfield 41, 3) := by decide +kernel
theorem dX5_dated_54 : decode cX5_dated 54 = .ok (.iload 7, 2) := by decide +kernel
theorem dX5_dated_56 : decode cX5_dated 56 = .ok (.iaload, 1) := by decide +kernel
theorem dX5_dated_57 : decode cX5_dated 57 = .ok (.aload_n 0, 1) := by decide +kernel
theorem dX5_dated_58 : decode cX5_dated 58 = .ok (.getfield 41, 3) := by decide +kernel
theorem dX5_dated_61 : decode cX5_dated 61 = .ok (.iload 6, 2) := by decide +kernel
theorem dX5_dated_63 : decode cX5_dated 63 = .ok (.iaload, 1) := by decide +kernel
theorem dX5_dated_64 : decode cX5_dated 64 = .ok (.if_icmp .ge 7, 3) := by decide +kernel
theorem dX5_dated_67 : decode cX5_dated 67 = .ok (.iload 7, 2) := by decide +kernel
theorem dX5_dated_69 : decode cX5_dated 69 = .ok (.istore 6, 2) := by decide +kernel
theorem dX5_dated_71 : decode cX5_dated 71 = .ok (.iinc 7 1, 3) := by decide +kernel
theorem dX5_dated_74 : decode cX5_dated 74 = .ok (.goto (-31), 3) := by decide +kernel
theorem dX5_dated_77 : decode cX5_dated 77 = .ok (.iload_n 3, 1) := by decide +kernel
theorem dX5_dated_78 : decode cX5_dated 78 = .ok (.bipush 10, 2) := by decide +kernel
theorem dX5_dated_80 : decode cX5_dated 80 = .ok (.iload 6, 2) := by decide +kernel
theorem dX5_dated_82 : decode cX5_dated 82 = .ok (.imul, 1) := by decide +kernel
theorem dX5_dated_83 : decode cX5_dated 83 = .ok (.iadd, 1) := by decide +kernel
theorem dX5_dated_84 : decode cX5_dated 84 = .ok (.sipush 3000, 3) := by decide +kernel
theorem dX5_dated_87 : decode cX5_dated 87 = .ok (.iadd, 1) := by decide +kernel
theorem dX5_dated_88 : decode cX5_dated 88 = .ok (.ireturn, 1) := by decide +kernel
theorem dX5_doubt_0 : decode cX5_doubt 0 = .ok (.aload_n 0, 1) := by decide +kernel
theorem dX5_doubt_1 : decode cX5_doubt 1 = .ok (.getfield 19, 3) := by decide +kernel
theorem dX5_doubt_4 : decode cX5_doubt 4 = .ok (.iload_n 1, 1) := by decide +kernel
theorem dX5_doubt_5 : decode cX5_doubt 5 = .ok (.invokevirtual 98, 3) := by decide +kernel
theorem dX5_doubt_8 : decode cX5_doubt 8 = .ok (.ifCond .ne 5, 3) := by decide +kernel
theorem dX5_doubt_11 : decode cX5_doubt 11 = .ok (.iconst (-1), 1) := by decide +kernel
theorem dX5_doubt_12 : decode cX5_doubt 12 = .ok (.ireturn, 1) := by decide +kernel
theorem dX5_doubt_13 : decode cX5_doubt 13 = .ok (.iload_n 2, 1) := by decide +kernel
theorem dX5_doubt_14 : decode cX5_doubt 14 = .ok (.iload_n 3, 1) := by decide +kernel
theorem dX5_doubt_15 : decode cX5_doubt 15 = .ok (.iload 4, 2) := by decide +kernel
theorem dX5_doubt_17 : decode cX5_doubt 17 = .ok (.invokestatic 145, 3) := by decide +kernel
theorem dX5_doubt_20 : decode cX5_doubt 20 = .ok (.ifCond .eq 15, 3) := by decide +kernel
theorem dX5_doubt_23 : decode cX5_doubt 23 = .ok (.iload 5, 2) := by decide +kernel
theorem dX5_doubt_25 : decode cX5_doubt 25 = .ok (.iconst 0, 1) := by decide +kernel
theorem dX5_doubt_26 : decode cX5_doubt 26 = .ok (.sipush 800, 3) := by decide +kernel
theorem dX5_doubt_29 : decode cX5_doubt 29 = .ok (.invokestatic 49, 3) := by decide +kernel
theorem dX5_doubt_32 : decode cX5_doubt 32 = .ok (.ifCond .ne 6, 3) := by decide +kernel
theorem dX5_doubt_35 : decode cX5_doubt 35 = .ok (.bipush (-2), 2) := by decide +kernel
theorem dX5_doubt_37 : decode cX5_doubt 37 = .ok (.ireturn, 1) := by decide +kernel
theorem dX5_doubt_38 : decode cX5_doubt 38 = .ok (.aload_n 0, 1) := by decide +kernel
theorem dX5_doubt_39 : decode cX5_doubt 39 = .ok (.iload_n 1, 1) := by decide +kernel
theorem dX5_doubt_40 : decode cX5_doubt 40 = .ok (.iload_n 2, 1) := by decide +kernel
theorem dX5_doubt_41 : decode cX5_doubt 41 = .ok (.iload_n 3, 1) := by decide +kernel
theorem dX5_doubt_42 : decode cX5_doubt 42 = .ok (.iload 4, 2) := by decide +kernel
theorem dX5_doubt_44 : decode cX5_doubt 44 = .ok (.invokevirtual 148, 3) := by decide +kernel
theorem dX5_doubt_47 : decode cX5_doubt 47 = .ok (.istore 6, 2) := by decide +kernel
theorem dX5_doubt_49 : decode cX5_doubt 49 = .ok (.aload_n 0, 1) := by decide +kernel
theorem dX5_doubt_50 : decode cX5_doubt 50 = .ok (.getfield 41, 3) := by decide +kernel
theorem dX5_doubt_53 : decode cX5_doubt 53 = .ok (.iconst 0, 1) := by decide +kernel
theorem dX5_doubt_54 : decode cX5_doubt 54 = .ok (.iaload, 1) := by decide +kernel
theorem dX5_doubt_55 : decode cX5_doubt 55 = .ok (.istore 7, 2) := by decide +kernel
theorem dX5_doubt_57 : decode cX5_doubt 57 = .ok (.iconst 1, 1) := by decide +kernel
theorem dX5_doubt_58 : decode cX5_doubt 58 = .ok (.istore 8, 2) := by decide +kernel
theorem dX5_doubt_60 : decode cX5_doubt 60 = .ok (.iload 8, 2) := by decide +kernel
theorem dX5_doubt_62 : decode cX5_doubt 62 = .ok (.iload 6, 2) := by decide +kernel
theorem dX5_doubt_64 : decode cX5_doubt 64 = .ok (.if_icmp .ge 23, 3) := by decide +kernel
theorem dX5_doubt_67 : decode cX5_doubt 67 = .ok (.iload 7, 2) := by decide +kernel
theorem dX5_doubt_69 : decode cX5_doubt 69 = .ok (.aload_n 0, 1) := by decide +kernel
theorem dX5_doubt_70 : decode cX5_doubt 70 = .ok (.getfield 41, 3) := by decide +kernel
theorem dX5_doubt_73 : decode cX5_doubt 73 = .ok (.iload 8, 2) := by decide +kernel
theorem dX5_doubt_75 : decode cX5_doubt 75 = .ok (.iaload, 1) := by decide +kernel
theorem dX5_doubt_76 : decode cX5_doubt 76 = .ok (.invokestatic 151, 3) := by decide +kernel
theorem dX5_doubt_79 : decode cX5_doubt 79 = .ok (.istore 7, 2) := by decide +kernel
theorem dX5_doubt_81 : decode cX5_doubt 81 = .ok (.iinc 8 1, 3) := by decide +kernel
theorem dX5_doubt_84 : decode cX5_doubt 84 = .ok (.goto (-24), 3) := by decide +kernel
theorem dX5_doubt_87 : decode cX5_doubt 87 = .ok (.iconst 0, 1) := by decide +kernel
theorem dX5_doubt_88 : decode cX5_doubt 88 = .ok (.istore 8, 2) := by decide +kernel
theorem dX5_doubt_90 : decode cX5_doubt 90 = .ok (.iconst 0, 1) := by decide +kernel
theorem dX5_doubt_91 : decode cX5_doubt 91 = .ok (.istore 9, 2) := by decide +kernel
theorem dX5_doubt_93 : decode cX5_doubt 93 = .ok (.iload 9, 2) := by decide +kernel
theorem dX5_doubt_95 : decode cX5_doubt 95 = .ok (.iload 6, 2) := by decide +kernel
theorem dX5_doubt_97 : decode cX5_doubt 97 = .ok (.if_icmp .ge 27, 3) := by decide +kernel
theorem dX5_doubt_100 : decode cX5_doubt 100 = .ok (.aload_n 0, 1) := by decide +kernel
theorem dX5_doubt_101 : decode cX5_doubt 101 = .ok (.getfield 41, 3) := by decide +kernel
theorem dX5_doubt_104 : decode cX5_doubt 104 = .ok (.iload 9, 2) := by decide +kernel
theorem dX5_doubt_106 : decode cX5_doubt 106 = .ok (.iaload, 1) := by decide +kernel
theorem dX5_doubt_107 : decode cX5_doubt 107 = .ok (.iload 7, 2) := by decide +kernel
theorem dX5_doubt_109 : decode cX5_doubt 109 = .ok (.iload 5, 2) := by decide +kernel
theorem dX5_doubt_111 : decode cX5_doubt 111 = .ok (.iadd, 1) := by decide +kernel
theorem dX5_doubt_112 : decode cX5_doubt 112 = .ok (.if_icmp .gt 6, 3) := by decide +kernel
theorem dX5_doubt_115 : decode cX5_doubt 115 = .ok (.iinc 8 1, 3) := by decide +kernel
theorem dX5_doubt_118 : decode cX5_doubt 118 = .ok (.iinc 9 1, 3) := by decide +kernel
theorem dX5_doubt_121 : decode cX5_doubt 121 = .ok (.goto (-28), 3) := by decide +kernel
theorem dX5_doubt_124 : decode cX5_doubt 124 = .ok (.iload 8, 2) := by decide +kernel
theorem dX5_doubt_126 : decode cX5_doubt 126 = .ok (.ireturn, 1) := by decide +kernel
theorem dX5_shift_0 : decode cX5_shift 0 = .ok (.aload_n 0, 1) := by decide +kernel
theorem dX5_shift_1 : decode cX5_shift 1 = .ok (.getfield 19, 3) := by decide +kernel
theorem dX5_shift_4 : decode cX5_shift 4 = .ok (.iload_n 1, 1) := by decide +kernel
theorem dX5_shift_5 : decode cX5_shift 5 = .ok (.invokevirtual 98, 3) := by decide +kernel
theorem dX5_shift_8 : decode cX5_shift 8 = .ok (.ifCond .ne 5, 3) := by decide +kernel
theorem dX5_shift_11 : decode cX5_shift 11 = .ok (.iconst (-1), 1) := by decide +kernel
theorem dX5_shift_12 : decode cX5_shift 12 = .ok (.ireturn, 1) := by decide +kernel
theorem dX5_shift_13 : decode cX5_shift 13 = .ok (.iload_n 2, 1) := by decide +kernel
theorem dX5_shift_14 : decode cX5_shift 14 = .ok (.invokestatic 65, 3) := by decide +kernel
theorem dX5_shift_17 : decode cX5_shift 17 = .ok (.ifCond .ne 6, 3) := by decide +kernel
theorem dX5_shift_20 : decode cX5_shift 20 = .ok (.bipush (-2), 2) := by decide +kernel
theorem dX5_shift_22 : decode cX5_shift 22 = .ok (.ireturn, 1) := by decide +kernel
theorem dX5_shift_23 : decode cX5_shift 23 = .ok (.aload_n 0, 1) := by decide +kernel
theorem dX5_shift_24 : decode cX5_shift 24 = .ok (.getfield 28, 3) := by decide +kernel
theorem dX5_shift_27 : decode cX5_shift 27 = .ok (.iload_n 1, 1) := by decide +kernel
theorem dX5_shift_28 : decode cX5_shift 28 = .ok (.iload_n 2, 1) := by decide +kernel
theorem dX5_shift_29 : decode cX5_shift 29 = .ok (.iconst 0, 1) := by decide +kernel
theorem dX5_shift_30 : decode cX5_shift 30 = .ok (.invokevirtual 135, 3) := by decide +kernel
theorem dX5_shift_33 : decode cX5_shift 33 = .ok (.aload_n 0, 1) := by decide +kernel
theorem dX5_shift_34 : decode cX5_shift 34 = .ok (.getfield 28, 3) := by decide +kernel
theorem dX5_shift_37 : decode cX5_shift 37 = .ok (.iload_n 1, 1) := by decide +kernel
theorem dX5_shift_38 : decode cX5_shift 38 = .ok (.invokevirtual 156, 3) := by decide +kernel
theorem dX5_shift_41 : decode cX5_shift 41 = .ok (.istore_n 3, 1) := by decide +kernel
theorem dX5_shift_42 : decode cX5_shift 42 = .ok (.iload_n 3, 1) := by decide +kernel
theorem dX5_shift_43 : decode cX5_shift 43 = .ok (.ifCond .ne 6, 3) := by decide +kernel
theorem dX5_shift_46 : decode cX5_shift 46 = .ok (.bipush (-9), 2) := by decide +kernel
theorem dX5_shift_48 : decode cX5_shift 48 = .ok (.ireturn, 1) := by decide +kernel
theorem dX5_shift_49 : decode cX5_shift 49 = .ok (.aload_n 0, 1) := by decide +kernel
theorem dX5_shift_50 : decode cX5_shift 50 = .ok (.getfield 28, 3) := by decide +kernel
theorem dX5_shift_53 : decode cX5_shift 53 = .ok (.getfield 159, 3) := by decide +kernel
theorem dX5_shift_56 : decode cX5_shift 56 = .ok (.iload_n 3, 1) := by decide +kernel
theorem dX5_shift_57 : decode cX5_shift 57 = .ok (.iconst 1, 1) := by decide +kernel
theorem dX5_shift_58 : decode cX5_shift 58 = .ok (.isub, 1) := by decide +kernel
theorem dX5_shift_59 : decode cX5_shift 59 = .ok (.iconst 2, 1) := by decide +kernel
theorem dX5_shift_60 : decode cX5_shift 60 = .ok (.idiv, 1) := by decide +kernel
theorem dX5_shift_61 : decode cX5_shift 61 = .ok (.iaload, 1) := by decide +kernel
theorem dX5_shift_62 : decode cX5_shift 62 = .ok (.bipush 30, 2) := by decide +kernel
theorem dX5_shift_64 : decode cX5_shift 64 = .ok (.iadd, 1) := by decide +kernel
theorem dX5_shift_65 : decode cX5_shift 65 = .ok (.ireturn, 1) := by decide +kernel
theorem dX5_fault_0 : decode cX5_fault 0 = .ok (.aload_n 0, 1) := by decide +kernel
theorem dX5_fault_1 : decode cX5_fault 1 = .ok (.getfield 19, 3) := by decide +kernel
theorem dX5_fault_4 : decode cX5_fault 4 = .ok (.iload_n 1, 1) := by decide +kernel
theorem dX5_fault_5 : decode cX5_fault 5 = .ok (.invokevirtual 98, 3) := by decide +kernel
theorem dX5_fault_8 : decode cX5_fault 8 = .ok (.ifCond .eq 14, 3) := by decide +kernel
theorem dX5_fault_11 : decode cX5_fault 11 = .ok (.aload_n 0, 1) := by decide +kernel
theorem dX5_fault_12 : decode cX5_fault 12 = .ok (.getfield 10, 3) := by decide +kernel
theorem dX5_fault_15 : decode cX5_fault 15 = .ok (.iload_n 2, 1) := by decide +kernel
theorem dX5_fault_16 : decode cX5_fault 16 = .ok (.invokevirtual 61, 3) := by decide +kernel
theorem dX5_fault_19 : decode cX5_fault 19 = .ok (.ifCond .ne 5, 3) := by decide +kernel
theorem dX5_fault_22 : decode cX5_fault 22 = .ok (.iconst (-1), 1) := by decide +kernel
theorem dX5_fault_23 : decode cX5_fault 23 = .ok (.ireturn, 1) := by decide +kernel
theorem dX5_fault_24 : decode cX5_fault 24 = .ok (.iload_n 3, 1) := by decide +kernel
theorem dX5_fault_25 : decode cX5_fault 25 = .ok (.iload 4, 2) := by decide +kernel
theorem dX5_fault_27 : decode cX5_fault 27 = .ok (.invokestatic 118, 3) := by decide +kernel
theorem dX5_fault_30 : decode cX5_fault 30 = .ok (.ifCond .ne 6, 3) := by decide +kernel
theorem dX5_fault_33 : decode cX5_fault 33 = .ok (.bipush (-2), 2) := by decide +kernel
theorem dX5_fault_35 : decode cX5_fault 35 = .ok (.ireturn, 1) := by decide +kernel
theorem dX5_fault_36 : decode cX5_fault 36 = .ok (.aload_n 0, 1) := by decide +kernel
theorem dX5_fault_37 : decode cX5_fault 37 = .ok (.getfield 37, 3) := by decide +kernel
theorem dX5_fault_40 : decode cX5_fault 40 = .ok (.iload_n 1, 1) := by decide +kernel
theorem dX5_fault_41 : decode cX5_fault 41 = .ok (.iload_n 3, 1) := by decide +kernel
theorem dX5_fault_42 : decode cX5_fault 42 = .ok (.iload 4, 2) := by decide +kernel
theorem dX5_fault_44 : decode cX5_fault 44 = .ok (.invokevirtual 162, 3) := by decide +kernel
theorem dX5_fault_47 : decode cX5_fault 47 = .ok (.aload_n 0, 1) := by decide +kernel
theorem dX5_fault_48 : decode cX5_fault 48 = .ok (.getfield 37, 3) := by decide +kernel
theorem dX5_fault_51 : decode cX5_fault 51 = .ok (.iload_n 1, 1) := by decide +kernel
theorem dX5_fault_52 : decode cX5_fault 52 = .ok (.iload_n 2, 1) := by decide +kernel
theorem dX5_fault_53 : decode cX5_fault 53 = .ok (.invokevirtual 165, 3) := by decide +kernel
theorem dX5_fault_56 : decode cX5_fault 56 = .ok (.ireturn, 1) := by decide +kernel
theorem dX5_share_0 : decode cX5_share 0 = .ok (.aload_n 0, 1) := by decide +kernel
theorem dX5_share_1 : decode cX5_share 1 = .ok (.getfield 19, 3) := by decide +kernel
theorem dX5_share_4 : decode cX5_share 4 = .ok (.iload_n 1, 1) := by decide +kernel
theorem dX5_share_5 : decode cX5_share 5 = .ok (.invokevirtual 98, 3) := by decide +kernel
theorem dX5_share_8 : decode cX5_share 8 = .ok (.ifCond .eq 14, 3) := by decide +kernel
theorem dX5_share_11 : decode cX5_share 11 = .ok (.aload_n 0, 1) := by decide +kernel
theorem dX5_share_12 : decode cX5_share 12 = .ok (.getfield 19, 3) := by decide +kernel
theorem dX5_share_15 : decode cX5_share 15 = .ok (.iload_n 2, 1) := by decide +kernel
theorem dX5_share_16 : decode cX5_share 16 = .ok (.invokevirtual 98, 3) := by decide +kernel
theorem dX5_share_19 : decode cX5_share 19 = .ok (.ifCond .ne 5, 3) := by decide +kernel
theorem dX5_share_22 : decode cX5_share 22 = .ok (.iconst (-1), 1) := by decide +kernel
theorem dX5_share_23 : decode cX5_share 23 = .ok (.ireturn, 1) := by decide +kernel
theorem dX5_share_24 : decode cX5_share 24 = .ok (.iload_n 3, 1) := by decide +kernel
theorem dX5_share_25 : decode cX5_share 25 = .ok (.iload 4, 2) := by decide +kernel
theorem dX5_share_27 : decode cX5_share 27 = .ok (.invokestatic 118, 3) := by decide +kernel
theorem dX5_share_30 : decode cX5_share 30 = .ok (.ifCond .ne 6, 3) := by decide +kernel
theorem dX5_share_33 : decode cX5_share 33 = .ok (.bipush (-2), 2) := by decide +kernel
theorem dX5_share_35 : decode cX5_share 35 = .ok (.ireturn, 1) := by decide +kernel
theorem dX5_share_36 : decode cX5_share 36 = .ok (.aload_n 0, 1) := by decide +kernel
theorem dX5_share_37 : decode cX5_share 37 = .ok (.getfield 37, 3) := by decide +kernel
theorem dX5_share_40 : decode cX5_share 40 = .ok (.iload_n 1, 1) := by decide +kernel
theorem dX5_share_41 : decode cX5_share 41 = .ok (.iload_n 3, 1) := by decide +kernel
theorem dX5_share_42 : decode cX5_share 42 = .ok (.iload 4, 2) := by decide +kernel
theorem dX5_share_44 : decode cX5_share 44 = .ok (.invokevirtual 162, 3) := by decide +kernel
theorem dX5_share_47 : decode cX5_share 47 = .ok (.aload_n 0, 1) := by decide +kernel
theorem dX5_share_48 : decode cX5_share 48 = .ok (.getfield 37, 3) := by decide +kernel
theorem dX5_share_51 : decode cX5_share 51 = .ok (.iload_n 2, 1) := by decide +kernel
theorem dX5_share_52 : decode cX5_share 52 = .ok (.iload_n 3, 1) := by decide +kernel
theorem dX5_share_53 : decode cX5_share 53 = .ok (.iload 4, 2) := by decide +kernel
theorem dX5_share_55 : decode cX5_share 55 = .ok (.invokevirtual 162, 3) := by decide +kernel
theorem dX5_share_58 : decode cX5_share 58 = .ok (.aload_n 0, 1) := by decide +kernel
theorem dX5_share_59 : decode cX5_share 59 = .ok (.getfield 37, 3) := by decide +kernel
theorem dX5_share_62 : decode cX5_share 62 = .ok (.iload_n 1, 1) := by decide +kernel
theorem dX5_share_63 : decode cX5_share 63 = .ok (.iload_n 2, 1) := by decide +kernel
theorem dX5_share_64 : decode cX5_share 64 = .ok (.invokevirtual 168, 3) := by decide +kernel
theorem dX5_share_67 : decode cX5_share 67 = .ok (.ireturn, 1) := by decide +kernel
theorem dX5_apart_0 : decode cX5_apart 0 = .ok (.aload_n 0, 1) := by decide +kernel
theorem dX5_apart_1 : decode cX5_apart 1 = .ok (.getfield 19, 3) := by decide +kernel
theorem dX5_apart_4 : decode cX5_apart 4 = .ok (.iload_n 1, 1) := by decide +kernel
theorem dX5_apart_5 : decode cX5_apart 5 = .ok (.invokevirtual 98, 3) := by decide +kernel
theorem dX5_apart_8 : decode cX5_apart 8 = .ok (.ifCond .eq 14, 3) := by decide +kernel
theorem dX5_apart_11 : decode cX5_apart 11 = .ok (.aload_n 0, 1) := by decide +kernel
theorem dX5_apart_12 : decode cX5_apart 12 = .ok (.getfield 19, 3) := by decide +kernel
theorem dX5_apart_15 : decode cX5_apart 15 = .ok (.iload_n 2, 1) := by decide +kernel
theorem dX5_apart_16 : decode cX5_apart 16 = .ok (.invokevirtual 98, 3) := by decide +kernel
theorem dX5_apart_19 : decode cX5_apart 19 = .ok (.ifCond .ne 5, 3) := by decide +kernel
theorem dX5_apart_22 : decode cX5_apart 22 = .ok (.iconst (-1), 1) := by decide +kernel
theorem dX5_apart_23 : decode cX5_apart 23 = .ok (.ireturn, 1) := by decide +kernel
theorem dX5_apart_24 : decode cX5_apart 24 = .ok (.iload_n 3, 1) := by decide +kernel
theorem dX5_apart_25 : decode cX5_apart 25 = .ok (.iload 4, 2) := by decide +kernel
theorem dX5_apart_27 : decode cX5_apart 27 = .ok (.invokestatic 118, 3) := by decide +kernel
theorem dX5_apart_30 : decode cX5_apart 30 = .ok (.ifCond .ne 6, 3) := by decide +kernel
theorem dX5_apart_33 : decode cX5_apart 33 = .ok (.bipush (-2), 2) := by decide +kernel
theorem dX5_apart_35 : decode cX5_apart 35 = .ok (.ireturn, 1) := by decide +kernel
theorem dX5_apart_36 : decode cX5_apart 36 = .ok (.aload_n 0, 1) := by decide +kernel
theorem dX5_apart_37 : decode cX5_apart 37 = .ok (.getfield 37, 3) := by decide +kernel
theorem dX5_apart_40 : decode cX5_apart 40 = .ok (.iload_n 1, 1) := by decide +kernel
theorem dX5_apart_41 : decode cX5_apart 41 = .ok (.iload_n 3, 1) := by decide +kernel
theorem dX5_apart_42 : decode cX5_apart 42 = .ok (.iload 4, 2) := by decide +kernel
theorem dX5_apart_44 : decode cX5_apart 44 = .ok (.invokevirtual 162, 3) := by decide +kernel
theorem dX5_apart_47 : decode cX5_apart 47 = .ok (.aload_n 0, 1) := by decide +kernel
theorem dX5_apart_48 : decode cX5_apart 48 = .ok (.getfield 37, 3) := by decide +kernel
theorem dX5_apart_51 : decode cX5_apart 51 = .ok (.iload_n 2, 1) := by decide +kernel
theorem dX5_apart_52 : decode cX5_apart 52 = .ok (.iload_n 3, 1) := by decide +kernel
theorem dX5_apart_53 : decode cX5_apart 53 = .ok (.iload 4, 2) := by decide +kernel
theorem dX5_apart_55 : decode cX5_apart 55 = .ok (.invokevirtual 162, 3) := by decide +kernel
theorem dX5_apart_58 : decode cX5_apart 58 = .ok (.aload_n 0, 1) := by decide +kernel
theorem dX5_apart_59 : decode cX5_apart 59 = .ok (.getfield 37, 3) := by decide +kernel
theorem dX5_apart_62 : decode cX5_apart 62 = .ok (.iload_n 1, 1) := by decide +kernel
theorem dX5_apart_63 : decode cX5_apart 63 = .ok (.iload_n 2, 1) := by decide +kernel
theorem dX5_apart_64 : decode cX5_apart 64 = .ok (.invokevirtual 171, 3) := by decide +kernel
theorem dX5_apart_67 : decode cX5_apart 67 = .ok (.ireturn, 1) := by decide +kernel
theorem dX5_tree_0 : decode cX5_tree 0 = .ok (.iload_n 1, 1) := by decide +kernel
theorem dX5_tree_1 : decode cX5_tree 1 = .ok (.iload_n 2, 1) := by decide +kernel
theorem dX5_tree_2 : decode cX5_tree 2 = .ok (.invokestatic 118, 3) := by decide +kernel
theorem dX5_tree_5 : decode cX5_tree 5 = .ok (.ifCond .ne 6, 3) := by decide +kernel
theorem dX5_tree_8 : decode cX5_tree 8 = .ok (.bipush (-2), 2) := by decide +kernel
theorem dX5_tree_10 : decode cX5_tree 10 = .ok (.ireturn, 1) := by decide +kernel
theorem dX5_tree_11 : decode cX5_tree 11 = .ok (.aload_n 0, 1) := by decide +kernel
theorem dX5_tree_12 : decode cX5_tree 12 = .ok (.getfield 37, 3) := by decide +kernel
theorem dX5_tree_15 : decode cX5_tree 15 = .ok (.iload_n 1, 1) := by decide +kernel
theorem dX5_tree_16 : decode cX5_tree 16 = .ok (.iload_n 2, 1) := by decide +kernel
theorem dX5_tree_17 : decode cX5_tree 17 = .ok (.invokevirtual 174, 3) := by decide +kernel
theorem dX5_tree_20 : decode cX5_tree 20 = .ok (.aload_n 0, 1) := by decide +kernel
theorem dX5_tree_21 : decode cX5_tree 21 = .ok (.getfield 37, 3) := by decide +kernel
theorem dX5_tree_24 : decode cX5_tree 24 = .ok (.getfield 178, 3) := by decide +kernel
theorem dX5_tree_27 : decode cX5_tree 27 = .ok (.ireturn, 1) := by decide +kernel
theorem dX5_row_0 : decode cX5_row 0 = .ok (.iload_n 2, 1) := by decide +kernel
theorem dX5_row_1 : decode cX5_row 1 = .ok (.iload_n 3, 1) := by decide +kernel
theorem dX5_row_2 : decode cX5_row 2 = .ok (.invokestatic 118, 3) := by decide +kernel
theorem dX5_row_5 : decode cX5_row 5 = .ok (.ifCond .ne 6, 3) := by decide +kernel
theorem dX5_row_8 : decode cX5_row 8 = .ok (.bipush (-2), 2) := by decide +kernel
theorem dX5_row_10 : decode cX5_row 10 = .ok (.ireturn, 1) := by decide +kernel
theorem dX5_row_11 : decode cX5_row 11 = .ok (.aload_n 0, 1) := by decide +kernel
theorem dX5_row_12 : decode cX5_row 12 = .ok (.getfield 37, 3) := by decide +kernel
theorem dX5_row_15 : decode cX5_row 15 = .ok (.iload_n 2, 1) := by decide +kernel
theorem dX5_row_16 : decode cX5_row 16 = .ok (.iload_n 3, 1) := by decide +kernel
theorem dX5_row_17 : decode cX5_row 17 = .ok (.invokevirtual 174, 3) := by decide +kernel
theorem dX5_row_20 : decode cX5_row 20 = .ok (.iload_n 1, 1) := by decide +kernel
theorem dX5_row_21 : decode cX5_row 21 = .ok (.iconst 0, 1) := by decide +kernel
theorem dX5_row_22 : decode cX5_row 22 = .ok (.aload_n 0, 1) := by decide +kernel
theorem dX5_row_23 : decode cX5_row 23 = .ok (.getfield 37, 3) := by decide +kernel
theorem dX5_row_26 : decode cX5_row 26 = .ok (.getfield 181, 3) := by decide +kernel
theorem dX5_row_29 : decode cX5_row 29 = .ok (.iconst 1, 1) := by decide +kernel
theorem dX5_row_30 : decode cX5_row 30 = .ok (.isub, 1) := by decide +kernel
theorem dX5_row_31 : decode cX5_row 31 = .ok (.invokestatic 49, 3) := by decide +kernel
theorem dX5_row_34 : decode cX5_row 34 = .ok (.ifCond .eq 15, 3) := by decide +kernel
theorem dX5_row_37 : decode cX5_row 37 = .ok (.aload_n 0, 1) := by decide +kernel
theorem dX5_row_38 : decode cX5_row 38 = .ok (.getfield 37, 3) := by decide +kernel
theorem dX5_row_41 : decode cX5_row 41 = .ok (.getfield 184, 3) := by decide +kernel
theorem dX5_row_44 : decode cX5_row 44 = .ok (.iload_n 1, 1) := by decide +kernel
theorem dX5_row_45 : decode cX5_row 45 = .ok (.iaload, 1) := by decide +kernel
theorem dX5_row_46 : decode cX5_row 46 = .ok (.goto 5, 3) := by decide +kernel
theorem dX5_row_49 : decode cX5_row 49 = .ok (.bipush (-9), 2) := by decide +kernel
theorem dX5_row_51 : decode cX5_row 51 = .ok (.ireturn, 1) := by decide +kernel
theorem dX5_count_0 : decode cX5_count 0 = .ok (.iload_n 1, 1) := by decide +kernel
theorem dX5_count_1 : decode cX5_count 1 = .ok (.tableswitch 63 0 3 #[31, 39, 47, 55], 31) := by decide +kernel
theorem dX5_count_32 : decode cX5_count 32 = .ok (.aload_n 0, 1) := by decide +kernel
theorem dX5_count_33 : decode cX5_count 33 = .ok (.getfield 10, 3) := by decide +kernel
theorem dX5_count_36 : decode cX5_count 36 = .ok (.getfield 53, 3) := by decide +kernel
theorem dX5_count_39 : decode cX5_count 39 = .ok (.ireturn, 1) := by decide +kernel
theorem dX5_count_40 : decode cX5_count 40 = .ok (.aload_n 0, 1) := by decide +kernel
theorem dX5_count_41 : decode cX5_count 41 = .ok (.getfield 19, 3) := by decide +kernel
theorem dX5_count_44 : decode cX5_count 44 = .ok (.getfield 93, 3) := by decide +kernel
theorem dX5_count_47 : decode cX5_count 47 = .ok (.ireturn, 1) := by decide +kernel
theorem dX5_count_48 : decode cX5_count 48 = .ok (.aload_n 0, 1) := by decide +kernel
theorem dX5_count_49 : decode cX5_count 49 = .ok (.getfield 19, 3) := by decide +kernel
theorem dX5_count_52 : decode cX5_count 52 = .ok (.invokevirtual 187, 3) := by decide +kernel
theorem dX5_count_55 : decode cX5_count 55 = .ok (.ireturn, 1) := by decide +kernel
theorem dX5_count_56 : decode cX5_count 56 = .ok (.aload_n 0, 1) := by decide +kernel
theorem dX5_count_57 : decode cX5_count 57 = .ok (.getfield 10, 3) := by decide +kernel
theorem dX5_count_60 : decode cX5_count 60 = .ok (.invokevirtual 190, 3) := by decide +kernel
theorem dX5_count_63 : decode cX5_count 63 = .ok (.ireturn, 1) := by decide +kernel
theorem dX5_count_64 : decode cX5_count 64 = .ok (.bipush (-2), 2) := by decide +kernel
theorem dX5_count_66 : decode cX5_count 66 = .ok (.ireturn, 1) := by decide +kernel
theorem dX5_isWithin_0 : decode cX5_isWithin 0 = .ok (.iload_n 0, 1) := by decide +kernel
theorem dX5_isWithin_1 : decode cX5_isWithin 1 = .ok (.iload_n 1, 1) := by decide +kernel
theorem dX5_isWithin_2 : decode cX5_isWithin 2 = .ok (.if_icmp .lt 12, 3) := by decide +kernel
theorem dX5_isWithin_5 : decode cX5_isWithin 5 = .ok (.iload_n 0, 1) := by decide +kernel
theorem dX5_isWithin_6 : decode cX5_isWithin 6 = .ok (.iload_n 2, 1) := by decide +kernel
theorem dX5_isWithin_7 : decode cX5_isWithin 7 = .ok (.if_icmp .gt 7, 3) := by decide +kernel
theorem dX5_isWithin_10 : decode cX5_isWithin 10 = .ok (.iconst 1, 1) := by decide +kernel
theorem dX5_isWithin_11 : decode cX5_isWithin 11 = .ok (.goto 4, 3) := by decide +kernel
theorem dX5_isWithin_14 : decode cX5_isWithin 14 = .ok (.iconst 0, 1) := by decide +kernel
theorem dX5_isWithin_15 : decode cX5_isWithin 15 = .ok (.ireturn, 1) := by decide +kernel
theorem dX5_isLong_0 : decode cX5_isLong 0 = .ok (.iload_n 0, 1) := by decide +kernel
theorem dX5_isLong_1 : decode cX5_isLong 1 = .ok (.iconst 0, 1) := by decide +kernel
theorem dX5_isLong_2 : decode cX5_isLong 2 = .ok (.sipush 21599, 3) := by decide +kernel
theorem dX5_isLong_5 : decode cX5_isLong 5 = .ok (.invokestatic 49, 3) := by decide +kernel
theorem dX5_isLong_8 : decode cX5_isLong 8 = .ok (.ireturn, 1) := by decide +kernel
theorem dX5_isPlace_0 : decode cX5_isPlace 0 = .ok (.iload_n 0, 1) := by decide +kernel
theorem dX5_isPlace_1 : decode cX5_isPlace 1 = .ok (.invokestatic 87, 3) := by decide +kernel
theorem dX5_isPlace_4 : decode cX5_isPlace 4 = .ok (.ifCond .eq 20, 3) := by decide +kernel
theorem dX5_isPlace_7 : decode cX5_isPlace 7 = .ok (.iload_n 1, 1) := by decide +kernel
theorem dX5_isPlace_8 : decode cX5_isPlace 8 = .ok (.sipush (-5400), 3) := by decide +kernel
theorem dX5_isPlace_11 : decode cX5_isPlace 11 = .ok (.sipush 5400, 3) := by decide +kernel
theorem dX5_isPlace_14 : decode cX5_isPlace 14 = .ok (.invokestatic 49, 3) := by decide +kernel
theorem dX5_isPlace_17 : decode cX5_isPlace 17 = .ok (.ifCond .eq 7, 3) := by decide +kernel
theorem dX5_isPlace_20 : decode cX5_isPlace 20 = .ok (.iconst 1, 1) := by decide +kernel
theorem dX5_isPlace_21 : decode cX5_isPlace 21 = .ok (.goto 4, 3) := by decide +kernel
theorem dX5_isPlace_24 : decode cX5_isPlace 24 = .ok (.iconst 0, 1) := by decide +kernel
theorem dX5_isPlace_25 : decode cX5_isPlace 25 = .ok (.ireturn, 1) := by decide +kernel
theorem dX5_isYear_0 : decode cX5_isYear 0 = .ok (.iload_n 0, 1) := by decide +kernel
theorem dX5_isYear_1 : decode cX5_isYear 1 = .ok (.sipush (-3000), 3) := by decide +kernel
theorem dX5_isYear_4 : decode cX5_isYear 4 = .ok (.sipush 3000, 3) := by decide +kernel
theorem dX5_isYear_7 : decode cX5_isYear 7 = .ok (.invokestatic 49, 3) := by decide +kernel
theorem dX5_isYear_10 : decode cX5_isYear 10 = .ok (.ireturn, 1) := by decide +kernel
theorem dX5_isShift_0 : decode cX5_isShift 0 = .ok (.iload_n 0, 1) := by decide +kernel
theorem dX5_isShift_1 : decode cX5_isShift 1 = .ok (.sipush (-600), 3) := by decide +kernel
theorem dX5_isShift_4 : decode cX5_isShift 4 = .ok (.sipush 600, 3) := by decide +kernel
theorem dX5_isShift_7 : decode cX5_isShift 7 = .ok (.invokestatic 49, 3) := by decide +kernel
theorem dX5_isShift_10 : decode cX5_isShift 10 = .ok (.ireturn, 1) := by decide +kernel
theorem dX5_isMoment_0 : decode cX5_isMoment 0 = .ok (.iload_n 0, 1) := by decide +kernel
theorem dX5_isMoment_1 : decode cX5_isMoment 1 = .ok (.invokestatic 65, 3) := by decide +kernel
theorem dX5_isMoment_4 : decode cX5_isMoment 4 = .ok (.ifCond .eq 14, 3) := by decide +kernel
theorem dX5_isMoment_7 : decode cX5_isMoment 7 = .ok (.iload_n 1, 1) := by decide +kernel
theorem dX5_isMoment_8 : decode cX5_isMoment 8 = .ok (.invokestatic 193, 3) := by decide +kernel
theorem dX5_isMoment_11 : decode cX5_isMoment 11 = .ok (.ifCond .eq 7, 3) := by decide +kernel
theorem dX5_isMoment_14 : decode cX5_isMoment 14 = .ok (.iconst 1, 1) := by decide +kernel
theorem dX5_isMoment_15 : decode cX5_isMoment 15 = .ok (.goto 4, 3) := by decide +kernel
theorem dX5_isMoment_18 : decode cX5_isMoment 18 = .ok (.iconst 0, 1) := by decide +kernel
theorem dX5_isMoment_19 : decode cX5_isMoment 19 = .ok (.ireturn, 1) := by decide +kernel
theorem dX5_areYears_0 : decode cX5_areYears 0 = .ok (.iload_n 0, 1) := by decide +kernel
theorem dX5_areYears_1 : decode cX5_areYears 1 = .ok (.invokestatic 193, 3) := by decide +kernel
theorem dX5_areYears_4 : decode cX5_areYears 4 = .ok (.ifCond .eq 17, 3) := by decide +kernel
theorem dX5_areYears_7 : decode cX5_areYears 7 = .ok (.iload_n 1, 1) := by decide +kernel
theorem dX5_areYears_8 : decode cX5_areYears 8 = .ok (.invokestatic 65, 3) := by decide +kernel
theorem dX5_areYears_11 : decode cX5_areYears 11 = .ok (.ifCond .eq 10, 3) := by decide +kernel
theorem dX5_areYears_14 : decode cX5_areYears 14 = .ok (.iload_n 2, 1) := by decide +kernel
theorem dX5_areYears_15 : decode cX5_areYears 15 = .ok (.invokestatic 65, 3) := by decide +kernel
theorem dX5_areYears_18 : decode cX5_areYears 18 = .ok (.ifCond .ne 5, 3) := by decide +kernel
theorem dX5_areYears_21 : decode cX5_areYears 21 = .ok (.iconst 0, 1) := by decide +kernel
theorem dX5_areYears_22 : decode cX5_areYears 22 = .ok (.ireturn, 1) := by decide +kernel
theorem dX5_areYears_23 : decode cX5_areYears 23 = .ok (.iload_n 2, 1) := by decide +kernel
theorem dX5_areYears_24 : decode cX5_areYears 24 = .ok (.iload_n 1, 1) := by decide +kernel
theorem dX5_areYears_25 : decode cX5_areYears 25 = .ok (.if_icmp .lt 17, 3) := by decide +kernel
theorem dX5_areYears_28 : decode cX5_areYears 28 = .ok (.iload_n 1, 1) := by decide +kernel
theorem dX5_areYears_29 : decode cX5_areYears 29 = .ok (.iload_n 2, 1) := by decide +kernel
theorem dX5_areYears_30 : decode cX5_areYears 30 = .ok (.invokestatic 196, 3) := by decide +kernel
theorem dX5_areYears_33 : decode cX5_areYears 33 = .ok (.bipush 41, 2) := by decide +kernel
theorem dX5_areYears_35 : decode cX5_areYears 35 = .ok (.if_icmp .gt 7, 3) := by decide +kernel
theorem dX5_areYears_38 : decode cX5_areYears 38 = .ok (.iconst 1, 1) := by decide +kernel
theorem dX5_areYears_39 : decode cX5_areYears 39 = .ok (.goto 4, 3) := by decide +kernel
theorem dX5_areYears_42 : decode cX5_areYears 42 = .ok (.iconst 0, 1) := by decide +kernel
theorem dX5_areYears_43 : decode cX5_areYears 43 = .ok (.ireturn, 1) := by decide +kernel
theorem dX5_yearsBetween_0 : decode cX5_yearsBetween 0 = .ok (.iload_n 1, 1) := by decide +kernel
theorem dX5_yearsBetween_1 : decode cX5_yearsBetween 1 = .ok (.iload_n 0, 1) := by decide +kernel
theorem dX5_yearsBetween_2 : decode cX5_yearsBetween 2 = .ok (.isub, 1) := by decide +kernel
theorem dX5_yearsBetween_3 : decode cX5_yearsBetween 3 = .ok (.bipush 10, 2) := by decide +kernel
theorem dX5_yearsBetween_5 : decode cX5_yearsBetween 5 = .ok (.idiv, 1) := by decide +kernel
theorem dX5_yearsBetween_6 : decode cX5_yearsBetween 6 = .ok (.iconst 1, 1) := by decide +kernel
theorem dX5_yearsBetween_7 : decode cX5_yearsBetween 7 = .ok (.iadd, 1) := by decide +kernel
theorem dX5_yearsBetween_8 : decode cX5_yearsBetween 8 = .ok (.ireturn, 1) := by decide +kernel
theorem dX5_weighYears_0 : decode cX5_weighYears 0 = .ok (.iload_n 3, 1) := by decide +kernel
theorem dX5_weighYears_1 : decode cX5_weighYears 1 = .ok (.iload 4, 2) := by decide +kernel
theorem dX5_weighYears_3 : decode cX5_weighYears 3 = .ok (.invokestatic 196, 3) := by decide +kernel
theorem dX5_weighYears_6 : decode cX5_weighYears 6 = .ok (.bipush 41, 2) := by decide +kernel
theorem dX5_weighYears_8 : decode cX5_weighYears 8 = .ok (.invokestatic 151, 3) := by decide +kernel
theorem dX5_weighYears_11 : decode cX5_weighYears 11 = .ok (.istore 5, 2) := by decide +kernel
theorem dX5_weighYears_13 : decode cX5_weighYears 13 = .ok (.iconst 0, 1) := by decide +kernel
theorem dX5_weighYears_14 : decode cX5_weighYears 14 = .ok (.istore 6, 2) := by decide +kernel
theorem dX5_weighYears_16 : decode cX5_weighYears 16 = .ok (.iload 6, 2) := by decide +kernel
theorem dX5_weighYears_18 : decode cX5_weighYears 18 = .ok (.iload 5, 2) := by decide +kernel
theorem dX5_weighYears_20 : decode cX5_weighYears 20 = .ok (.if_icmp .ge 39, 3) := by decide +kernel
theorem dX5_weighYears_23 : decode cX5_weighYears 23 = .ok (.aload_n 0, 1) := by decide +kernel
theorem dX5_weighYears_24 : decode cX5_weighYears 24 = .ok (.getfield 28, 3) := by decide +kernel
theorem dX5_weighYears_27 : decode cX5_weighYears 27 = .ok (.iload_n 1, 1) := by decide +kernel
theorem dX5_weighYears_28 : decode cX5_weighYears 28 = .ok (.iload_n 3, 1) := by decide +kernel
theorem dX5_weighYears_29 : decode cX5_weighYears 29 = .ok (.bipush 10, 2) := by decide +kernel
theorem dX5_weighYears_31 : decode cX5_weighYears 31 = .ok (.iload 6, 2) := by decide +kernel
theorem dX5_weighYears_33 : decode cX5_weighYears 33 = .ok (.imul, 1) := by decide +kernel
theorem dX5_weighYears_34 : decode cX5_weighYears 34 = .ok (.iadd, 1) := by decide +kernel
theorem dX5_weighYears_35 : decode cX5_weighYears 35 = .ok (.iload_n 2, 1) := by decide +kernel
theorem dX5_weighYears_36 : decode cX5_weighYears 36 = .ok (.invokevirtual 135, 3) := by decide +kernel
theorem dX5_weighYears_39 : decode cX5_weighYears 39 = .ok (.aload_n 0, 1) := by decide +kernel
theorem dX5_weighYears_40 : decode cX5_weighYears 40 = .ok (.getfield 41, 3) := by decide +kernel
theorem dX5_weighYears_43 : decode cX5_weighYears 43 = .ok (.iload 6, 2) := by decide +kernel
theorem dX5_weighYears_45 : decode cX5_weighYears 45 = .ok (.aload_n 0, 1) := by decide +kernel
theorem dX5_weighYears_46 : decode cX5_weighYears 46 = .ok (.getfield 28, 3) := by decide +kernel
theorem dX5_weighYears_49 : decode cX5_weighYears 49 = .ok (.getfield 139, 3) := by decide +kernel
end
section
theorem dX5_weighYears_52 : decode cX5_weighYears 52 = .ok (.iastore, 1) := by decide +kernel
theorem dX5_weighYears_53 : decode cX5_weighYears 53 = .ok (.iinc 6 1, 3) := by decide +kernel
theorem dX5_weighYears_56 : decode cX5_weighYears 56 = .ok (.goto (-40), 3) := by decide +kernel
theorem dX5_weighYears_59 : decode cX5_weighYears 59 = .ok (.iload 5, 2) := by decide +kernel
theorem dX5_weighYears_61 : decode cX5_weighYears 61 = .ok (.ireturn, 1) := by decide +kernel
theorem dX5_leads_0 : decode cX5_leads 0 = .ok (.iload_n 1, 1) := by decide +kernel
theorem dX5_leads_1 : decode cX5_leads 1 = .ok (.iload_n 0, 1) := by decide +kernel
theorem dX5_leads_2 : decode cX5_leads 2 = .ok (.isub, 1) := by decide +kernel
theorem dX5_leads_3 : decode cX5_leads 3 = .ok (.sipush 10800, 3) := by decide +kernel
theorem dX5_leads_6 : decode cX5_leads 6 = .ok (.iadd, 1) := by decide +kernel
theorem dX5_leads_7 : decode cX5_leads 7 = .ok (.sipush 21600, 3) := by decide +kernel
theorem dX5_leads_10 : decode cX5_leads 10 = .ok (.invokestatic 199, 3) := by decide +kernel
theorem dX5_leads_13 : decode cX5_leads 13 = .ok (.sipush 10800, 3) := by decide +kernel
theorem dX5_leads_16 : decode cX5_leads 16 = .ok (.isub, 1) := by decide +kernel
theorem dX5_leads_17 : decode cX5_leads 17 = .ok (.ireturn, 1) := by decide +kernel
theorem dX6_init_0 : decode cX6_init 0 = .ok (.aload_n 0, 1) := by decide +kernel
theorem dX6_init_1 : decode cX6_init 1 = .ok (.invokespecial 1, 3) := by decide +kernel
theorem dX6_init_4 : decode cX6_init 4 = .ok (.aload_n 0, 1) := by decide +kernel
theorem dX6_init_5 : decode cX6_init 5 = .ok (.bipush 8, 2) := by decide +kernel
theorem dX6_init_7 : decode cX6_init 7 = .ok (.newarray .int, 2) := by decide +kernel
theorem dX6_init_9 : decode cX6_init 9 = .ok (.putfield 7, 3) := by decide +kernel
theorem dX6_init_12 : decode cX6_init 12 = .ok (.aload_n 0, 1) := by decide +kernel
theorem dX6_init_13 : decode cX6_init 13 = .ok (.bipush 8, 2) := by decide +kernel
theorem dX6_init_15 : decode cX6_init 15 = .ok (.newarray .int, 2) := by decide +kernel
theorem dX6_init_17 : decode cX6_init 17 = .ok (.putfield 13, 3) := by decide +kernel
theorem dX6_init_20 : decode cX6_init 20 = .ok (.aload_n 0, 1) := by decide +kernel
theorem dX6_init_21 : decode cX6_init 21 = .ok (.bipush 8, 2) := by decide +kernel
theorem dX6_init_23 : decode cX6_init 23 = .ok (.newarray .int, 2) := by decide +kernel
theorem dX6_init_25 : decode cX6_init 25 = .ok (.putfield 16, 3) := by decide +kernel
theorem dX6_init_28 : decode cX6_init 28 = .ok (.aload_n 0, 1) := by decide +kernel
theorem dX6_init_29 : decode cX6_init 29 = .ok (.bipush 8, 2) := by decide +kernel
theorem dX6_init_31 : decode cX6_init 31 = .ok (.newarray .int, 2) := by decide +kernel
theorem dX6_init_33 : decode cX6_init 33 = .ok (.putfield 19, 3) := by decide +kernel
theorem dX6_init_36 : decode cX6_init 36 = .ok (.aload_n 0, 1) := by decide +kernel
theorem dX6_init_37 : decode cX6_init 37 = .ok (.bipush 6, 2) := by decide +kernel
theorem dX6_init_39 : decode cX6_init 39 = .ok (.putfield 22, 3) := by decide +kernel
theorem dX6_init_42 : decode cX6_init 42 = .ok (.aload_n 0, 1) := by decide +kernel
theorem dX6_init_43 : decode cX6_init 43 = .ok (.bipush 6, 2) := by decide +kernel
theorem dX6_init_45 : decode cX6_init 45 = .ok (.newarray .int, 2) := by decide +kernel
theorem dX6_init_47 : decode cX6_init 47 = .ok (.putfield 26, 3) := by decide +kernel
theorem dX6_init_50 : decode cX6_init 50 = .ok (.aload_n 0, 1) := by decide +kernel
theorem dX6_init_51 : decode cX6_init 51 = .ok (.bipush 48, 2) := by decide +kernel
theorem dX6_init_53 : decode cX6_init 53 = .ok (.newarray .int, 2) := by decide +kernel
theorem dX6_init_55 : decode cX6_init 55 = .ok (.putfield 29, 3) := by decide +kernel
theorem dX6_init_58 : decode cX6_init 58 = .ok (.aload_n 0, 1) := by decide +kernel
theorem dX6_init_59 : decode cX6_init 59 = .ok (.bipush 48, 2) := by decide +kernel
theorem dX6_init_61 : decode cX6_init 61 = .ok (.newarray .int, 2) := by decide +kernel
theorem dX6_init_63 : decode cX6_init 63 = .ok (.putfield 32, 3) := by decide +kernel
theorem dX6_init_66 : decode cX6_init 66 = .ok (.aload_n 0, 1) := by decide +kernel
theorem dX6_init_67 : decode cX6_init 67 = .ok (.sipush 2304, 3) := by decide +kernel
theorem dX6_init_70 : decode cX6_init 70 = .ok (.newarray .int, 2) := by decide +kernel
theorem dX6_init_72 : decode cX6_init 72 = .ok (.putfield 35, 3) := by decide +kernel
theorem dX6_init_75 : decode cX6_init 75 = .ok (.aload_n 0, 1) := by decide +kernel
theorem dX6_init_76 : decode cX6_init 76 = .ok (.bipush 64, 2) := by decide +kernel
theorem dX6_init_78 : decode cX6_init 78 = .ok (.newarray .int, 2) := by decide +kernel
theorem dX6_init_80 : decode cX6_init 80 = .ok (.putfield 38, 3) := by decide +kernel
theorem dX6_init_83 : decode cX6_init 83 = .ok (.aload_n 0, 1) := by decide +kernel
theorem dX6_init_84 : decode cX6_init 84 = .ok (.bipush 64, 2) := by decide +kernel
theorem dX6_init_86 : decode cX6_init 86 = .ok (.newarray .int, 2) := by decide +kernel
theorem dX6_init_88 : decode cX6_init 88 = .ok (.putfield 41, 3) := by decide +kernel
theorem dX6_init_91 : decode cX6_init 91 = .ok (.aload_n 0, 1) := by decide +kernel
theorem dX6_init_92 : decode cX6_init 92 = .ok (.bipush 8, 2) := by decide +kernel
theorem dX6_init_94 : decode cX6_init 94 = .ok (.newarray .int, 2) := by decide +kernel
theorem dX6_init_96 : decode cX6_init 96 = .ok (.putfield 44, 3) := by decide +kernel
theorem dX6_init_99 : decode cX6_init 99 = .ok (.aload_n 0, 1) := by decide +kernel
theorem dX6_init_100 : decode cX6_init 100 = .ok (.bipush 8, 2) := by decide +kernel
theorem dX6_init_102 : decode cX6_init 102 = .ok (.newarray .int, 2) := by decide +kernel
theorem dX6_init_104 : decode cX6_init 104 = .ok (.putfield 47, 3) := by decide +kernel
theorem dX6_init_107 : decode cX6_init 107 = .ok (.aload_n 0, 1) := by decide +kernel
theorem dX6_init_108 : decode cX6_init 108 = .ok (.bipush 48, 2) := by decide +kernel
theorem dX6_init_110 : decode cX6_init 110 = .ok (.newarray .int, 2) := by decide +kernel
theorem dX6_init_112 : decode cX6_init 112 = .ok (.putfield 50, 3) := by decide +kernel
theorem dX6_init_115 : decode cX6_init 115 = .ok (.aload_n 0, 1) := by decide +kernel
theorem dX6_init_116 : decode cX6_init 116 = .ok (.bipush 6, 2) := by decide +kernel
theorem dX6_init_118 : decode cX6_init 118 = .ok (.newarray .int, 2) := by decide +kernel
theorem dX6_init_120 : decode cX6_init 120 = .ok (.putfield 53, 3) := by decide +kernel
theorem dX6_init_123 : decode cX6_init 123 = .ok (.aload_n 0, 1) := by decide +kernel
theorem dX6_init_124 : decode cX6_init 124 = .ok (.iconst 5, 1) := by decide +kernel
theorem dX6_init_125 : decode cX6_init 125 = .ok (.newarray .int, 2) := by decide +kernel
theorem dX6_init_127 : decode cX6_init 127 = .ok (.putfield 56, 3) := by decide +kernel
theorem dX6_init_130 : decode cX6_init 130 = .ok (.return_, 1) := by decide +kernel
theorem dX6_in_0 : decode cX6_in 0 = .ok (.iload_n 0, 1) := by decide +kernel
theorem dX6_in_1 : decode cX6_in 1 = .ok (.iload_n 1, 1) := by decide +kernel
theorem dX6_in_2 : decode cX6_in 2 = .ok (.if_icmp .lt 12, 3) := by decide +kernel
theorem dX6_in_5 : decode cX6_in 5 = .ok (.iload_n 0, 1) := by decide +kernel
theorem dX6_in_6 : decode cX6_in 6 = .ok (.iload_n 2, 1) := by decide +kernel
theorem dX6_in_7 : decode cX6_in 7 = .ok (.if_icmp .gt 7, 3) := by decide +kernel
theorem dX6_in_10 : decode cX6_in 10 = .ok (.iconst 1, 1) := by decide +kernel
theorem dX6_in_11 : decode cX6_in 11 = .ok (.goto 4, 3) := by decide +kernel
theorem dX6_in_14 : decode cX6_in 14 = .ok (.iconst 0, 1) := by decide +kernel
theorem dX6_in_15 : decode cX6_in 15 = .ok (.ireturn, 1) := by decide +kernel
theorem dX6_size_0 : decode cX6_size 0 = .ok (.iload_n 0, 1) := by decide +kernel
theorem dX6_size_1 : decode cX6_size 1 = .ok (.ifCond .ge 8, 3) := by decide +kernel
theorem dX6_size_4 : decode cX6_size 4 = .ok (.iload_n 0, 1) := by decide +kernel
theorem dX6_size_5 : decode cX6_size 5 = .ok (.ineg, 1) := by decide +kernel
theorem dX6_size_6 : decode cX6_size 6 = .ok (.goto 4, 3) := by decide +kernel
theorem dX6_size_9 : decode cX6_size 9 = .ok (.iload_n 0, 1) := by decide +kernel
theorem dX6_size_10 : decode cX6_size 10 = .ok (.ireturn, 1) := by decide +kernel
theorem dX6_isLong_0 : decode cX6_isLong 0 = .ok (.iload_n 0, 1) := by decide +kernel
theorem dX6_isLong_1 : decode cX6_isLong 1 = .ok (.iconst 0, 1) := by decide +kernel
theorem dX6_isLong_2 : decode cX6_isLong 2 = .ok (.sipush 21599, 3) := by decide +kernel
theorem dX6_isLong_5 : decode cX6_isLong 5 = .ok (.invokestatic 59, 3) := by decide +kernel
theorem dX6_isLong_8 : decode cX6_isLong 8 = .ok (.ireturn, 1) := by decide +kernel
theorem dX6_isWide_0 : decode cX6_isWide 0 = .ok (.iload_n 0, 1) := by decide +kernel
theorem dX6_isWide_1 : decode cX6_isWide 1 = .ok (.sipush (-5400), 3) := by decide +kernel
theorem dX6_isWide_4 : decode cX6_isWide 4 = .ok (.sipush 5400, 3) := by decide +kernel
theorem dX6_isWide_7 : decode cX6_isWide 7 = .ok (.invokestatic 59, 3) := by decide +kernel
theorem dX6_isWide_10 : decode cX6_isWide 10 = .ok (.ireturn, 1) := by decide +kernel
theorem dX6_isYear_0 : decode cX6_isYear 0 = .ok (.iload_n 0, 1) := by decide +kernel
theorem dX6_isYear_1 : decode cX6_isYear 1 = .ok (.sipush (-3000), 3) := by decide +kernel
theorem dX6_isYear_4 : decode cX6_isYear 4 = .ok (.sipush 3000, 3) := by decide +kernel
theorem dX6_isYear_7 : decode cX6_isYear 7 = .ok (.invokestatic 59, 3) := by decide +kernel
theorem dX6_isYear_10 : decode cX6_isYear 10 = .ok (.ireturn, 1) := by decide +kernel
theorem dX6_isShift_0 : decode cX6_isShift 0 = .ok (.iload_n 0, 1) := by decide +kernel
theorem dX6_isShift_1 : decode cX6_isShift 1 = .ok (.sipush (-600), 3) := by decide +kernel
theorem dX6_isShift_4 : decode cX6_isShift 4 = .ok (.sipush 600, 3) := by decide +kernel
theorem dX6_isShift_7 : decode cX6_isShift 7 = .ok (.invokestatic 59, 3) := by decide +kernel
theorem dX6_isShift_10 : decode cX6_isShift 10 = .ok (.ireturn, 1) := by decide +kernel
theorem dX6_isStar_0 : decode cX6_isStar 0 = .ok (.iload_n 1, 1) := by decide +kernel
theorem dX6_isStar_1 : decode cX6_isStar 1 = .ok (.iconst 0, 1) := by decide +kernel
theorem dX6_isStar_2 : decode cX6_isStar 2 = .ok (.aload_n 0, 1) := by decide +kernel
theorem dX6_isStar_3 : decode cX6_isStar 3 = .ok (.getfield 63, 3) := by decide +kernel
theorem dX6_isStar_6 : decode cX6_isStar 6 = .ok (.iconst 1, 1) := by decide +kernel
theorem dX6_isStar_7 : decode cX6_isStar 7 = .ok (.isub, 1) := by decide +kernel
theorem dX6_isStar_8 : decode cX6_isStar 8 = .ok (.invokestatic 59, 3) := by decide +kernel
theorem dX6_isStar_11 : decode cX6_isStar 11 = .ok (.ireturn, 1) := by decide +kernel
theorem dX6_isList_0 : decode cX6_isList 0 = .ok (.iload_n 1, 1) := by decide +kernel
theorem dX6_isList_1 : decode cX6_isList 1 = .ok (.iconst 0, 1) := by decide +kernel
theorem dX6_isList_2 : decode cX6_isList 2 = .ok (.aload_n 0, 1) := by decide +kernel
theorem dX6_isList_3 : decode cX6_isList 3 = .ok (.getfield 66, 3) := by decide +kernel
theorem dX6_isList_6 : decode cX6_isList 6 = .ok (.iconst 1, 1) := by decide +kernel
theorem dX6_isList_7 : decode cX6_isList 7 = .ok (.isub, 1) := by decide +kernel
theorem dX6_isList_8 : decode cX6_isList 8 = .ok (.invokestatic 59, 3) := by decide +kernel
theorem dX6_isList_11 : decode cX6_isList 11 = .ok (.ireturn, 1) := by decide +kernel
theorem dX6_isLine_0 : decode cX6_isLine 0 = .ok (.aload_n 0, 1) := by decide +kernel
theorem dX6_isLine_1 : decode cX6_isLine 1 = .ok (.iload_n 1, 1) := by decide +kernel
theorem dX6_isLine_2 : decode cX6_isLine 2 = .ok (.invokevirtual 69, 3) := by decide +kernel
theorem dX6_isLine_5 : decode cX6_isLine 5 = .ok (.ifCond .eq 23, 3) := by decide +kernel
theorem dX6_isLine_8 : decode cX6_isLine 8 = .ok (.iload_n 2, 1) := by decide +kernel
theorem dX6_isLine_9 : decode cX6_isLine 9 = .ok (.iconst 0, 1) := by decide +kernel
theorem dX6_isLine_10 : decode cX6_isLine 10 = .ok (.aload_n 0, 1) := by decide +kernel
theorem dX6_isLine_11 : decode cX6_isLine 11 = .ok (.getfield 26, 3) := by decide +kernel
theorem dX6_isLine_14 : decode cX6_isLine 14 = .ok (.iload_n 1, 1) := by decide +kernel
theorem dX6_isLine_15 : decode cX6_isLine 15 = .ok (.iaload, 1) := by decide +kernel
theorem dX6_isLine_16 : decode cX6_isLine 16 = .ok (.iconst 1, 1) := by decide +kernel
theorem dX6_isLine_17 : decode cX6_isLine 17 = .ok (.isub, 1) := by decide +kernel
theorem dX6_isLine_18 : decode cX6_isLine 18 = .ok (.invokestatic 59, 3) := by decide +kernel
theorem dX6_isLine_21 : decode cX6_isLine 21 = .ok (.ifCond .eq 7, 3) := by decide +kernel
theorem dX6_isLine_24 : decode cX6_isLine 24 = .ok (.iconst 1, 1) := by decide +kernel
theorem dX6_isLine_25 : decode cX6_isLine 25 = .ok (.goto 4, 3) := by decide +kernel
theorem dX6_isLine_28 : decode cX6_isLine 28 = .ok (.iconst 0, 1) := by decide +kernel
theorem dX6_isLine_29 : decode cX6_isLine 29 = .ok (.ireturn, 1) := by decide +kernel
theorem dX6_star_0 : decode cX6_star 0 = .ok (.iload_n 1, 1) := by decide +kernel
theorem dX6_star_1 : decode cX6_star 1 = .ok (.invokestatic 73, 3) := by decide +kernel
theorem dX6_star_4 : decode cX6_star 4 = .ok (.ifCond .eq 32, 3) := by decide +kernel
theorem dX6_star_7 : decode cX6_star 7 = .ok (.iload_n 2, 1) := by decide +kernel
theorem dX6_star_8 : decode cX6_star 8 = .ok (.invokestatic 76, 3) := by decide +kernel
theorem dX6_star_11 : decode cX6_star 11 = .ok (.ifCond .eq 25, 3) := by decide +kernel
theorem dX6_star_14 : decode cX6_star 14 = .ok (.iload_n 3, 1) := by decide +kernel
theorem dX6_star_15 : decode cX6_star 15 = .ok (.bipush (-50), 2) := by decide +kernel
theorem dX6_star_17 : decode cX6_star 17 = .ok (.bipush 50, 2) := by decide +kernel
theorem dX6_star_19 : decode cX6_star 19 = .ok (.invokestatic 59, 3) := by decide +kernel
theorem dX6_star_22 : decode cX6_star 22 = .ok (.ifCond .eq 14, 3) := by decide +kernel
theorem dX6_star_25 : decode cX6_star 25 = .ok (.iload 4, 2) := by decide +kernel
theorem dX6_star_27 : decode cX6_star 27 = .ok (.iconst 0, 1) := by decide +kernel
theorem dX6_star_28 : decode cX6_star 28 = .ok (.bipush 6, 2) := by decide +kernel
theorem dX6_star_30 : decode cX6_star 30 = .ok (.invokestatic 59, 3) := by decide +kernel
theorem dX6_star_33 : decode cX6_star 33 = .ok (.ifCond .ne 6, 3) := by decide +kernel
theorem dX6_star_36 : decode cX6_star 36 = .ok (.bipush (-2), 2) := by decide +kernel
theorem dX6_star_38 : decode cX6_star 38 = .ok (.ireturn, 1) := by decide +kernel
theorem dX6_star_39 : decode cX6_star 39 = .ok (.aload_n 0, 1) := by decide +kernel
theorem dX6_star_40 : decode cX6_star 40 = .ok (.getfield 63, 3) := by decide +kernel
theorem dX6_star_43 : decode cX6_star 43 = .ok (.bipush 8, 2) := by decide +kernel
theorem dX6_star_45 : decode cX6_star 45 = .ok (.if_icmp .ne 6, 3) := by decide +kernel
theorem dX6_star_48 : decode cX6_star 48 = .ok (.bipush (-4), 2) := by decide +kernel
theorem dX6_star_50 : decode cX6_star 50 = .ok (.ireturn, 1) := by decide +kernel
theorem dX6_star_51 : decode cX6_star 51 = .ok (.aload_n 0, 1) := by decide +kernel
theorem dX6_star_52 : decode cX6_star 52 = .ok (.getfield 7, 3) := by decide +kernel
theorem dX6_star_55 : decode cX6_star 55 = .ok (.aload_n 0, 1) := by decide +kernel
theorem dX6_star_56 : decode cX6_star 56 = .ok (.getfield 63, 3) := by decide +kernel
theorem dX6_star_59 : decode cX6_star 59 = .ok (.iload_n 1, 1) := by decide +kernel
theorem dX6_star_60 : decode cX6_star 60 = .ok (.iastore, 1) := by decide +kernel
theorem dX6_star_61 : decode cX6_star 61 = .ok (.aload_n 0, 1) := by decide +kernel
theorem dX6_star_62 : decode cX6_star 62 = .ok (.getfield 13, 3) := by decide +kernel
theorem dX6_star_65 : decode cX6_star 65 = .ok (.aload_n 0, 1) := by decide +kernel
theorem dX6_star_66 : decode cX6_star 66 = .ok (.getfield 63, 3) := by decide +kernel
theorem dX6_star_69 : decode cX6_star 69 = .ok (.iload_n 2, 1) := by decide +kernel
theorem dX6_star_70 : decode cX6_star 70 = .ok (.iastore, 1) := by decide +kernel
theorem dX6_star_71 : decode cX6_star 71 = .ok (.aload_n 0, 1) := by decide +kernel
theorem dX6_star_72 : decode cX6_star 72 = .ok (.getfield 16, 3) := by decide +kernel
theorem dX6_star_75 : decode cX6_star 75 = .ok (.aload_n 0, 1) := by decide +kernel
theorem dX6_star_76 : decode cX6_star 76 = .ok (.getfield 63, 3) := by decide +kernel
theorem dX6_star_79 : decode cX6_star 79 = .ok (.iload_n 3, 1) := by decide +kernel
theorem dX6_star_80 : decode cX6_star 80 = .ok (.iastore, 1) := by decide +kernel
theorem dX6_star_81 : decode cX6_star 81 = .ok (.aload_n 0, 1) := by decide +kernel
theorem dX6_star_82 : decode cX6_star 82 = .ok (.getfield 19, 3) := by decide +kernel
theorem dX6_star_85 : decode cX6_star 85 = .ok (.aload_n 0, 1) := by decide +kernel
theorem dX6_star_86 : decode cX6_star 86 = .ok (.getfield 63, 3) := by decide +kernel
theorem dX6_star_89 : decode cX6_star 89 = .ok (.iload 4, 2) := by decide +kernel
theorem dX6_star_91 : decode cX6_star 91 = .ok (.iastore, 1) := by decide +kernel
theorem dX6_star_92 : decode cX6_star 92 = .ok (.aload_n 0, 1) := by decide +kernel
theorem dX6_star_93 : decode cX6_star 93 = .ok (.dup, 1) := by decide +kernel
theorem dX6_star_94 : decode cX6_star 94 = .ok (.getfield 63, 3) := by decide +kernel
theorem dX6_star_97 : decode cX6_star 97 = .ok (.iconst 1, 1) := by decide +kernel
theorem dX6_star_98 : decode cX6_star 98 = .ok (.iadd, 1) := by decide +kernel
theorem dX6_star_99 : decode cX6_star 99 = .ok (.putfield 63, 3) := by decide +kernel
theorem dX6_star_102 : decode cX6_star 102 = .ok (.aload_n 0, 1) := by decide +kernel
theorem dX6_star_103 : decode cX6_star 103 = .ok (.getfield 63, 3) := by decide +kernel
theorem dX6_star_106 : decode cX6_star 106 = .ok (.iconst 1, 1) := by decide +kernel
theorem dX6_star_107 : decode cX6_star 107 = .ok (.isub, 1) := by decide +kernel
theorem dX6_star_108 : decode cX6_star 108 = .ok (.ireturn, 1) := by decide +kernel
theorem dX6_by_0 : decode cX6_by 0 = .ok (.iload_n 0, 1) := by decide +kernel
theorem dX6_by_1 : decode cX6_by 1 = .ok (.iload_n 1, 1) := by decide +kernel
theorem dX6_by_2 : decode cX6_by 2 = .ok (.irem, 1) := by decide +kernel
theorem dX6_by_3 : decode cX6_by 3 = .ok (.iload_n 1, 1) := by decide +kernel
theorem dX6_by_4 : decode cX6_by 4 = .ok (.iadd, 1) := by decide +kernel
theorem dX6_by_5 : decode cX6_by 5 = .ok (.iload_n 1, 1) := by decide +kernel
theorem dX6_by_6 : decode cX6_by 6 = .ok (.irem, 1) := by decide +kernel
theorem dX6_by_7 : decode cX6_by 7 = .ok (.istore_n 2, 1) := by decide +kernel
theorem dX6_by_8 : decode cX6_by 8 = .ok (.iload_n 0, 1) := by decide +kernel
theorem dX6_by_9 : decode cX6_by 9 = .ok (.iload_n 2, 1) := by decide +kernel
theorem dX6_by_10 : decode cX6_by 10 = .ok (.isub, 1) := by decide +kernel
theorem dX6_by_11 : decode cX6_by 11 = .ok (.iload_n 1, 1) := by decide +kernel
theorem dX6_by_12 : decode cX6_by 12 = .ok (.idiv, 1) := by decide +kernel
theorem dX6_by_13 : decode cX6_by 13 = .ok (.ireturn, 1) := by decide +kernel
theorem dX6_round_0 : decode cX6_round 0 = .ok (.iload_n 0, 1) := by decide +kernel
theorem dX6_round_1 : decode cX6_round 1 = .ok (.sipush 21600, 3) := by decide +kernel
theorem dX6_round_4 : decode cX6_round 4 = .ok (.irem, 1) := by decide +kernel
theorem dX6_round_5 : decode cX6_round 5 = .ok (.sipush 21600, 3) := by decide +kernel
theorem dX6_round_8 : decode cX6_round 8 = .ok (.iadd, 1) := by decide +kernel
theorem dX6_round_9 : decode cX6_round 9 = .ok (.sipush 21600, 3) := by decide +kernel
theorem dX6_round_12 : decode cX6_round 12 = .ok (.irem, 1) := by decide +kernel
theorem dX6_round_13 : decode cX6_round 13 = .ok (.ireturn, 1) := by decide +kernel
theorem dX6_skyOf_0 : decode cX6_skyOf 0 = .ok (.aload_n 0, 1) := by decide +kernel
theorem dX6_skyOf_1 : decode cX6_skyOf 1 = .ok (.getfield 7, 3) := by decide +kernel
theorem dX6_skyOf_4 : decode cX6_skyOf 4 = .ok (.iload_n 1, 1) := by decide +kernel
theorem dX6_skyOf_5 : decode cX6_skyOf 5 = .ok (.iaload, 1) := by decide +kernel
theorem dX6_skyOf_6 : decode cX6_skyOf 6 = .ok (.iconst 5, 1) := by decide +kernel
theorem dX6_skyOf_7 : decode cX6_skyOf 7 = .ok (.iload_n 2, 1) := by decide +kernel
theorem dX6_skyOf_8 : decode cX6_skyOf 8 = .ok (.imul, 1) := by decide +kernel
theorem dX6_skyOf_9 : decode cX6_skyOf 9 = .ok (.bipush 6, 2) := by decide +kernel
theorem dX6_skyOf_11 : decode cX6_skyOf 11 = .ok (.invokestatic 79, 3) := by decide +kernel
theorem dX6_skyOf_14 : decode cX6_skyOf 14 = .ok (.iadd, 1) := by decide +kernel
theorem dX6_skyOf_15 : decode cX6_skyOf 15 = .ok (.aload_n 0, 1) := by decide +kernel
theorem dX6_skyOf_16 : decode cX6_skyOf 16 = .ok (.getfield 16, 3) := by decide +kernel
theorem dX6_skyOf_19 : decode cX6_skyOf 19 = .ok (.iload_n 1, 1) := by decide +kernel
theorem dX6_skyOf_20 : decode cX6_skyOf 20 = .ok (.iaload, 1) := by decide +kernel
theorem dX6_skyOf_21 : decode cX6_skyOf 21 = .ok (.iload_n 2, 1) := by decide +kernel
theorem dX6_skyOf_22 : decode cX6_skyOf 22 = .ok (.imul, 1) := by decide +kernel
theorem dX6_skyOf_23 : decode cX6_skyOf 23 = .ok (.bipush 100, 2) := by decide +kernel
theorem dX6_skyOf_25 : decode cX6_skyOf 25 = .ok (.invokestatic 79, 3) := by decide +kernel
theorem dX6_skyOf_28 : decode cX6_skyOf 28 = .ok (.iadd, 1) := by decide +kernel
theorem dX6_skyOf_29 : decode cX6_skyOf 29 = .ok (.invokestatic 83, 3) := by decide +kernel
theorem dX6_skyOf_32 : decode cX6_skyOf 32 = .ok (.ireturn, 1) := by decide +kernel
theorem dX6_sky_0 : decode cX6_sky 0 = .ok (.aload_n 0, 1) := by decide +kernel
theorem dX6_sky_1 : decode cX6_sky 1 = .ok (.iload_n 1, 1) := by decide +kernel
theorem dX6_sky_2 : decode cX6_sky 2 = .ok (.invokevirtual 87, 3) := by decide +kernel
theorem dX6_sky_5 : decode cX6_sky 5 = .ok (.ifCond .ne 5, 3) := by decide +kernel
theorem dX6_sky_8 : decode cX6_sky 8 = .ok (.iconst (-1), 1) := by decide +kernel
theorem dX6_sky_9 : decode cX6_sky 9 = .ok (.ireturn, 1) := by decide +kernel
theorem dX6_sky_10 : decode cX6_sky 10 = .ok (.iload_n 2, 1) := by decide +kernel
theorem dX6_sky_11 : decode cX6_sky 11 = .ok (.invokestatic 90, 3) := by decide +kernel
theorem dX6_sky_14 : decode cX6_sky 14 = .ok (.ifCond .eq 12, 3) := by decide +kernel
theorem dX6_sky_17 : decode cX6_sky 17 = .ok (.aload_n 0, 1) := by decide +kernel
theorem dX6_sky_18 : decode cX6_sky 18 = .ok (.iload_n 1, 1) := by decide +kernel
theorem dX6_sky_19 : decode cX6_sky 19 = .ok (.iload_n 2, 1) := by decide +kernel
theorem dX6_sky_20 : decode cX6_sky 20 = .ok (.invokevirtual 93, 3) := by decide +kernel
theorem dX6_sky_23 : decode cX6_sky 23 = .ok (.goto 5, 3) := by decide +kernel
theorem dX6_sky_26 : decode cX6_sky 26 = .ok (.bipush (-2), 2) := by decide +kernel
theorem dX6_sky_28 : decode cX6_sky 28 = .ok (.ireturn, 1) := by decide +kernel
theorem dX6_about_0 : decode cX6_about 0 = .ok (.aload_n 0, 1) := by decide +kernel
theorem dX6_about_1 : decode cX6_about 1 = .ok (.iload_n 1, 1) := by decide +kernel
theorem dX6_about_2 : decode cX6_about 2 = .ok (.invokevirtual 87, 3) := by decide +kernel
theorem dX6_about_5 : decode cX6_about 5 = .ok (.ifCond .ne 5, 3) := by decide +kernel
theorem dX6_about_8 : decode cX6_about 8 = .ok (.iconst (-1), 1) := by decide +kernel
theorem dX6_about_9 : decode cX6_about 9 = .ok (.ireturn, 1) := by decide +kernel
theorem dX6_about_10 : decode cX6_about 10 = .ok (.iload_n 2, 1) := by decide +kernel
theorem dX6_about_11 : decode cX6_about 11 = .ok (.tableswitch 61 0 3 #[29, 36, 43, 50], 29) := by decide +kernel
theorem dX6_about_40 : decode cX6_about 40 = .ok (.aload_n 0, 1) := by decide +kernel
theorem dX6_about_41 : decode cX6_about 41 = .ok (.getfield 7, 3) := by decide +kernel
theorem dX6_about_44 : decode cX6_about 44 = .ok (.iload_n 1, 1) := by decide +kernel
theorem dX6_about_45 : decode cX6_about 45 = .ok (.iaload, 1) := by decide +kernel
theorem dX6_about_46 : decode cX6_about 46 = .ok (.ireturn, 1) := by decide +kernel
theorem dX6_about_47 : decode cX6_about 47 = .ok (.aload_n 0, 1) := by decide +kernel
theorem dX6_about_48 : decode cX6_about 48 = .ok (.getfield 16, 3) := by decide +kernel
theorem dX6_about_51 : decode cX6_about 51 = .ok (.iload_n 1, 1) := by decide +kernel
theorem dX6_about_52 : decode cX6_about 52 = .ok (.iaload, 1) := by decide +kernel
theorem dX6_about_53 : decode cX6_about 53 = .ok (.ireturn, 1) := by decide +kernel
theorem dX6_about_54 : decode cX6_about 54 = .ok (.aload_n 0, 1) := by decide +kernel
theorem dX6_about_55 : decode cX6_about 55 = .ok (.getfield 19, 3) := by decide +kernel
theorem dX6_about_58 : decode cX6_about 58 = .ok (.iload_n 1, 1) := by decide +kernel
theorem dX6_about_59 : decode cX6_about 59 = .ok (.iaload, 1) := by decide +kernel
theorem dX6_about_60 : decode cX6_about 60 = .ok (.ireturn, 1) := by decide +kernel
theorem dX6_about_61 : decode cX6_about 61 = .ok (.aload_n 0, 1) := by decide +kernel
theorem dX6_about_62 : decode cX6_about 62 = .ok (.getfield 13, 3) := by decide +kernel
theorem dX6_about_65 : decode cX6_about 65 = .ok (.iload_n 1, 1) := by decide +kernel
theorem dX6_about_66 : decode cX6_about 66 = .ok (.iaload, 1) := by decide +kernel
theorem dX6_about_67 : decode cX6_about 67 = .ok (.sipush 5400, 3) := by decide +kernel
theorem dX6_about_70 : decode cX6_about 70 = .ok (.iadd, 1) := by decide +kernel
theorem dX6_about_71 : decode cX6_about 71 = .ok (.ireturn, 1) := by decide +kernel
theorem dX6_about_72 : decode cX6_about 72 = .ok (.bipush (-2), 2) := by decide +kernel
theorem dX6_about_74 : decode cX6_about 74 = .ok (.ireturn, 1) := by decide +kernel
theorem dX6_limit_0 : decode cX6_limit 0 = .ok (.iload_n 1, 1) := by decide +kernel
theorem dX6_limit_1 : decode cX6_limit 1 = .ok (.iconst 0, 1) := by decide +kernel
theorem dX6_limit_2 : decode cX6_limit 2 = .ok (.bipush 6, 2) := by decide +kernel
theorem dX6_limit_4 : decode cX6_limit 4 = .ok (.invokestatic 59, 3) := by decide +kernel
theorem dX6_limit_7 : decode cX6_limit 7 = .ok (.ifCond .ne 6, 3) := by decide +kernel
theorem dX6_limit_10 : decode cX6_limit 10 = .ok (.bipush (-2), 2) := by decide +kernel
theorem dX6_limit_12 : decode cX6_limit 12 = .ok (.ireturn, 1) := by decide +kernel
theorem dX6_limit_13 : decode cX6_limit 13 = .ok (.aload_n 0, 1) := by decide +kernel
theorem dX6_limit_14 : decode cX6_limit 14 = .ok (.getfield 22, 3) := by decide +kernel
theorem dX6_limit_17 : decode cX6_limit 17 = .ok (.istore_n 2, 1) := by decide +kernel
theorem dX6_limit_18 : decode cX6_limit 18 = .ok (.aload_n 0, 1) := by decide +kernel
theorem dX6_limit_19 : decode cX6_limit 19 = .ok (.iload_n 1, 1) := by decide +kernel
theorem dX6_limit_20 : decode cX6_limit 20 = .ok (.putfield 22, 3) := by decide +kernel
theorem dX6_limit_23 : decode cX6_limit 23 = .ok (.iload_n 2, 1) := by decide +kernel
theorem dX6_limit_24 : decode cX6_limit 24 = .ok (.ireturn, 1) := by decide +kernel
theorem dX6_wayOf_0 : decode cX6_wayOf 0 = .ok (.iload_n 1, 1) := by decide +kernel
theorem dX6_wayOf_1 : decode cX6_wayOf 1 = .ok (.iload_n 0, 1) := by decide +kernel
theorem dX6_wayOf_2 : decode cX6_wayOf 2 = .ok (.isub, 1) := by decide +kernel
theorem dX6_wayOf_3 : decode cX6_wayOf 3 = .ok (.sipush 10800, 3) := by decide +kernel
theorem dX6_wayOf_6 : decode cX6_wayOf 6 = .ok (.iadd, 1) := by decide +kernel
theorem dX6_wayOf_7 : decode cX6_wayOf 7 = .ok (.invokestatic 83, 3) := by decide +kernel
theorem dX6_wayOf_10 : decode cX6_wayOf 10 = .ok (.sipush 10800, 3) := by decide +kernel
theorem dX6_wayOf_13 : decode cX6_wayOf 13 = .ok (.isub, 1) := by decide +kernel
theorem dX6_wayOf_14 : decode cX6_wayOf 14 = .ok (.ireturn, 1) := by decide +kernel
theorem dX6_way_0 : decode cX6_way 0 = .ok (.iload_n 1, 1) := by decide +kernel
theorem dX6_way_1 : decode cX6_way 1 = .ok (.invokestatic 73, 3) := by decide +kernel
theorem dX6_way_4 : decode cX6_way 4 = .ok (.ifCond .eq 22, 3) := by decide +kernel
theorem dX6_way_7 : decode cX6_way 7 = .ok (.iload_n 2, 1) := by decide +kernel
theorem dX6_way_8 : decode cX6_way 8 = .ok (.invokestatic 73, 3) := by decide +kernel
theorem dX6_way_11 : decode cX6_way 11 = .ok (.ifCond .eq 15, 3) := by decide +kernel
theorem dX6_way_14 : decode cX6_way 14 = .ok (.iload_n 1, 1) := by decide +kernel
theorem dX6_way_15 : decode cX6_way 15 = .ok (.iload_n 2, 1) := by decide +kernel
theorem dX6_way_16 : decode cX6_way 16 = .ok (.invokestatic 96, 3) := by decide +kernel
theorem dX6_way_19 : decode cX6_way 19 = .ok (.sipush 10800, 3) := by decide +kernel
theorem dX6_way_22 : decode cX6_way 22 = .ok (.iadd, 1) := by decide +kernel
theorem dX6_way_23 : decode cX6_way 23 = .ok (.goto 5, 3) := by decide +kernel
theorem dX6_way_26 : decode cX6_way 26 = .ok (.bipush (-2), 2) := by decide +kernel
theorem dX6_way_28 : decode cX6_way 28 = .ok (.ireturn, 1) := by decide +kernel
theorem dX6_list_0 : decode cX6_list 0 = .ok (.aload_n 0, 1) := by decide +kernel
theorem dX6_list_1 : decode cX6_list 1 = .ok (.getfield 66, 3) := by decide +kernel
theorem dX6_list_4 : decode cX6_list 4 = .ok (.bipush 6, 2) := by decide +kernel
theorem dX6_list_6 : decode cX6_list 6 = .ok (.if_icmp .ne 6, 3) := by decide +kernel
theorem dX6_list_9 : decode cX6_list 9 = .ok (.bipush (-4), 2) := by decide +kernel
theorem dX6_list_11 : decode cX6_list 11 = .ok (.ireturn, 1) := by decide +kernel
theorem dX6_list_12 : decode cX6_list 12 = .ok (.aload_n 0, 1) := by decide +kernel
theorem dX6_list_13 : decode cX6_list 13 = .ok (.getfield 26, 3) := by decide +kernel
theorem dX6_list_16 : decode cX6_list 16 = .ok (.aload_n 0, 1) := by decide +kernel
theorem dX6_list_17 : decode cX6_list 17 = .ok (.getfield 66, 3) := by decide +kernel
theorem dX6_list_20 : decode cX6_list 20 = .ok (.iconst 0, 1) := by decide +kernel
theorem dX6_list_21 : decode cX6_list 21 = .ok (.iastore, 1) := by decide +kernel
theorem dX6_list_22 : decode cX6_list 22 = .ok (.aload_n 0, 1) := by decide +kernel
theorem dX6_list_23 : decode cX6_list 23 = .ok (.dup, 1) := by decide +kernel
theorem dX6_list_24 : decode cX6_list 24 = .ok (.getfield 66, 3) := by decide +kernel
theorem dX6_list_27 : decode cX6_list 27 = .ok (.iconst 1, 1) := by decide +kernel
theorem dX6_list_28 : decode cX6_list 28 = .ok (.iadd, 1) := by decide +kernel
theorem dX6_list_29 : decode cX6_list 29 = .ok (.putfield 66, 3) := by decide +kernel
theorem dX6_list_32 : decode cX6_list 32 = .ok (.aload_n 0, 1) := by decide +kernel
theorem dX6_list_33 : decode cX6_list 33 = .ok (.getfield 66, 3) := by decide +kernel
theorem dX6_list_36 : decode cX6_list 36 = .ok (.iconst 1, 1) := by decide +kernel
theorem dX6_list_37 : decode cX6_list 37 = .ok (.isub, 1) := by decide +kernel
theorem dX6_list_38 : decode cX6_list 38 = .ok (.ireturn, 1) := by decide +kernel
theorem dX6_line_0 : decode cX6_line 0 = .ok (.aload_n 0, 1) := by decide +kernel
theorem dX6_line_1 : decode cX6_line 1 = .ok (.iload_n 1, 1) := by decide +kernel
theorem dX6_line_2 : decode cX6_line 2 = .ok (.invokevirtual 69, 3) := by decide +kernel
theorem dX6_line_5 : decode cX6_line 5 = .ok (.ifCond .ne 5, 3) := by decide +kernel
theorem dX6_line_8 : decode cX6_line 8 = .ok (.iconst (-1), 1) := by decide +kernel
theorem dX6_line_9 : decode cX6_line 9 = .ok (.ireturn, 1) := by decide +kernel
theorem dX6_line_10 : decode cX6_line 10 = .ok (.iload_n 2, 1) := by decide +kernel
theorem dX6_line_11 : decode cX6_line 11 = .ok (.invokestatic 73, 3) := by decide +kernel
theorem dX6_line_14 : decode cX6_line 14 = .ok (.ifCond .eq 10, 3) := by decide +kernel
theorem dX6_line_17 : decode cX6_line 17 = .ok (.iload_n 3, 1) := by decide +kernel
theorem dX6_line_18 : decode cX6_line 18 = .ok (.invokestatic 76, 3) := by decide +kernel
theorem dX6_line_21 : decode cX6_line 21 = .ok (.ifCond .ne 6, 3) := by decide +kernel
theorem dX6_line_24 : decode cX6_line 24 = .ok (.bipush (-2), 2) := by decide +kernel
theorem dX6_line_26 : decode cX6_line 26 = .ok (.ireturn, 1) := by decide +kernel
theorem dX6_line_27 : decode cX6_line 27 = .ok (.aload_n 0, 1) := by decide +kernel
theorem dX6_line_28 : decode cX6_line 28 = .ok (.getfield 26, 3) := by decide +kernel
theorem dX6_line_31 : decode cX6_line 31 = .ok (.iload_n 1, 1) := by decide +kernel
theorem dX6_line_32 : decode cX6_line 32 = .ok (.iaload, 1) := by decide +kernel
theorem dX6_line_33 : decode cX6_line 33 = .ok (.bipush 8, 2) := by decide +kernel
theorem dX6_line_35 : decode cX6_line 35 = .ok (.if_icmp .ne 6, 3) := by decide +kernel
theorem dX6_line_38 : decode cX6_line 38 = .ok (.bipush (-4), 2) := by decide +kernel
theorem dX6_line_40 : decode cX6_line 40 = .ok (.ireturn, 1) := by decide +kernel
theorem dX6_line_41 : decode cX6_line 41 = .ok (.aload_n 0, 1) := by decide +kernel
theorem dX6_line_42 : decode cX6_line 42 = .ok (.getfield 29, 3) := by decide +kernel
theorem dX6_line_45 : decode cX6_line 45 = .ok (.bipush 8, 2) := by decide +kernel
theorem dX6_line_47 : decode cX6_line 47 = .ok (.iload_n 1, 1) := by decide +kernel
theorem dX6_line_48 : decode cX6_line 48 = .ok (.imul, 1) := by decide +kernel
theorem dX6_line_49 : decode cX6_line 49 = .ok (.aload_n 0, 1) := by decide +kernel
theorem dX6_line_50 : decode cX6_line 50 = .ok (.getfield 26, 3) := by decide +kernel
theorem dX6_line_53 : decode cX6_line 53 = .ok (.iload_n 1, 1) := by decide +kernel
theorem dX6_line_54 : decode cX6_line 54 = .ok (.iaload, 1) := by decide +kernel
theorem dX6_line_55 : decode cX6_line 55 = .ok (.iadd, 1) := by decide +kernel
theorem dX6_line_56 : decode cX6_line 56 = .ok (.iload_n 2, 1) := by decide +kernel
theorem dX6_line_57 : decode cX6_line 57 = .ok (.iastore, 1) := by decide +kernel
theorem dX6_line_58 : decode cX6_line 58 = .ok (.aload_n 0, 1) := by decide +kernel
theorem dX6_line_59 : decode cX6_line 59 = .ok (.getfield 32, 3) := by decide +kernel
theorem dX6_line_62 : decode cX6_line 62 = .ok (.bipush 8, 2) := by decide +kernel
theorem dX6_line_64 : decode cX6_line 64 = .ok (.iload_n 1, 1) := by decide +kernel
theorem dX6_line_65 : decode cX6_line 65 = .ok (.imul, 1) := by decide +kernel
theorem dX6_line_66 : decode cX6_line 66 = .ok (.aload_n 0, 1) := by decide +kernel
theorem dX6_line_67 : decode cX6_line 67 = .ok (.getfield 26, 3) := by decide +kernel
theorem dX6_line_70 : decode cX6_line 70 = .ok (.iload_n 1, 1) := by decide +kernel
theorem dX6_line_71 : decode cX6_line 71 = .ok (.iaload, 1) := by decide +kernel
theorem dX6_line_72 : decode cX6_line 72 = .ok (.iadd, 1) := by decide +kernel
theorem dX6_line_73 : decode cX6_line 73 = .ok (.iload_n 3, 1) := by decide +kernel
theorem dX6_line_74 : decode cX6_line 74 = .ok (.iastore, 1) := by decide +kernel
theorem dX6_line_75 : decode cX6_line 75 = .ok (.aload_n 0, 1) := by decide +kernel
theorem dX6_line_76 : decode cX6_line 76 = .ok (.getfield 26, 3) := by decide +kernel
theorem dX6_line_79 : decode cX6_line 79 = .ok (.iload_n 1, 1) := by decide +kernel
theorem dX6_line_80 : decode cX6_line 80 = .ok (.dup2, 1) := by decide +kernel
theorem dX6_line_81 : decode cX6_line 81 = .ok (.iaload, 1) := by decide +kernel
theorem dX6_line_82 : decode cX6_line 82 = .ok (.iconst 1, 1) := by decide +kernel
theorem dX6_line_83 : decode cX6_line 83 = .ok (.iadd, 1) := by decide +kernel
theorem dX6_line_84 : decode cX6_line 84 = .ok (.iastore, 1) := by decide +kernel
theorem dX6_line_85 : decode cX6_line 85 = .ok (.aload_n 0, 1) := by decide +kernel
theorem dX6_line_86 : decode cX6_line 86 = .ok (.getfield 26, 3) := by decide +kernel
theorem dX6_line_89 : decode cX6_line 89 = .ok (.iload_n 1, 1) := by decide +kernel
theorem dX6_line_90 : decode cX6_line 90 = .ok (.iaload, 1) := by decide +kernel
theorem dX6_line_91 : decode cX6_line 91 = .ok (.iconst 1, 1) := by decide +kernel
theorem dX6_line_92 : decode cX6_line 92 = .ok (.isub, 1) := by decide +kernel
theorem dX6_line_93 : decode cX6_line 93 = .ok (.ireturn, 1) := by decide +kernel
theorem dX6_written_0 : decode cX6_written 0 = .ok (.aload_n 0, 1) := by decide +kernel
theorem dX6_written_1 : decode cX6_written 1 = .ok (.iload_n 1, 1) := by decide +kernel
theorem dX6_written_2 : decode cX6_written 2 = .ok (.iload_n 2, 1) := by decide +kernel
theorem dX6_written_3 : decode cX6_written 3 = .ok (.invokevirtual 99, 3) := by decide +kernel
theorem dX6_written_6 : decode cX6_written 6 = .ok (.ifCond .ne 5, 3) := by decide +kernel
theorem dX6_written_9 : decode cX6_written 9 = .ok (.iconst (-1), 1) := by decide +kernel
theorem dX6_written_10 : decode cX6_written 10 = .ok (.ireturn, 1) := by decide +kernel
theorem dX6_written_11 : decode cX6_written 11 = .ok (.iload_n 3, 1) := by decide +kernel
theorem dX6_written_12 : decode cX6_written 12 = .ok (.ifCond .ne 17, 3) := by decide +kernel
theorem dX6_written_15 : decode cX6_written 15 = .ok (.aload_n 0, 1) := by decide +kernel
theorem dX6_written_16 : decode cX6_written 16 = .ok (.getfield 29, 3) := by decide +kernel
theorem dX6_written_19 : decode cX6_written 19 = .ok (.bipush 8, 2) := by decide +kernel
theorem dX6_written_21 : decode cX6_written 21 = .ok (.iload_n 1, 1) := by decide +kernel
theorem dX6_written_22 : decode cX6_written 22 = .ok (.imul, 1) := by decide +kernel
theorem dX6_written_23 : decode cX6_written 23 = .ok (.iload_n 2, 1) := by decide +kernel
theorem dX6_written_24 : decode cX6_written 24 = .ok (.iadd, 1) := by decide +kernel
theorem dX6_written_25 : decode cX6_written 25 = .ok (.iaload, 1) := by decide +kernel
theorem dX6_written_26 : decode cX6_written 26 = .ok (.goto 28, 3) := by decide +kernel
theorem dX6_written_29 : decode cX6_written 29 = .ok (.iload_n 3, 1) := by decide +kernel
theorem dX6_written_30 : decode cX6_written 30 = .ok (.iconst 1, 1) := by decide +kernel
theorem dX6_written_31 : decode cX6_written 31 = .ok (.if_icmp .ne 21, 3) := by decide +kernel
theorem dX6_written_34 : decode cX6_written 34 = .ok (.aload_n 0, 1) := by decide +kernel
theorem dX6_written_35 : decode cX6_written 35 = .ok (.getfield 32, 3) := by decide +kernel
theorem dX6_written_38 : decode cX6_written 38 = .ok (.bipush 8, 2) := by decide +kernel
theorem dX6_written_40 : decode cX6_written 40 = .ok (.iload_n 1, 1) := by decide +kernel
theorem dX6_written_41 : decode cX6_written 41 = .ok (.imul, 1) := by decide +kernel
theorem dX6_written_42 : decode cX6_written 42 = .ok (.iload_n 2, 1) := by decide +kernel
theorem dX6_written_43 : decode cX6_written 43 = .ok (.iadd, 1) := by decide +kernel
theorem dX6_written_44 : decode cX6_written 44 = .ok (.iaload, 1) := by decide +kernel
theorem dX6_written_45 : decode cX6_written 45 = .ok (.sipush 5400, 3) := by decide +kernel
theorem dX6_written_48 : decode cX6_written 48 = .ok (.iadd, 1) := by decide +kernel
theorem dX6_written_49 : decode cX6_written 49 = .ok (.goto 5, 3) := by decide +kernel
theorem dX6_written_52 : decode cX6_written 52 = .ok (.bipush (-2), 2) := by decide +kernel
theorem dX6_written_54 : decode cX6_written 54 = .ok (.ireturn, 1) := by decide +kernel
theorem dX6_mend_0 : decode cX6_mend 0 = .ok (.aload_n 0, 1) := by decide +kernel
theorem dX6_mend_1 : decode cX6_mend 1 = .ok (.iload_n 1, 1) := by decide +kernel
theorem dX6_mend_2 : decode cX6_mend 2 = .ok (.iload_n 2, 1) := by decide +kernel
theorem dX6_mend_3 : decode cX6_mend 3 = .ok (.invokevirtual 99, 3) := by decide +kernel
theorem dX6_mend_6 : decode cX6_mend 6 = .ok (.ifCond .ne 5, 3) := by decide +kernel
theorem dX6_mend_9 : decode cX6_mend 9 = .ok (.iconst (-1), 1) := by decide +kernel
theorem dX6_mend_10 : decode cX6_mend 10 = .ok (.ireturn, 1) := by decide +kernel
theorem dX6_mend_11 : decode cX6_mend 11 = .ok (.iload_n 3, 1) := by decide +kernel
theorem dX6_mend_12 : decode cX6_mend 12 = .ok (.invokestatic 73, 3) := by decide +kernel
theorem dX6_mend_15 : decode cX6_mend 15 = .ok (.ifCond .eq 11, 3) := by decide +kernel
theorem dX6_mend_18 : decode cX6_mend 18 = .ok (.iload 4, 2) := by decide +kernel
theorem dX6_mend_20 : decode cX6_mend 20 = .ok (.invokestatic 76, 3) := by decide +kernel
theorem dX6_mend_23 : decode cX6_mend 23 = .ok (.ifCond .ne 6, 3) := by decide +kernel
theorem dX6_mend_26 : decode cX6_mend 26 = .ok (.bipush (-2), 2) := by decide +kernel
theorem dX6_mend_28 : decode cX6_mend 28 = .ok (.ireturn, 1) := by decide +kernel
theorem dX6_mend_29 : decode cX6_mend 29 = .ok (.aload_n 0, 1) := by decide +kernel
theorem dX6_mend_30 : decode cX6_mend 30 = .ok (.getfield 29, 3) := by decide +kernel
theorem dX6_mend_33 : decode cX6_mend 33 = .ok (.bipush 8, 2) := by decide +kernel
theorem dX6_mend_35 : decode cX6_mend 35 = .ok (.iload_n 1, 1) := by decide +kernel
theorem dX6_mend_36 : decode cX6_mend 36 = .ok (.imul, 1) := by decide +kernel
theorem dX6_mend_37 : decode cX6_mend 37 = .ok (.iload_n 2, 1) := by decide +kernel
theorem dX6_mend_38 : decode cX6_mend 38 = .ok (.iadd, 1) := by decide +kernel
theorem dX6_mend_39 : decode cX6_mend 39 = .ok (.iaload, 1) := by decide +kernel
theorem dX6_mend_40 : decode cX6_mend 40 = .ok (.istore 5, 2) := by decide +kernel
theorem dX6_mend_42 : decode cX6_mend 42 = .ok (.aload_n 0, 1) := by decide +kernel
theorem dX6_mend_43 : decode cX6_mend 43 = .ok (.getfield 29, 3) := by decide +kernel
theorem dX6_mend_46 : decode cX6_mend 46 = .ok (.bipush 8, 2) := by decide +kernel
theorem dX6_mend_48 : decode cX6_mend 48 = .ok (.iload_n 1, 1) := by decide +kernel
theorem dX6_mend_49 : decode cX6_mend 49 = .ok (.imul, 1) := by decide +kernel
theorem dX6_mend_50 : decode cX6_mend 50 = .ok (.iload_n 2, 1) := by decide +kernel
theorem dX6_mend_51 : decode cX6_mend 51 = .ok (.iadd, 1) := by decide +kernel
theorem dX6_mend_52 : decode cX6_mend 52 = .ok (.iload_n 3, 1) := by decide +kernel
theorem dX6_mend_53 : decode cX6_mend 53 = .ok (.iastore, 1) := by decide +kernel
theorem dX6_mend_54 : decode cX6_mend 54 = .ok (.aload_n 0, 1) := by decide +kernel
theorem dX6_mend_55 : decode cX6_mend 55 = .ok (.getfield 32, 3) := by decide +kernel
theorem dX6_mend_58 : decode cX6_mend 58 = .ok (.bipush 8, 2) := by decide +kernel
theorem dX6_mend_60 : decode cX6_mend 60 = .ok (.iload_n 1, 1) := by decide +kernel
theorem dX6_mend_61 : decode cX6_mend 61 = .ok (.imul, 1) := by decide +kernel
theorem dX6_mend_62 : decode cX6_mend 62 = .ok (.iload_n 2, 1) := by decide +kernel
theorem dX6_mend_63 : decode cX6_mend 63 = .ok (.iadd, 1) := by decide +kernel
theorem dX6_mend_64 : decode cX6_mend 64 = .ok (.iload 4, 2) := by decide +kernel
theorem dX6_mend_66 : decode cX6_mend 66 = .ok (.iastore, 1) := by decide +kernel
theorem dX6_mend_67 : decode cX6_mend 67 = .ok (.iload 5, 2) := by decide +kernel
theorem dX6_mend_69 : decode cX6_mend 69 = .ok (.ireturn, 1) := by decide +kernel
theorem dX6_round__0 : decode cX6_round_ 0 = .ok (.aload_n 0, 1) := by decide +kernel
theorem dX6_round__1 : decode cX6_round_ 1 = .ok (.iload_n 1, 1) := by decide +kernel
theorem dX6_round__2 : decode cX6_round_ 2 = .ok (.invokevirtual 69, 3) := by decide +kernel
theorem dX6_round__5 : decode cX6_round_ 5 = .ok (.ifCond .ne 5, 3) := by decide +kernel
theorem dX6_round__8 : decode cX6_round_ 8 = .ok (.iconst (-1), 1) := by decide +kernel
theorem dX6_round__9 : decode cX6_round_ 9 = .ok (.ireturn, 1) := by decide +kernel
theorem dX6_round__10 : decode cX6_round_ 10 = .ok (.iload_n 2, 1) := by decide +kernel
theorem dX6_round__11 : decode cX6_round_ 11 = .ok (.iconst 2, 1) := by decide +kernel
theorem dX6_round__12 : decode cX6_round_ 12 = .ok (.sipush 1800, 3) := by decide +kernel
theorem dX6_round__15 : decode cX6_round_ 15 = .ok (.invokestatic 59, 3) := by decide +kernel
theorem dX6_round__18 : decode cX6_round_ 18 = .ok (.ifCond .ne 6, 3) := by decide +kernel
theorem dX6_round__21 : decode cX6_round_ 21 = .ok (.bipush (-2), 2) := by decide +kernel
theorem dX6_round__23 : decode cX6_round_ 23 = .ok (.ireturn, 1) := by decide +kernel
theorem dX6_round__24 : decode cX6_round_ 24 = .ok (.iconst 0, 1) := by decide +kernel
theorem dX6_round__25 : decode cX6_round_ 25 = .ok (.istore_n 3, 1) := by decide +kernel
theorem dX6_round__26 : decode cX6_round_ 26 = .ok (.iconst 0, 1) := by decide +kernel
theorem dX6_round__27 : decode cX6_round_ 27 = .ok (.istore 4, 2) := by decide +kernel
theorem dX6_round__29 : decode cX6_round_ 29 = .ok (.iload 4, 2) := by decide +kernel
theorem dX6_round__31 : decode cX6_round_ 31 = .ok (.aload_n 0, 1) := by decide +kernel
theorem dX6_round__32 : decode cX6_round_ 32 = .ok (.getfield 26, 3) := by decide +kernel
theorem dX6_round__35 : decode cX6_round_ 35 = .ok (.iload_n 1, 1) := by decide +kernel
theorem dX6_round__36 : decode cX6_round_ 36 = .ok (.iaload, 1) := by decide +kernel
theorem dX6_round__37 : decode cX6_round_ 37 = .ok (.if_icmp .ge 34, 3) := by decide +kernel
theorem dX6_round__40 : decode cX6_round_ 40 = .ok (.iload_n 3, 1) := by decide +kernel
theorem dX6_round__41 : decode cX6_round_ 41 = .ok (.aload_n 0, 1) := by decide +kernel
theorem dX6_round__42 : decode cX6_round_ 42 = .ok (.getfield 29, 3) := by decide +kernel
theorem dX6_round__45 : decode cX6_round_ 45 = .ok (.bipush 8, 2) := by decide +kernel
theorem dX6_round__47 : decode cX6_round_ 47 = .ok (.iload_n 1, 1) := by decide +kernel
theorem dX6_round__48 : decode cX6_round_ 48 = .ok (.imul, 1) := by decide +kernel
theorem dX6_round__49 : decode cX6_round_ 49 = .ok (.iload 4, 2) := by decide +kernel
theorem dX6_round__51 : decode cX6_round_ 51 = .ok (.iadd, 1) := by decide +kernel
theorem dX6_round__52 : decode cX6_round_ 52 = .ok (.iaload, 1) := by decide +kernel
theorem dX6_round__53 : decode cX6_round_ 53 = .ok (.iload_n 2, 1) := by decide +kernel
theorem dX6_round__54 : decode cX6_round_ 54 = .ok (.irem, 1) := by decide +kernel
theorem dX6_round__55 : decode cX6_round_ 55 = .ok (.ifCond .ne 7, 3) := by decide +kernel
theorem dX6_round__58 : decode cX6_round_ 58 = .ok (.iconst 1, 1) := by decide +kernel
theorem dX6_round__59 : decode cX6_round_ 59 = .ok (.goto 4, 3) := by decide +kernel
theorem dX6_round__62 : decode cX6_round_ 62 = .ok (.iconst 0, 1) := by decide +kernel
theorem dX6_round__63 : decode cX6_round_ 63 = .ok (.iadd, 1) := by decide +kernel
theorem dX6_round__64 : decode cX6_round_ 64 = .ok (.istore_n 3, 1) := by decide +kernel
theorem dX6_round__65 : decode cX6_round_ 65 = .ok (.iinc 4 1, 3) := by decide +kernel
theorem dX6_round__68 : decode cX6_round_ 68 = .ok (.goto (-39), 3) := by decide +kernel
theorem dX6_round__71 : decode cX6_round_ 71 = .ok (.iload_n 3, 1) := by decide +kernel
theorem dX6_round__72 : decode cX6_round_ 72 = .ok (.ireturn, 1) := by decide +kernel
theorem dX6_tries_0 : decode cX6_tries 0 = .ok (.iload_n 2, 1) := by decide +kernel
theorem dX6_tries_1 : decode cX6_tries 1 = .ok (.invokestatic 103, 3) := by decide +kernel
theorem dX6_tries_4 : decode cX6_tries 4 = .ok (.iload_n 3, 1) := by decide +kernel
theorem dX6_tries_5 : decode cX6_tries 5 = .ok (.invokestatic 103, 3) := by decide +kernel
theorem dX6_tries_8 : decode cX6_tries 8 = .ok (.iadd, 1) := by decide +kernel
theorem dX6_tries_9 : decode cX6_tries 9 = .ok (.iload 4, 2) := by decide +kernel
theorem dX6_tries_11 : decode cX6_tries 11 = .ok (.iadd, 1) := by decide +kernel
theorem dX6_tries_12 : decode cX6_tries 12 = .ok (.istore 5, 2) := by decide +kernel
theorem dX6_tries_14 : decode cX6_tries 14 = .ok (.iload_n 2, 1) := by decide +kernel
theorem dX6_tries_15 : decode cX6_tries 15 = .ok (.invokestatic 103, 3) := by decide +kernel
theorem dX6_tries_18 : decode cX6_tries 18 = .ok (.bipush 30, 2) := by decide +kernel
theorem dX6_tries_20 : decode cX6_tries 20 = .ok (.if_icmp .gt 49, 3) := by decide +kernel
theorem dX6_tries_23 : decode cX6_tries 23 = .ok (.iload_n 3, 1) := by decide +kernel
theorem dX6_tries_24 : decode cX6_tries 24 = .ok (.invokestatic 103, 3) := by decide +kernel
theorem dX6_tries_27 : decode cX6_tries 27 = .ok (.bipush 30, 2) := by decide +kernel
theorem dX6_tries_29 : decode cX6_tries 29 = .ok (.if_icmp .gt 40, 3) := by decide +kernel
theorem dX6_tries_32 : decode cX6_tries 32 = .ok (.iload 5, 2) := by decide +kernel
theorem dX6_tries_34 : decode cX6_tries 34 = .ok (.aload_n 0, 1) := by decide +kernel
theorem dX6_tries_35 : decode cX6_tries 35 = .ok (.getfield 106, 3) := by decide +kernel
theorem dX6_tries_38 : decode cX6_tries 38 = .ok (.if_icmp .lt 20, 3) := by decide +kernel
theorem dX6_tries_41 : decode cX6_tries 41 = .ok (.iload 5, 2) := by decide +kernel
theorem dX6_tries_43 : decode cX6_tries 43 = .ok (.aload_n 0, 1) := by decide +kernel
theorem dX6_tries_44 : decode cX6_tries 44 = .ok (.getfield 106, 3) := by decide +kernel
theorem dX6_tries_47 : decode cX6_tries 47 = .ok (.if_icmp .ne 22, 3) := by decide +kernel
theorem dX6_tries_50 : decode cX6_tries 50 = .ok (.iload_n 1, 1) := by decide +kernel
theorem dX6_tries_51 : decode cX6_tries 51 = .ok (.aload_n 0, 1) := by decide +kernel
theorem dX6_tries_52 : decode cX6_tries 52 = .ok (.getfield 109, 3) := by decide +kernel
theorem dX6_tries_55 : decode cX6_tries 55 = .ok (.if_icmp .ge 14, 3) := by decide +kernel
theorem dX6_tries_58 : decode cX6_tries 58 = .ok (.aload_n 0, 1) := by decide +kernel
theorem dX6_tries_59 : decode cX6_tries 59 = .ok (.iload_n 1, 1) := by decide +kernel
theorem dX6_tries_60 : decode cX6_tries 60 = .ok (.putfield 109, 3) := by decide +kernel
theorem dX6_tries_63 : decode cX6_tries 63 = .ok (.aload_n 0, 1) := by decide +kernel
theorem dX6_tries_64 : decode cX6_tries 64 = .ok (.iload 5, 2) := by decide +kernel
theorem dX6_tries_66 : decode cX6_tries 66 = .ok (.putfield 106, 3) := by decide +kernel
theorem dX6_tries_69 : decode cX6_tries 69 = .ok (.return_, 1) := by decide +kernel
theorem dX6_face_0 : decode cX6_face 0 = .ok (.aload_n 0, 1) := by decide +kernel
theorem dX6_face_1 : decode cX6_face 1 = .ok (.iload_n 3, 1) := by decide +kernel
theorem dX6_face_2 : decode cX6_face 2 = .ok (.iload 4, 2) := by decide +kernel
theorem dX6_face_4 : decode cX6_face 4 = .ok (.invokevirtual 93, 3) := by decide +kernel
theorem dX6_face_7 : decode cX6_face 7 = .ok (.iload 5, 2) := by decide +kernel
theorem dX6_face_9 : decode cX6_face 9 = .ok (.iadd, 1) := by decide +kernel
theorem dX6_face_10 : decode cX6_face 10 = .ok (.invokestatic 83, 3) := by decide +kernel
theorem dX6_face_13 : decode cX6_face 13 = .ok (.istore 6, 2) := by decide +kernel
theorem dX6_face_15 : decode cX6_face 15 = .ok (.iload 6, 2) := by decide +kernel
theorem dX6_face_17 : decode cX6_face 17 = .ok (.aload_n 0, 1) := by decide +kernel
theorem dX6_face_18 : decode cX6_face 18 = .ok (.getfield 29, 3) := by decide +kernel
theorem dX6_face_21 : decode cX6_face 21 = .ok (.bipush 8, 2) := by decide +kernel
theorem dX6_face_23 : decode cX6_face 23 = .ok (.iload_n 1, 1) := by decide +kernel
theorem dX6_face_24 : decode cX6_face 24 = .ok (.imul, 1) := by decide +kernel
theorem dX6_face_25 : decode cX6_face 25 = .ok (.iload_n 2, 1) := by decide +kernel
theorem dX6_face_26 : decode cX6_face 26 = .ok (.iadd, 1) := by decide +kernel
theorem dX6_face_27 : decode cX6_face 27 = .ok (.iaload, 1) := by decide +kernel
theorem dX6_face_28 : decode cX6_face 28 = .ok (.invokestatic 96, 3) := by decide +kernel
theorem dX6_face_31 : decode cX6_face 31 = .ok (.istore 7, 2) := by decide +kernel
theorem dX6_face_33 : decode cX6_face 33 = .ok (.aload_n 0, 1) := by decide +kernel
theorem dX6_face_34 : decode cX6_face 34 = .ok (.getfield 32, 3) := by decide +kernel
theorem dX6_face_37 : decode cX6_face 37 = .ok (.bipush 8, 2) := by decide +kernel
theorem dX6_face_39 : decode cX6_face 39 = .ok (.iload_n 1, 1) := by decide +kernel
theorem dX6_face_40 : decode cX6_face 40 = .ok (.imul, 1) := by decide +kernel
theorem dX6_face_41 : decode cX6_face 41 = .ok (.iload_n 2, 1) := by decide +kernel
theorem dX6_face_42 : decode cX6_face 42 = .ok (.iadd, 1) := by decide +kernel
theorem dX6_face_43 : decode cX6_face 43 = .ok (.iaload, 1) := by decide +kernel
theorem dX6_face_44 : decode cX6_face 44 = .ok (.istore 8, 2) := by decide +kernel
theorem dX6_face_46 : decode cX6_face 46 = .ok (.iload 8, 2) := by decide +kernel
theorem dX6_face_48 : decode cX6_face 48 = .ok (.aload_n 0, 1) := by decide +kernel
theorem dX6_face_49 : decode cX6_face 49 = .ok (.getfield 13, 3) := by decide +kernel
theorem dX6_face_52 : decode cX6_face 52 = .ok (.iload_n 3, 1) := by decide +kernel
theorem dX6_face_53 : decode cX6_face 53 = .ok (.iaload, 1) := by decide +kernel
theorem dX6_face_54 : decode cX6_face 54 = .ok (.isub, 1) := by decide +kernel
theorem dX6_face_55 : decode cX6_face 55 = .ok (.istore 9, 2) := by decide +kernel
theorem dX6_face_57 : decode cX6_face 57 = .ok (.aload_n 0, 1) := by decide +kernel
theorem dX6_face_58 : decode cX6_face 58 = .ok (.bipush (-9), 2) := by decide +kernel
theorem dX6_face_60 : decode cX6_face 60 = .ok (.putfield 109, 3) := by decide +kernel
theorem dX6_face_63 : decode cX6_face 63 = .ok (.aload_n 0, 1) := by decide +kernel
theorem dX6_face_64 : decode cX6_face 64 = .ok (.ldc 112, 2) := by decide +kernel
theorem dX6_face_66 : decode cX6_face 66 = .ok (.putfield 106, 3) := by decide +kernel
theorem dX6_face_69 : decode cX6_face 69 = .ok (.aload_n 0, 1) := by decide +kernel
theorem dX6_face_70 : decode cX6_face 70 = .ok (.iconst 0, 1) := by decide +kernel
theorem dX6_face_71 : decode cX6_face 71 = .ok (.iload 7, 2) := by decide +kernel
theorem dX6_face_73 : decode cX6_face 73 = .ok (.iload 9, 2) := by decide +kernel
theorem dX6_face_75 : decode cX6_face 75 = .ok (.iconst 0, 1) := by decide +kernel
theorem dX6_face_76 : decode cX6_face 76 = .ok (.invokevirtual 113, 3) := by decide +kernel
theorem dX6_face_79 : decode cX6_face 79 = .ok (.aload_n 0, 1) := by decide +kernel
theorem dX6_face_80 : decode cX6_face 80 = .ok (.iconst 1, 1) := by decide +kernel
theorem dX6_face_81 : decode cX6_face 81 = .ok (.iload 7, 2) := by decide +kernel
theorem dX6_face_83 : decode cX6_face 83 = .ok (.iload 8, 2) := by decide +kernel
theorem dX6_face_85 : decode cX6_face 85 = .ok (.aload_n 0, 1) := by decide +kernel
theorem dX6_face_86 : decode cX6_face 86 = .ok (.getfield 13, 3) := by decide +kernel
theorem dX6_face_89 : decode cX6_face 89 = .ok (.iload_n 3, 1) := by decide +kernel
theorem dX6_face_90 : decode cX6_face 90 = .ok (.iaload, 1) := by decide +kernel
theorem dX6_face_91 : decode cX6_face 91 = .ok (.iadd, 1) := by decide +kernel
theorem dX6_face_92 : decode cX6_face 92 = .ok (.bipush 40, 2) := by decide +kernel
theorem dX6_face_94 : decode cX6_face 94 = .ok (.invokevirtual 113, 3) := by decide +kernel
theorem dX6_face_97 : decode cX6_face 97 = .ok (.aload_n 0, 1) := by decide +kernel
theorem dX6_face_98 : decode cX6_face 98 = .ok (.iconst 2, 1) := by decide +kernel
theorem dX6_face_99 : decode cX6_face 99 = .ok (.iload 7, 2) := by decide +kernel
theorem dX6_face_101 : decode cX6_face 101 = .ok (.sipush 1800, 3) := by decide +kernel
theorem dX6_face_104 : decode cX6_face 104 = .ok (.isub, 1) := by decide +kernel
theorem dX6_face_105 : decode cX6_face 105 = .ok (.iload 9, 2) := by decide +kernel
theorem dX6_face_107 : decode cX6_face 107 = .ok (.bipush 50, 2) := by decide +kernel
theorem dX6_face_109 : decode cX6_face 109 = .ok (.invokevirtual 113, 3) := by decide +kernel
theorem dX6_face_112 : decode cX6_face 112 = .ok (.aload_n 0, 1) := by decide +kernel
theorem dX6_face_113 : decode cX6_face 113 = .ok (.iconst 2, 1) := by decide +kernel
theorem dX6_face_114 : decode cX6_face 114 = .ok (.iload 7, 2) := by decide +kernel
theorem dX6_face_116 : decode cX6_face 116 = .ok (.sipush 1800, 3) := by decide +kernel
theorem dX6_face_119 : decode cX6_face 119 = .ok (.iadd, 1) := by decide +kernel
theorem dX6_face_120 : decode cX6_face 120 = .ok (.iload 9, 2) := by decide +kernel
theorem dX6_face_122 : decode cX6_face 122 = .ok (.bipush 50, 2) := by decide +kernel
theorem dX6_face_124 : decode cX6_face 124 = .ok (.invokevirtual 113, 3) := by decide +kernel
theorem dX6_face_127 : decode cX6_face 127 = .ok (.aload_n 0, 1) := by decide +kernel
theorem dX6_face_128 : decode cX6_face 128 = .ok (.iconst 3, 1) := by decide +kernel
theorem dX6_face_129 : decode cX6_face 129 = .ok (.iload 7, 2) := by decide +kernel
theorem dX6_face_131 : decode cX6_face 131 = .ok (.sipush 600, 3) := by decide +kernel
theorem dX6_face_134 : decode cX6_face 134 = .ok (.isub, 1) := by decide +kernel
theorem dX6_face_135 : decode cX6_face 135 = .ok (.iload 9, 2) := by decide +kernel
theorem dX6_face_137 : decode cX6_face 137 = .ok (.bipush 45, 2) := by decide +kernel
theorem dX6_face_139 : decode cX6_face 139 = .ok (.invokevirtual 113, 3) := by decide +kernel
theorem dX6_face_142 : decode cX6_face 142 = .ok (.aload_n 0, 1) := by decide +kernel
theorem dX6_face_143 : decode cX6_face 143 = .ok (.iconst 3, 1) := by decide +kernel
theorem dX6_face_144 : decode cX6_face 144 = .ok (.iload 7, 2) := by decide +kernel
theorem dX6_face_146 : decode cX6_face 146 = .ok (.sipush 600, 3) := by decide +kernel
theorem dX6_face_149 : decode cX6_face 149 = .ok (.iadd, 1) := by decide +kernel
theorem dX6_face_150 : decode cX6_face 150 = .ok (.iload 9, 2) := by decide +kernel
theorem dX6_face_152 : decode cX6_face 152 = .ok (.bipush 45, 2) := by decide +kernel
theorem dX6_face_154 : decode cX6_face 154 = .ok (.invokevirtual 113, 3) := by decide +kernel
theorem dX6_face_157 : decode cX6_face 157 = .ok (.aload_n 0, 1) := by decide +kernel
theorem dX6_face_158 : decode cX6_face 158 = .ok (.iconst 3, 1) := by decide +kernel
theorem dX6_face_159 : decode cX6_face 159 = .ok (.iload 7, 2) := by decide +kernel
theorem dX6_face_161 : decode cX6_face 161 = .ok (.iload 9, 2) := by decide +kernel
theorem dX6_face_163 : decode cX6_face 163 = .ok (.sipush 600, 3) := by decide +kernel
theorem dX6_face_166 : decode cX6_face 166 = .ok (.isub, 1) := by decide +kernel
theorem dX6_face_167 : decode cX6_face 167 = .ok (.bipush 45, 2) := by decide +kernel
theorem dX6_face_169 : decode cX6_face 169 = .ok (.invokevirtual 113, 3) := by decide +kernel
theorem dX6_face_172 : decode cX6_face 172 = .ok (.aload_n 0, 1) := by decide +kernel
theorem dX6_face_173 : decode cX6_face 173 = .ok (.iconst 3, 1) := by decide +kernel
theorem dX6_face_174 : decode cX6_face 174 = .ok (.iload 7, 2) := by decide +kernel
theorem dX6_face_176 : decode cX6_face 176 = .ok (.iload 9, 2) := by decide +kernel
theorem dX6_face_178 : decode cX6_face 178 = .ok (.sipush 600, 3) := by decide +kernel
theorem dX6_face_181 : decode cX6_face 181 = .ok (.iadd, 1) := by decide +kernel
theorem dX6_face_182 : decode cX6_face 182 = .ok (.bipush 45, 2) := by decide +kernel
theorem dX6_face_184 : decode cX6_face 184 = .ok (.invokevirtual 113, 3) := by decide +kernel
theorem dX6_face_187 : decode cX6_face 187 = .ok (.return_, 1) := by decide +kernel
theorem dX6_slip_0 : decode cX6_slip 0 = .ok (.aload_n 0, 1) := by decide +kernel
theorem dX6_slip_1 : decode cX6_slip 1 = .ok (.iload_n 1, 1) := by decide +kernel
theorem dX6_slip_2 : decode cX6_slip 2 = .ok (.iload_n 2, 1) := by decide +kernel
theorem dX6_slip_3 : decode cX6_slip 3 = .ok (.invokevirtual 99, 3) := by decide +kernel
theorem dX6_slip_6 : decode cX6_slip 6 = .ok (.ifCond .eq 11, 3) := by decide +kernel
theorem dX6_slip_9 : decode cX6_slip 9 = .ok (.aload_n 0, 1) := by decide +kernel
theorem dX6_slip_10 : decode cX6_slip 10 = .ok (.iload_n 3, 1) := by decide +kernel
theorem dX6_slip_11 : decode cX6_slip 11 = .ok (.invokevirtual 87, 3) := by decide +kernel
theorem dX6_slip_14 : decode cX6_slip 14 = .ok (.ifCond .ne 5, 3) := by decide +kernel
theorem dX6_slip_17 : decode cX6_slip 17 = .ok (.iconst (-1), 1) := by decide +kernel
theorem dX6_slip_18 : decode cX6_slip 18 = .ok (.ireturn, 1) := by decide +kernel
theorem dX6_slip_19 : decode cX6_slip 19 = .ok (.iload 4, 2) := by decide +kernel
theorem dX6_slip_21 : decode cX6_slip 21 = .ok (.invokestatic 90, 3) := by decide +kernel
theorem dX6_slip_24 : decode cX6_slip 24 = .ok (.ifCond .eq 11, 3) := by decide +kernel
theorem dX6_slip_27 : decode cX6_slip 27 = .ok (.iload 5, 2) := by decide +kernel
theorem dX6_slip_29 : decode cX6_slip 29 = .ok (.invokestatic 117, 3) := by decide +kernel
theorem dX6_slip_32 : decode cX6_slip 32 = .ok (.ifCond .ne 6, 3) := by decide +kernel
theorem dX6_slip_35 : decode cX6_slip 35 = .ok (.bipush (-2), 2) := by decide +kernel
theorem dX6_slip_37 : decode cX6_slip 37 = .ok (.ireturn, 1) := by decide +kernel
theorem dX6_slip_38 : decode cX6_slip 38 = .ok (.aload_n 0, 1) := by decide +kernel
theorem dX6_slip_39 : decode cX6_slip 39 = .ok (.iload_n 1, 1) := by decide +kernel
theorem dX6_slip_40 : decode cX6_slip 40 = .ok (.iload_n 2, 1) := by decide +kernel
theorem dX6_slip_41 : decode cX6_slip 41 = .ok (.iload_n 3, 1) := by decide +kernel
theorem dX6_slip_42 : decode cX6_slip 42 = .ok (.iload 4, 2) := by decide +kernel
theorem dX6_slip_44 : decode cX6_slip 44 = .ok (.iload 5, 2) := by decide +kernel
theorem dX6_slip_46 : decode cX6_slip 46 = .ok (.invokevirtual 120, 3) := by decide +kernel
theorem dX6_slip_49 : decode cX6_slip 49 = .ok (.aload_n 0, 1) := by decide +kernel
theorem dX6_slip_50 : decode cX6_slip 50 = .ok (.getfield 109, 3) := by decide +kernel
theorem dX6_slip_53 : decode cX6_slip 53 = .ok (.ireturn, 1) := by decide +kernel
theorem dX6_cost_0 : decode cX6_cost 0 = .ok (.aload_n 0, 1) := by decide +kernel
theorem dX6_cost_1 : decode cX6_cost 1 = .ok (.iload_n 1, 1) := by decide +kernel
theorem dX6_cost_2 : decode cX6_cost 2 = .ok (.iload_n 2, 1) := by decide +kernel
theorem dX6_cost_3 : decode cX6_cost 3 = .ok (.invokevirtual 99, 3) := by decide +kernel
theorem dX6_cost_6 : decode cX6_cost 6 = .ok (.ifCond .eq 11, 3) := by decide +kernel
theorem dX6_cost_9 : decode cX6_cost 9 = .ok (.aload_n 0, 1) := by decide +kernel
theorem dX6_cost_10 : decode cX6_cost 10 = .ok (.iload_n 3, 1) := by decide +kernel
theorem dX6_cost_11 : decode cX6_cost 11 = .ok (.invokevirtual 87, 3) := by decide +kernel
theorem dX6_cost_14 : decode cX6_cost 14 = .ok (.ifCond .ne 5, 3) := by decide +kernel
theorem dX6_cost_17 : decode cX6_cost 17 = .ok (.iconst (-1), 1) := by decide +kernel
theorem dX6_cost_18 : decode cX6_cost 18 = .ok (.ireturn, 1) := by decide +kernel
theorem dX6_cost_19 : decode cX6_cost 19 = .ok (.iload 4, 2) := by decide +kernel
theorem dX6_cost_21 : decode cX6_cost 21 = .ok (.invokestatic 90, 3) := by decide +kernel
theorem dX6_cost_24 : decode cX6_cost 24 = .ok (.ifCond .eq 11, 3) := by decide +kernel
theorem dX6_cost_27 : decode cX6_cost 27 = .ok (.iload 5, 2) := by decide +kernel
theorem dX6_cost_29 : decode cX6_cost 29 = .ok (.invokestatic 117, 3) := by decide +kernel
theorem dX6_cost_32 : decode cX6_cost 32 = .ok (.ifCond .ne 6, 3) := by decide +kernel
theorem dX6_cost_35 : decode cX6_cost 35 = .ok (.bipush (-2), 2) := by decide +kernel
theorem dX6_cost_37 : decode cX6_cost 37 = .ok (.ireturn, 1) := by decide +kernel
theorem dX6_cost_38 : decode cX6_cost 38 = .ok (.aload_n 0, 1) := by decide +kernel
theorem dX6_cost_39 : decode cX6_cost 39 = .ok (.iload_n 1, 1) := by decide +kernel
theorem dX6_cost_40 : decode cX6_cost 40 = .ok (.iload_n 2, 1) := by decide +kernel
theorem dX6_cost_41 : decode cX6_cost 41 = .ok (.iload_n 3, 1) := by decide +kernel
theorem dX6_cost_42 : decode cX6_cost 42 = .ok (.iload 4, 2) := by decide +kernel
theorem dX6_cost_44 : decode cX6_cost 44 = .ok (.iload 5, 2) := by decide +kernel
theorem dX6_cost_46 : decode cX6_cost 46 = .ok (.invokevirtual 120, 3) := by decide +kernel
theorem dX6_cost_49 : decode cX6_cost 49 = .ok (.aload_n 0, 1) := by decide +kernel
theorem dX6_cost_50 : decode cX6_cost 50 = .ok (.getfield 109, 3) := by decide +kernel
theorem dX6_cost_53 : decode cX6_cost 53 = .ok (.bipush (-9), 2) := by decide +kernel
theorem dX6_cost_55 : decode cX6_cost 55 = .ok (.if_icmp .ne 8, 3) := by decide +kernel
theorem dX6_cost_58 : decode cX6_cost 58 = .ok (.bipush (-9), 2) := by decide +kernel
theorem dX6_cost_60 : decode cX6_cost 60 = .ok (.goto 7, 3) := by decide +kernel
theorem dX6_cost_63 : decode cX6_cost 63 = .ok (.aload_n 0, 1) := by decide +kernel
theorem dX6_cost_64 : decode cX6_cost 64 = .ok (.getfield 106, 3) := by decide +kernel
theorem dX6_cost_67 : decode cX6_cost 67 = .ok (.ireturn, 1) := by decide +kernel
theorem dX6_lay_0 : decode cX6_lay 0 = .ok (.aload_n 0, 1) := by decide +kernel
theorem dX6_lay_1 : decode cX6_lay 1 = .ok (.getfield 26, 3) := by decide +kernel
theorem dX6_lay_4 : decode cX6_lay 4 = .ok (.iload_n 1, 1) := by decide +kernel
theorem dX6_lay_5 : decode cX6_lay 5 = .ok (.iaload, 1) := by decide +kernel
theorem dX6_lay_6 : decode cX6_lay 6 = .ok (.istore 4, 2) := by decide +kernel
theorem dX6_lay_8 : decode cX6_lay 8 = .ok (.iconst 0, 1) := by decide +kernel
theorem dX6_lay_9 : decode cX6_lay 9 = .ok (.istore 5, 2) := by decide +kernel
theorem dX6_lay_11 : decode cX6_lay 11 = .ok (.iload 5, 2) := by decide +kernel
theorem dX6_lay_13 : decode cX6_lay 13 = .ok (.iload 4, 2) := by decide +kernel
theorem dX6_lay_15 : decode cX6_lay 15 = .ok (.if_icmp .ge 122, 3) := by decide +kernel
theorem dX6_lay_18 : decode cX6_lay 18 = .ok (.iconst 0, 1) := by decide +kernel
theorem dX6_lay_19 : decode cX6_lay 19 = .ok (.istore 6, 2) := by decide +kernel
theorem dX6_lay_21 : decode cX6_lay 21 = .ok (.iload 6, 2) := by decide +kernel
theorem dX6_lay_23 : decode cX6_lay 23 = .ok (.aload_n 0, 1) := by decide +kernel
theorem dX6_lay_24 : decode cX6_lay 24 = .ok (.getfield 63, 3) := by decide +kernel
theorem dX6_lay_27 : decode cX6_lay 27 = .ok (.if_icmp .ge 104, 3) := by decide +kernel
theorem dX6_lay_30 : decode cX6_lay 30 = .ok (.aload_n 0, 1) := by decide +kernel
theorem dX6_lay_31 : decode cX6_lay 31 = .ok (.iload_n 1, 1) := by decide +kernel
theorem dX6_lay_32 : decode cX6_lay 32 = .ok (.iload 5, 2) := by decide +kernel
theorem dX6_lay_34 : decode cX6_lay 34 = .ok (.iload 6, 2) := by decide +kernel
theorem dX6_lay_36 : decode cX6_lay 36 = .ok (.iload_n 2, 1) := by decide +kernel
theorem dX6_lay_37 : decode cX6_lay 37 = .ok (.iload_n 3, 1) := by decide +kernel
theorem dX6_lay_38 : decode cX6_lay 38 = .ok (.invokevirtual 120, 3) := by decide +kernel
theorem dX6_lay_41 : decode cX6_lay 41 = .ok (.aload_n 0, 1) := by decide +kernel
theorem dX6_lay_42 : decode cX6_lay 42 = .ok (.getfield 109, 3) := by decide +kernel
theorem dX6_lay_45 : decode cX6_lay 45 = .ok (.bipush (-9), 2) := by decide +kernel
theorem dX6_lay_47 : decode cX6_lay 47 = .ok (.if_icmp .eq 21, 3) := by decide +kernel
theorem dX6_lay_50 : decode cX6_lay 50 = .ok (.aload_n 0, 1) := by decide +kernel
theorem dX6_lay_51 : decode cX6_lay 51 = .ok (.getfield 19, 3) := by decide +kernel
theorem dX6_lay_54 : decode cX6_lay 54 = .ok (.iload 6, 2) := by decide +kernel
theorem dX6_lay_56 : decode cX6_lay 56 = .ok (.iaload, 1) := by decide +kernel
theorem dX6_lay_57 : decode cX6_lay 57 = .ok (.aload_n 0, 1) := by decide +kernel
theorem dX6_lay_58 : decode cX6_lay 58 = .ok (.getfield 22, 3) := by decide +kernel
theorem dX6_lay_61 : decode cX6_lay 61 = .ok (.if_icmp .gt 7, 3) := by decide +kernel
theorem dX6_lay_64 : decode cX6_lay 64 = .ok (.iconst 1, 1) := by decide +kernel
theorem dX6_lay_65 : decode cX6_lay 65 = .ok (.goto 4, 3) := by decide +kernel
theorem dX6_lay_68 : decode cX6_lay 68 = .ok (.iconst 0, 1) := by decide +kernel
theorem dX6_lay_69 : decode cX6_lay 69 = .ok (.istore 7, 2) := by decide +kernel
theorem dX6_lay_71 : decode cX6_lay 71 = .ok (.aload_n 0, 1) := by decide +kernel
theorem dX6_lay_72 : decode cX6_lay 72 = .ok (.getfield 38, 3) := by decide +kernel
theorem dX6_lay_75 : decode cX6_lay 75 = .ok (.bipush 8, 2) := by decide +kernel
theorem dX6_lay_77 : decode cX6_lay 77 = .ok (.iload 5, 2) := by decide +kernel
theorem dX6_lay_79 : decode cX6_lay 79 = .ok (.imul, 1) := by decide +kernel
theorem dX6_lay_80 : decode cX6_lay 80 = .ok (.iload 6, 2) := by decide +kernel
theorem dX6_lay_82 : decode cX6_lay 82 = .ok (.iadd, 1) := by decide +kernel
theorem dX6_lay_83 : decode cX6_lay 83 = .ok (.iload 7, 2) := by decide +kernel
theorem dX6_lay_85 : decode cX6_lay 85 = .ok (.ifCond .eq 10, 3) := by decide +kernel
theorem dX6_lay_88 : decode cX6_lay 88 = .ok (.aload_n 0, 1) := by decide +kernel
theorem dX6_lay_89 : decode cX6_lay 89 = .ok (.getfield 106, 3) := by decide +kernel
theorem dX6_lay_92 : decode cX6_lay 92 = .ok (.goto 5, 3) := by decide +kernel
theorem dX6_lay_95 : decode cX6_lay 95 = .ok (.ldc 112, 2) := by decide +kernel
theorem dX6_lay_97 : decode cX6_lay 97 = .ok (.iastore, 1) := by decide +kernel
theorem dX6_lay_98 : decode cX6_lay 98 = .ok (.aload_n 0, 1) := by decide +kernel
theorem dX6_lay_99 : decode cX6_lay 99 = .ok (.getfield 41, 3) := by decide +kernel
theorem dX6_lay_102 : decode cX6_lay 102 = .ok (.bipush 8, 2) := by decide +kernel
theorem dX6_lay_104 : decode cX6_lay 104 = .ok (.iload 5, 2) := by decide +kernel
theorem dX6_lay_106 : decode cX6_lay 106 = .ok (.imul, 1) := by decide +kernel
theorem dX6_lay_107 : decode cX6_lay 107 = .ok (.iload 6, 2) := by decide +kernel
theorem dX6_lay_109 : decode cX6_lay 109 = .ok (.iadd, 1) := by decide +kernel
theorem dX6_lay_110 : decode cX6_lay 110 = .ok (.iload 7, 2) := by decide +kernel
theorem dX6_lay_112 : decode cX6_lay 112 = .ok (.ifCond .eq 10, 3) := by decide +kernel
theorem dX6_lay_115 : decode cX6_lay 115 = .ok (.aload_n 0, 1) := by decide +kernel
theorem dX6_lay_116 : decode cX6_lay 116 = .ok (.getfield 109, 3) := by decide +kernel
theorem dX6_lay_119 : decode cX6_lay 119 = .ok (.goto 5, 3) := by decide +kernel
theorem dX6_lay_122 : decode cX6_lay 122 = .ok (.bipush (-9), 2) := by decide +kernel
theorem dX6_lay_124 : decode cX6_lay 124 = .ok (.iastore, 1) := by decide +kernel
theorem dX6_lay_125 : decode cX6_lay 125 = .ok (.iinc 6 1, 3) := by decide +kernel
theorem dX6_lay_128 : decode cX6_lay 128 = .ok (.goto (-107), 3) := by decide +kernel
theorem dX6_lay_131 : decode cX6_lay 131 = .ok (.iinc 5 1, 3) := by decide +kernel
theorem dX6_lay_134 : decode cX6_lay 134 = .ok (.goto (-123), 3) := by decide +kernel
theorem dX6_lay_137 : decode cX6_lay 137 = .ok (.iconst 0, 1) := by decide +kernel
theorem dX6_lay_138 : decode cX6_lay 138 = .ok (.istore 5, 2) := by decide +kernel
theorem dX6_lay_140 : decode cX6_lay 140 = .ok (.iload 5, 2) := by decide +kernel
theorem dX6_lay_142 : decode cX6_lay 142 = .ok (.iconst 1, 1) := by decide +kernel
theorem dX6_lay_143 : decode cX6_lay 143 = .ok (.aload_n 0, 1) := by decide +kernel
theorem dX6_lay_144 : decode cX6_lay 144 = .ok (.getfield 63, 3) := by decide +kernel
theorem dX6_lay_147 : decode cX6_lay 147 = .ok (.ishl, 1) := by decide +kernel
theorem dX6_lay_148 : decode cX6_lay 148 = .ok (.if_icmp .ge 24, 3) := by decide +kernel
theorem dX6_lay_151 : decode cX6_lay 151 = .ok (.aload_n 0, 1) := by decide +kernel
theorem dX6_lay_152 : decode cX6_lay 152 = .ok (.getfield 35, 3) := by decide +kernel
theorem dX6_lay_155 : decode cX6_lay 155 = .ok (.sipush 256, 3) := by decide +kernel
theorem dX6_lay_158 : decode cX6_lay 158 = .ok (.iload 4, 2) := by decide +kernel
theorem dX6_lay_160 : decode cX6_lay 160 = .ok (.imul, 1) := by decide +kernel
theorem dX6_lay_161 : decode cX6_lay 161 = .ok (.iload 5, 2) := by decide +kernel
theorem dX6_lay_163 : decode cX6_lay 163 = .ok (.iadd, 1) := by decide +kernel
theorem dX6_lay_164 : decode cX6_lay 164 = .ok (.iconst 0, 1) := by decide +kernel
theorem dX6_lay_165 : decode cX6_lay 165 = .ok (.iastore, 1) := by decide +kernel
theorem dX6_lay_166 : decode cX6_lay 166 = .ok (.iinc 5 1, 3) := by decide +kernel
theorem dX6_lay_169 : decode cX6_lay 169 = .ok (.goto (-29), 3) := by decide +kernel
theorem dX6_lay_172 : decode cX6_lay 172 = .ok (.iload 4, 2) := by decide +kernel
theorem dX6_lay_174 : decode cX6_lay 174 = .ok (.iconst 1, 1) := by decide +kernel
theorem dX6_lay_175 : decode cX6_lay 175 = .ok (.isub, 1) := by decide +kernel
theorem dX6_lay_176 : decode cX6_lay 176 = .ok (.istore 5, 2) := by decide +kernel
theorem dX6_lay_178 : decode cX6_lay 178 = .ok (.iload 5, 2) := by decide +kernel
theorem dX6_lay_180 : decode cX6_lay 180 = .ok (.ifCond .lt 156, 3) := by decide +kernel
theorem dX6_lay_183 : decode cX6_lay 183 = .ok (.iconst 0, 1) := by decide +kernel
theorem dX6_lay_184 : decode cX6_lay 184 = .ok (.istore 6, 2) := by decide +kernel
theorem dX6_lay_186 : decode cX6_lay 186 = .ok (.iload 6, 2) := by decide +kernel
theorem dX6_lay_188 : decode cX6_lay 188 = .ok (.iconst 1, 1) := by decide +kernel
theorem dX6_lay_189 : decode cX6_lay 189 = .ok (.aload_n 0, 1) := by decide +kernel
theorem dX6_lay_190 : decode cX6_lay 190 = .ok (.getfield 63, 3) := by decide +kernel
theorem dX6_lay_193 : decode cX6_lay 193 = .ok (.ishl, 1) := by decide +kernel
theorem dX6_lay_194 : decode cX6_lay 194 = .ok (.if_icmp .ge 136, 3) := by decide +kernel
theorem dX6_lay_197 : decode cX6_lay 197 = .ok (.bipush 100, 2) := by decide +kernel
theorem dX6_lay_199 : decode cX6_lay 199 = .ok (.aload_n 0, 1) := by decide +kernel
theorem dX6_lay_200 : decode cX6_lay 200 = .ok (.getfield 35, 3) := by decide +kernel
theorem dX6_lay_203 : decode cX6_lay 203 = .ok (.sipush 256, 3) := by decide +kernel
theorem dX6_lay_206 : decode cX6_lay 206 = .ok (.iload 5, 2) := by decide +kernel
theorem dX6_lay_208 : decode cX6_lay 208 = .ok (.imul, 1) := by decide +kernel
theorem dX6_lay_209 : decode cX6_lay 209 = .ok (.sipush 256, 3) := by decide +kernel
theorem dX6_lay_212 : decode cX6_lay 212 = .ok (.iadd, 1) := by decide +kernel
theorem dX6_lay_213 : decode cX6_lay 213 = .ok (.iload 6, 2) := by decide +kernel
theorem dX6_lay_215 : decode cX6_lay 215 = .ok (.iadd, 1) := by decide +kernel
theorem dX6_lay_216 : decode cX6_lay 216 = .ok (.iaload, 1) := by decide +kernel
theorem dX6_lay_217 : decode cX6_lay 217 = .ok (.iadd, 1) := by decide +kernel
theorem dX6_lay_218 : decode cX6_lay 218 = .ok (.istore 7, 2) := by decide +kernel
theorem dX6_lay_220 : decode cX6_lay 220 = .ok (.iconst 0, 1) := by decide +kernel
theorem dX6_lay_221 : decode cX6_lay 221 = .ok (.istore 8, 2) := by decide +kernel
theorem dX6_lay_223 : decode cX6_lay 223 = .ok (.iload 8, 2) := by decide +kernel
theorem dX6_lay_225 : decode cX6_lay 225 = .ok (.aload_n 0, 1) := by decide +kernel
theorem dX6_lay_226 : decode cX6_lay 226 = .ok (.getfield 63, 3) := by decide +kernel
theorem dX6_lay_229 : decode cX6_lay 229 = .ok (.if_icmp .ge 79, 3) := by decide +kernel
theorem dX6_lay_232 : decode cX6_lay 232 = .ok (.iload 6, 2) := by decide +kernel
theorem dX6_lay_234 : decode cX6_lay 234 = .ok (.iload 8, 2) := by decide +kernel
theorem dX6_lay_236 : decode cX6_lay 236 = .ok (.ishr, 1) := by decide +kernel
theorem dX6_lay_237 : decode cX6_lay 237 = .ok (.iconst 1, 1) := by decide +kernel
theorem dX6_lay_238 : decode cX6_lay 238 = .ok (.iand, 1) := by decide +kernel
theorem dX6_lay_239 : decode cX6_lay 239 = .ok (.ifCond .ne 43, 3) := by decide +kernel
theorem dX6_lay_242 : decode cX6_lay 242 = .ok (.aload_n 0, 1) := by decide +kernel
theorem dX6_lay_243 : decode cX6_lay 243 = .ok (.getfield 38, 3) := by decide +kernel
theorem dX6_lay_246 : decode cX6_lay 246 = .ok (.bipush 8, 2) := by decide +kernel
theorem dX6_lay_248 : decode cX6_lay 248 = .ok (.iload 5, 2) := by decide +kernel
theorem dX6_lay_250 : decode cX6_lay 250 = .ok (.imul, 1) := by decide +kernel
theorem dX6_lay_251 : decode cX6_lay 251 = .ok (.iload 8, 2) := by decide +kernel
theorem dX6_lay_253 : decode cX6_lay 253 = .ok (.iadd, 1) := by decide +kernel
theorem dX6_lay_254 : decode cX6_lay 254 = .ok (.iaload, 1) := by decide +kernel
theorem dX6_lay_255 : decode cX6_lay 255 = .ok (.aload_n 0, 1) := by decide +kernel
theorem dX6_lay_256 : decode cX6_lay 256 = .ok (.getfield 35, 3) := by decide +kernel
theorem dX6_lay_259 : decode cX6_lay 259 = .ok (.sipush 256, 3) := by decide +kernel
theorem dX6_lay_262 : decode cX6_lay 262 = .ok (.iload 5, 2) := by decide +kernel
theorem dX6_lay_264 : decode cX6_lay 264 = .ok (.imul, 1) := by decide +kernel
theorem dX6_lay_265 : decode cX6_lay 265 = .ok (.sipush 256, 3) := by decide +kernel
theorem dX6_lay_268 : decode cX6_lay 268 = .ok (.iadd, 1) := by decide +kernel
theorem dX6_lay_269 : decode cX6_lay 269 = .ok (.iload 6, 2) := by decide +kernel
theorem dX6_lay_271 : decode cX6_lay 271 = .ok (.iconst 1, 1) := by decide +kernel
theorem dX6_lay_272 : decode cX6_lay 272 = .ok (.iload 8, 2) := by decide +kernel
theorem dX6_lay_274 : decode cX6_lay 274 = .ok (.ishl, 1) := by decide +kernel
theorem dX6_lay_275 : decode cX6_lay 275 = .ok (.ior, 1) := by decide +kernel
theorem dX6_lay_276 : decode cX6_lay 276 = .ok (.iadd, 1) := by decide +kernel
theorem dX6_lay_277 : decode cX6_lay 277 = .ok (.iaload, 1) := by decide +kernel
theorem dX6_lay_278 : decode cX6_lay 278 = .ok (.iadd, 1) := by decide +kernel
theorem dX6_lay_279 : decode cX6_lay 279 = .ok (.goto 5, 3) := by decide +kernel
theorem dX6_lay_282 : decode cX6_lay 282 = .ok (.ldc 112, 2) := by decide +kernel
theorem dX6_lay_284 : decode cX6_lay 284 = .ok (.istore 9, 2) := by decide +kernel
theorem dX6_lay_286 : decode cX6_lay 286 = .ok (.iload 9, 2) := by decide +kernel
theorem dX6_lay_288 : decode cX6_lay 288 = .ok (.iload 7, 2) := by decide +kernel
theorem dX6_lay_290 : decode cX6_lay 290 = .ok (.if_icmp .ge 8, 3) := by decide +kernel
theorem dX6_lay_293 : decode cX6_lay 293 = .ok (.iload 9, 2) := by decide +kernel
theorem dX6_lay_295 : decode cX6_lay 295 = .ok (.goto 5, 3) := by decide +kernel
theorem dX6_lay_298 : decode cX6_lay 298 = .ok (.iload 7, 2) := by decide +kernel
theorem dX6_lay_300 : decode cX6_lay 300 = .ok (.istore 7, 2) := by decide +kernel
theorem dX6_lay_302 : decode cX6_lay 302 = .ok (.iinc 8 1, 3) := by decide +kernel
theorem dX6_lay_305 : decode cX6_lay 305 = .ok (.goto (-82), 3) := by decide +kernel
theorem dX6_lay_308 : decode cX6_lay 308 = .ok (.aload_n 0, 1) := by decide +kernel
theorem dX6_lay_309 : decode cX6_lay 309 = .ok (.getfield 35, 3) := by decide +kernel
theorem dX6_lay_312 : decode cX6_lay 312 = .ok (.sipush 256, 3) := by decide +kernel
theorem dX6_lay_315 : decode cX6_lay 315 = .ok (.iload 5, 2) := by decide +kernel
theorem dX6_lay_317 : decode cX6_lay 317 = .ok (.imul, 1) := by decide +kernel
theorem dX6_lay_318 : decode cX6_lay 318 = .ok (.iload 6, 2) := by decide +kernel
theorem dX6_lay_320 : decode cX6_lay 320 = .ok (.iadd, 1) := by decide +kernel
theorem dX6_lay_321 : decode cX6_lay 321 = .ok (.iload 7, 2) := by decide +kernel
theorem dX6_lay_323 : decode cX6_lay 323 = .ok (.iastore, 1) := by decide +kernel
theorem dX6_lay_324 : decode cX6_lay 324 = .ok (.iinc 6 1, 3) := by decide +kernel
theorem dX6_lay_327 : decode cX6_lay 327 = .ok (.goto (-141), 3) := by decide +kernel
theorem dX6_lay_330 : decode cX6_lay 330 = .ok (.iinc 5 (-1), 3) := by decide +kernel
theorem dX6_lay_333 : decode cX6_lay 333 = .ok (.goto (-155), 3) := by decide +kernel
theorem dX6_lay_336 : decode cX6_lay 336 = .ok (.aload_n 0, 1) := by decide +kernel
theorem dX6_lay_337 : decode cX6_lay 337 = .ok (.getfield 35, 3) := by decide +kernel
theorem dX6_lay_340 : decode cX6_lay 340 = .ok (.iconst 0, 1) := by decide +kernel
theorem dX6_lay_341 : decode cX6_lay 341 = .ok (.iaload, 1) := by decide +kernel
theorem dX6_lay_342 : decode cX6_lay 342 = .ok (.ireturn, 1) := by decide +kernel
theorem dX6_match_0 : decode cX6_match 0 = .ok (.aload_n 0, 1) := by decide +kernel
theorem dX6_match_1 : decode cX6_match 1 = .ok (.iload_n 1, 1) := by decide +kernel
theorem dX6_match_2 : decode cX6_match 2 = .ok (.iload_n 2, 1) := by decide +kernel
theorem dX6_match_3 : decode cX6_match 3 = .ok (.iload_n 3, 1) := by decide +kernel
theorem dX6_match_4 : decode cX6_match 4 = .ok (.invokevirtual 124, 3) := by decide +kernel
theorem dX6_match_7 : decode cX6_match 7 = .ok (.istore 4, 2) := by decide +kernel
theorem dX6_match_9 : decode cX6_match 9 = .ok (.iconst 0, 1) := by decide +kernel
theorem dX6_match_10 : decode cX6_match 10 = .ok (.istore 5, 2) := by decide +kernel
theorem dX6_match_12 : decode cX6_match 12 = .ok (.iconst 0, 1) := by decide +kernel
theorem dX6_match_13 : decode cX6_match 13 = .ok (.istore 6, 2) := by decide +kernel
theorem dX6_match_15 : decode cX6_match 15 = .ok (.iload 6, 2) := by decide +kernel
theorem dX6_match_17 : decode cX6_match 17 = .ok (.aload_n 0, 1) := by decide +kernel
theorem dX6_match_18 : decode cX6_match 18 = .ok (.getfield 26, 3) := by decide +kernel
theorem dX6_match_21 : decode cX6_match 21 = .ok (.iload_n 1, 1) := by decide +kernel
theorem dX6_match_22 : decode cX6_match 22 = .ok (.iaload, 1) := by decide +kernel
theorem dX6_match_23 : decode cX6_match 23 = .ok (.if_icmp .ge 188, 3) := by decide +kernel
theorem dX6_match_26 : decode cX6_match 26 = .ok (.aload_n 0, 1) := by decide +kernel
theorem dX6_match_27 : decode cX6_match 27 = .ok (.getfield 44, 3) := by decide +kernel
theorem dX6_match_30 : decode cX6_match 30 = .ok (.iload 6, 2) := by decide +kernel
theorem dX6_match_32 : decode cX6_match 32 = .ok (.bipush (-9), 2) := by decide +kernel
theorem dX6_match_34 : decode cX6_match 34 = .ok (.iastore, 1) := by decide +kernel
theorem dX6_match_35 : decode cX6_match 35 = .ok (.aload_n 0, 1) := by decide +kernel
theorem dX6_match_36 : decode cX6_match 36 = .ok (.getfield 63, 3) := by decide +kernel
theorem dX6_match_39 : decode cX6_match 39 = .ok (.iconst 1, 1) := by decide +kernel
theorem dX6_match_40 : decode cX6_match 40 = .ok (.isub, 1) := by decide +kernel
theorem dX6_match_41 : decode cX6_match 41 = .ok (.istore 7, 2) := by decide +kernel
theorem dX6_match_43 : decode cX6_match 43 = .ok (.iload 7, 2) := by decide +kernel
theorem dX6_match_45 : decode cX6_match 45 = .ok (.ifCond .lt 110, 3) := by decide +kernel
theorem dX6_match_48 : decode cX6_match 48 = .ok (.iload 5, 2) := by decide +kernel
theorem dX6_match_50 : decode cX6_match 50 = .ok (.iload 7, 2) := by decide +kernel
theorem dX6_match_52 : decode cX6_match 52 = .ok (.ishr, 1) := by decide +kernel
theorem dX6_match_53 : decode cX6_match 53 = .ok (.iconst 1, 1) := by decide +kernel
theorem dX6_match_54 : decode cX6_match 54 = .ok (.iand, 1) := by decide +kernel
theorem dX6_match_55 : decode cX6_match 55 = .ok (.ifCond .ne 67, 3) := by decide +kernel
theorem dX6_match_58 : decode cX6_match 58 = .ok (.aload_n 0, 1) := by decide +kernel
theorem dX6_match_59 : decode cX6_match 59 = .ok (.getfield 38, 3) := by decide +kernel
theorem dX6_match_62 : decode cX6_match 62 = .ok (.bipush 8, 2) := by decide +kernel
theorem dX6_match_64 : decode cX6_match 64 = .ok (.iload 6, 2) := by decide +kernel
theorem dX6_match_66 : decode cX6_match 66 = .ok (.imul, 1) := by decide +kernel
theorem dX6_match_67 : decode cX6_match 67 = .ok (.iload 7, 2) := by decide +kernel
theorem dX6_match_69 : decode cX6_match 69 = .ok (.iadd, 1) := by decide +kernel
theorem dX6_match_70 : decode cX6_match 70 = .ok (.iaload, 1) := by decide +kernel
theorem dX6_match_71 : decode cX6_match 71 = .ok (.ldc 112, 2) := by decide +kernel
theorem dX6_match_73 : decode cX6_match 73 = .ok (.if_icmp .ge 49, 3) := by decide +kernel
theorem dX6_match_76 : decode cX6_match 76 = .ok (.aload_n 0, 1) := by decide +kernel
theorem dX6_match_77 : decode cX6_match 77 = .ok (.getfield 38, 3) := by decide +kernel
theorem dX6_match_80 : decode cX6_match 80 = .ok (.bipush 8, 2) := by decide +kernel
theorem dX6_match_82 : decode cX6_match 82 = .ok (.iload 6, 2) := by decide +kernel
theorem dX6_match_84 : decode cX6_match 84 = .ok (.imul, 1) := by decide +kernel
theorem dX6_match_85 : decode cX6_match 85 = .ok (.iload 7, 2) := by decide +kernel
theorem dX6_match_87 : decode cX6_match 87 = .ok (.iadd, 1) := by decide +kernel
theorem dX6_match_88 : decode cX6_match 88 = .ok (.iaload, 1) := by decide +kernel
theorem dX6_match_89 : decode cX6_match 89 = .ok (.aload_n 0, 1) := by decide +kernel
theorem dX6_match_90 : decode cX6_match 90 = .ok (.getfield 35, 3) := by decide +kernel
theorem dX6_match_93 : decode cX6_match 93 = .ok (.sipush 256, 3) := by decide +kernel
theorem dX6_match_96 : decode cX6_match 96 = .ok (.iload 6, 2) := by decide +kernel
theorem dX6_match_98 : decode cX6_match 98 = .ok (.imul, 1) := by decide +kernel
theorem dX6_match_99 : decode cX6_match 99 = .ok (.sipush 256, 3) := by decide +kernel
theorem dX6_match_102 : decode cX6_match 102 = .ok (.iadd, 1) := by decide +kernel
theorem dX6_match_103 : decode cX6_match 103 = .ok (.iload 5, 2) := by decide +kernel
theorem dX6_match_105 : decode cX6_match 105 = .ok (.iconst 1, 1) := by decide +kernel
theorem dX6_match_106 : decode cX6_match 106 = .ok (.iload 7, 2) := by decide +kernel
theorem dX6_match_108 : decode cX6_match 108 = .ok (.ishl, 1) := by decide +kernel
theorem dX6_match_109 : decode cX6_match 109 = .ok (.ior, 1) := by decide +kernel
theorem dX6_match_110 : decode cX6_match 110 = .ok (.iadd, 1) := by decide +kernel
theorem dX6_match_111 : decode cX6_match 111 = .ok (.iaload, 1) := by decide +kernel
theorem dX6_match_112 : decode cX6_match 112 = .ok (.iadd, 1) := by decide +kernel
theorem dX6_match_113 : decode cX6_match 113 = .ok (.iload 4, 2) := by decide +kernel
theorem dX6_match_115 : decode cX6_match 115 = .ok (.if_icmp .ne 7, 3) := by decide +kernel
theorem dX6_match_118 : decode cX6_match 118 = .ok (.iconst 1, 1) := by decide +kernel
theorem dX6_match_119 : decode cX6_match 119 = .ok (.goto 4, 3) := by decide +kernel
theorem dX6_match_122 : decode cX6_match 122 = .ok (.iconst 0, 1) := by decide +kernel
theorem dX6_match_123 : decode cX6_match 123 = .ok (.istore 8, 2) := by decide +kernel
theorem dX6_match_125 : decode cX6_match 125 = .ok (.aload_n 0, 1) := by decide +kernel
theorem dX6_match_126 : decode cX6_match 126 = .ok (.getfield 44, 3) := by decide +kernel
theorem dX6_match_129 : decode cX6_match 129 = .ok (.iload 6, 2) := by decide +kernel
theorem dX6_match_131 : decode cX6_match 131 = .ok (.iload 8, 2) := by decide +kernel
theorem dX6_match_133 : decode cX6_match 133 = .ok (.ifCond .eq 8, 3) := by decide +kernel
theorem dX6_match_136 : decode cX6_match 136 = .ok (.iload 7, 2) := by decide +kernel
theorem dX6_match_138 : decode cX6_match 138 = .ok (.goto 10, 3) := by decide +kernel
theorem dX6_match_141 : decode cX6_match 141 = .ok (.aload_n 0, 1) := by decide +kernel
theorem dX6_match_142 : decode cX6_match 142 = .ok (.getfield 44, 3) := by decide +kernel
theorem dX6_match_145 : decode cX6_match 145 = .ok (.iload 6, 2) := by decide +kernel
theorem dX6_match_147 : decode cX6_match 147 = .ok (.iaload, 1) := by decide +kernel
theorem dX6_match_148 : decode cX6_match 148 = .ok (.iastore, 1) := by decide +kernel
theorem dX6_match_149 : decode cX6_match 149 = .ok (.iinc 7 (-1), 3) := by decide +kernel
theorem dX6_match_152 : decode cX6_match 152 = .ok (.goto (-109), 3) := by decide +kernel
theorem dX6_match_155 : decode cX6_match 155 = .ok (.iload 5, 2) := by decide +kernel
theorem dX6_match_157 : decode cX6_match 157 = .ok (.aload_n 0, 1) := by decide +kernel
theorem dX6_match_158 : decode cX6_match 158 = .ok (.getfield 44, 3) := by decide +kernel
theorem dX6_match_161 : decode cX6_match 161 = .ok (.iload 6, 2) := by decide +kernel
theorem dX6_match_163 : decode cX6_match 163 = .ok (.iaload, 1) := by decide +kernel
theorem dX6_match_164 : decode cX6_match 164 = .ok (.bipush (-9), 2) := by decide +kernel
theorem dX6_match_166 : decode cX6_match 166 = .ok (.if_icmp .ne 7, 3) := by decide +kernel
theorem dX6_match_169 : decode cX6_match 169 = .ok (.iconst 0, 1) := by decide +kernel
theorem dX6_match_170 : decode cX6_match 170 = .ok (.goto 12, 3) := by decide +kernel
theorem dX6_match_173 : decode cX6_match 173 = .ok (.iconst 1, 1) := by decide +kernel
theorem dX6_match_174 : decode cX6_match 174 = .ok (.aload_n 0, 1) := by decide +kernel
theorem dX6_match_175 : decode cX6_match 175 = .ok (.getfield 44, 3) := by decide +kernel
theorem dX6_match_178 : decode cX6_match 178 = .ok (.iload 6, 2) := by decide +kernel
theorem dX6_match_180 : decode cX6_match 180 = .ok (.iaload, 1) := by decide +kernel
theorem dX6_match_181 : decode cX6_match 181 = .ok (.ishl, 1) := by decide +kernel
theorem dX6_match_182 : decode cX6_match 182 = .ok (.ior, 1) := by decide +kernel
theorem dX6_match_183 : decode cX6_match 183 = .ok (.istore 5, 2) := by decide +kernel
theorem dX6_match_185 : decode cX6_match 185 = .ok (.aload_n 0, 1) := by decide +kernel
theorem dX6_match_186 : decode cX6_match 186 = .ok (.getfield 35, 3) := by decide +kernel
theorem dX6_match_189 : decode cX6_match 189 = .ok (.sipush 256, 3) := by decide +kernel
theorem dX6_match_192 : decode cX6_match 192 = .ok (.iload 6, 2) := by decide +kernel
theorem dX6_match_194 : decode cX6_match 194 = .ok (.imul, 1) := by decide +kernel
theorem dX6_match_195 : decode cX6_match 195 = .ok (.sipush 256, 3) := by decide +kernel
theorem dX6_match_198 : decode cX6_match 198 = .ok (.iadd, 1) := by decide +kernel
theorem dX6_match_199 : decode cX6_match 199 = .ok (.iload 5, 2) := by decide +kernel
theorem dX6_match_201 : decode cX6_match 201 = .ok (.iadd, 1) := by decide +kernel
theorem dX6_match_202 : decode cX6_match 202 = .ok (.iaload, 1) := by decide +kernel
theorem dX6_match_203 : decode cX6_match 203 = .ok (.istore 4, 2) := by decide +kernel
theorem dX6_match_205 : decode cX6_match 205 = .ok (.iinc 6 1, 3) := by decide +kernel
theorem dX6_match_208 : decode cX6_match 208 = .ok (.goto (-193), 3) := by decide +kernel
theorem dX6_match_211 : decode cX6_match 211 = .ok (.return_, 1) := by decide +kernel
theorem dX6_mayAsk_0 : decode cX6_mayAsk 0 = .ok (.aload_n 0, 1) := by decide +kernel
theorem dX6_mayAsk_1 : decode cX6_mayAsk 1 = .ok (.iload_n 1, 1) := by decide +kernel
theorem dX6_mayAsk_2 : decode cX6_mayAsk 2 = .ok (.invokevirtual 69, 3) := by decide +kernel
theorem dX6_mayAsk_5 : decode cX6_mayAsk 5 = .ok (.ifCond .ne 7, 3) := by decide +kernel
theorem dX6_mayAsk_8 : decode cX6_mayAsk 8 = .ok (.iconst (-1), 1) := by decide +kernel
theorem dX6_mayAsk_9 : decode cX6_mayAsk 9 = .ok (.goto 23, 3) := by decide +kernel
theorem dX6_mayAsk_12 : decode cX6_mayAsk 12 = .ok (.iload_n 2, 1) := by decide +kernel
theorem dX6_mayAsk_13 : decode cX6_mayAsk 13 = .ok (.invokestatic 90, 3) := by decide +kernel
theorem dX6_mayAsk_16 : decode cX6_mayAsk 16 = .ok (.ifCond .eq 10, 3) := by decide +kernel
theorem dX6_mayAsk_19 : decode cX6_mayAsk 19 = .ok (.iload_n 3, 1) := by decide +kernel
theorem dX6_mayAsk_20 : decode cX6_mayAsk 20 = .ok (.invokestatic 117, 3) := by decide +kernel
theorem dX6_mayAsk_23 : decode cX6_mayAsk 23 = .ok (.ifCond .ne 8, 3) := by decide +kernel
theorem dX6_mayAsk_26 : decode cX6_mayAsk 26 = .ok (.bipush (-2), 2) := by decide +kernel
theorem dX6_mayAsk_28 : decode cX6_mayAsk 28 = .ok (.goto 4, 3) := by decide +kernel
theorem dX6_mayAsk_31 : decode cX6_mayAsk 31 = .ok (.iconst 0, 1) := by decide +kernel
theorem dX6_mayAsk_32 : decode cX6_mayAsk 32 = .ok (.ireturn, 1) := by decide +kernel
theorem dX6_best_0 : decode cX6_best 0 = .ok (.aload_n 0, 1) := by decide +kernel
theorem dX6_best_1 : decode cX6_best 1 = .ok (.iload_n 1, 1) := by decide +kernel
theorem dX6_best_2 : decode cX6_best 2 = .ok (.iload_n 2, 1) := by decide +kernel
theorem dX6_best_3 : decode cX6_best 3 = .ok (.iload_n 3, 1) := by decide +kernel
theorem dX6_best_4 : decode cX6_best 4 = .ok (.invokevirtual 128, 3) := by decide +kernel
theorem dX6_best_7 : decode cX6_best 7 = .ok (.istore 4, 2) := by decide +kernel
theorem dX6_best_9 : decode cX6_best 9 = .ok (.iload 4, 2) := by decide +kernel
theorem dX6_best_11 : decode cX6_best 11 = .ok (.ifCond .ge 8, 3) := by decide +kernel
theorem dX6_best_14 : decode cX6_best 14 = .ok (.iload 4, 2) := by decide +kernel
theorem dX6_best_16 : decode cX6_best 16 = .ok (.goto 10, 3) := by decide +kernel
theorem dX6_best_19 : decode cX6_best 19 = .ok (.aload_n 0, 1) := by decide +kernel
theorem dX6_best_20 : decode cX6_best 20 = .ok (.iload_n 1, 1) := by decide +kernel
theorem dX6_best_21 : decode cX6_best 21 = .ok (.iload_n 2, 1) := by decide +kernel
theorem dX6_best_22 : decode cX6_best 22 = .ok (.iload_n 3, 1) := by decide +kernel
theorem dX6_best_23 : decode cX6_best 23 = .ok (.invokevirtual 124, 3) := by decide +kernel
theorem dX6_best_26 : decode cX6_best 26 = .ok (.ireturn, 1) := by decide +kernel
theorem dX6_matched_0 : decode cX6_matched 0 = .ok (.aload_n 0, 1) := by decide +kernel
theorem dX6_matched_1 : decode cX6_matched 1 = .ok (.iload_n 1, 1) := by decide +kernel
theorem dX6_matched_2 : decode cX6_matched 2 = .ok (.iload_n 2, 1) := by decide +kernel
theorem dX6_matched_3 : decode cX6_matched 3 = .ok (.invokevirtual 99, 3) := by decide +kernel
theorem dX6_matched_6 : decode cX6_matched 6 = .ok (.ifCond .ne 5, 3) := by decide +kernel
theorem dX6_matched_9 : decode cX6_matched 9 = .ok (.iconst (-1), 1) := by decide +kernel
theorem dX6_matched_10 : decode cX6_matched 10 = .ok (.ireturn, 1) := by decide +kernel
theorem dX6_matched_11 : decode cX6_matched 11 = .ok (.iload_n 3, 1) := by decide +kernel
theorem dX6_matched_12 : decode cX6_matched 12 = .ok (.invokestatic 90, 3) := by decide +kernel
theorem dX6_matched_15 : decode cX6_matched 15 = .ok (.ifCond .eq 11, 3) := by decide +kernel
theorem dX6_matched_18 : decode cX6_matched 18 = .ok (.iload 4, 2) := by decide +kernel
theorem dX6_matched_20 : decode cX6_matched 20 = .ok (.invokestatic 117, 3) := by decide +kernel
theorem dX6_matched_23 : decode cX6_matched 23 = .ok (.ifCond .ne 6, 3) := by decide +kernel
theorem dX6_matched_26 : decode cX6_matched 26 = .ok (.bipush (-2), 2) := by decide +kernel
theorem dX6_matched_28 : decode cX6_matched 28 = .ok (.ireturn, 1) := by decide +kernel
theorem dX6_matched_29 : decode cX6_matched 29 = .ok (.aload_n 0, 1) := by decide +kernel
theorem dX6_matched_30 : decode cX6_matched 30 = .ok (.iload_n 1, 1) := by decide +kernel
theorem dX6_matched_31 : decode cX6_matched 31 = .ok (.iload_n 3, 1) := by decide +kernel
theorem dX6_matched_32 : decode cX6_matched 32 = .ok (.iload 4, 2) := by decide +kernel
theorem dX6_matched_34 : decode cX6_matched 34 = .ok (.invokevirtual 131, 3) := by decide +kernel
theorem dX6_matched_37 : decode cX6_matched 37 = .ok (.aload_n 0, 1) := by decide +kernel
theorem dX6_matched_38 : decode cX6_matched 38 = .ok (.getfield 44, 3) := by decide +kernel
theorem dX6_matched_41 : decode cX6_matched 41 = .ok (.iload_n 2, 1) := by decide +kernel
theorem dX6_matched_42 : decode cX6_matched 42 = .ok (.iaload, 1) := by decide +kernel
theorem dX6_matched_43 : decode cX6_matched 43 = .ok (.ireturn, 1) := by decide +kernel
theorem dX6_areYears_0 : decode cX6_areYears 0 = .ok (.iload_n 0, 1) := by decide +kernel
theorem dX6_areYears_1 : decode cX6_areYears 1 = .ok (.invokestatic 90, 3) := by decide +kernel
theorem dX6_areYears_4 : decode cX6_areYears 4 = .ok (.ifCond .eq 30, 3) := by decide +kernel
theorem dX6_areYears_7 : decode cX6_areYears 7 = .ok (.iload_n 1, 1) := by decide +kernel
theorem dX6_areYears_8 : decode cX6_areYears 8 = .ok (.invokestatic 90, 3) := by decide +kernel
theorem dX6_areYears_11 : decode cX6_areYears 11 = .ok (.ifCond .eq 23, 3) := by decide +kernel
theorem dX6_areYears_14 : decode cX6_areYears 14 = .ok (.iload_n 1, 1) := by decide +kernel
theorem dX6_areYears_15 : decode cX6_areYears 15 = .ok (.iload_n 0, 1) := by decide +kernel
theorem dX6_areYears_16 : decode cX6_areYears 16 = .ok (.if_icmp .lt 18, 3) := by decide +kernel
theorem dX6_areYears_19 : decode cX6_areYears 19 = .ok (.iload_n 1, 1) := by decide +kernel
theorem dX6_areYears_20 : decode cX6_areYears 20 = .ok (.iload_n 0, 1) := by decide +kernel
theorem dX6_areYears_21 : decode cX6_areYears 21 = .ok (.isub, 1) := by decide +kernel
theorem dX6_areYears_22 : decode cX6_areYears 22 = .ok (.bipush 10, 2) := by decide +kernel
theorem dX6_areYears_24 : decode cX6_areYears 24 = .ok (.idiv, 1) := by decide +kernel
theorem dX6_areYears_25 : decode cX6_areYears 25 = .ok (.bipush 40, 2) := by decide +kernel
theorem dX6_areYears_27 : decode cX6_areYears 27 = .ok (.if_icmp .gt 7, 3) := by decide +kernel
theorem dX6_areYears_30 : decode cX6_areYears 30 = .ok (.iconst 1, 1) := by decide +kernel
theorem dX6_areYears_31 : decode cX6_areYears 31 = .ok (.goto 4, 3) := by decide +kernel
theorem dX6_areYears_34 : decode cX6_areYears 34 = .ok (.iconst 0, 1) := by decide +kernel
theorem dX6_areYears_35 : decode cX6_areYears 35 = .ok (.ireturn, 1) := by decide +kernel
theorem dX6_datedTo_0 : decode cX6_datedTo 0 = .ok (.iload_n 3, 1) := by decide +kernel
theorem dX6_datedTo_1 : decode cX6_datedTo 1 = .ok (.istore 5, 2) := by decide +kernel
theorem dX6_datedTo_3 : decode cX6_datedTo 3 = .ok (.aload_n 0, 1) := by decide +kernel
theorem dX6_datedTo_4 : decode cX6_datedTo 4 = .ok (.iload_n 1, 1) := by decide +kernel
theorem dX6_datedTo_5 : decode cX6_datedTo 5 = .ok (.iload_n 3, 1) := by decide +kernel
theorem dX6_datedTo_6 : decode cX6_datedTo 6 = .ok (.iload_n 2, 1) := by decide +kernel
theorem dX6_datedTo_7 : decode cX6_datedTo 7 = .ok (.invokevirtual 124, 3) := by decide +kernel
theorem dX6_datedTo_10 : decode cX6_datedTo 10 = .ok (.istore 6, 2) := by decide +kernel
theorem dX6_datedTo_12 : decode cX6_datedTo 12 = .ok (.iload_n 3, 1) := by decide +kernel
theorem dX6_datedTo_13 : decode cX6_datedTo 13 = .ok (.bipush 10, 2) := by decide +kernel
theorem dX6_datedTo_15 : decode cX6_datedTo 15 = .ok (.iadd, 1) := by decide +kernel
theorem dX6_datedTo_16 : decode cX6_datedTo 16 = .ok (.istore 7, 2) := by decide +kernel
theorem dX6_datedTo_18 : decode cX6_datedTo 18 = .ok (.iload 7, 2) := by decide +kernel
theorem dX6_datedTo_20 : decode cX6_datedTo 20 = .ok (.iload 4, 2) := by decide +kernel
theorem dX6_datedTo_22 : decode cX6_datedTo 22 = .ok (.if_icmp .gt 51, 3) := by decide +kernel
theorem dX6_datedTo_25 : decode cX6_datedTo 25 = .ok (.aload_n 0, 1) := by decide +kernel
theorem dX6_datedTo_26 : decode cX6_datedTo 26 = .ok (.iload_n 1, 1) := by decide +kernel
theorem dX6_datedTo_27 : decode cX6_datedTo 27 = .ok (.iload 7, 2) := by decide +kernel
theorem dX6_datedTo_29 : decode cX6_datedTo 29 = .ok (.iload_n 2, 1) := by decide +kernel
theorem dX6_datedTo_30 : decode cX6_datedTo 30 = .ok (.invokevirtual 124, 3) := by decide +kernel
theorem dX6_datedTo_33 : decode cX6_datedTo 33 = .ok (.istore 8, 2) := by decide +kernel
theorem dX6_datedTo_35 : decode cX6_datedTo 35 = .ok (.iload 8, 2) := by decide +kernel
theorem dX6_datedTo_37 : decode cX6_datedTo 37 = .ok (.iload 6, 2) := by decide +kernel
theorem dX6_datedTo_39 : decode cX6_datedTo 39 = .ok (.if_icmp .ge 8, 3) := by decide +kernel
theorem dX6_datedTo_42 : decode cX6_datedTo 42 = .ok (.iload 7, 2) := by decide +kernel
theorem dX6_datedTo_44 : decode cX6_datedTo 44 = .ok (.goto 5, 3) := by decide +kernel
theorem dX6_datedTo_47 : decode cX6_datedTo 47 = .ok (.iload 5, 2) := by decide +kernel
theorem dX6_datedTo_49 : decode cX6_datedTo 49 = .ok (.istore 5, 2) := by decide +kernel
theorem dX6_datedTo_51 : decode cX6_datedTo 51 = .ok (.iload 8, 2) := by decide +kernel
theorem dX6_datedTo_53 : decode cX6_datedTo 53 = .ok (.iload 6, 2) := by decide +kernel
theorem dX6_datedTo_55 : decode cX6_datedTo 55 = .ok (.if_icmp .ge 8, 3) := by decide +kernel
theorem dX6_datedTo_58 : decode cX6_datedTo 58 = .ok (.iload 8, 2) := by decide +kernel
theorem dX6_datedTo_60 : decode cX6_datedTo 60 = .ok (.goto 5, 3) := by decide +kernel
theorem dX6_datedTo_63 : decode cX6_datedTo 63 = .ok (.iload 6, 2) := by decide +kernel
theorem dX6_datedTo_65 : decode cX6_datedTo 65 = .ok (.istore 6, 2) := by decide +kernel
theorem dX6_datedTo_67 : decode cX6_datedTo 67 = .ok (.iinc 7 10, 3) := by decide +kernel
theorem dX6_datedTo_70 : decode cX6_datedTo 70 = .ok (.goto (-52), 3) := by decide +kernel
theorem dX6_datedTo_73 : decode cX6_datedTo 73 = .ok (.iload 5, 2) := by decide +kernel
theorem dX6_datedTo_75 : decode cX6_datedTo 75 = .ok (.ireturn, 1) := by decide +kernel
theorem dX6_dated_0 : decode cX6_dated 0 = .ok (.aload_n 0, 1) := by decide +kernel
theorem dX6_dated_1 : decode cX6_dated 1 = .ok (.iload_n 1, 1) := by decide +kernel
theorem dX6_dated_2 : decode cX6_dated 2 = .ok (.invokevirtual 69, 3) := by decide +kernel
theorem dX6_dated_5 : decode cX6_dated 5 = .ok (.ifCond .ne 5, 3) := by decide +kernel
theorem dX6_dated_8 : decode cX6_dated 8 = .ok (.iconst (-1), 1) := by decide +kernel
theorem dX6_dated_9 : decode cX6_dated 9 = .ok (.ireturn, 1) := by decide +kernel
theorem dX6_dated_10 : decode cX6_dated 10 = .ok (.iload_n 2, 1) := by decide +kernel
theorem dX6_dated_11 : decode cX6_dated 11 = .ok (.invokestatic 117, 3) := by decide +kernel
theorem dX6_dated_14 : decode cX6_dated 14 = .ok (.ifCond .eq 28, 3) := by decide +kernel
theorem dX6_dated_17 : decode cX6_dated 17 = .ok (.iload_n 3, 1) := by decide +kernel
theorem dX6_dated_18 : decode cX6_dated 18 = .ok (.iload 4, 2) := by decide +kernel
theorem dX6_dated_20 : decode cX6_dated 20 = .ok (.invokestatic 135, 3) := by decide +kernel
theorem dX6_dated_23 : decode cX6_dated 23 = .ok (.ifCond .eq 19, 3) := by decide +kernel
theorem dX6_dated_26 : decode cX6_dated 26 = .ok (.aload_n 0, 1) := by decide +kernel
theorem dX6_dated_27 : decode cX6_dated 27 = .ok (.iload_n 1, 1) := by decide +kernel
theorem dX6_dated_28 : decode cX6_dated 28 = .ok (.iload_n 2, 1) := by decide +kernel
theorem dX6_dated_29 : decode cX6_dated 29 = .ok (.iload_n 3, 1) := by decide +kernel
theorem dX6_dated_30 : decode cX6_dated 30 = .ok (.iload 4, 2) := by decide +kernel
theorem dX6_dated_32 : decode cX6_dated 32 = .ok (.invokevirtual 138, 3) := by decide +kernel
theorem dX6_dated_35 : decode cX6_dated 35 = .ok (.sipush 3000, 3) := by decide +kernel
theorem dX6_dated_38 : decode cX6_dated 38 = .ok (.iadd, 1) := by decide +kernel
theorem dX6_dated_39 : decode cX6_dated 39 = .ok (.goto 5, 3) := by decide +kernel
theorem dX6_dated_42 : decode cX6_dated 42 = .ok (.bipush (-2), 2) := by decide +kernel
theorem dX6_dated_44 : decode cX6_dated 44 = .ok (.ireturn, 1) := by decide +kernel
theorem dX6_doubt_0 : decode cX6_doubt 0 = .ok (.aload_n 0, 1) := by decide +kernel
theorem dX6_doubt_1 : decode cX6_doubt 1 = .ok (.iload_n 1, 1) := by decide +kernel
theorem dX6_doubt_2 : decode cX6_doubt 2 = .ok (.invokevirtual 69, 3) := by decide +kernel
theorem dX6_doubt_5 : decode cX6_doubt 5 = .ok (.ifCond .ne 5, 3) := by decide +kernel
theorem dX6_doubt_8 : decode cX6_doubt 8 = .ok (.iconst (-1), 1) := by decide +kernel
theorem dX6_doubt_9 : decode cX6_doubt 9 = .ok (.ireturn, 1) := by decide +kernel
theorem dX6_doubt_10 : decode cX6_doubt 10 = .ok (.iload_n 2, 1) := by decide +kernel
theorem dX6_doubt_11 : decode cX6_doubt 11 = .ok (.invokestatic 117, 3) := by decide +kernel
theorem dX6_doubt_14 : decode cX6_doubt 14 = .ok (.ifCond .eq 24, 3) := by decide +kernel
theorem dX6_doubt_17 : decode cX6_doubt 17 = .ok (.iload_n 3, 1) := by decide +kernel
theorem dX6_doubt_18 : decode cX6_doubt 18 = .ok (.iload 4, 2) := by decide +kernel
theorem dX6_doubt_20 : decode cX6_doubt 20 = .ok (.invokestatic 135, 3) := by decide +kernel
theorem dX6_doubt_23 : decode cX6_doubt 23 = .ok (.ifCond .eq 15, 3) := by decide +kernel
theorem dX6_doubt_26 : decode cX6_doubt 26 = .ok (.iload 5, 2) := by decide +kernel
theorem dX6_doubt_28 : decode cX6_doubt 28 = .ok (.iconst 0, 1) := by decide +kernel
theorem dX6_doubt_29 : decode cX6_doubt 29 = .ok (.sipush 800, 3) := by decide +kernel
theorem dX6_doubt_32 : decode cX6_doubt 32 = .ok (.invokestatic 59, 3) := by decide +kernel
theorem dX6_doubt_35 : decode cX6_doubt 35 = .ok (.ifCond .ne 6, 3) := by decide +kernel
theorem dX6_doubt_38 : decode cX6_doubt 38 = .ok (.bipush (-2), 2) := by decide +kernel
theorem dX6_doubt_40 : decode cX6_doubt 40 = .ok (.ireturn, 1) := by decide +kernel
theorem dX6_doubt_41 : decode cX6_doubt 41 = .ok (.aload_n 0, 1) := by decide +kernel
theorem dX6_doubt_42 : decode cX6_doubt 42 = .ok (.iload_n 1, 1) := by decide +kernel
theorem dX6_doubt_43 : decode cX6_doubt 43 = .ok (.aload_n 0, 1) := by decide +kernel
theorem dX6_doubt_44 : decode cX6_doubt 44 = .ok (.iload_n 1, 1) := by decide +kernel
theorem dX6_doubt_45 : decode cX6_doubt 45 = .ok (.iload_n 2, 1) := by decide +kernel
theorem dX6_doubt_46 : decode cX6_doubt 46 = .ok (.iload_n 3, 1) := by decide +kernel
theorem dX6_doubt_47 : decode cX6_doubt 47 = .ok (.iload 4, 2) := by decide +kernel
theorem dX6_doubt_49 : decode cX6_doubt 49 = .ok (.invokevirtual 138, 3) := by decide +kernel
theorem dX6_doubt_52 : decode cX6_doubt 52 = .ok (.iload_n 2, 1) := by decide +kernel
theorem dX6_doubt_53 : decode cX6_doubt 53 = .ok (.invokevirtual 124, 3) := by decide +kernel
theorem dX6_doubt_56 : decode cX6_doubt 56 = .ok (.istore 6, 2) := by decide +kernel
theorem dX6_doubt_58 : decode cX6_doubt 58 = .ok (.iconst 0, 1) := by decide +kernel
theorem dX6_doubt_59 : decode cX6_doubt 59 = .ok (.istore 7, 2) := by decide +kernel
theorem dX6_doubt_61 : decode cX6_doubt 61 = .ok (.iload_n 3, 1) := by decide +kernel
theorem dX6_doubt_62 : decode cX6_doubt 62 = .ok (.istore 8, 2) := by decide +kernel
theorem dX6_doubt_64 : decode cX6_doubt 64 = .ok (.iload 8, 2) := by decide +kernel
theorem dX6_doubt_66 : decode cX6_doubt 66 = .ok (.iload 4, 2) := by decide +kernel
theorem dX6_doubt_68 : decode cX6_doubt 68 = .ok (.if_icmp .gt 35, 3) := by decide +kernel
theorem dX6_doubt_71 : decode cX6_doubt 71 = .ok (.iload 7, 2) := by decide +kernel
theorem dX6_doubt_73 : decode cX6_doubt 73 = .ok (.aload_n 0, 1) := by decide +kernel
theorem dX6_doubt_74 : decode cX6_doubt 74 = .ok (.iload_n 1, 1) := by decide +kernel
theorem dX6_doubt_75 : decode cX6_doubt 75 = .ok (.iload 8, 2) := by decide +kernel
theorem dX6_doubt_77 : decode cX6_doubt 77 = .ok (.iload_n 2, 1) := by decide +kernel
theorem dX6_doubt_78 : decode cX6_doubt 78 = .ok (.invokevirtual 124, 3) := by decide +kernel
theorem dX6_doubt_81 : decode cX6_doubt 81 = .ok (.iload 6, 2) := by decide +kernel
theorem dX6_doubt_83 : decode cX6_doubt 83 = .ok (.iload 5, 2) := by decide +kernel
theorem dX6_doubt_85 : decode cX6_doubt 85 = .ok (.iadd, 1) := by decide +kernel
theorem dX6_doubt_86 : decode cX6_doubt 86 = .ok (.if_icmp .gt 7, 3) := by decide +kernel
theorem dX6_doubt_89 : decode cX6_doubt 89 = .ok (.iconst 1, 1) := by decide +kernel
theorem dX6_doubt_90 : decode cX6_doubt 90 = .ok (.goto 4, 3) := by decide +kernel
theorem dX6_doubt_93 : decode cX6_doubt 93 = .ok (.iconst 0, 1) := by decide +kernel
theorem dX6_doubt_94 : decode cX6_doubt 94 = .ok (.iadd, 1) := by decide +kernel
theorem dX6_doubt_95 : decode cX6_doubt 95 = .ok (.istore 7, 2) := by decide +kernel
theorem dX6_doubt_97 : decode cX6_doubt 97 = .ok (.iinc 8 10, 3) := by decide +kernel
theorem dX6_doubt_100 : decode cX6_doubt 100 = .ok (.goto (-36), 3) := by decide +kernel
theorem dX6_doubt_103 : decode cX6_doubt 103 = .ok (.iload 7, 2) := by decide +kernel
theorem dX6_doubt_105 : decode cX6_doubt 105 = .ok (.ireturn, 1) := by decide +kernel
theorem dX6_shift_0 : decode cX6_shift 0 = .ok (.aload_n 0, 1) := by decide +kernel
theorem dX6_shift_1 : decode cX6_shift 1 = .ok (.iload_n 1, 1) := by decide +kernel
theorem dX6_shift_2 : decode cX6_shift 2 = .ok (.invokevirtual 69, 3) := by decide +kernel
theorem dX6_shift_5 : decode cX6_shift 5 = .ok (.ifCond .ne 5, 3) := by decide +kernel
theorem dX6_shift_8 : decode cX6_shift 8 = .ok (.iconst (-1), 1) := by decide +kernel
theorem dX6_shift_9 : decode cX6_shift 9 = .ok (.ireturn, 1) := by decide +kernel
theorem dX6_shift_10 : decode cX6_shift 10 = .ok (.iload_n 2, 1) := by decide +kernel
theorem dX6_shift_11 : decode cX6_shift 11 = .ok (.invokestatic 90, 3) := by decide +kernel
theorem dX6_shift_14 : decode cX6_shift 14 = .ok (.ifCond .ne 6, 3) := by decide +kernel
theorem dX6_shift_17 : decode cX6_shift 17 = .ok (.bipush (-2), 2) := by decide +kernel
theorem dX6_shift_19 : decode cX6_shift 19 = .ok (.ireturn, 1) := by decide +kernel
theorem dX6_shift_20 : decode cX6_shift 20 = .ok (.aload_n 0, 1) := by decide +kernel
theorem dX6_shift_21 : decode cX6_shift 21 = .ok (.iload_n 1, 1) := by decide +kernel
theorem dX6_shift_22 : decode cX6_shift 22 = .ok (.iload_n 2, 1) := by decide +kernel
theorem dX6_shift_23 : decode cX6_shift 23 = .ok (.iconst 0, 1) := by decide +kernel
theorem dX6_shift_24 : decode cX6_shift 24 = .ok (.invokevirtual 131, 3) := by decide +kernel
theorem dX6_shift_27 : decode cX6_shift 27 = .ok (.iconst 0, 1) := by decide +kernel
theorem dX6_shift_28 : decode cX6_shift 28 = .ok (.istore_n 3, 1) := by decide +kernel
theorem dX6_shift_29 : decode cX6_shift 29 = .ok (.iconst 0, 1) := by decide +kernel
theorem dX6_shift_30 : decode cX6_shift 30 = .ok (.istore 4, 2) := by decide +kernel
theorem dX6_shift_32 : decode cX6_shift 32 = .ok (.iload 4, 2) := by decide +kernel
theorem dX6_shift_34 : decode cX6_shift 34 = .ok (.aload_n 0, 1) := by decide +kernel
theorem dX6_shift_35 : decode cX6_shift 35 = .ok (.getfield 26, 3) := by decide +kernel
theorem dX6_shift_38 : decode cX6_shift 38 = .ok (.iload_n 1, 1) := by decide +kernel
theorem dX6_shift_39 : decode cX6_shift 39 = .ok (.iaload, 1) := by decide +kernel
theorem dX6_shift_40 : decode cX6_shift 40 = .ok (.if_icmp .ge 127, 3) := by decide +kernel
theorem dX6_shift_43 : decode cX6_shift 43 = .ok (.aload_n 0, 1) := by decide +kernel
theorem dX6_shift_44 : decode cX6_shift 44 = .ok (.getfield 44, 3) := by decide +kernel
theorem dX6_shift_47 : decode cX6_shift 47 = .ok (.iload 4, 2) := by decide +kernel
theorem dX6_shift_49 : decode cX6_shift 49 = .ok (.iaload, 1) := by decide +kernel
theorem dX6_shift_50 : decode cX6_shift 50 = .ok (.bipush (-9), 2) := by decide +kernel
theorem dX6_shift_52 : decode cX6_shift 52 = .ok (.if_icmp .eq 109, 3) := by decide +kernel
theorem dX6_shift_55 : decode cX6_shift 55 = .ok (.aload_n 0, 1) := by decide +kernel
theorem dX6_shift_56 : decode cX6_shift 56 = .ok (.getfield 41, 3) := by decide +kernel
theorem dX6_shift_59 : decode cX6_shift 59 = .ok (.bipush 8, 2) := by decide +kernel
theorem dX6_shift_61 : decode cX6_shift 61 = .ok (.iload 4, 2) := by decide +kernel
theorem dX6_shift_63 : decode cX6_shift 63 = .ok (.imul, 1) := by decide +kernel
theorem dX6_shift_64 : decode cX6_shift 64 = .ok (.aload_n 0, 1) := by decide +kernel
theorem dX6_shift_65 : decode cX6_shift 65 = .ok (.getfield 44, 3) := by decide +kernel
theorem dX6_shift_68 : decode cX6_shift 68 = .ok (.iload 4, 2) := by decide +kernel
theorem dX6_shift_70 : decode cX6_shift 70 = .ok (.iaload, 1) := by decide +kernel
theorem dX6_shift_71 : decode cX6_shift 71 = .ok (.iadd, 1) := by decide +kernel
theorem dX6_shift_72 : decode cX6_shift 72 = .ok (.iaload, 1) := by decide +kernel
theorem dX6_shift_73 : decode cX6_shift 73 = .ok (.ifCond .ne 88, 3) := by decide +kernel
theorem dX6_shift_76 : decode cX6_shift 76 = .ok (.aload_n 0, 1) := by decide +kernel
theorem dX6_shift_77 : decode cX6_shift 77 = .ok (.aload_n 0, 1) := by decide +kernel
theorem dX6_shift_78 : decode cX6_shift 78 = .ok (.getfield 44, 3) := by decide +kernel
theorem dX6_shift_81 : decode cX6_shift 81 = .ok (.iload 4, 2) := by decide +kernel
theorem dX6_shift_83 : decode cX6_shift 83 = .ok (.iaload, 1) := by decide +kernel
theorem dX6_shift_84 : decode cX6_shift 84 = .ok (.iload_n 2, 1) := by decide +kernel
theorem dX6_shift_85 : decode cX6_shift 85 = .ok (.invokevirtual 93, 3) := by decide +kernel
theorem dX6_shift_88 : decode cX6_shift 88 = .ok (.aload_n 0, 1) := by decide +kernel
theorem dX6_shift_89 : decode cX6_shift 89 = .ok (.getfield 29, 3) := by decide +kernel
theorem dX6_shift_92 : decode cX6_shift 92 = .ok (.bipush 8, 2) := by decide +kernel
theorem dX6_shift_94 : decode cX6_shift 94 = .ok (.iload_n 1, 1) := by decide +kernel
theorem dX6_shift_95 : decode cX6_shift 95 = .ok (.imul, 1) := by decide +kernel
theorem dX6_shift_96 : decode cX6_shift 96 = .ok (.iload 4, 2) := by decide +kernel
theorem dX6_shift_98 : decode cX6_shift 98 = .ok (.iadd, 1) := by decide +kernel
theorem dX6_shift_99 : decode cX6_shift 99 = .ok (.iaload, 1) := by decide +kernel
theorem dX6_shift_100 : decode cX6_shift 100 = .ok (.invokestatic 96, 3) := by decide +kernel
theorem dX6_shift_103 : decode cX6_shift 103 = .ok (.istore 5, 2) := by decide +kernel
theorem dX6_shift_105 : decode cX6_shift 105 = .ok (.iload_n 3, 1) := by decide +kernel
theorem dX6_shift_106 : decode cX6_shift 106 = .ok (.istore 6, 2) := by decide +kernel
theorem dX6_shift_108 : decode cX6_shift 108 = .ok (.iload 6, 2) := by decide +kernel
theorem dX6_shift_110 : decode cX6_shift 110 = .ok (.ifCond .le 39, 3) := by decide +kernel
theorem dX6_shift_113 : decode cX6_shift 113 = .ok (.aload_n 0, 1) := by decide +kernel
theorem dX6_shift_114 : decode cX6_shift 114 = .ok (.getfield 47, 3) := by decide +kernel
theorem dX6_shift_117 : decode cX6_shift 117 = .ok (.iload 6, 2) := by decide +kernel
theorem dX6_shift_119 : decode cX6_shift 119 = .ok (.iconst 1, 1) := by decide +kernel
theorem dX6_shift_120 : decode cX6_shift 120 = .ok (.isub, 1) := by decide +kernel
theorem dX6_shift_121 : decode cX6_shift 121 = .ok (.iaload, 1) := by decide +kernel
theorem dX6_shift_122 : decode cX6_shift 122 = .ok (.iload 5, 2) := by decide +kernel
theorem dX6_shift_124 : decode cX6_shift 124 = .ok (.if_icmp .le 25, 3) := by decide +kernel
theorem dX6_shift_127 : decode cX6_shift 127 = .ok (.aload_n 0, 1) := by decide +kernel
theorem dX6_shift_128 : decode cX6_shift 128 = .ok (.getfield 47, 3) := by decide +kernel
theorem dX6_shift_131 : decode cX6_shift 131 = .ok (.iload 6, 2) := by decide +kernel
theorem dX6_shift_133 : decode cX6_shift 133 = .ok (.aload_n 0, 1) := by decide +kernel
theorem dX6_shift_134 : decode cX6_shift 134 = .ok (.getfield 47, 3) := by decide +kernel
theorem dX6_shift_137 : decode cX6_shift 137 = .ok (.iload 6, 2) := by decide +kernel
theorem dX6_shift_139 : decode cX6_shift 139 = .ok (.iconst 1, 1) := by decide +kernel
theorem dX6_shift_140 : decode cX6_shift 140 = .ok (.isub, 1) := by decide +kernel
theorem dX6_shift_141 : decode cX6_shift 141 = .ok (.iaload, 1) := by decide +kernel
theorem dX6_shift_142 : decode cX6_shift 142 = .ok (.iastore, 1) := by decide +kernel
theorem dX6_shift_143 : decode cX6_shift 143 = .ok (.iinc 6 (-1), 3) := by decide +kernel
theorem dX6_shift_146 : decode cX6_shift 146 = .ok (.goto (-38), 3) := by decide +kernel
theorem dX6_shift_149 : decode cX6_shift 149 = .ok (.aload_n 0, 1) := by decide +kernel
theorem dX6_shift_150 : decode cX6_shift 150 = .ok (.getfield 47, 3) := by decide +kernel
theorem dX6_shift_153 : decode cX6_shift 153 = .ok (.iload 6, 2) := by decide +kernel
theorem dX6_shift_155 : decode cX6_shift 155 = .ok (.iload 5, 2) := by decide +kernel
theorem dX6_shift_157 : decode cX6_shift 157 = .ok (.iastore, 1) := by decide +kernel
theorem dX6_shift_158 : decode cX6_shift 158 = .ok (.iinc 3 1, 3) := by decide +kernel
theorem dX6_shift_161 : decode cX6_shift 161 = .ok (.iinc 4 1, 3) := by decide +kernel
theorem dX6_shift_164 : decode cX6_shift 164 = .ok (.goto (-132), 3) := by decide +kernel
theorem dX6_shift_167 : decode cX6_shift 167 = .ok (.iload_n 3, 1) := by decide +kernel
theorem dX6_shift_168 : decode cX6_shift 168 = .ok (.ifCond .ne 8, 3) := by decide +kernel
theorem dX6_shift_171 : decode cX6_shift 171 = .ok (.bipush (-9), 2) := by decide +kernel
theorem dX6_shift_173 : decode cX6_shift 173 = .ok (.goto 16, 3) := by decide +kernel
theorem dX6_shift_176 : decode cX6_shift 176 = .ok (.aload_n 0, 1) := by decide +kernel
theorem dX6_shift_177 : decode cX6_shift 177 = .ok (.getfield 47, 3) := by decide +kernel
theorem dX6_shift_180 : decode cX6_shift 180 = .ok (.iload_n 3, 1) := by decide +kernel
theorem dX6_shift_181 : decode cX6_shift 181 = .ok (.iconst 1, 1) := by decide +kernel
theorem dX6_shift_182 : decode cX6_shift 182 = .ok (.isub, 1) := by decide +kernel
theorem dX6_shift_183 : decode cX6_shift 183 = .ok (.iconst 2, 1) := by decide +kernel
theorem dX6_shift_184 : decode cX6_shift 184 = .ok (.idiv, 1) := by decide +kernel
theorem dX6_shift_185 : decode cX6_shift 185 = .ok (.iaload, 1) := by decide +kernel
theorem dX6_shift_186 : decode cX6_shift 186 = .ok (.bipush 30, 2) := by decide +kernel
theorem dX6_shift_188 : decode cX6_shift 188 = .ok (.iadd, 1) := by decide +kernel
theorem dX6_shift_189 : decode cX6_shift 189 = .ok (.ireturn, 1) := by decide +kernel
theorem dX6_layFaults_0 : decode cX6_layFaults 0 = .ok (.aload_n 0, 1) := by decide +kernel
theorem dX6_layFaults_1 : decode cX6_layFaults 1 = .ok (.iload_n 1, 1) := by decide +kernel
theorem dX6_layFaults_2 : decode cX6_layFaults 2 = .ok (.iload_n 2, 1) := by decide +kernel
theorem dX6_layFaults_3 : decode cX6_layFaults 3 = .ok (.iload_n 3, 1) := by decide +kernel
theorem dX6_layFaults_4 : decode cX6_layFaults 4 = .ok (.invokevirtual 131, 3) := by decide +kernel
theorem dX6_layFaults_7 : decode cX6_layFaults 7 = .ok (.iconst 0, 1) := by decide +kernel
theorem dX6_layFaults_8 : decode cX6_layFaults 8 = .ok (.istore 4, 2) := by decide +kernel
theorem dX6_layFaults_10 : decode cX6_layFaults 10 = .ok (.iload 4, 2) := by decide +kernel
theorem dX6_layFaults_12 : decode cX6_layFaults 12 = .ok (.bipush 8, 2) := by decide +kernel
theorem dX6_layFaults_14 : decode cX6_layFaults 14 = .ok (.if_icmp .ge 22, 3) := by decide +kernel
theorem dX6_layFaults_17 : decode cX6_layFaults 17 = .ok (.aload_n 0, 1) := by decide +kernel
theorem dX6_layFaults_18 : decode cX6_layFaults 18 = .ok (.getfield 50, 3) := by decide +kernel
theorem dX6_layFaults_21 : decode cX6_layFaults 21 = .ok (.bipush 8, 2) := by decide +kernel
theorem dX6_layFaults_23 : decode cX6_layFaults 23 = .ok (.iload_n 1, 1) := by decide +kernel
theorem dX6_layFaults_24 : decode cX6_layFaults 24 = .ok (.imul, 1) := by decide +kernel
theorem dX6_layFaults_25 : decode cX6_layFaults 25 = .ok (.iload 4, 2) := by decide +kernel
theorem dX6_layFaults_27 : decode cX6_layFaults 27 = .ok (.iadd, 1) := by decide +kernel
theorem dX6_layFaults_28 : decode cX6_layFaults 28 = .ok (.iconst 0, 1) := by decide +kernel
theorem dX6_layFaults_29 : decode cX6_layFaults 29 = .ok (.iastore, 1) := by decide +kernel
theorem dX6_layFaults_30 : decode cX6_layFaults 30 = .ok (.iinc 4 1, 3) := by decide +kernel
theorem dX6_layFaults_33 : decode cX6_layFaults 33 = .ok (.goto (-23), 3) := by decide +kernel
theorem dX6_layFaults_36 : decode cX6_layFaults 36 = .ok (.iconst 0, 1) := by decide +kernel
theorem dX6_layFaults_37 : decode cX6_layFaults 37 = .ok (.istore 4, 2) := by decide +kernel
theorem dX6_layFaults_39 : decode cX6_layFaults 39 = .ok (.iload 4, 2) := by decide +kernel
theorem dX6_layFaults_41 : decode cX6_layFaults 41 = .ok (.aload_n 0, 1) := by decide +kernel
theorem dX6_layFaults_42 : decode cX6_layFaults 42 = .ok (.getfield 26, 3) := by decide +kernel
theorem dX6_layFaults_45 : decode cX6_layFaults 45 = .ok (.iload_n 1, 1) := by decide +kernel
theorem dX6_layFaults_46 : decode cX6_layFaults 46 = .ok (.iaload, 1) := by decide +kernel
theorem dX6_layFaults_47 : decode cX6_layFaults 47 = .ok (.if_icmp .ge 56, 3) := by decide +kernel
theorem dX6_layFaults_50 : decode cX6_layFaults 50 = .ok (.aload_n 0, 1) := by decide +kernel
theorem dX6_layFaults_51 : decode cX6_layFaults 51 = .ok (.getfield 44, 3) := by decide +kernel
theorem dX6_layFaults_54 : decode cX6_layFaults 54 = .ok (.iload 4, 2) := by decide +kernel
theorem dX6_layFaults_56 : decode cX6_layFaults 56 = .ok (.iaload, 1) := by decide +kernel
theorem dX6_layFaults_57 : decode cX6_layFaults 57 = .ok (.bipush (-9), 2) := by decide +kernel
theorem dX6_layFaults_59 : decode cX6_layFaults 59 = .ok (.if_icmp .eq 38, 3) := by decide +kernel
theorem dX6_layFaults_62 : decode cX6_layFaults 62 = .ok (.aload_n 0, 1) := by decide +kernel
theorem dX6_layFaults_63 : decode cX6_layFaults 63 = .ok (.getfield 50, 3) := by decide +kernel
theorem dX6_layFaults_66 : decode cX6_layFaults 66 = .ok (.bipush 8, 2) := by decide +kernel
theorem dX6_layFaults_68 : decode cX6_layFaults 68 = .ok (.iload_n 1, 1) := by decide +kernel
theorem dX6_layFaults_69 : decode cX6_layFaults 69 = .ok (.imul, 1) := by decide +kernel
theorem dX6_layFaults_70 : decode cX6_layFaults 70 = .ok (.aload_n 0, 1) := by decide +kernel
theorem dX6_layFaults_71 : decode cX6_layFaults 71 = .ok (.getfield 44, 3) := by decide +kernel
theorem dX6_layFaults_74 : decode cX6_layFaults 74 = .ok (.iload 4, 2) := by decide +kernel
theorem dX6_layFaults_76 : decode cX6_layFaults 76 = .ok (.iaload, 1) := by decide +kernel
theorem dX6_layFaults_77 : decode cX6_layFaults 77 = .ok (.iadd, 1) := by decide +kernel
theorem dX6_layFaults_78 : decode cX6_layFaults 78 = .ok (.aload_n 0, 1) := by decide +kernel
theorem dX6_layFaults_79 : decode cX6_layFaults 79 = .ok (.getfield 41, 3) := by decide +kernel
theorem dX6_layFaults_82 : decode cX6_layFaults 82 = .ok (.bipush 8, 2) := by decide +kernel
theorem dX6_layFaults_84 : decode cX6_layFaults 84 = .ok (.iload 4, 2) := by decide +kernel
theorem dX6_layFaults_86 : decode cX6_layFaults 86 = .ok (.imul, 1) := by decide +kernel
theorem dX6_layFaults_87 : decode cX6_layFaults 87 = .ok (.aload_n 0, 1) := by decide +kernel
theorem dX6_layFaults_88 : decode cX6_layFaults 88 = .ok (.getfield 44, 3) := by decide +kernel
theorem dX6_layFaults_91 : decode cX6_layFaults 91 = .ok (.iload 4, 2) := by decide +kernel
theorem dX6_layFaults_93 : decode cX6_layFaults 93 = .ok (.iaload, 1) := by decide +kernel
theorem dX6_layFaults_94 : decode cX6_layFaults 94 = .ok (.iadd, 1) := by decide +kernel
theorem dX6_layFaults_95 : decode cX6_layFaults 95 = .ok (.iaload, 1) := by decide +kernel
theorem dX6_layFaults_96 : decode cX6_layFaults 96 = .ok (.iastore, 1) := by decide +kernel
theorem dX6_layFaults_97 : decode cX6_layFaults 97 = .ok (.iinc 4 1, 3) := by decide +kernel
theorem dX6_layFaults_100 : decode cX6_layFaults 100 = .ok (.goto (-61), 3) := by decide +kernel
theorem dX6_layFaults_103 : decode cX6_layFaults 103 = .ok (.return_, 1) := by decide +kernel
theorem dX6_fault_0 : decode cX6_fault 0 = .ok (.aload_n 0, 1) := by decide +kernel
theorem dX6_fault_1 : decode cX6_fault 1 = .ok (.iload_n 1, 1) := by decide +kernel
theorem dX6_fault_2 : decode cX6_fault 2 = .ok (.invokevirtual 69, 3) := by decide +kernel
theorem dX6_fault_5 : decode cX6_fault 5 = .ok (.ifCond .eq 11, 3) := by decide +kernel
theorem dX6_fault_8 : decode cX6_fault 8 = .ok (.aload_n 0, 1) := by decide +kernel
theorem dX6_fault_9 : decode cX6_fault 9 = .ok (.iload_n 2, 1) := by decide +kernel
theorem dX6_fault_10 : decode cX6_fault 10 = .ok (.invokevirtual 87, 3) := by decide +kernel
theorem dX6_fault_13 : decode cX6_fault 13 = .ok (.ifCond .ne 5, 3) := by decide +kernel
theorem dX6_fault_16 : decode cX6_fault 16 = .ok (.iconst (-1), 1) := by decide +kernel
theorem dX6_fault_17 : decode cX6_fault 17 = .ok (.ireturn, 1) := by decide +kernel
theorem dX6_fault_18 : decode cX6_fault 18 = .ok (.iload_n 3, 1) := by decide +kernel
theorem dX6_fault_19 : decode cX6_fault 19 = .ok (.invokestatic 90, 3) := by decide +kernel
theorem dX6_fault_22 : decode cX6_fault 22 = .ok (.ifCond .eq 11, 3) := by decide +kernel
theorem dX6_fault_25 : decode cX6_fault 25 = .ok (.iload 4, 2) := by decide +kernel
theorem dX6_fault_27 : decode cX6_fault 27 = .ok (.invokestatic 117, 3) := by decide +kernel
theorem dX6_fault_30 : decode cX6_fault 30 = .ok (.ifCond .ne 6, 3) := by decide +kernel
theorem dX6_fault_33 : decode cX6_fault 33 = .ok (.bipush (-2), 2) := by decide +kernel
theorem dX6_fault_35 : decode cX6_fault 35 = .ok (.ireturn, 1) := by decide +kernel
theorem dX6_fault_36 : decode cX6_fault 36 = .ok (.aload_n 0, 1) := by decide +kernel
theorem dX6_fault_37 : decode cX6_fault 37 = .ok (.iload_n 1, 1) := by decide +kernel
theorem dX6_fault_38 : decode cX6_fault 38 = .ok (.iload_n 3, 1) := by decide +kernel
theorem dX6_fault_39 : decode cX6_fault 39 = .ok (.iload 4, 2) := by decide +kernel
theorem dX6_fault_41 : decode cX6_fault 41 = .ok (.invokevirtual 142, 3) := by decide +kernel
theorem dX6_fault_44 : decode cX6_fault 44 = .ok (.aload_n 0, 1) := by decide +kernel
theorem dX6_fault_45 : decode cX6_fault 45 = .ok (.getfield 50, 3) := by decide +kernel
theorem dX6_fault_48 : decode cX6_fault 48 = .ok (.bipush 8, 2) := by decide +kernel
theorem dX6_fault_50 : decode cX6_fault 50 = .ok (.iload_n 1, 1) := by decide +kernel
theorem dX6_fault_51 : decode cX6_fault 51 = .ok (.imul, 1) := by decide +kernel
theorem dX6_fault_52 : decode cX6_fault 52 = .ok (.iload_n 2, 1) := by decide +kernel
theorem dX6_fault_53 : decode cX6_fault 53 = .ok (.iadd, 1) := by decide +kernel
theorem dX6_fault_54 : decode cX6_fault 54 = .ok (.iaload, 1) := by decide +kernel
theorem dX6_fault_55 : decode cX6_fault 55 = .ok (.ireturn, 1) := by decide +kernel
theorem dX6_apartOf_0 : decode cX6_apartOf 0 = .ok (.iconst 0, 1) := by decide +kernel
theorem dX6_apartOf_1 : decode cX6_apartOf 1 = .ok (.istore_n 3, 1) := by decide +kernel
theorem dX6_apartOf_2 : decode cX6_apartOf 2 = .ok (.iconst 0, 1) := by decide +kernel
theorem dX6_apartOf_3 : decode cX6_apartOf 3 = .ok (.istore 4, 2) := by decide +kernel
theorem dX6_apartOf_5 : decode cX6_apartOf 5 = .ok (.iload 4, 2) := by decide +kernel
theorem dX6_apartOf_7 : decode cX6_apartOf 7 = .ok (.aload_n 0, 1) := by decide +kernel
theorem dX6_apartOf_8 : decode cX6_apartOf 8 = .ok (.getfield 63, 3) := by decide +kernel
theorem dX6_apartOf_11 : decode cX6_apartOf 11 = .ok (.if_icmp .ge 44, 3) := by decide +kernel
theorem dX6_apartOf_14 : decode cX6_apartOf 14 = .ok (.iload_n 3, 1) := by decide +kernel
theorem dX6_apartOf_15 : decode cX6_apartOf 15 = .ok (.aload_n 0, 1) := by decide +kernel
theorem dX6_apartOf_16 : decode cX6_apartOf 16 = .ok (.getfield 50, 3) := by decide +kernel
theorem dX6_apartOf_19 : decode cX6_apartOf 19 = .ok (.bipush 8, 2) := by decide +kernel
theorem dX6_apartOf_21 : decode cX6_apartOf 21 = .ok (.iload_n 1, 1) := by decide +kernel
theorem dX6_apartOf_22 : decode cX6_apartOf 22 = .ok (.imul, 1) := by decide +kernel
theorem dX6_apartOf_23 : decode cX6_apartOf 23 = .ok (.iload 4, 2) := by decide +kernel
theorem dX6_apartOf_25 : decode cX6_apartOf 25 = .ok (.iadd, 1) := by decide +kernel
theorem dX6_apartOf_26 : decode cX6_apartOf 26 = .ok (.iaload, 1) := by decide +kernel
theorem dX6_apartOf_27 : decode cX6_apartOf 27 = .ok (.aload_n 0, 1) := by decide +kernel
theorem dX6_apartOf_28 : decode cX6_apartOf 28 = .ok (.getfield 50, 3) := by decide +kernel
theorem dX6_apartOf_31 : decode cX6_apartOf 31 = .ok (.bipush 8, 2) := by decide +kernel
theorem dX6_apartOf_33 : decode cX6_apartOf 33 = .ok (.iload_n 2, 1) := by decide +kernel
theorem dX6_apartOf_34 : decode cX6_apartOf 34 = .ok (.imul, 1) := by decide +kernel
theorem dX6_apartOf_35 : decode cX6_apartOf 35 = .ok (.iload 4, 2) := by decide +kernel
theorem dX6_apartOf_37 : decode cX6_apartOf 37 = .ok (.iadd, 1) := by decide +kernel
theorem dX6_apartOf_38 : decode cX6_apartOf 38 = .ok (.iaload, 1) := by decide +kernel
theorem dX6_apartOf_39 : decode cX6_apartOf 39 = .ok (.if_icmp .eq 7, 3) := by decide +kernel
theorem dX6_apartOf_42 : decode cX6_apartOf 42 = .ok (.iconst 1, 1) := by decide +kernel
theorem dX6_apartOf_43 : decode cX6_apartOf 43 = .ok (.goto 4, 3) := by decide +kernel
theorem dX6_apartOf_46 : decode cX6_apartOf 46 = .ok (.iconst 0, 1) := by decide +kernel
theorem dX6_apartOf_47 : decode cX6_apartOf 47 = .ok (.iadd, 1) := by decide +kernel
theorem dX6_apartOf_48 : decode cX6_apartOf 48 = .ok (.istore_n 3, 1) := by decide +kernel
theorem dX6_apartOf_49 : decode cX6_apartOf 49 = .ok (.iinc 4 1, 3) := by decide +kernel
theorem dX6_apartOf_52 : decode cX6_apartOf 52 = .ok (.goto (-47), 3) := by decide +kernel
theorem dX6_apartOf_55 : decode cX6_apartOf 55 = .ok (.iload_n 3, 1) := by decide +kernel
theorem dX6_apartOf_56 : decode cX6_apartOf 56 = .ok (.ireturn, 1) := by decide +kernel
theorem dX6_mayCompare_0 : decode cX6_mayCompare 0 = .ok (.aload_n 0, 1) := by decide +kernel
theorem dX6_mayCompare_1 : decode cX6_mayCompare 1 = .ok (.iload_n 1, 1) := by decide +kernel
theorem dX6_mayCompare_2 : decode cX6_mayCompare 2 = .ok (.invokevirtual 69, 3) := by decide +kernel
theorem dX6_mayCompare_5 : decode cX6_mayCompare 5 = .ok (.ifCond .eq 11, 3) := by decide +kernel
theorem dX6_mayCompare_8 : decode cX6_mayCompare 8 = .ok (.aload_n 0, 1) := by decide +kernel
theorem dX6_mayCompare_9 : decode cX6_mayCompare 9 = .ok (.iload_n 2, 1) := by decide +kernel
theorem dX6_mayCompare_10 : decode cX6_mayCompare 10 = .ok (.invokevirtual 69, 3) := by decide +kernel
theorem dX6_mayCompare_13 : decode cX6_mayCompare 13 = .ok (.ifCond .ne 5, 3) := by decide +kernel
theorem dX6_mayCompare_16 : decode cX6_mayCompare 16 = .ok (.iconst (-1), 1) := by decide +kernel
theorem dX6_mayCompare_17 : decode cX6_mayCompare 17 = .ok (.ireturn, 1) := by decide +kernel
theorem dX6_mayCompare_18 : decode cX6_mayCompare 18 = .ok (.iload_n 3, 1) := by decide +kernel
theorem dX6_mayCompare_19 : decode cX6_mayCompare 19 = .ok (.invokestatic 90, 3) := by decide +kernel
theorem dX6_mayCompare_22 : decode cX6_mayCompare 22 = .ok (.ifCond .eq 11, 3) := by decide +kernel
theorem dX6_mayCompare_25 : decode cX6_mayCompare 25 = .ok (.iload 4, 2) := by decide +kernel
theorem dX6_mayCompare_27 : decode cX6_mayCompare 27 = .ok (.invokestatic 117, 3) := by decide +kernel
theorem dX6_mayCompare_30 : decode cX6_mayCompare 30 = .ok (.ifCond .ne 6, 3) := by decide +kernel
theorem dX6_mayCompare_33 : decode cX6_mayCompare 33 = .ok (.bipush (-2), 2) := by decide +kernel
theorem dX6_mayCompare_35 : decode cX6_mayCompare 35 = .ok (.ireturn, 1) := by decide +kernel
theorem dX6_mayCompare_36 : decode cX6_mayCompare 36 = .ok (.aload_n 0, 1) := by decide +kernel
theorem dX6_mayCompare_37 : decode cX6_mayCompare 37 = .ok (.iload_n 1, 1) := by decide +kernel
theorem dX6_mayCompare_38 : decode cX6_mayCompare 38 = .ok (.iload_n 3, 1) := by decide +kernel
theorem dX6_mayCompare_39 : decode cX6_mayCompare 39 = .ok (.iload 4, 2) := by decide +kernel
theorem dX6_mayCompare_41 : decode cX6_mayCompare 41 = .ok (.invokevirtual 142, 3) := by decide +kernel
theorem dX6_mayCompare_44 : decode cX6_mayCompare 44 = .ok (.aload_n 0, 1) := by decide +kernel
theorem dX6_mayCompare_45 : decode cX6_mayCompare 45 = .ok (.iload_n 2, 1) := by decide +kernel
theorem dX6_mayCompare_46 : decode cX6_mayCompare 46 = .ok (.iload_n 3, 1) := by decide +kernel
theorem dX6_mayCompare_47 : decode cX6_mayCompare 47 = .ok (.iload 4, 2) := by decide +kernel
theorem dX6_mayCompare_49 : decode cX6_mayCompare 49 = .ok (.invokevirtual 142, 3) := by decide +kernel
theorem dX6_mayCompare_52 : decode cX6_mayCompare 52 = .ok (.iconst 0, 1) := by decide +kernel
theorem dX6_mayCompare_53 : decode cX6_mayCompare 53 = .ok (.ireturn, 1) := by decide +kernel
theorem dX6_share_0 : decode cX6_share 0 = .ok (.aload_n 0, 1) := by decide +kernel
theorem dX6_share_1 : decode cX6_share 1 = .ok (.iload_n 1, 1) := by decide +kernel
theorem dX6_share_2 : decode cX6_share 2 = .ok (.iload_n 2, 1) := by decide +kernel
theorem dX6_share_3 : decode cX6_share 3 = .ok (.iload_n 3, 1) := by decide +kernel
theorem dX6_share_4 : decode cX6_share 4 = .ok (.iload 4, 2) := by decide +kernel
theorem dX6_share_6 : decode cX6_share 6 = .ok (.invokevirtual 145, 3) := by decide +kernel
theorem dX6_share_9 : decode cX6_share 9 = .ok (.istore 5, 2) := by decide +kernel
theorem dX6_share_11 : decode cX6_share 11 = .ok (.iload 5, 2) := by decide +kernel
theorem dX6_share_13 : decode cX6_share 13 = .ok (.ifCond .ge 6, 3) := by decide +kernel
theorem dX6_share_16 : decode cX6_share 16 = .ok (.iload 5, 2) := by decide +kernel
theorem dX6_share_18 : decode cX6_share 18 = .ok (.ireturn, 1) := by decide +kernel
theorem dX6_share_19 : decode cX6_share 19 = .ok (.iconst 0, 1) := by decide +kernel
theorem dX6_share_20 : decode cX6_share 20 = .ok (.istore 6, 2) := by decide +kernel
theorem dX6_share_22 : decode cX6_share 22 = .ok (.iconst 0, 1) := by decide +kernel
theorem dX6_share_23 : decode cX6_share 23 = .ok (.istore 7, 2) := by decide +kernel
theorem dX6_share_25 : decode cX6_share 25 = .ok (.iload 7, 2) := by decide +kernel
theorem dX6_share_27 : decode cX6_share 27 = .ok (.aload_n 0, 1) := by decide +kernel
theorem dX6_share_28 : decode cX6_share 28 = .ok (.getfield 63, 3) := by decide +kernel
theorem dX6_share_31 : decode cX6_share 31 = .ok (.if_icmp .ge 61, 3) := by decide +kernel
theorem dX6_share_34 : decode cX6_share 34 = .ok (.iload 6, 2) := by decide +kernel
theorem dX6_share_36 : decode cX6_share 36 = .ok (.aload_n 0, 1) := by decide +kernel
theorem dX6_share_37 : decode cX6_share 37 = .ok (.getfield 50, 3) := by decide +kernel
theorem dX6_share_40 : decode cX6_share 40 = .ok (.bipush 8, 2) := by decide +kernel
theorem dX6_share_42 : decode cX6_share 42 = .ok (.iload_n 1, 1) := by decide +kernel
theorem dX6_share_43 : decode cX6_share 43 = .ok (.imul, 1) := by decide +kernel
theorem dX6_share_44 : decode cX6_share 44 = .ok (.iload 7, 2) := by decide +kernel
theorem dX6_share_46 : decode cX6_share 46 = .ok (.iadd, 1) := by decide +kernel
theorem dX6_share_47 : decode cX6_share 47 = .ok (.iaload, 1) := by decide +kernel
theorem dX6_share_48 : decode cX6_share 48 = .ok (.ifCond .eq 34, 3) := by decide +kernel
theorem dX6_share_51 : decode cX6_share 51 = .ok (.aload_n 0, 1) := by decide +kernel
theorem dX6_share_52 : decode cX6_share 52 = .ok (.getfield 50, 3) := by decide +kernel
theorem dX6_share_55 : decode cX6_share 55 = .ok (.bipush 8, 2) := by decide +kernel
theorem dX6_share_57 : decode cX6_share 57 = .ok (.iload_n 1, 1) := by decide +kernel
theorem dX6_share_58 : decode cX6_share 58 = .ok (.imul, 1) := by decide +kernel
theorem dX6_share_59 : decode cX6_share 59 = .ok (.iload 7, 2) := by decide +kernel
theorem dX6_share_61 : decode cX6_share 61 = .ok (.iadd, 1) := by decide +kernel
theorem dX6_share_62 : decode cX6_share 62 = .ok (.iaload, 1) := by decide +kernel
theorem dX6_share_63 : decode cX6_share 63 = .ok (.aload_n 0, 1) := by decide +kernel
theorem dX6_share_64 : decode cX6_share 64 = .ok (.getfield 50, 3) := by decide +kernel
theorem dX6_share_67 : decode cX6_share 67 = .ok (.bipush 8, 2) := by decide +kernel
theorem dX6_share_69 : decode cX6_share 69 = .ok (.iload_n 2, 1) := by decide +kernel
theorem dX6_share_70 : decode cX6_share 70 = .ok (.imul, 1) := by decide +kernel
theorem dX6_share_71 : decode cX6_share 71 = .ok (.iload 7, 2) := by decide +kernel
theorem dX6_share_73 : decode cX6_share 73 = .ok (.iadd, 1) := by decide +kernel
theorem dX6_share_74 : decode cX6_share 74 = .ok (.iaload, 1) := by decide +kernel
theorem dX6_share_75 : decode cX6_share 75 = .ok (.if_icmp .ne 7, 3) := by decide +kernel
theorem dX6_share_78 : decode cX6_share 78 = .ok (.iconst 1, 1) := by decide +kernel
theorem dX6_share_79 : decode cX6_share 79 = .ok (.goto 4, 3) := by decide +kernel
theorem dX6_share_82 : decode cX6_share 82 = .ok (.iconst 0, 1) := by decide +kernel
theorem dX6_share_83 : decode cX6_share 83 = .ok (.iadd, 1) := by decide +kernel
theorem dX6_share_84 : decode cX6_share 84 = .ok (.istore 6, 2) := by decide +kernel
theorem dX6_share_86 : decode cX6_share 86 = .ok (.iinc 7 1, 3) := by decide +kernel
theorem dX6_share_89 : decode cX6_share 89 = .ok (.goto (-64), 3) := by decide +kernel
theorem dX6_share_92 : decode cX6_share 92 = .ok (.iload 6, 2) := by decide +kernel
theorem dX6_share_94 : decode cX6_share 94 = .ok (.ireturn, 1) := by decide +kernel
theorem dX6_apart_0 : decode cX6_apart 0 = .ok (.aload_n 0, 1) := by decide +kernel
theorem dX6_apart_1 : decode cX6_apart 1 = .ok (.iload_n 1, 1) := by decide +kernel
theorem dX6_apart_2 : decode cX6_apart 2 = .ok (.iload_n 2, 1) := by decide +kernel
theorem dX6_apart_3 : decode cX6_apart 3 = .ok (.iload_n 3, 1) := by decide +kernel
theorem dX6_apart_4 : decode cX6_apart 4 = .ok (.iload 4, 2) := by decide +kernel
theorem dX6_apart_6 : decode cX6_apart 6 = .ok (.invokevirtual 145, 3) := by decide +kernel
theorem dX6_apart_9 : decode cX6_apart 9 = .ok (.istore 5, 2) := by decide +kernel
theorem dX6_apart_11 : decode cX6_apart 11 = .ok (.iload 5, 2) := by decide +kernel
theorem dX6_apart_13 : decode cX6_apart 13 = .ok (.ifCond .ge 8, 3) := by decide +kernel
theorem dX6_apart_16 : decode cX6_apart 16 = .ok (.iload 5, 2) := by decide +kernel
theorem dX6_apart_18 : decode cX6_apart 18 = .ok (.goto 9, 3) := by decide +kernel
theorem dX6_apart_21 : decode cX6_apart 21 = .ok (.aload_n 0, 1) := by decide +kernel
theorem dX6_apart_22 : decode cX6_apart 22 = .ok (.iload_n 1, 1) := by decide +kernel
theorem dX6_apart_23 : decode cX6_apart 23 = .ok (.iload_n 2, 1) := by decide +kernel
theorem dX6_apart_24 : decode cX6_apart 24 = .ok (.invokevirtual 148, 3) := by decide +kernel
theorem dX6_apart_27 : decode cX6_apart 27 = .ok (.ireturn, 1) := by decide +kernel
theorem dX6_layTree_0 : decode cX6_layTree 0 = .ok (.iconst 0, 1) := by decide +kernel
theorem dX6_layTree_1 : decode cX6_layTree 1 = .ok (.istore_n 3, 1) := by decide +kernel
theorem dX6_layTree_2 : decode cX6_layTree 2 = .ok (.iload_n 3, 1) := by decide +kernel
theorem dX6_layTree_3 : decode cX6_layTree 3 = .ok (.aload_n 0, 1) := by decide +kernel
theorem dX6_layTree_4 : decode cX6_layTree 4 = .ok (.getfield 66, 3) := by decide +kernel
theorem dX6_layTree_7 : decode cX6_layTree 7 = .ok (.if_icmp .ge 23, 3) := by decide +kernel
theorem dX6_layTree_10 : decode cX6_layTree 10 = .ok (.aload_n 0, 1) := by decide +kernel
theorem dX6_layTree_11 : decode cX6_layTree 11 = .ok (.iload_n 3, 1) := by decide +kernel
theorem dX6_layTree_12 : decode cX6_layTree 12 = .ok (.iload_n 1, 1) := by decide +kernel
theorem dX6_layTree_13 : decode cX6_layTree 13 = .ok (.iload_n 2, 1) := by decide +kernel
theorem dX6_layTree_14 : decode cX6_layTree 14 = .ok (.invokevirtual 142, 3) := by decide +kernel
theorem dX6_layTree_17 : decode cX6_layTree 17 = .ok (.aload_n 0, 1) := by decide +kernel
theorem dX6_layTree_18 : decode cX6_layTree 18 = .ok (.getfield 53, 3) := by decide +kernel
theorem dX6_layTree_21 : decode cX6_layTree 21 = .ok (.iload_n 3, 1) := by decide +kernel
theorem dX6_layTree_22 : decode cX6_layTree 22 = .ok (.iload_n 3, 1) := by decide +kernel
theorem dX6_layTree_23 : decode cX6_layTree 23 = .ok (.iastore, 1) := by decide +kernel
theorem dX6_layTree_24 : decode cX6_layTree 24 = .ok (.iinc 3 1, 3) := by decide +kernel
theorem dX6_layTree_27 : decode cX6_layTree 27 = .ok (.goto (-25), 3) := by decide +kernel
theorem dX6_layTree_30 : decode cX6_layTree 30 = .ok (.iconst 0, 1) := by decide +kernel
theorem dX6_layTree_31 : decode cX6_layTree 31 = .ok (.istore_n 3, 1) := by decide +kernel
theorem dX6_layTree_32 : decode cX6_layTree 32 = .ok (.iconst 0, 1) := by decide +kernel
theorem dX6_layTree_33 : decode cX6_layTree 33 = .ok (.istore 4, 2) := by decide +kernel
theorem dX6_layTree_35 : decode cX6_layTree 35 = .ok (.iload 4, 2) := by decide +kernel
theorem dX6_layTree_37 : decode cX6_layTree 37 = .ok (.iconst 1, 1) := by decide +kernel
theorem dX6_layTree_38 : decode cX6_layTree 38 = .ok (.iadd, 1) := by decide +kernel
theorem dX6_layTree_39 : decode cX6_layTree 39 = .ok (.aload_n 0, 1) := by decide +kernel
theorem dX6_layTree_40 : decode cX6_layTree 40 = .ok (.getfield 66, 3) := by decide +kernel
theorem dX6_layTree_43 : decode cX6_layTree 43 = .ok (.if_icmp .ge 195, 3) := by decide +kernel
theorem dX6_layTree_46 : decode cX6_layTree 46 = .ok (.ldc 112, 2) := by decide +kernel
theorem dX6_layTree_48 : decode cX6_layTree 48 = .ok (.istore 5, 2) := by decide +kernel
theorem dX6_layTree_50 : decode cX6_layTree 50 = .ok (.iconst 0, 1) := by decide +kernel
theorem dX6_layTree_51 : decode cX6_layTree 51 = .ok (.istore 6, 2) := by decide +kernel
theorem dX6_layTree_53 : decode cX6_layTree 53 = .ok (.iload 6, 2) := by decide +kernel
theorem dX6_layTree_55 : decode cX6_layTree 55 = .ok (.aload_n 0, 1) := by decide +kernel
theorem dX6_layTree_56 : decode cX6_layTree 56 = .ok (.getfield 66, 3) := by decide +kernel
theorem dX6_layTree_59 : decode cX6_layTree 59 = .ok (.if_icmp .ge 85, 3) := by decide +kernel
theorem dX6_layTree_62 : decode cX6_layTree 62 = .ok (.iload 6, 2) := by decide +kernel
theorem dX6_layTree_64 : decode cX6_layTree 64 = .ok (.iconst 1, 1) := by decide +kernel
theorem dX6_layTree_65 : decode cX6_layTree 65 = .ok (.iadd, 1) := by decide +kernel
theorem dX6_layTree_66 : decode cX6_layTree 66 = .ok (.istore 7, 2) := by decide +kernel
theorem dX6_layTree_68 : decode cX6_layTree 68 = .ok (.iload 7, 2) := by decide +kernel
theorem dX6_layTree_70 : decode cX6_layTree 70 = .ok (.aload_n 0, 1) := by decide +kernel
theorem dX6_layTree_71 : decode cX6_layTree 71 = .ok (.getfield 66, 3) := by decide +kernel
theorem dX6_layTree_74 : decode cX6_layTree 74 = .ok (.if_icmp .ge 64, 3) := by decide +kernel
theorem dX6_layTree_77 : decode cX6_layTree 77 = .ok (.aload_n 0, 1) := by decide +kernel
theorem dX6_layTree_78 : decode cX6_layTree 78 = .ok (.getfield 53, 3) := by decide +kernel
theorem dX6_layTree_81 : decode cX6_layTree 81 = .ok (.iload 6, 2) := by decide +kernel
theorem dX6_layTree_83 : decode cX6_layTree 83 = .ok (.iaload, 1) := by decide +kernel
theorem dX6_layTree_84 : decode cX6_layTree 84 = .ok (.aload_n 0, 1) := by decide +kernel
theorem dX6_layTree_85 : decode cX6_layTree 85 = .ok (.getfield 53, 3) := by decide +kernel
theorem dX6_layTree_88 : decode cX6_layTree 88 = .ok (.iload 7, 2) := by decide +kernel
theorem dX6_layTree_90 : decode cX6_layTree 90 = .ok (.iaload, 1) := by decide +kernel
theorem dX6_layTree_91 : decode cX6_layTree 91 = .ok (.if_icmp .eq 41, 3) := by decide +kernel
theorem dX6_layTree_94 : decode cX6_layTree 94 = .ok (.aload_n 0, 1) := by decide +kernel
theorem dX6_layTree_95 : decode cX6_layTree 95 = .ok (.iload 6, 2) := by decide +kernel
theorem dX6_layTree_97 : decode cX6_layTree 97 = .ok (.iload 7, 2) := by decide +kernel
theorem dX6_layTree_99 : decode cX6_layTree 99 = .ok (.invokevirtual 148, 3) := by decide +kernel
theorem dX6_layTree_102 : decode cX6_layTree 102 = .ok (.iload 5, 2) := by decide +kernel
theorem dX6_layTree_104 : decode cX6_layTree 104 = .ok (.if_icmp .ge 28, 3) := by decide +kernel
theorem dX6_layTree_107 : decode cX6_layTree 107 = .ok (.aload_n 0, 1) := by decide +kernel
theorem dX6_layTree_108 : decode cX6_layTree 108 = .ok (.iload 6, 2) := by decide +kernel
theorem dX6_layTree_110 : decode cX6_layTree 110 = .ok (.iload 7, 2) := by decide +kernel
theorem dX6_layTree_112 : decode cX6_layTree 112 = .ok (.invokevirtual 148, 3) := by decide +kernel
theorem dX6_layTree_115 : decode cX6_layTree 115 = .ok (.istore 5, 2) := by decide +kernel
theorem dX6_layTree_117 : decode cX6_layTree 117 = .ok (.aload_n 0, 1) := by decide +kernel
theorem dX6_layTree_118 : decode cX6_layTree 118 = .ok (.getfield 56, 3) := by decide +kernel
theorem dX6_layTree_121 : decode cX6_layTree 121 = .ok (.iload 4, 2) := by decide +kernel
theorem dX6_layTree_123 : decode cX6_layTree 123 = .ok (.bipush 10, 2) := by decide +kernel
theorem dX6_layTree_125 : decode cX6_layTree 125 = .ok (.iload 6, 2) := by decide +kernel
theorem dX6_layTree_127 : decode cX6_layTree 127 = .ok (.imul, 1) := by decide +kernel
theorem dX6_layTree_128 : decode cX6_layTree 128 = .ok (.iload 7, 2) := by decide +kernel
theorem dX6_layTree_130 : decode cX6_layTree 130 = .ok (.iadd, 1) := by decide +kernel
theorem dX6_layTree_131 : decode cX6_layTree 131 = .ok (.iastore, 1) := by decide +kernel
theorem dX6_layTree_132 : decode cX6_layTree 132 = .ok (.iinc 7 1, 3) := by decide +kernel
theorem dX6_layTree_135 : decode cX6_layTree 135 = .ok (.goto (-67), 3) := by decide +kernel
theorem dX6_layTree_138 : decode cX6_layTree 138 = .ok (.iinc 6 1, 3) := by decide +kernel
theorem dX6_layTree_141 : decode cX6_layTree 141 = .ok (.goto (-88), 3) := by decide +kernel
theorem dX6_layTree_144 : decode cX6_layTree 144 = .ok (.iload_n 3, 1) := by decide +kernel
theorem dX6_layTree_145 : decode cX6_layTree 145 = .ok (.iload 5, 2) := by decide +kernel
theorem dX6_layTree_147 : decode cX6_layTree 147 = .ok (.iadd, 1) := by decide +kernel
theorem dX6_layTree_148 : decode cX6_layTree 148 = .ok (.istore_n 3, 1) := by decide +kernel
theorem dX6_layTree_149 : decode cX6_layTree 149 = .ok (.aload_n 0, 1) := by decide +kernel
theorem dX6_layTree_150 : decode cX6_layTree 150 = .ok (.getfield 53, 3) := by decide +kernel
theorem dX6_layTree_153 : decode cX6_layTree 153 = .ok (.aload_n 0, 1) := by decide +kernel
theorem dX6_layTree_154 : decode cX6_layTree 154 = .ok (.getfield 56, 3) := by decide +kernel
theorem dX6_layTree_157 : decode cX6_layTree 157 = .ok (.iload 4, 2) := by decide +kernel
theorem dX6_layTree_159 : decode cX6_layTree 159 = .ok (.iaload, 1) := by decide +kernel
theorem dX6_layTree_160 : decode cX6_layTree 160 = .ok (.bipush 10, 2) := by decide +kernel
theorem dX6_layTree_162 : decode cX6_layTree 162 = .ok (.irem, 1) := by decide +kernel
theorem dX6_layTree_163 : decode cX6_layTree 163 = .ok (.iaload, 1) := by decide +kernel
theorem dX6_layTree_164 : decode cX6_layTree 164 = .ok (.istore 6, 2) := by decide +kernel
theorem dX6_layTree_166 : decode cX6_layTree 166 = .ok (.aload_n 0, 1) := by decide +kernel
theorem dX6_layTree_167 : decode cX6_layTree 167 = .ok (.getfield 53, 3) := by decide +kernel
theorem dX6_layTree_170 : decode cX6_layTree 170 = .ok (.aload_n 0, 1) := by decide +kernel
theorem dX6_layTree_171 : decode cX6_layTree 171 = .ok (.getfield 56, 3) := by decide +kernel
theorem dX6_layTree_174 : decode cX6_layTree 174 = .ok (.iload 4, 2) := by decide +kernel
theorem dX6_layTree_176 : decode cX6_layTree 176 = .ok (.iaload, 1) := by decide +kernel
theorem dX6_layTree_177 : decode cX6_layTree 177 = .ok (.bipush 10, 2) := by decide +kernel
theorem dX6_layTree_179 : decode cX6_layTree 179 = .ok (.idiv, 1) := by decide +kernel
theorem dX6_layTree_180 : decode cX6_layTree 180 = .ok (.iaload, 1) := by decide +kernel
theorem dX6_layTree_181 : decode cX6_layTree 181 = .ok (.istore 7, 2) := by decide +kernel
theorem dX6_layTree_183 : decode cX6_layTree 183 = .ok (.iconst 0, 1) := by decide +kernel
theorem dX6_layTree_184 : decode cX6_layTree 184 = .ok (.istore 8, 2) := by decide +kernel
theorem dX6_layTree_186 : decode cX6_layTree 186 = .ok (.iload 8, 2) := by decide +kernel
theorem dX6_layTree_188 : decode cX6_layTree 188 = .ok (.aload_n 0, 1) := by decide +kernel
theorem dX6_layTree_189 : decode cX6_layTree 189 = .ok (.getfield 66, 3) := by decide +kernel
theorem dX6_layTree_192 : decode cX6_layTree 192 = .ok (.if_icmp .ge 40, 3) := by decide +kernel
theorem dX6_layTree_195 : decode cX6_layTree 195 = .ok (.aload_n 0, 1) := by decide +kernel
theorem dX6_layTree_196 : decode cX6_layTree 196 = .ok (.getfield 53, 3) := by decide +kernel
theorem dX6_layTree_199 : decode cX6_layTree 199 = .ok (.iload 8, 2) := by decide +kernel
theorem dX6_layTree_201 : decode cX6_layTree 201 = .ok (.aload_n 0, 1) := by decide +kernel
theorem dX6_layTree_202 : decode cX6_layTree 202 = .ok (.getfield 53, 3) := by decide +kernel
theorem dX6_layTree_205 : decode cX6_layTree 205 = .ok (.iload 8, 2) := by decide +kernel
theorem dX6_layTree_207 : decode cX6_layTree 207 = .ok (.iaload, 1) := by decide +kernel
theorem dX6_layTree_208 : decode cX6_layTree 208 = .ok (.iload 6, 2) := by decide +kernel
theorem dX6_layTree_210 : decode cX6_layTree 210 = .ok (.if_icmp .ne 8, 3) := by decide +kernel
theorem dX6_layTree_213 : decode cX6_layTree 213 = .ok (.iload 7, 2) := by decide +kernel
theorem dX6_layTree_215 : decode cX6_layTree 215 = .ok (.goto 10, 3) := by decide +kernel
theorem dX6_layTree_218 : decode cX6_layTree 218 = .ok (.aload_n 0, 1) := by decide +kernel
theorem dX6_layTree_219 : decode cX6_layTree 219 = .ok (.getfield 53, 3) := by decide +kernel
theorem dX6_layTree_222 : decode cX6_layTree 222 = .ok (.iload 8, 2) := by decide +kernel
theorem dX6_layTree_224 : decode cX6_layTree 224 = .ok (.iaload, 1) := by decide +kernel
theorem dX6_layTree_225 : decode cX6_layTree 225 = .ok (.iastore, 1) := by decide +kernel
theorem dX6_layTree_226 : decode cX6_layTree 226 = .ok (.iinc 8 1, 3) := by decide +kernel
theorem dX6_layTree_229 : decode cX6_layTree 229 = .ok (.goto (-43), 3) := by decide +kernel
theorem dX6_layTree_232 : decode cX6_layTree 232 = .ok (.iinc 4 1, 3) := by decide +kernel
theorem dX6_layTree_235 : decode cX6_layTree 235 = .ok (.goto (-200), 3) := by decide +kernel
theorem dX6_layTree_238 : decode cX6_layTree 238 = .ok (.iload_n 3, 1) := by decide +kernel
theorem dX6_layTree_239 : decode cX6_layTree 239 = .ok (.ireturn, 1) := by decide +kernel
theorem dX6_tree_0 : decode cX6_tree 0 = .ok (.iload_n 1, 1) := by decide +kernel
theorem dX6_tree_1 : decode cX6_tree 1 = .ok (.invokestatic 90, 3) := by decide +kernel
theorem dX6_tree_4 : decode cX6_tree 4 = .ok (.ifCond .eq 19, 3) := by decide +kernel
theorem dX6_tree_7 : decode cX6_tree 7 = .ok (.iload_n 2, 1) := by decide +kernel
theorem dX6_tree_8 : decode cX6_tree 8 = .ok (.invokestatic 117, 3) := by decide +kernel
theorem dX6_tree_11 : decode cX6_tree 11 = .ok (.ifCond .eq 12, 3) := by decide +kernel
theorem dX6_tree_14 : decode cX6_tree 14 = .ok (.aload_n 0, 1) := by decide +kernel
theorem dX6_tree_15 : decode cX6_tree 15 = .ok (.iload_n 1, 1) := by decide +kernel
theorem dX6_tree_16 : decode cX6_tree 16 = .ok (.iload_n 2, 1) := by decide +kernel
theorem dX6_tree_17 : decode cX6_tree 17 = .ok (.invokevirtual 151, 3) := by decide +kernel
theorem dX6_tree_20 : decode cX6_tree 20 = .ok (.goto 5, 3) := by decide +kernel
theorem dX6_tree_23 : decode cX6_tree 23 = .ok (.bipush (-2), 2) := by decide +kernel
theorem dX6_tree_25 : decode cX6_tree 25 = .ok (.ireturn, 1) := by decide +kernel
theorem dX6_row_0 : decode cX6_row 0 = .ok (.iload_n 2, 1) := by decide +kernel
theorem dX6_row_1 : decode cX6_row 1 = .ok (.invokestatic 90, 3) := by decide +kernel
theorem dX6_row_4 : decode cX6_row 4 = .ok (.ifCond .eq 10, 3) := by decide +kernel
theorem dX6_row_7 : decode cX6_row 7 = .ok (.iload_n 3, 1) := by decide +kernel
theorem dX6_row_8 : decode cX6_row 8 = .ok (.invokestatic 117, 3) := by decide +kernel
theorem dX6_row_11 : decode cX6_row 11 = .ok (.ifCond .ne 6, 3) := by decide +kernel
theorem dX6_row_14 : decode cX6_row 14 = .ok (.bipush (-2), 2) := by decide +kernel
theorem dX6_row_16 : decode cX6_row 16 = .ok (.ireturn, 1) := by decide +kernel
theorem dX6_row_17 : decode cX6_row 17 = .ok (.aload_n 0, 1) := by decide +kernel
theorem dX6_row_18 : decode cX6_row 18 = .ok (.iload_n 2, 1) := by decide +kernel
theorem dX6_row_19 : decode cX6_row 19 = .ok (.iload_n 3, 1) := by decide +kernel
theorem dX6_row_20 : decode cX6_row 20 = .ok (.invokevirtual 151, 3) := by decide +kernel
theorem dX6_row_23 : decode cX6_row 23 = .ok (.istore 4, 2) := by decide +kernel
theorem dX6_row_25 : decode cX6_row 25 = .ok (.iload_n 1, 1) := by decide +kernel
theorem dX6_row_26 : decode cX6_row 26 = .ok (.iconst 0, 1) := by decide +kernel
theorem dX6_row_27 : decode cX6_row 27 = .ok (.aload_n 0, 1) := by decide +kernel
theorem dX6_row_28 : decode cX6_row 28 = .ok (.getfield 66, 3) := by decide +kernel
theorem dX6_row_31 : decode cX6_row 31 = .ok (.iconst 2, 1) := by decide +kernel
theorem dX6_row_32 : decode cX6_row 32 = .ok (.isub, 1) := by decide +kernel
theorem dX6_row_33 : decode cX6_row 33 = .ok (.invokestatic 59, 3) := by decide +kernel
theorem dX6_row_36 : decode cX6_row 36 = .ok (.ifCond .eq 12, 3) := by decide +kernel
theorem dX6_row_39 : decode cX6_row 39 = .ok (.aload_n 0, 1) := by decide +kernel
theorem dX6_row_40 : decode cX6_row 40 = .ok (.getfield 56, 3) := by decide +kernel
theorem dX6_row_43 : decode cX6_row 43 = .ok (.iload_n 1, 1) := by decide +kernel
theorem dX6_row_44 : decode cX6_row 44 = .ok (.iaload, 1) := by decide +kernel
theorem dX6_row_45 : decode cX6_row 45 = .ok (.goto 5, 3) := by decide +kernel
theorem dX6_row_48 : decode cX6_row 48 = .ok (.bipush (-9), 2) := by decide +kernel
theorem dX6_row_50 : decode cX6_row 50 = .ok (.ireturn, 1) := by decide +kernel
theorem dX6_count_0 : decode cX6_count 0 = .ok (.iconst 0, 1) := by decide +kernel
theorem dX6_count_1 : decode cX6_count 1 = .ok (.istore_n 2, 1) := by decide +kernel
theorem dX6_count_2 : decode cX6_count 2 = .ok (.iconst 0, 1) := by decide +kernel
theorem dX6_count_3 : decode cX6_count 3 = .ok (.istore_n 3, 1) := by decide +kernel
theorem dX6_count_4 : decode cX6_count 4 = .ok (.iconst 0, 1) := by decide +kernel
theorem dX6_count_5 : decode cX6_count 5 = .ok (.istore 4, 2) := by decide +kernel
theorem dX6_count_7 : decode cX6_count 7 = .ok (.iload 4, 2) := by decide +kernel
theorem dX6_count_9 : decode cX6_count 9 = .ok (.aload_n 0, 1) := by decide +kernel
theorem dX6_count_10 : decode cX6_count 10 = .ok (.getfield 66, 3) := by decide +kernel
theorem dX6_count_13 : decode cX6_count 13 = .ok (.if_icmp .ge 19, 3) := by decide +kernel
theorem dX6_count_16 : decode cX6_count 16 = .ok (.iload_n 2, 1) := by decide +kernel
theorem dX6_count_17 : decode cX6_count 17 = .ok (.aload_n 0, 1) := by decide +kernel
theorem dX6_count_18 : decode cX6_count 18 = .ok (.getfield 26, 3) := by decide +kernel
theorem dX6_count_21 : decode cX6_count 21 = .ok (.iload 4, 2) := by decide +kernel
theorem dX6_count_23 : decode cX6_count 23 = .ok (.iaload, 1) := by decide +kernel
theorem dX6_count_24 : decode cX6_count 24 = .ok (.iadd, 1) := by decide +kernel
theorem dX6_count_25 : decode cX6_count 25 = .ok (.istore_n 2, 1) := by decide +kernel
theorem dX6_count_26 : decode cX6_count 26 = .ok (.iinc 4 1, 3) := by decide +kernel
theorem dX6_count_29 : decode cX6_count 29 = .ok (.goto (-22), 3) := by decide +kernel
theorem dX6_count_32 : decode cX6_count 32 = .ok (.iconst 0, 1) := by decide +kernel
theorem dX6_count_33 : decode cX6_count 33 = .ok (.istore 4, 2) := by decide +kernel
theorem dX6_count_35 : decode cX6_count 35 = .ok (.iload 4, 2) := by decide +kernel
theorem dX6_count_37 : decode cX6_count 37 = .ok (.aload_n 0, 1) := by decide +kernel
theorem dX6_count_38 : decode cX6_count 38 = .ok (.getfield 63, 3) := by decide +kernel
theorem dX6_count_41 : decode cX6_count 41 = .ok (.if_icmp .ge 31, 3) := by decide +kernel
theorem dX6_count_44 : decode cX6_count 44 = .ok (.iload_n 3, 1) := by decide +kernel
theorem dX6_count_45 : decode cX6_count 45 = .ok (.aload_n 0, 1) := by decide +kernel
theorem dX6_count_46 : decode cX6_count 46 = .ok (.getfield 19, 3) := by decide +kernel
theorem dX6_count_49 : decode cX6_count 49 = .ok (.iload 4, 2) := by decide +kernel
theorem dX6_count_51 : decode cX6_count 51 = .ok (.iaload, 1) := by decide +kernel
theorem dX6_count_52 : decode cX6_count 52 = .ok (.aload_n 0, 1) := by decide +kernel
theorem dX6_count_53 : decode cX6_count 53 = .ok (.getfield 22, 3) := by decide +kernel
theorem dX6_count_56 : decode cX6_count 56 = .ok (.if_icmp .gt 7, 3) := by decide +kernel
theorem dX6_count_59 : decode cX6_count 59 = .ok (.iconst 1, 1) := by decide +kernel
theorem dX6_count_60 : decode cX6_count 60 = .ok (.goto 4, 3) := by decide +kernel
theorem dX6_count_63 : decode cX6_count 63 = .ok (.iconst 0, 1) := by decide +kernel
theorem dX6_count_64 : decode cX6_count 64 = .ok (.iadd, 1) := by decide +kernel
theorem dX6_count_65 : decode cX6_count 65 = .ok (.istore_n 3, 1) := by decide +kernel
theorem dX6_count_66 : decode cX6_count 66 = .ok (.iinc 4 1, 3) := by decide +kernel
theorem dX6_count_69 : decode cX6_count 69 = .ok (.goto (-34), 3) := by decide +kernel
theorem dX6_count_72 : decode cX6_count 72 = .ok (.iload_n 1, 1) := by decide +kernel
theorem dX6_count_73 : decode cX6_count 73 = .ok (.ifCond .ne 10, 3) := by decide +kernel
theorem dX6_count_76 : decode cX6_count 76 = .ok (.aload_n 0, 1) := by decide +kernel
theorem dX6_count_77 : decode cX6_count 77 = .ok (.getfield 63, 3) := by decide +kernel
theorem dX6_count_80 : decode cX6_count 80 = .ok (.goto 35, 3) := by decide +kernel
theorem dX6_count_83 : decode cX6_count 83 = .ok (.iload_n 1, 1) := by decide +kernel
theorem dX6_count_84 : decode cX6_count 84 = .ok (.iconst 1, 1) := by decide +kernel
theorem dX6_count_85 : decode cX6_count 85 = .ok (.if_icmp .ne 10, 3) := by decide +kernel
theorem dX6_count_88 : decode cX6_count 88 = .ok (.aload_n 0, 1) := by decide +kernel
theorem dX6_count_89 : decode cX6_count 89 = .ok (.getfield 66, 3) := by decide +kernel
theorem dX6_count_92 : decode cX6_count 92 = .ok (.goto 23, 3) := by decide +kernel
theorem dX6_count_95 : decode cX6_count 95 = .ok (.iload_n 1, 1) := by decide +kernel
theorem dX6_count_96 : decode cX6_count 96 = .ok (.iconst 2, 1) := by decide +kernel
theorem dX6_count_97 : decode cX6_count 97 = .ok (.if_icmp .ne 7, 3) := by decide +kernel
theorem dX6_count_100 : decode cX6_count 100 = .ok (.iload_n 2, 1) := by decide +kernel
theorem dX6_count_101 : decode cX6_count 101 = .ok (.goto 14, 3) := by decide +kernel
theorem dX6_count_104 : decode cX6_count 104 = .ok (.iload_n 1, 1) := by decide +kernel
theorem dX6_count_105 : decode cX6_count 105 = .ok (.iconst 3, 1) := by decide +kernel
theorem dX6_count_106 : decode cX6_count 106 = .ok (.if_icmp .ne 7, 3) := by decide +kernel
theorem dX6_count_109 : decode cX6_count 109 = .ok (.iload_n 3, 1) := by decide +kernel
theorem dX6_count_110 : decode cX6_count 110 = .ok (.goto 5, 3) := by decide +kernel
theorem dX6_count_113 : decode cX6_count 113 = .ok (.bipush (-2), 2) := by decide +kernel
theorem dX6_count_115 : decode cX6_count 115 = .ok (.ireturn, 1) := by decide +kernel
theorem dJ9_floorDiv_7cf53_0 : decode cJ9_floorDiv_7cf53 0 = .ok (.iload_n 0, 1) := by decide +kernel
theorem dJ9_floorDiv_7cf53_1 : decode cJ9_floorDiv_7cf53 1 = .ok (.iload_n 1, 1) := by decide +kernel
theorem dJ9_floorDiv_7cf53_2 : decode cJ9_floorDiv_7cf53 2 = .ok (.idiv, 1) := by decide +kernel
theorem dJ9_floorDiv_7cf53_3 : decode cJ9_floorDiv_7cf53 3 = .ok (.istore_n 2, 1) := by decide +kernel
theorem dJ9_floorDiv_7cf53_4 : decode cJ9_floorDiv_7cf53 4 = .ok (.iload_n 0, 1) := by decide +kernel
theorem dJ9_floorDiv_7cf53_5 : decode cJ9_floorDiv_7cf53 5 = .ok (.iload_n 1, 1) := by decide +kernel
theorem dJ9_floorDiv_7cf53_6 : decode cJ9_floorDiv_7cf53 6 = .ok (.ixor, 1) := by decide +kernel
theorem dJ9_floorDiv_7cf53_7 : decode cJ9_floorDiv_7cf53 7 = .ok (.ifCond .ge 14, 3) := by decide +kernel
theorem dJ9_floorDiv_7cf53_10 : decode cJ9_floorDiv_7cf53 10 = .ok (.iload_n 2, 1) := by decide +kernel
theorem dJ9_floorDiv_7cf53_11 : decode cJ9_floorDiv_7cf53 11 = .ok (.iload_n 1, 1) := by decide +kernel
theorem dJ9_floorDiv_7cf53_12 : decode cJ9_floorDiv_7cf53 12 = .ok (.imul, 1) := by decide +kernel
theorem dJ9_floorDiv_7cf53_13 : decode cJ9_floorDiv_7cf53 13 = .ok (.iload_n 0, 1) := by decide +kernel
theorem dJ9_floorDiv_7cf53_14 : decode cJ9_floorDiv_7cf53 14 = .ok (.if_icmp .eq 7, 3) := by decide +kernel
theorem dJ9_floorDiv_7cf53_17 : decode cJ9_floorDiv_7cf53 17 = .ok (.iload_n 2, 1) := by decide +kernel
theorem dJ9_floorDiv_7cf53_18 : decode cJ9_floorDiv_7cf53 18 = .ok (.iconst 1, 1) := by decide +kernel
theorem dJ9_floorDiv_7cf53_19 : decode cJ9_floorDiv_7cf53 19 = .ok (.isub, 1) := by decide +kernel
theorem dJ9_floorDiv_7cf53_20 : decode cJ9_floorDiv_7cf53 20 = .ok (.ireturn, 1) := by decide +kernel
theorem dJ9_floorDiv_7cf53_21 : decode cJ9_floorDiv_7cf53 21 = .ok (.iload_n 2, 1) := by decide +kernel
theorem dJ9_floorDiv_7cf53_22 : decode cJ9_floorDiv_7cf53 22 = .ok (.ireturn, 1) := by decide +kernel
theorem dJ9_floorMod_7cf53_0 : decode cJ9_floorMod_7cf53 0 = .ok (.iload_n 0, 1) := by decide +kernel
theorem dJ9_floorMod_7cf53_1 : decode cJ9_floorMod_7cf53 1 = .ok (.iload_n 1, 1) := by decide +kernel
theorem dJ9_floorMod_7cf53_2 : decode cJ9_floorMod_7cf53 2 = .ok (.irem, 1) := by decide +kernel
theorem dJ9_floorMod_7cf53_3 : decode cJ9_floorMod_7cf53 3 = .ok (.istore_n 2, 1) := by decide +kernel
theorem dJ9_floorMod_7cf53_4 : decode cJ9_floorMod_7cf53 4 = .ok (.iload_n 0, 1) := by decide +kernel
theorem dJ9_floorMod_7cf53_5 : decode cJ9_floorMod_7cf53 5 = .ok (.iload_n 1, 1) := by decide +kernel
theorem dJ9_floorMod_7cf53_6 : decode cJ9_floorMod_7cf53 6 = .ok (.ixor, 1) := by decide +kernel
theorem dJ9_floorMod_7cf53_7 : decode cJ9_floorMod_7cf53 7 = .ok (.ifCond .ge 11, 3) := by decide +kernel
theorem dJ9_floorMod_7cf53_10 : decode cJ9_floorMod_7cf53 10 = .ok (.iload_n 2, 1) := by decide +kernel
theorem dJ9_floorMod_7cf53_11 : decode cJ9_floorMod_7cf53 11 = .ok (.ifCond .eq 7, 3) := by decide +kernel
theorem dJ9_floorMod_7cf53_14 : decode cJ9_floorMod_7cf53 14 = .ok (.iload_n 2, 1) := by decide +kernel
theorem dJ9_floorMod_7cf53_15 : decode cJ9_floorMod_7cf53 15 = .ok (.iload_n 1, 1) := by decide +kernel
theorem dJ9_floorMod_7cf53_16 : decode cJ9_floorMod_7cf53 16 = .ok (.iadd, 1) := by decide +kernel
theorem dJ9_floorMod_7cf53_17 : decode cJ9_floorMod_7cf53 17 = .ok (.ireturn, 1) := by decide +kernel
theorem dJ9_floorMod_7cf53_18 : decode cJ9_floorMod_7cf53 18 = .ok (.iload_n 2, 1) := by decide +kernel
theorem dJ9_floorMod_7cf53_19 : decode cJ9_floorMod_7cf53 19 = .ok (.ireturn, 1) := by decide +kernel
theorem dJ9_abs_0f7a4_0 : decode cJ9_abs_0f7a4 0 = .ok (.iload_n 0, 1) := by decide +kernel
theorem dJ9_abs_0f7a4_1 : decode cJ9_abs_0f7a4 1 = .ok (.ifCond .ge 8, 3) := by decide +kernel
theorem dJ9_abs_0f7a4_4 : decode cJ9_abs_0f7a4 4 = .ok (.iload_n 0, 1) := by decide +kernel
theorem dJ9_abs_0f7a4_5 : decode cJ9_abs_0f7a4 5 = .ok (.ineg, 1) := by decide +kernel
theorem dJ9_abs_0f7a4_6 : decode cJ9_abs_0f7a4 6 = .ok (.goto 4, 3) := by decide +kernel
theorem dJ9_abs_0f7a4_9 : decode cJ9_abs_0f7a4 9 = .ok (.iload_n 0, 1) := by decide +kernel
theorem dJ9_abs_0f7a4_10 : decode cJ9_abs_0f7a4 10 = .ok (.ireturn, 1) := by decide +kernel
theorem dJ9_min_7cf53_0 : decode cJ9_min_7cf53 0 = .ok (.iload_n 0, 1) := by decide +kernel
theorem dJ9_min_7cf53_1 : decode cJ9_min_7cf53 1 = .ok (.iload_n 1, 1) := by decide +kernel
theorem dJ9_min_7cf53_2 : decode cJ9_min_7cf53 2 = .ok (.if_icmp .gt 7, 3) := by decide +kernel
theorem dJ9_min_7cf53_5 : decode cJ9_min_7cf53 5 = .ok (.iload_n 0, 1) := by decide +kernel
theorem dJ9_min_7cf53_6 : decode cJ9_min_7cf53 6 = .ok (.goto 4, 3) := by decide +kernel
theorem dJ9_min_7cf53_9 : decode cJ9_min_7cf53 9 = .ok (.iload_n 1, 1) := by decide +kernel
theorem dJ9_min_7cf53_10 : decode cJ9_min_7cf53 10 = .ok (.ireturn, 1) := by decide +kernel
theorem dJ9_min_f86c9_0 : decode cJ9_min_f86c9 0 = .ok (.lload_n 0, 1) := by decide +kernel
theorem dJ9_min_f86c9_1 : decode cJ9_min_f86c9 1 = .ok (.lload_n 2, 1) := by decide +kernel
theorem dJ9_min_f86c9_2 : decode cJ9_min_f86c9 2 = .ok (.lcmp, 1) := by decide +kernel
theorem dJ9_min_f86c9_3 : decode cJ9_min_f86c9 3 = .ok (.ifCond .gt 7, 3) := by decide +kernel
theorem dJ9_min_f86c9_6 : decode cJ9_min_f86c9 6 = .ok (.lload_n 0, 1) := by decide +kernel
theorem dJ9_min_f86c9_7 : decode cJ9_min_f86c9 7 = .ok (.goto 4, 3) := by decide +kernel
theorem dJ9_min_f86c9_10 : decode cJ9_min_f86c9 10 = .ok (.lload_n 2, 1) := by decide +kernel
theorem dJ9_min_f86c9_11 : decode cJ9_min_f86c9 11 = .ok (.lreturn, 1) := by decide +kernel
theorem dJ7_fill_d0a16_0 : decode cJ7_fill_d0a16 0 = .ok (.iconst 0, 1) := by decide +kernel
theorem dJ7_fill_d0a16_1 : decode cJ7_fill_d0a16 1 = .ok (.istore_n 3, 1) := by decide +kernel
theorem dJ7_fill_d0a16_2 : decode cJ7_fill_d0a16 2 = .ok (.aload_n 0, 1) := by decide +kernel
theorem dJ7_fill_d0a16_3 : decode cJ7_fill_d0a16 3 = .ok (.arraylength, 1) := by decide +kernel
theorem dJ7_fill_d0a16_4 : decode cJ7_fill_d0a16 4 = .ok (.istore 4, 2) := by decide +kernel
theorem dJ7_fill_d0a16_6 : decode cJ7_fill_d0a16 6 = .ok (.iload_n 3, 1) := by decide +kernel
theorem dJ7_fill_d0a16_7 : decode cJ7_fill_d0a16 7 = .ok (.iload 4, 2) := by decide +kernel
theorem dJ7_fill_d0a16_9 : decode cJ7_fill_d0a16 9 = .ok (.if_icmp .ge 13, 3) := by decide +kernel
theorem dJ7_fill_d0a16_12 : decode cJ7_fill_d0a16 12 = .ok (.aload_n 0, 1) := by decide +kernel
theorem dJ7_fill_d0a16_13 : decode cJ7_fill_d0a16 13 = .ok (.iload_n 3, 1) := by decide +kernel
theorem dJ7_fill_d0a16_14 : decode cJ7_fill_d0a16 14 = .ok (.lload_n 1, 1) := by decide +kernel
theorem dJ7_fill_d0a16_15 : decode cJ7_fill_d0a16 15 = .ok (.lastore, 1) := by decide +kernel
theorem dJ7_fill_d0a16_16 : decode cJ7_fill_d0a16 16 = .ok (.iinc 3 1, 3) := by decide +kernel
theorem dJ7_fill_d0a16_19 : decode cJ7_fill_d0a16 19 = .ok (.goto (-13), 3) := by decide +kernel
theorem dJ7_fill_d0a16_22 : decode cJ7_fill_d0a16 22 = .ok (.return_, 1) := by decide +kernel
end
section
/-! numbers: an Int32 (Int64) by its Int -/
def iI (z : Int) : Int32 := Int32.ofInt z
def lI (z : Int) : Int64 := Int64.ofInt z
abbrev InI (z : Int) : Prop := -2147483648 ≤ z ∧ z ≤ 2147483647
abbrev InL (z : Int) : Prop := -9223372036854775808 ≤ z ∧ z ≤ 9223372036854775807
abbrev vI (z : Int) : Value := .int (iI z)
abbrev vL (z : Int) : Value := .long (lI z)
theorem iI_t {z : Int} (h : InI z) : (iI z).toInt = z := Int32.toInt_ofInt_of_le (by omega) (by omega)
theorem lI_t {z : Int} (h : InL z) : (lI z).toInt = z := Int64.toInt_ofInt_of_le (by omega) (by omega)
theorem iI_x (x : Int32) : iI x.toInt = x := Int32.ofInt_toInt x
theorem iI_rng (x : Int32) : InI x.toInt := ⟨Int32.le_toInt x, by have := Int32.toInt_lt x; omega⟩
theorem iI_add (a b : Int) : iI a + iI b = iI (a + b) := (Int32.ofInt_add a b).symm
theorem iI_sub (a b : Int) : iI a - iI b = iI (a - b) := (Int32.ofInt_sub a b).symm
theorem iI_mul (a b : Int) : iI a * iI b = iI (a * b) := (Int32.ofInt_mul a b).symm
theorem iI_neg (a : Int) : -iI a = iI (-a) := (Int32.ofInt_neg a).symm
theorem lI_add (a b : Int) : lI a + lI b = lI (a + b) := (Int64.ofInt_add a b).symm
theorem iI_le {a b : Int} (ha : InI a) (hb : InI b) : iI a ≤ iI b ↔ a ≤ b := by
  rw [Int32.le_iff_toInt_le, iI_t ha, iI_t hb]
theorem iI_lt {a b : Int} (ha : InI a) (hb : InI b) : iI a < iI b ↔ a < b := by
  rw [Int32.lt_iff_toInt_lt, iI_t ha, iI_t hb]
theorem iI_eq {a b : Int} (ha : InI a) (hb : InI b) : iI a = iI b ↔ a = b :=
  ⟨fun h => by have := congrArg Int32.toInt h; rwa [iI_t ha, iI_t hb] at this, fun h => by rw [h]⟩
theorem lI_le {a b : Int} (ha : InL a) (hb : InL b) : lI a ≤ lI b ↔ a ≤ b := by
  rw [Int64.le_iff_toInt_le, lI_t ha, lI_t hb]
theorem lI_lt {a b : Int} (ha : InL a) (hb : InL b) : lI a < lI b ↔ a < b := by
  rw [Int64.lt_iff_toInt_lt, lI_t ha, lI_t hb]
theorem lI_eq {a b : Int} (ha : InL a) (hb : InL b) : lI a = lI b ↔ a = b :=
  ⟨fun h => by have := congrArg Int64.toInt h; rwa [lI_t ha, lI_t hb] at this, fun h => by rw [h]⟩
theorem iI_div {a b : Int} (ha : InI a) (hb : InI b) : iI a / iI b = iI (a.tdiv b) := by
  apply Int32.toInt_inj.mp
  rw [Int32.toInt_div, iI_t ha, iI_t hb, iI, Int32.toInt_ofInt]
theorem iI_rem {a b : Int} (ha : InI a) (hb : InI b) : iI a - iI a / iI b * iI b = iI (a.tmod b) := by
  rw [iI_div ha hb, iI_mul, iI_sub, Int.tmod_def, Int.mul_comm]
theorem iI_cl {z : Int} (h : InI z) (h0 : 0 ≤ z) : (((iI z).toNatClampNeg : Nat) : Int) = z := by
  rw [Int32.toNatClampNeg, iI_t h]; omega
theorem iI_in {z : Int} {n : Nat} (hn : n < 2147483648) (h0 : 0 ≤ z) (h1 : z < n) : vp_in (iI z) n :=
  vp_in_iff.mpr (by rw [iI_t ⟨by omega, by omega⟩]; exact ⟨h0, h1⟩)
theorem iI_nat (n : Nat) : Int32.ofNat n = iI (n : Int) := (Int32.ofInt_eq_ofNat (n := n)).symm
theorem iI_0 : iI 0 = 0 := rfl
/-! worlds of a fixed shape: objects whose references never change, arrays of a fixed length -/
abbrev pw_H : Type := Nat → Int → Int
abbrev pw_C : Type := (Nat × List (Option Nat)) ⊕ (Bool × Nat)
abbrev pw_S : Type := List pw_C
abbrev pw_G : Type := va_G × (Nat → Nat) × ClassId × ClassId
def pw_f (ad : Nat → Nat) (f : Int → Int) (j : Nat) (r : Option Nat) : Value := match r with
  | none => .int (iI (f (j : Int)))
  | some k => .ref (ad k)
def pw_e (G : pw_G) (f : Int → Int) (x : pw_C) : va_E := match x with
  | .inl o => .inr (o.1, o.2.mapIdx (pw_f G.2.1 f))
  | .inr (false, n) => .inl (G.2.2.1, n, .inl (fun j => iI (f (j : Int))))
  | .inr (true, n) => .inl (G.2.2.2, n, .inr (.inl (fun j => lI (f (j : Int)))))
def pw_w (sh : pw_S) (G : pw_G) (σ : pw_H) : va_W := sh.mapIdx (fun k x => (G.2.1 k, pw_e G (σ k) x))
def pw_u (σ : pw_H) (k : Nat) (j v : Int) : pw_H := fun k' j' => if k' = k ∧ j' = j then v else σ k' j'
theorem pw_u_s (σ : pw_H) (k : Nat) (j v : Int) : pw_u σ k j v k j = v := by simp [pw_u]
theorem pw_u_k {σ : pw_H} {k k' : Nat} {j j' v : Int} (h : k' ≠ k) : pw_u σ k j v k' j' = σ k' j' := by simp [pw_u, h]
theorem pw_u_j {σ : pw_H} {k k' : Nat} {j j' v : Int} (h : j' ≠ j) : pw_u σ k j v k' j' = σ k' j' := by simp [pw_u, h]
theorem pw_at {sh : pw_S} {G : pw_G} {σ : pw_H} {k : Nat} {x : pw_C} (h : sh[k]? = some x) : (pw_w sh G σ)[k]? = some (G.2.1 k, pw_e G (σ k) x) := by
  simp [pw_w, List.getElem?_mapIdx, h]
theorem pw_set {sh : pw_S} {G : pw_G} {σ : pw_H} {k : Nat} {x : pw_C} {j v : Int} (h : sh[k]? = some x) : (pw_w sh G σ).set k (G.2.1 k, pw_e G (pw_u σ k j v k) x) = pw_w sh G (pw_u σ k j v) := by
  apply List.ext_getElem?
  intro i
  rw [List.getElem?_set]
  have hk : k < sh.length := (List.getElem?_eq_some_iff.mp h).1
  by_cases hi : k = i
  · subst hi
    rw [if_pos rfl, if_pos (by simpa [pw_w] using hk), pw_at h]
  · rw [if_neg hi]
    simp only [pw_w, List.getElem?_mapIdx]
    have e : pw_u σ k j v i = σ i := by funext t; exact pw_u_k (fun q => hi q.symm)
    rw [e]
theorem pw_dom {A : Nat → Prop} {sh : pw_S} {G : pw_G} {σ τ : pw_H} (h : va_D A (pw_w sh G σ)) : va_D A (pw_w sh G τ) := by
  have e : ∀ (k : Nat) (q : Nat × va_E), (pw_w sh G τ)[k]? = some q → ∃ q', (pw_w sh G σ)[k]? = some q' ∧ q'.1 = q.1 := by
    intro k q hq
    simp only [pw_w, List.getElem?_mapIdx, Option.map_eq_some_iff] at hq ⊢
    obtain ⟨x, hx, rfl⟩ := hq
    exact ⟨_, ⟨x, hx, rfl⟩, rfl⟩
  refine ⟨fun i j p q hp hq hpq => ?_, fun k q hq => ?_⟩
  · obtain ⟨p', h1, e1⟩ := e i p hp
    obtain ⟨q', h2, e2⟩ := e j q hq
    exact h.1 i j p' q' h1 h2 (by rw [e1, e2, hpq])
  · obtain ⟨q', h2, e2⟩ := e k q hq
    exact e2 ▸ h.2 k q' h2
theorem pw_A {sh : pw_S} {G : pw_G} {σ τ : pw_H} {sz q : Nat} (h : va_A (pw_w sh G σ) sz q) : va_A (pw_w sh G τ) sz q := by
  rcases h with ⟨k, e, h⟩ | h
  · simp only [pw_w, List.getElem?_mapIdx, Option.map_eq_some_iff, Prod.mk.injEq] at h
    obtain ⟨x, hx, h1, h2⟩ := h
    refine Or.inl ⟨k, pw_e G (τ k) x, ?_⟩
    simp only [pw_w, List.getElem?_mapIdx, Option.map_eq_some_iff, Prod.mk.injEq]
    exact ⟨x, hx, h1, rfl⟩
  · exact Or.inr h
/-! locals by place -/
def pw_l : Nat → List (Option Value) → List (Nat × Value)
  | _, [] => []
  | i, none :: r => pw_l (i + 1) r
  | i, some v :: r => (i, v) :: pw_l (i + 1) r
theorem pw_l_mem (ls : List (Option Value)) : ∀ (i j : Nat) (v : Value), (j, v) ∈ pw_l i ls ↔ ∃ t, j = i + t ∧ ls[t]? = some (some v) := by
  induction ls with
  | nil => intro i j v; simp [pw_l]
  | cons a r ih =>
    intro i j v
    cases a with
    | none =>
      simp only [pw_l, ih]
      constructor
      · rintro ⟨t, rfl, h⟩
        exact ⟨t + 1, by omega, by simpa using h⟩
      · rintro ⟨t, rfl, h⟩
        cases t with
        | zero => simp at h
        | succ t => exact ⟨t, by omega, by simpa using h⟩
    | some w =>
      simp only [pw_l, List.mem_cons, ih, Prod.mk.injEq]
      constructor
      · rintro (⟨rfl, rfl⟩ | ⟨t, rfl, h⟩)
        · exact ⟨0, by omega, by simp⟩
        · exact ⟨t + 1, by omega, by simpa using h⟩
      · rintro ⟨t, rfl, h⟩
        cases t with
        | zero => left; simpa using h.symm
        | succ t => exact Or.inr ⟨t, by omega, by simpa using h⟩
theorem pw_lg {la : Array Slot} {n : Nat} {ls : List (Option Value)} {i : Nat} {v : Value} (h : lv_has la n (pw_l 0 ls)) (hi : ls[i]? = some (some v)) : la[i]? = some (.val v) :=
  h.2.2 (i, v) ((pw_l_mem ls 0 i v).mpr ⟨i, by omega, hi⟩)
def pw_c (ls : List (Option Value)) (i : Nat) : Bool := match i with
  | 0 => true
  | k + 1 => match ls[k]? with
    | some (some w) => w.category != 2
    | _ => true
theorem pw_c_ne {ls : List (Option Value)} {i j : Nat} {w : Value} (h : pw_c ls i = true) (hj : ls[j]? = some (some w)) (e : j + 1 = i) : w.category ≠ 2 := by
  subst e
  simp only [pw_c, hj] at h
  simpa using h
theorem pw_s1 {la : Array Slot} {n i : Nat} {v : Value} {ls : List (Option Value)} (hc : pw_c ls i = true)
    (h' : lv_has la n ((i, v) :: (pw_l 0 ls).filter (fun q => !(q.1 == i) && !(q.1 + 1 == i && q.2.category == 2)))) : lv_has la n (pw_l 0 (ls.set i (some v))) := by
  refine ⟨h'.1, h'.2.1, fun q hq => ?_⟩
  obtain ⟨j, w⟩ := q
  obtain ⟨t, ht, hw⟩ := (pw_l_mem _ 0 j w).mp hq
  have ht : j = t := by omega
  subst ht
  rw [List.getElem?_set] at hw
  by_cases e : i = j
  · rw [if_pos e] at hw
    split at hw
    · cases hw; subst e; exact h'.2.2 _ List.mem_cons_self
    · cases hw
  · rw [if_neg e] at hw
    refine h'.2.2 _ (List.mem_cons_of_mem _ (List.mem_filter.mpr ⟨(pw_l_mem _ 0 j w).mpr ⟨j, by omega, hw⟩, ?_⟩))
    have e2 : ¬ j = i := fun q => e q.symm
    by_cases e3 : j + 1 = i
    · have := pw_c_ne hc hw e3
      simp [e2, e3, this]
    · simp [e2, e3]
theorem pw_s2 {la : Array Slot} {n i : Nat} {v : Value} {ls : List (Option Value)} (hc : pw_c ls i = true)
    (h' : lv_has la n ((i, v) :: (pw_l 0 ls).filter (fun q => !(q.1 == i) && (!(q.1 == i + 1) && !(q.1 + 1 == i && q.2.category == 2))))) : lv_has la n (pw_l 0 ((ls.set i (some v)).set (i + 1) none)) := by
  refine ⟨h'.1, h'.2.1, fun q hq => ?_⟩
  obtain ⟨j, w⟩ := q
  obtain ⟨t, ht, hw⟩ := (pw_l_mem _ 0 j w).mp hq
  have ht : j = t := by omega
  subst ht
  rw [List.getElem?_set] at hw
  by_cases e0 : i + 1 = j
  · rw [if_pos e0] at hw
    split at hw <;> cases hw
  rw [if_neg e0, List.getElem?_set] at hw
  by_cases e : i = j
  · rw [if_pos e] at hw
    split at hw
    · cases hw; subst e; exact h'.2.2 _ List.mem_cons_self
    · cases hw
  · rw [if_neg e] at hw
    refine h'.2.2 _ (List.mem_cons_of_mem _ (List.mem_filter.mpr ⟨(pw_l_mem _ 0 j w).mpr ⟨j, by omega, hw⟩, ?_⟩))
    have e2 : ¬ j = i := fun q => e q.symm
    have e4 : ¬ j = i + 1 := fun q => e0 q.symm
    by_cases e3 : j + 1 = i
    · have := pw_c_ne hc hw e3
      simp [e2, e3, e4, this]
    · simp [e2, e3, e4]
end
section
def zabs (x : Int) : Int := if x < 0 then -x else x
def zmin (x y : Int) : Int := if y < x then y else x
def zB (b : Bool) : Int := if b then 1 else 0
/-! the judgement over a world of a fixed shape -/
abbrev PXT : Type := Program × Launch × Env × Room × State × MethodId × Array Value × List Frame × Method × Code × (Nat → Prop) × (State → Prop) × Nat
def PW (X : PXT) (sh : pw_S) (G : pw_G) (pc : Nat) (ls : List (Option Value)) (st : List Value) (σ : pw_H) : Prop := match X with
  | (p, l, e, R, s, m, args, below, meth, c, A, Z, nL) => ∀ (H : Heap) (locs : List Loc) (la : Array Slot), lv_has la nL (pw_l 0 ls) → va_P G.1 vwCl (pw_w sh G σ) H → va_S A s.heap H locs → W p l e R s m args below meth c H locs 0 0 Z (F0 m pc la st)
/-- what every method of the system may take as known of the machine -/
abbrev pw_tys (G : pw_G) : List (ClassId × FieldType) := [(G.2.2.1, .int), (G.2.2.2, .long)]
abbrev pw_nw : Cond := .methodLinkNest RX1 93 yX5_leads RX5
def pw_K (G : pw_G) (U : State) : Prop := va_K G.1 vwCl (pw_tys G) U ∧ va_Nw pw_nw U
theorem pw_K.alike {G : pw_G} {u U : State} (hW : u.WarmedH U.vm) (h : pw_K G u) : pw_K G U := ⟨va_K.moved hW.alike h.1, va_Nw.warmM hW h.2⟩
theorem pw_K.same {G : pw_G} {u : State} {g : JFrame} {mk : MethodId} {a : Array Value} (h : pw_K G u) : pw_K G (u.calling g mk a) := ⟨va_K.moved (Vm.Alike.refl u.vm) h.1, va_Nw.same rfl rfl h.2⟩
/-- the answer and the world behind a method -/
def pw_B (sh : pw_S) (G : pw_G) (σ : pw_H) (t : State) : Prop := va_P G.1 vwCl (pw_w sh G σ) t.heap
def pw_Q (sh : pw_S) (G : pw_G) (Q : Option Value → pw_H → Prop) (A : Nat → Prop) : Array Value → State → Outcome → State → Prop := fun _ st oc t => (∃ (v : Option Value) (τ : pw_H), oc = .returned v ∧ Q v τ ∧ pw_B sh G τ t) ∧ va_F A st t
def pw_P (sh : pw_S) (G : pw_G) (σ : pw_H) (sz : Nat) (U : State) : Prop := U.heap.size = sz ∧ va_P G.1 vwCl (pw_w sh G σ) U.heap ∧ pw_K G U ∧ va_D (fun _ => True) (pw_w sh G σ)
/-- a method, in one: its name, its code, its locals, what it answers, its room (frames, locals), how many arguments -/
abbrev MB : Type := MethodName × ByteArray × Nat × Option FieldType × Nat × Nat × Nat
abbrev MB.ws (M : MB) : List Cond := Cond.code M.1 M.2.1 M.2.2.1 M.2.2.2.1 :: ALLW
abbrev MB.rm (M : MB) : Room := { frames := M.2.2.2.2.1, cells := 0, slots := 0, locals := M.2.2.2.2.2.1 }
/-- a method's contract: with these arguments, over this world, it ends, and Q holds of its answer and of the world behind it -/
def Ct (l : Launch) (sh : pw_S) (G : pw_G) (M : MB) (As : List Value) (σ : pw_H) (Q : Option Value → pw_H → Prop) : Prop :=
  ∀ sz : Nat, Met l M.1 (MB.ws M) (MB.rm M) (va_Pc As (pw_P sh G σ sz)) (pw_Q sh G Q (va_A (pw_w sh G σ) sz)) 0 0 (va_A (pw_w sh G σ) sz)
/-- a method's own standing facts -/
def PC (X : PXT) (sh : pw_S) (G : pw_G) (M : MB) (Q : Option Value → pw_H → Prop) : Prop := match X with
  | (p, l, e, R, s, m, args, below, meth, c, A, Z, n) => p.tables.exec = Jvm.exec ∧ c.code = M.2.1 ∧ (c.maxLocals = M.2.2.1 ∧ n = M.2.2.1) ∧ s.vm.findClass M.1.cls = some m.cls ∧ (∀ w ∈ ALLW, w.before args s = true) ∧ meth.sig.returnType = M.2.2.2.1 ∧ meth.locks = false ∧ pw_K G s ∧ va_D A (pw_w sh G (fun _ _ => 0)) ∧ (∀ q, s.heap.size ≤ q → A q) ∧ (R.frames = M.2.2.2.2.1 ∧ R.locals = M.2.2.2.2.2.1) ∧ Z = MQ below (pw_Q sh G Q A) args s 0 0 A
/-- a method's contract out of a walk, also in a class some of whose methods are natives' -/
theorem Met_ofWF {l : Launch} {y : MethodName} {ws ws' : List Cond} {rm : Room} {Pc : Array Value → State → Prop} {Qc : Array Value → State → Outcome → State → Prop} {mc ms : Nat} {free : Addr → Prop} {cc : ByteArray} {maxL : Nat} {ret : Option FieldType}
    (hy : plainFor y = true) (hw : ws = Cond.code y cc maxL ret :: ws')
    (body : ∀ p e s m args below meth c s₁, BodyLoose p l y (headSpec ws rm) cc maxL ret e s m args below meth c s₁ → c.maxLocals = maxL → Pc args s →
      W p l e (headSpec ws rm).room s m args below meth c s.heap [] 0 0 (MQ below Qc args s mc ms free) (entryFrame m args maxL)) : Met l y ws rm Pc Qc mc ms free := by
  refine MetFree.of_bodySF (code := cc) (maxLocals := maxL) (ret := ret) hy (fun args s m h hn => ?_) (fun p e s m args below meth c s₁ B hml hP _ => ?_)
  · obtain ⟨meth, c, h1, h2, h3, h4, h5, h6, -, -⟩ := Cond.code_spec hn (atoms_spec (ws := ws) h _ (by rw [hw]; exact List.mem_cons_self))
    exact ⟨meth, c, h1, h2, h3, h4, h5, h6⟩
  · obtain ⟨t, a1, o, b1, b2, b3⟩ := body p e s m args below meth c s₁ B hml hP s₁ (by rw [B.state]; rfl) (Stand.of_body B)
    exact ⟨t, o, a1, b1, b2, b3.1, b3.2⟩
theorem Ct_of {l : Launch} {sh : pw_S} {G : pw_G} {M : MB} {As : List Value} {σ : pw_H} {Q : Option Value → pw_H → Prop} {ls : List (Option Value)}
    (hy : plainFor M.1 = true) (hlen : (lg_sl As).length ≤ M.2.2.1) (hls : pw_l 0 ls = lv_args 0 As)
    (body : ∀ X : PXT, PC X sh G M Q → PW X sh G 0 ls [] σ) : Ct l sh G M As σ Q := by
  intro sz
  refine Met_ofWF (cc := M.2.1) (maxL := M.2.2.1) (ret := M.2.2.2.1) hy rfl ?_
  intro p e s m args below meth c s₁ B hml hv
  obtain ⟨rfl, hsz, hP, hK, hD0⟩ := hv
  subst hsz
  have hD := hD0.self (sz := s.heap.size)
  have k := body (p, l, e, (headSpec (MB.ws M) (MB.rm M)).room, s, m, As.toArray, below, meth, c, va_A (pw_w sh G σ) s.heap.size, _, M.2.2.1) ⟨B.exec, B.bytes, ⟨hml, rfl⟩, findClass_of_methodNamed B.named, fun w hw => atoms_spec (ws := MB.ws M) B.pre w (List.mem_cons_of_mem _ hw), B.returns, B.notSynchronized, hK, pw_dom hD, fun q h => Or.inr h, ⟨rfl, rfl⟩, rfl⟩
  have hl := lv_entry As (n := M.2.2.1) hlen
  rw [lg_entry_eq]
  exact k s.heap [] _ (by rw [hls]; exact hl) hP va_S.rf
theorem goodALL : ∀ w ∈ ALLW, ((w.onTables && w.keeps) = true ∨ ∃ ty, w = .arrayClass ty) := fun w h => good_of_word (List.all_eq_true.mp (by decide +kernel : ALLW.all goodWord = true) w h)
def okM (M : MB) : Prop := Cond.initialized M.1.cls ∈ ALLW ∧ Cond.code M.1 M.2.1 M.2.2.1 M.2.2.2.1 ∈ ALLW ∧ (M.1.cls ≠ "java/lang/invoke/MethodHandle" ∧ M.1.cls ≠ "java/lang/invoke/VarHandle") ∧ (parseMethodDescriptor M.1.desc).map (fun d => d.parameters.length) = some M.2.2.2.2.2.2
def okS (M : MB) : Prop := okM M ∧ Cond.static M.1 ∈ ALLW
def okV (M : MB) : Prop := okM M ∧ Cond.instanceMethod M.1 ∈ ALLW ∧ Cond.selects M.1.cls M.1 M.1 ∈ ALLW
theorem okM.good {M : MB} (h : okM M) : GoodIn ALLW (MB.ws M) := fun w hw => by
  rcases List.mem_cons.mp hw with rfl | hw
  · exact ⟨h.2.1, goodALL _ h.2.1⟩
  · exact ⟨hw, goodALL _ hw⟩
theorem okS.good {M : MB} {own : String} {idx : Nat} (h : okS M) (hl : Cond.methodLink own idx M.1 ∈ ALLW) : GoodIn ALLW (va_wsS own idx M.1 (MB.ws M)) := fun w hw => by
  rcases List.mem_append.mp hw with hw | hw
  · have hm : w ∈ ALLW := by
      rcases List.mem_cons.mp hw with rfl | hw
      · exact hl
      rcases List.mem_cons.mp hw with rfl | hw
      · exact h.2
      rcases List.mem_cons.mp hw with rfl | hw
      · exact h.1.1
      · cases hw
    exact ⟨hm, goodALL _ hm⟩
  · exact h.1.good w hw
theorem okV.good {M : MB} {own : String} {idx : Nat} (h : okV M) (hl : Cond.methodLink own idx M.1 ∈ ALLW) : GoodIn ALLW (wsV own idx M.1.cls M.1 (MB.ws M)) := fun w hw => by
  rcases List.mem_append.mp hw with hw | hw
  · have hm : w ∈ ALLW := by
      rcases List.mem_cons.mp hw with rfl | hw
      · exact hl
      rcases List.mem_cons.mp hw with rfl | hw
      · exact h.2.1
      rcases List.mem_cons.mp hw with rfl | hw
      · exact h.2.2
      rcases List.mem_cons.mp hw with rfl | hw
      · exact h.1.1
      · cases hw
    exact ⟨hm, goodALL _ hm⟩
  · exact h.1.good w hw
section ROWS
variable {X : PXT} {sh : pw_S} {G : pw_G} {M : MB} {Q : Option Value → pw_H → Prop} {pc : Nat} {ls ls' : List (Option Value)} {st : List Value} {σ : pw_H}
theorem r_iconst (C : PC X sh G M Q) {z : Int} (hd : decode M.2.1 pc = .ok (.iconst z, 1)) (k : PW X sh G (pc + 1) ls (vI z :: st) σ) : PW X sh G pc ls (st) σ := by
  obtain ⟨p, l, e, R, s, m, args, below, meth, c, A, Z, n⟩ := X
  obtain ⟨hx, hb, ⟨hml, rfl⟩, hown, hts, hr, hlk, hK, hD, hA, hR, hZ⟩ := C
  intro H locs la hl hP hS
  exact lv_iconst (v := iI z) hx hb hd rfl (k H locs la hl hP hS)
theorem r_bipush (C : PC X sh G M Q) {z : Int} (hv : (Int8.ofInt z).toInt32 = iI z) (hd : decode M.2.1 pc = .ok (.bipush z, 2)) (k : PW X sh G (pc + 2) ls (vI z :: st) σ) : PW X sh G pc ls (st) σ := by
  obtain ⟨p, l, e, R, s, m, args, below, meth, c, A, Z, n⟩ := X
  obtain ⟨hx, hb, ⟨hml, rfl⟩, hown, hts, hr, hlk, hK, hD, hA, hR, hZ⟩ := C
  intro H locs la hl hP hS
  exact lv_bipush hx hb hd hv (k H locs la hl hP hS)
theorem r_sipush (C : PC X sh G M Q) {z : Int} (hv : (Int16.ofInt z).toInt32 = iI z) (hd : decode M.2.1 pc = .ok (.sipush z, 3)) (k : PW X sh G (pc + 3) ls (vI z :: st) σ) : PW X sh G pc ls (st) σ := by
  obtain ⟨p, l, e, R, s, m, args, below, meth, c, A, Z, n⟩ := X
  obtain ⟨hx, hb, ⟨hml, rfl⟩, hown, hts, hr, hlk, hK, hD, hA, hR, hZ⟩ := C
  intro H locs la hl hP hS
  exact lv_sipush hx hb hd hv (k H locs la hl hP hS)
theorem r_ldc (C : PC X sh G M Q) {i : Nat} {v : Int32} {z : Int} (hw : Cond.constant M.1.cls i v ∈ ALLW) (hv : v = iI z) (hd : decode M.2.1 pc = .ok (.ldc i, 2)) (k : PW X sh G (pc + 2) ls (vI z :: st) σ) : PW X sh G pc ls (st) σ := by
  obtain ⟨p, l, e, R, s, m, args, below, meth, c, A, Z, n⟩ := X
  obtain ⟨hx, hb, ⟨hml, rfl⟩, hown, hts, hr, hlk, hK, hD, hA, hR, hZ⟩ := C
  intro H locs la hl hP hS
  subst hv; exact lv_ldc hx hb hown (hts _ hw) hd (k H locs la hl hP hS)
theorem r_ldc2 (C : PC X sh G M Q) {i : Nat} {v : Int64} {z : Int} (hw : Cond.constantLong M.1.cls i v ∈ ALLW) (hv : v = lI z) (hd : decode M.2.1 pc = .ok (.ldc2_w i, 3)) (k : PW X sh G (pc + 3) ls (vL z :: st) σ) : PW X sh G pc ls (st) σ := by
  obtain ⟨p, l, e, R, s, m, args, below, meth, c, A, Z, n⟩ := X
  obtain ⟨hx, hb, ⟨hml, rfl⟩, hown, hts, hr, hlk, hK, hD, hA, hR, hZ⟩ := C
  intro H locs la hl hP hS
  subst hv; exact lv_ldc2 hx hb hown (hts _ hw) hd (k H locs la hl hP hS)
theorem r_lconst (C : PC X sh G M Q) {q : Fin 2} {z : Int} (hv : Int64.ofNat (q : Nat) = lI z) (hd : decode M.2.1 pc = .ok (.lconst q, 1)) (k : PW X sh G (pc + 1) ls (vL z :: st) σ) : PW X sh G pc ls (st) σ := by
  obtain ⟨p, l, e, R, s, m, args, below, meth, c, A, Z, n⟩ := X
  obtain ⟨hx, hb, ⟨hml, rfl⟩, hown, hts, hr, hlk, hK, hD, hA, hR, hZ⟩ := C
  intro H locs la hl hP hS
  exact lv_lconst hx hb hd hv (k H locs la hl hP hS)
theorem r_iload_n (C : PC X sh G M Q) {q : Fin 4} {x : Int} (hl0 : ls[(q : Nat)]? = some (some (vI x))) (hd : decode M.2.1 pc = .ok (.iload_n q, 1)) (k : PW X sh G (pc + 1) ls (vI x :: st) σ) : PW X sh G pc ls (st) σ := by
  obtain ⟨p, l, e, R, s, m, args, below, meth, c, A, Z, n⟩ := X
  obtain ⟨hx, hb, ⟨hml, rfl⟩, hown, hts, hr, hlk, hK, hD, hA, hR, hZ⟩ := C
  intro H locs la hl hP hS
  exact lv_iload_n hx hb hd rfl (pw_lg hl hl0) (k H locs la hl hP hS)
theorem r_iload (C : PC X sh G M Q) {i : Nat} {x : Int} (hl0 : ls[i]? = some (some (vI x))) (hd : decode M.2.1 pc = .ok (.iload i, 2)) (k : PW X sh G (pc + 2) ls (vI x :: st) σ) : PW X sh G pc ls (st) σ := by
  obtain ⟨p, l, e, R, s, m, args, below, meth, c, A, Z, n⟩ := X
  obtain ⟨hx, hb, ⟨hml, rfl⟩, hown, hts, hr, hlk, hK, hD, hA, hR, hZ⟩ := C
  intro H locs la hl hP hS
  exact lv_iload hx hb hd (pw_lg hl hl0) (k H locs la hl hP hS)
theorem r_lload_n (C : PC X sh G M Q) {q : Fin 4} {x : Int} (hl0 : ls[(q : Nat)]? = some (some (vL x))) (hd : decode M.2.1 pc = .ok (.lload_n q, 1)) (k : PW X sh G (pc + 1) ls (vL x :: st) σ) : PW X sh G pc ls (st) σ := by
  obtain ⟨p, l, e, R, s, m, args, below, meth, c, A, Z, n⟩ := X
  obtain ⟨hx, hb, ⟨hml, rfl⟩, hown, hts, hr, hlk, hK, hD, hA, hR, hZ⟩ := C
  intro H locs la hl hP hS
  exact lv_lload_n hx hb hd rfl (pw_lg hl hl0) (k H locs la hl hP hS)
theorem r_lload (C : PC X sh G M Q) {i : Nat} {x : Int} (hl0 : ls[i]? = some (some (vL x))) (hd : decode M.2.1 pc = .ok (.lload i, 2)) (k : PW X sh G (pc + 2) ls (vL x :: st) σ) : PW X sh G pc ls (st) σ := by
  obtain ⟨p, l, e, R, s, m, args, below, meth, c, A, Z, n⟩ := X
  obtain ⟨hx, hb, ⟨hml, rfl⟩, hown, hts, hr, hlk, hK, hD, hA, hR, hZ⟩ := C
  intro H locs la hl hP hS
  exact lv_lload hx hb hd (pw_lg hl hl0) (k H locs la hl hP hS)
theorem r_aload_n (C : PC X sh G M Q) {q : Fin 4} {x : Nat} (hl0 : ls[(q : Nat)]? = some (some (.ref x))) (hd : decode M.2.1 pc = .ok (.aload_n q, 1)) (k : PW X sh G (pc + 1) ls (.ref x :: st) σ) : PW X sh G pc ls (st) σ := by
  obtain ⟨p, l, e, R, s, m, args, below, meth, c, A, Z, n⟩ := X
  obtain ⟨hx, hb, ⟨hml, rfl⟩, hown, hts, hr, hlk, hK, hD, hA, hR, hZ⟩ := C
  intro H locs la hl hP hS
  exact lv_aload_n hx hb hd rfl (pw_lg hl hl0) (k H locs la hl hP hS)
theorem r_aload (C : PC X sh G M Q) {i : Nat} {x : Nat} (hl0 : ls[i]? = some (some (.ref x))) (hd : decode M.2.1 pc = .ok (.aload i, 2)) (k : PW X sh G (pc + 2) ls (.ref x :: st) σ) : PW X sh G pc ls (st) σ := by
  obtain ⟨p, l, e, R, s, m, args, below, meth, c, A, Z, n⟩ := X
  obtain ⟨hx, hb, ⟨hml, rfl⟩, hown, hts, hr, hlk, hK, hD, hA, hR, hZ⟩ := C
  intro H locs la hl hP hS
  exact lv_aload hx hb hd (pw_lg hl hl0) (k H locs la hl hP hS)
theorem r_iadd (C : PC X sh G M Q) {x y : Int} (hd : decode M.2.1 pc = .ok (.iadd, 1)) (k : PW X sh G (pc + 1) ls (vI (x + y) :: st) σ) : PW X sh G pc ls (vI y :: vI x :: st) σ := by
  obtain ⟨p, l, e, R, s, m, args, below, meth, c, A, Z, n⟩ := X
  obtain ⟨hx, hb, ⟨hml, rfl⟩, hown, hts, hr, hlk, hK, hD, hA, hR, hZ⟩ := C
  intro H locs la hl hP hS
  exact lv_iadd hx hb hd (by rw [iI_add]; exact k H locs la hl hP hS)
theorem r_isub (C : PC X sh G M Q) {x y : Int} (hd : decode M.2.1 pc = .ok (.isub, 1)) (k : PW X sh G (pc + 1) ls (vI (x - y) :: st) σ) : PW X sh G pc ls (vI y :: vI x :: st) σ := by
  obtain ⟨p, l, e, R, s, m, args, below, meth, c, A, Z, n⟩ := X
  obtain ⟨hx, hb, ⟨hml, rfl⟩, hown, hts, hr, hlk, hK, hD, hA, hR, hZ⟩ := C
  intro H locs la hl hP hS
  exact lv_isub hx hb hd (by rw [iI_sub]; exact k H locs la hl hP hS)
theorem r_imul (C : PC X sh G M Q) {x y : Int} (hd : decode M.2.1 pc = .ok (.imul, 1)) (k : PW X sh G (pc + 1) ls (vI (x * y) :: st) σ) : PW X sh G pc ls (vI y :: vI x :: st) σ := by
  obtain ⟨p, l, e, R, s, m, args, below, meth, c, A, Z, n⟩ := X
  obtain ⟨hx, hb, ⟨hml, rfl⟩, hown, hts, hr, hlk, hK, hD, hA, hR, hZ⟩ := C
  intro H locs la hl hP hS
  exact lv_imul hx hb hd (by rw [iI_mul]; exact k H locs la hl hP hS)
theorem r_ineg (C : PC X sh G M Q) {x : Int} (hd : decode M.2.1 pc = .ok (.ineg, 1)) (k : PW X sh G (pc + 1) ls (vI (-x) :: st) σ) : PW X sh G pc ls (vI x :: st) σ := by
  obtain ⟨p, l, e, R, s, m, args, below, meth, c, A, Z, n⟩ := X
  obtain ⟨hx, hb, ⟨hml, rfl⟩, hown, hts, hr, hlk, hK, hD, hA, hR, hZ⟩ := C
  intro H locs la hl hP hS
  exact lv_ineg hx hb hd (by rw [iI_neg]; exact k H locs la hl hP hS)
theorem r_idiv (C : PC X sh G M Q) {x y : Int} (h1 : InI x) (h2 : InI y) (h3 : y ≠ 0) (hd : decode M.2.1 pc = .ok (.idiv, 1)) (k : PW X sh G (pc + 1) ls (vI (x.tdiv y) :: st) σ) : PW X sh G pc ls (vI y :: vI x :: st) σ := by
  obtain ⟨p, l, e, R, s, m, args, below, meth, c, A, Z, n⟩ := X
  obtain ⟨hx, hb, ⟨hml, rfl⟩, hown, hts, hr, hlk, hK, hD, hA, hR, hZ⟩ := C
  intro H locs la hl hP hS
  exact lv_idiv hx hb hd (fun q => h3 ((iI_eq h2 ⟨by omega, by omega⟩).mp (q.trans iI_0.symm))) (by rw [iI_div h1 h2]; exact k H locs la hl hP hS)
theorem r_irem (C : PC X sh G M Q) {x y : Int} (h1 : InI x) (h2 : InI y) (h3 : y ≠ 0) (hd : decode M.2.1 pc = .ok (.irem, 1)) (k : PW X sh G (pc + 1) ls (vI (x.tmod y) :: st) σ) : PW X sh G pc ls (vI y :: vI x :: st) σ := by
  obtain ⟨p, l, e, R, s, m, args, below, meth, c, A, Z, n⟩ := X
  obtain ⟨hx, hb, ⟨hml, rfl⟩, hown, hts, hr, hlk, hK, hD, hA, hR, hZ⟩ := C
  intro H locs la hl hP hS
  exact lv_irem hx hb hd (fun q => h3 ((iI_eq h2 ⟨by omega, by omega⟩).mp (q.trans iI_0.symm))) (by rw [iI_rem h1 h2]; exact k H locs la hl hP hS)
theorem r_iand (C : PC X sh G M Q) {x y z : Int} (h : iI x &&& iI y = iI z) (hd : decode M.2.1 pc = .ok (.iand, 1)) (k : PW X sh G (pc + 1) ls (vI z :: st) σ) : PW X sh G pc ls (vI y :: vI x :: st) σ := by
  obtain ⟨p, l, e, R, s, m, args, below, meth, c, A, Z, n⟩ := X
  obtain ⟨hx, hb, ⟨hml, rfl⟩, hown, hts, hr, hlk, hK, hD, hA, hR, hZ⟩ := C
  intro H locs la hl hP hS
  exact lv_iand hx hb hd (by rw [h]; exact k H locs la hl hP hS)
theorem r_ior (C : PC X sh G M Q) {x y z : Int} (h : iI x ||| iI y = iI z) (hd : decode M.2.1 pc = .ok (.ior, 1)) (k : PW X sh G (pc + 1) ls (vI z :: st) σ) : PW X sh G pc ls (vI y :: vI x :: st) σ := by
  obtain ⟨p, l, e, R, s, m, args, below, meth, c, A, Z, n⟩ := X
  obtain ⟨hx, hb, ⟨hml, rfl⟩, hown, hts, hr, hlk, hK, hD, hA, hR, hZ⟩ := C
  intro H locs la hl hP hS
  exact lv_ior hx hb hd (by rw [h]; exact k H locs la hl hP hS)
theorem r_ixor (C : PC X sh G M Q) {x y z : Int} (h : iI x ^^^ iI y = iI z) (hd : decode M.2.1 pc = .ok (.ixor, 1)) (k : PW X sh G (pc + 1) ls (vI z :: st) σ) : PW X sh G pc ls (vI y :: vI x :: st) σ := by
  obtain ⟨p, l, e, R, s, m, args, below, meth, c, A, Z, n⟩ := X
  obtain ⟨hx, hb, ⟨hml, rfl⟩, hown, hts, hr, hlk, hK, hD, hA, hR, hZ⟩ := C
  intro H locs la hl hP hS
  exact lv_ixor hx hb hd (by rw [h]; exact k H locs la hl hP hS)
theorem r_ishl (C : PC X sh G M Q) {x y z : Int} (h : iI x <<< (iI y &&& 31) = iI z) (hd : decode M.2.1 pc = .ok (.ishl, 1)) (k : PW X sh G (pc + 1) ls (vI z :: st) σ) : PW X sh G pc ls (vI y :: vI x :: st) σ := by
  obtain ⟨p, l, e, R, s, m, args, below, meth, c, A, Z, n⟩ := X
  obtain ⟨hx, hb, ⟨hml, rfl⟩, hown, hts, hr, hlk, hK, hD, hA, hR, hZ⟩ := C
  intro H locs la hl hP hS
  exact lv_ishl hx hb hd (by rw [h]; exact k H locs la hl hP hS)
theorem r_ishr (C : PC X sh G M Q) {x y z : Int} (h : iI x >>> (iI y &&& 31) = iI z) (hd : decode M.2.1 pc = .ok (.ishr, 1)) (k : PW X sh G (pc + 1) ls (vI z :: st) σ) : PW X sh G pc ls (vI y :: vI x :: st) σ := by
  obtain ⟨p, l, e, R, s, m, args, below, meth, c, A, Z, n⟩ := X
  obtain ⟨hx, hb, ⟨hml, rfl⟩, hown, hts, hr, hlk, hK, hD, hA, hR, hZ⟩ := C
  intro H locs la hl hP hS
  exact lv_ishr hx hb hd (by rw [h]; exact k H locs la hl hP hS)
theorem r_ladd (C : PC X sh G M Q) {x y : Int} (hd : decode M.2.1 pc = .ok (.ladd, 1)) (k : PW X sh G (pc + 1) ls (vL (x + y) :: st) σ) : PW X sh G pc ls (vL y :: vL x :: st) σ := by
  obtain ⟨p, l, e, R, s, m, args, below, meth, c, A, Z, n⟩ := X
  obtain ⟨hx, hb, ⟨hml, rfl⟩, hown, hts, hr, hlk, hK, hD, hA, hR, hZ⟩ := C
  intro H locs la hl hP hS
  exact lv_ladd hx hb hd (by rw [lI_add]; exact k H locs la hl hP hS)
theorem r_i2l (C : PC X sh G M Q) {x z : Int} (h : (iI x).toInt64 = lI z) (hd : decode M.2.1 pc = .ok (.i2l, 1)) (k : PW X sh G (pc + 1) ls (vL z :: st) σ) : PW X sh G pc ls (vI x :: st) σ := by
  obtain ⟨p, l, e, R, s, m, args, below, meth, c, A, Z, n⟩ := X
  obtain ⟨hx, hb, ⟨hml, rfl⟩, hown, hts, hr, hlk, hK, hD, hA, hR, hZ⟩ := C
  intro H locs la hl hP hS
  exact lv_i2l hx hb hd h (k H locs la hl hP hS)
theorem r_l2i (C : PC X sh G M Q) {x z : Int} (h : (lI x).toInt32 = iI z) (hd : decode M.2.1 pc = .ok (.l2i, 1)) (k : PW X sh G (pc + 1) ls (vI z :: st) σ) : PW X sh G pc ls (vL x :: st) σ := by
  obtain ⟨p, l, e, R, s, m, args, below, meth, c, A, Z, n⟩ := X
  obtain ⟨hx, hb, ⟨hml, rfl⟩, hown, hts, hr, hlk, hK, hD, hA, hR, hZ⟩ := C
  intro H locs la hl hP hS
  exact lv_l2i hx hb hd h (k H locs la hl hP hS)
theorem r_lshl (C : PC X sh G M Q) {x y z : Int} (h : lI x <<< ((iI y).toInt64 &&& 63) = lI z) (hd : decode M.2.1 pc = .ok (.lshl, 1)) (k : PW X sh G (pc + 1) ls (vL z :: st) σ) : PW X sh G pc ls (vI y :: vL x :: st) σ := by
  obtain ⟨p, l, e, R, s, m, args, below, meth, c, A, Z, n⟩ := X
  obtain ⟨hx, hb, ⟨hml, rfl⟩, hown, hts, hr, hlk, hK, hD, hA, hR, hZ⟩ := C
  intro H locs la hl hP hS
  exact lv_lshl hx hb hd h (k H locs la hl hP hS)
theorem r_lshr (C : PC X sh G M Q) {x y z : Int} (h : lI x >>> ((iI y).toInt64 &&& 63) = lI z) (hd : decode M.2.1 pc = .ok (.lshr, 1)) (k : PW X sh G (pc + 1) ls (vL z :: st) σ) : PW X sh G pc ls (vI y :: vL x :: st) σ := by
  obtain ⟨p, l, e, R, s, m, args, below, meth, c, A, Z, n⟩ := X
  obtain ⟨hx, hb, ⟨hml, rfl⟩, hown, hts, hr, hlk, hK, hD, hA, hR, hZ⟩ := C
  intro H locs la hl hP hS
  exact lv_lshr hx hb hd h (k H locs la hl hP hS)
theorem r_dup (C : PC X sh G M Q) {v : Value} (h : v.category = 1) (hd : decode M.2.1 pc = .ok (.dup, 1)) (k : PW X sh G (pc + 1) ls (v :: v :: st) σ) : PW X sh G pc ls (v :: st) σ := by
  obtain ⟨p, l, e, R, s, m, args, below, meth, c, A, Z, n⟩ := X
  obtain ⟨hx, hb, ⟨hml, rfl⟩, hown, hts, hr, hlk, hK, hD, hA, hR, hZ⟩ := C
  intro H locs la hl hP hS
  exact lv_dup hx hb hd h (k H locs la hl hP hS)
theorem r_dup_x1 (C : PC X sh G M Q) {v w : Value} (h : v.category = 1) (h2 : w.category = 1) (hd : decode M.2.1 pc = .ok (.dup_x1, 1)) (k : PW X sh G (pc + 1) ls (v :: w :: v :: st) σ) : PW X sh G pc ls (v :: w :: st) σ := by
  obtain ⟨p, l, e, R, s, m, args, below, meth, c, A, Z, n⟩ := X
  obtain ⟨hx, hb, ⟨hml, rfl⟩, hown, hts, hr, hlk, hK, hD, hA, hR, hZ⟩ := C
  intro H locs la hl hP hS
  exact lv_dup_x1 hx hb hd h h2 (k H locs la hl hP hS)
theorem r_dup2 (C : PC X sh G M Q) {v w : Value} (h : v.category = 1) (h2 : w.category = 1) (hd : decode M.2.1 pc = .ok (.dup2, 1)) (k : PW X sh G (pc + 1) ls (v :: w :: v :: w :: st) σ) : PW X sh G pc ls (v :: w :: st) σ := by
  obtain ⟨p, l, e, R, s, m, args, below, meth, c, A, Z, n⟩ := X
  obtain ⟨hx, hb, ⟨hml, rfl⟩, hown, hts, hr, hlk, hK, hD, hA, hR, hZ⟩ := C
  intro H locs la hl hP hS
  exact lv_dup2_11 hx hb hd h h2 (k H locs la hl hP hS)
theorem r_istore_n (C : PC X sh G M Q) {q : Fin 4} {x : Int} (hn : (q : Nat) < M.2.2.1) (hc : pw_c ls (q : Nat) = true) (hs : ls.set (q : Nat) (some (vI x)) = ls') (hd : decode M.2.1 pc = .ok (.istore_n q, 1)) (k : PW X sh G (pc + 1) ls' st σ) : PW X sh G pc ls (vI x :: st) σ := by
  obtain ⟨p, l, e, R, s, m, args, below, meth, c, A, Z, n⟩ := X
  obtain ⟨hx, hb, ⟨hml, rfl⟩, hown, hts, hr, hlk, hK, hD, hA, hR, hZ⟩ := C
  intro H locs la hl hP hS
  exact lv_istore_n hx hb hd rfl hl hn rfl (fun la hl => k H locs la (hs ▸ pw_s1 hc hl) hP hS)
theorem r_istore (C : PC X sh G M Q) {i : Nat} {x : Int} (hn : i < M.2.2.1) (hc : pw_c ls i = true) (hs : ls.set i (some (vI x)) = ls') (hd : decode M.2.1 pc = .ok (.istore i, 2)) (k : PW X sh G (pc + 2) ls' st σ) : PW X sh G pc ls (vI x :: st) σ := by
  obtain ⟨p, l, e, R, s, m, args, below, meth, c, A, Z, n⟩ := X
  obtain ⟨hx, hb, ⟨hml, rfl⟩, hown, hts, hr, hlk, hK, hD, hA, hR, hZ⟩ := C
  intro H locs la hl hP hS
  exact lv_istore hx hb hd hl hn rfl (fun la hl => k H locs la (hs ▸ pw_s1 hc hl) hP hS)
theorem r_astore_n (C : PC X sh G M Q) {q : Fin 4} {x : Nat} (hn : (q : Nat) < M.2.2.1) (hc : pw_c ls (q : Nat) = true) (hs : ls.set (q : Nat) (some (.ref x)) = ls') (hd : decode M.2.1 pc = .ok (.astore_n q, 1)) (k : PW X sh G (pc + 1) ls' st σ) : PW X sh G pc ls (.ref x :: st) σ := by
  obtain ⟨p, l, e, R, s, m, args, below, meth, c, A, Z, n⟩ := X
  obtain ⟨hx, hb, ⟨hml, rfl⟩, hown, hts, hr, hlk, hK, hD, hA, hR, hZ⟩ := C
  intro H locs la hl hP hS
  exact lv_astore_n hx hb hd rfl hl hn rfl (fun la hl => k H locs la (hs ▸ pw_s1 hc hl) hP hS)
theorem r_astore (C : PC X sh G M Q) {i : Nat} {x : Nat} (hn : i < M.2.2.1) (hc : pw_c ls i = true) (hs : ls.set i (some (.ref x)) = ls') (hd : decode M.2.1 pc = .ok (.astore i, 2)) (k : PW X sh G (pc + 2) ls' st σ) : PW X sh G pc ls (.ref x :: st) σ := by
  obtain ⟨p, l, e, R, s, m, args, below, meth, c, A, Z, n⟩ := X
  obtain ⟨hx, hb, ⟨hml, rfl⟩, hown, hts, hr, hlk, hK, hD, hA, hR, hZ⟩ := C
  intro H locs la hl hP hS
  exact lv_astore hx hb hd hl hn rfl (fun la hl => k H locs la (hs ▸ pw_s1 hc hl) hP hS)
theorem r_lstore_n (C : PC X sh G M Q) {q : Fin 4} {x : Int} (hn : (q : Nat) + 1 < M.2.2.1) (hc : pw_c ls (q : Nat) = true) (hs : (ls.set (q : Nat) (some (vL x))).set ((q : Nat) + 1) none = ls') (hd : decode M.2.1 pc = .ok (.lstore_n q, 1)) (k : PW X sh G (pc + 1) ls' st σ) : PW X sh G pc ls (vL x :: st) σ := by
  obtain ⟨p, l, e, R, s, m, args, below, meth, c, A, Z, n⟩ := X
  obtain ⟨hx, hb, ⟨hml, rfl⟩, hown, hts, hr, hlk, hK, hD, hA, hR, hZ⟩ := C
  intro H locs la hl hP hS
  exact lv_lstore_n hx hb hd rfl hl hn rfl (fun la hl => k H locs la (hs ▸ pw_s2 hc hl) hP hS)
theorem r_lstore (C : PC X sh G M Q) {i : Nat} {x : Int} (hn : i + 1 < M.2.2.1) (hc : pw_c ls i = true) (hs : (ls.set i (some (vL x))).set (i + 1) none = ls') (hd : decode M.2.1 pc = .ok (.lstore i, 2)) (k : PW X sh G (pc + 2) ls' st σ) : PW X sh G pc ls (vL x :: st) σ := by
  obtain ⟨p, l, e, R, s, m, args, below, meth, c, A, Z, n⟩ := X
  obtain ⟨hx, hb, ⟨hml, rfl⟩, hown, hts, hr, hlk, hK, hD, hA, hR, hZ⟩ := C
  intro H locs la hl hP hS
  exact lv_lstore hx hb hd hl hn rfl (fun la hl => k H locs la (hs ▸ pw_s2 hc hl) hP hS)
theorem r_iinc (C : PC X sh G M Q) {i : Nat} {z x : Int} (hl0 : ls[i]? = some (some (vI x))) (hn : i < M.2.2.1) (hc : pw_c ls i = true) (hs : ls.set i (some (vI (x + z))) = ls') (hd : decode M.2.1 pc = .ok (.iinc i z, 3)) (k : PW X sh G (pc + 3) ls' st σ) : PW X sh G pc ls st σ := by
  obtain ⟨p, l, e, R, s, m, args, below, meth, c, A, Z, n⟩ := X
  obtain ⟨hx, hb, ⟨hml, rfl⟩, hown, hts, hr, hlk, hK, hD, hA, hR, hZ⟩ := C
  intro H locs la hl hP hS
  obtain ⟨kk, hkk⟩ := List.getElem?_of_mem ((pw_l_mem ls 0 i (vI x)).mpr ⟨i, by omega, hl0⟩)
  exact lv_iinc (v := iI (x + z)) hx hb hd hl hkk (iI_add x z) hn rfl (fun la hl => k H locs la (hs ▸ pw_s1 hc hl) hP hS)
theorem r_goto (C : PC X sh G M Q) {off : Int} {tgt : Nat} (ht : (pc : Int) + off = (tgt : Int)) (hd : decode M.2.1 pc = .ok (.goto off, 3)) (k : PW X sh G tgt ls st σ) : PW X sh G pc ls st σ := by
  obtain ⟨p, l, e, R, s, m, args, below, meth, c, A, Z, n⟩ := X
  obtain ⟨hx, hb, ⟨hml, rfl⟩, hown, hts, hr, hlk, hK, hD, hA, hR, hZ⟩ := C
  intro H locs la hl hP hS
  exact lv_goto hx hb hd ht (k H locs la hl hP hS)
theorem r_icmp_eq (C : PC X sh G M Q) {off : Int} {tgt : Nat} {x y : Int} (ht : (pc : Int) + off = (tgt : Int)) (h1 : InI x) (h2 : InI y) (hd : decode M.2.1 pc = .ok (.if_icmp .eq off, 3)) (kt : x = y → PW X sh G tgt ls st σ) (kf : ¬ (x = y) → PW X sh G (pc + 3) ls st σ) : PW X sh G pc ls (vI y :: vI x :: st) σ := by
  obtain ⟨p, l, e, R, s, m, args, below, meth, c, A, Z, n⟩ := X
  obtain ⟨hx, hb, ⟨hml, rfl⟩, hown, hts, hr, hlk, hK, hD, hA, hR, hZ⟩ := C
  intro H locs la hl hP hS
  exact lv_icmp_eq hx hb hd ht (fun q => kt ((iI_eq h1 h2).mp q) H locs la hl hP hS) (fun q => kf (fun z => q ((iI_eq h1 h2).mpr z)) H locs la hl hP hS)
theorem r_if_eq (C : PC X sh G M Q) {off : Int} {tgt : Nat} {x : Int} (ht : (pc : Int) + off = (tgt : Int)) (h1 : InI x) (hd : decode M.2.1 pc = .ok (.ifCond .eq off, 3)) (kt : x = 0 → PW X sh G tgt ls st σ) (kf : ¬ (x = 0) → PW X sh G (pc + 3) ls st σ) : PW X sh G pc ls (vI x :: st) σ := by
  obtain ⟨p, l, e, R, s, m, args, below, meth, c, A, Z, n⟩ := X
  obtain ⟨hx, hb, ⟨hml, rfl⟩, hown, hts, hr, hlk, hK, hD, hA, hR, hZ⟩ := C
  intro H locs la hl hP hS
  exact lv_if_eq hx hb hd ht (fun q => kt ((iI_eq h1 (b := 0) ⟨by omega, by omega⟩).mp q) H locs la hl hP hS) (fun q => kf (fun z => q ((iI_eq h1 (b := 0) ⟨by omega, by omega⟩).mpr z)) H locs la hl hP hS)
theorem r_icmp_ne (C : PC X sh G M Q) {off : Int} {tgt : Nat} {x y : Int} (ht : (pc : Int) + off = (tgt : Int)) (h1 : InI x) (h2 : InI y) (hd : decode M.2.1 pc = .ok (.if_icmp .ne off, 3)) (kt : x ≠ y → PW X sh G tgt ls st σ) (kf : ¬ (x ≠ y) → PW X sh G (pc + 3) ls st σ) : PW X sh G pc ls (vI y :: vI x :: st) σ := by
  obtain ⟨p, l, e, R, s, m, args, below, meth, c, A, Z, n⟩ := X
  obtain ⟨hx, hb, ⟨hml, rfl⟩, hown, hts, hr, hlk, hK, hD, hA, hR, hZ⟩ := C
  intro H locs la hl hP hS
  exact lv_icmp_ne hx hb hd ht (fun q => kt (fun z => q ((iI_eq h1 h2).mpr z)) H locs la hl hP hS) (fun q => kf (fun z => z (by first | exact (iI_eq h1 h2).mp q | exact (iI_eq h1 h2).mp (Decidable.not_not.mp q))) H locs la hl hP hS)
theorem r_if_ne (C : PC X sh G M Q) {off : Int} {tgt : Nat} {x : Int} (ht : (pc : Int) + off = (tgt : Int)) (h1 : InI x) (hd : decode M.2.1 pc = .ok (.ifCond .ne off, 3)) (kt : x ≠ 0 → PW X sh G tgt ls st σ) (kf : ¬ (x ≠ 0) → PW X sh G (pc + 3) ls st σ) : PW X sh G pc ls (vI x :: st) σ := by
  obtain ⟨p, l, e, R, s, m, args, below, meth, c, A, Z, n⟩ := X
  obtain ⟨hx, hb, ⟨hml, rfl⟩, hown, hts, hr, hlk, hK, hD, hA, hR, hZ⟩ := C
  intro H locs la hl hP hS
  exact lv_if_ne hx hb hd ht (fun q => kt (fun z => q ((iI_eq h1 (b := 0) ⟨by omega, by omega⟩).mpr z)) H locs la hl hP hS) (fun q => kf (fun z => z (by first | exact (iI_eq h1 (b := 0) ⟨by omega, by omega⟩).mp q | exact (iI_eq h1 (b := 0) ⟨by omega, by omega⟩).mp (Decidable.not_not.mp q))) H locs la hl hP hS)
theorem r_icmp_lt (C : PC X sh G M Q) {off : Int} {tgt : Nat} {x y : Int} (ht : (pc : Int) + off = (tgt : Int)) (h1 : InI x) (h2 : InI y) (hd : decode M.2.1 pc = .ok (.if_icmp .lt off, 3)) (kt : x < y → PW X sh G tgt ls st σ) (kf : ¬ (x < y) → PW X sh G (pc + 3) ls st σ) : PW X sh G pc ls (vI y :: vI x :: st) σ := by
  obtain ⟨p, l, e, R, s, m, args, below, meth, c, A, Z, n⟩ := X
  obtain ⟨hx, hb, ⟨hml, rfl⟩, hown, hts, hr, hlk, hK, hD, hA, hR, hZ⟩ := C
  intro H locs la hl hP hS
  exact lv_icmp_lt hx hb hd ht (fun q => kt ((iI_lt h1 h2).mp q) H locs la hl hP hS) (fun q => kf (fun z => q ((iI_lt h1 h2).mpr z)) H locs la hl hP hS)
theorem r_if_lt (C : PC X sh G M Q) {off : Int} {tgt : Nat} {x : Int} (ht : (pc : Int) + off = (tgt : Int)) (h1 : InI x) (hd : decode M.2.1 pc = .ok (.ifCond .lt off, 3)) (kt : x < 0 → PW X sh G tgt ls st σ) (kf : ¬ (x < 0) → PW X sh G (pc + 3) ls st σ) : PW X sh G pc ls (vI x :: st) σ := by
  obtain ⟨p, l, e, R, s, m, args, below, meth, c, A, Z, n⟩ := X
  obtain ⟨hx, hb, ⟨hml, rfl⟩, hown, hts, hr, hlk, hK, hD, hA, hR, hZ⟩ := C
  intro H locs la hl hP hS
  exact lv_if_lt hx hb hd ht (fun q => kt ((iI_lt h1 (b := 0) ⟨by omega, by omega⟩).mp q) H locs la hl hP hS) (fun q => kf (fun z => q ((iI_lt h1 (b := 0) ⟨by omega, by omega⟩).mpr z)) H locs la hl hP hS)
theorem r_icmp_ge (C : PC X sh G M Q) {off : Int} {tgt : Nat} {x y : Int} (ht : (pc : Int) + off = (tgt : Int)) (h1 : InI x) (h2 : InI y) (hd : decode M.2.1 pc = .ok (.if_icmp .ge off, 3)) (kt : y ≤ x → PW X sh G tgt ls st σ) (kf : ¬ (y ≤ x) → PW X sh G (pc + 3) ls st σ) : PW X sh G pc ls (vI y :: vI x :: st) σ := by
  obtain ⟨p, l, e, R, s, m, args, below, meth, c, A, Z, n⟩ := X
  obtain ⟨hx, hb, ⟨hml, rfl⟩, hown, hts, hr, hlk, hK, hD, hA, hR, hZ⟩ := C
  intro H locs la hl hP hS
  exact lv_icmp_ge hx hb hd ht (fun q => kt ((iI_le h2 h1).mp q) H locs la hl hP hS) (fun q => kf (fun z => q ((iI_le h2 h1).mpr z)) H locs la hl hP hS)
theorem r_if_ge (C : PC X sh G M Q) {off : Int} {tgt : Nat} {x : Int} (ht : (pc : Int) + off = (tgt : Int)) (h1 : InI x) (hd : decode M.2.1 pc = .ok (.ifCond .ge off, 3)) (kt : 0 ≤ x → PW X sh G tgt ls st σ) (kf : ¬ (0 ≤ x) → PW X sh G (pc + 3) ls st σ) : PW X sh G pc ls (vI x :: st) σ := by
  obtain ⟨p, l, e, R, s, m, args, below, meth, c, A, Z, n⟩ := X
  obtain ⟨hx, hb, ⟨hml, rfl⟩, hown, hts, hr, hlk, hK, hD, hA, hR, hZ⟩ := C
  intro H locs la hl hP hS
  exact lv_if_ge hx hb hd ht (fun q => kt ((iI_le (a := 0) ⟨by omega, by omega⟩ h1).mp q) H locs la hl hP hS) (fun q => kf (fun z => q ((iI_le (a := 0) ⟨by omega, by omega⟩ h1).mpr z)) H locs la hl hP hS)
theorem r_icmp_gt (C : PC X sh G M Q) {off : Int} {tgt : Nat} {x y : Int} (ht : (pc : Int) + off = (tgt : Int)) (h1 : InI x) (h2 : InI y) (hd : decode M.2.1 pc = .ok (.if_icmp .gt off, 3)) (kt : y < x → PW X sh G tgt ls st σ) (kf : ¬ (y < x) → PW X sh G (pc + 3) ls st σ) : PW X sh G pc ls (vI y :: vI x :: st) σ := by
  obtain ⟨p, l, e, R, s, m, args, below, meth, c, A, Z, n⟩ := X
  obtain ⟨hx, hb, ⟨hml, rfl⟩, hown, hts, hr, hlk, hK, hD, hA, hR, hZ⟩ := C
  intro H locs la hl hP hS
  exact lv_icmp_gt hx hb hd ht (fun q => kt ((iI_lt h2 h1).mp q) H locs la hl hP hS) (fun q => kf (fun z => q ((iI_lt h2 h1).mpr z)) H locs la hl hP hS)
theorem r_if_gt (C : PC X sh G M Q) {off : Int} {tgt : Nat} {x : Int} (ht : (pc : Int) + off = (tgt : Int)) (h1 : InI x) (hd : decode M.2.1 pc = .ok (.ifCond .gt off, 3)) (kt : 0 < x → PW X sh G tgt ls st σ) (kf : ¬ (0 < x) → PW X sh G (pc + 3) ls st σ) : PW X sh G pc ls (vI x :: st) σ := by
  obtain ⟨p, l, e, R, s, m, args, below, meth, c, A, Z, n⟩ := X
  obtain ⟨hx, hb, ⟨hml, rfl⟩, hown, hts, hr, hlk, hK, hD, hA, hR, hZ⟩ := C
  intro H locs la hl hP hS
  exact lv_if_gt hx hb hd ht (fun q => kt ((iI_lt (a := 0) ⟨by omega, by omega⟩ h1).mp q) H locs la hl hP hS) (fun q => kf (fun z => q ((iI_lt (a := 0) ⟨by omega, by omega⟩ h1).mpr z)) H locs la hl hP hS)
theorem r_icmp_le (C : PC X sh G M Q) {off : Int} {tgt : Nat} {x y : Int} (ht : (pc : Int) + off = (tgt : Int)) (h1 : InI x) (h2 : InI y) (hd : decode M.2.1 pc = .ok (.if_icmp .le off, 3)) (kt : x ≤ y → PW X sh G tgt ls st σ) (kf : ¬ (x ≤ y) → PW X sh G (pc + 3) ls st σ) : PW X sh G pc ls (vI y :: vI x :: st) σ := by
  obtain ⟨p, l, e, R, s, m, args, below, meth, c, A, Z, n⟩ := X
  obtain ⟨hx, hb, ⟨hml, rfl⟩, hown, hts, hr, hlk, hK, hD, hA, hR, hZ⟩ := C
  intro H locs la hl hP hS
  exact lv_icmp_le hx hb hd ht (fun q => kt ((iI_le h1 h2).mp q) H locs la hl hP hS) (fun q => kf (fun z => q ((iI_le h1 h2).mpr z)) H locs la hl hP hS)
theorem r_if_le (C : PC X sh G M Q) {off : Int} {tgt : Nat} {x : Int} (ht : (pc : Int) + off = (tgt : Int)) (h1 : InI x) (hd : decode M.2.1 pc = .ok (.ifCond .le off, 3)) (kt : x ≤ 0 → PW X sh G tgt ls st σ) (kf : ¬ (x ≤ 0) → PW X sh G (pc + 3) ls st σ) : PW X sh G pc ls (vI x :: st) σ := by
  obtain ⟨p, l, e, R, s, m, args, below, meth, c, A, Z, n⟩ := X
  obtain ⟨hx, hb, ⟨hml, rfl⟩, hown, hts, hr, hlk, hK, hD, hA, hR, hZ⟩ := C
  intro H locs la hl hP hS
  exact lv_if_le hx hb hd ht (fun q => kt ((iI_le h1 (b := 0) ⟨by omega, by omega⟩).mp q) H locs la hl hP hS) (fun q => kf (fun z => q ((iI_le h1 (b := 0) ⟨by omega, by omega⟩).mpr z)) H locs la hl hP hS)
theorem r_lcmp (C : PC X sh G M Q) {x y z : Int} (h : lg_cmp (lI x) (lI y) = iI z) (hd : decode M.2.1 pc = .ok (.lcmp, 1)) (k : PW X sh G (pc + 1) ls (vI z :: st) σ) : PW X sh G pc ls (vL y :: vL x :: st) σ := by
  obtain ⟨p, l, e, R, s, m, args, below, meth, c, A, Z, n⟩ := X
  obtain ⟨hx, hb, ⟨hml, rfl⟩, hown, hts, hr, hlk, hK, hD, hA, hR, hZ⟩ := C
  intro H locs la hl hP hS
  exact W.lcmp hx hb hd (by rw [h]; exact k H locs la hl hP hS)
theorem r_tableIn (C : PC X sh G M Q) {dflt lo hi : Int} {offs : Array Int} {len : Nat} {x off : Int} {tgt : Nat} (h0 : InI x) (h1 : ¬ x < lo) (h2 : ¬ hi < x) (ho : offs[(x - lo).toNat]? = some off) (ht : (pc : Int) + off = (tgt : Int)) (hd : decode M.2.1 pc = .ok (.tableswitch dflt lo hi offs, len)) (k : PW X sh G tgt ls st σ) : PW X sh G pc ls (vI x :: st) σ := by
  obtain ⟨p, l, e, R, s, m, args, below, meth, c, A, Z, n⟩ := X
  obtain ⟨hx, hb, ⟨hml, rfl⟩, hown, hts, hr, hlk, hK, hD, hA, hR, hZ⟩ := C
  intro H locs la hl hP hS
  exact lv_tableIn hx hb hd (by rw [iI_t h0]; exact h1) (by rw [iI_t h0]; exact h2) (by rw [iI_t h0]; exact ho) ht (k H locs la hl hP hS)
theorem r_tableOut (C : PC X sh G M Q) {dflt lo hi : Int} {offs : Array Int} {len : Nat} {x : Int} {tgt : Nat} (h0 : InI x) (h1 : x < lo ∨ hi < x) (ht : (pc : Int) + dflt = (tgt : Int)) (hd : decode M.2.1 pc = .ok (.tableswitch dflt lo hi offs, len)) (k : PW X sh G tgt ls st σ) : PW X sh G pc ls (vI x :: st) σ := by
  obtain ⟨p, l, e, R, s, m, args, below, meth, c, A, Z, n⟩ := X
  obtain ⟨hx, hb, ⟨hml, rfl⟩, hown, hts, hr, hlk, hK, hD, hA, hR, hZ⟩ := C
  intro H locs la hl hP hS
  exact lv_tableOut hx hb hd (by rw [iI_t h0]; exact h1) ht (k H locs la hl hP hS)
theorem r_lookup (C : PC X sh G M Q) {dflt : Int} {ps : Array (Int × Int)} {len : Nat} {x off : Int} {tgt : Nat} (h0 : InI x) (hp : (ps.toList.zip (ps.toList.drop 1)).all (fun (a, next) => a.1 < next.1) = true) (ho : Op.lookupswitch.offset ps.toList dflt x = off) (ht : (pc : Int) + off = (tgt : Int)) (hd : decode M.2.1 pc = .ok (.lookupswitch dflt ps, len)) (k : PW X sh G tgt ls st σ) : PW X sh G pc ls (vI x :: st) σ := by
  obtain ⟨p, l, e, R, s, m, args, below, meth, c, A, Z, n⟩ := X
  obtain ⟨hx, hb, ⟨hml, rfl⟩, hown, hts, hr, hlk, hK, hD, hA, hR, hZ⟩ := C
  intro H locs la hl hP hS
  exact lv_lookup hx hb hd hp (by rw [iI_t h0]; exact ho) ht (k H locs la hl hP hS)
theorem r_getI (C : PC X sh G M Q) {idx k : Nat} {jz : Int} {fs : List (Option Nat)} {Cn : String} {T : u_T} {N : Nat} (ci j : Nat) (hsh : sh[k]? = some (.inl (ci, fs))) (hc : vwCl[ci]? = some (Cn, T, N)) (hj : j < N) (hf : fs[j]? = some none) (hin : ∀ w ∈ u_ws Cn T N, w ∈ ALLW) (hw : Cond.fieldLink M.1.cls idx (T j).1 (T j).2.1 (T j).2.2.1 ∈ ALLW) (hjz : (j : Int) = jz) (hd : decode M.2.1 pc = .ok (.getfield idx, 3)) (kk : PW X sh G (pc + 3) ls (vI (σ k jz) :: st) σ) : PW X sh G pc ls (.ref (G.2.1 k) :: st) σ := by
  obtain ⟨p, l, e, R, s, m, args, below, meth, c, A, Z, n⟩ := X
  obtain ⟨hx, hb, ⟨hml, rfl⟩, hown, hts, hr, hlk, hK, hD, hA, hR, hZ⟩ := C
  intro H locs la hl hP hS
  subst hjz
  exact va_get (D := G.1) (ci := ci) (v := vI (σ k (j : Int))) (C := Cn) (T := T) (N := N) hx hb hts hin hown hK.1 hP k (pw_at hsh) hc j hj (hts _ hw) (fun _ h9 => h9) (by simp [pw_f, List.getElem?_mapIdx, hf]) hd (kk H locs la hl hP hS)
theorem r_getR (C : PC X sh G M Q) {idx k k2 : Nat} {fs : List (Option Nat)} {Cn : String} {T : u_T} {N : Nat} (ci j : Nat) (hsh : sh[k]? = some (.inl (ci, fs))) (hc : vwCl[ci]? = some (Cn, T, N)) (hj : j < N) (hf : fs[j]? = some (some k2)) (hin : ∀ w ∈ u_ws Cn T N, w ∈ ALLW) (hw : Cond.fieldLink M.1.cls idx (T j).1 (T j).2.1 (T j).2.2.1 ∈ ALLW) (hd : decode M.2.1 pc = .ok (.getfield idx, 3)) (kk : PW X sh G (pc + 3) ls (.ref (G.2.1 k2) :: st) σ) : PW X sh G pc ls (.ref (G.2.1 k) :: st) σ := by
  obtain ⟨p, l, e, R, s, m, args, below, meth, c, A, Z, n⟩ := X
  obtain ⟨hx, hb, ⟨hml, rfl⟩, hown, hts, hr, hlk, hK, hD, hA, hR, hZ⟩ := C
  intro H locs la hl hP hS
  exact va_get (D := G.1) (ci := ci) (v := .ref (G.2.1 k2)) (C := Cn) (T := T) (N := N) hx hb hts hin hown hK.1 hP k (pw_at hsh) hc j hj (hts _ hw) (fun _ h9 => h9) (by simp [pw_f, List.getElem?_mapIdx, hf]) hd (kk H locs la hl hP hS)
theorem pw_fset {ad : Nat → Nat} {fs : List (Option Nat)} {σ : pw_H} {k j : Nat} {x : Int} (hf : fs[j]? = some none) : (fs.mapIdx (pw_f ad (σ k))).set j (.int (iI x)) = fs.mapIdx (pw_f ad (pw_u σ k (j : Int) x k)) := by
  apply List.ext_getElem?
  intro i
  rw [List.getElem?_set]
  have hk : j < fs.length := (List.getElem?_eq_some_iff.mp hf).1
  by_cases hi : j = i
  · subst hi
    rw [if_pos rfl, if_pos (by simpa using hk), List.getElem?_mapIdx, hf]
    simp [pw_f, pw_u]
  · rw [if_neg hi]
    simp only [List.getElem?_mapIdx]
    cases fs[i]? with
    | none => rfl
    | some r => cases r with
      | none => simp only [Option.map_some, pw_f]; rw [pw_u_j (by omega)]
      | some r => rfl
theorem r_putI (C : PC X sh G M Q) {idx k : Nat} {fs : List (Option Nat)} {Cn : String} {T : u_T} {N : Nat} {x jz : Int} (ci j : Nat) (ty0 : Nat → FieldType) (hty : ∀ k, k < N → parseFieldDescriptor (T k).2.2.1 = some (ty0 k)) (hnm : ∀ a, a < N → ∀ b, b < N → a ≠ b → (T a).2.1 ≠ (T b).2.1) (hsh : sh[k]? = some (.inl (ci, fs))) (hc : vwCl[ci]? = some (Cn, T, N)) (hj : j < N) (hf : fs[j]? = some none) (hin : ∀ w ∈ u_ws Cn T N, w ∈ ALLW) (hw : Cond.fieldLink M.1.cls idx (T j).1 (T j).2.1 (T j).2.2.1 ∈ ALLW) (hfin : (T j).2.2.2 = false) (hint : (T j).2.2.1 = "I") (hjz : (j : Int) = jz) (hd : decode M.2.1 pc = .ok (.putfield idx, 3)) (kk : PW X sh G (pc + 3) ls st (pw_u σ k jz x)) : PW X sh G pc ls (vI x :: .ref (G.2.1 k) :: st) σ := by
  obtain ⟨p, l, e, R, s, m, args, below, meth, c, A, Z, n⟩ := X
  obtain ⟨hx, hb, ⟨hml, rfl⟩, hown, hts, hr, hlk, hK, hD, hA, hR, hZ⟩ := C
  intro H locs la hl hP hS
  subst hjz
  refine va_put (D := G.1) (ci := ci) (v := vI x) (ty := .int) (C := Cn) (T := T) (N := N) hx hb hts hin ty0 hty hnm hown hK.1 hP (pw_dom hD) hS k (pw_at hsh) hc j hj (hts _ hw) (fun _ h9 => h9) hfin (by rw [hint]; decide +kernel) rfl rfl (by simp; exact (List.getElem?_eq_some_iff.mp hf).1) hd (fun H locs hP hD hS => ?_)
  have e : (pw_w sh G σ).set k (G.2.1 k, .inr (ci, (fs.mapIdx (pw_f G.2.1 (σ k))).set j (vI x))) = pw_w sh G (pw_u σ k (j : Int) x) := by
    rw [pw_fset hf]; exact pw_set hsh
  exact kk H locs la hl (e ▸ hP) hS
theorem r_iaload (C : PC X sh G M Q) {k n : Nat} {z : Int} (hsh : sh[k]? = some (.inr (false, n))) (hn : n < 2147483648) (hz : 0 ≤ z ∧ z < n) (hd : decode M.2.1 pc = .ok (.iaload, 1)) (kk : PW X sh G (pc + 1) ls (vI (σ k z) :: st) σ) : PW X sh G pc ls (vI z :: .ref (G.2.1 k) :: st) σ := by
  obtain ⟨p, l, e, R, s, m, args, below, meth, c, A, Z, n⟩ := X
  obtain ⟨hx, hb, ⟨hml, rfl⟩, hown, hts, hr, hlk, hK, hD, hA, hR, hZ⟩ := C
  intro H locs la hl hP hS
  refine va_iald (D := G.1) hx hb hK.1 hP k 0 (pw_at hsh) rfl (iI_in hn hz.1 hz.2) hd ?_
  have e : ((((iI z).toNatClampNeg : Nat)) : Int) = z := iI_cl ⟨by omega, by omega⟩ hz.1
  rw [e]
  exact kk H locs la hl hP hS
theorem r_laload (C : PC X sh G M Q) {k n : Nat} {z : Int} (hsh : sh[k]? = some (.inr (true, n))) (hn : n < 2147483648) (hz : 0 ≤ z ∧ z < n) (hd : decode M.2.1 pc = .ok (.laload, 1)) (kk : PW X sh G (pc + 1) ls (vL (σ k z) :: st) σ) : PW X sh G pc ls (vI z :: .ref (G.2.1 k) :: st) σ := by
  obtain ⟨p, l, e, R, s, m, args, below, meth, c, A, Z, n⟩ := X
  obtain ⟨hx, hb, ⟨hml, rfl⟩, hown, hts, hr, hlk, hK, hD, hA, hR, hZ⟩ := C
  intro H locs la hl hP hS
  refine va_lald (D := G.1) hx hb hK.1 hP k 1 (pw_at hsh) rfl (iI_in hn hz.1 hz.2) hd ?_
  have e : ((((iI z).toNatClampNeg : Nat)) : Int) = z := iI_cl ⟨by omega, by omega⟩ hz.1
  rw [e]
  exact kk H locs la hl hP hS
theorem r_iastore (C : PC X sh G M Q) {k n : Nat} {z x : Int} (hsh : sh[k]? = some (.inr (false, n))) (hn : n < 2147483648) (hz : 0 ≤ z ∧ z < n) (hd : decode M.2.1 pc = .ok (.iastore, 1)) (kk : PW X sh G (pc + 1) ls st (pw_u σ k z x)) : PW X sh G pc ls (vI x :: vI z :: .ref (G.2.1 k) :: st) σ := by
  obtain ⟨p, l, e, R, s, m, args, below, meth, c, A, Z, n⟩ := X
  obtain ⟨hx, hb, ⟨hml, rfl⟩, hown, hts, hr, hlk, hK, hD, hA, hR, hZ⟩ := C
  intro H locs la hl hP hS
  refine va_iast (D := G.1) hx hb hK.1 hP (pw_dom hD) hS k 0 (pw_at hsh) rfl (iI_in hn hz.1 hz.2) hd (fun H locs hP hD hS => ?_)
  have e : ((((iI z).toNatClampNeg : Nat)) : Int) = z := iI_cl ⟨by omega, by omega⟩ hz.1
  have e2 : upd (fun (j : Nat) => iI (σ k (j : Int))) (iI z).toNatClampNeg (iI x) = fun (j : Nat) => iI (pw_u σ k z x k (j : Int)) := by
    funext j
    by_cases q : j = (iI z).toNatClampNeg
    · rw [q, pk_us, e, pw_u_s]
    · rw [pk_un q, pw_u_j (by omega)]
  rw [e2] at hP
  exact kk H locs la hl (pw_set hsh ▸ hP) hS
theorem r_lastore (C : PC X sh G M Q) {k n : Nat} {z x : Int} (hsh : sh[k]? = some (.inr (true, n))) (hn : n < 2147483648) (hz : 0 ≤ z ∧ z < n) (hd : decode M.2.1 pc = .ok (.lastore, 1)) (kk : PW X sh G (pc + 1) ls st (pw_u σ k z x)) : PW X sh G pc ls (vL x :: vI z :: .ref (G.2.1 k) :: st) σ := by
  obtain ⟨p, l, e, R, s, m, args, below, meth, c, A, Z, n⟩ := X
  obtain ⟨hx, hb, ⟨hml, rfl⟩, hown, hts, hr, hlk, hK, hD, hA, hR, hZ⟩ := C
  intro H locs la hl hP hS
  refine va_last (D := G.1) hx hb hK.1 hP (pw_dom hD) hS k 1 (pw_at hsh) rfl (iI_in hn hz.1 hz.2) hd (fun H locs hP hD hS => ?_)
  have e : ((((iI z).toNatClampNeg : Nat)) : Int) = z := iI_cl ⟨by omega, by omega⟩ hz.1
  have e2 : vp_updL (fun (j : Nat) => lI (σ k (j : Int))) (iI z).toNatClampNeg (lI x) = fun (j : Nat) => lI (pw_u σ k z x k (j : Int)) := by
    funext j
    by_cases q : j = (iI z).toNatClampNeg
    · rw [q, pk_uLs, e, pw_u_s]
    · rw [pk_uLn q, pw_u_j (by omega)]
  rw [e2] at hP
  exact kk H locs la hl (pw_set hsh ▸ hP) hS
theorem r_alen (C : PC X sh G M Q) {k n : Nat} {b : Bool} (hsh : sh[k]? = some (.inr (b, n))) (hd : decode M.2.1 pc = .ok (.arraylength, 1)) (kk : PW X sh G (pc + 1) ls (vI (n : Int) :: st) σ) : PW X sh G pc ls (.ref (G.2.1 k) :: st) σ := by
  obtain ⟨p, l, e, R, s, m, args, below, meth, c, A, Z, n⟩ := X
  obtain ⟨hx, hb, ⟨hml, rfl⟩, hown, hts, hr, hlk, hK, hD, hA, hR, hZ⟩ := C
  intro H locs la hl hP hS
  cases b with
  | false => exact va_alen (D := G.1) hx hb hK.1 hP k 0 (pw_at hsh) rfl (iI_nat n) hd (kk H locs la hl hP hS)
  | true => exact va_alen (D := G.1) hx hb hK.1 hP k 1 (pw_at hsh) rfl (iI_nat n) hd (kk H locs la hl hP hS)
/-! answers -/
theorem pw_ans {X : PXT} {A : Nat → Prop} {s t : State} {H : Heap} {locs : List Loc} {args : Array Value} {v : Option Value} (hQ : Q v σ) (ht : t.heap = H) (hP : va_P G.1 vwCl (pw_w sh G σ) H) (hS : va_S A s.heap H locs) : pw_Q sh G Q A args s (.returned v) t :=
  ⟨⟨v, σ, rfl, hQ, by unfold pw_B; rw [ht]; exact hP⟩, hS.F ht⟩
theorem r_ireturn {Q : Option Value → pw_H → Prop} (C : PC X sh G M Q) (hret : M.2.2.2.1 = some .int) {x : Int} (hQ : Q (some (vI x)) σ) (hd : decode M.2.1 pc = .ok (.ireturn, 1)) : PW X sh G pc ls [vI x] σ := by
  obtain ⟨p, l, e, R, s, m, args, below, meth, c, A, Z, n⟩ := X
  obtain ⟨hx, hb, ⟨hml, rfl⟩, hown, hts, hr, hlk, hK, hD, hA, hR, hZ⟩ := C
  intro H locs la hl hP hS
  subst hZ
  exact W.iret hx hb (hr.trans hret) (fun t ht _ => pw_ans (X := (p, l, e, R, s, m, args, below, meth, c, A, (fun _ => True), 0)) hQ ht hP hS) hS.2.2 hd
theorem r_zreturn {Q : Option Value → pw_H → Prop} (C : PC X sh G M Q) (hret : M.2.2.2.1 = some .boolean) {x : Int} (h01 : x = 0 ∨ x = 1) (hQ : Q (some (vI x)) σ) (hd : decode M.2.1 pc = .ok (.ireturn, 1)) : PW X sh G pc ls [vI x] σ := by
  obtain ⟨p, l, e, R, s, m, args, below, meth, c, A, Z, n⟩ := X
  obtain ⟨hx, hb, ⟨hml, rfl⟩, hown, hts, hr, hlk, hK, hD, hA, hR, hZ⟩ := C
  intro H locs la hl hP hS
  subst hZ
  exact W.zret hx hb (hr.trans hret) (by rcases h01 with rfl | rfl <;> rfl) (fun t ht _ => pw_ans (X := (p, l, e, R, s, m, args, below, meth, c, A, (fun _ => True), 0)) hQ ht hP hS) hS.2.2 hd
theorem r_lreturn {Q : Option Value → pw_H → Prop} (C : PC X sh G M Q) (hret : M.2.2.2.1 = some .long) {x : Int} (hQ : Q (some (vL x)) σ) (hd : decode M.2.1 pc = .ok (.lreturn, 1)) : PW X sh G pc ls [vL x] σ := by
  obtain ⟨p, l, e, R, s, m, args, below, meth, c, A, Z, n⟩ := X
  obtain ⟨hx, hb, ⟨hml, rfl⟩, hown, hts, hr, hlk, hK, hD, hA, hR, hZ⟩ := C
  intro H locs la hl hP hS
  subst hZ
  exact W.lret hx hb (hr.trans hret) (fun t ht _ => pw_ans (X := (p, l, e, R, s, m, args, below, meth, c, A, (fun _ => True), 0)) hQ ht hP hS) hS.2.2 hd
theorem r_return {Q : Option Value → pw_H → Prop} (C : PC X sh G M Q) (hret : M.2.2.2.1 = none) (hQ : Q none σ) (hd : decode M.2.1 pc = .ok (.return_, 1)) : PW X sh G pc ls [] σ := by
  obtain ⟨p, l, e, R, s, m, args, below, meth, c, A, Z, n⟩ := X
  obtain ⟨hx, hb, ⟨hml, rfl⟩, hown, hts, hr, hlk, hK, hD, hA, hR, hZ⟩ := C
  intro H locs la hl hP hS
  subst hZ
  exact W.vret hx hb (hr.trans hret) (fun t ht _ => pw_ans (X := (p, l, e, R, s, m, args, below, meth, c, A, (fun _ => True), 0)) hQ ht hP hS) hS.2.2 hd
/-! calls -/
theorem pw_go {p : Program} {l : Launch} {e : Env} {R : Room} {s : State} {m : MethodId} {args : Array Value} {below : List Frame} {meth : Method} {c : Code} {H : Heap} {locs : List Loc} {A : Nat → Prop} {Z : State → Prop} {la : Array Slot} {st0 rest : List Value} {a : Array Value} {Q2 : Option Value → pw_H → Prop}
    (hr : va_Run p l e R s m args below meth c H locs 0 0 0 0 (F0 m pc la st0) rest (pw_Q sh G Q2 (va_A (pw_w sh G σ) H.size) a) (va_A (pw_w sh G σ) H.size)) (hS : va_S A s.heap H locs) (hA : ∀ q, va_A (pw_w sh G σ) H.size q → A q)
    (kk : ∀ (v : Option Value) (τ : pw_H) (H1 : Heap) (locs1 : List Loc), Q2 v τ → va_P G.1 vwCl (pw_w sh G τ) H1 → va_S A s.heap H1 locs1 → W p l e R s m args below meth c H1 locs1 0 0 Z (F0 m (pc + 3) la (v.toList ++ rest))) : W p l e R s m args below meth c H locs 0 0 Z (F0 m pc la st0) := by
  intro T hT Y
  obtain ⟨v, st₀, t, T', L, h0, Y', hL, e1, e2, ⟨⟨v', τ, hv, hp, hb⟩, hz, hk⟩, st⟩ := hr T hT Y
  cases hv
  rw [h0] at hz hk
  unfold pw_B at hb
  rw [← e1] at hb hz hk
  obtain ⟨t2, a1, b1⟩ := kk v τ T'.heap (locs ++ L) hp hb
    ⟨Nat.le_trans hS.1 hz, fun q h1 h2 => by rw [hk q (Nat.lt_of_lt_of_le h1 hS.1) (fun z => h2 (hA q z))]; exact hS.2.1 q h1 h2, fun q hq => by
      rcases List.mem_append.mp hq with h | h
      · exact hS.2.2 q h
      · exact hA _ (hL q h)⟩ T' rfl Y'
  exact ⟨t2, st t2 a1, b1⟩
theorem pw_free {A : Nat → Prop} {H0 H : Heap} {locs : List Loc} (hD : va_D A (pw_w sh G (fun _ _ => 0))) (hS : va_S A H0 H locs) (hA : ∀ q, H0.size ≤ q → A q) : ∀ q, va_A (pw_w sh G σ) H.size q → A q := by
  intro q h
  rcases h with ⟨k, e, h⟩ | h
  · exact (pw_dom (τ := σ) hD).2 k (q, e) h
  · exact hA q (Nat.le_trans hS.1 h)
theorem pw_blind {As : List Value} {sz : Nat} : FrameBlind (va_Pc As (pw_P sh G σ sz)) := fun a U g mk q => by
  obtain ⟨q0, q1, qP, qK, qD⟩ := q
  exact ⟨q0, q1, qP, qK.same, qD⟩
/-- a call of a static method of any class -/
theorem r_callS (C : PC X sh G M Q) {idx : Nat} {M2 : MB} {As stk : List Value} {Q2 : Option Value → pw_H → Prop} (hM : Ct X.2.1 sh G M2 As σ Q2) (hok : okS M2) (hlink : Cond.methodLink M.1.cls idx M2.1 ∈ ALLW) (hst : stk = As.reverse ++ st) (hn : As.length = M2.2.2.2.2.2.2) (hR1 : M2.2.2.2.2.1 + 1 ≤ M.2.2.2.2.1) (hR2 : 8 + (M2.2.2.1 + 11) + M2.2.2.2.2.2.1 ≤ M.2.2.2.2.2.1) (hcat : (st.map fun v => v.category).sum ≤ 8) (hd : decode M.2.1 pc = .ok (.invokestatic idx, 3)) (kk : ∀ v τ, Q2 v τ → PW X sh G (pc + 3) ls (v.toList ++ st) τ) : PW X sh G pc ls stk σ := by
  obtain ⟨p, l, e, R, s, m, args, below, meth, c, A, Z, n⟩ := X
  obtain ⟨hx, hb, ⟨hml, rfl⟩, hown, hts, hr, hlk, hK, hD, hA, ⟨hRf, hRl⟩, hZ⟩ := C
  subst hst
  intro H locs la hl hP hS
  exact pw_go (va_runS (As := As) (rest := st) ⟨hx, hb, hml, hown, hts⟩ (hM H.size) (va_cwS M2.2.2.2.2.2.2 hts (hok.good hlink) rfl rfl rfl ⟨hok.1.2.2.1.1, hok.1.2.2.1.2, hok.1.2.2.2⟩ ⟨by rw [hRf]; exact hR1, by rw [hRl]; exact hR2⟩) ⟨pw_blind, fun U hU hW => ⟨rfl, by rw [hU], by rw [hU]; exact hP, hK.alike hW, (pw_dom (τ := σ) hD).weaken (fun _ _ _ _ => trivial)⟩⟩ rfl hn hl.1 rfl (lv_room hcat) hd ⟨Nat.zero_le _, Nat.zero_le _⟩) hS (pw_free hD hS hA) (fun v τ H1 locs1 hq hP1 hS1 => kk v τ hq H1 locs1 la hl hP1 hS1)
/-- a call of an instance method: the receiver is cell k -/
theorem r_callV (C : PC X sh G M Q) {idx k ci : Nat} {M2 : MB} {As stk : List Value} {Q2 : Option Value → pw_H → Prop} {T : u_T} {N : Nat} {fs : List (Option Nat)} (hM : Ct X.2.1 sh G M2 (.ref (G.2.1 k) :: As) σ Q2) (hok : okV M2) (hlink : Cond.methodLink M.1.cls idx M2.1 ∈ ALLW) (hsh : sh[k]? = some (.inl (ci, fs))) (hc : vwCl[ci]? = some (M2.1.cls, T, N)) (hst : stk = As.reverse ++ .ref (G.2.1 k) :: st) (hn : As.length = M2.2.2.2.2.2.2) (hR1 : M2.2.2.2.2.1 + 1 ≤ M.2.2.2.2.1) (hR2 : 8 + (M2.2.2.1 + 11) + M2.2.2.2.2.2.1 ≤ M.2.2.2.2.2.1) (hcat : (st.map fun v => v.category).sum ≤ 8) (hd : decode M.2.1 pc = .ok (.invokevirtual idx, 3)) (kk : ∀ v τ, Q2 v τ → PW X sh G (pc + 3) ls (v.toList ++ st) τ) : PW X sh G pc ls stk σ := by
  obtain ⟨p, l, e, R, s, m, args, below, meth, c, A, Z, n⟩ := X
  obtain ⟨hx, hb, ⟨hml, rfl⟩, hown, hts, hr, hlk, hK, hD, hA, ⟨hRf, hRl⟩, hZ⟩ := C
  subst hst
  intro H locs la hl hP hS
  exact pw_go (va_runV (C := M2.1.cls) (As := As) (rest := st) ⟨hx, hb, hml, hown, hts⟩ (hM H.size) (cwV M2.2.2.2.2.2.2 hts (hok.good hlink) rfl rfl rfl ⟨rfl, hok.1.2.2.1.1, hok.1.2.2.1.2, hok.1.2.2.2⟩ ⟨by rw [hRf]; exact hR1, by rw [hRl]; exact hR2⟩) ⟨pw_blind, va_recv hK.1 hP hc (pw_at hsh), fun U hU hW => ⟨rfl, by rw [hU], by rw [hU]; exact hP, hK.alike hW, (pw_dom (τ := σ) hD).weaken (fun _ _ _ _ => trivial)⟩⟩ rfl hn hl.1 rfl (lv_room hcat) hd ⟨Nat.zero_le _, Nat.zero_le _⟩) hS (pw_free hD hS hA) (fun v τ H1 locs1 hq hP1 hS1 => kk v τ hq H1 locs1 la hl hP1 hS1)
/-- a call of the private static method 'leads' of the nest's host -/
theorem r_callN (C : PC X sh G M Q) {M2 : MB} {As stk : List Value} {Q2 : Option Value → pw_H → Prop} (hM : Ct X.2.1 sh G M2 As σ Q2) (hok : okS M2) (hname : M2.1 = yX5_leads) (howner : M.1.cls = RX1) (hst : stk = As.reverse ++ st) (hn : As.length = M2.2.2.2.2.2.2) (hR1 : M2.2.2.2.2.1 + 1 ≤ M.2.2.2.2.1) (hR2 : 8 + (M2.2.2.1 + 11) + M2.2.2.2.2.2.1 ≤ M.2.2.2.2.2.1) (hcat : (st.map fun v => v.category).sum ≤ 8) (hd : decode M.2.1 pc = .ok (.invokestatic 93, 3)) (kk : ∀ v τ, Q2 v τ → PW X sh G (pc + 3) ls (v.toList ++ st) τ) : PW X sh G pc ls stk σ := by
  obtain ⟨p, l, e, R, s, m, args, below, meth, c, A, Z, n⟩ := X
  obtain ⟨hx, hb, ⟨hml, rfl⟩, hown, hts, hr, hlk, hK, hD, hA, ⟨hRf, hRl⟩, hZ⟩ := C
  subst hst
  intro H locs la hl hP hS
  have hnw : va_Nw (.methodLinkNest M.1.cls 93 M2.1 RX5) s := by rw [hname, howner]; exact hK.2
  exact pw_go (va_runSN (host := RX5) (As := As) (rest := st) ⟨hx, hb, hml, hown, hts⟩ (hM H.size) ⟨va_cnB M2.2.2.2.2.2.2 hts hok.1.good rfl rfl rfl hnw (hts _ hok.1.1) ⟨hok.1.2.2.1.1, hok.1.2.2.1.2, hok.1.2.2.2⟩ ⟨by rw [hRf]; exact hR1, by rw [hRl]; exact hR2⟩, hts _ hok.2, trivial⟩ ⟨pw_blind, fun U hU hW => ⟨rfl, by rw [hU], by rw [hU]; exact hP, hK.alike hW, (pw_dom (τ := σ) hD).weaken (fun _ _ _ _ => trivial)⟩⟩ rfl hn hl.1 rfl (lv_room hcat) hd ⟨Nat.zero_le _, Nat.zero_le _⟩) hS (pw_free hD hS hA) (fun v τ H1 locs1 hq hP1 hS1 => kk v τ hq H1 locs1 la hl hP1 hS1)
theorem r_mabs (C : PC X sh G M Q) {idx : Nat} {x : Int} (h1 : InI x) (w1 : Cond.methodLink M.1.cls idx Lib.Math.abs.name ∈ ALLW) (w2 : Cond.static Lib.Math.abs.name ∈ ALLW) (w3 : Cond.initialized "java/lang/Math" ∈ ALLW) (w4 : Cond.code Lib.Math.abs.name Lib.Math.abs.code 1 (some .int) ∈ ALLW) (hf : 1 ≤ M.2.2.2.2.1) (hlo : (st.map fun v => v.category).sum + 13 ≤ M.2.2.2.2.2.1) (hd : decode M.2.1 pc = .ok (.invokestatic idx, 3)) (k : PW X sh G (pc + 3) ls (vI (zabs x) :: st) σ) : PW X sh G pc ls (vI x :: st) σ := by
  obtain ⟨p, l, e, R, s, m, args, below, meth, c, A, Z, n⟩ := X
  obtain ⟨hx, hb, ⟨hml, rfl⟩, hown, hts, hr, hlk, hK, hD, hA, ⟨hRf, hRl⟩, hZ⟩ := C
  intro H locs la hl hP hS
  refine va_mabs hx hb (hml.trans hl.1.symm) hown (hts _ w1) (hts _ w2) (hts _ w3) (hts _ w4) (by rw [hRf]; exact hf) (by rw [hRl]; exact hlo) (Nat.zero_le _) (Nat.zero_le _) hd ?_
  have e : (if 0 ≤ iI x then iI x else 0 - iI x) = iI (zabs x) := by
    rw [← iI_0]
    simp only [iI_le (a := 0) ⟨by omega, by omega⟩ h1, iI_sub, zabs]
    by_cases q : 0 ≤ x
    · rw [if_pos q, if_neg (by omega)]
    · rw [if_neg q, if_pos (by omega), Int.zero_sub]
  rw [e]
  exact k H locs la hl hP hS
theorem r_mmin (C : PC X sh G M Q) {idx : Nat} {x y : Int} (h1 : InI x) (h2 : InI y) (w1 : Cond.methodLink M.1.cls idx Lib.Math.min.name ∈ ALLW) (w2 : Cond.static Lib.Math.min.name ∈ ALLW) (w3 : Cond.initialized "java/lang/Math" ∈ ALLW) (w4 : Cond.code Lib.Math.min.name Lib.Math.min.code 2 (some .int) ∈ ALLW) (hf : 1 ≤ M.2.2.2.2.1) (hlo : (st.map fun v => v.category).sum + 13 ≤ M.2.2.2.2.2.1) (hd : decode M.2.1 pc = .ok (.invokestatic idx, 3)) (k : PW X sh G (pc + 3) ls (vI (zmin x y) :: st) σ) : PW X sh G pc ls (vI y :: vI x :: st) σ := by
  obtain ⟨p, l, e, R, s, m, args, below, meth, c, A, Z, n⟩ := X
  obtain ⟨hx, hb, ⟨hml, rfl⟩, hown, hts, hr, hlk, hK, hD, hA, ⟨hRf, hRl⟩, hZ⟩ := C
  intro H locs la hl hP hS
  refine va_mmin hx hb (hml.trans hl.1.symm) hown (hts _ w1) (hts _ w2) (hts _ w3) (hts _ w4) (by rw [hRf]; exact hf) (by rw [hRl]; exact hlo) (Nat.zero_le _) (Nat.zero_le _) hd ?_
  have e : (if iI y < iI x then iI y else iI x) = iI (zmin x y) := by
    simp only [iI_lt h2 h1, zmin]
    by_cases q : y < x
    · rw [if_pos q, if_pos q]
    · rw [if_neg q, if_neg q]
  rw [e]
  exact k H locs la hl hP hS
theorem r_mminL (C : PC X sh G M Q) {idx : Nat} {x y : Int} (h1 : InL x) (h2 : InL y) (w1 : Cond.methodLink M.1.cls idx Lib.MathLoose.min_long.x ∈ ALLW) (w2 : Cond.static Lib.MathLoose.min_long.x ∈ ALLW) (w3 : Cond.initialized "java/lang/Math" ∈ ALLW) (w4 : Cond.code Lib.MathLoose.min_long.x Lib.MathLoose.min_long.code 4 (some .long) ∈ ALLW) (hf : 1 ≤ M.2.2.2.2.1) (hlo : (st.map fun v => v.category).sum + 15 ≤ M.2.2.2.2.2.1) (hd : decode M.2.1 pc = .ok (.invokestatic idx, 3)) (k : PW X sh G (pc + 3) ls (vL (zmin x y) :: st) σ) : PW X sh G pc ls (vL y :: vL x :: st) σ := by
  obtain ⟨p, l, e, R, s, m, args, below, meth, c, A, Z, n⟩ := X
  obtain ⟨hx, hb, ⟨hml, rfl⟩, hown, hts, hr, hlk, hK, hD, hA, ⟨hRf, hRl⟩, hZ⟩ := C
  intro H locs la hl hP hS
  refine va_mmin_long hx hb (hml.trans hl.1.symm) hown (hts _ w1) (hts _ w2) (hts _ w3) (hts _ w4) (by rw [hRf]; exact hf) (by rw [hRl]; exact hlo) (Nat.zero_le _) (Nat.zero_le _) hd ?_
  have e : (if lI y < lI x then lI y else lI x) = lI (zmin x y) := by
    simp only [lI_lt h2 h1, zmin]
    by_cases q : y < x
    · rw [if_pos q, if_pos q]
    · rw [if_neg q, if_neg q]
  rw [e]
  exact k H locs la hl hP hS
/-! a truth value on the stack -/
theorem r_ifB_eq (C : PC X sh G M Q) {off : Int} {tgt : Nat} {b : Bool} (ht : (pc : Int) + off = (tgt : Int)) (hd : decode M.2.1 pc = .ok (.ifCond .eq off, 3)) (kt : b = false → PW X sh G tgt ls st σ) (kf : b = true → PW X sh G (pc + 3) ls st σ) : PW X sh G pc ls (vI (zB b) :: st) σ :=
  r_if_eq C ht (by cases b <;> exact ⟨by decide, by decide⟩) hd (fun q => kt (by cases b <;> first | rfl | exact absurd q (by decide))) (fun q => kf (by cases b <;> first | rfl | exact absurd rfl q))
theorem r_ifB_ne (C : PC X sh G M Q) {off : Int} {tgt : Nat} {b : Bool} (ht : (pc : Int) + off = (tgt : Int)) (hd : decode M.2.1 pc = .ok (.ifCond .ne off, 3)) (kt : b = true → PW X sh G tgt ls st σ) (kf : b = false → PW X sh G (pc + 3) ls st σ) : PW X sh G pc ls (vI (zB b) :: st) σ :=
  r_if_ne C ht (by cases b <;> exact ⟨by decide, by decide⟩) hd (fun q => kt (by cases b <;> first | rfl | exact absurd rfl q)) (fun q => kf (by cases b <;> first | rfl | exact absurd (by decide) q))
theorem r_breturn {Q : Option Value → pw_H → Prop} (C : PC X sh G M Q) (hret : M.2.2.2.1 = some .boolean) {b : Bool} (hQ : Q (some (vI (zB b))) σ) (hd : decode M.2.1 pc = .ok (.ireturn, 1)) : PW X sh G pc ls [vI (zB b)] σ :=
  r_zreturn C hret (by cases b <;> first | exact Or.inl rfl | exact Or.inr rfl) hQ hd
end ROWS
end
section
theorem big {w : Cond} (i : Nat) (h : BIG[i]? = some w) : w ∈ ALLW := List.mem_append_right _ (List.mem_of_getElem? h)
theorem uw_X0 : ∀ w ∈ u_ws RX0 TX0 8, w ∈ ALLW := fun w h => List.mem_append_left _ (List.mem_append_left _ h)
theorem uw_X1 : ∀ w ∈ u_ws RX1 TX1 10, w ∈ ALLW := fun w h => List.mem_append_left _ (List.mem_append_right _ (List.mem_append_left _ h))
theorem uw_X2 : ∀ w ∈ u_ws RX2 TX2 4, w ∈ ALLW := fun w h => List.mem_append_left _ (List.mem_append_right _ (List.mem_append_right _ (List.mem_append_left _ h)))
theorem uw_X4 : ∀ w ∈ u_ws RX4 TX4 6, w ∈ ALLW := fun w h => List.mem_append_left _ (List.mem_append_right _ (List.mem_append_right _ (List.mem_append_right _ (List.mem_append_left _ h))))
theorem uw_X5 : ∀ w ∈ u_ws RX5 TX5 5, w ∈ ALLW := fun w h => List.mem_append_left _ (List.mem_append_right _ (List.mem_append_right _ (List.mem_append_right _ (List.mem_append_right _ (List.mem_append_left _ h)))))
theorem uw_X6 : ∀ w ∈ u_ws RX6 TX6 20, w ∈ ALLW := fun w h => List.mem_append_left _ (List.mem_append_right _ (List.mem_append_right _ (List.mem_append_right _ (List.mem_append_right _ (List.mem_append_right _ h)))))
theorem fl_X0_9 : Cond.fieldLink RX0 9 (TX0 0).1 (TX0 0).2.1 (TX0 0).2.2.1 ∈ ALLW := big 5 (by decide +kernel)
theorem fl_X0_15 : Cond.fieldLink RX0 15 (TX0 1).1 (TX0 1).2.1 (TX0 1).2.2.1 ∈ ALLW := big 6 (by decide +kernel)
theorem fl_X0_19 : Cond.fieldLink RX0 19 (TX0 2).1 (TX0 2).2.1 (TX0 2).2.2.1 ∈ ALLW := big 7 (by decide +kernel)
theorem fl_X0_22 : Cond.fieldLink RX0 22 (TX0 6).1 (TX0 6).2.1 (TX0 6).2.2.1 ∈ ALLW := big 8 (by decide +kernel)
theorem fl_X0_25 : Cond.fieldLink RX0 25 (TX0 7).1 (TX0 7).2.1 (TX0 7).2.2.1 ∈ ALLW := big 9 (by decide +kernel)
theorem fl_X0_28 : Cond.fieldLink RX0 28 (TX0 3).1 (TX0 3).2.1 (TX0 3).2.2.1 ∈ ALLW := big 10 (by decide +kernel)
theorem fl_X0_32 : Cond.fieldLink RX0 32 (TX0 4).1 (TX0 4).2.1 (TX0 4).2.2.1 ∈ ALLW := big 11 (by decide +kernel)
theorem fl_X0_36 : Cond.fieldLink RX0 36 (TX0 5).1 (TX0 5).2.1 (TX0 5).2.2.1 ∈ ALLW := big 12 (by decide +kernel)
theorem fl_X0_48 : Cond.fieldLink RX0 48 (TX2 0).1 (TX2 0).2.1 (TX2 0).2.2.1 ∈ ALLW := big 117 (by decide +kernel)
theorem fl_X0_53 : Cond.fieldLink RX0 53 (TX1 0).1 (TX1 0).2.1 (TX1 0).2.2.1 ∈ ALLW := big 118 (by decide +kernel)
theorem fl_X0_64 : Cond.fieldLink RX0 64 (TX4 4).1 (TX4 4).2.1 (TX4 4).2.2.1 ∈ ALLW := big 128 (by decide +kernel)
theorem fl_X0_73 : Cond.fieldLink RX0 73 (TX2 1).1 (TX2 1).2.1 (TX2 1).2.2.1 ∈ ALLW := big 135 (by decide +kernel)
theorem fl_X1_11 : Cond.fieldLink RX1 11 (TX1 0).1 (TX1 0).2.1 (TX1 0).2.2.1 ∈ ALLW := big 94 (by decide +kernel)
theorem fl_X1_15 : Cond.fieldLink RX1 15 (TX1 1).1 (TX1 1).2.1 (TX1 1).2.2.1 ∈ ALLW := big 152 (by decide +kernel)
theorem fl_X1_18 : Cond.fieldLink RX1 18 (TX1 2).1 (TX1 2).2.1 (TX1 2).2.2.1 ∈ ALLW := big 93 (by decide +kernel)
theorem fl_X1_22 : Cond.fieldLink RX1 22 (TX1 5).1 (TX1 5).2.1 (TX1 5).2.2.1 ∈ ALLW := big 26 (by decide +kernel)
theorem fl_X1_25 : Cond.fieldLink RX1 25 (TX1 6).1 (TX1 6).2.1 (TX1 6).2.2.1 ∈ ALLW := big 87 (by decide +kernel)
theorem fl_X1_29 : Cond.fieldLink RX1 29 (TX1 7).1 (TX1 7).2.1 (TX1 7).2.2.1 ∈ ALLW := big 73 (by decide +kernel)
theorem fl_X1_32 : Cond.fieldLink RX1 32 (TX1 8).1 (TX1 8).2.1 (TX1 8).2.2.1 ∈ ALLW := big 74 (by decide +kernel)
theorem fl_X1_35 : Cond.fieldLink RX1 35 (TX1 9).1 (TX1 9).2.1 (TX1 9).2.2.1 ∈ ALLW := big 71 (by decide +kernel)
theorem fl_X1_38 : Cond.fieldLink RX1 38 (TX1 3).1 (TX1 3).2.1 (TX1 3).2.2.1 ∈ ALLW := big 24 (by decide +kernel)
theorem fl_X1_42 : Cond.fieldLink RX1 42 (TX1 4).1 (TX1 4).2.1 (TX1 4).2.2.1 ∈ ALLW := big 51 (by decide +kernel)
theorem fl_X1_62 : Cond.fieldLink RX1 62 (TX2 0).1 (TX2 0).2.1 (TX2 0).2.2.1 ∈ ALLW := big 96 (by decide +kernel)
theorem fl_X1_82 : Cond.fieldLink RX1 82 (TX4 4).1 (TX4 4).2.1 (TX4 4).2.2.1 ∈ ALLW := big 25 (by decide +kernel)
theorem fl_X1_99 : Cond.fieldLink RX1 99 (TX4 1).1 (TX4 1).2.1 (TX4 1).2.2.1 ∈ ALLW := big 52 (by decide +kernel)
theorem fl_X2_9 : Cond.fieldLink RX2 9 (TX2 0).1 (TX2 0).2.1 (TX2 0).2.2.1 ∈ ALLW := big 163 (by decide +kernel)
theorem fl_X2_15 : Cond.fieldLink RX2 15 (TX2 1).1 (TX2 1).2.1 (TX2 1).2.2.1 ∈ ALLW := big 164 (by decide +kernel)
theorem fl_X2_19 : Cond.fieldLink RX2 19 (TX2 2).1 (TX2 2).2.1 (TX2 2).2.2.1 ∈ ALLW := big 36 (by decide +kernel)
theorem fl_X2_22 : Cond.fieldLink RX2 22 (TX2 3).1 (TX2 3).2.1 (TX2 3).2.2.1 ∈ ALLW := big 40 (by decide +kernel)
theorem fl_X4_9 : Cond.fieldLink RX4 9 (TX4 0).1 (TX4 0).2.1 (TX4 0).2.2.1 ∈ ALLW := big 17 (by decide +kernel)
theorem fl_X4_15 : Cond.fieldLink RX4 15 (TX4 1).1 (TX4 1).2.1 (TX4 1).2.2.1 ∈ ALLW := big 179 (by decide +kernel)
theorem fl_X4_18 : Cond.fieldLink RX4 18 (TX4 2).1 (TX4 2).2.1 (TX4 2).2.2.1 ∈ ALLW := big 16 (by decide +kernel)
theorem fl_X4_21 : Cond.fieldLink RX4 21 (TX4 3).1 (TX4 3).2.1 (TX4 3).2.2.1 ∈ ALLW := big 33 (by decide +kernel)
theorem fl_X4_24 : Cond.fieldLink RX4 24 (TX4 4).1 (TX4 4).2.1 (TX4 4).2.2.1 ∈ ALLW := big 180 (by decide +kernel)
theorem fl_X4_28 : Cond.fieldLink RX4 28 (TX4 5).1 (TX4 5).2.1 (TX4 5).2.2.1 ∈ ALLW := big 34 (by decide +kernel)
theorem fl_X5_10 : Cond.fieldLink RX5 10 (TX5 0).1 (TX5 0).2.1 (TX5 0).2.2.1 ∈ ALLW := big 188 (by decide +kernel)
theorem fl_X5_19 : Cond.fieldLink RX5 19 (TX5 1).1 (TX5 1).2.1 (TX5 1).2.2.1 ∈ ALLW := big 191 (by decide +kernel)
theorem fl_X5_28 : Cond.fieldLink RX5 28 (TX5 2).1 (TX5 2).2.1 (TX5 2).2.2.1 ∈ ALLW := big 194 (by decide +kernel)
theorem fl_X5_37 : Cond.fieldLink RX5 37 (TX5 3).1 (TX5 3).2.1 (TX5 3).2.2.1 ∈ ALLW := big 197 (by decide +kernel)
theorem fl_X5_41 : Cond.fieldLink RX5 41 (TX5 4).1 (TX5 4).2.1 (TX5 4).2.2.1 ∈ ALLW := big 198 (by decide +kernel)
theorem fl_X5_53 : Cond.fieldLink RX5 53 (TX4 4).1 (TX4 4).2.1 (TX4 4).2.2.1 ∈ ALLW := big 214 (by decide +kernel)
theorem fl_X5_72 : Cond.fieldLink RX5 72 (TX4 0).1 (TX4 0).2.1 (TX4 0).2.2.1 ∈ ALLW := big 229 (by decide +kernel)
theorem fl_X5_75 : Cond.fieldLink RX5 75 (TX4 2).1 (TX4 2).2.1 (TX4 2).2.2.1 ∈ ALLW := big 230 (by decide +kernel)
theorem fl_X5_78 : Cond.fieldLink RX5 78 (TX4 3).1 (TX4 3).2.1 (TX4 3).2.2.1 ∈ ALLW := big 231 (by decide +kernel)
theorem fl_X5_81 : Cond.fieldLink RX5 81 (TX4 1).1 (TX4 1).2.1 (TX4 1).2.2.1 ∈ ALLW := big 232 (by decide +kernel)
theorem fl_X5_84 : Cond.fieldLink RX5 84 (TX4 5).1 (TX4 5).2.1 (TX4 5).2.2.1 ∈ ALLW := big 234 (by decide +kernel)
theorem fl_X5_93 : Cond.fieldLink RX5 93 (TX2 1).1 (TX2 1).2.1 (TX2 1).2.2.1 ∈ ALLW := big 238 (by decide +kernel)
theorem fl_X5_99 : Cond.fieldLink RX5 99 (TX2 0).1 (TX2 0).2.1 (TX2 0).2.2.1 ∈ ALLW := big 242 (by decide +kernel)
theorem fl_X5_139 : Cond.fieldLink RX5 139 (TX1 2).1 (TX1 2).2.1 (TX1 2).2.2.1 ∈ ALLW := big 271 (by decide +kernel)
theorem fl_X5_142 : Cond.fieldLink RX5 142 (TX1 0).1 (TX1 0).2.1 (TX1 0).2.2.1 ∈ ALLW := big 274 (by decide +kernel)
theorem fl_X5_159 : Cond.fieldLink RX5 159 (TX1 1).1 (TX1 1).2.1 (TX1 1).2.2.1 ∈ ALLW := big 291 (by decide +kernel)
theorem fl_X5_178 : Cond.fieldLink RX5 178 (TX0 2).1 (TX0 2).2.1 (TX0 2).2.2.1 ∈ ALLW := big 305 (by decide +kernel)
theorem fl_X5_181 : Cond.fieldLink RX5 181 (TX0 1).1 (TX0 1).2.1 (TX0 1).2.2.1 ∈ ALLW := big 310 (by decide +kernel)
theorem fl_X5_184 : Cond.fieldLink RX5 184 (TX0 0).1 (TX0 0).2.1 (TX0 0).2.2.1 ∈ ALLW := big 311 (by decide +kernel)
theorem fl_X6_7 : Cond.fieldLink RX6 7 (TX6 1).1 (TX6 1).2.1 (TX6 1).2.2.1 ∈ ALLW := big 322 (by decide +kernel)
theorem fl_X6_13 : Cond.fieldLink RX6 13 (TX6 2).1 (TX6 2).2.1 (TX6 2).2.2.1 ∈ ALLW := big 323 (by decide +kernel)
theorem fl_X6_16 : Cond.fieldLink RX6 16 (TX6 3).1 (TX6 3).2.1 (TX6 3).2.2.1 ∈ ALLW := big 324 (by decide +kernel)
theorem fl_X6_19 : Cond.fieldLink RX6 19 (TX6 4).1 (TX6 4).2.1 (TX6 4).2.2.1 ∈ ALLW := big 325 (by decide +kernel)
theorem fl_X6_22 : Cond.fieldLink RX6 22 (TX6 5).1 (TX6 5).2.1 (TX6 5).2.2.1 ∈ ALLW := big 326 (by decide +kernel)
theorem fl_X6_26 : Cond.fieldLink RX6 26 (TX6 7).1 (TX6 7).2.1 (TX6 7).2.2.1 ∈ ALLW := big 327 (by decide +kernel)
theorem fl_X6_29 : Cond.fieldLink RX6 29 (TX6 8).1 (TX6 8).2.1 (TX6 8).2.2.1 ∈ ALLW := big 328 (by decide +kernel)
theorem fl_X6_32 : Cond.fieldLink RX6 32 (TX6 9).1 (TX6 9).2.1 (TX6 9).2.2.1 ∈ ALLW := big 329 (by decide +kernel)
theorem fl_X6_35 : Cond.fieldLink RX6 35 (TX6 12).1 (TX6 12).2.1 (TX6 12).2.2.1 ∈ ALLW := big 330 (by decide +kernel)
theorem fl_X6_38 : Cond.fieldLink RX6 38 (TX6 13).1 (TX6 13).2.1 (TX6 13).2.2.1 ∈ ALLW := big 331 (by decide +kernel)
theorem fl_X6_41 : Cond.fieldLink RX6 41 (TX6 14).1 (TX6 14).2.1 (TX6 14).2.2.1 ∈ ALLW := big 332 (by decide +kernel)
theorem fl_X6_44 : Cond.fieldLink RX6 44 (TX6 15).1 (TX6 15).2.1 (TX6 15).2.2.1 ∈ ALLW := big 333 (by decide +kernel)
theorem fl_X6_47 : Cond.fieldLink RX6 47 (TX6 16).1 (TX6 16).2.1 (TX6 16).2.2.1 ∈ ALLW := big 334 (by decide +kernel)
theorem fl_X6_50 : Cond.fieldLink RX6 50 (TX6 17).1 (TX6 17).2.1 (TX6 17).2.2.1 ∈ ALLW := big 335 (by decide +kernel)
theorem fl_X6_53 : Cond.fieldLink RX6 53 (TX6 18).1 (TX6 18).2.1 (TX6 18).2.2.1 ∈ ALLW := big 336 (by decide +kernel)
theorem fl_X6_56 : Cond.fieldLink RX6 56 (TX6 19).1 (TX6 19).2.1 (TX6 19).2.2.1 ∈ ALLW := big 337 (by decide +kernel)
theorem fl_X6_63 : Cond.fieldLink RX6 63 (TX6 0).1 (TX6 0).2.1 (TX6 0).2.2.1 ∈ ALLW := big 348 (by decide +kernel)
theorem fl_X6_66 : Cond.fieldLink RX6 66 (TX6 6).1 (TX6 6).2.1 (TX6 6).2.2.1 ∈ ALLW := big 350 (by decide +kernel)
theorem fl_X6_106 : Cond.fieldLink RX6 106 (TX6 11).1 (TX6 11).2.1 (TX6 11).2.2.1 ∈ ALLW := big 391 (by decide +kernel)
theorem fl_X6_109 : Cond.fieldLink RX6 109 (TX6 10).1 (TX6 10).2.1 (TX6 10).2.2.1 ∈ ALLW := big 392 (by decide +kernel)
theorem ln_X0_42 : Cond.methodLink RX0 42 yX1_find ∈ ALLW := big 119 (by decide +kernel)
theorem ln_X0_56 : Cond.methodLink RX0 56 yX1_turnedRank ∈ ALLW := big 122 (by decide +kernel)
theorem ln_X0_60 : Cond.methodLink RX0 60 yX3_kindOf ∈ ALLW := big 123 (by decide +kernel)
theorem ln_X0_69 : Cond.methodLink RX0 69 yX0_faultOf ∈ ALLW := big 129 (by decide +kernel)
theorem ln_X0_74 : Cond.methodLink RX0 74 yX0_note ∈ ALLW := big 143 (by decide +kernel)
theorem ln_X0_77 : Cond.methodLink RX0 77 yX0_addRow ∈ ALLW := big 146 (by decide +kernel)
theorem ln_X0_80 : Cond.methodLink RX0 80 yX0_unlike ∈ ALLW := big 137 (by decide +kernel)
theorem ln_X0_83 : Cond.methodLink RX0 83 yX0_join ∈ ALLW := big 140 (by decide +kernel)
theorem ln_X1_46 : Cond.methodLink RX1 46 yX1_turnSky ∈ ALLW := big 97 (by decide +kernel)
theorem ln_X1_50 : Cond.methodLink RX1 50 yX1_turnedRank ∈ ALLW := big 78 (by decide +kernel)
theorem ln_X1_56 : Cond.methodLink RX1 56 yJ7_fill_d0a16 ∈ ALLW := big 100 (by decide +kernel)
theorem ln_X1_67 : Cond.methodLink RX1 67 yX1_gatherFits ∈ ALLW := big 103 (by decide +kernel)
theorem ln_X1_71 : Cond.methodLink RX1 71 yX1_takeLine ∈ ALLW := big 106 (by decide +kernel)
theorem ln_X1_74 : Cond.methodLink RX1 74 yX1_leastKey ∈ ALLW := big 109 (by decide +kernel)
theorem ln_X1_78 : Cond.methodLink RX1 78 yX1_readKey ∈ ALLW := big 112 (by decide +kernel)
theorem ln_X1_87 : Cond.methodLink RX1 87 yX4_longIn ∈ ALLW := big 27 (by decide +kernel)
theorem ln_X1_90 : Cond.methodLink RX1 90 yX2_longOf ∈ ALLW := big 53 (by decide +kernel)
theorem ln_X1_96 : Cond.methodLink RX1 96 yX2_wideOf ∈ ALLW := big 59 (by decide +kernel)
theorem ln_X1_102 : Cond.methodLink RX1 102 yX3_rank ∈ ALLW := big 62 (by decide +kernel)
theorem ln_X1_107 : Cond.methodLink RX1 107 yX4_counts ∈ ALLW := big 75 (by decide +kernel)
theorem ln_X1_112 : Cond.methodLink RX1 112 yX3_costOf ∈ ALLW := big 81 (by decide +kernel)
theorem ln_X1_116 : Cond.methodLink RX1 116 yX1_keyPart ∈ ALLW := big 83 (by decide +kernel)
theorem ln_X1_120 : Cond.methodLink RX1 120 yX1_digitPlace ∈ ALLW := big 68 (by decide +kernel)
theorem ln_X1_123 : Cond.methodLink RX1 123 Lib.MathLoose.min_long.x ∈ ALLW := big 88 (by decide +kernel)
theorem ln_X1_129 : Cond.methodLink RX1 129 yX3_kindOf ∈ ALLW := big 156 (by decide +kernel)
theorem ln_X1_132 : Cond.methodLink RX1 132 yX1_insertWay ∈ ALLW := big 157 (by decide +kernel)
theorem ln_X2_25 : Cond.methodLink RX2 25 yX2_has ∈ ALLW := big 167 (by decide +kernel)
theorem ln_X2_29 : Cond.methodLink RX2 29 yX2_write ∈ ALLW := big 173 (by decide +kernel)
theorem ln_X3_7 : Cond.methodLink RX3 7 Lib.Math.abs.name ∈ ALLW := big 43 (by decide +kernel)
theorem ln_X3_16 : Cond.methodLink RX3 16 yX3_lesser ∈ ALLW := big 48 (by decide +kernel)
theorem ln_X4_31 : Cond.methodLink RX4 31 yJ9_floorDiv_7cf53 ∈ ALLW := big 18 (by decide +kernel)
theorem ln_X4_37 : Cond.methodLink RX4 37 yJ9_floorMod_7cf53 ∈ ALLW := big 21 (by decide +kernel)
theorem ln_X4_40 : Cond.methodLink RX4 40 yX4_counts ∈ ALLW := big 184 (by decide +kernel)
theorem ln_X5_45 : Cond.methodLink RX5 45 yX5_isPlace ∈ ALLW := big 215 (by decide +kernel)
theorem ln_X5_49 : Cond.methodLink RX5 49 yX5_isWithin ∈ ALLW := big 208 (by decide +kernel)
theorem ln_X5_57 : Cond.methodLink RX5 57 yX4_add ∈ ALLW := big 217 (by decide +kernel)
theorem ln_X5_61 : Cond.methodLink RX5 61 yX4_has ∈ ALLW := big 221 (by decide +kernel)
theorem ln_X5_65 : Cond.methodLink RX5 65 yX5_isYear ∈ ALLW := big 224 (by decide +kernel)
theorem ln_X5_68 : Cond.methodLink RX5 68 yX4_longIn ∈ ALLW := big 226 (by decide +kernel)
theorem ln_X5_87 : Cond.methodLink RX5 87 yX5_isLong ∈ ALLW := big 211 (by decide +kernel)
theorem ln_X5_90 : Cond.methodLink RX5 90 yX5_leads ∈ ALLW := big 236 (by decide +kernel)
theorem ln_X5_94 : Cond.methodLink RX5 94 yX2_open ∈ ALLW := big 239 (by decide +kernel)
theorem ln_X5_98 : Cond.methodLink RX5 98 yX2_has ∈ ALLW := big 243 (by decide +kernel)
theorem ln_X5_102 : Cond.methodLink RX5 102 yX2_add ∈ ALLW := big 244 (by decide +kernel)
theorem ln_X5_105 : Cond.methodLink RX5 105 yX2_hasLine ∈ ALLW := big 249 (by decide +kernel)
theorem ln_X5_108 : Cond.methodLink RX5 108 yX2_longOf ∈ ALLW := big 252 (by decide +kernel)
theorem ln_X5_111 : Cond.methodLink RX5 111 yX2_wideOf ∈ ALLW := big 253 (by decide +kernel)
theorem ln_X5_114 : Cond.methodLink RX5 114 yX2_write ∈ ALLW := big 254 (by decide +kernel)
theorem ln_X5_118 : Cond.methodLink RX5 118 yX5_isMoment ∈ ALLW := big 262 (by decide +kernel)
theorem ln_X5_121 : Cond.methodLink RX5 121 yX1_rankOf ∈ ALLW := big 264 (by decide +kernel)
theorem ln_X5_128 : Cond.methodLink RX5 128 yX3_kindOf ∈ ALLW := big 267 (by decide +kernel)
theorem ln_X5_132 : Cond.methodLink RX5 132 yX3_costOf ∈ ALLW := big 269 (by decide +kernel)
theorem ln_X5_135 : Cond.methodLink RX5 135 yX1_find ∈ ALLW := big 272 (by decide +kernel)
theorem ln_X5_145 : Cond.methodLink RX5 145 yX5_areYears ∈ ALLW := big 284 (by decide +kernel)
theorem ln_X5_148 : Cond.methodLink RX5 148 yX5_weighYears ∈ ALLW := big 286 (by decide +kernel)
theorem ln_X5_151 : Cond.methodLink RX5 151 Lib.Math.min.name ∈ ALLW := big 280 (by decide +kernel)
theorem ln_X5_156 : Cond.methodLink RX5 156 yX1_sortPlainWays ∈ ALLW := big 292 (by decide +kernel)
theorem ln_X5_162 : Cond.methodLink RX5 162 yX0_note ∈ ALLW := big 296 (by decide +kernel)
theorem ln_X5_165 : Cond.methodLink RX5 165 yX0_faultOf ∈ ALLW := big 297 (by decide +kernel)
theorem ln_X5_168 : Cond.methodLink RX5 168 yX0_inBoth ∈ ALLW := big 299 (by decide +kernel)
theorem ln_X5_171 : Cond.methodLink RX5 171 yX0_unlike ∈ ALLW := big 303 (by decide +kernel)
theorem ln_X5_174 : Cond.methodLink RX5 174 yX0_grow ∈ ALLW := big 306 (by decide +kernel)
theorem ln_X5_187 : Cond.methodLink RX5 187 yX2_allLines ∈ ALLW := big 314 (by decide +kernel)
theorem ln_X5_190 : Cond.methodLink RX5 190 yX4_bright ∈ ALLW := big 317 (by decide +kernel)
theorem ln_X5_193 : Cond.methodLink RX5 193 yX5_isShift ∈ ALLW := big 259 (by decide +kernel)
theorem ln_X5_196 : Cond.methodLink RX5 196 yX5_yearsBetween ∈ ALLW := big 278 (by decide +kernel)
theorem ln_X5_199 : Cond.methodLink RX5 199 yJ9_floorMod_7cf53 ∈ ALLW := big 38 (by decide +kernel)
theorem ln_X6_59 : Cond.methodLink RX6 59 yX6_in ∈ ALLW := big 341 (by decide +kernel)
theorem ln_X6_69 : Cond.methodLink RX6 69 yX6_isList ∈ ALLW := big 352 (by decide +kernel)
theorem ln_X6_73 : Cond.methodLink RX6 73 yX6_isLong ∈ ALLW := big 356 (by decide +kernel)
theorem ln_X6_76 : Cond.methodLink RX6 76 yX6_isWide ∈ ALLW := big 358 (by decide +kernel)
theorem ln_X6_79 : Cond.methodLink RX6 79 yX6_by ∈ ALLW := big 363 (by decide +kernel)
theorem ln_X6_83 : Cond.methodLink RX6 83 yX6_round ∈ ALLW := big 365 (by decide +kernel)
theorem ln_X6_87 : Cond.methodLink RX6 87 yX6_isStar ∈ ALLW := big 368 (by decide +kernel)
theorem ln_X6_90 : Cond.methodLink RX6 90 yX6_isYear ∈ ALLW := big 371 (by decide +kernel)
theorem ln_X6_93 : Cond.methodLink RX6 93 yX6_skyOf ∈ ALLW := big 373 (by decide +kernel)
theorem ln_X6_96 : Cond.methodLink RX6 96 yX6_wayOf ∈ ALLW := big 380 (by decide +kernel)
theorem ln_X6_99 : Cond.methodLink RX6 99 yX6_isLine ∈ ALLW := big 385 (by decide +kernel)
theorem ln_X6_103 : Cond.methodLink RX6 103 yX6_size ∈ ALLW := big 393 (by decide +kernel)
theorem ln_X6_113 : Cond.methodLink RX6 113 yX6_tries ∈ ALLW := big 396 (by decide +kernel)
theorem ln_X6_117 : Cond.methodLink RX6 117 yX6_isShift ∈ ALLW := big 400 (by decide +kernel)
theorem ln_X6_120 : Cond.methodLink RX6 120 yX6_face ∈ ALLW := big 402 (by decide +kernel)
theorem ln_X6_124 : Cond.methodLink RX6 124 yX6_lay ∈ ALLW := big 408 (by decide +kernel)
theorem ln_X6_128 : Cond.methodLink RX6 128 yX6_mayAsk ∈ ALLW := big 413 (by decide +kernel)
theorem ln_X6_131 : Cond.methodLink RX6 131 yX6_match ∈ ALLW := big 417 (by decide +kernel)
theorem ln_X6_135 : Cond.methodLink RX6 135 yX6_areYears ∈ ALLW := big 423 (by decide +kernel)
theorem ln_X6_138 : Cond.methodLink RX6 138 yX6_datedTo ∈ ALLW := big 425 (by decide +kernel)
theorem ln_X6_142 : Cond.methodLink RX6 142 yX6_layFaults ∈ ALLW := big 432 (by decide +kernel)
theorem ln_X6_145 : Cond.methodLink RX6 145 yX6_mayCompare ∈ ALLW := big 438 (by decide +kernel)
theorem ln_X6_148 : Cond.methodLink RX6 148 yX6_apartOf ∈ ALLW := big 442 (by decide +kernel)
theorem ln_X6_151 : Cond.methodLink RX6 151 yX6_layTree ∈ ALLW := big 447 (by decide +kernel)
theorem cn_X1_54 : Cond.constantLong RX1 54 (1152921504606846976) ∈ ALLW := big 95 (by decide +kernel)
theorem cn_X1_111 : Cond.constant RX1 111 (1048576) ∈ ALLW := big 72 (by decide +kernel)
theorem cn_X3_15 : Cond.constant RX3 15 (1048576) ∈ ALLW := big 47 (by decide +kernel)
theorem cn_X5_127 : Cond.constant RX5 127 (1048576) ∈ ALLW := big 261 (by decide +kernel)
theorem cn_X6_112 : Cond.constant RX6 112 (100000) ∈ ALLW := big 395 (by decide +kernel)
theorem st_abs : Cond.static Lib.Math.abs.name ∈ ALLW := big 44 (by decide +kernel)
theorem co_abs : Cond.code Lib.Math.abs.name Lib.Math.abs.code 1 (some .int) ∈ ALLW := big 46 (by decide +kernel)
theorem st_min : Cond.static Lib.Math.min.name ∈ ALLW := big 281 (by decide +kernel)
theorem co_min : Cond.code Lib.Math.min.name Lib.Math.min.code 2 (some .int) ∈ ALLW := big 282 (by decide +kernel)
theorem st_min_long : Cond.static Lib.MathLoose.min_long.x ∈ ALLW := big 89 (by decide +kernel)
theorem co_min_long : Cond.code Lib.MathLoose.min_long.x Lib.MathLoose.min_long.code 4 (some .long) ∈ ALLW := big 90 (by decide +kernel)
theorem in_Math : Cond.initialized "java/lang/Math" ∈ ALLW := big 45 (by decide +kernel)
def mX0_note : MB := (yX0_note, cX0_note, 6, none, 5, 125, 3)
theorem ok_X0_note : okV mX0_note := ⟨⟨big 132 (by decide +kernel), big 125 (by decide +kernel), ⟨by decide +kernel, by decide +kernel⟩, by decide +kernel⟩, big 144 (by decide +kernel), big 145 (by decide +kernel)⟩
def mX0_faultOf : MB := (yX0_faultOf, cX0_faultOf, 3, (some .int), 0, 0, 2)
theorem ok_X0_faultOf : okV mX0_faultOf := ⟨⟨big 132 (by decide +kernel), big 126 (by decide +kernel), ⟨by decide +kernel, by decide +kernel⟩, by decide +kernel⟩, big 130 (by decide +kernel), big 131 (by decide +kernel)⟩
def mX0_inBoth : MB := (yX0_inBoth, cX0_inBoth, 6, (some .int), 1, 22, 2)
theorem ok_X0_inBoth : okV mX0_inBoth := ⟨⟨big 132 (by decide +kernel), big 127 (by decide +kernel), ⟨by decide +kernel, by decide +kernel⟩, by decide +kernel⟩, big 300 (by decide +kernel), big 301 (by decide +kernel)⟩
def mX0_unlike : MB := (yX0_unlike, cX0_unlike, 5, (some .int), 1, 22, 2)
theorem ok_X0_unlike : okV mX0_unlike := ⟨⟨big 132 (by decide +kernel), big 133 (by decide +kernel), ⟨by decide +kernel, by decide +kernel⟩, by decide +kernel⟩, big 138 (by decide +kernel), big 139 (by decide +kernel)⟩
def mX0_grow : MB := (yX0_grow, cX0_grow, 4, none, 6, 150, 2)
theorem ok_X0_grow : okV mX0_grow := ⟨⟨big 132 (by decide +kernel), big 149 (by decide +kernel), ⟨by decide +kernel, by decide +kernel⟩, by decide +kernel⟩, big 307 (by decide +kernel), big 308 (by decide +kernel)⟩
def mX0_addRow : MB := (yX0_addRow, cX0_addRow, 7, none, 2, 46, 0)
theorem ok_X0_addRow : okV mX0_addRow := ⟨⟨big 132 (by decide +kernel), big 136 (by decide +kernel), ⟨by decide +kernel, by decide +kernel⟩, by decide +kernel⟩, big 147 (by decide +kernel), big 148 (by decide +kernel)⟩
def mX0_join : MB := (yX0_join, cX0_join, 4, none, 0, 0, 2)
theorem ok_X0_join : okV mX0_join := ⟨⟨big 132 (by decide +kernel), big 134 (by decide +kernel), ⟨by decide +kernel, by decide +kernel⟩, by decide +kernel⟩, big 141 (by decide +kernel), big 142 (by decide +kernel)⟩
def mX1_rankOf : MB := (yX1_rankOf, cX1_rankOf, 6, (some .int), 3, 75, 5)
theorem ok_X1_rankOf : okV mX1_rankOf := ⟨⟨big 70 (by decide +kernel), big 154 (by decide +kernel), ⟨by decide +kernel, by decide +kernel⟩, by decide +kernel⟩, big 265 (by decide +kernel), big 266 (by decide +kernel)⟩
def mX1_find : MB := (yX1_find, cX1_find, 6, none, 4, 100, 3)
theorem ok_X1_find : okV mX1_find := ⟨⟨big 70 (by decide +kernel), big 115 (by decide +kernel), ⟨by decide +kernel, by decide +kernel⟩, by decide +kernel⟩, big 120 (by decide +kernel), big 121 (by decide +kernel)⟩
def mX1_turnSky : MB := (yX1_turnSky, cX1_turnSky, 4, none, 2, 46, 2)
theorem ok_X1_turnSky : okV mX1_turnSky := ⟨⟨big 70 (by decide +kernel), big 23 (by decide +kernel), ⟨by decide +kernel, by decide +kernel⟩, by decide +kernel⟩, big 98 (by decide +kernel), big 99 (by decide +kernel)⟩
def mX1_turnedRank : MB := (yX1_turnedRank, cX1_turnedRank, 5, (some .int), 2, 51, 3)
theorem ok_X1_turnedRank : okV mX1_turnedRank := ⟨⟨big 70 (by decide +kernel), big 64 (by decide +kernel), ⟨by decide +kernel, by decide +kernel⟩, by decide +kernel⟩, big 79 (by decide +kernel), big 80 (by decide +kernel)⟩
def mX1_gatherFits : MB := (yX1_gatherFits, cX1_gatherFits, 6, (some .int), 3, 75, 2)
theorem ok_X1_gatherFits : okV mX1_gatherFits := ⟨⟨big 70 (by decide +kernel), big 85 (by decide +kernel), ⟨by decide +kernel, by decide +kernel⟩, by decide +kernel⟩, big 104 (by decide +kernel), big 105 (by decide +kernel)⟩
def mX1_keyPart : MB := (yX1_keyPart, cX1_keyPart, 3, (some .long), 1, 20, 3)
theorem ok_X1_keyPart : okS mX1_keyPart := ⟨⟨big 70 (by decide +kernel), big 67 (by decide +kernel), ⟨by decide +kernel, by decide +kernel⟩, by decide +kernel⟩, big 84 (by decide +kernel)⟩
def mX1_digitPlace : MB := (yX1_digitPlace, cX1_digitPlace, 1, (some .int), 0, 0, 1)
theorem ok_X1_digitPlace : okS mX1_digitPlace := ⟨⟨big 70 (by decide +kernel), big 66 (by decide +kernel), ⟨by decide +kernel, by decide +kernel⟩, by decide +kernel⟩, big 69 (by decide +kernel)⟩
def mX1_takeLine : MB := (yX1_takeLine, cX1_takeLine, 9, none, 2, 42, 2)
theorem ok_X1_takeLine : okV mX1_takeLine := ⟨⟨big 70 (by decide +kernel), big 86 (by decide +kernel), ⟨by decide +kernel, by decide +kernel⟩, by decide +kernel⟩, big 107 (by decide +kernel), big 108 (by decide +kernel)⟩
def mX1_leastKey : MB := (yX1_leastKey, cX1_leastKey, 5, (some .long), 1, 23, 1)
theorem ok_X1_leastKey : okV mX1_leastKey := ⟨⟨big 70 (by decide +kernel), big 91 (by decide +kernel), ⟨by decide +kernel, by decide +kernel⟩, by decide +kernel⟩, big 110 (by decide +kernel), big 111 (by decide +kernel)⟩
def mX1_readKey : MB := (yX1_readKey, cX1_readKey, 6, none, 1, 20, 2)
theorem ok_X1_readKey : okV mX1_readKey := ⟨⟨big 70 (by decide +kernel), big 92 (by decide +kernel), ⟨by decide +kernel, by decide +kernel⟩, by decide +kernel⟩, big 113 (by decide +kernel), big 114 (by decide +kernel)⟩
def mX1_sortPlainWays : MB := (yX1_sortPlainWays, cX1_sortPlainWays, 5, (some .int), 3, 75, 1)
theorem ok_X1_sortPlainWays : okV mX1_sortPlainWays := ⟨⟨big 70 (by decide +kernel), big 160 (by decide +kernel), ⟨by decide +kernel, by decide +kernel⟩, by decide +kernel⟩, big 293 (by decide +kernel), big 294 (by decide +kernel)⟩
def mX1_insertWay : MB := (yX1_insertWay, cX1_insertWay, 4, none, 0, 0, 2)
theorem ok_X1_insertWay : okV mX1_insertWay := ⟨⟨big 70 (by decide +kernel), big 155 (by decide +kernel), ⟨by decide +kernel, by decide +kernel⟩, by decide +kernel⟩, big 158 (by decide +kernel), big 159 (by decide +kernel)⟩
def mX2_has : MB := (yX2_has, cX2_has, 2, (some .boolean), 0, 0, 1)
theorem ok_X2_has : okV mX2_has := ⟨⟨big 56 (by decide +kernel), big 165 (by decide +kernel), ⟨by decide +kernel, by decide +kernel⟩, by decide +kernel⟩, big 168 (by decide +kernel), big 169 (by decide +kernel)⟩
def mX2_hasLine : MB := (yX2_hasLine, cX2_hasLine, 3, (some .boolean), 1, 21, 2)
theorem ok_X2_hasLine : okV mX2_hasLine := ⟨⟨big 56 (by decide +kernel), big 166 (by decide +kernel), ⟨by decide +kernel, by decide +kernel⟩, by decide +kernel⟩, big 250 (by decide +kernel), big 251 (by decide +kernel)⟩
def mX2_open : MB := (yX2_open, cX2_open, 1, (some .int), 0, 0, 0)
theorem ok_X2_open : okV mX2_open := ⟨⟨big 56 (by decide +kernel), big 170 (by decide +kernel), ⟨by decide +kernel, by decide +kernel⟩, by decide +kernel⟩, big 240 (by decide +kernel), big 241 (by decide +kernel)⟩
def mX2_add : MB := (yX2_add, cX2_add, 5, (some .int), 1, 24, 3)
theorem ok_X2_add : okV mX2_add := ⟨⟨big 56 (by decide +kernel), big 172 (by decide +kernel), ⟨by decide +kernel, by decide +kernel⟩, by decide +kernel⟩, big 245 (by decide +kernel), big 246 (by decide +kernel)⟩
def mX2_write : MB := (yX2_write, cX2_write, 5, none, 0, 0, 4)
theorem ok_X2_write : okV mX2_write := ⟨⟨big 56 (by decide +kernel), big 171 (by decide +kernel), ⟨by decide +kernel, by decide +kernel⟩, by decide +kernel⟩, big 174 (by decide +kernel), big 175 (by decide +kernel)⟩
def mX2_longOf : MB := (yX2_longOf, cX2_longOf, 3, (some .int), 0, 0, 2)
theorem ok_X2_longOf : okV mX2_longOf := ⟨⟨big 56 (by decide +kernel), big 35 (by decide +kernel), ⟨by decide +kernel, by decide +kernel⟩, by decide +kernel⟩, big 54 (by decide +kernel), big 55 (by decide +kernel)⟩
def mX2_wideOf : MB := (yX2_wideOf, cX2_wideOf, 3, (some .int), 0, 0, 2)
theorem ok_X2_wideOf : okV mX2_wideOf := ⟨⟨big 56 (by decide +kernel), big 39 (by decide +kernel), ⟨by decide +kernel, by decide +kernel⟩, by decide +kernel⟩, big 60 (by decide +kernel), big 61 (by decide +kernel)⟩
def mX2_allLines : MB := (yX2_allLines, cX2_allLines, 3, (some .int), 0, 0, 0)
theorem ok_X2_allLines : okV mX2_allLines := ⟨⟨big 56 (by decide +kernel), big 176 (by decide +kernel), ⟨by decide +kernel, by decide +kernel⟩, by decide +kernel⟩, big 315 (by decide +kernel), big 316 (by decide +kernel)⟩
def mX3_rank : MB := (yX3_rank, cX3_rank, 7, (some .int), 1, 25, 3)
theorem ok_X3_rank : okS mX3_rank := ⟨⟨big 50 (by decide +kernel), big 42 (by decide +kernel), ⟨by decide +kernel, by decide +kernel⟩, by decide +kernel⟩, big 63 (by decide +kernel)⟩
def mX3_lesser : MB := (yX3_lesser, cX3_lesser, 6, (some .int), 0, 0, 5)
theorem ok_X3_lesser : okS mX3_lesser := ⟨⟨big 50 (by decide +kernel), big 41 (by decide +kernel), ⟨by decide +kernel, by decide +kernel⟩, by decide +kernel⟩, big 49 (by decide +kernel)⟩
def mX3_kindOf : MB := (yX3_kindOf, cX3_kindOf, 1, (some .int), 0, 0, 1)
theorem ok_X3_kindOf : okS mX3_kindOf := ⟨⟨big 50 (by decide +kernel), big 116 (by decide +kernel), ⟨by decide +kernel, by decide +kernel⟩, by decide +kernel⟩, big 124 (by decide +kernel)⟩
def mX3_costOf : MB := (yX3_costOf, cX3_costOf, 1, (some .int), 0, 0, 1)
theorem ok_X3_costOf : okS mX3_costOf := ⟨⟨big 50 (by decide +kernel), big 65 (by decide +kernel), ⟨by decide +kernel, by decide +kernel⟩, by decide +kernel⟩, big 82 (by decide +kernel)⟩
def mX4_has : MB := (yX4_has, cX4_has, 2, (some .boolean), 0, 0, 1)
theorem ok_X4_has : okV mX4_has := ⟨⟨big 30 (by decide +kernel), big 181 (by decide +kernel), ⟨by decide +kernel, by decide +kernel⟩, by decide +kernel⟩, big 222 (by decide +kernel), big 223 (by decide +kernel)⟩
def mX4_add : MB := (yX4_add, cX4_add, 5, (some .int), 0, 0, 4)
theorem ok_X4_add : okV mX4_add := ⟨⟨big 30 (by decide +kernel), big 182 (by decide +kernel), ⟨by decide +kernel, by decide +kernel⟩, by decide +kernel⟩, big 218 (by decide +kernel), big 219 (by decide +kernel)⟩
def mX4_longIn : MB := (yX4_longIn, cX4_longIn, 5, (some .int), 1, 22, 2)
theorem ok_X4_longIn : okV mX4_longIn := ⟨⟨big 30 (by decide +kernel), big 15 (by decide +kernel), ⟨by decide +kernel, by decide +kernel⟩, by decide +kernel⟩, big 28 (by decide +kernel), big 29 (by decide +kernel)⟩
def mX4_counts : MB := (yX4_counts, cX4_counts, 2, (some .boolean), 0, 0, 1)
theorem ok_X4_counts : okV mX4_counts := ⟨⟨big 30 (by decide +kernel), big 32 (by decide +kernel), ⟨by decide +kernel, by decide +kernel⟩, by decide +kernel⟩, big 76 (by decide +kernel), big 77 (by decide +kernel)⟩
def mX4_bright : MB := (yX4_bright, cX4_bright, 3, (some .int), 1, 21, 0)
theorem ok_X4_bright : okV mX4_bright := ⟨⟨big 30 (by decide +kernel), big 183 (by decide +kernel), ⟨by decide +kernel, by decide +kernel⟩, by decide +kernel⟩, big 318 (by decide +kernel), big 319 (by decide +kernel)⟩
def mX5_star : MB := (yX5_star, cX5_star, 5, (some .int), 3, 63, 4)
theorem ok_X5_star : okV mX5_star := ⟨⟨big 58 (by decide +kernel), big 213 (by decide +kernel), ⟨by decide +kernel, by decide +kernel⟩, by decide +kernel⟩, big 465 (by decide +kernel), big 466 (by decide +kernel)⟩
def mX5_sky : MB := (yX5_sky, cX5_sky, 3, (some .int), 2, 46, 2)
theorem ok_X5_sky : okV mX5_sky := ⟨⟨big 58 (by decide +kernel), big 227 (by decide +kernel), ⟨by decide +kernel, by decide +kernel⟩, by decide +kernel⟩, big 471 (by decide +kernel), big 472 (by decide +kernel)⟩
def mX5_about : MB := (yX5_about, cX5_about, 3, (some .int), 1, 21, 2)
theorem ok_X5_about : okV mX5_about := ⟨⟨big 58 (by decide +kernel), big 228 (by decide +kernel), ⟨by decide +kernel, by decide +kernel⟩, by decide +kernel⟩, big 477 (by decide +kernel), big 478 (by decide +kernel)⟩
def mX5_limit : MB := (yX5_limit, cX5_limit, 3, (some .int), 1, 22, 1)
theorem ok_X5_limit : okV mX5_limit := ⟨⟨big 58 (by decide +kernel), big 233 (by decide +kernel), ⟨by decide +kernel, by decide +kernel⟩, by decide +kernel⟩, big 483 (by decide +kernel), big 484 (by decide +kernel)⟩
def mX5_way : MB := (yX5_way, cX5_way, 3, (some .int), 2, 43, 2)
theorem ok_X5_way : okV mX5_way := ⟨⟨big 58 (by decide +kernel), big 235 (by decide +kernel), ⟨by decide +kernel, by decide +kernel⟩, by decide +kernel⟩, big 489 (by decide +kernel), big 490 (by decide +kernel)⟩
def mX5_list : MB := (yX5_list, cX5_list, 1, (some .int), 1, 20, 0)
theorem ok_X5_list : okV mX5_list := ⟨⟨big 58 (by decide +kernel), big 237 (by decide +kernel), ⟨by decide +kernel, by decide +kernel⟩, by decide +kernel⟩, big 495 (by decide +kernel), big 496 (by decide +kernel)⟩
def mX5_line : MB := (yX5_line, cX5_line, 4, (some .int), 3, 63, 3)
theorem ok_X5_line : okV mX5_line := ⟨⟨big 58 (by decide +kernel), big 247 (by decide +kernel), ⟨by decide +kernel, by decide +kernel⟩, by decide +kernel⟩, big 501 (by decide +kernel), big 502 (by decide +kernel)⟩
def mX5_written : MB := (yX5_written, cX5_written, 4, (some .int), 2, 43, 3)
theorem ok_X5_written : okV mX5_written := ⟨⟨big 58 (by decide +kernel), big 248 (by decide +kernel), ⟨by decide +kernel, by decide +kernel⟩, by decide +kernel⟩, big 507 (by decide +kernel), big 508 (by decide +kernel)⟩
def mX5_mend : MB := (yX5_mend, cX5_mend, 6, (some .int), 3, 63, 4)
theorem ok_X5_mend : okV mX5_mend := ⟨⟨big 58 (by decide +kernel), big 255 (by decide +kernel), ⟨by decide +kernel, by decide +kernel⟩, by decide +kernel⟩, big 513 (by decide +kernel), big 514 (by decide +kernel)⟩
def mX5_round : MB := (yX5_round, cX5_round, 5, (some .int), 1, 22, 2)
theorem ok_X5_round : okV mX5_round := ⟨⟨big 58 (by decide +kernel), big 256 (by decide +kernel), ⟨by decide +kernel, by decide +kernel⟩, by decide +kernel⟩, big 519 (by decide +kernel), big 520 (by decide +kernel)⟩
def mX5_slip : MB := (yX5_slip, cX5_slip, 7, (some .int), 4, 100, 5)
theorem ok_X5_slip : okV mX5_slip := ⟨⟨big 58 (by decide +kernel), big 268 (by decide +kernel), ⟨by decide +kernel, by decide +kernel⟩, by decide +kernel⟩, big 525 (by decide +kernel), big 526 (by decide +kernel)⟩
def mX5_cost : MB := (yX5_cost, cX5_cost, 7, (some .int), 4, 100, 5)
theorem ok_X5_cost : okV mX5_cost := ⟨⟨big 58 (by decide +kernel), big 270 (by decide +kernel), ⟨by decide +kernel, by decide +kernel⟩, by decide +kernel⟩, big 531 (by decide +kernel), big 532 (by decide +kernel)⟩
def mX5_best : MB := (yX5_best, cX5_best, 4, (some .int), 5, 125, 3)
theorem ok_X5_best : okV mX5_best := ⟨⟨big 58 (by decide +kernel), big 273 (by decide +kernel), ⟨by decide +kernel, by decide +kernel⟩, by decide +kernel⟩, big 537 (by decide +kernel), big 538 (by decide +kernel)⟩
def mX5_matched : MB := (yX5_matched, cX5_matched, 5, (some .int), 5, 125, 4)
theorem ok_X5_matched : okV mX5_matched := ⟨⟨big 58 (by decide +kernel), big 275 (by decide +kernel), ⟨by decide +kernel, by decide +kernel⟩, by decide +kernel⟩, big 543 (by decide +kernel), big 544 (by decide +kernel)⟩
def mX5_dated : MB := (yX5_dated, cX5_dated, 8, (some .int), 6, 151, 4)
theorem ok_X5_dated : okV mX5_dated := ⟨⟨big 58 (by decide +kernel), big 289 (by decide +kernel), ⟨by decide +kernel, by decide +kernel⟩, by decide +kernel⟩, big 549 (by decide +kernel), big 550 (by decide +kernel)⟩
def mX5_doubt : MB := (yX5_doubt, cX5_doubt, 10, (some .int), 6, 151, 5)
theorem ok_X5_doubt : okV mX5_doubt := ⟨⟨big 58 (by decide +kernel), big 290 (by decide +kernel), ⟨by decide +kernel, by decide +kernel⟩, by decide +kernel⟩, big 555 (by decide +kernel), big 556 (by decide +kernel)⟩
def mX5_shift : MB := (yX5_shift, cX5_shift, 4, (some .int), 5, 125, 2)
theorem ok_X5_shift : okV mX5_shift := ⟨⟨big 58 (by decide +kernel), big 295 (by decide +kernel), ⟨by decide +kernel, by decide +kernel⟩, by decide +kernel⟩, big 561 (by decide +kernel), big 562 (by decide +kernel)⟩
def mX5_fault : MB := (yX5_fault, cX5_fault, 5, (some .int), 6, 150, 4)
theorem ok_X5_fault : okV mX5_fault := ⟨⟨big 58 (by decide +kernel), big 298 (by decide +kernel), ⟨by decide +kernel, by decide +kernel⟩, by decide +kernel⟩, big 567 (by decide +kernel), big 568 (by decide +kernel)⟩
def mX5_share : MB := (yX5_share, cX5_share, 5, (some .int), 6, 150, 4)
theorem ok_X5_share : okV mX5_share := ⟨⟨big 58 (by decide +kernel), big 302 (by decide +kernel), ⟨by decide +kernel, by decide +kernel⟩, by decide +kernel⟩, big 573 (by decide +kernel), big 574 (by decide +kernel)⟩
def mX5_apart : MB := (yX5_apart, cX5_apart, 5, (some .int), 6, 150, 4)
theorem ok_X5_apart : okV mX5_apart := ⟨⟨big 58 (by decide +kernel), big 304 (by decide +kernel), ⟨by decide +kernel, by decide +kernel⟩, by decide +kernel⟩, big 579 (by decide +kernel), big 580 (by decide +kernel)⟩
def mX5_tree : MB := (yX5_tree, cX5_tree, 3, (some .int), 7, 173, 2)
theorem ok_X5_tree : okV mX5_tree := ⟨⟨big 58 (by decide +kernel), big 309 (by decide +kernel), ⟨by decide +kernel, by decide +kernel⟩, by decide +kernel⟩, big 585 (by decide +kernel), big 586 (by decide +kernel)⟩
def mX5_row : MB := (yX5_row, cX5_row, 4, (some .int), 7, 173, 3)
theorem ok_X5_row : okV mX5_row := ⟨⟨big 58 (by decide +kernel), big 312 (by decide +kernel), ⟨by decide +kernel, by decide +kernel⟩, by decide +kernel⟩, big 591 (by decide +kernel), big 592 (by decide +kernel)⟩
def mX5_count : MB := (yX5_count, cX5_count, 2, (some .int), 2, 43, 1)
theorem ok_X5_count : okV mX5_count := ⟨⟨big 58 (by decide +kernel), big 313 (by decide +kernel), ⟨by decide +kernel, by decide +kernel⟩, by decide +kernel⟩, big 597 (by decide +kernel), big 598 (by decide +kernel)⟩
def mX5_isWithin : MB := (yX5_isWithin, cX5_isWithin, 3, (some .boolean), 0, 0, 3)
theorem ok_X5_isWithin : okS mX5_isWithin := ⟨⟨big 58 (by decide +kernel), big 206 (by decide +kernel), ⟨by decide +kernel, by decide +kernel⟩, by decide +kernel⟩, big 209 (by decide +kernel)⟩
def mX5_isLong : MB := (yX5_isLong, cX5_isLong, 1, (some .boolean), 1, 22, 1)
theorem ok_X5_isLong : okS mX5_isLong := ⟨⟨big 58 (by decide +kernel), big 207 (by decide +kernel), ⟨by decide +kernel, by decide +kernel⟩, by decide +kernel⟩, big 212 (by decide +kernel)⟩
def mX5_isPlace : MB := (yX5_isPlace, cX5_isPlace, 2, (some .boolean), 2, 42, 2)
theorem ok_X5_isPlace : okS mX5_isPlace := ⟨⟨big 58 (by decide +kernel), big 210 (by decide +kernel), ⟨by decide +kernel, by decide +kernel⟩, by decide +kernel⟩, big 216 (by decide +kernel)⟩
def mX5_isYear : MB := (yX5_isYear, cX5_isYear, 1, (some .boolean), 1, 22, 1)
theorem ok_X5_isYear : okS mX5_isYear := ⟨⟨big 58 (by decide +kernel), big 220 (by decide +kernel), ⟨by decide +kernel, by decide +kernel⟩, by decide +kernel⟩, big 225 (by decide +kernel)⟩
def mX5_isShift : MB := (yX5_isShift, cX5_isShift, 1, (some .boolean), 1, 22, 1)
theorem ok_X5_isShift : okS mX5_isShift := ⟨⟨big 58 (by decide +kernel), big 257 (by decide +kernel), ⟨by decide +kernel, by decide +kernel⟩, by decide +kernel⟩, big 260 (by decide +kernel)⟩
def mX5_isMoment : MB := (yX5_isMoment, cX5_isMoment, 2, (some .boolean), 2, 42, 2)
theorem ok_X5_isMoment : okS mX5_isMoment := ⟨⟨big 58 (by decide +kernel), big 258 (by decide +kernel), ⟨by decide +kernel, by decide +kernel⟩, by decide +kernel⟩, big 263 (by decide +kernel)⟩
def mX5_areYears : MB := (yX5_areYears, cX5_areYears, 3, (some .boolean), 2, 42, 3)
theorem ok_X5_areYears : okS mX5_areYears := ⟨⟨big 58 (by decide +kernel), big 277 (by decide +kernel), ⟨by decide +kernel, by decide +kernel⟩, by decide +kernel⟩, big 285 (by decide +kernel)⟩
def mX5_yearsBetween : MB := (yX5_yearsBetween, cX5_yearsBetween, 2, (some .int), 0, 0, 2)
theorem ok_X5_yearsBetween : okS mX5_yearsBetween := ⟨⟨big 58 (by decide +kernel), big 276 (by decide +kernel), ⟨by decide +kernel, by decide +kernel⟩, by decide +kernel⟩, big 279 (by decide +kernel)⟩
def mX5_weighYears : MB := (yX5_weighYears, cX5_weighYears, 7, (some .int), 5, 125, 4)
theorem ok_X5_weighYears : okV mX5_weighYears := ⟨⟨big 58 (by decide +kernel), big 283 (by decide +kernel), ⟨by decide +kernel, by decide +kernel⟩, by decide +kernel⟩, big 287 (by decide +kernel), big 288 (by decide +kernel)⟩
def mX5_leads : MB := (yX5_leads, cX5_leads, 2, (some .int), 1, 22, 2)
theorem ok_X5_leads : okS mX5_leads := ⟨⟨big 58 (by decide +kernel), big 37 (by decide +kernel), ⟨by decide +kernel, by decide +kernel⟩, by decide +kernel⟩, big 57 (by decide +kernel)⟩
def mX6_in : MB := (yX6_in, cX6_in, 3, (some .boolean), 0, 0, 3)
theorem ok_X6_in : okS mX6_in := ⟨⟨big 343 (by decide +kernel), big 338 (by decide +kernel), ⟨by decide +kernel, by decide +kernel⟩, by decide +kernel⟩, big 342 (by decide +kernel)⟩
def mX6_size : MB := (yX6_size, cX6_size, 1, (some .int), 0, 0, 1)
theorem ok_X6_size : okS mX6_size := ⟨⟨big 343 (by decide +kernel), big 339 (by decide +kernel), ⟨by decide +kernel, by decide +kernel⟩, by decide +kernel⟩, big 394 (by decide +kernel)⟩
def mX6_isLong : MB := (yX6_isLong, cX6_isLong, 1, (some .boolean), 1, 22, 1)
theorem ok_X6_isLong : okS mX6_isLong := ⟨⟨big 343 (by decide +kernel), big 340 (by decide +kernel), ⟨by decide +kernel, by decide +kernel⟩, by decide +kernel⟩, big 357 (by decide +kernel)⟩
def mX6_isWide : MB := (yX6_isWide, cX6_isWide, 1, (some .boolean), 1, 22, 1)
theorem ok_X6_isWide : okS mX6_isWide := ⟨⟨big 343 (by decide +kernel), big 344 (by decide +kernel), ⟨by decide +kernel, by decide +kernel⟩, by decide +kernel⟩, big 359 (by decide +kernel)⟩
def mX6_isYear : MB := (yX6_isYear, cX6_isYear, 1, (some .boolean), 1, 22, 1)
theorem ok_X6_isYear : okS mX6_isYear := ⟨⟨big 343 (by decide +kernel), big 345 (by decide +kernel), ⟨by decide +kernel, by decide +kernel⟩, by decide +kernel⟩, big 372 (by decide +kernel)⟩
def mX6_isShift : MB := (yX6_isShift, cX6_isShift, 1, (some .boolean), 1, 22, 1)
theorem ok_X6_isShift : okS mX6_isShift := ⟨⟨big 343 (by decide +kernel), big 346 (by decide +kernel), ⟨by decide +kernel, by decide +kernel⟩, by decide +kernel⟩, big 401 (by decide +kernel)⟩
def mX6_isStar : MB := (yX6_isStar, cX6_isStar, 2, (some .boolean), 1, 22, 1)
theorem ok_X6_isStar : okV mX6_isStar := ⟨⟨big 343 (by decide +kernel), big 347 (by decide +kernel), ⟨by decide +kernel, by decide +kernel⟩, by decide +kernel⟩, big 369 (by decide +kernel), big 370 (by decide +kernel)⟩
def mX6_isList : MB := (yX6_isList, cX6_isList, 2, (some .boolean), 1, 22, 1)
theorem ok_X6_isList : okV mX6_isList := ⟨⟨big 343 (by decide +kernel), big 349 (by decide +kernel), ⟨by decide +kernel, by decide +kernel⟩, by decide +kernel⟩, big 353 (by decide +kernel), big 354 (by decide +kernel)⟩
def mX6_isLine : MB := (yX6_isLine, cX6_isLine, 3, (some .boolean), 2, 43, 2)
theorem ok_X6_isLine : okV mX6_isLine := ⟨⟨big 343 (by decide +kernel), big 351 (by decide +kernel), ⟨by decide +kernel, by decide +kernel⟩, by decide +kernel⟩, big 386 (by decide +kernel), big 387 (by decide +kernel)⟩
def mX6_star : MB := (yX6_star, cX6_star, 5, (some .int), 2, 42, 4)
theorem ok_X6_star : okV mX6_star := ⟨⟨big 343 (by decide +kernel), big 355 (by decide +kernel), ⟨by decide +kernel, by decide +kernel⟩, by decide +kernel⟩, big 468 (by decide +kernel), big 469 (by decide +kernel)⟩
def mX6_by : MB := (yX6_by, cX6_by, 3, (some .int), 0, 0, 2)
theorem ok_X6_by : okS mX6_by := ⟨⟨big 343 (by decide +kernel), big 360 (by decide +kernel), ⟨by decide +kernel, by decide +kernel⟩, by decide +kernel⟩, big 364 (by decide +kernel)⟩
def mX6_round : MB := (yX6_round, cX6_round, 1, (some .int), 0, 0, 1)
theorem ok_X6_round : okS mX6_round := ⟨⟨big 343 (by decide +kernel), big 361 (by decide +kernel), ⟨by decide +kernel, by decide +kernel⟩, by decide +kernel⟩, big 366 (by decide +kernel)⟩
def mX6_skyOf : MB := (yX6_skyOf, cX6_skyOf, 3, (some .int), 1, 22, 2)
theorem ok_X6_skyOf : okV mX6_skyOf := ⟨⟨big 343 (by decide +kernel), big 362 (by decide +kernel), ⟨by decide +kernel, by decide +kernel⟩, by decide +kernel⟩, big 374 (by decide +kernel), big 375 (by decide +kernel)⟩
def mX6_sky : MB := (yX6_sky, cX6_sky, 3, (some .int), 2, 44, 2)
theorem ok_X6_sky : okV mX6_sky := ⟨⟨big 343 (by decide +kernel), big 367 (by decide +kernel), ⟨by decide +kernel, by decide +kernel⟩, by decide +kernel⟩, big 474 (by decide +kernel), big 475 (by decide +kernel)⟩
def mX6_about : MB := (yX6_about, cX6_about, 3, (some .int), 2, 43, 2)
theorem ok_X6_about : okV mX6_about := ⟨⟨big 343 (by decide +kernel), big 376 (by decide +kernel), ⟨by decide +kernel, by decide +kernel⟩, by decide +kernel⟩, big 480 (by decide +kernel), big 481 (by decide +kernel)⟩
def mX6_limit : MB := (yX6_limit, cX6_limit, 3, (some .int), 1, 22, 1)
theorem ok_X6_limit : okV mX6_limit := ⟨⟨big 343 (by decide +kernel), big 377 (by decide +kernel), ⟨by decide +kernel, by decide +kernel⟩, by decide +kernel⟩, big 486 (by decide +kernel), big 487 (by decide +kernel)⟩
def mX6_wayOf : MB := (yX6_wayOf, cX6_wayOf, 2, (some .int), 1, 20, 2)
theorem ok_X6_wayOf : okS mX6_wayOf := ⟨⟨big 343 (by decide +kernel), big 378 (by decide +kernel), ⟨by decide +kernel, by decide +kernel⟩, by decide +kernel⟩, big 381 (by decide +kernel)⟩
def mX6_way : MB := (yX6_way, cX6_way, 3, (some .int), 2, 42, 2)
theorem ok_X6_way : okV mX6_way := ⟨⟨big 343 (by decide +kernel), big 379 (by decide +kernel), ⟨by decide +kernel, by decide +kernel⟩, by decide +kernel⟩, big 492 (by decide +kernel), big 493 (by decide +kernel)⟩
def mX6_list : MB := (yX6_list, cX6_list, 1, (some .int), 0, 0, 0)
theorem ok_X6_list : okV mX6_list := ⟨⟨big 343 (by decide +kernel), big 382 (by decide +kernel), ⟨by decide +kernel, by decide +kernel⟩, by decide +kernel⟩, big 498 (by decide +kernel), big 499 (by decide +kernel)⟩
def mX6_line : MB := (yX6_line, cX6_line, 4, (some .int), 2, 43, 3)
theorem ok_X6_line : okV mX6_line := ⟨⟨big 343 (by decide +kernel), big 383 (by decide +kernel), ⟨by decide +kernel, by decide +kernel⟩, by decide +kernel⟩, big 504 (by decide +kernel), big 505 (by decide +kernel)⟩
def mX6_written : MB := (yX6_written, cX6_written, 4, (some .int), 3, 65, 3)
theorem ok_X6_written : okV mX6_written := ⟨⟨big 343 (by decide +kernel), big 384 (by decide +kernel), ⟨by decide +kernel, by decide +kernel⟩, by decide +kernel⟩, big 510 (by decide +kernel), big 511 (by decide +kernel)⟩
def mX6_mend : MB := (yX6_mend, cX6_mend, 6, (some .int), 3, 65, 4)
theorem ok_X6_mend : okV mX6_mend := ⟨⟨big 343 (by decide +kernel), big 388 (by decide +kernel), ⟨by decide +kernel, by decide +kernel⟩, by decide +kernel⟩, big 516 (by decide +kernel), big 517 (by decide +kernel)⟩
def mX6_round_ : MB := (yX6_round_, cX6_round_, 5, (some .int), 2, 43, 2)
theorem ok_X6_round_ : okV mX6_round_ := ⟨⟨big 343 (by decide +kernel), big 389 (by decide +kernel), ⟨by decide +kernel, by decide +kernel⟩, by decide +kernel⟩, big 522 (by decide +kernel), big 523 (by decide +kernel)⟩
def mX6_tries : MB := (yX6_tries, cX6_tries, 6, none, 1, 20, 4)
theorem ok_X6_tries : okV mX6_tries := ⟨⟨big 343 (by decide +kernel), big 390 (by decide +kernel), ⟨by decide +kernel, by decide +kernel⟩, by decide +kernel⟩, big 397 (by decide +kernel), big 398 (by decide +kernel)⟩
def mX6_face : MB := (yX6_face, cX6_face, 10, none, 2, 45, 5)
theorem ok_X6_face : okV mX6_face := ⟨⟨big 343 (by decide +kernel), big 399 (by decide +kernel), ⟨by decide +kernel, by decide +kernel⟩, by decide +kernel⟩, big 403 (by decide +kernel), big 404 (by decide +kernel)⟩
def mX6_slip : MB := (yX6_slip, cX6_slip, 6, (some .int), 3, 74, 5)
theorem ok_X6_slip : okV mX6_slip := ⟨⟨big 343 (by decide +kernel), big 405 (by decide +kernel), ⟨by decide +kernel, by decide +kernel⟩, by decide +kernel⟩, big 528 (by decide +kernel), big 529 (by decide +kernel)⟩
def mX6_cost : MB := (yX6_cost, cX6_cost, 6, (some .int), 3, 74, 5)
theorem ok_X6_cost : okV mX6_cost := ⟨⟨big 343 (by decide +kernel), big 406 (by decide +kernel), ⟨by decide +kernel, by decide +kernel⟩, by decide +kernel⟩, big 534 (by decide +kernel), big 535 (by decide +kernel)⟩
def mX6_lay : MB := (yX6_lay, cX6_lay, 10, (some .int), 3, 74, 3)
theorem ok_X6_lay : okV mX6_lay := ⟨⟨big 343 (by decide +kernel), big 407 (by decide +kernel), ⟨by decide +kernel, by decide +kernel⟩, by decide +kernel⟩, big 409 (by decide +kernel), big 410 (by decide +kernel)⟩
def mX6_match : MB := (yX6_match, cX6_match, 9, none, 4, 103, 3)
theorem ok_X6_match : okV mX6_match := ⟨⟨big 343 (by decide +kernel), big 411 (by decide +kernel), ⟨by decide +kernel, by decide +kernel⟩, by decide +kernel⟩, big 418 (by decide +kernel), big 419 (by decide +kernel)⟩
def mX6_mayAsk : MB := (yX6_mayAsk, cX6_mayAsk, 4, (some .int), 2, 43, 3)
theorem ok_X6_mayAsk : okV mX6_mayAsk := ⟨⟨big 343 (by decide +kernel), big 412 (by decide +kernel), ⟨by decide +kernel, by decide +kernel⟩, by decide +kernel⟩, big 414 (by decide +kernel), big 415 (by decide +kernel)⟩
def mX6_best : MB := (yX6_best, cX6_best, 5, (some .int), 4, 103, 3)
theorem ok_X6_best : okV mX6_best := ⟨⟨big 343 (by decide +kernel), big 416 (by decide +kernel), ⟨by decide +kernel, by decide +kernel⟩, by decide +kernel⟩, big 540 (by decide +kernel), big 541 (by decide +kernel)⟩
def mX6_matched : MB := (yX6_matched, cX6_matched, 5, (some .int), 5, 131, 4)
theorem ok_X6_matched : okV mX6_matched := ⟨⟨big 343 (by decide +kernel), big 420 (by decide +kernel), ⟨by decide +kernel, by decide +kernel⟩, by decide +kernel⟩, big 546 (by decide +kernel), big 547 (by decide +kernel)⟩
def mX6_areYears : MB := (yX6_areYears, cX6_areYears, 2, (some .boolean), 2, 42, 2)
theorem ok_X6_areYears : okS mX6_areYears := ⟨⟨big 343 (by decide +kernel), big 421 (by decide +kernel), ⟨by decide +kernel, by decide +kernel⟩, by decide +kernel⟩, big 424 (by decide +kernel)⟩
def mX6_datedTo : MB := (yX6_datedTo, cX6_datedTo, 9, (some .int), 4, 103, 4)
theorem ok_X6_datedTo : okV mX6_datedTo := ⟨⟨big 343 (by decide +kernel), big 422 (by decide +kernel), ⟨by decide +kernel, by decide +kernel⟩, by decide +kernel⟩, big 426 (by decide +kernel), big 427 (by decide +kernel)⟩
def mX6_dated : MB := (yX6_dated, cX6_dated, 5, (some .int), 5, 131, 4)
theorem ok_X6_dated : okV mX6_dated := ⟨⟨big 343 (by decide +kernel), big 428 (by decide +kernel), ⟨by decide +kernel, by decide +kernel⟩, by decide +kernel⟩, big 552 (by decide +kernel), big 553 (by decide +kernel)⟩
def mX6_doubt : MB := (yX6_doubt, cX6_doubt, 9, (some .int), 5, 131, 5)
theorem ok_X6_doubt : okV mX6_doubt := ⟨⟨big 343 (by decide +kernel), big 429 (by decide +kernel), ⟨by decide +kernel, by decide +kernel⟩, by decide +kernel⟩, big 558 (by decide +kernel), big 559 (by decide +kernel)⟩
def mX6_shift : MB := (yX6_shift, cX6_shift, 7, (some .int), 5, 131, 2)
theorem ok_X6_shift : okV mX6_shift := ⟨⟨big 343 (by decide +kernel), big 430 (by decide +kernel), ⟨by decide +kernel, by decide +kernel⟩, by decide +kernel⟩, big 564 (by decide +kernel), big 565 (by decide +kernel)⟩
def mX6_layFaults : MB := (yX6_layFaults, cX6_layFaults, 5, none, 5, 131, 3)
theorem ok_X6_layFaults : okV mX6_layFaults := ⟨⟨big 343 (by decide +kernel), big 431 (by decide +kernel), ⟨by decide +kernel, by decide +kernel⟩, by decide +kernel⟩, big 433 (by decide +kernel), big 434 (by decide +kernel)⟩
def mX6_fault : MB := (yX6_fault, cX6_fault, 5, (some .int), 6, 155, 4)
theorem ok_X6_fault : okV mX6_fault := ⟨⟨big 343 (by decide +kernel), big 435 (by decide +kernel), ⟨by decide +kernel, by decide +kernel⟩, by decide +kernel⟩, big 570 (by decide +kernel), big 571 (by decide +kernel)⟩
def mX6_apartOf : MB := (yX6_apartOf, cX6_apartOf, 5, (some .int), 0, 0, 2)
theorem ok_X6_apartOf : okV mX6_apartOf := ⟨⟨big 343 (by decide +kernel), big 436 (by decide +kernel), ⟨by decide +kernel, by decide +kernel⟩, by decide +kernel⟩, big 443 (by decide +kernel), big 444 (by decide +kernel)⟩
def mX6_mayCompare : MB := (yX6_mayCompare, cX6_mayCompare, 5, (some .int), 6, 155, 4)
theorem ok_X6_mayCompare : okV mX6_mayCompare := ⟨⟨big 343 (by decide +kernel), big 437 (by decide +kernel), ⟨by decide +kernel, by decide +kernel⟩, by decide +kernel⟩, big 439 (by decide +kernel), big 440 (by decide +kernel)⟩
def mX6_share : MB := (yX6_share, cX6_share, 8, (some .int), 7, 179, 4)
theorem ok_X6_share : okV mX6_share := ⟨⟨big 343 (by decide +kernel), big 441 (by decide +kernel), ⟨by decide +kernel, by decide +kernel⟩, by decide +kernel⟩, big 576 (by decide +kernel), big 577 (by decide +kernel)⟩
def mX6_apart : MB := (yX6_apart, cX6_apart, 6, (some .int), 7, 179, 4)
theorem ok_X6_apart : okV mX6_apart := ⟨⟨big 343 (by decide +kernel), big 445 (by decide +kernel), ⟨by decide +kernel, by decide +kernel⟩, by decide +kernel⟩, big 582 (by decide +kernel), big 583 (by decide +kernel)⟩
def mX6_layTree : MB := (yX6_layTree, cX6_layTree, 9, (some .int), 6, 155, 2)
theorem ok_X6_layTree : okV mX6_layTree := ⟨⟨big 343 (by decide +kernel), big 446 (by decide +kernel), ⟨by decide +kernel, by decide +kernel⟩, by decide +kernel⟩, big 448 (by decide +kernel), big 449 (by decide +kernel)⟩
def mX6_tree : MB := (yX6_tree, cX6_tree, 3, (some .int), 7, 183, 2)
theorem ok_X6_tree : okV mX6_tree := ⟨⟨big 343 (by decide +kernel), big 450 (by decide +kernel), ⟨by decide +kernel, by decide +kernel⟩, by decide +kernel⟩, big 588 (by decide +kernel), big 589 (by decide +kernel)⟩
def mX6_row : MB := (yX6_row, cX6_row, 5, (some .int), 7, 183, 3)
theorem ok_X6_row : okV mX6_row := ⟨⟨big 343 (by decide +kernel), big 451 (by decide +kernel), ⟨by decide +kernel, by decide +kernel⟩, by decide +kernel⟩, big 594 (by decide +kernel), big 595 (by decide +kernel)⟩
def mX6_count : MB := (yX6_count, cX6_count, 5, (some .int), 0, 0, 1)
theorem ok_X6_count : okV mX6_count := ⟨⟨big 343 (by decide +kernel), big 452 (by decide +kernel), ⟨by decide +kernel, by decide +kernel⟩, by decide +kernel⟩, big 600 (by decide +kernel), big 601 (by decide +kernel)⟩
def mJ9_floorDiv_7cf53 : MB := (yJ9_floorDiv_7cf53, cJ9_floorDiv_7cf53, 3, (some .int), 0, 0, 2)
theorem ok_J9_floorDiv_7cf53 : okS mJ9_floorDiv_7cf53 := ⟨⟨big 20 (by decide +kernel), big 13 (by decide +kernel), ⟨by decide +kernel, by decide +kernel⟩, by decide +kernel⟩, big 19 (by decide +kernel)⟩
def mJ9_floorMod_7cf53 : MB := (yJ9_floorMod_7cf53, cJ9_floorMod_7cf53, 3, (some .int), 0, 0, 2)
theorem ok_J9_floorMod_7cf53 : okS mJ9_floorMod_7cf53 := ⟨⟨big 20 (by decide +kernel), big 14 (by decide +kernel), ⟨by decide +kernel, by decide +kernel⟩, by decide +kernel⟩, big 22 (by decide +kernel)⟩
def mJ7_fill_d0a16 : MB := (yJ7_fill_d0a16, cJ7_fill_d0a16, 5, none, 0, 0, 2)
theorem ok_J7_fill_d0a16 : okS mJ7_fill_d0a16 := ⟨⟨big 102 (by decide +kernel), big 31 (by decide +kernel), ⟨by decide +kernel, by decide +kernel⟩, by decide +kernel⟩, big 101 (by decide +kernel)⟩
end
section
/-! the shapes of the two systems -/
abbrev shX : pw_S := [.inl (4, [some 1, some 2, some 3, some 4, some 5]), .inl (3, [some 6, some 7, some 8, some 9, none, none]), .inl (2, [some 10, none, some 11, some 12]), .inl (1, [some 13, some 14, none, some 1, some 2, some 15, some 16, some 17, some 18, none]), .inl (0, [some 19, none, none, some 1, some 2, some 3, some 20, some 21]), .inr (false, 41), .inr (false, 8), .inr (false, 8), .inr (false, 8), .inr (false, 8), .inr (false, 6), .inr (false, 48), .inr (false, 48), .inr (false, 8), .inr (false, 8), .inr (false, 8), .inr (true, 256), .inr (false, 8), .inr (true, 8), .inr (false, 5), .inr (false, 48), .inr (false, 6)]
abbrev shM : pw_S := [.inl (5, [none, some 1, some 2, some 3, some 4, none, none, some 5, some 6, some 7, none, none, some 8, some 9, some 10, some 11, some 12, some 13, some 14, some 15]), .inr (false, 8), .inr (false, 8), .inr (false, 8), .inr (false, 8), .inr (false, 6), .inr (false, 48), .inr (false, 48), .inr (false, 2304), .inr (false, 64), .inr (false, 64), .inr (false, 8), .inr (false, 8), .inr (false, 48), .inr (false, 6), .inr (false, 5)]
/-! the abstract state: 0: how many stars, the limit, how many lists; 1 to 4: the stars' LONG, WIDE, MOTION, LIGHT; 5: how many lines; 6, 7: the lines' LONG, WIDE -/
def vX (σ : pw_H) : pw_H := fun k => match k with
  | 0 => fun j => if j = 0 then σ 1 4 else if j = 1 then σ 1 5 else if j = 2 then σ 2 1 else 0
  | 1 => σ 6 | 2 => σ 7 | 3 => σ 8 | 4 => σ 9 | 5 => σ 10 | 6 => σ 11 | 7 => σ 12
  | _ => fun _ => 0
def vM (σ : pw_H) : pw_H := fun k => match k with
  | 0 => fun j => if j = 0 then σ 0 0 else if j = 1 then σ 0 5 else if j = 2 then σ 0 6 else 0
  | 1 => σ 1 | 2 => σ 2 | 3 => σ 3 | 4 => σ 4 | 5 => σ 5 | 6 => σ 6 | 7 => σ 7
  | _ => fun _ => 0
/-- what holds of the abstract state between calls -/
def Inv (a : pw_H) : Prop := (0 ≤ a 0 0 ∧ a 0 0 ≤ 8) ∧ (0 ≤ a 0 1 ∧ a 0 1 ≤ 6) ∧ (0 ≤ a 0 2 ∧ a 0 2 ≤ 6) ∧ (∀ j, 0 ≤ a 1 j ∧ a 1 j ≤ 21599) ∧ (∀ j, -5400 ≤ a 2 j ∧ a 2 j ≤ 5400) ∧ (∀ j, -50 ≤ a 3 j ∧ a 3 j ≤ 50) ∧ (∀ j, 0 ≤ a 4 j ∧ a 4 j ≤ 6) ∧ (∀ j, 0 ≤ a 5 j ∧ a 5 j ≤ 8) ∧ (∀ j, a 0 2 ≤ j → a 5 j = 0) ∧ (∀ j, 0 ≤ a 6 j ∧ a 6 j ≤ 21599) ∧ (∀ j, -5400 ≤ a 7 j ∧ a 7 j ≤ 5400)
/-! what each call answers, of the abstract state -/
def bIn (n a b : Int) : Bool := decide (a ≤ n ∧ n ≤ b)
def bStar (a : pw_H) (s : Int) : Bool := bIn s 0 (a 0 0 - 1)
def bList (a : pw_H) (l : Int) : Bool := bIn l 0 (a 0 2 - 1)
def bLine (a : pw_H) (l i : Int) : Bool := bList a l && bIn i 0 (a 5 l - 1)
def bPlace (x w : Int) : Bool := bIn x 0 21599 && bIn w (-5400) 5400
def bMom (y h : Int) : Bool := bIn y (-3000) 3000 && bIn h (-600) 600
def sSky (a : pw_H) (s y : Int) : Int := (a 1 s + 5 * y / 6 + a 3 s * y / 100) % 21600
def sWay (f t : Int) : Int := (t - f + 10800) % 21600 - 10800
def sLess (least kind x y more : Int) : Int := if 30 < x ∨ 30 < y then least else if 4 * (x + y + more) + kind < least then 4 * (x + y + more) + kind else least
/-- four times the cost and the slip's number; 1048576: none -/
def sRank (d w v : Int) : Int := sLess (sLess (sLess (sLess (sLess 1048576 0 (zabs d) (zabs (w - v)) 0) 1 (zabs d) (zabs (w + v)) 40) 2 (zabs (zabs d - 1800)) (zabs (w - v)) 50) 3 (zabs (zabs d - 600)) (zabs (w - v)) 45) 3 (zabs d) (zabs (zabs (w - v) - 600)) 45
def sSum (f : Int → Int) : Nat → Int
  | 0 => 0
  | n + 1 => sSum f n + f (n : Int)
/-- the rank of a line against a star in a year with a shift -/
def sRk (a : pw_H) (l i s y h : Int) : Int := sRank (sWay (sSky a s y + h) (a 6 (l * 8 + i))) (a 7 (l * 8 + i)) (a 2 s)
def Fr (ks : List Nat) (σ τ : pw_H) : Prop := ∀ k, k ∉ ks → τ k = σ k
theorem Fr.rf {ks : List Nat} {σ : pw_H} : Fr ks σ σ := fun _ _ => rfl
theorem Fr.tr {k1 k2 ks : List Nat} {σ τ υ : pw_H} (h1 : Fr k1 σ τ) (h2 : Fr k2 τ υ) (s1 : ∀ k ∈ k1, k ∈ ks) (s2 : ∀ k ∈ k2, k ∈ ks) : Fr ks σ υ := fun k hk => (h2 k (fun q => hk (s2 k q))).trans (h1 k (fun q => hk (s1 k q)))
theorem Fr.u {ks : List Nat} {σ : pw_H} {k : Nat} {j v : Int} (h : k ∈ ks) : Fr ks σ (pw_u σ k j v) := fun k' hk => by
  funext t
  exact pw_u_k (fun q => hk (q ▸ h))
theorem Fr_vX {ks : List Nat} {σ τ : pw_H} (h : Fr ks σ τ) (hk : ∀ k ∈ [1, 2, 6, 7, 8, 9, 10, 11, 12], k ∉ ks) : vX τ = vX σ := by
  have e : ∀ k ∈ [1, 2, 6, 7, 8, 9, 10, 11, 12], τ k = σ k := fun k q => h k (hk k q)
  funext k
  match k with
  | 0 => simp only [vX, e 1 (by decide), e 2 (by decide)]
  | 1 => exact e 6 (by decide)
  | 2 => exact e 7 (by decide)
  | 3 => exact e 8 (by decide)
  | 4 => exact e 9 (by decide)
  | 5 => exact e 10 (by decide)
  | 6 => exact e 11 (by decide)
  | 7 => exact e 12 (by decide)
  | k + 8 => rfl
theorem Fr_vM {ks : List Nat} {σ τ : pw_H} (h : Fr ks σ τ) (hk : ∀ k ∈ [1, 2, 3, 4, 5, 6, 7], k ∉ ks) (h0 : τ 0 0 = σ 0 0 ∧ τ 0 5 = σ 0 5 ∧ τ 0 6 = σ 0 6) : vM τ = vM σ := by
  have e : ∀ k ∈ [1, 2, 3, 4, 5, 6, 7], τ k = σ k := fun k q => h k (hk k q)
  funext k
  match k with
  | 0 => simp only [vM, h0.1, h0.2.1, h0.2.2]
  | 1 => exact e 1 (by decide)
  | 2 => exact e 2 (by decide)
  | 3 => exact e 3 (by decide)
  | 4 => exact e 4 (by decide)
  | 5 => exact e 5 (by decide)
  | 6 => exact e 6 (by decide)
  | 7 => exact e 7 (by decide)
  | k + 8 => rfl
/-! the calls: what they answer, and the state behind them -/
abbrev sR : Type := Int × pw_H
def s_star (a : pw_H) (x w m b : Int) : sR := if (bPlace x w && (bIn m (-50) 50 && bIn b 0 6)) = false then (-2, a) else if a 0 0 = 8 then (-4, a) else (a 0 0, pw_u (pw_u (pw_u (pw_u (pw_u a 1 (a 0 0) x) 2 (a 0 0) w) 3 (a 0 0) m) 4 (a 0 0) b) 0 0 (a 0 0 + 1))
def s_sky (a : pw_H) (s y : Int) : sR := if bStar a s = false then (-1, a) else if bIn y (-3000) 3000 = false then (-2, a) else (sSky a s y, a)
def s_about (a : pw_H) (s w : Int) : sR := if bStar a s = false then (-1, a) else if w = 0 then (a 1 s, a) else if w = 1 then (a 3 s, a) else if w = 2 then (a 4 s, a) else if w = 3 then (a 2 s + 5400, a) else (-2, a)
def s_limit (a : pw_H) (n : Int) : sR := if bIn n 0 6 = false then (-2, a) else (a 0 1, pw_u a 0 1 n)
def s_way (a : pw_H) (f t : Int) : sR := if (bIn f 0 21599 && bIn t 0 21599) = false then (-2, a) else (sWay f t + 10800, a)
def s_list (a : pw_H) : sR := if a 0 2 = 6 then (-4, a) else (a 0 2, pw_u a 0 2 (a 0 2 + 1))
def s_line (a : pw_H) (l x w : Int) : sR := if bList a l = false then (-1, a) else if bPlace x w = false then (-2, a) else if a 5 l = 8 then (-4, a) else (a 5 l, pw_u (pw_u (pw_u a 5 l (a 5 l + 1)) 6 (l * 8 + a 5 l) x) 7 (l * 8 + a 5 l) w)
def s_written (a : pw_H) (l i w : Int) : sR := if bLine a l i = false then (-1, a) else if w = 0 then (a 6 (l * 8 + i), a) else if w = 1 then (a 7 (l * 8 + i) + 5400, a) else (-2, a)
def s_mend (a : pw_H) (l i x w : Int) : sR := if bLine a l i = false then (-1, a) else if bPlace x w = false then (-2, a) else (a 6 (l * 8 + i), pw_u (pw_u a 6 (l * 8 + i) x) 7 (l * 8 + i) w)
def s_round (a : pw_H) (l p : Int) : sR := if bList a l = false then (-1, a) else if bIn p 2 1800 = false then (-2, a) else (sSum (fun i => zB (decide (a 6 (l * 8 + i) % p = 0))) (a 5 l).toNat, a)
def s_slip (a : pw_H) (l i s y h : Int) : sR := if (bLine a l i && bStar a s) = false then (-1, a) else if bMom y h = false then (-2, a) else (if sRk a l i s y h = 1048576 then -9 else sRk a l i s y h % 4, a)
def s_cost (a : pw_H) (l i s y h : Int) : sR := if (bLine a l i && bStar a s) = false then (-1, a) else if bMom y h = false then (-2, a) else (if sRk a l i s y h = 1048576 then -9 else sRk a l i s y h / 4, a)
def s_count (a : pw_H) (w : Int) : sR := if w = 0 then (a 0 0, a) else if w = 1 then (a 0 2, a) else if w = 2 then (sSum (a 5) (a 0 2).toNat, a) else if w = 3 then (sSum (fun s => zB (decide (a 4 s ≤ a 0 1))) (a 0 0).toNat, a) else (-2, a)
abbrev pX (S : sR) : Option Value → pw_H → Prop := fun r τ => r = some (vI S.1) ∧ vX τ = S.2
abbrev pM (S : sR) : Option Value → pw_H → Prop := fun r τ => r = some (vI S.1) ∧ vM τ = S.2
/-- a star counts and matches a line; what it costs (100000: it doesn't) -/
def sF (a : pw_H) (l y h i s : Int) : Bool := decide (a 4 s ≤ a 0 1) && !decide (sRk a l i s y h = 1048576)
def sC (a : pw_H) (l y h : Int) : Int → Int → Int := fun i s => if sF a l y h i s = true then sRk a l i s y h / 4 else 100000
end
section
theorem bIn_t {n a b : Int} (h1 : a ≤ n) (h2 : n ≤ b) : bIn n a b = true := by simp [bIn, h1, h2]
theorem bIn_f {n a b : Int} (h : n < a ∨ b < n) : bIn n a b = false := by simp only [bIn, decide_eq_false_iff_not]; omega
theorem bIn_iff {n a b : Int} : bIn n a b = true ↔ a ≤ n ∧ n ≤ b := by simp [bIn]
theorem bIn_niff {n a b : Int} : bIn n a b = false ↔ ¬ (a ≤ n ∧ n ≤ b) := by simp [bIn]
/-- a plain answer: the world stays -/
abbrev pv (v : Int) (σ : pw_H) : Option Value → pw_H → Prop := fun r τ => r = some (vI v) ∧ σ = τ
abbrev pb (b : Bool) (σ : pw_H) : Option Value → pw_H → Prop := fun r τ => r = some (vI (zB b)) ∧ σ = τ
theorem zB_t {b : Bool} (h : b = true) : zB b = 1 := by rw [h]; rfl
theorem zB_f {b : Bool} (h : b = false) : zB b = 0 := by rw [h]; rfl
theorem pv_of {v w : Int} {σ τ : pw_H} (h : v = w) (h2 : τ = σ) : pv w σ (some (vI v)) τ := ⟨by rw [h], h2.symm⟩
set_option maxRecDepth 100000 in
theorem c_X5_isWithin (l : Launch) (G : pw_G) (σ : pw_H) {n a b : Int} (h1 : InI n) (h2 : InI a) (h3 : InI b) : Ct l shX G mX5_isWithin [vI n, vI a, vI b] σ (pb (bIn n a b) σ) := by
  refine Ct_of (ls := [some (vI n), some (vI a), some (vI b)]) (by decide +kernel) (Nat.le_of_ble_eq_true rfl) rfl (fun X C => ?_)
  refine r_iload_n C rfl dX5_isWithin_0 ?_
  refine r_iload_n C rfl dX5_isWithin_1 ?_
  refine r_icmp_lt (tgt := 14) C (by decide) (by omega) (by omega) dX5_isWithin_2 (fun c2 => ?_) (fun c2 => ?_)
  · refine r_iconst C dX5_isWithin_14 ?_
    refine r_zreturn C rfl (by first | exact Or.inl rfl | exact Or.inr rfl) ?_ dX5_isWithin_15
    refine pv_of ?_ rfl
    first | exact (zB_t (bIn_t (by omega) (by omega))).symm | exact (zB_f (bIn_f (by omega))).symm
  · refine r_iload_n C rfl dX5_isWithin_5 ?_
    refine r_iload_n C rfl dX5_isWithin_6 ?_
    refine r_icmp_gt (tgt := 14) C (by decide) (by omega) (by omega) dX5_isWithin_7 (fun c7 => ?_) (fun c7 => ?_)
    · refine r_iconst C dX5_isWithin_14 ?_
      refine r_zreturn C rfl (by first | exact Or.inl rfl | exact Or.inr rfl) ?_ dX5_isWithin_15
      refine pv_of ?_ rfl
      first | exact (zB_t (bIn_t (by omega) (by omega))).symm | exact (zB_f (bIn_f (by omega))).symm
    · refine r_iconst C dX5_isWithin_10 ?_
      refine r_goto (tgt := 15) C (by decide) dX5_isWithin_11 ?_
      refine r_zreturn C rfl (by first | exact Or.inl rfl | exact Or.inr rfl) ?_ dX5_isWithin_15
      refine pv_of ?_ rfl
      first | exact (zB_t (bIn_t (by omega) (by omega))).symm | exact (zB_f (bIn_f (by omega))).symm
set_option maxRecDepth 100000 in
theorem c_X5_isLong (l : Launch) (G : pw_G) (σ : pw_H) {n : Int} (h1 : InI n) : Ct l shX G mX5_isLong [vI n] σ (pb (bIn n 0 21599) σ) := by
  refine Ct_of (ls := [some (vI n)]) (by decide +kernel) (Nat.le_of_ble_eq_true rfl) rfl (fun X C => ?_)
  refine r_iload_n C rfl dX5_isLong_0 ?_
  refine r_iconst C dX5_isLong_1 ?_
  refine r_sipush C (by decide +kernel) dX5_isLong_2 ?_
  refine r_callS (As := [_, _, _]) C (c_X5_isWithin _ _ _ (by omega) (by omega) (by omega)) ok_X5_isWithin ln_X5_49 rfl rfl (Nat.le_of_ble_eq_true rfl) (Nat.le_of_ble_eq_true rfl) (Nat.le_of_ble_eq_true rfl) dX5_isLong_5 (fun v5 τ5 hq5 => ?_)
  obtain ⟨rfl, rfl⟩ := hq5
  refine r_breturn C rfl ?_ dX5_isLong_8
  exact ⟨rfl, rfl⟩
set_option maxRecDepth 100000 in
theorem c_X5_isYear (l : Launch) (G : pw_G) (σ : pw_H) {n : Int} (h1 : InI n) : Ct l shX G mX5_isYear [vI n] σ (pb (bIn n (-3000) 3000) σ) := by
  refine Ct_of (ls := [some (vI n)]) (by decide +kernel) (Nat.le_of_ble_eq_true rfl) rfl (fun X C => ?_)
  refine r_iload_n C rfl dX5_isYear_0 ?_
  refine r_sipush C (by decide +kernel) dX5_isYear_1 ?_
  refine r_sipush C (by decide +kernel) dX5_isYear_4 ?_
  refine r_callS (As := [_, _, _]) C (c_X5_isWithin _ _ _ (by omega) (by omega) (by omega)) ok_X5_isWithin ln_X5_49 rfl rfl (Nat.le_of_ble_eq_true rfl) (Nat.le_of_ble_eq_true rfl) (Nat.le_of_ble_eq_true rfl) dX5_isYear_7 (fun v7 τ7 hq7 => ?_)
  obtain ⟨rfl, rfl⟩ := hq7
  refine r_breturn C rfl ?_ dX5_isYear_10
  exact ⟨rfl, rfl⟩
set_option maxRecDepth 100000 in
theorem c_X5_isShift (l : Launch) (G : pw_G) (σ : pw_H) {n : Int} (h1 : InI n) : Ct l shX G mX5_isShift [vI n] σ (pb (bIn n (-600) 600) σ) := by
  refine Ct_of (ls := [some (vI n)]) (by decide +kernel) (Nat.le_of_ble_eq_true rfl) rfl (fun X C => ?_)
  refine r_iload_n C rfl dX5_isShift_0 ?_
  refine r_sipush C (by decide +kernel) dX5_isShift_1 ?_
  refine r_sipush C (by decide +kernel) dX5_isShift_4 ?_
  refine r_callS (As := [_, _, _]) C (c_X5_isWithin _ _ _ (by omega) (by omega) (by omega)) ok_X5_isWithin ln_X5_49 rfl rfl (Nat.le_of_ble_eq_true rfl) (Nat.le_of_ble_eq_true rfl) (Nat.le_of_ble_eq_true rfl) dX5_isShift_7 (fun v7 τ7 hq7 => ?_)
  obtain ⟨rfl, rfl⟩ := hq7
  refine r_breturn C rfl ?_ dX5_isShift_10
  exact ⟨rfl, rfl⟩
set_option maxRecDepth 100000 in
theorem c_X5_isPlace (l : Launch) (G : pw_G) (σ : pw_H) {n w : Int} (h1 : InI n) (h2 : InI w) : Ct l shX G mX5_isPlace [vI n, vI w] σ (pb (bPlace n w) σ) := by
  refine Ct_of (ls := [some (vI n), some (vI w)]) (by decide +kernel) (Nat.le_of_ble_eq_true rfl) rfl (fun X C => ?_)
  refine r_iload_n C rfl dX5_isPlace_0 ?_
  refine r_callS (As := [_]) C (c_X5_isLong _ _ _ (by omega)) ok_X5_isLong ln_X5_87 rfl rfl (Nat.le_of_ble_eq_true rfl) (Nat.le_of_ble_eq_true rfl) (Nat.le_of_ble_eq_true rfl) dX5_isPlace_1 (fun v1 τ1 hq1 => ?_)
  obtain ⟨rfl, rfl⟩ := hq1
  refine r_ifB_eq (tgt := 24) C (by decide) dX5_isPlace_4 (fun c4 => ?_) (fun c4 => ?_)
  · refine r_iconst C dX5_isPlace_24 ?_
    refine r_zreturn C rfl (by first | exact Or.inl rfl | exact Or.inr rfl) ?_ dX5_isPlace_25
    refine pv_of ?_ rfl
    simp [bPlace, *, zB]
  · refine r_iload_n C rfl dX5_isPlace_7 ?_
    refine r_sipush C (by decide +kernel) dX5_isPlace_8 ?_
    refine r_sipush C (by decide +kernel) dX5_isPlace_11 ?_
    refine r_callS (As := [_, _, _]) C (c_X5_isWithin _ _ _ (by omega) (by omega) (by omega)) ok_X5_isWithin ln_X5_49 rfl rfl (Nat.le_of_ble_eq_true rfl) (Nat.le_of_ble_eq_true rfl) (Nat.le_of_ble_eq_true rfl) dX5_isPlace_14 (fun v14 τ14 hq14 => ?_)
    obtain ⟨rfl, rfl⟩ := hq14
    refine r_ifB_eq (tgt := 24) C (by decide) dX5_isPlace_17 (fun c17 => ?_) (fun c17 => ?_)
    · refine r_iconst C dX5_isPlace_24 ?_
      refine r_zreturn C rfl (by first | exact Or.inl rfl | exact Or.inr rfl) ?_ dX5_isPlace_25
      refine pv_of ?_ rfl
      simp [bPlace, *, zB]
    · refine r_iconst C dX5_isPlace_20 ?_
      refine r_goto (tgt := 25) C (by decide) dX5_isPlace_21 ?_
      refine r_zreturn C rfl (by first | exact Or.inl rfl | exact Or.inr rfl) ?_ dX5_isPlace_25
      refine pv_of ?_ rfl
      simp [bPlace, *, zB]
set_option maxRecDepth 100000 in
theorem c_X5_isMoment (l : Launch) (G : pw_G) (σ : pw_H) {n w : Int} (h1 : InI n) (h2 : InI w) : Ct l shX G mX5_isMoment [vI n, vI w] σ (pb (bMom n w) σ) := by
  refine Ct_of (ls := [some (vI n), some (vI w)]) (by decide +kernel) (Nat.le_of_ble_eq_true rfl) rfl (fun X C => ?_)
  refine r_iload_n C rfl dX5_isMoment_0 ?_
  refine r_callS (As := [_]) C (c_X5_isYear _ _ _ (by omega)) ok_X5_isYear ln_X5_65 rfl rfl (Nat.le_of_ble_eq_true rfl) (Nat.le_of_ble_eq_true rfl) (Nat.le_of_ble_eq_true rfl) dX5_isMoment_1 (fun v1 τ1 hq1 => ?_)
  obtain ⟨rfl, rfl⟩ := hq1
  refine r_ifB_eq (tgt := 18) C (by decide) dX5_isMoment_4 (fun c4 => ?_) (fun c4 => ?_)
  · refine r_iconst C dX5_isMoment_18 ?_
    refine r_zreturn C rfl (by first | exact Or.inl rfl | exact Or.inr rfl) ?_ dX5_isMoment_19
    refine pv_of ?_ rfl
    simp [bMom, *, zB]
  · refine r_iload_n C rfl dX5_isMoment_7 ?_
    refine r_callS (As := [_]) C (c_X5_isShift _ _ _ (by omega)) ok_X5_isShift ln_X5_193 rfl rfl (Nat.le_of_ble_eq_true rfl) (Nat.le_of_ble_eq_true rfl) (Nat.le_of_ble_eq_true rfl) dX5_isMoment_8 (fun v8 τ8 hq8 => ?_)
    obtain ⟨rfl, rfl⟩ := hq8
    refine r_ifB_eq (tgt := 18) C (by decide) dX5_isMoment_11 (fun c11 => ?_) (fun c11 => ?_)
    · refine r_iconst C dX5_isMoment_18 ?_
      refine r_zreturn C rfl (by first | exact Or.inl rfl | exact Or.inr rfl) ?_ dX5_isMoment_19
      refine pv_of ?_ rfl
      simp [bMom, *, zB]
    · refine r_iconst C dX5_isMoment_14 ?_
      refine r_goto (tgt := 19) C (by decide) dX5_isMoment_15 ?_
      refine r_zreturn C rfl (by first | exact Or.inl rfl | exact Or.inr rfl) ?_ dX5_isMoment_19
      refine pv_of ?_ rfl
      simp [bMom, *, zB]
end
section
theorem n_tm {x y : Int} (hy : 0 < y) : x.tmod y = if 0 ≤ x ∨ x % y = 0 then x % y else x % y - y := by
  rw [Int.tmod_eq_emod]
  by_cases h : 0 ≤ x
  · simp [h]
  · by_cases h2 : x % y = 0
    · have : y ∣ x := Int.dvd_of_emod_eq_zero h2
      simp [h2, this]
    · have : ¬ y ∣ x := fun q => h2 (Int.emod_eq_zero_of_dvd q)
      rw [if_neg (by simp [h, this]), if_neg (by simp [h, h2])]
      omega
theorem n_td {x y : Int} (hy : 0 < y) : x.tdiv y = if 0 ≤ x ∨ x % y = 0 then x / y else x / y + 1 := by
  rw [Int.tdiv_eq_ediv]
  by_cases h : 0 ≤ x
  · simp [h]
  · by_cases h2 : x % y = 0
    · have : y ∣ x := Int.dvd_of_emod_eq_zero h2
      simp [h2, this]
    · have : ¬ y ∣ x := fun q => h2 (Int.emod_eq_zero_of_dvd q)
      rw [if_neg (by simp [h, this]), if_neg (by simp [h, h2]), Int.sign_eq_one_of_pos hy]
theorem n_xs {x y : Int} (h1 : InI x) (h2 : InI y) (hy : 0 < y) : ((iI x ^^^ iI y).toInt < 0) ↔ x < 0 := by
  have e1 : (iI x).toBitVec.msb = decide (x < 0) := by
    rw [BitVec.msb_eq_toInt]
    show decide ((iI x).toInt < 0) = _
    rw [iI_t h1]
  have e2 : (iI y).toBitVec.msb = false := by
    rw [BitVec.msb_eq_toInt]
    show decide ((iI y).toInt < 0) = _
    rw [iI_t h2]
    simp; omega
  have e3 : (iI x ^^^ iI y).toBitVec.msb = decide ((iI x ^^^ iI y).toInt < 0) := BitVec.msb_eq_toInt
  rw [Int32.toBitVec_xor, BitVec.msb_xor, e1, e2] at e3
  simpa using e3.symm
theorem n_mul {m y : Int} (h1 : -50 ≤ m) (h2 : m ≤ 50) (h3 : -3000 ≤ y) (h4 : y ≤ 3000) : -150000 ≤ m * y ∧ m * y ≤ 150000 := by
  have e1 : 0 ≤ (50 - m) * (3000 + y) := Int.mul_nonneg (by omega) (by omega)
  have e2 : 0 ≤ (50 + m) * (3000 - y) := Int.mul_nonneg (by omega) (by omega)
  have e3 : 0 ≤ (50 - m) * (3000 - y) := Int.mul_nonneg (by omega) (by omega)
  have e4 : 0 ≤ (50 + m) * (3000 + y) := Int.mul_nonneg (by omega) (by omega)
  simp only [Int.sub_mul, Int.add_mul, Int.mul_sub, Int.mul_add] at e1 e2 e3 e4
  omega
theorem n_abs (x : Int) : (0 ≤ x ∧ zabs x = x) ∨ (x < 0 ∧ zabs x = -x) := by unfold zabs; split <;> omega
theorem n_abs0 (x : Int) : 0 ≤ zabs x := by rcases n_abs x with h | h <;> omega
theorem n_absb {x b : Int} (h1 : -b ≤ x) (h2 : x ≤ b) : 0 ≤ zabs x ∧ zabs x ≤ b := by rcases n_abs x with h | h <;> omega
theorem n_sLess {least kind x y more : Int} (h : 0 ≤ least ∧ least ≤ 1048576) (h1 : 0 ≤ x) (h2 : 0 ≤ y) (h3 : 0 ≤ more) (h4 : 0 ≤ kind) : 0 ≤ sLess least kind x y more ∧ sLess least kind x y more ≤ 1048576 := by
  unfold sLess; split <;> (try split) <;> omega
theorem n_sRank (d w v : Int) : 0 ≤ sRank d w v ∧ sRank d w v ≤ 1048576 := by
  unfold sRank
  refine n_sLess (n_sLess (n_sLess (n_sLess (n_sLess (by omega) ?_ ?_ ?_ ?_) ?_ ?_ ?_ ?_) ?_ ?_ ?_ ?_) ?_ ?_ ?_ ?_) ?_ ?_ ?_ ?_ <;> first | exact n_abs0 _ | omega
theorem n_way (f t : Int) : -10800 ≤ sWay f t ∧ sWay f t ≤ 10799 := by unfold sWay; omega
theorem n_sky (a : pw_H) (s y : Int) : 0 ≤ sSky a s y ∧ sSky a s y ≤ 21599 := by unfold sSky; omega
end
section
set_option maxRecDepth 100000 in
theorem b_mask8 : ∀ Z : Nat, Z < 256 → ∀ T : Nat, T < 256 → iI T &&& iI (-1 - (Z : Int)) = iI ((T &&& (255 ^^^ Z) : Nat) : Int) := by decide +kernel
set_option maxRecDepth 100000 in
theorem b_sub8 : ∀ Z : Nat, Z < 256 → ∀ T : Nat, T < 256 → (T &&& (255 ^^^ Z) = 0 ↔ T &&& Z = T) := by decide +kernel
end
section
theorem b_and (a b : Nat) : iI a &&& iI b = iI ((a &&& b : Nat) : Int) := by
  rw [← iI_nat, ← iI_nat, ← iI_nat]
  apply Int32.toBitVec_inj.mp
  exact (BitVec.ofNat_and (x := a) (y := b)).symm
theorem b_or (a b : Nat) : iI a ||| iI b = iI ((a ||| b : Nat) : Int) := by
  rw [← iI_nat, ← iI_nat, ← iI_nat]
  apply Int32.toBitVec_inj.mp
  exact (BitVec.ofNat_or (x := a) (y := b)).symm
theorem b_xor (a b : Nat) : iI a ^^^ iI b = iI ((a ^^^ b : Nat) : Int) := by
  rw [← iI_nat, ← iI_nat, ← iI_nat]
  apply Int32.toBitVec_inj.mp
  exact (BitVec.ofNat_xor (x := a) (y := b)).symm
theorem b_shl8 : ∀ s : Nat, s < 9 → iI 1 <<< (iI s &&& 31) = iI ((2 ^ s : Nat) : Int) := by decide +kernel
theorem b_not8 : ∀ Z : Nat, Z < 256 → iI Z ^^^ iI (-1) = iI (-1 - (Z : Int)) := by decide +kernel
theorem l_i2l {z : Int} (h : InI z) : (iI z).toInt64 = lI z := by
  apply Int64.toInt_inj.mp
  rw [Int32.toInt_toInt64, iI_t h, lI_t ⟨by omega, by omega⟩]
theorem l_l2i (z : Int) : (lI z).toInt32 = iI z := Int64.toInt32_ofInt
theorem l_nat (n : Nat) : Int64.ofNat n = lI (n : Int) := (Int64.ofInt_eq_ofNat (n := n)).symm
theorem l_cnt : ∀ k : Nat, k < 64 → ((iI (k : Int)).toInt64 &&& 63) = lI (k : Int) := by decide +kernel
theorem l_sm : ∀ k : Nat, k < 64 → ((lI (k : Int)).toBitVec.smod 64) = BitVec.ofNat 64 k := by decide +kernel
theorem l_shl (n : Nat) {k : Nat} (hk : k < 64) : lI (n : Int) <<< ((iI (k : Int)).toInt64 &&& 63) = lI ((n * 2 ^ k : Nat) : Int) := by
  rw [l_cnt k hk]
  apply Int64.toBitVec_inj.mp
  rw [Int64.toBitVec_shiftLeft, l_sm k hk, ← l_nat, ← l_nat]
  apply BitVec.eq_of_toNat_eq
  show (BitVec.ofNat 64 n <<< BitVec.ofNat 64 k).toNat = (BitVec.ofNat 64 (n * 2 ^ k)).toNat
  rw [BitVec.shiftLeft_eq', BitVec.toNat_shiftLeft, BitVec.toNat_ofNat, BitVec.toNat_ofNat, BitVec.toNat_ofNat, Nat.mod_eq_of_lt (show k < 2 ^ 64 by omega), Nat.shiftLeft_eq, Nat.mul_mod, Nat.mod_mod, ← Nat.mul_mod]
theorem l_shr {x : Int} (hx : InL x) (h0 : 0 ≤ x) {k : Nat} (hk : k < 64) : lI x >>> ((iI (k : Int)).toInt64 &&& 63) = lI (x / 2 ^ k) := by
  rw [l_cnt k hk]
  have hp : 0 < (2 : Int) ^ k := Int.pow_pos (by decide)
  have h1 : 0 ≤ x / 2 ^ k := Int.ediv_nonneg h0 (Int.le_of_lt hp)
  have h2 : x / 2 ^ k ≤ x := Int.ediv_le_self _ h0
  apply Int64.toInt_inj.mp
  have e : (lI x >>> lI (k : Int)).toInt = (lI x).toInt >>> k := by
    have hs : ((lI (k : Int)).toBitVec.smod 64).toNat = k := by rw [l_sm k hk, BitVec.toNat_ofNat, Nat.mod_eq_of_lt (by omega)]
    conv => rhs; rw [← hs]
    exact BitVec.toInt_sshiftRight ..
  rw [e, Int.shiftRight_eq_div_pow, lI_t hx, lI_t ⟨by omega, by omega⟩, Int.natCast_pow]
  rfl
theorem b_and15 (x : Int) : iI x &&& iI 15 = iI (x % 16) := by
  have h := b_and (x % 4294967296).toNat 15
  have e : iI (((x % 4294967296).toNat : Nat) : Int) = iI x := by
    rw [Int.toNat_of_nonneg (by omega)]
    unfold iI
    apply Int32.toInt_inj.mp
    rw [Int32.toInt_ofInt, Int32.toInt_ofInt]
    exact Int.emod_bmod x 4294967296
  rw [e] at h
  rw [show iI 15 = iI ((15 : Nat) : Int) from rfl, h]
  have e2 : (x % 4294967296).toNat &&& 15 = (x % 4294967296).toNat % 16 := Nat.and_two_pow_sub_one_eq_mod _ 4
  rw [e2]
  congr 1
  omega
end
section
set_option maxRecDepth 100000 in
theorem c_J9_floorMod_7cf53 (l : Launch) (G : pw_G) (σ : pw_H) {x y : Int} (h1 : InI x) (h2 : InI y) (hy : 0 < y) : Ct l shX G mJ9_floorMod_7cf53 [vI x, vI y] σ (pv (x % y) σ) := by
  have k1 := n_tm (x := x) hy
  have k2 := n_xs h1 h2 hy
  have k3 := Int.emod_nonneg x (show y ≠ 0 by omega)
  have k4 := Int.emod_lt_of_pos x hy
  have k5 := iI_rng (iI x ^^^ iI y)
  refine Ct_of (ls := [some (vI x), some (vI y), none]) (by decide +kernel) (Nat.le_of_ble_eq_true rfl) rfl (fun X C => ?_)
  refine r_iload_n C rfl dJ9_floorMod_7cf53_0 ?_
  refine r_iload_n C rfl dJ9_floorMod_7cf53_1 ?_
  refine r_irem C (by omega) (by omega) (by omega) dJ9_floorMod_7cf53_2 ?_
  refine r_istore_n (ls' := [_, _, _]) C (by decide) rfl rfl dJ9_floorMod_7cf53_3 ?_
  refine r_iload_n C rfl dJ9_floorMod_7cf53_4 ?_
  refine r_iload_n C rfl dJ9_floorMod_7cf53_5 ?_
  refine r_ixor C (iI_x _).symm dJ9_floorMod_7cf53_6 ?_
  refine r_if_ge (tgt := 18) C (by decide) k5 dJ9_floorMod_7cf53_7 (fun c7 => ?_) (fun c7 => ?_)
  · refine r_iload_n C rfl dJ9_floorMod_7cf53_18 ?_
    refine r_ireturn C rfl ?_ dJ9_floorMod_7cf53_19
    refine pv_of ?_ rfl
    split at k1 <;> omega
  · refine r_iload_n C rfl dJ9_floorMod_7cf53_10 ?_
    refine r_if_eq (tgt := 18) C (by decide) (by split at k1 <;> omega) dJ9_floorMod_7cf53_11 (fun c11 => ?_) (fun c11 => ?_)
    · refine r_iload_n C rfl dJ9_floorMod_7cf53_18 ?_
      refine r_ireturn C rfl ?_ dJ9_floorMod_7cf53_19
      refine pv_of ?_ rfl
      split at k1 <;> omega
    · refine r_iload_n C rfl dJ9_floorMod_7cf53_14 ?_
      refine r_iload_n C rfl dJ9_floorMod_7cf53_15 ?_
      refine r_iadd C dJ9_floorMod_7cf53_16 ?_
      refine r_ireturn C rfl ?_ dJ9_floorMod_7cf53_17
      refine pv_of ?_ rfl
      split at k1 <;> omega
set_option maxRecDepth 100000 in
theorem c_J9_floorDiv_7cf53 (l : Launch) (G : pw_G) (σ : pw_H) {x y : Int} (h1 : InI x) (h2 : InI y) (hy : 0 < y) : Ct l shX G mJ9_floorDiv_7cf53 [vI x, vI y] σ (pv (x / y) σ) := by
  have k1 := n_td (x := x) hy
  have k6 := n_tm (x := x) hy
  have k2 := n_xs h1 h2 hy
  have k3 := Int.emod_nonneg x (show y ≠ 0 by omega)
  have k4 := Int.emod_lt_of_pos x hy
  have k5 := iI_rng (iI x ^^^ iI y)
  have k7 : x.tdiv y * y = x - x.tmod y := by
    have := Int.tmod_add_tdiv_mul x y
    omega
  refine Ct_of (ls := [some (vI x), some (vI y), none]) (by decide +kernel) (Nat.le_of_ble_eq_true rfl) rfl (fun X C => ?_)
  refine r_iload_n C rfl dJ9_floorDiv_7cf53_0 ?_
  refine r_iload_n C rfl dJ9_floorDiv_7cf53_1 ?_
  refine r_idiv C (by omega) (by omega) (by omega) dJ9_floorDiv_7cf53_2 ?_
  refine r_istore_n (ls' := [_, _, _]) C (by decide) rfl rfl dJ9_floorDiv_7cf53_3 ?_
  refine r_iload_n C rfl dJ9_floorDiv_7cf53_4 ?_
  refine r_iload_n C rfl dJ9_floorDiv_7cf53_5 ?_
  refine r_ixor C (iI_x _).symm dJ9_floorDiv_7cf53_6 ?_
  refine r_if_ge (tgt := 21) C (by decide) k5 dJ9_floorDiv_7cf53_7 (fun c7 => ?_) (fun c7 => ?_)
  · refine r_iload_n C rfl dJ9_floorDiv_7cf53_21 ?_
    refine r_ireturn C rfl ?_ dJ9_floorDiv_7cf53_22
    refine pv_of ?_ rfl
    split at k1 <;> split at k6 <;> omega
  · refine r_iload_n C rfl dJ9_floorDiv_7cf53_10 ?_
    refine r_iload_n C rfl dJ9_floorDiv_7cf53_11 ?_
    refine r_imul C dJ9_floorDiv_7cf53_12 ?_
    refine r_iload_n C rfl dJ9_floorDiv_7cf53_13 ?_
    rw [k7]
    refine r_icmp_eq (tgt := 21) C (by decide) (by split at k6 <;> omega) (by omega) dJ9_floorDiv_7cf53_14 (fun c14 => ?_) (fun c14 => ?_)
    · refine r_iload_n C rfl dJ9_floorDiv_7cf53_21 ?_
      refine r_ireturn C rfl ?_ dJ9_floorDiv_7cf53_22
      refine pv_of ?_ rfl
      split at k1 <;> split at k6 <;> omega
    · refine r_iload_n C rfl dJ9_floorDiv_7cf53_17 ?_
      refine r_iconst C dJ9_floorDiv_7cf53_18 ?_
      refine r_isub C dJ9_floorDiv_7cf53_19 ?_
      refine r_ireturn C rfl ?_ dJ9_floorDiv_7cf53_20
      refine pv_of ?_ rfl
      split at k1 <;> split at k6 <;> omega
set_option maxRecDepth 100000 in
theorem c_X5_leads (l : Launch) (G : pw_G) (σ : pw_H) {x y : Int} (h1 : -100000 ≤ x ∧ x ≤ 100000) (h2 : -100000 ≤ y ∧ y ≤ 100000) : Ct l shX G mX5_leads [vI x, vI y] σ (pv (sWay x y) σ) := by
  refine Ct_of (ls := [some (vI x), some (vI y)]) (by decide +kernel) (Nat.le_of_ble_eq_true rfl) rfl (fun X C => ?_)
  refine r_iload_n C rfl dX5_leads_0 ?_
  refine r_iload_n C rfl dX5_leads_1 ?_
  refine r_isub C dX5_leads_2 ?_
  refine r_sipush C (by decide +kernel) dX5_leads_3 ?_
  refine r_iadd C dX5_leads_6 ?_
  refine r_sipush C (by decide +kernel) dX5_leads_7 ?_
  refine r_callS (As := [_, _]) C (c_J9_floorMod_7cf53 _ _ _ (by omega) (by omega) (by omega)) ok_J9_floorMod_7cf53 ln_X5_199 rfl rfl (Nat.le_of_ble_eq_true rfl) (Nat.le_of_ble_eq_true rfl) (Nat.le_of_ble_eq_true rfl) dX5_leads_10 (fun v10 τ10 hq10 => ?_)
  obtain ⟨rfl, rfl⟩ := hq10
  refine r_sipush C (by decide +kernel) dX5_leads_13 ?_
  refine r_isub C dX5_leads_16 ?_
  refine r_ireturn C rfl ?_ dX5_leads_17
  exact ⟨rfl, rfl⟩
set_option maxRecDepth 100000 in
theorem c_X4_has (l : Launch) (G : pw_G) (σ : pw_H) {s : Int} (h1 : InI s) (hI : Inv (vX σ)) : Ct l shX G mX4_has [.ref (G.2.1 1), vI s] σ (pb (bStar (vX σ) s) σ) := by
  have h8 : 0 ≤ σ 1 4 ∧ σ 1 4 ≤ 8 := hI.1
  refine Ct_of (ls := [some (.ref (G.2.1 1)), some (vI s)]) (by decide +kernel) (Nat.le_of_ble_eq_true rfl) rfl (fun X C => ?_)
  refine r_iload_n C rfl dX4_has_0 ?_
  refine r_if_lt (tgt := 16) C (by decide) (by omega) dX4_has_1 (fun c1 => ?_) (fun c1 => ?_)
  · refine r_iconst C dX4_has_16 ?_
    refine r_zreturn C rfl (by first | exact Or.inl rfl | exact Or.inr rfl) ?_ dX4_has_17
    refine pv_of ?_ rfl
    first | exact (zB_t (bIn_t (by omega) (show s ≤ σ 1 4 - 1 by omega))).symm | exact (zB_f (bIn_f (show s < 0 ∨ σ 1 4 - 1 < s by omega))).symm
  · refine r_iload_n C rfl dX4_has_4 ?_
    refine r_aload_n C rfl dX4_has_5 ?_
    refine r_getI (jz := 4) C 3 4 rfl rfl (by decide) rfl uw_X4 fl_X4_24 rfl dX4_has_6 ?_
    refine r_icmp_ge (tgt := 16) C (by decide) (by omega) (by omega) dX4_has_9 (fun c9 => ?_) (fun c9 => ?_)
    · refine r_iconst C dX4_has_16 ?_
      refine r_zreturn C rfl (by first | exact Or.inl rfl | exact Or.inr rfl) ?_ dX4_has_17
      refine pv_of ?_ rfl
      first | exact (zB_t (bIn_t (by omega) (show s ≤ σ 1 4 - 1 by omega))).symm | exact (zB_f (bIn_f (show s < 0 ∨ σ 1 4 - 1 < s by omega))).symm
    · refine r_iconst C dX4_has_12 ?_
      refine r_goto (tgt := 17) C (by decide) dX4_has_13 ?_
      refine r_zreturn C rfl (by first | exact Or.inl rfl | exact Or.inr rfl) ?_ dX4_has_17
      refine pv_of ?_ rfl
      first | exact (zB_t (bIn_t (by omega) (show s ≤ σ 1 4 - 1 by omega))).symm | exact (zB_f (bIn_f (show s < 0 ∨ σ 1 4 - 1 < s by omega))).symm
set_option maxRecDepth 100000 in
theorem c_X4_add (l : Launch) (G : pw_G) (σ : pw_H) {x w m b : Int} (hI : Inv (vX σ)) (h8 : σ 1 4 < 8) : Ct l shX G mX4_add [.ref (G.2.1 1), vI x, vI w, vI m, vI b] σ (fun r τ => r = some (vI (σ 1 4)) ∧ pw_u (pw_u (pw_u (pw_u (pw_u σ 6 (σ 1 4) x) 7 (σ 1 4) w) 8 (σ 1 4) m) 9 (σ 1 4) b) 1 4 (σ 1 4 + 1) = τ) := by
  have h0 : 0 ≤ σ 1 4 ∧ σ 1 4 ≤ 8 := hI.1
  refine Ct_of (ls := [some (.ref (G.2.1 1)), some (vI x), some (vI w), some (vI m), some (vI b)]) (by decide +kernel) (Nat.le_of_ble_eq_true rfl) rfl (fun X C => ?_)
  refine r_aload_n C rfl dX4_add_0 ?_
  refine r_getR C 3 0 rfl rfl (by decide) rfl uw_X4 fl_X4_9 dX4_add_1 ?_
  refine r_aload_n C rfl dX4_add_4 ?_
  refine r_getI (jz := 4) C 3 4 rfl rfl (by decide) rfl uw_X4 fl_X4_24 rfl dX4_add_5 ?_
  refine r_iload_n C rfl dX4_add_8 ?_
  refine r_iastore C rfl (by decide) (by omega) dX4_add_9 ?_
  refine r_aload_n C rfl dX4_add_10 ?_
  refine r_getR C 3 1 rfl rfl (by decide) rfl uw_X4 fl_X4_15 dX4_add_11 ?_
  refine r_aload_n C rfl dX4_add_14 ?_
  refine r_getI (jz := 4) C 3 4 rfl rfl (by decide) rfl uw_X4 fl_X4_24 rfl dX4_add_15 ?_
  try simp (disch := decide) only [pw_u_k, pw_u_j, pw_u_s]
  refine r_iload_n C rfl dX4_add_18 ?_
  refine r_iastore C rfl (by decide) (by omega) dX4_add_19 ?_
  refine r_aload_n C rfl dX4_add_20 ?_
  refine r_getR C 3 2 rfl rfl (by decide) rfl uw_X4 fl_X4_18 dX4_add_21 ?_
  refine r_aload_n C rfl dX4_add_24 ?_
  refine r_getI (jz := 4) C 3 4 rfl rfl (by decide) rfl uw_X4 fl_X4_24 rfl dX4_add_25 ?_
  try simp (disch := decide) only [pw_u_k, pw_u_j, pw_u_s]
  refine r_iload_n C rfl dX4_add_28 ?_
  refine r_iastore C rfl (by decide) (by omega) dX4_add_29 ?_
  refine r_aload_n C rfl dX4_add_30 ?_
  refine r_getR C 3 3 rfl rfl (by decide) rfl uw_X4 fl_X4_21 dX4_add_31 ?_
  refine r_aload_n C rfl dX4_add_34 ?_
  refine r_getI (jz := 4) C 3 4 rfl rfl (by decide) rfl uw_X4 fl_X4_24 rfl dX4_add_35 ?_
  try simp (disch := decide) only [pw_u_k, pw_u_j, pw_u_s]
  refine r_iload C rfl dX4_add_38 ?_
  refine r_iastore C rfl (by decide) (by omega) dX4_add_40 ?_
  refine r_aload_n C rfl dX4_add_41 ?_
  refine r_dup C rfl dX4_add_42 ?_
  refine r_getI (jz := 4) C 3 4 rfl rfl (by decide) rfl uw_X4 fl_X4_24 rfl dX4_add_43 ?_
  try simp (disch := decide) only [pw_u_k, pw_u_j, pw_u_s]
  refine r_dup_x1 C rfl rfl dX4_add_46 ?_
  refine r_iconst C dX4_add_47 ?_
  refine r_iadd C dX4_add_48 ?_
  refine r_putI (jz := 4) C 3 4 tyX4 tyX4_ok nmX4 rfl rfl (by decide) rfl uw_X4 fl_X4_24 rfl rfl rfl dX4_add_49 ?_
  refine r_ireturn C rfl ?_ dX4_add_52
  exact ⟨rfl, rfl⟩
set_option maxRecDepth 100000 in
theorem c_X4_longIn (l : Launch) (G : pw_G) (σ : pw_H) {s y : Int} (hI : Inv (vX σ)) (hs : 0 ≤ s ∧ s < 8) (hy : -3000 ≤ y ∧ y ≤ 3000) : Ct l shX G mX4_longIn [.ref (G.2.1 1), vI s, vI y] σ (pv (sSky (vX σ) s y) σ) := by
  have h1 : 0 ≤ σ 6 s ∧ σ 6 s ≤ 21599 := hI.2.2.2.1 s
  have h3 : -50 ≤ σ 8 s ∧ σ 8 s ≤ 50 := hI.2.2.2.2.2.1 s
  have h4 := n_mul h3.1 h3.2 hy.1 hy.2
  refine Ct_of (ls := [some (.ref (G.2.1 1)), some (vI s), some (vI y), none, none]) (by decide +kernel) (Nat.le_of_ble_eq_true rfl) rfl (fun X C => ?_)
  refine r_iconst C dX4_longIn_0 ?_
  refine r_iload_n C rfl dX4_longIn_1 ?_
  refine r_imul C dX4_longIn_2 ?_
  refine r_bipush C (by decide +kernel) dX4_longIn_3 ?_
  refine r_callS (As := [_, _]) C (c_J9_floorDiv_7cf53 _ _ _ (by omega) (by omega) (by omega)) ok_J9_floorDiv_7cf53 ln_X4_31 rfl rfl (Nat.le_of_ble_eq_true rfl) (Nat.le_of_ble_eq_true rfl) (Nat.le_of_ble_eq_true rfl) dX4_longIn_5 (fun v5 τ5 hq5 => ?_)
  obtain ⟨rfl, rfl⟩ := hq5
  refine r_istore_n (ls' := [_, _, _, _, _]) C (by decide) rfl rfl dX4_longIn_8 ?_
  refine r_aload_n C rfl dX4_longIn_9 ?_
  refine r_getR C 3 2 rfl rfl (by decide) rfl uw_X4 fl_X4_18 dX4_longIn_10 ?_
  refine r_iload_n C rfl dX4_longIn_13 ?_
  refine r_iaload C rfl (by decide) (by omega) dX4_longIn_14 ?_
  refine r_iload_n C rfl dX4_longIn_15 ?_
  refine r_imul C dX4_longIn_16 ?_
  refine r_bipush C (by decide +kernel) dX4_longIn_17 ?_
  refine r_callS (As := [_, _]) C (c_J9_floorDiv_7cf53 _ _ _ (by omega) (by omega) (by omega)) ok_J9_floorDiv_7cf53 ln_X4_31 rfl rfl (Nat.le_of_ble_eq_true rfl) (Nat.le_of_ble_eq_true rfl) (Nat.le_of_ble_eq_true rfl) dX4_longIn_19 (fun v19 τ19 hq19 => ?_)
  obtain ⟨rfl, rfl⟩ := hq19
  refine r_istore (ls' := [_, _, _, _, _]) C (by decide) rfl rfl dX4_longIn_22 ?_
  refine r_aload_n C rfl dX4_longIn_24 ?_
  refine r_getR C 3 0 rfl rfl (by decide) rfl uw_X4 fl_X4_9 dX4_longIn_25 ?_
  refine r_iload_n C rfl dX4_longIn_28 ?_
  refine r_iaload C rfl (by decide) (by omega) dX4_longIn_29 ?_
  refine r_iload_n C rfl dX4_longIn_30 ?_
  refine r_iadd C dX4_longIn_31 ?_
  refine r_iload C rfl dX4_longIn_32 ?_
  refine r_iadd C dX4_longIn_34 ?_
  refine r_sipush C (by decide +kernel) dX4_longIn_35 ?_
  refine r_callS (As := [_, _]) C (c_J9_floorMod_7cf53 _ _ _ (by omega) (by omega) (by omega)) ok_J9_floorMod_7cf53 ln_X4_37 rfl rfl (Nat.le_of_ble_eq_true rfl) (Nat.le_of_ble_eq_true rfl) (Nat.le_of_ble_eq_true rfl) dX4_longIn_38 (fun v38 τ38 hq38 => ?_)
  obtain ⟨rfl, rfl⟩ := hq38
  refine r_ireturn C rfl ?_ dX4_longIn_41
  exact ⟨rfl, rfl⟩
set_option maxRecDepth 100000 in
theorem c_X4_counts (l : Launch) (G : pw_G) (σ : pw_H) {s : Int} (hI : Inv (vX σ)) (hs : 0 ≤ s ∧ s < 8) : Ct l shX G mX4_counts [.ref (G.2.1 1), vI s] σ (pb (decide (vX σ 4 s ≤ vX σ 0 1)) σ) := by
  have h1 : 0 ≤ σ 9 s ∧ σ 9 s ≤ 6 := hI.2.2.2.2.2.2.1 s
  have h2 : 0 ≤ σ 1 5 ∧ σ 1 5 ≤ 6 := hI.2.1
  refine Ct_of (ls := [some (.ref (G.2.1 1)), some (vI s)]) (by decide +kernel) (Nat.le_of_ble_eq_true rfl) rfl (fun X C => ?_)
  refine r_aload_n C rfl dX4_counts_0 ?_
  refine r_getR C 3 3 rfl rfl (by decide) rfl uw_X4 fl_X4_21 dX4_counts_1 ?_
  refine r_iload_n C rfl dX4_counts_4 ?_
  refine r_iaload C rfl (by decide) (by omega) dX4_counts_5 ?_
  refine r_aload_n C rfl dX4_counts_6 ?_
  refine r_getI (jz := 5) C 3 5 rfl rfl (by decide) rfl uw_X4 fl_X4_28 rfl dX4_counts_7 ?_
  refine r_icmp_gt (tgt := 17) C (by decide) (by omega) (by omega) dX4_counts_10 (fun c10 => ?_) (fun c10 => ?_)
  · refine r_iconst C dX4_counts_17 ?_
    refine r_zreturn C rfl (by first | exact Or.inl rfl | exact Or.inr rfl) ?_ dX4_counts_18
    refine pv_of ?_ rfl
    first | exact (zB_t (decide_eq_true (show σ 9 s ≤ σ 1 5 by omega))).symm | exact (zB_f (decide_eq_false (show ¬ σ 9 s ≤ σ 1 5 by omega))).symm
  · refine r_iconst C dX4_counts_13 ?_
    refine r_goto (tgt := 18) C (by decide) dX4_counts_14 ?_
    refine r_zreturn C rfl (by first | exact Or.inl rfl | exact Or.inr rfl) ?_ dX4_counts_18
    refine pv_of ?_ rfl
    first | exact (zB_t (decide_eq_true (show σ 9 s ≤ σ 1 5 by omega))).symm | exact (zB_f (decide_eq_false (show ¬ σ 9 s ≤ σ 1 5 by omega))).symm
set_option maxRecDepth 100000 in
theorem c_X2_has (l : Launch) (G : pw_G) (σ : pw_H) {s : Int} (h1 : InI s) (hI : Inv (vX σ)) : Ct l shX G mX2_has [.ref (G.2.1 2), vI s] σ (pb (bList (vX σ) s) σ) := by
  have h8 : 0 ≤ σ 2 1 ∧ σ 2 1 ≤ 6 := hI.2.2.1
  refine Ct_of (ls := [some (.ref (G.2.1 2)), some (vI s)]) (by decide +kernel) (Nat.le_of_ble_eq_true rfl) rfl (fun X C => ?_)
  refine r_iload_n C rfl dX2_has_0 ?_
  refine r_if_lt (tgt := 16) C (by decide) (by omega) dX2_has_1 (fun c1 => ?_) (fun c1 => ?_)
  · refine r_iconst C dX2_has_16 ?_
    refine r_zreturn C rfl (by first | exact Or.inl rfl | exact Or.inr rfl) ?_ dX2_has_17
    refine pv_of ?_ rfl
    first | exact (zB_t (bIn_t (by omega) (show s ≤ σ 2 1 - 1 by omega))).symm | exact (zB_f (bIn_f (show s < 0 ∨ σ 2 1 - 1 < s by omega))).symm
  · refine r_iload_n C rfl dX2_has_4 ?_
    refine r_aload_n C rfl dX2_has_5 ?_
    refine r_getI (jz := 1) C 2 1 rfl rfl (by decide) rfl uw_X2 fl_X2_15 rfl dX2_has_6 ?_
    refine r_icmp_ge (tgt := 16) C (by decide) (by omega) (by omega) dX2_has_9 (fun c9 => ?_) (fun c9 => ?_)
    · refine r_iconst C dX2_has_16 ?_
      refine r_zreturn C rfl (by first | exact Or.inl rfl | exact Or.inr rfl) ?_ dX2_has_17
      refine pv_of ?_ rfl
      first | exact (zB_t (bIn_t (by omega) (show s ≤ σ 2 1 - 1 by omega))).symm | exact (zB_f (bIn_f (show s < 0 ∨ σ 2 1 - 1 < s by omega))).symm
    · refine r_iconst C dX2_has_12 ?_
      refine r_goto (tgt := 17) C (by decide) dX2_has_13 ?_
      refine r_zreturn C rfl (by first | exact Or.inl rfl | exact Or.inr rfl) ?_ dX2_has_17
      refine pv_of ?_ rfl
      first | exact (zB_t (bIn_t (by omega) (show s ≤ σ 2 1 - 1 by omega))).symm | exact (zB_f (bIn_f (show s < 0 ∨ σ 2 1 - 1 < s by omega))).symm
theorem bLine_1 {a : pw_H} {l i : Int} {b : Bool} (h : bList a l = true) (h2 : bIn i 0 (a 5 l - 1) = b) : bLine a l i = b := by unfold bLine; rw [h, h2]; rfl
theorem bLine_0 {a : pw_H} {l i : Int} (h : bList a l = false) : bLine a l i = false := by unfold bLine; rw [h]; rfl
theorem bList_t {a : pw_H} {s : Int} (h : bList a s = true) : 0 ≤ s ∧ s ≤ a 0 2 - 1 := bIn_iff.mp h
theorem bStar_t {a : pw_H} {s : Int} (h : bStar a s = true) : 0 ≤ s ∧ s ≤ a 0 0 - 1 := bIn_iff.mp h
theorem bLine_t {a : pw_H} {l i : Int} (h : bLine a l i = true) : (0 ≤ l ∧ l ≤ a 0 2 - 1) ∧ 0 ≤ i ∧ i ≤ a 5 l - 1 := by
  unfold bLine at h
  rw [Bool.and_eq_true] at h
  exact ⟨bList_t h.1, bIn_iff.mp h.2⟩
theorem bMom_t {y h : Int} (e : bMom y h = true) : (-3000 ≤ y ∧ y ≤ 3000) ∧ -600 ≤ h ∧ h ≤ 600 := by
  unfold bMom at e
  rw [Bool.and_eq_true] at e
  exact ⟨bIn_iff.mp e.1, bIn_iff.mp e.2⟩
theorem bPlace_t {y h : Int} (e : bPlace y h = true) : (0 ≤ y ∧ y ≤ 21599) ∧ -5400 ≤ h ∧ h ≤ 5400 := by
  unfold bPlace at e
  rw [Bool.and_eq_true] at e
  exact ⟨bIn_iff.mp e.1, bIn_iff.mp e.2⟩
set_option maxRecDepth 100000 in
theorem c_X2_hasLine (l : Launch) (G : pw_G) (σ : pw_H) {s i : Int} (h1 : InI s) (h2 : InI i) (hI : Inv (vX σ)) : Ct l shX G mX2_hasLine [.ref (G.2.1 2), vI s, vI i] σ (pb (bLine (vX σ) s i) σ) := by
  have h8 : 0 ≤ σ 2 1 ∧ σ 2 1 ≤ 6 := hI.2.2.1
  have h9 : 0 ≤ σ 10 s ∧ σ 10 s ≤ 8 := hI.2.2.2.2.2.2.2.1 s
  refine Ct_of (ls := [some (.ref (G.2.1 2)), some (vI s), some (vI i)]) (by decide +kernel) (Nat.le_of_ble_eq_true rfl) rfl (fun X C => ?_)
  refine r_aload_n C rfl dX2_hasLine_0 ?_
  refine r_iload_n C rfl dX2_hasLine_1 ?_
  refine r_callV (As := [_]) C (c_X2_has _ _ _ (by omega) hI) ok_X2_has ln_X2_25 rfl rfl rfl rfl (Nat.le_of_ble_eq_true rfl) (Nat.le_of_ble_eq_true rfl) (Nat.le_of_ble_eq_true rfl) dX2_hasLine_2 (fun v2 τ2 hq2 => ?_)
  obtain ⟨rfl, rfl⟩ := hq2
  refine r_ifB_eq (tgt := 26) C (by decide) dX2_hasLine_5 (fun c5 => ?_) (fun c5 => ?_)
  · refine r_iconst C dX2_hasLine_26 ?_
    refine r_zreturn C rfl (by first | exact Or.inl rfl | exact Or.inr rfl) ?_ dX2_hasLine_27
    refine pv_of ?_ rfl
    first | exact (zB_t (bLine_1 c5 (bIn_t (by omega) (show i ≤ σ 10 s - 1 by omega)))).symm | exact (zB_f (bLine_1 c5 (bIn_f (show i < 0 ∨ σ 10 s - 1 < i by omega)))).symm | exact (zB_f (bLine_0 c5)).symm
  · have h10 : 0 ≤ s ∧ s ≤ σ 2 1 - 1 := bList_t c5
    refine r_iload_n C rfl dX2_hasLine_8 ?_
    refine r_if_lt (tgt := 26) C (by decide) (by omega) dX2_hasLine_9 (fun c9 => ?_) (fun c9 => ?_)
    · refine r_iconst C dX2_hasLine_26 ?_
      refine r_zreturn C rfl (by first | exact Or.inl rfl | exact Or.inr rfl) ?_ dX2_hasLine_27
      refine pv_of ?_ rfl
      first | exact (zB_t (bLine_1 c5 (bIn_t (by omega) (show i ≤ σ 10 s - 1 by omega)))).symm | exact (zB_f (bLine_1 c5 (bIn_f (show i < 0 ∨ σ 10 s - 1 < i by omega)))).symm | exact (zB_f (bLine_0 c5)).symm
    · refine r_iload_n C rfl dX2_hasLine_12 ?_
      refine r_aload_n C rfl dX2_hasLine_13 ?_
      refine r_getR C 2 0 rfl rfl (by decide) rfl uw_X2 fl_X2_9 dX2_hasLine_14 ?_
      refine r_iload_n C rfl dX2_hasLine_17 ?_
      refine r_iaload C rfl (by decide) (by omega) dX2_hasLine_18 ?_
      refine r_icmp_ge (tgt := 26) C (by decide) (by omega) (by omega) dX2_hasLine_19 (fun c19 => ?_) (fun c19 => ?_)
      · refine r_iconst C dX2_hasLine_26 ?_
        refine r_zreturn C rfl (by first | exact Or.inl rfl | exact Or.inr rfl) ?_ dX2_hasLine_27
        refine pv_of ?_ rfl
        first | exact (zB_t (bLine_1 c5 (bIn_t (by omega) (show i ≤ σ 10 s - 1 by omega)))).symm | exact (zB_f (bLine_1 c5 (bIn_f (show i < 0 ∨ σ 10 s - 1 < i by omega)))).symm | exact (zB_f (bLine_0 c5)).symm
      · refine r_iconst C dX2_hasLine_22 ?_
        refine r_goto (tgt := 27) C (by decide) dX2_hasLine_23 ?_
        refine r_zreturn C rfl (by first | exact Or.inl rfl | exact Or.inr rfl) ?_ dX2_hasLine_27
        refine pv_of ?_ rfl
        first | exact (zB_t (bLine_1 c5 (bIn_t (by omega) (show i ≤ σ 10 s - 1 by omega)))).symm | exact (zB_f (bLine_1 c5 (bIn_f (show i < 0 ∨ σ 10 s - 1 < i by omega)))).symm | exact (zB_f (bLine_0 c5)).symm
set_option maxRecDepth 100000 in
theorem c_X2_open (l : Launch) (G : pw_G) (σ : pw_H) : Ct l shX G mX2_open [.ref (G.2.1 2)] σ (fun r τ => r = some (vI (σ 2 1)) ∧ pw_u σ 2 1 (σ 2 1 + 1) = τ) := by
  refine Ct_of (ls := [some (.ref (G.2.1 2))]) (by decide +kernel) (Nat.le_of_ble_eq_true rfl) rfl (fun X C => ?_)
  refine r_aload_n C rfl dX2_open_0 ?_
  refine r_dup C rfl dX2_open_1 ?_
  refine r_getI (jz := 1) C 2 1 rfl rfl (by decide) rfl uw_X2 fl_X2_15 rfl dX2_open_2 ?_
  refine r_dup_x1 C rfl rfl dX2_open_5 ?_
  refine r_iconst C dX2_open_6 ?_
  refine r_iadd C dX2_open_7 ?_
  refine r_putI (jz := 1) C 2 1 tyX2 tyX2_ok nmX2 rfl rfl (by decide) rfl uw_X2 fl_X2_15 rfl rfl rfl dX2_open_8 ?_
  refine r_ireturn C rfl ?_ dX2_open_11
  exact ⟨rfl, rfl⟩
set_option maxRecDepth 100000 in
theorem c_X2_write (l : Launch) (G : pw_G) (σ : pw_H) {s i x w : Int} (hs : 0 ≤ s ∧ s < 6) (hi : 0 ≤ i ∧ i < 8) : Ct l shX G mX2_write [.ref (G.2.1 2), vI s, vI i, vI x, vI w] σ (fun r τ => r = none ∧ pw_u (pw_u σ 11 (s * 8 + i) x) 12 (s * 8 + i) w = τ) := by
  refine Ct_of (ls := [some (.ref (G.2.1 2)), some (vI s), some (vI i), some (vI x), some (vI w)]) (by decide +kernel) (Nat.le_of_ble_eq_true rfl) rfl (fun X C => ?_)
  refine r_aload_n C rfl dX2_write_0 ?_
  refine r_getR C 2 2 rfl rfl (by decide) rfl uw_X2 fl_X2_19 dX2_write_1 ?_
  refine r_iload_n C rfl dX2_write_4 ?_
  refine r_bipush C (by decide +kernel) dX2_write_5 ?_
  refine r_imul C dX2_write_7 ?_
  refine r_iload_n C rfl dX2_write_8 ?_
  refine r_iadd C dX2_write_9 ?_
  refine r_iload_n C rfl dX2_write_10 ?_
  refine r_iastore C rfl (by decide) (by omega) dX2_write_11 ?_
  refine r_aload_n C rfl dX2_write_12 ?_
  refine r_getR C 2 3 rfl rfl (by decide) rfl uw_X2 fl_X2_22 dX2_write_13 ?_
  refine r_iload_n C rfl dX2_write_16 ?_
  refine r_bipush C (by decide +kernel) dX2_write_17 ?_
  refine r_imul C dX2_write_19 ?_
  refine r_iload_n C rfl dX2_write_20 ?_
  refine r_iadd C dX2_write_21 ?_
  refine r_iload C rfl dX2_write_22 ?_
  refine r_iastore C rfl (by decide) (by omega) dX2_write_24 ?_
  refine r_return C rfl ?_ dX2_write_25
  exact ⟨rfl, rfl⟩
set_option maxRecDepth 100000 in
theorem c_X2_add (l : Launch) (G : pw_G) (σ : pw_H) {s x w : Int} (hs : 0 ≤ s ∧ s < 6) (hi : 0 ≤ σ 10 s ∧ σ 10 s < 8) : Ct l shX G mX2_add [.ref (G.2.1 2), vI s, vI x, vI w] σ (fun r τ => r = some (vI (σ 10 s)) ∧ pw_u (pw_u (pw_u σ 10 s (σ 10 s + 1)) 11 (s * 8 + σ 10 s) x) 12 (s * 8 + σ 10 s) w = τ) := by
  refine Ct_of (ls := [some (.ref (G.2.1 2)), some (vI s), some (vI x), some (vI w), none]) (by decide +kernel) (Nat.le_of_ble_eq_true rfl) rfl (fun X C => ?_)
  refine r_aload_n C rfl dX2_add_0 ?_
  refine r_getR C 2 0 rfl rfl (by decide) rfl uw_X2 fl_X2_9 dX2_add_1 ?_
  refine r_iload_n C rfl dX2_add_4 ?_
  refine r_iaload C rfl (by decide) (by omega) dX2_add_5 ?_
  refine r_istore (ls' := [_, _, _, _, _]) C (by decide) rfl rfl dX2_add_6 ?_
  refine r_aload_n C rfl dX2_add_8 ?_
  refine r_getR C 2 0 rfl rfl (by decide) rfl uw_X2 fl_X2_9 dX2_add_9 ?_
  refine r_iload_n C rfl dX2_add_12 ?_
  refine r_iload C rfl dX2_add_13 ?_
  refine r_iconst C dX2_add_15 ?_
  refine r_iadd C dX2_add_16 ?_
  refine r_iastore C rfl (by decide) (by omega) dX2_add_17 ?_
  refine r_aload_n C rfl dX2_add_18 ?_
  refine r_iload_n C rfl dX2_add_19 ?_
  refine r_iload C rfl dX2_add_20 ?_
  refine r_iload_n C rfl dX2_add_22 ?_
  refine r_iload_n C rfl dX2_add_23 ?_
  refine r_callV (As := [_, _, _, _]) C (c_X2_write _ _ _ (by omega) (by omega)) ok_X2_write ln_X2_29 rfl rfl rfl rfl (Nat.le_of_ble_eq_true rfl) (Nat.le_of_ble_eq_true rfl) (Nat.le_of_ble_eq_true rfl) dX2_add_24 (fun v24 τ24 hq24 => ?_)
  obtain ⟨rfl, rfl⟩ := hq24
  refine r_iload C rfl dX2_add_27 ?_
  refine r_ireturn C rfl ?_ dX2_add_29
  exact ⟨rfl, rfl⟩
set_option maxRecDepth 100000 in
theorem c_X2_longOf (l : Launch) (G : pw_G) (σ : pw_H) {s i : Int} (hs : 0 ≤ s ∧ s < 6) (hi : 0 ≤ i ∧ i < 8) : Ct l shX G mX2_longOf [.ref (G.2.1 2), vI s, vI i] σ (pv (σ 11 (s * 8 + i)) σ) := by
  refine Ct_of (ls := [some (.ref (G.2.1 2)), some (vI s), some (vI i)]) (by decide +kernel) (Nat.le_of_ble_eq_true rfl) rfl (fun X C => ?_)
  refine r_aload_n C rfl dX2_longOf_0 ?_
  refine r_getR C 2 2 rfl rfl (by decide) rfl uw_X2 fl_X2_19 dX2_longOf_1 ?_
  refine r_iload_n C rfl dX2_longOf_4 ?_
  refine r_bipush C (by decide +kernel) dX2_longOf_5 ?_
  refine r_imul C dX2_longOf_7 ?_
  refine r_iload_n C rfl dX2_longOf_8 ?_
  refine r_iadd C dX2_longOf_9 ?_
  refine r_iaload C rfl (by decide) (by omega) dX2_longOf_10 ?_
  refine r_ireturn C rfl ?_ dX2_longOf_11
  exact ⟨rfl, rfl⟩
set_option maxRecDepth 100000 in
theorem c_X2_wideOf (l : Launch) (G : pw_G) (σ : pw_H) {s i : Int} (hs : 0 ≤ s ∧ s < 6) (hi : 0 ≤ i ∧ i < 8) : Ct l shX G mX2_wideOf [.ref (G.2.1 2), vI s, vI i] σ (pv (σ 12 (s * 8 + i)) σ) := by
  refine Ct_of (ls := [some (.ref (G.2.1 2)), some (vI s), some (vI i)]) (by decide +kernel) (Nat.le_of_ble_eq_true rfl) rfl (fun X C => ?_)
  refine r_aload_n C rfl dX2_wideOf_0 ?_
  refine r_getR C 2 3 rfl rfl (by decide) rfl uw_X2 fl_X2_22 dX2_wideOf_1 ?_
  refine r_iload_n C rfl dX2_wideOf_4 ?_
  refine r_bipush C (by decide +kernel) dX2_wideOf_5 ?_
  refine r_imul C dX2_wideOf_7 ?_
  refine r_iload_n C rfl dX2_wideOf_8 ?_
  refine r_iadd C dX2_wideOf_9 ?_
  refine r_iaload C rfl (by decide) (by omega) dX2_wideOf_10 ?_
  refine r_ireturn C rfl ?_ dX2_wideOf_11
  exact ⟨rfl, rfl⟩
set_option maxRecDepth 100000 in
theorem c_X3_kindOf (l : Launch) (G : pw_G) (σ : pw_H) {r : Int} (hr : 0 ≤ r ∧ r ≤ 1048576) : Ct l shX G mX3_kindOf [vI r] σ (pv (r % 4) σ) := by
  refine Ct_of (ls := [some (vI r)]) (by decide +kernel) (Nat.le_of_ble_eq_true rfl) rfl (fun X C => ?_)
  refine r_iload_n C rfl dX3_kindOf_0 ?_
  refine r_iconst C dX3_kindOf_1 ?_
  refine r_irem C (by omega) (by omega) (by omega) dX3_kindOf_2 ?_
  refine r_ireturn C rfl ?_ dX3_kindOf_3
  exact pv_of (Int.tmod_eq_emod_of_nonneg hr.1) rfl
set_option maxRecDepth 100000 in
theorem c_X3_costOf (l : Launch) (G : pw_G) (σ : pw_H) {r : Int} (hr : 0 ≤ r ∧ r ≤ 1048576) : Ct l shX G mX3_costOf [vI r] σ (pv (r / 4) σ) := by
  refine Ct_of (ls := [some (vI r)]) (by decide +kernel) (Nat.le_of_ble_eq_true rfl) rfl (fun X C => ?_)
  refine r_iload_n C rfl dX3_costOf_0 ?_
  refine r_iconst C dX3_costOf_1 ?_
  refine r_idiv C (by omega) (by omega) (by omega) dX3_costOf_2 ?_
  refine r_ireturn C rfl ?_ dX3_costOf_3
  exact pv_of (Int.tdiv_eq_ediv_of_nonneg hr.1) rfl
set_option maxRecDepth 100000 in
theorem c_X3_lesser (l : Launch) (G : pw_G) (σ : pw_H) {r k x y m : Int} (hr : 0 ≤ r ∧ r ≤ 1048576) (hk : 0 ≤ k ∧ k ≤ 3) (hx : 0 ≤ x ∧ x ≤ 100000) (hy : 0 ≤ y ∧ y ≤ 100000) (hm : 0 ≤ m ∧ m ≤ 100) : Ct l shX G mX3_lesser [vI r, vI k, vI x, vI y, vI m] σ (pv (sLess r k x y m) σ) := by
  refine Ct_of (ls := [some (vI r), some (vI k), some (vI x), some (vI y), some (vI m), none]) (by decide +kernel) (Nat.le_of_ble_eq_true rfl) rfl (fun X C => ?_)
  refine r_iload_n C rfl dX3_lesser_0 ?_
  refine r_bipush C (by decide +kernel) dX3_lesser_1 ?_
  refine r_icmp_gt (tgt := 12) C (by decide) (by omega) (by omega) dX3_lesser_3 (fun c3 => ?_) (fun c3 => ?_)
  · refine r_iload_n C rfl dX3_lesser_12 ?_
    refine r_ireturn C rfl ?_ dX3_lesser_13
    refine pv_of ?_ rfl
    unfold sLess; split <;> (try split) <;> omega
  · refine r_iload_n C rfl dX3_lesser_6 ?_
    refine r_bipush C (by decide +kernel) dX3_lesser_7 ?_
    refine r_icmp_le (tgt := 14) C (by decide) (by omega) (by omega) dX3_lesser_9 (fun c9 => ?_) (fun c9 => ?_)
    · refine r_iconst C dX3_lesser_14 ?_
      refine r_iload_n C rfl dX3_lesser_15 ?_
      refine r_iload_n C rfl dX3_lesser_16 ?_
      refine r_iadd C dX3_lesser_17 ?_
      refine r_iload C rfl dX3_lesser_18 ?_
      refine r_iadd C dX3_lesser_20 ?_
      refine r_imul C dX3_lesser_21 ?_
      refine r_iload_n C rfl dX3_lesser_22 ?_
      refine r_iadd C dX3_lesser_23 ?_
      refine r_istore (ls' := [_, _, _, _, _, _]) C (by decide) rfl rfl dX3_lesser_24 ?_
      refine r_iload C rfl dX3_lesser_26 ?_
      refine r_iload_n C rfl dX3_lesser_28 ?_
      refine r_icmp_ge (tgt := 37) C (by decide) (by omega) (by omega) dX3_lesser_29 (fun c29 => ?_) (fun c29 => ?_)
      · refine r_iload_n C rfl dX3_lesser_37 ?_
        refine r_ireturn C rfl ?_ dX3_lesser_38
        refine pv_of ?_ rfl
        unfold sLess; split <;> (try split) <;> omega
      · refine r_iload C rfl dX3_lesser_32 ?_
        refine r_goto (tgt := 38) C (by decide) dX3_lesser_34 ?_
        refine r_ireturn C rfl ?_ dX3_lesser_38
        refine pv_of ?_ rfl
        unfold sLess; split <;> (try split) <;> omega
    · refine r_iload_n C rfl dX3_lesser_12 ?_
      refine r_ireturn C rfl ?_ dX3_lesser_13
      refine pv_of ?_ rfl
      unfold sLess; split <;> (try split) <;> omega
set_option maxRecDepth 100000 in
theorem c_X3_rank (l : Launch) (G : pw_G) (σ : pw_H) {d w v : Int} (hd : -10800 ≤ d ∧ d ≤ 10800) (hw : -5400 ≤ w ∧ w ≤ 5400) (hv : -5400 ≤ v ∧ v ≤ 5400) : Ct l shX G mX3_rank [vI d, vI w, vI v] σ (pv (sRank d w v) σ) := by
  have a1 := n_absb hd.1 hd.2
  have a2 := n_absb (x := w - v) (b := 10800) (by omega) (by omega)
  have a3 := n_absb (x := w + v) (b := 10800) (by omega) (by omega)
  have a4 := n_absb (x := zabs d - 1800) (b := 10800) (by omega) (by omega)
  have a5 := n_absb (x := zabs d - 600) (b := 10800) (by omega) (by omega)
  have a6 := n_absb (x := zabs (w - v) - 600) (b := 10800) (by omega) (by omega)
  have b1 := n_sLess (least := 1048576) (kind := 0) (more := 0) (by omega) a1.1 a2.1 (by omega) (by omega)
  have b2 := n_sLess (kind := 1) (more := 40) b1 a1.1 a3.1 (by omega) (by omega)
  have b3 := n_sLess (kind := 2) (more := 50) b2 a4.1 a2.1 (by omega) (by omega)
  have b4 := n_sLess (kind := 3) (more := 45) b3 a5.1 a2.1 (by omega) (by omega)
  refine Ct_of (ls := [some (vI d), some (vI w), some (vI v), none, none, none, none]) (by decide +kernel) (Nat.le_of_ble_eq_true rfl) rfl (fun X C => ?_)
  refine r_iload_n C rfl dX3_rank_0 ?_
  refine r_mabs C (by omega) ln_X3_7 st_abs in_Math co_abs (Nat.le_of_ble_eq_true rfl) (Nat.le_of_ble_eq_true rfl) dX3_rank_1 ?_
  refine r_istore_n (ls' := [_, _, _, _, _, _, _]) C (by decide) rfl rfl dX3_rank_4 ?_
  refine r_iload_n C rfl dX3_rank_5 ?_
  refine r_iload_n C rfl dX3_rank_6 ?_
  refine r_isub C dX3_rank_7 ?_
  refine r_mabs C (by omega) ln_X3_7 st_abs in_Math co_abs (Nat.le_of_ble_eq_true rfl) (Nat.le_of_ble_eq_true rfl) dX3_rank_8 ?_
  refine r_istore (ls' := [_, _, _, _, _, _, _]) C (by decide) rfl rfl dX3_rank_11 ?_
  refine r_iload_n C rfl dX3_rank_13 ?_
  refine r_iload_n C rfl dX3_rank_14 ?_
  refine r_iadd C dX3_rank_15 ?_
  refine r_mabs C (by omega) ln_X3_7 st_abs in_Math co_abs (Nat.le_of_ble_eq_true rfl) (Nat.le_of_ble_eq_true rfl) dX3_rank_16 ?_
  refine r_istore (ls' := [_, _, _, _, _, _, _]) C (by decide) rfl rfl dX3_rank_19 ?_
  refine r_ldc C (z := 1048576) cn_X3_15 (by decide +kernel) dX3_rank_21 ?_
  refine r_iconst C dX3_rank_23 ?_
  refine r_iload_n C rfl dX3_rank_24 ?_
  refine r_iload C rfl dX3_rank_25 ?_
  refine r_iconst C dX3_rank_27 ?_
  refine r_callS (As := [_, _, _, _, _]) C (c_X3_lesser _ _ _ (by omega) (by omega) (by omega) (by omega) (by omega)) ok_X3_lesser ln_X3_16 rfl rfl (Nat.le_of_ble_eq_true rfl) (Nat.le_of_ble_eq_true rfl) (Nat.le_of_ble_eq_true rfl) dX3_rank_28 (fun v28 τ28 hq28 => ?_)
  obtain ⟨rfl, rfl⟩ := hq28
  refine r_istore (ls' := [_, _, _, _, _, _, _]) C (by decide) rfl rfl dX3_rank_31 ?_
  refine r_iload C rfl dX3_rank_33 ?_
  refine r_iconst C dX3_rank_35 ?_
  refine r_iload_n C rfl dX3_rank_36 ?_
  refine r_iload C rfl dX3_rank_37 ?_
  refine r_bipush C (by decide +kernel) dX3_rank_39 ?_
  refine r_callS (As := [_, _, _, _, _]) C (c_X3_lesser _ _ _ (by omega) (by omega) (by omega) (by omega) (by omega)) ok_X3_lesser ln_X3_16 rfl rfl (Nat.le_of_ble_eq_true rfl) (Nat.le_of_ble_eq_true rfl) (Nat.le_of_ble_eq_true rfl) dX3_rank_41 (fun v41 τ41 hq41 => ?_)
  obtain ⟨rfl, rfl⟩ := hq41
  refine r_istore (ls' := [_, _, _, _, _, _, _]) C (by decide) rfl rfl dX3_rank_44 ?_
  refine r_iload C rfl dX3_rank_46 ?_
  refine r_iconst C dX3_rank_48 ?_
  refine r_iload_n C rfl dX3_rank_49 ?_
  refine r_sipush C (by decide +kernel) dX3_rank_50 ?_
  refine r_isub C dX3_rank_53 ?_
  refine r_mabs C (by omega) ln_X3_7 st_abs in_Math co_abs (Nat.le_of_ble_eq_true rfl) (Nat.le_of_ble_eq_true rfl) dX3_rank_54 ?_
  refine r_iload C rfl dX3_rank_57 ?_
  refine r_bipush C (by decide +kernel) dX3_rank_59 ?_
  refine r_callS (As := [_, _, _, _, _]) C (c_X3_lesser _ _ _ (by omega) (by omega) (by omega) (by omega) (by omega)) ok_X3_lesser ln_X3_16 rfl rfl (Nat.le_of_ble_eq_true rfl) (Nat.le_of_ble_eq_true rfl) (Nat.le_of_ble_eq_true rfl) dX3_rank_61 (fun v61 τ61 hq61 => ?_)
  obtain ⟨rfl, rfl⟩ := hq61
  refine r_istore (ls' := [_, _, _, _, _, _, _]) C (by decide) rfl rfl dX3_rank_64 ?_
  refine r_iload C rfl dX3_rank_66 ?_
  refine r_iconst C dX3_rank_68 ?_
  refine r_iload_n C rfl dX3_rank_69 ?_
  refine r_sipush C (by decide +kernel) dX3_rank_70 ?_
  refine r_isub C dX3_rank_73 ?_
  refine r_mabs C (by omega) ln_X3_7 st_abs in_Math co_abs (Nat.le_of_ble_eq_true rfl) (Nat.le_of_ble_eq_true rfl) dX3_rank_74 ?_
  refine r_iload C rfl dX3_rank_77 ?_
  refine r_bipush C (by decide +kernel) dX3_rank_79 ?_
  refine r_callS (As := [_, _, _, _, _]) C (c_X3_lesser _ _ _ (by omega) (by omega) (by omega) (by omega) (by omega)) ok_X3_lesser ln_X3_16 rfl rfl (Nat.le_of_ble_eq_true rfl) (Nat.le_of_ble_eq_true rfl) (Nat.le_of_ble_eq_true rfl) dX3_rank_81 (fun v81 τ81 hq81 => ?_)
  obtain ⟨rfl, rfl⟩ := hq81
  refine r_istore (ls' := [_, _, _, _, _, _, _]) C (by decide) rfl rfl dX3_rank_84 ?_
  refine r_iload C rfl dX3_rank_86 ?_
  refine r_iconst C dX3_rank_88 ?_
  refine r_iload_n C rfl dX3_rank_89 ?_
  refine r_iload C rfl dX3_rank_90 ?_
  refine r_sipush C (by decide +kernel) dX3_rank_92 ?_
  refine r_isub C dX3_rank_95 ?_
  refine r_mabs C (by omega) ln_X3_7 st_abs in_Math co_abs (Nat.le_of_ble_eq_true rfl) (Nat.le_of_ble_eq_true rfl) dX3_rank_96 ?_
  refine r_bipush C (by decide +kernel) dX3_rank_99 ?_
  refine r_callS (As := [_, _, _, _, _]) C (c_X3_lesser _ _ _ (by omega) (by omega) (by omega) (by omega) (by omega)) ok_X3_lesser ln_X3_16 rfl rfl (Nat.le_of_ble_eq_true rfl) (Nat.le_of_ble_eq_true rfl) (Nat.le_of_ble_eq_true rfl) dX3_rank_101 (fun v101 τ101 hq101 => ?_)
  obtain ⟨rfl, rfl⟩ := hq101
  refine r_ireturn C rfl ?_ dX3_rank_104
  exact ⟨rfl, rfl⟩
end
section
/-- a natural number's Int, one more -/
theorem PW_ls {X : PXT} {sh : pw_S} {G : pw_G} {pc : Nat} {ls ls' : List (Option Value)} {st : List Value} {σ : pw_H} (h : PW X sh G pc ls' st σ) (e : ls = ls') : PW X sh G pc ls st σ := e ▸ h
set_option maxRecDepth 100000 in
theorem c_X4_bright (l : Launch) (G : pw_G) (σ : pw_H) (hI : Inv (vX σ)) : Ct l shX G mX4_bright [.ref (G.2.1 1)] σ (pv (sSum (fun s => zB (decide (vX σ 4 s ≤ vX σ 0 1))) (σ 1 4).toNat) σ) := by
  have h0 : 0 ≤ σ 1 4 ∧ σ 1 4 ≤ 8 := hI.1
  refine Ct_of (ls := [some (.ref (G.2.1 1)), none, none]) (by decide +kernel) (Nat.le_of_ble_eq_true rfl) rfl (fun X C => ?_)
  have bd : ∀ i : Nat, 0 ≤ sSum (fun s => zB (decide (vX σ 4 s ≤ vX σ 0 1))) i ∧ sSum (fun s => zB (decide (vX σ 4 s ≤ vX σ 0 1))) i ≤ i := by
    intro i
    induction i with
    | zero => simp [sSum]
    | succ i ih =>
      simp only [sSum]
      have : ∀ b, 0 ≤ zB b ∧ zB b ≤ 1 := by intro b; cases b <;> decide
      have := this (decide (vX σ 4 (i : Int) ≤ vX σ 0 1))
      omega
  have loop : ∀ (n i : Nat), i + n = (σ 1 4).toNat → PW X shX G 4 [some (.ref (G.2.1 1)), some (vI (sSum (fun s => zB (decide (vX σ 4 s ≤ vX σ 0 1))) i)), some (vI i)] [] σ := by
    intro n
    induction n with
    | zero =>
      intro i hi
      refine r_iload_n C rfl dX4_bright_4 ?_
      refine r_aload_n C rfl dX4_bright_5 ?_
      refine r_getI (jz := 4) C 3 4 rfl rfl (by decide) rfl uw_X4 fl_X4_24 rfl dX4_bright_6 ?_
      refine r_icmp_ge (tgt := 29) C (by decide) (by omega) (by omega) dX4_bright_9 (fun c9 => ?_) (fun c9 => ?_)
      · refine r_iload_n C rfl dX4_bright_29 ?_
        refine r_ireturn C rfl ?_ dX4_bright_30
        refine pv_of ?_ rfl
        rw [show i = (σ 1 4).toNat by omega]
      · omega
    | succ n ih =>
      intro i hi
      refine r_iload_n C rfl dX4_bright_4 ?_
      refine r_aload_n C rfl dX4_bright_5 ?_
      refine r_getI (jz := 4) C 3 4 rfl rfl (by decide) rfl uw_X4 fl_X4_24 rfl dX4_bright_6 ?_
      refine r_icmp_ge (tgt := 29) C (by decide) (by omega) (by omega) dX4_bright_9 (fun c9 => ?_) (fun c9 => ?_)
      · omega
      · refine r_aload_n C rfl dX4_bright_12 ?_
        refine r_iload_n C rfl dX4_bright_13 ?_
        refine r_callV (As := [_]) C (c_X4_counts _ _ _ hI (by omega)) ok_X4_counts ln_X4_40 rfl rfl rfl rfl (Nat.le_of_ble_eq_true rfl) (Nat.le_of_ble_eq_true rfl) (Nat.le_of_ble_eq_true rfl) dX4_bright_14 (fun v14 τ14 hq14 => ?_)
        obtain ⟨rfl, rfl⟩ := hq14
        refine r_ifB_eq (tgt := 23) C (by decide) dX4_bright_17 (fun c17 => ?_) (fun c17 => ?_)
        · refine r_iinc (ls' := [_, _, _]) C rfl (by decide) rfl rfl dX4_bright_23 ?_
          refine r_goto (tgt := 4) C (by decide) dX4_bright_26 ?_
          refine PW_ls (ih (i + 1) (by omega)) ?_
          simp [sSum, *, zB]
        · refine r_iinc (ls' := [_, _, _]) C rfl (by decide) rfl rfl dX4_bright_20 ?_
          refine r_iinc (ls' := [_, _, _]) C rfl (by decide) rfl rfl dX4_bright_23 ?_
          refine r_goto (tgt := 4) C (by decide) dX4_bright_26 ?_
          refine PW_ls (ih (i + 1) (by omega)) ?_
          simp [sSum, *, zB]
  refine r_iconst C dX4_bright_0 ?_
  refine r_istore_n (ls' := [_, _, _]) C (by decide) rfl rfl dX4_bright_1 ?_
  refine r_iconst C dX4_bright_2 ?_
  refine r_istore_n (ls' := [_, _, _]) C (by decide) rfl rfl dX4_bright_3 ?_
  exact loop (σ 1 4).toNat 0 (by omega)
set_option maxRecDepth 100000 in
theorem c_X2_allLines (l : Launch) (G : pw_G) (σ : pw_H) (hI : Inv (vX σ)) : Ct l shX G mX2_allLines [.ref (G.2.1 2)] σ (pv (sSum (vX σ 5) (σ 2 1).toNat) σ) := by
  have h0 : 0 ≤ σ 2 1 ∧ σ 2 1 ≤ 6 := hI.2.2.1
  refine Ct_of (ls := [some (.ref (G.2.1 2)), none, none]) (by decide +kernel) (Nat.le_of_ble_eq_true rfl) rfl (fun X C => ?_)
  have loop : ∀ (n i : Nat), i + n = (σ 2 1).toNat → PW X shX G 4 [some (.ref (G.2.1 2)), some (vI (sSum (vX σ 5) i)), some (vI i)] [] σ := by
    intro n
    induction n with
    | zero =>
      intro i hi
      refine r_iload_n C rfl dX2_allLines_4 ?_
      refine r_aload_n C rfl dX2_allLines_5 ?_
      refine r_getI (jz := 1) C 2 1 rfl rfl (by decide) rfl uw_X2 fl_X2_15 rfl dX2_allLines_6 ?_
      refine r_icmp_ge (tgt := 27) C (by decide) (by omega) (by omega) dX2_allLines_9 (fun c9 => ?_) (fun c9 => ?_)
      · refine r_iload_n C rfl dX2_allLines_27 ?_
        refine r_ireturn C rfl ?_ dX2_allLines_28
        refine pv_of ?_ rfl
        rw [show i = (σ 2 1).toNat by omega]
      · omega
    | succ n ih =>
      intro i hi
      refine r_iload_n C rfl dX2_allLines_4 ?_
      refine r_aload_n C rfl dX2_allLines_5 ?_
      refine r_getI (jz := 1) C 2 1 rfl rfl (by decide) rfl uw_X2 fl_X2_15 rfl dX2_allLines_6 ?_
      refine r_icmp_ge (tgt := 27) C (by decide) (by omega) (by omega) dX2_allLines_9 (fun c9 => ?_) (fun c9 => ?_)
      · omega
      · refine r_iload_n C rfl dX2_allLines_12 ?_
        refine r_aload_n C rfl dX2_allLines_13 ?_
        refine r_getR C 2 0 rfl rfl (by decide) rfl uw_X2 fl_X2_9 dX2_allLines_14 ?_
        refine r_iload_n C rfl dX2_allLines_17 ?_
        refine r_iaload C rfl (by decide) (by omega) dX2_allLines_18 ?_
        refine r_iadd C dX2_allLines_19 ?_
        refine r_istore_n (ls' := [_, _, _]) C (by decide) rfl rfl dX2_allLines_20 ?_
        refine r_iinc (ls' := [_, _, _]) C rfl (by decide) rfl rfl dX2_allLines_21 ?_
        refine r_goto (tgt := 4) C (by decide) dX2_allLines_24 ?_
        exact ih (i + 1) (by omega)
  refine r_iconst C dX2_allLines_0 ?_
  refine r_istore_n (ls' := [_, _, _]) C (by decide) rfl rfl dX2_allLines_1 ?_
  refine r_iconst C dX2_allLines_2 ?_
  refine r_istore_n (ls' := [_, _, _]) C (by decide) rfl rfl dX2_allLines_3 ?_
  exact loop (σ 2 1).toNat 0 (by omega)
set_option maxRecDepth 100000 in
theorem c_X1_turnSky (l : Launch) (G : pw_G) (σ : pw_H) {y h : Int} (hI : Inv (vX σ)) (hy : -3000 ≤ y ∧ y ≤ 3000) : Ct l shX G mX1_turnSky [.ref (G.2.1 3), vI y, vI h] σ (fun r τ => r = none ∧ Fr [15] σ τ ∧ ∀ s : Int, 0 ≤ s → s < σ 1 4 → τ 15 s = sSky (vX σ) s y + h) := by
  have h0 : 0 ≤ σ 1 4 ∧ σ 1 4 ≤ 8 := hI.1
  refine Ct_of (ls := [some (.ref (G.2.1 3)), some (vI y), some (vI h), none]) (by decide +kernel) (Nat.le_of_ble_eq_true rfl) rfl (fun X C => ?_)
  have loop : ∀ (n i : Nat) (τ : pw_H), i + n = (σ 1 4).toNat → Fr [15] σ τ → (∀ s : Int, 0 ≤ s → s < i → τ 15 s = sSky (vX σ) s y + h) → PW X shX G 2 [some (.ref (G.2.1 3)), some (vI y), some (vI h), some (vI i)] [] τ := by
    intro n
    induction n with
    | zero =>
      intro i τ hi hF hs
      have e1 : τ 1 4 = σ 1 4 := congrFun (hF 1 (by decide)) 4
      refine r_iload_n C rfl dX1_turnSky_2 ?_
      refine r_aload_n C rfl dX1_turnSky_3 ?_
      refine r_getR C 1 3 rfl rfl (by decide) rfl uw_X1 fl_X1_38 dX1_turnSky_4 ?_
      refine r_getI (jz := 4) C 3 4 rfl rfl (by decide) rfl uw_X4 fl_X1_82 rfl dX1_turnSky_7 ?_
      refine r_icmp_ge (tgt := 36) C (by decide) (by omega) (by omega) dX1_turnSky_10 (fun c10 => ?_) (fun c10 => ?_)
      · refine r_return C rfl ?_ dX1_turnSky_36
        exact ⟨rfl, hF, fun s s1 s2 => hs s s1 (by omega)⟩
      · omega
    | succ n ih =>
      intro i τ hi hF hs
      have e1 : τ 1 4 = σ 1 4 := congrFun (hF 1 (by decide)) 4
      have e2 : vX τ = vX σ := Fr_vX hF (by decide)
      refine r_iload_n C rfl dX1_turnSky_2 ?_
      refine r_aload_n C rfl dX1_turnSky_3 ?_
      refine r_getR C 1 3 rfl rfl (by decide) rfl uw_X1 fl_X1_38 dX1_turnSky_4 ?_
      refine r_getI (jz := 4) C 3 4 rfl rfl (by decide) rfl uw_X4 fl_X1_82 rfl dX1_turnSky_7 ?_
      refine r_icmp_ge (tgt := 36) C (by decide) (by omega) (by omega) dX1_turnSky_10 (fun c10 => ?_) (fun c10 => ?_)
      · omega
      · refine r_aload_n C rfl dX1_turnSky_13 ?_
        refine r_getR C 1 5 rfl rfl (by decide) rfl uw_X1 fl_X1_22 dX1_turnSky_14 ?_
        refine r_iload_n C rfl dX1_turnSky_17 ?_
        refine r_aload_n C rfl dX1_turnSky_18 ?_
        refine r_getR C 1 3 rfl rfl (by decide) rfl uw_X1 fl_X1_38 dX1_turnSky_19 ?_
        refine r_iload_n C rfl dX1_turnSky_22 ?_
        refine r_iload_n C rfl dX1_turnSky_23 ?_
        refine r_callV (As := [_, _]) C (c_X4_longIn _ _ _ (e2 ▸ hI) (by omega) (by omega)) ok_X4_longIn ln_X1_87 rfl rfl rfl rfl (Nat.le_of_ble_eq_true rfl) (Nat.le_of_ble_eq_true rfl) (Nat.le_of_ble_eq_true rfl) dX1_turnSky_24 (fun v24 τ24 hq24 => ?_)
        obtain ⟨rfl, rfl⟩ := hq24
        refine r_iload_n C rfl dX1_turnSky_27 ?_
        refine r_iadd C dX1_turnSky_28 ?_
        refine r_iastore C rfl (by decide) (by omega) dX1_turnSky_29 ?_
        refine r_iinc (ls' := [_, _, _, _]) C rfl (by decide) rfl rfl dX1_turnSky_30 ?_
        refine r_goto (tgt := 2) C (by decide) dX1_turnSky_33 ?_
        refine ih (i + 1) _ (by omega) (hF.tr (Fr.u (by decide)) (fun _ q => q) (fun _ q => q)) (fun s s1 s2 => ?_)
        by_cases q : s = i
        · rw [q, pw_u_s, e2]
        · rw [pw_u_j q]; exact hs s s1 (by omega)
  refine r_iconst C dX1_turnSky_0 ?_
  refine r_istore_n (ls' := [_, _, _, _]) C (by decide) rfl rfl dX1_turnSky_1 ?_
  exact loop (σ 1 4).toNat 0 σ (by omega) Fr.rf (fun s s1 s2 => by omega)
set_option maxRecDepth 100000 in
theorem c_X1_turnedRank (l : Launch) (G : pw_G) (σ : pw_H) {t i s : Int} (hI : Inv (vX σ)) (ht : 0 ≤ t ∧ t < 6) (hi : 0 ≤ i ∧ i < 8) (hs : 0 ≤ s ∧ s < 8) (hb : -1000 ≤ σ 15 s ∧ σ 15 s ≤ 50000) : Ct l shX G mX1_turnedRank [.ref (G.2.1 3), vI t, vI i, vI s] σ (pv (sRank (sWay (σ 15 s) (vX σ 6 (t * 8 + i))) (vX σ 7 (t * 8 + i)) (vX σ 2 s)) σ) := by
  have b1 : 0 ≤ σ 11 (t * 8 + i) ∧ σ 11 (t * 8 + i) ≤ 21599 := hI.2.2.2.2.2.2.2.2.2.1 _
  have b2 : -5400 ≤ σ 12 (t * 8 + i) ∧ σ 12 (t * 8 + i) ≤ 5400 := hI.2.2.2.2.2.2.2.2.2.2 _
  have b3 : -5400 ≤ σ 7 s ∧ σ 7 s ≤ 5400 := hI.2.2.2.2.1 _
  have b4 := n_way (σ 15 s) (σ 11 (t * 8 + i))
  refine Ct_of (ls := [some (.ref (G.2.1 3)), some (vI t), some (vI i), some (vI s), none]) (by decide +kernel) (Nat.le_of_ble_eq_true rfl) rfl (fun X C => ?_)
  refine r_aload_n C rfl dX1_turnedRank_0 ?_
  refine r_getR C 1 5 rfl rfl (by decide) rfl uw_X1 fl_X1_22 dX1_turnedRank_1 ?_
  refine r_iload_n C rfl dX1_turnedRank_4 ?_
  refine r_iaload C rfl (by decide) (by omega) dX1_turnedRank_5 ?_
  refine r_aload_n C rfl dX1_turnedRank_6 ?_
  refine r_getR C 1 4 rfl rfl (by decide) rfl uw_X1 fl_X1_42 dX1_turnedRank_7 ?_
  refine r_iload_n C rfl dX1_turnedRank_10 ?_
  refine r_iload_n C rfl dX1_turnedRank_11 ?_
  refine r_callV (As := [_, _]) C (c_X2_longOf _ _ _ (by omega) (by omega)) ok_X2_longOf ln_X1_90 rfl rfl rfl rfl (Nat.le_of_ble_eq_true rfl) (Nat.le_of_ble_eq_true rfl) (Nat.le_of_ble_eq_true rfl) dX1_turnedRank_12 (fun v12 τ12 hq12 => ?_)
  obtain ⟨rfl, rfl⟩ := hq12
  refine r_callN (As := [_, _]) C (c_X5_leads _ _ _ (by omega) (by omega)) ok_X5_leads rfl rfl rfl rfl (Nat.le_of_ble_eq_true rfl) (Nat.le_of_ble_eq_true rfl) (Nat.le_of_ble_eq_true rfl) dX1_turnedRank_15 (fun v15 τ15 hq15 => ?_)
  obtain ⟨rfl, rfl⟩ := hq15
  refine r_istore (ls' := [_, _, _, _, _]) C (by decide) rfl rfl dX1_turnedRank_18 ?_
  refine r_iload C rfl dX1_turnedRank_20 ?_
  refine r_aload_n C rfl dX1_turnedRank_22 ?_
  refine r_getR C 1 4 rfl rfl (by decide) rfl uw_X1 fl_X1_42 dX1_turnedRank_23 ?_
  refine r_iload_n C rfl dX1_turnedRank_26 ?_
  refine r_iload_n C rfl dX1_turnedRank_27 ?_
  refine r_callV (As := [_, _]) C (c_X2_wideOf _ _ _ (by omega) (by omega)) ok_X2_wideOf ln_X1_96 rfl rfl rfl rfl (Nat.le_of_ble_eq_true rfl) (Nat.le_of_ble_eq_true rfl) (Nat.le_of_ble_eq_true rfl) dX1_turnedRank_28 (fun v28 τ28 hq28 => ?_)
  obtain ⟨rfl, rfl⟩ := hq28
  refine r_aload_n C rfl dX1_turnedRank_31 ?_
  refine r_getR C 1 3 rfl rfl (by decide) rfl uw_X1 fl_X1_38 dX1_turnedRank_32 ?_
  refine r_getR C 3 1 rfl rfl (by decide) rfl uw_X4 fl_X1_99 dX1_turnedRank_35 ?_
  refine r_iload_n C rfl dX1_turnedRank_38 ?_
  refine r_iaload C rfl (by decide) (by omega) dX1_turnedRank_39 ?_
  refine r_callS (As := [_, _, _]) C (c_X3_rank _ _ _ (by omega) (by omega) (by omega)) ok_X3_rank ln_X1_102 rfl rfl (Nat.le_of_ble_eq_true rfl) (Nat.le_of_ble_eq_true rfl) (Nat.le_of_ble_eq_true rfl) dX1_turnedRank_40 (fun v40 τ40 hq40 => ?_)
  obtain ⟨rfl, rfl⟩ := hq40
  refine r_ireturn C rfl ?_ dX1_turnedRank_43
  exact ⟨rfl, rfl⟩
set_option maxRecDepth 100000 in
theorem c_X1_rankOf (l : Launch) (G : pw_G) (σ : pw_H) {t i s y h : Int} (hI : Inv (vX σ)) (ht : 0 ≤ t ∧ t < 6) (hi : 0 ≤ i ∧ i < 8) (hs : 0 ≤ s ∧ s < σ 1 4) (hy : -3000 ≤ y ∧ y ≤ 3000) (hh : -600 ≤ h ∧ h ≤ 600) : Ct l shX G mX1_rankOf [.ref (G.2.1 3), vI t, vI i, vI s, vI y, vI h] σ (fun r τ => r = some (vI (sRk (vX σ) t i s y h)) ∧ Fr [15] σ τ) := by
  have h0 : 0 ≤ σ 1 4 ∧ σ 1 4 ≤ 8 := hI.1
  have h1 := n_sky (vX σ) s y
  refine Ct_of (ls := [some (.ref (G.2.1 3)), some (vI t), some (vI i), some (vI s), some (vI y), some (vI h)]) (by decide +kernel) (Nat.le_of_ble_eq_true rfl) rfl (fun X C => ?_)
  refine r_aload_n C rfl dX1_rankOf_0 ?_
  refine r_iload C rfl dX1_rankOf_1 ?_
  refine r_iload C rfl dX1_rankOf_3 ?_
  refine r_callV (As := [_, _]) C (c_X1_turnSky _ _ _ hI (by omega)) ok_X1_turnSky ln_X1_46 rfl rfl rfl rfl (Nat.le_of_ble_eq_true rfl) (Nat.le_of_ble_eq_true rfl) (Nat.le_of_ble_eq_true rfl) dX1_rankOf_5 (fun v5 τ5 hq5 => ?_)
  obtain ⟨rfl, hF, hS⟩ := hq5
  have e2 : vX τ5 = vX σ := Fr_vX hF (by decide)
  have e3 := hS s hs.1 hs.2
  refine r_aload_n C rfl dX1_rankOf_8 ?_
  refine r_iload_n C rfl dX1_rankOf_9 ?_
  refine r_iload_n C rfl dX1_rankOf_10 ?_
  refine r_iload_n C rfl dX1_rankOf_11 ?_
  refine r_callV (As := [_, _, _]) C (c_X1_turnedRank _ _ _ (e2 ▸ hI) (by omega) (by omega) (by omega) (by rw [e3]; omega)) ok_X1_turnedRank ln_X1_50 rfl rfl rfl rfl (Nat.le_of_ble_eq_true rfl) (Nat.le_of_ble_eq_true rfl) (Nat.le_of_ble_eq_true rfl) dX1_rankOf_12 (fun v12 τ12 hq12 => ?_)
  obtain ⟨rfl, rfl⟩ := hq12
  refine r_ireturn C rfl ?_ dX1_rankOf_15
  exact ⟨by rw [e3, e2]; rfl, hF⟩
theorem zB_01 (b : Bool) : 0 ≤ zB b ∧ zB b ≤ 1 := by cases b <;> decide
theorem sSum_01 (f : Int → Bool) (n : Nat) : 0 ≤ sSum (fun s => zB (f s)) n ∧ sSum (fun s => zB (f s)) n ≤ n := by
  induction n with
  | zero => simp [sSum]
  | succ n ih => simp only [sSum]; have := zB_01 (f (n : Int)); omega
end
section
theorem pX_of {S : sR} {v : Int} {τ a : pw_H} (h : S = (v, a)) (h2 : vX τ = a) : pX S (some (vI v)) τ := by rw [h]; exact ⟨rfl, h2⟩
theorem vX_star (σ : pw_H) (n x w m b z : Int) : vX (pw_u (pw_u (pw_u (pw_u (pw_u σ 6 n x) 7 n w) 8 n m) 9 n b) 1 4 z) = pw_u (pw_u (pw_u (pw_u (pw_u (vX σ) 1 n x) 2 n w) 3 n m) 4 n b) 0 0 z := by
  funext k j
  match k with
  | 0 => by_cases h : j = 0 <;> by_cases h2 : j = 1 <;> by_cases h3 : j = 2 <;> simp [vX, pw_u, h, h2, h3]
  | 1 => simp [vX, pw_u]
  | 2 => simp [vX, pw_u]
  | 3 => simp [vX, pw_u]
  | 4 => simp [vX, pw_u]
  | 5 => simp [vX, pw_u]
  | 6 => simp [vX, pw_u]
  | 7 => simp [vX, pw_u]
  | k + 8 => simp [vX, pw_u]
theorem vX_limit (σ : pw_H) (z : Int) : vX (pw_u σ 1 5 z) = pw_u (vX σ) 0 1 z := by
  funext k j
  match k with
  | 0 => by_cases h : j = 0 <;> by_cases h2 : j = 1 <;> by_cases h3 : j = 2 <;> simp [vX, pw_u, h, h2, h3]
  | 1 => simp [vX, pw_u]
  | 2 => simp [vX, pw_u]
  | 3 => simp [vX, pw_u]
  | 4 => simp [vX, pw_u]
  | 5 => simp [vX, pw_u]
  | 6 => simp [vX, pw_u]
  | 7 => simp [vX, pw_u]
  | k + 8 => simp [vX, pw_u]
theorem vX_list (σ : pw_H) (z : Int) : vX (pw_u σ 2 1 z) = pw_u (vX σ) 0 2 z := by
  funext k j
  match k with
  | 0 => by_cases h : j = 0 <;> by_cases h2 : j = 1 <;> by_cases h3 : j = 2 <;> simp [vX, pw_u, h, h2, h3]
  | 1 => simp [vX, pw_u]
  | 2 => simp [vX, pw_u]
  | 3 => simp [vX, pw_u]
  | 4 => simp [vX, pw_u]
  | 5 => simp [vX, pw_u]
  | 6 => simp [vX, pw_u]
  | 7 => simp [vX, pw_u]
  | k + 8 => simp [vX, pw_u]
theorem vX_line (σ : pw_H) (t i x w z : Int) : vX (pw_u (pw_u (pw_u σ 10 t z) 11 i x) 12 i w) = pw_u (pw_u (pw_u (vX σ) 5 t z) 6 i x) 7 i w := by
  funext k j
  match k with
  | 0 => by_cases h : j = 0 <;> by_cases h2 : j = 1 <;> by_cases h3 : j = 2 <;> simp [vX, pw_u, h, h2, h3]
  | 1 => simp [vX, pw_u]
  | 2 => simp [vX, pw_u]
  | 3 => simp [vX, pw_u]
  | 4 => simp [vX, pw_u]
  | 5 => simp [vX, pw_u]
  | 6 => simp [vX, pw_u]
  | 7 => simp [vX, pw_u]
  | k + 8 => simp [vX, pw_u]
theorem vX_mend (σ : pw_H) (i x w : Int) : vX (pw_u (pw_u σ 11 i x) 12 i w) = pw_u (pw_u (vX σ) 6 i x) 7 i w := by
  funext k j
  match k with
  | 0 => by_cases h : j = 0 <;> by_cases h2 : j = 1 <;> by_cases h3 : j = 2 <;> simp [vX, pw_u, h, h2, h3]
  | 1 => simp [vX, pw_u]
  | 2 => simp [vX, pw_u]
  | 3 => simp [vX, pw_u]
  | 4 => simp [vX, pw_u]
  | 5 => simp [vX, pw_u]
  | 6 => simp [vX, pw_u]
  | 7 => simp [vX, pw_u]
  | k + 8 => simp [vX, pw_u]
set_option maxRecDepth 100000 in
theorem c_X5_star (l : Launch) (G : pw_G) (σ : pw_H) {x w m b : Int} (hI : Inv (vX σ)) (q_x : InI x) (q_w : InI w) (q_m : InI m) (q_b : InI b) : Ct l shX G mX5_star [.ref (G.2.1 0), vI x, vI w, vI m, vI b] σ (pX (s_star (vX σ) x w m b)) := by
  have h0 : 0 ≤ σ 1 4 ∧ σ 1 4 ≤ 8 := hI.1
  have h5 : 0 ≤ σ 1 5 ∧ σ 1 5 ≤ 6 := hI.2.1
  have h1 : 0 ≤ σ 2 1 ∧ σ 2 1 ≤ 6 := hI.2.2.1
  refine Ct_of (ls := [some (.ref (G.2.1 0)), some (vI x), some (vI w), some (vI m), some (vI b)]) (by decide +kernel) (Nat.le_of_ble_eq_true rfl) rfl (fun X C => ?_)
  refine r_iload_n C rfl dX5_star_0 ?_
  refine r_iload_n C rfl dX5_star_1 ?_
  refine r_callS (As := [_, _]) C (c_X5_isPlace _ _ _ (by omega) (by omega)) ok_X5_isPlace ln_X5_45 rfl rfl (Nat.le_of_ble_eq_true rfl) (Nat.le_of_ble_eq_true rfl) (Nat.le_of_ble_eq_true rfl) dX5_star_2 (fun v2 τ2 hq2 => ?_)
  obtain ⟨rfl, rfl⟩ := hq2
  refine r_ifB_ne (tgt := 11) C (by decide) dX5_star_5 (fun c5 => ?_) (fun c5 => ?_)
  · refine r_iload_n C rfl dX5_star_11 ?_
    refine r_bipush C (by decide +kernel) dX5_star_12 ?_
    refine r_bipush C (by decide +kernel) dX5_star_14 ?_
    refine r_callS (As := [_, _, _]) C (c_X5_isWithin _ _ _ (by omega) (by omega) (by omega)) ok_X5_isWithin ln_X5_49 rfl rfl (Nat.le_of_ble_eq_true rfl) (Nat.le_of_ble_eq_true rfl) (Nat.le_of_ble_eq_true rfl) dX5_star_16 (fun v16 τ16 hq16 => ?_)
    obtain ⟨rfl, rfl⟩ := hq16
    refine r_ifB_ne (tgt := 25) C (by decide) dX5_star_19 (fun c19 => ?_) (fun c19 => ?_)
    · refine r_iload C rfl dX5_star_25 ?_
      refine r_iconst C dX5_star_27 ?_
      refine r_bipush C (by decide +kernel) dX5_star_28 ?_
      refine r_callS (As := [_, _, _]) C (c_X5_isWithin _ _ _ (by omega) (by omega) (by omega)) ok_X5_isWithin ln_X5_49 rfl rfl (Nat.le_of_ble_eq_true rfl) (Nat.le_of_ble_eq_true rfl) (Nat.le_of_ble_eq_true rfl) dX5_star_30 (fun v30 τ30 hq30 => ?_)
      obtain ⟨rfl, rfl⟩ := hq30
      refine r_ifB_ne (tgt := 39) C (by decide) dX5_star_33 (fun c33 => ?_) (fun c33 => ?_)
      · refine r_aload_n C rfl dX5_star_39 ?_
        refine r_getR C 4 0 rfl rfl (by decide) rfl uw_X5 fl_X5_10 dX5_star_40 ?_
        refine r_getI (jz := 4) C 3 4 rfl rfl (by decide) rfl uw_X4 fl_X5_53 rfl dX5_star_43 ?_
        refine r_bipush C (by decide +kernel) dX5_star_46 ?_
        refine r_icmp_lt (tgt := 54) C (by decide) (by omega) (by omega) dX5_star_48 (fun c48 => ?_) (fun c48 => ?_)
        · refine r_aload_n C rfl dX5_star_54 ?_
          refine r_getR C 4 0 rfl rfl (by decide) rfl uw_X5 fl_X5_10 dX5_star_55 ?_
          refine r_iload_n C rfl dX5_star_58 ?_
          refine r_iload_n C rfl dX5_star_59 ?_
          refine r_iload_n C rfl dX5_star_60 ?_
          refine r_iload C rfl dX5_star_61 ?_
          refine r_callV (As := [_, _, _, _]) C (c_X4_add _ _ _ hI (by omega)) ok_X4_add ln_X5_57 rfl rfl rfl rfl (Nat.le_of_ble_eq_true rfl) (Nat.le_of_ble_eq_true rfl) (Nat.le_of_ble_eq_true rfl) dX5_star_63 (fun v63 τ63 hq63 => ?_)
          obtain ⟨rfl, rfl⟩ := hq63
          refine r_ireturn C rfl ?_ dX5_star_66
          exact pX_of (by rw [s_star, if_neg (by simp [c5, c19, c33]), if_neg (show ¬ vX σ 0 0 = 8 from (show ¬ σ 1 4 = 8 by omega))]; rfl) (vX_star σ _ _ _ _ _ _)
        · refine r_bipush C (by decide +kernel) dX5_star_51 ?_
          refine r_ireturn C rfl ?_ dX5_star_53
          exact pX_of (by rw [s_star, if_neg (by simp [c5, c19, c33]), if_pos (show vX σ 0 0 = 8 from (show σ 1 4 = 8 by omega))]) rfl
      · refine r_bipush C (by decide +kernel) dX5_star_36 ?_
        refine r_ireturn C rfl ?_ dX5_star_38
        exact pX_of (by simp [s_star, c5, c19, c33]) rfl
    · refine r_bipush C (by decide +kernel) dX5_star_22 ?_
      refine r_ireturn C rfl ?_ dX5_star_24
      exact pX_of (by simp [s_star, c5, c19]) rfl
  · refine r_bipush C (by decide +kernel) dX5_star_8 ?_
    refine r_ireturn C rfl ?_ dX5_star_10
    exact pX_of (by simp [s_star, c5]) rfl
set_option maxRecDepth 100000 in
theorem c_X5_sky (l : Launch) (G : pw_G) (σ : pw_H) {s y : Int} (hI : Inv (vX σ)) (q_s : InI s) (q_y : InI y) : Ct l shX G mX5_sky [.ref (G.2.1 0), vI s, vI y] σ (pX (s_sky (vX σ) s y)) := by
  have h0 : 0 ≤ σ 1 4 ∧ σ 1 4 ≤ 8 := hI.1
  have h5 : 0 ≤ σ 1 5 ∧ σ 1 5 ≤ 6 := hI.2.1
  have h1 : 0 ≤ σ 2 1 ∧ σ 2 1 ≤ 6 := hI.2.2.1
  refine Ct_of (ls := [some (.ref (G.2.1 0)), some (vI s), some (vI y)]) (by decide +kernel) (Nat.le_of_ble_eq_true rfl) rfl (fun X C => ?_)
  refine r_aload_n C rfl dX5_sky_0 ?_
  refine r_getR C 4 0 rfl rfl (by decide) rfl uw_X5 fl_X5_10 dX5_sky_1 ?_
  refine r_iload_n C rfl dX5_sky_4 ?_
  refine r_callV (As := [_]) C (c_X4_has _ _ _ (by omega) hI) ok_X4_has ln_X5_61 rfl rfl rfl rfl (Nat.le_of_ble_eq_true rfl) (Nat.le_of_ble_eq_true rfl) (Nat.le_of_ble_eq_true rfl) dX5_sky_5 (fun v5 τ5 hq5 => ?_)
  obtain ⟨rfl, rfl⟩ := hq5
  refine r_ifB_ne (tgt := 13) C (by decide) dX5_sky_8 (fun c8 => ?_) (fun c8 => ?_)
  · have h8 : 0 ≤ s ∧ s ≤ σ 1 4 - 1 := bStar_t c8
    refine r_iload_n C rfl dX5_sky_13 ?_
    refine r_callS (As := [_]) C (c_X5_isYear _ _ _ (by omega)) ok_X5_isYear ln_X5_65 rfl rfl (Nat.le_of_ble_eq_true rfl) (Nat.le_of_ble_eq_true rfl) (Nat.le_of_ble_eq_true rfl) dX5_sky_14 (fun v14 τ14 hq14 => ?_)
    obtain ⟨rfl, rfl⟩ := hq14
    refine r_ifB_ne (tgt := 23) C (by decide) dX5_sky_17 (fun c17 => ?_) (fun c17 => ?_)
    · have h9 := bIn_iff.mp c17
      refine r_aload_n C rfl dX5_sky_23 ?_
      refine r_getR C 4 0 rfl rfl (by decide) rfl uw_X5 fl_X5_10 dX5_sky_24 ?_
      refine r_iload_n C rfl dX5_sky_27 ?_
      refine r_iload_n C rfl dX5_sky_28 ?_
      refine r_callV (As := [_, _]) C (c_X4_longIn _ _ _ hI (by omega) (by omega)) ok_X4_longIn ln_X5_68 rfl rfl rfl rfl (Nat.le_of_ble_eq_true rfl) (Nat.le_of_ble_eq_true rfl) (Nat.le_of_ble_eq_true rfl) dX5_sky_29 (fun v29 τ29 hq29 => ?_)
      obtain ⟨rfl, rfl⟩ := hq29
      refine r_ireturn C rfl ?_ dX5_sky_32
      exact pX_of (by simp [s_sky, *]) rfl
    · refine r_bipush C (by decide +kernel) dX5_sky_20 ?_
      refine r_ireturn C rfl ?_ dX5_sky_22
      exact pX_of (by simp [s_sky, *]) rfl
  · refine r_iconst C dX5_sky_11 ?_
    refine r_ireturn C rfl ?_ dX5_sky_12
    exact pX_of (by simp [s_sky, *]) rfl
set_option maxRecDepth 100000 in
theorem c_X5_about (l : Launch) (G : pw_G) (σ : pw_H) {s w : Int} (hI : Inv (vX σ)) (q_s : InI s) (q_w : InI w) : Ct l shX G mX5_about [.ref (G.2.1 0), vI s, vI w] σ (pX (s_about (vX σ) s w)) := by
  have h0 : 0 ≤ σ 1 4 ∧ σ 1 4 ≤ 8 := hI.1
  have h5 : 0 ≤ σ 1 5 ∧ σ 1 5 ≤ 6 := hI.2.1
  have h1 : 0 ≤ σ 2 1 ∧ σ 2 1 ≤ 6 := hI.2.2.1
  refine Ct_of (ls := [some (.ref (G.2.1 0)), some (vI s), some (vI w)]) (by decide +kernel) (Nat.le_of_ble_eq_true rfl) rfl (fun X C => ?_)
  refine r_aload_n C rfl dX5_about_0 ?_
  refine r_getR C 4 0 rfl rfl (by decide) rfl uw_X5 fl_X5_10 dX5_about_1 ?_
  refine r_iload_n C rfl dX5_about_4 ?_
  refine r_callV (As := [_]) C (c_X4_has _ _ _ (by omega) hI) ok_X4_has ln_X5_61 rfl rfl rfl rfl (Nat.le_of_ble_eq_true rfl) (Nat.le_of_ble_eq_true rfl) (Nat.le_of_ble_eq_true rfl) dX5_about_5 (fun v5 τ5 hq5 => ?_)
  obtain ⟨rfl, rfl⟩ := hq5
  refine r_ifB_ne (tgt := 13) C (by decide) dX5_about_8 (fun c8 => ?_) (fun c8 => ?_)
  · have h8 : 0 ≤ s ∧ s ≤ σ 1 4 - 1 := bStar_t c8
    refine r_iload_n C rfl dX5_about_13 ?_
    by_cases w14 : w < 0 ∨ 3 < w
    · refine r_tableOut (tgt := 88) C (by omega) w14 (by decide) dX5_about_14 ?_
      refine r_bipush C (by decide +kernel) dX5_about_88 ?_
      refine r_ireturn C rfl ?_ dX5_about_90
      exact pX_of (by rw [s_about, if_neg (by simp [c8]), if_neg (by omega), if_neg (by omega), if_neg (by omega), if_neg (by omega)]) rfl
    · rcases (show w = 0 ∨ w = 1 ∨ w = 2 ∨ w = 3 by omega) with e14 | e14 | e14 | e14
      · refine r_tableIn (off := 30) (tgt := 44) C (by omega) (by omega) (by omega) (by rw [e14]; rfl) (by decide) dX5_about_14 ?_
        refine r_aload_n C rfl dX5_about_44 ?_
        refine r_getR C 4 0 rfl rfl (by decide) rfl uw_X5 fl_X5_10 dX5_about_45 ?_
        refine r_getR C 3 0 rfl rfl (by decide) rfl uw_X4 fl_X5_72 dX5_about_48 ?_
        refine r_iload_n C rfl dX5_about_51 ?_
        refine r_iaload C rfl (by decide) (by omega) dX5_about_52 ?_
        refine r_ireturn C rfl ?_ dX5_about_53
        exact pX_of (by simp [s_about, *]; rfl) rfl
      · refine r_tableIn (off := 40) (tgt := 54) C (by omega) (by omega) (by omega) (by rw [e14]; rfl) (by decide) dX5_about_14 ?_
        refine r_aload_n C rfl dX5_about_54 ?_
        refine r_getR C 4 0 rfl rfl (by decide) rfl uw_X5 fl_X5_10 dX5_about_55 ?_
        refine r_getR C 3 2 rfl rfl (by decide) rfl uw_X4 fl_X5_75 dX5_about_58 ?_
        refine r_iload_n C rfl dX5_about_61 ?_
        refine r_iaload C rfl (by decide) (by omega) dX5_about_62 ?_
        refine r_ireturn C rfl ?_ dX5_about_63
        exact pX_of (by simp [s_about, *]; rfl) rfl
      · refine r_tableIn (off := 50) (tgt := 64) C (by omega) (by omega) (by omega) (by rw [e14]; rfl) (by decide) dX5_about_14 ?_
        refine r_aload_n C rfl dX5_about_64 ?_
        refine r_getR C 4 0 rfl rfl (by decide) rfl uw_X5 fl_X5_10 dX5_about_65 ?_
        refine r_getR C 3 3 rfl rfl (by decide) rfl uw_X4 fl_X5_78 dX5_about_68 ?_
        refine r_iload_n C rfl dX5_about_71 ?_
        refine r_iaload C rfl (by decide) (by omega) dX5_about_72 ?_
        refine r_ireturn C rfl ?_ dX5_about_73
        exact pX_of (by simp [s_about, *]; rfl) rfl
      · refine r_tableIn (off := 60) (tgt := 74) C (by omega) (by omega) (by omega) (by rw [e14]; rfl) (by decide) dX5_about_14 ?_
        refine r_aload_n C rfl dX5_about_74 ?_
        refine r_getR C 4 0 rfl rfl (by decide) rfl uw_X5 fl_X5_10 dX5_about_75 ?_
        refine r_getR C 3 1 rfl rfl (by decide) rfl uw_X4 fl_X5_81 dX5_about_78 ?_
        refine r_iload_n C rfl dX5_about_81 ?_
        refine r_iaload C rfl (by decide) (by omega) dX5_about_82 ?_
        refine r_sipush C (by decide +kernel) dX5_about_83 ?_
        refine r_iadd C dX5_about_86 ?_
        refine r_ireturn C rfl ?_ dX5_about_87
        exact pX_of (by simp [s_about, *]; rfl) rfl
  · refine r_iconst C dX5_about_11 ?_
    refine r_ireturn C rfl ?_ dX5_about_12
    exact pX_of (by simp [s_about, *]) rfl
set_option maxRecDepth 100000 in
theorem c_X5_limit (l : Launch) (G : pw_G) (σ : pw_H) {n : Int} (hI : Inv (vX σ)) (q_n : InI n) : Ct l shX G mX5_limit [.ref (G.2.1 0), vI n] σ (pX (s_limit (vX σ) n)) := by
  have h0 : 0 ≤ σ 1 4 ∧ σ 1 4 ≤ 8 := hI.1
  have h5 : 0 ≤ σ 1 5 ∧ σ 1 5 ≤ 6 := hI.2.1
  have h1 : 0 ≤ σ 2 1 ∧ σ 2 1 ≤ 6 := hI.2.2.1
  refine Ct_of (ls := [some (.ref (G.2.1 0)), some (vI n), none]) (by decide +kernel) (Nat.le_of_ble_eq_true rfl) rfl (fun X C => ?_)
  refine r_iload_n C rfl dX5_limit_0 ?_
  refine r_iconst C dX5_limit_1 ?_
  refine r_bipush C (by decide +kernel) dX5_limit_2 ?_
  refine r_callS (As := [_, _, _]) C (c_X5_isWithin _ _ _ (by omega) (by omega) (by omega)) ok_X5_isWithin ln_X5_49 rfl rfl (Nat.le_of_ble_eq_true rfl) (Nat.le_of_ble_eq_true rfl) (Nat.le_of_ble_eq_true rfl) dX5_limit_4 (fun v4 τ4 hq4 => ?_)
  obtain ⟨rfl, rfl⟩ := hq4
  refine r_ifB_ne (tgt := 13) C (by decide) dX5_limit_7 (fun c7 => ?_) (fun c7 => ?_)
  · refine r_aload_n C rfl dX5_limit_13 ?_
    refine r_getR C 4 0 rfl rfl (by decide) rfl uw_X5 fl_X5_10 dX5_limit_14 ?_
    refine r_getI (jz := 5) C 3 5 rfl rfl (by decide) rfl uw_X4 fl_X5_84 rfl dX5_limit_17 ?_
    refine r_istore_n (ls' := [_, _, _]) C (by decide) rfl rfl dX5_limit_20 ?_
    refine r_aload_n C rfl dX5_limit_21 ?_
    refine r_getR C 4 0 rfl rfl (by decide) rfl uw_X5 fl_X5_10 dX5_limit_22 ?_
    refine r_iload_n C rfl dX5_limit_25 ?_
    refine r_putI (jz := 5) C 3 5 tyX4 tyX4_ok nmX4 rfl rfl (by decide) rfl uw_X4 fl_X5_84 rfl rfl rfl dX5_limit_26 ?_
    refine r_iload_n C rfl dX5_limit_29 ?_
    refine r_ireturn C rfl ?_ dX5_limit_30
    exact pX_of (by simp [s_limit, *]; rfl) (vX_limit σ _)
  · refine r_bipush C (by decide +kernel) dX5_limit_10 ?_
    refine r_ireturn C rfl ?_ dX5_limit_12
    exact pX_of (by simp [s_limit, *]) rfl
set_option maxRecDepth 100000 in
theorem c_X5_way (l : Launch) (G : pw_G) (σ : pw_H) {f t : Int} (hI : Inv (vX σ)) (q_f : InI f) (q_t : InI t) : Ct l shX G mX5_way [.ref (G.2.1 0), vI f, vI t] σ (pX (s_way (vX σ) f t)) := by
  have h0 : 0 ≤ σ 1 4 ∧ σ 1 4 ≤ 8 := hI.1
  have h5 : 0 ≤ σ 1 5 ∧ σ 1 5 ≤ 6 := hI.2.1
  have h1 : 0 ≤ σ 2 1 ∧ σ 2 1 ≤ 6 := hI.2.2.1
  refine Ct_of (ls := [some (.ref (G.2.1 0)), some (vI f), some (vI t)]) (by decide +kernel) (Nat.le_of_ble_eq_true rfl) rfl (fun X C => ?_)
  refine r_iload_n C rfl dX5_way_0 ?_
  refine r_callS (As := [_]) C (c_X5_isLong _ _ _ (by omega)) ok_X5_isLong ln_X5_87 rfl rfl (Nat.le_of_ble_eq_true rfl) (Nat.le_of_ble_eq_true rfl) (Nat.le_of_ble_eq_true rfl) dX5_way_1 (fun v1 τ1 hq1 => ?_)
  obtain ⟨rfl, rfl⟩ := hq1
  refine r_ifB_eq (tgt := 14) C (by decide) dX5_way_4 (fun c4 => ?_) (fun c4 => ?_)
  · refine r_bipush C (by decide +kernel) dX5_way_14 ?_
    refine r_ireturn C rfl ?_ dX5_way_16
    exact pX_of (by simp [s_way, *]) rfl
  · refine r_iload_n C rfl dX5_way_7 ?_
    refine r_callS (As := [_]) C (c_X5_isLong _ _ _ (by omega)) ok_X5_isLong ln_X5_87 rfl rfl (Nat.le_of_ble_eq_true rfl) (Nat.le_of_ble_eq_true rfl) (Nat.le_of_ble_eq_true rfl) dX5_way_8 (fun v8 τ8 hq8 => ?_)
    obtain ⟨rfl, rfl⟩ := hq8
    refine r_ifB_ne (tgt := 17) C (by decide) dX5_way_11 (fun c11 => ?_) (fun c11 => ?_)
    · refine r_iload_n C rfl dX5_way_17 ?_
      refine r_iload_n C rfl dX5_way_18 ?_
      refine r_callS (As := [_, _]) C (c_X5_leads _ _ _ (by have := bIn_iff.mp ‹bIn f 0 21599 = true›; omega) (by have := bIn_iff.mp ‹bIn t 0 21599 = true›; omega)) ok_X5_leads ln_X5_90 rfl rfl (Nat.le_of_ble_eq_true rfl) (Nat.le_of_ble_eq_true rfl) (Nat.le_of_ble_eq_true rfl) dX5_way_19 (fun v19 τ19 hq19 => ?_)
      obtain ⟨rfl, rfl⟩ := hq19
      refine r_sipush C (by decide +kernel) dX5_way_22 ?_
      refine r_iadd C dX5_way_25 ?_
      refine r_ireturn C rfl ?_ dX5_way_26
      exact pX_of (by simp [s_way, *]) rfl
    · refine r_bipush C (by decide +kernel) dX5_way_14 ?_
      refine r_ireturn C rfl ?_ dX5_way_16
      exact pX_of (by simp [s_way, *]) rfl
set_option maxRecDepth 100000 in
theorem c_X5_list (l : Launch) (G : pw_G) (σ : pw_H) (hI : Inv (vX σ))  : Ct l shX G mX5_list [.ref (G.2.1 0)] σ (pX (s_list (vX σ) )) := by
  have h0 : 0 ≤ σ 1 4 ∧ σ 1 4 ≤ 8 := hI.1
  have h5 : 0 ≤ σ 1 5 ∧ σ 1 5 ≤ 6 := hI.2.1
  have h1 : 0 ≤ σ 2 1 ∧ σ 2 1 ≤ 6 := hI.2.2.1
  refine Ct_of (ls := [some (.ref (G.2.1 0))]) (by decide +kernel) (Nat.le_of_ble_eq_true rfl) rfl (fun X C => ?_)
  refine r_aload_n C rfl dX5_list_0 ?_
  refine r_getR C 4 1 rfl rfl (by decide) rfl uw_X5 fl_X5_19 dX5_list_1 ?_
  refine r_getI (jz := 1) C 2 1 rfl rfl (by decide) rfl uw_X2 fl_X5_93 rfl dX5_list_4 ?_
  refine r_bipush C (by decide +kernel) dX5_list_7 ?_
  refine r_icmp_lt (tgt := 15) C (by decide) (by omega) (by omega) dX5_list_9 (fun c9 => ?_) (fun c9 => ?_)
  · refine r_aload_n C rfl dX5_list_15 ?_
    refine r_getR C 4 1 rfl rfl (by decide) rfl uw_X5 fl_X5_19 dX5_list_16 ?_
    refine r_callV (As := []) C (c_X2_open _ _ _) ok_X2_open ln_X5_94 rfl rfl rfl rfl (Nat.le_of_ble_eq_true rfl) (Nat.le_of_ble_eq_true rfl) (Nat.le_of_ble_eq_true rfl) dX5_list_19 (fun v19 τ19 hq19 => ?_)
    obtain ⟨rfl, rfl⟩ := hq19
    refine r_ireturn C rfl ?_ dX5_list_22
    exact pX_of (by rw [s_list, if_neg (show ¬ vX σ 0 2 = 6 from (show ¬ σ 2 1 = 6 by omega))]; rfl) (vX_list σ _)
  · refine r_bipush C (by decide +kernel) dX5_list_12 ?_
    refine r_ireturn C rfl ?_ dX5_list_14
    exact pX_of (by rw [s_list, if_pos (show vX σ 0 2 = 6 from (show σ 2 1 = 6 by omega))]) rfl
set_option maxRecDepth 100000 in
theorem c_X5_line (l : Launch) (G : pw_G) (σ : pw_H) {t x w : Int} (hI : Inv (vX σ)) (q_t : InI t) (q_x : InI x) (q_w : InI w) : Ct l shX G mX5_line [.ref (G.2.1 0), vI t, vI x, vI w] σ (pX (s_line (vX σ) t x w)) := by
  have h0 : 0 ≤ σ 1 4 ∧ σ 1 4 ≤ 8 := hI.1
  have h5 : 0 ≤ σ 1 5 ∧ σ 1 5 ≤ 6 := hI.2.1
  have h1 : 0 ≤ σ 2 1 ∧ σ 2 1 ≤ 6 := hI.2.2.1
  refine Ct_of (ls := [some (.ref (G.2.1 0)), some (vI t), some (vI x), some (vI w)]) (by decide +kernel) (Nat.le_of_ble_eq_true rfl) rfl (fun X C => ?_)
  refine r_aload_n C rfl dX5_line_0 ?_
  refine r_getR C 4 1 rfl rfl (by decide) rfl uw_X5 fl_X5_19 dX5_line_1 ?_
  refine r_iload_n C rfl dX5_line_4 ?_
  refine r_callV (As := [_]) C (c_X2_has _ _ _ (by omega) hI) ok_X2_has ln_X5_98 rfl rfl rfl rfl (Nat.le_of_ble_eq_true rfl) (Nat.le_of_ble_eq_true rfl) (Nat.le_of_ble_eq_true rfl) dX5_line_5 (fun v5 τ5 hq5 => ?_)
  obtain ⟨rfl, rfl⟩ := hq5
  refine r_ifB_ne (tgt := 13) C (by decide) dX5_line_8 (fun c8 => ?_) (fun c8 => ?_)
  · have h8 : 0 ≤ t ∧ t ≤ σ 2 1 - 1 := bList_t c8
    have h9 : 0 ≤ σ 10 t ∧ σ 10 t ≤ 8 := hI.2.2.2.2.2.2.2.1 t
    refine r_iload_n C rfl dX5_line_13 ?_
    refine r_iload_n C rfl dX5_line_14 ?_
    refine r_callS (As := [_, _]) C (c_X5_isPlace _ _ _ (by omega) (by omega)) ok_X5_isPlace ln_X5_45 rfl rfl (Nat.le_of_ble_eq_true rfl) (Nat.le_of_ble_eq_true rfl) (Nat.le_of_ble_eq_true rfl) dX5_line_15 (fun v15 τ15 hq15 => ?_)
    obtain ⟨rfl, rfl⟩ := hq15
    refine r_ifB_ne (tgt := 24) C (by decide) dX5_line_18 (fun c18 => ?_) (fun c18 => ?_)
    · refine r_aload_n C rfl dX5_line_24 ?_
      refine r_getR C 4 1 rfl rfl (by decide) rfl uw_X5 fl_X5_19 dX5_line_25 ?_
      refine r_getR C 2 0 rfl rfl (by decide) rfl uw_X2 fl_X5_99 dX5_line_28 ?_
      refine r_iload_n C rfl dX5_line_31 ?_
      refine r_iaload C rfl (by decide) (by omega) dX5_line_32 ?_
      refine r_bipush C (by decide +kernel) dX5_line_33 ?_
      refine r_icmp_lt (tgt := 41) C (by decide) (by omega) (by omega) dX5_line_35 (fun c35 => ?_) (fun c35 => ?_)
      · refine r_aload_n C rfl dX5_line_41 ?_
        refine r_getR C 4 1 rfl rfl (by decide) rfl uw_X5 fl_X5_19 dX5_line_42 ?_
        refine r_iload_n C rfl dX5_line_45 ?_
        refine r_iload_n C rfl dX5_line_46 ?_
        refine r_iload_n C rfl dX5_line_47 ?_
        refine r_callV (As := [_, _, _]) C (c_X2_add _ _ _ (by omega) (by omega)) ok_X2_add ln_X5_102 rfl rfl rfl rfl (Nat.le_of_ble_eq_true rfl) (Nat.le_of_ble_eq_true rfl) (Nat.le_of_ble_eq_true rfl) dX5_line_48 (fun v48 τ48 hq48 => ?_)
        obtain ⟨rfl, rfl⟩ := hq48
        refine r_ireturn C rfl ?_ dX5_line_51
        exact pX_of (by rw [s_line, if_neg (by simp [c8]), if_neg (by simp [c18]), if_neg (show ¬ vX σ 5 t = 8 from (show ¬ σ 10 t = 8 by omega))]; rfl) (vX_line σ _ _ _ _ _)
      · refine r_bipush C (by decide +kernel) dX5_line_38 ?_
        refine r_ireturn C rfl ?_ dX5_line_40
        exact pX_of (by rw [s_line, if_neg (by simp [c8]), if_neg (by simp [c18]), if_pos (show vX σ 5 t = 8 from (show σ 10 t = 8 by omega))]) rfl
    · refine r_bipush C (by decide +kernel) dX5_line_21 ?_
      refine r_ireturn C rfl ?_ dX5_line_23
      exact pX_of (by simp [s_line, *]) rfl
  · refine r_iconst C dX5_line_11 ?_
    refine r_ireturn C rfl ?_ dX5_line_12
    exact pX_of (by simp [s_line, *]) rfl
set_option maxRecDepth 100000 in
theorem c_X5_written (l : Launch) (G : pw_G) (σ : pw_H) {t i w : Int} (hI : Inv (vX σ)) (q_t : InI t) (q_i : InI i) (q_w : InI w) : Ct l shX G mX5_written [.ref (G.2.1 0), vI t, vI i, vI w] σ (pX (s_written (vX σ) t i w)) := by
  have h0 : 0 ≤ σ 1 4 ∧ σ 1 4 ≤ 8 := hI.1
  have h5 : 0 ≤ σ 1 5 ∧ σ 1 5 ≤ 6 := hI.2.1
  have h1 : 0 ≤ σ 2 1 ∧ σ 2 1 ≤ 6 := hI.2.2.1
  refine Ct_of (ls := [some (.ref (G.2.1 0)), some (vI t), some (vI i), some (vI w)]) (by decide +kernel) (Nat.le_of_ble_eq_true rfl) rfl (fun X C => ?_)
  refine r_aload_n C rfl dX5_written_0 ?_
  refine r_getR C 4 1 rfl rfl (by decide) rfl uw_X5 fl_X5_19 dX5_written_1 ?_
  refine r_iload_n C rfl dX5_written_4 ?_
  refine r_iload_n C rfl dX5_written_5 ?_
  refine r_callV (As := [_, _]) C (c_X2_hasLine _ _ _ (by omega) (by omega) hI) ok_X2_hasLine ln_X5_105 rfl rfl rfl rfl (Nat.le_of_ble_eq_true rfl) (Nat.le_of_ble_eq_true rfl) (Nat.le_of_ble_eq_true rfl) dX5_written_6 (fun v6 τ6 hq6 => ?_)
  obtain ⟨rfl, rfl⟩ := hq6
  refine r_ifB_ne (tgt := 14) C (by decide) dX5_written_9 (fun c9 => ?_) (fun c9 => ?_)
  · have h8 : (0 ≤ t ∧ t ≤ σ 2 1 - 1) ∧ 0 ≤ i ∧ i ≤ σ 10 t - 1 := bLine_t c9
    have h9 : 0 ≤ σ 10 t ∧ σ 10 t ≤ 8 := hI.2.2.2.2.2.2.2.1 t
    refine r_iload_n C rfl dX5_written_14 ?_
    by_cases w15_0 : w = 0
    · refine r_lookup (off := 25) (tgt := 40) C (by omega) (by decide) (by rw [w15_0]; decide +kernel) (by decide) dX5_written_15 ?_
      refine r_aload_n C rfl dX5_written_40 ?_
      refine r_getR C 4 1 rfl rfl (by decide) rfl uw_X5 fl_X5_19 dX5_written_41 ?_
      refine r_iload_n C rfl dX5_written_44 ?_
      refine r_iload_n C rfl dX5_written_45 ?_
      refine r_callV (As := [_, _]) C (c_X2_longOf _ _ _ (by omega) (by omega)) ok_X2_longOf ln_X5_108 rfl rfl rfl rfl (Nat.le_of_ble_eq_true rfl) (Nat.le_of_ble_eq_true rfl) (Nat.le_of_ble_eq_true rfl) dX5_written_46 (fun v46 τ46 hq46 => ?_)
      obtain ⟨rfl, rfl⟩ := hq46
      refine r_ireturn C rfl ?_ dX5_written_49
      exact pX_of (by simp [s_written, *]; rfl) rfl
    by_cases w15_1 : w = 1
    · refine r_lookup (off := 35) (tgt := 50) C (by omega) (by decide) (by rw [w15_1]; decide +kernel) (by decide) dX5_written_15 ?_
      refine r_aload_n C rfl dX5_written_50 ?_
      refine r_getR C 4 1 rfl rfl (by decide) rfl uw_X5 fl_X5_19 dX5_written_51 ?_
      refine r_iload_n C rfl dX5_written_54 ?_
      refine r_iload_n C rfl dX5_written_55 ?_
      refine r_callV (As := [_, _]) C (c_X2_wideOf _ _ _ (by omega) (by omega)) ok_X2_wideOf ln_X5_111 rfl rfl rfl rfl (Nat.le_of_ble_eq_true rfl) (Nat.le_of_ble_eq_true rfl) (Nat.le_of_ble_eq_true rfl) dX5_written_56 (fun v56 τ56 hq56 => ?_)
      obtain ⟨rfl, rfl⟩ := hq56
      refine r_sipush C (by decide +kernel) dX5_written_59 ?_
      refine r_iadd C dX5_written_62 ?_
      refine r_ireturn C rfl ?_ dX5_written_63
      exact pX_of (by simp [s_written, *]; rfl) rfl
    refine r_lookup (off := 49) (tgt := 64) C (by omega) (by decide) (by simp [Op.lookupswitch.offset, show ¬ (0 : Int) = w from fun q => w15_0 q.symm, show ¬ (1 : Int) = w from fun q => w15_1 q.symm]) (by decide) dX5_written_15 ?_
    refine r_bipush C (by decide +kernel) dX5_written_64 ?_
    refine r_ireturn C rfl ?_ dX5_written_66
    exact pX_of (by simp [s_written, *]) rfl
  · refine r_iconst C dX5_written_12 ?_
    refine r_ireturn C rfl ?_ dX5_written_13
    exact pX_of (by simp [s_written, *]) rfl
set_option maxRecDepth 100000 in
theorem c_X5_mend (l : Launch) (G : pw_G) (σ : pw_H) {t i x w : Int} (hI : Inv (vX σ)) (q_t : InI t) (q_i : InI i) (q_x : InI x) (q_w : InI w) : Ct l shX G mX5_mend [.ref (G.2.1 0), vI t, vI i, vI x, vI w] σ (pX (s_mend (vX σ) t i x w)) := by
  have h0 : 0 ≤ σ 1 4 ∧ σ 1 4 ≤ 8 := hI.1
  have h5 : 0 ≤ σ 1 5 ∧ σ 1 5 ≤ 6 := hI.2.1
  have h1 : 0 ≤ σ 2 1 ∧ σ 2 1 ≤ 6 := hI.2.2.1
  refine Ct_of (ls := [some (.ref (G.2.1 0)), some (vI t), some (vI i), some (vI x), some (vI w), none]) (by decide +kernel) (Nat.le_of_ble_eq_true rfl) rfl (fun X C => ?_)
  refine r_aload_n C rfl dX5_mend_0 ?_
  refine r_getR C 4 1 rfl rfl (by decide) rfl uw_X5 fl_X5_19 dX5_mend_1 ?_
  refine r_iload_n C rfl dX5_mend_4 ?_
  refine r_iload_n C rfl dX5_mend_5 ?_
  refine r_callV (As := [_, _]) C (c_X2_hasLine _ _ _ (by omega) (by omega) hI) ok_X2_hasLine ln_X5_105 rfl rfl rfl rfl (Nat.le_of_ble_eq_true rfl) (Nat.le_of_ble_eq_true rfl) (Nat.le_of_ble_eq_true rfl) dX5_mend_6 (fun v6 τ6 hq6 => ?_)
  obtain ⟨rfl, rfl⟩ := hq6
  refine r_ifB_ne (tgt := 14) C (by decide) dX5_mend_9 (fun c9 => ?_) (fun c9 => ?_)
  · have h8 : (0 ≤ t ∧ t ≤ σ 2 1 - 1) ∧ 0 ≤ i ∧ i ≤ σ 10 t - 1 := bLine_t c9
    have h9 : 0 ≤ σ 10 t ∧ σ 10 t ≤ 8 := hI.2.2.2.2.2.2.2.1 t
    refine r_iload_n C rfl dX5_mend_14 ?_
    refine r_iload C rfl dX5_mend_15 ?_
    refine r_callS (As := [_, _]) C (c_X5_isPlace _ _ _ (by omega) (by omega)) ok_X5_isPlace ln_X5_45 rfl rfl (Nat.le_of_ble_eq_true rfl) (Nat.le_of_ble_eq_true rfl) (Nat.le_of_ble_eq_true rfl) dX5_mend_17 (fun v17 τ17 hq17 => ?_)
    obtain ⟨rfl, rfl⟩ := hq17
    refine r_ifB_ne (tgt := 26) C (by decide) dX5_mend_20 (fun c20 => ?_) (fun c20 => ?_)
    · refine r_aload_n C rfl dX5_mend_26 ?_
      refine r_getR C 4 1 rfl rfl (by decide) rfl uw_X5 fl_X5_19 dX5_mend_27 ?_
      refine r_iload_n C rfl dX5_mend_30 ?_
      refine r_iload_n C rfl dX5_mend_31 ?_
      refine r_callV (As := [_, _]) C (c_X2_longOf _ _ _ (by omega) (by omega)) ok_X2_longOf ln_X5_108 rfl rfl rfl rfl (Nat.le_of_ble_eq_true rfl) (Nat.le_of_ble_eq_true rfl) (Nat.le_of_ble_eq_true rfl) dX5_mend_32 (fun v32 τ32 hq32 => ?_)
      obtain ⟨rfl, rfl⟩ := hq32
      refine r_istore (ls' := [_, _, _, _, _, _]) C (by decide) rfl rfl dX5_mend_35 ?_
      refine r_aload_n C rfl dX5_mend_37 ?_
      refine r_getR C 4 1 rfl rfl (by decide) rfl uw_X5 fl_X5_19 dX5_mend_38 ?_
      refine r_iload_n C rfl dX5_mend_41 ?_
      refine r_iload_n C rfl dX5_mend_42 ?_
      refine r_iload_n C rfl dX5_mend_43 ?_
      refine r_iload C rfl dX5_mend_44 ?_
      refine r_callV (As := [_, _, _, _]) C (c_X2_write _ _ _ (by omega) (by omega)) ok_X2_write ln_X5_114 rfl rfl rfl rfl (Nat.le_of_ble_eq_true rfl) (Nat.le_of_ble_eq_true rfl) (Nat.le_of_ble_eq_true rfl) dX5_mend_46 (fun v46 τ46 hq46 => ?_)
      obtain ⟨rfl, rfl⟩ := hq46
      refine r_iload C rfl dX5_mend_49 ?_
      refine r_ireturn C rfl ?_ dX5_mend_51
      exact pX_of (by simp [s_mend, *]; rfl) (vX_mend σ _ _ _)
    · refine r_bipush C (by decide +kernel) dX5_mend_23 ?_
      refine r_ireturn C rfl ?_ dX5_mend_25
      exact pX_of (by simp [s_mend, *]) rfl
  · refine r_iconst C dX5_mend_12 ?_
    refine r_ireturn C rfl ?_ dX5_mend_13
    exact pX_of (by simp [s_mend, *]) rfl
set_option maxRecDepth 100000 in
theorem c_X5_slip (l : Launch) (G : pw_G) (σ : pw_H) {t i s y h : Int} (hI : Inv (vX σ)) (q_t : InI t) (q_i : InI i) (q_s : InI s) (q_y : InI y) (q_h : InI h) : Ct l shX G mX5_slip [.ref (G.2.1 0), vI t, vI i, vI s, vI y, vI h] σ (pX (s_slip (vX σ) t i s y h)) := by
  have h0 : 0 ≤ σ 1 4 ∧ σ 1 4 ≤ 8 := hI.1
  have h5 : 0 ≤ σ 1 5 ∧ σ 1 5 ≤ 6 := hI.2.1
  have h1 : 0 ≤ σ 2 1 ∧ σ 2 1 ≤ 6 := hI.2.2.1
  refine Ct_of (ls := [some (.ref (G.2.1 0)), some (vI t), some (vI i), some (vI s), some (vI y), some (vI h), none]) (by decide +kernel) (Nat.le_of_ble_eq_true rfl) rfl (fun X C => ?_)
  refine r_aload_n C rfl dX5_slip_0 ?_
  refine r_getR C 4 1 rfl rfl (by decide) rfl uw_X5 fl_X5_19 dX5_slip_1 ?_
  refine r_iload_n C rfl dX5_slip_4 ?_
  refine r_iload_n C rfl dX5_slip_5 ?_
  refine r_callV (As := [_, _]) C (c_X2_hasLine _ _ _ (by omega) (by omega) hI) ok_X2_hasLine ln_X5_105 rfl rfl rfl rfl (Nat.le_of_ble_eq_true rfl) (Nat.le_of_ble_eq_true rfl) (Nat.le_of_ble_eq_true rfl) dX5_slip_6 (fun v6 τ6 hq6 => ?_)
  obtain ⟨rfl, rfl⟩ := hq6
  refine r_ifB_eq (tgt := 23) C (by decide) dX5_slip_9 (fun c9 => ?_) (fun c9 => ?_)
  · refine r_iconst C dX5_slip_23 ?_
    refine r_ireturn C rfl ?_ dX5_slip_24
    exact pX_of (by simp [s_slip, *]) rfl
  · have h8 : (0 ≤ t ∧ t ≤ σ 2 1 - 1) ∧ 0 ≤ i ∧ i ≤ σ 10 t - 1 := bLine_t c9
    have h9 : 0 ≤ σ 10 t ∧ σ 10 t ≤ 8 := hI.2.2.2.2.2.2.2.1 t
    refine r_aload_n C rfl dX5_slip_12 ?_
    refine r_getR C 4 0 rfl rfl (by decide) rfl uw_X5 fl_X5_10 dX5_slip_13 ?_
    refine r_iload_n C rfl dX5_slip_16 ?_
    refine r_callV (As := [_]) C (c_X4_has _ _ _ (by omega) hI) ok_X4_has ln_X5_61 rfl rfl rfl rfl (Nat.le_of_ble_eq_true rfl) (Nat.le_of_ble_eq_true rfl) (Nat.le_of_ble_eq_true rfl) dX5_slip_17 (fun v17 τ17 hq17 => ?_)
    obtain ⟨rfl, rfl⟩ := hq17
    refine r_ifB_ne (tgt := 25) C (by decide) dX5_slip_20 (fun c20 => ?_) (fun c20 => ?_)
    · have h10 : 0 ≤ s ∧ s ≤ σ 1 4 - 1 := bStar_t c20
      refine r_iload C rfl dX5_slip_25 ?_
      refine r_iload C rfl dX5_slip_27 ?_
      refine r_callS (As := [_, _]) C (c_X5_isMoment _ _ _ (by omega) (by omega)) ok_X5_isMoment ln_X5_118 rfl rfl (Nat.le_of_ble_eq_true rfl) (Nat.le_of_ble_eq_true rfl) (Nat.le_of_ble_eq_true rfl) dX5_slip_29 (fun v29 τ29 hq29 => ?_)
      obtain ⟨rfl, rfl⟩ := hq29
      refine r_ifB_ne (tgt := 38) C (by decide) dX5_slip_32 (fun c32 => ?_) (fun c32 => ?_)
      · have h11 := bMom_t c32
        refine r_aload_n C rfl dX5_slip_38 ?_
        refine r_getR C 4 2 rfl rfl (by decide) rfl uw_X5 fl_X5_28 dX5_slip_39 ?_
        refine r_iload_n C rfl dX5_slip_42 ?_
        refine r_iload_n C rfl dX5_slip_43 ?_
        refine r_iload_n C rfl dX5_slip_44 ?_
        refine r_iload C rfl dX5_slip_45 ?_
        refine r_iload C rfl dX5_slip_47 ?_
        refine r_callV (As := [_, _, _, _, _]) C (c_X1_rankOf _ _ _ hI (by omega) (by omega) (by omega) (by omega) (by omega)) ok_X1_rankOf ln_X5_121 rfl rfl rfl rfl (Nat.le_of_ble_eq_true rfl) (Nat.le_of_ble_eq_true rfl) (Nat.le_of_ble_eq_true rfl) dX5_slip_49 (fun v49 τ49 hq49 => ?_)
        obtain ⟨rfl, hF⟩ := hq49
        have e2 : vX τ49 = vX σ := Fr_vX hF (by decide)
        have e3 : 0 ≤ sRk (vX σ) t i s y h ∧ sRk (vX σ) t i s y h ≤ 1048576 := n_sRank _ _ _
        refine r_istore (ls' := [_, _, _, _, _, _, _]) C (by decide) rfl rfl dX5_slip_52 ?_
        refine r_iload C rfl dX5_slip_54 ?_
        refine r_ldc C (z := 1048576) cn_X5_127 (by decide +kernel) dX5_slip_56 ?_
        refine r_icmp_ne (tgt := 66) C (by decide) (by omega) (by omega) dX5_slip_58 (fun c58 => ?_) (fun c58 => ?_)
        · refine r_iload C rfl dX5_slip_66 ?_
          refine r_callS (As := [_]) C (c_X3_kindOf _ _ _ (by omega)) ok_X3_kindOf ln_X5_128 rfl rfl (Nat.le_of_ble_eq_true rfl) (Nat.le_of_ble_eq_true rfl) (Nat.le_of_ble_eq_true rfl) dX5_slip_68 (fun v68 τ68 hq68 => ?_)
          obtain ⟨rfl, rfl⟩ := hq68
          refine r_ireturn C rfl ?_ dX5_slip_71
          exact pX_of (a := vX σ) (by simp [s_slip, *]) e2
        · refine r_bipush C (by decide +kernel) dX5_slip_61 ?_
          refine r_goto (tgt := 71) C (by decide) dX5_slip_63 ?_
          refine r_ireturn C rfl ?_ dX5_slip_71
          exact pX_of (a := vX σ) (by simp [s_slip, *]) e2
      · refine r_bipush C (by decide +kernel) dX5_slip_35 ?_
        refine r_ireturn C rfl ?_ dX5_slip_37
        exact pX_of (by simp [s_slip, *]) rfl
    · refine r_iconst C dX5_slip_23 ?_
      refine r_ireturn C rfl ?_ dX5_slip_24
      exact pX_of (by simp [s_slip, *]) rfl
set_option maxRecDepth 100000 in
theorem c_X5_cost (l : Launch) (G : pw_G) (σ : pw_H) {t i s y h : Int} (hI : Inv (vX σ)) (q_t : InI t) (q_i : InI i) (q_s : InI s) (q_y : InI y) (q_h : InI h) : Ct l shX G mX5_cost [.ref (G.2.1 0), vI t, vI i, vI s, vI y, vI h] σ (pX (s_cost (vX σ) t i s y h)) := by
  have h0 : 0 ≤ σ 1 4 ∧ σ 1 4 ≤ 8 := hI.1
  have h5 : 0 ≤ σ 1 5 ∧ σ 1 5 ≤ 6 := hI.2.1
  have h1 : 0 ≤ σ 2 1 ∧ σ 2 1 ≤ 6 := hI.2.2.1
  refine Ct_of (ls := [some (.ref (G.2.1 0)), some (vI t), some (vI i), some (vI s), some (vI y), some (vI h), none]) (by decide +kernel) (Nat.le_of_ble_eq_true rfl) rfl (fun X C => ?_)
  refine r_aload_n C rfl dX5_cost_0 ?_
  refine r_getR C 4 1 rfl rfl (by decide) rfl uw_X5 fl_X5_19 dX5_cost_1 ?_
  refine r_iload_n C rfl dX5_cost_4 ?_
  refine r_iload_n C rfl dX5_cost_5 ?_
  refine r_callV (As := [_, _]) C (c_X2_hasLine _ _ _ (by omega) (by omega) hI) ok_X2_hasLine ln_X5_105 rfl rfl rfl rfl (Nat.le_of_ble_eq_true rfl) (Nat.le_of_ble_eq_true rfl) (Nat.le_of_ble_eq_true rfl) dX5_cost_6 (fun v6 τ6 hq6 => ?_)
  obtain ⟨rfl, rfl⟩ := hq6
  refine r_ifB_eq (tgt := 23) C (by decide) dX5_cost_9 (fun c9 => ?_) (fun c9 => ?_)
  · refine r_iconst C dX5_cost_23 ?_
    refine r_ireturn C rfl ?_ dX5_cost_24
    exact pX_of (by simp [s_cost, *]) rfl
  · have h8 : (0 ≤ t ∧ t ≤ σ 2 1 - 1) ∧ 0 ≤ i ∧ i ≤ σ 10 t - 1 := bLine_t c9
    have h9 : 0 ≤ σ 10 t ∧ σ 10 t ≤ 8 := hI.2.2.2.2.2.2.2.1 t
    refine r_aload_n C rfl dX5_cost_12 ?_
    refine r_getR C 4 0 rfl rfl (by decide) rfl uw_X5 fl_X5_10 dX5_cost_13 ?_
    refine r_iload_n C rfl dX5_cost_16 ?_
    refine r_callV (As := [_]) C (c_X4_has _ _ _ (by omega) hI) ok_X4_has ln_X5_61 rfl rfl rfl rfl (Nat.le_of_ble_eq_true rfl) (Nat.le_of_ble_eq_true rfl) (Nat.le_of_ble_eq_true rfl) dX5_cost_17 (fun v17 τ17 hq17 => ?_)
    obtain ⟨rfl, rfl⟩ := hq17
    refine r_ifB_ne (tgt := 25) C (by decide) dX5_cost_20 (fun c20 => ?_) (fun c20 => ?_)
    · have h10 : 0 ≤ s ∧ s ≤ σ 1 4 - 1 := bStar_t c20
      refine r_iload C rfl dX5_cost_25 ?_
      refine r_iload C rfl dX5_cost_27 ?_
      refine r_callS (As := [_, _]) C (c_X5_isMoment _ _ _ (by omega) (by omega)) ok_X5_isMoment ln_X5_118 rfl rfl (Nat.le_of_ble_eq_true rfl) (Nat.le_of_ble_eq_true rfl) (Nat.le_of_ble_eq_true rfl) dX5_cost_29 (fun v29 τ29 hq29 => ?_)
      obtain ⟨rfl, rfl⟩ := hq29
      refine r_ifB_ne (tgt := 38) C (by decide) dX5_cost_32 (fun c32 => ?_) (fun c32 => ?_)
      · have h11 := bMom_t c32
        refine r_aload_n C rfl dX5_cost_38 ?_
        refine r_getR C 4 2 rfl rfl (by decide) rfl uw_X5 fl_X5_28 dX5_cost_39 ?_
        refine r_iload_n C rfl dX5_cost_42 ?_
        refine r_iload_n C rfl dX5_cost_43 ?_
        refine r_iload_n C rfl dX5_cost_44 ?_
        refine r_iload C rfl dX5_cost_45 ?_
        refine r_iload C rfl dX5_cost_47 ?_
        refine r_callV (As := [_, _, _, _, _]) C (c_X1_rankOf _ _ _ hI (by omega) (by omega) (by omega) (by omega) (by omega)) ok_X1_rankOf ln_X5_121 rfl rfl rfl rfl (Nat.le_of_ble_eq_true rfl) (Nat.le_of_ble_eq_true rfl) (Nat.le_of_ble_eq_true rfl) dX5_cost_49 (fun v49 τ49 hq49 => ?_)
        obtain ⟨rfl, hF⟩ := hq49
        have e2 : vX τ49 = vX σ := Fr_vX hF (by decide)
        have e3 : 0 ≤ sRk (vX σ) t i s y h ∧ sRk (vX σ) t i s y h ≤ 1048576 := n_sRank _ _ _
        refine r_istore (ls' := [_, _, _, _, _, _, _]) C (by decide) rfl rfl dX5_cost_52 ?_
        refine r_iload C rfl dX5_cost_54 ?_
        refine r_ldc C (z := 1048576) cn_X5_127 (by decide +kernel) dX5_cost_56 ?_
        refine r_icmp_ne (tgt := 66) C (by decide) (by omega) (by omega) dX5_cost_58 (fun c58 => ?_) (fun c58 => ?_)
        · refine r_iload C rfl dX5_cost_66 ?_
          refine r_callS (As := [_]) C (c_X3_costOf _ _ _ (by omega)) ok_X3_costOf ln_X5_132 rfl rfl (Nat.le_of_ble_eq_true rfl) (Nat.le_of_ble_eq_true rfl) (Nat.le_of_ble_eq_true rfl) dX5_cost_68 (fun v68 τ68 hq68 => ?_)
          obtain ⟨rfl, rfl⟩ := hq68
          refine r_ireturn C rfl ?_ dX5_cost_71
          exact pX_of (a := vX σ) (by simp [s_cost, *]) e2
        · refine r_bipush C (by decide +kernel) dX5_cost_61 ?_
          refine r_goto (tgt := 71) C (by decide) dX5_cost_63 ?_
          refine r_ireturn C rfl ?_ dX5_cost_71
          exact pX_of (a := vX σ) (by simp [s_cost, *]) e2
      · refine r_bipush C (by decide +kernel) dX5_cost_35 ?_
        refine r_ireturn C rfl ?_ dX5_cost_37
        exact pX_of (by simp [s_cost, *]) rfl
    · refine r_iconst C dX5_cost_23 ?_
      refine r_ireturn C rfl ?_ dX5_cost_24
      exact pX_of (by simp [s_cost, *]) rfl
set_option maxRecDepth 100000 in
theorem c_X5_count (l : Launch) (G : pw_G) (σ : pw_H) {w : Int} (hI : Inv (vX σ)) (q_w : InI w) : Ct l shX G mX5_count [.ref (G.2.1 0), vI w] σ (pX (s_count (vX σ) w)) := by
  have h0 : 0 ≤ σ 1 4 ∧ σ 1 4 ≤ 8 := hI.1
  have h5 : 0 ≤ σ 1 5 ∧ σ 1 5 ≤ 6 := hI.2.1
  have h1 : 0 ≤ σ 2 1 ∧ σ 2 1 ≤ 6 := hI.2.2.1
  refine Ct_of (ls := [some (.ref (G.2.1 0)), some (vI w)]) (by decide +kernel) (Nat.le_of_ble_eq_true rfl) rfl (fun X C => ?_)
  refine r_iload_n C rfl dX5_count_0 ?_
  by_cases w1 : w < 0 ∨ 3 < w
  · refine r_tableOut (tgt := 64) C (by omega) w1 (by decide) dX5_count_1 ?_
    refine r_bipush C (by decide +kernel) dX5_count_64 ?_
    refine r_ireturn C rfl ?_ dX5_count_66
    exact pX_of (by rw [s_count, if_neg (by omega), if_neg (by omega), if_neg (by omega), if_neg (by omega)]) rfl
  · rcases (show w = 0 ∨ w = 1 ∨ w = 2 ∨ w = 3 by omega) with e1 | e1 | e1 | e1
    · refine r_tableIn (off := 31) (tgt := 32) C (by omega) (by omega) (by omega) (by rw [e1]; rfl) (by decide) dX5_count_1 ?_
      refine r_aload_n C rfl dX5_count_32 ?_
      refine r_getR C 4 0 rfl rfl (by decide) rfl uw_X5 fl_X5_10 dX5_count_33 ?_
      refine r_getI (jz := 4) C 3 4 rfl rfl (by decide) rfl uw_X4 fl_X5_53 rfl dX5_count_36 ?_
      refine r_ireturn C rfl ?_ dX5_count_39
      exact pX_of (by simp [s_count, *]; rfl) rfl
    · refine r_tableIn (off := 39) (tgt := 40) C (by omega) (by omega) (by omega) (by rw [e1]; rfl) (by decide) dX5_count_1 ?_
      refine r_aload_n C rfl dX5_count_40 ?_
      refine r_getR C 4 1 rfl rfl (by decide) rfl uw_X5 fl_X5_19 dX5_count_41 ?_
      refine r_getI (jz := 1) C 2 1 rfl rfl (by decide) rfl uw_X2 fl_X5_93 rfl dX5_count_44 ?_
      refine r_ireturn C rfl ?_ dX5_count_47
      exact pX_of (by simp [s_count, *]; rfl) rfl
    · refine r_tableIn (off := 47) (tgt := 48) C (by omega) (by omega) (by omega) (by rw [e1]; rfl) (by decide) dX5_count_1 ?_
      refine r_aload_n C rfl dX5_count_48 ?_
      refine r_getR C 4 1 rfl rfl (by decide) rfl uw_X5 fl_X5_19 dX5_count_49 ?_
      refine r_callV (As := []) C (c_X2_allLines _ _ _ hI) ok_X2_allLines ln_X5_187 rfl rfl rfl rfl (Nat.le_of_ble_eq_true rfl) (Nat.le_of_ble_eq_true rfl) (Nat.le_of_ble_eq_true rfl) dX5_count_52 (fun v52 τ52 hq52 => ?_)
      obtain ⟨rfl, rfl⟩ := hq52
      refine r_ireturn C rfl ?_ dX5_count_55
      exact pX_of (by simp [s_count, *]; rfl) rfl
    · refine r_tableIn (off := 55) (tgt := 56) C (by omega) (by omega) (by omega) (by rw [e1]; rfl) (by decide) dX5_count_1 ?_
      refine r_aload_n C rfl dX5_count_56 ?_
      refine r_getR C 4 0 rfl rfl (by decide) rfl uw_X5 fl_X5_10 dX5_count_57 ?_
      refine r_callV (As := []) C (c_X4_bright _ _ _ hI) ok_X4_bright ln_X5_190 rfl rfl rfl rfl (Nat.le_of_ble_eq_true rfl) (Nat.le_of_ble_eq_true rfl) (Nat.le_of_ble_eq_true rfl) dX5_count_60 (fun v60 τ60 hq60 => ?_)
      obtain ⟨rfl, rfl⟩ := hq60
      refine r_ireturn C rfl ?_ dX5_count_63
      exact pX_of (by simp [s_count, *]; rfl) rfl
set_option maxRecDepth 100000 in
theorem c_X5_round (l : Launch) (G : pw_G) (σ : pw_H) {t p : Int} (hI : Inv (vX σ)) (q_t : InI t) (q_p : InI p) : Ct l shX G mX5_round [.ref (G.2.1 0), vI t, vI p] σ (pX (s_round (vX σ) t p)) := by
  have h0 : 0 ≤ σ 1 4 ∧ σ 1 4 ≤ 8 := hI.1
  have h5 : 0 ≤ σ 1 5 ∧ σ 1 5 ≤ 6 := hI.2.1
  have h1 : 0 ≤ σ 2 1 ∧ σ 2 1 ≤ 6 := hI.2.2.1
  refine Ct_of (ls := [some (.ref (G.2.1 0)), some (vI t), some (vI p), none, none]) (by decide +kernel) (Nat.le_of_ble_eq_true rfl) rfl (fun X C => ?_)
  have loop : ∀ (n i : Nat), bList (vX σ) t = true → 2 ≤ p → p ≤ 1800 → i + n = (σ 10 t).toNat → bIn p 2 1800 = true → PW X shX G 32 [some (.ref (G.2.1 0)), some (vI t), some (vI p), some (vI (sSum (fun i => zB (decide (vX σ 6 (t * 8 + i) % p = 0))) i)), some (vI i)] [] σ := by
    intro n
    induction n with
    | zero =>
      intro i c8 p1 p2 hi c21
      have h8 : 0 ≤ t ∧ t ≤ σ 2 1 - 1 := bList_t c8
      have h9 : 0 ≤ σ 10 t ∧ σ 10 t ≤ 8 := hI.2.2.2.2.2.2.2.1 t
      refine r_iload C rfl dX5_round_32 ?_
      refine r_aload_n C rfl dX5_round_34 ?_
      refine r_getR C 4 1 rfl rfl (by decide) rfl uw_X5 fl_X5_19 dX5_round_35 ?_
      refine r_getR C 2 0 rfl rfl (by decide) rfl uw_X2 fl_X5_99 dX5_round_38 ?_
      refine r_iload_n C rfl dX5_round_41 ?_
      refine r_iaload C rfl (by decide) (by omega) dX5_round_42 ?_
      refine r_icmp_ge (tgt := 70) C (by decide) (by omega) (by omega) dX5_round_43 (fun c43 => ?_) (fun c43 => ?_)
      · refine r_iload_n C rfl dX5_round_70 ?_
        refine r_ireturn C rfl ?_ dX5_round_71
        exact pX_of (by simp [s_round, *]; rw [show i = (σ 10 t).toNat by omega]; rfl) rfl
      · omega
    | succ n ih =>
      intro i c8 p1 p2 hi c21
      have h8 : 0 ≤ t ∧ t ≤ σ 2 1 - 1 := bList_t c8
      have h9 : 0 ≤ σ 10 t ∧ σ 10 t ≤ 8 := hI.2.2.2.2.2.2.2.1 t
      have h10 : 0 ≤ σ 11 (t * 8 + i) ∧ σ 11 (t * 8 + i) ≤ 21599 := hI.2.2.2.2.2.2.2.2.2.1 _
      have h11 : (σ 11 (t * 8 + i)).tmod p = σ 11 (t * 8 + i) % p := Int.tmod_eq_emod_of_nonneg h10.1
      have h12 := Int.emod_nonneg (σ 11 (t * 8 + i)) (show p ≠ 0 by omega)
      have h13 := Int.emod_lt_of_pos (σ 11 (t * 8 + i)) (show 0 < p by omega)
      refine r_iload C rfl dX5_round_32 ?_
      refine r_aload_n C rfl dX5_round_34 ?_
      refine r_getR C 4 1 rfl rfl (by decide) rfl uw_X5 fl_X5_19 dX5_round_35 ?_
      refine r_getR C 2 0 rfl rfl (by decide) rfl uw_X2 fl_X5_99 dX5_round_38 ?_
      refine r_iload_n C rfl dX5_round_41 ?_
      refine r_iaload C rfl (by decide) (by omega) dX5_round_42 ?_
      refine r_icmp_ge (tgt := 70) C (by decide) (by omega) (by omega) dX5_round_43 (fun c43 => ?_) (fun c43 => ?_)
      · omega
      · refine r_aload_n C rfl dX5_round_46 ?_
        refine r_getR C 4 1 rfl rfl (by decide) rfl uw_X5 fl_X5_19 dX5_round_47 ?_
        refine r_iload_n C rfl dX5_round_50 ?_
        refine r_iload C rfl dX5_round_51 ?_
        refine r_callV (As := [_, _]) C (c_X2_longOf _ _ _ (by omega) (by omega)) ok_X2_longOf ln_X5_108 rfl rfl rfl rfl (Nat.le_of_ble_eq_true rfl) (Nat.le_of_ble_eq_true rfl) (Nat.le_of_ble_eq_true rfl) dX5_round_53 (fun v53 τ53 hq53 => ?_)
        obtain ⟨rfl, rfl⟩ := hq53
        refine r_iload_n C rfl dX5_round_56 ?_
        refine r_irem C (by omega) (by omega) (by omega) dX5_round_57 ?_
        refine r_if_ne (tgt := 64) C (by decide) (by omega) dX5_round_58 (fun c58 => ?_) (fun c58 => ?_)
        · refine r_iinc (ls' := [_, _, _, _, _]) C rfl (by decide) rfl rfl dX5_round_64 ?_
          refine r_goto (tgt := 32) C (by decide) dX5_round_67 ?_
          refine PW_ls (ih (i + 1) c8 p1 p2 (by omega) c21) ?_
          have e : sSum (fun i => zB (decide (vX σ 6 (t * 8 + i) % p = 0))) (i + 1) = sSum (fun i => zB (decide (vX σ 6 (t * 8 + i) % p = 0))) i + zB (decide (σ 11 (t * 8 + i) % p = 0)) := rfl
          rw [e]
          first | rw [zB_t (by rw [decide_eq_true_eq]; omega)]; rfl | rw [zB_f (by rw [decide_eq_false_iff_not]; omega), Int.add_zero]; rfl
        · refine r_iinc (ls' := [_, _, _, _, _]) C rfl (by decide) rfl rfl dX5_round_61 ?_
          refine r_iinc (ls' := [_, _, _, _, _]) C rfl (by decide) rfl rfl dX5_round_64 ?_
          refine r_goto (tgt := 32) C (by decide) dX5_round_67 ?_
          refine PW_ls (ih (i + 1) c8 p1 p2 (by omega) c21) ?_
          have e : sSum (fun i => zB (decide (vX σ 6 (t * 8 + i) % p = 0))) (i + 1) = sSum (fun i => zB (decide (vX σ 6 (t * 8 + i) % p = 0))) i + zB (decide (σ 11 (t * 8 + i) % p = 0)) := rfl
          rw [e]
          first | rw [zB_t (by rw [decide_eq_true_eq]; omega)]; rfl | rw [zB_f (by rw [decide_eq_false_iff_not]; omega), Int.add_zero]; rfl
  refine r_aload_n C rfl dX5_round_0 ?_
  refine r_getR C 4 1 rfl rfl (by decide) rfl uw_X5 fl_X5_19 dX5_round_1 ?_
  refine r_iload_n C rfl dX5_round_4 ?_
  refine r_callV (As := [_]) C (c_X2_has _ _ _ (by omega) hI) ok_X2_has ln_X5_98 rfl rfl rfl rfl (Nat.le_of_ble_eq_true rfl) (Nat.le_of_ble_eq_true rfl) (Nat.le_of_ble_eq_true rfl) dX5_round_5 (fun v5 τ5 hq5 => ?_)
  obtain ⟨rfl, rfl⟩ := hq5
  refine r_ifB_ne (tgt := 13) C (by decide) dX5_round_8 (fun c8 => ?_) (fun c8 => ?_)
  · refine r_iload_n C rfl dX5_round_13 ?_
    refine r_iconst C dX5_round_14 ?_
    refine r_sipush C (by decide +kernel) dX5_round_15 ?_
    refine r_callS (As := [_, _, _]) C (c_X5_isWithin _ _ _ (by omega) (by omega) (by omega)) ok_X5_isWithin ln_X5_49 rfl rfl (Nat.le_of_ble_eq_true rfl) (Nat.le_of_ble_eq_true rfl) (Nat.le_of_ble_eq_true rfl) dX5_round_18 (fun v18 τ18 hq18 => ?_)
    obtain ⟨rfl, rfl⟩ := hq18
    refine r_ifB_ne (tgt := 27) C (by decide) dX5_round_21 (fun c21 => ?_) (fun c21 => ?_)
    · have h11 := bIn_iff.mp c21
      refine r_iconst C dX5_round_27 ?_
      refine r_istore_n (ls' := [_, _, _, _, _]) C (by decide) rfl rfl dX5_round_28 ?_
      refine r_iconst C dX5_round_29 ?_
      refine r_istore (ls' := [_, _, _, _, _]) C (by decide) rfl rfl dX5_round_30 ?_
      have h9 : 0 ≤ σ 10 t ∧ σ 10 t ≤ 8 := hI.2.2.2.2.2.2.2.1 t
      exact loop (σ 10 t).toNat 0 c8 (by omega) (by omega) (by omega) c21
    · refine r_bipush C (by decide +kernel) dX5_round_24 ?_
      refine r_ireturn C rfl ?_ dX5_round_26
      exact pX_of (by simp [s_round, *]) rfl
  · refine r_iconst C dX5_round_11 ?_
    refine r_ireturn C rfl ?_ dX5_round_12
    exact pX_of (by simp [s_round, *]) rfl
end
section
/-! the best match: sets of stars are natural numbers, by their bits -/
def sMin (f : Nat → Int) : Nat → Int → Int
  | 0, b => b
  | k + 1, b => zmin (sMin f k b) (f k)
theorem zmin_le (x y : Int) : zmin x y ≤ x ∧ zmin x y ≤ y ∧ (zmin x y = x ∨ zmin x y = y) := by unfold zmin; split <;> omega
theorem le_zmin {b x y : Int} : b ≤ zmin x y ↔ b ≤ x ∧ b ≤ y := by unfold zmin; split <;> omega
theorem sMin_init (f : Nat → Int) (b : Int) : ∀ k, sMin f k b ≤ b
  | 0 => Int.le_refl b
  | k + 1 => Int.le_trans (zmin_le _ _).1 (sMin_init f b k)
theorem sMin_le (f : Nat → Int) (b : Int) : ∀ k s, s < k → sMin f k b ≤ f s
  | 0, s, h => absurd h (Nat.not_lt_zero s)
  | k + 1, s, h => by
    rcases Nat.lt_or_ge s k with q | q
    · exact Int.le_trans (zmin_le _ _).1 (sMin_le f b k s q)
    · have : s = k := by omega
      subst this
      exact (zmin_le _ _).2.1
theorem sMin_at (f : Nat → Int) (b : Int) : ∀ k, sMin f k b = b ∨ ∃ s, s < k ∧ sMin f k b = f s
  | 0 => Or.inl rfl
  | k + 1 => by
    rcases (zmin_le (sMin f k b) (f k)).2.2 with q | q
    · rcases sMin_at f b k with h | ⟨s, h, h2⟩
      · exact Or.inl (q.trans h)
      · exact Or.inr ⟨s, by omega, q.trans h2⟩
    · exact Or.inr ⟨k, by omega, q⟩
/-- the least cost of the last r of n lines, when the stars of G are gone; C: what a line costs with a star, 100000 or more: they do not match -/
def sB (C : Int → Int → Int) (N n : Nat) : Nat → Nat → Int
  | 0, _ => 0
  | r + 1, G => sMin (fun s => if G.testBit s = true then 100000 else C ((n : Int) - (r + 1 : Nat)) (s : Int) + sB C N n r (G ||| 2 ^ s)) N (100 + sB C N n r G)
def sLow (p : Nat → Bool) : Nat → Nat → Int
  | _, 0 => -9
  | j, c + 1 => if p j = true then (j : Int) else sLow p (j + 1) c
theorem sLow_or (p : Nat → Bool) : ∀ c j, (sLow p j c = -9 ∧ ∀ s, j ≤ s → s < j + c → p s = false) ∨ ∃ s : Nat, sLow p j c = s ∧ j ≤ s ∧ s < j + c ∧ p s = true ∧ ∀ t, j ≤ t → t < s → p t = false
  | 0, j => Or.inl ⟨rfl, fun s h1 h2 => by omega⟩
  | c + 1, j => by
    simp only [sLow]
    by_cases h : p j = true
    · rw [if_pos h]
      exact Or.inr ⟨j, rfl, Nat.le_refl j, by omega, h, fun t h1 h2 => by omega⟩
    · rw [if_neg h]
      rcases sLow_or p c (j + 1) with ⟨h1, h2⟩ | ⟨s, h1, h2, h3, h4, h5⟩
      · refine Or.inl ⟨h1, fun s q1 q2 => ?_⟩
        by_cases q : s = j
        · subst q; simpa using h
        · exact h2 s (by omega) (by omega)
      · refine Or.inr ⟨s, h1, by omega, by omega, h4, fun t q1 q2 => ?_⟩
        by_cases q : t = j
        · subst q; simpa using h
        · exact h5 t (by omega) q2
def sP (C : Int → Int → Int) (N n r G s : Nat) : Bool := !G.testBit s && (decide (C ((n : Int) - (r + 1 : Nat)) (s : Int) < 100000) && decide (C ((n : Int) - (r + 1 : Nat)) (s : Int) + sB C N n r (G ||| 2 ^ s) = sB C N n (r + 1) G))
/-- the star of the first of the last r + 1 lines; -9: it is left -/
def sCh (C : Int → Int → Int) (N n r G : Nat) : Int := sLow (sP C N n r G) 0 N
def sGo (G : Nat) (c : Int) : Nat := if c = -9 then G else G ||| 2 ^ c.toNat
/-- the stars that are gone ahead of line i -/
def sGn (C : Int → Int → Int) (N n : Nat) : Nat → Nat
  | 0 => 0
  | i + 1 => sGo (sGn C N n i) (sCh C N n (n - 1 - i) (sGn C N n i))
/-- the star of line i in the best match -/
def sSt (C : Int → Int → Int) (N n i : Nat) : Int := sCh C N n (n - 1 - i) (sGn C N n i)
def dW (n r : Nat) : Int := 16 ^ (8 - n + r)
def dD (c : Int) : Int := if c = -9 then 8 else c
def sDg (C : Int → Int → Int) (N n : Nat) : Nat → Nat → Int
  | 0, _ => 0
  | r + 1, G => dD (sCh C N n r G) * dW n r + sDg C N n r (sGo G (sCh C N n r G))
def sK (C : Int → Int → Int) (N n r G : Nat) : Int := sB C N n r G * 4294967296 + sDg C N n r G
section DP
variable {C : Int → Int → Int} {N n : Nat}
theorem sB_rng (hC : ∀ i s, 0 ≤ C i s) : ∀ r G, 0 ≤ sB C N n r G ∧ sB C N n r G ≤ 100 * r
  | 0, G => by simp [sB]
  | r + 1, G => by
    have h1 := sB_rng hC r G
    simp only [sB]
    refine ⟨?_, Int.le_trans (sMin_init _ _ N) (by omega)⟩
    rcases sMin_at (fun s => if G.testBit s = true then 100000 else C ((n : Int) - (r + 1 : Nat)) (s : Int) + sB C N n r (G ||| 2 ^ s)) (100 + sB C N n r G) N with q | ⟨s, hs, q⟩
    · rw [q]; omega
    · rw [q]
      have h2 := sB_rng hC r (G ||| 2 ^ s)
      have h3 := hC ((n : Int) - (r + 1 : Nat)) s
      split <;> omega
theorem sCh_or (r G : Nat) : (sCh C N n r G = -9 ∧ ∀ s, s < N → sP C N n r G s = false) ∨ ∃ s : Nat, sCh C N n r G = s ∧ s < N ∧ sP C N n r G s = true ∧ ∀ t, t < s → sP C N n r G t = false := by
  rcases sLow_or (sP C N n r G) N 0 with ⟨h1, h2⟩ | ⟨s, h1, h2, h3, h4, h5⟩
  · exact Or.inl ⟨h1, fun s h => h2 s (Nat.zero_le s) (by omega)⟩
  · exact Or.inr ⟨s, h1, by omega, h4, fun t h => h5 t (Nat.zero_le t) h⟩
theorem sP_iff {r G s : Nat} : sP C N n r G s = true ↔ G.testBit s = false ∧ C ((n : Int) - (r + 1 : Nat)) s < 100000 ∧ C ((n : Int) - (r + 1 : Nat)) s + sB C N n r (G ||| 2 ^ s) = sB C N n (r + 1) G := by
  simp [sP]
theorem dW_pos (n r : Nat) : 0 < dW n r := Int.pow_pos (by decide)
theorem dW_s (n r : Nat) : dW n (r + 1) = 16 * dW n r := by
  unfold dW
  rw [← Nat.add_assoc, Int.pow_succ, Int.mul_comm]
theorem dD_rng (hN : N ≤ 8) (r G : Nat) : 0 ≤ dD (sCh C N n r G) ∧ dD (sCh C N n r G) ≤ 8 := by
  rcases sCh_or (C := C) (N := N) (n := n) r G with ⟨h, -⟩ | ⟨s, h, h2, -⟩
  · rw [h]; decide
  · rw [h]
    unfold dD
    rw [if_neg (by omega)]
    omega
theorem sDg_rng (hN : N ≤ 8) : ∀ r G, 0 ≤ sDg C N n r G ∧ sDg C N n r G < dW n r
  | 0, G => by have := dW_pos n 0; simp [sDg]; omega
  | r + 1, G => by
    have h1 := sDg_rng hN r (sGo G (sCh C N n r G))
    have h2 := dD_rng (C := C) (n := n) hN r G
    have h3 := dW_pos n r
    rw [dW_s]
    simp only [sDg]
    have h4 : 0 ≤ dD (sCh C N n r G) * dW n r := Int.mul_nonneg h2.1 (Int.le_of_lt h3)
    have h5 : dD (sCh C N n r G) * dW n r ≤ 8 * dW n r := Int.mul_le_mul_of_nonneg_right h2.2 (Int.le_of_lt h3)
    omega
theorem dW_le {r : Nat} (hr : r ≤ n) (hn : n ≤ 8) : dW n r ≤ 4294967296 := by
  unfold dW
  have h : 8 - n + r ≤ 8 := by omega
  have : ∀ k, k ≤ 8 → (16 : Int) ^ k ≤ 4294967296 := by decide
  exact this _ h
/-- the least key is not above any way to go on -/
theorem sK_le (hC : ∀ i s, 0 ≤ C i s) (hN : N ≤ 8) (hn : n ≤ 8) {r : Nat} (hr : r + 1 ≤ n) (G : Nat) :
    sK C N n (r + 1) G ≤ 100 * 4294967296 + 8 * dW n r + sK C N n r G ∧ ∀ s : Nat, s < N → G.testBit s = false → C ((n : Int) - (r + 1 : Nat)) s < 100000 → sK C N n (r + 1) G ≤ C ((n : Int) - (r + 1 : Nat)) s * 4294967296 + s * dW n r + sK C N n r (G ||| 2 ^ s) := by
  have hg := sDg_rng (C := C) (n := n) hN (r + 1) G
  have hw := dW_le hr hn
  have hwp := dW_pos n r
  have hB1 := sMin_init (fun s => if G.testBit s = true then 100000 else C ((n : Int) - (r + 1 : Nat)) (s : Int) + sB C N n r (G ||| 2 ^ s)) (100 + sB C N n r G) N
  have hBs := sMin_le (fun s => if G.testBit s = true then 100000 else C ((n : Int) - (r + 1 : Nat)) (s : Int) + sB C N n r (G ||| 2 ^ s)) (100 + sB C N n r G) N
  have eB : sB C N n (r + 1) G = sMin (fun s => if G.testBit s = true then 100000 else C ((n : Int) - (r + 1 : Nat)) (s : Int) + sB C N n r (G ||| 2 ^ s)) N (100 + sB C N n r G) := rfl
  rw [← eB] at hB1 hBs
  have eD : sDg C N n (r + 1) G = dD (sCh C N n r G) * dW n r + sDg C N n r (sGo G (sCh C N n r G)) := rfl
  refine ⟨?_, fun s hs hb hc => ?_⟩
  · have hg0 := sDg_rng (C := C) (n := n) hN r G
    unfold sK
    by_cases q : sB C N n (r + 1) G = 100 + sB C N n r G
    · rcases sCh_or (C := C) (N := N) (n := n) r G with ⟨h, -⟩ | ⟨t, h, h2, -, -⟩
      · rw [h] at eD
        rw [eD, show dD (-9) = 8 from rfl, show sGo G (-9) = G from rfl, q]
        omega
      · have hg1 := sDg_rng (C := C) (n := n) hN r (sGo G (sCh C N n r G))
        have h3 : dD (sCh C N n r G) = t := by rw [h]; unfold dD; rw [if_neg (by omega)]
        have h4 : dD (sCh C N n r G) * dW n r ≤ 7 * dW n r := Int.mul_le_mul_of_nonneg_right (by omega) (Int.le_of_lt hwp)
        omega
    · omega
  · have hc0 := hBs s hs
    simp only [hb, Bool.false_eq_true, if_false] at hc0
    have hg0 := sDg_rng (C := C) (n := n) hN r (G ||| 2 ^ s)
    have hsw : 0 ≤ (s : Int) * dW n r := Int.mul_nonneg (by omega) (Int.le_of_lt hwp)
    unfold sK
    rw [← Int.add_assoc, Int.add_right_comm, Int.add_assoc _ _ (sDg C N n r (G ||| 2 ^ s)), Int.add_right_comm]
    by_cases q : C ((n : Int) - (r + 1 : Nat)) s + sB C N n r (G ||| 2 ^ s) = sB C N n (r + 1) G
    · have hp : sP C N n r G s = true := sP_iff.mpr ⟨hb, hc, q⟩
      rcases sCh_or (C := C) (N := N) (n := n) r G with ⟨h, h2⟩ | ⟨t, h, h2, h3, h4⟩
      · rw [h2 s hs] at hp; cases hp
      · have hts : t ≤ s := by
          rcases Nat.lt_or_ge s t with q2 | q2
          · rw [h4 s q2] at hp; cases hp
          · exact q2
        have h5 : dD (sCh C N n r G) = t := by rw [h]; unfold dD; rw [if_neg (by omega)]
        have hg1 := sDg_rng (C := C) (n := n) hN r (sGo G (sCh C N n r G))
        rw [h5] at eD
        by_cases q3 : t = s
        · subst q3
          have h6 : sGo G (sCh C N n r G) = G ||| 2 ^ t := by rw [h]; unfold sGo; rw [if_neg (by omega)]; simp
          rw [h6] at eD
          omega
        · have h7 : (t : Int) * dW n r + dW n r ≤ (s : Int) * dW n r := by
            have : ((t : Int) + 1) * dW n r ≤ (s : Int) * dW n r := Int.mul_le_mul_of_nonneg_right (by omega) (Int.le_of_lt hwp)
            rw [Int.add_mul, Int.one_mul] at this
            exact this
          omega
    · omega
/-- it is one of the ways to go on -/
theorem sK_at (hC : ∀ i s, 0 ≤ C i s) (hn : n ≤ 8) {r : Nat} (hr : r + 1 ≤ n) (G : Nat) :
    sK C N n (r + 1) G = 100 * 4294967296 + 8 * dW n r + sK C N n r G ∨ ∃ s : Nat, s < N ∧ G.testBit s = false ∧ C ((n : Int) - (r + 1 : Nat)) s < 100000 ∧ sK C N n (r + 1) G = C ((n : Int) - (r + 1 : Nat)) s * 4294967296 + s * dW n r + sK C N n r (G ||| 2 ^ s) := by
  have eB : sB C N n (r + 1) G = sMin (fun s => if G.testBit s = true then 100000 else C ((n : Int) - (r + 1 : Nat)) (s : Int) + sB C N n r (G ||| 2 ^ s)) N (100 + sB C N n r G) := rfl
  have eD : sDg C N n (r + 1) G = dD (sCh C N n r G) * dW n r + sDg C N n r (sGo G (sCh C N n r G)) := rfl
  rcases sCh_or (C := C) (N := N) (n := n) r G with ⟨h, h2⟩ | ⟨t, h, h2, h3, h4⟩
  · left
    rw [h] at eD
    have hb : sB C N n (r + 1) G = 100 + sB C N n r G := by
      rcases sMin_at (fun s => if G.testBit s = true then 100000 else C ((n : Int) - (r + 1 : Nat)) (s : Int) + sB C N n r (G ||| 2 ^ s)) (100 + sB C N n r G) N with q | ⟨s, hs, q⟩
      · exact q
      · exfalso
        have hlt := sB_rng (N := N) (n := n) hC (r + 1) G
        have h0 := (sB_rng (N := N) (n := n) hC r (G ||| 2 ^ s)).1
        rw [← eB] at q
        by_cases hbit : G.testBit s = true
        · simp only [hbit, if_true] at q; omega
        · simp only [hbit, if_false] at q
          have := h2 s hs
          rw [Bool.eq_false_iff] at this
          exact this (sP_iff.mpr ⟨by simpa using hbit, by omega, q.symm⟩)
    unfold sK
    rw [eD, hb, show dD (-9) = 8 from rfl, show sGo G (-9) = G from rfl]
    omega
  · right
    obtain ⟨p1, p2, p3⟩ := sP_iff.mp h3
    refine ⟨t, h2, p1, p2, ?_⟩
    have h5 : dD (sCh C N n r G) = t := by rw [h]; unfold dD; rw [if_neg (by omega)]
    have h6 : sGo G (sCh C N n r G) = G ||| 2 ^ t := by rw [h]; unfold sGo; rw [if_neg (by omega)]; simp
    unfold sK
    rw [eD, h5, h6, ← p3, Int.add_mul]
    omega
theorem sK_iff (hC : ∀ i s, 0 ≤ C i s) (hN : N ≤ 8) (hn : n ≤ 8) {r : Nat} (hr : r + 1 ≤ n) (G : Nat) (b : Int) :
    b ≤ sK C N n (r + 1) G ↔ b ≤ 100 * 4294967296 + 8 * dW n r + sK C N n r G ∧ ∀ s : Nat, s < N → G.testBit s = false → C ((n : Int) - (r + 1 : Nat)) s < 100000 → b ≤ C ((n : Int) - (r + 1 : Nat)) s * 4294967296 + s * dW n r + sK C N n r (G ||| 2 ^ s) := by
  obtain ⟨h1, h2⟩ := sK_le hC hN hn hr G
  constructor
  · intro h
    exact ⟨Int.le_trans h h1, fun s a1 a2 a3 => Int.le_trans h (h2 s a1 a2 a3)⟩
  · rintro ⟨q1, q2⟩
    rcases sK_at (N := N) hC hn hr G with q | ⟨s, a1, a2, a3, q⟩
    · rw [q]; exact q1
    · rw [q]; exact q2 s a1 a2 a3
theorem sK_rng (hC : ∀ i s, 0 ≤ C i s) (hN : N ≤ 8) (hn : n ≤ 8) {r : Nat} (hr : r ≤ n) (G : Nat) : 0 ≤ sK C N n r G ∧ sK C N n r G < 801 * 4294967296 := by
  have h1 := sB_rng (N := N) (n := n) hC r G
  have h2 := sDg_rng (C := C) (n := n) hN r G
  have h3 := dW_le hr hn
  unfold sK
  omega
/-- the key's digits are the stars -/
theorem sK_path (hn : n ≤ 8) : ∀ i, i ≤ n → ∃ A : Int, sK C N n n 0 = A * dW n (n - i) + sDg C N n (n - i) (sGn C N n i) ∧ (i = 0 → A = sB C N n n 0) := by
  intro i
  induction i with
  | zero =>
    intro h
    refine ⟨sB C N n n 0, ?_, fun _ => rfl⟩
    unfold sK
    rw [show dW n (n - 0) = 4294967296 by unfold dW; rw [show 8 - n + (n - 0) = 8 by omega]; decide]
    rfl
  | succ i ih =>
    intro h
    obtain ⟨A, h1, -⟩ := ih (by omega)
    refine ⟨A * 16 + dD (sSt C N n i), ?_, fun q => by omega⟩
    have e : n - i = (n - (i + 1)) + 1 := by omega
    have e2 : n - 1 - i = n - (i + 1) := by omega
    rw [h1, e, dW_s]
    simp only [sDg, sGn, sSt, e2]
    rw [Int.add_mul, Int.mul_assoc, Int.add_assoc]
theorem sK_digit (hN : N ≤ 8) (hn : n ≤ 8) {i : Nat} (hi : i < n) : sK C N n n 0 / dW n (n - 1 - i) % 16 = dD (sSt C N n i) := by
  obtain ⟨A, h1, -⟩ := sK_path (C := C) (N := N) hn i (by omega)
  have e : n - i = (n - 1 - i) + 1 := by omega
  rw [e, dW_s] at h1
  simp only [sDg] at h1
  have hw := dW_pos n (n - 1 - i)
  have hg := sDg_rng (C := C) (n := n) hN (n - 1 - i) (sGo (sGn C N n i) (sCh C N n (n - 1 - i) (sGn C N n i)))
  have hd := dD_rng (C := C) (n := n) hN (n - 1 - i) (sGn C N n i)
  rw [show sSt C N n i = sCh C N n (n - 1 - i) (sGn C N n i) from rfl]
  have e2 : sK C N n n 0 = sDg C N n (n - 1 - i) (sGo (sGn C N n i) (sCh C N n (n - 1 - i) (sGn C N n i))) + (A * 16 + dD (sCh C N n (n - 1 - i) (sGn C N n i))) * dW n (n - 1 - i) := by
    rw [h1, Int.add_mul, Int.mul_assoc]
    omega
  rw [e2, Int.add_mul_ediv_right _ _ (by omega), Int.ediv_eq_zero_of_lt hg.1 hg.2]
  omega
theorem sK_cost (hN : N ≤ 8) (hn : n ≤ 8) : sK C N n n 0 / 4294967296 = sB C N n n 0 := by
  have hg := sDg_rng (C := C) (n := n) hN n 0
  have hw := dW_le (n := n) (Nat.le_refl n) hn
  unfold sK
  omega
theorem sSt_rng (i : Nat) : sSt C N n i = -9 ∨ (0 ≤ sSt C N n i ∧ sSt C N n i < N ∧ C i (sSt C N n i) < 100000) ∨ n ≤ i := by
  rcases Nat.lt_or_ge i n with q | q
  · rcases sCh_or (C := C) (N := N) (n := n) (n - 1 - i) (sGn C N n i) with ⟨h, -⟩ | ⟨s, h, h2, h3, -⟩
    · exact Or.inl h
    · refine Or.inr (Or.inl ?_)
      obtain ⟨-, p2, -⟩ := sP_iff.mp h3
      have e : ((n : Int) - ((n - 1 - i + 1 : Nat) : Int)) = i := by omega
      rw [e] at p2
      rw [show sSt C N n i = (s : Int) from h]
      exact ⟨by omega, by omega, p2⟩
  · exact Or.inr (Or.inr q)
end DP
end
section
/-! what the calls about matches answer -/
def sBest (a : pw_H) (l y h : Int) : Int := sB (sC a l y h) (a 0 0).toNat (a 5 l).toNat (a 5 l).toNat 0
def sStar (a : pw_H) (l y h : Int) (i : Nat) : Int := sSt (sC a l y h) (a 0 0).toNat (a 5 l).toNat i
def s_best (a : pw_H) (l y h : Int) : sR := if bList a l = false then (-1, a) else if bMom y h = false then (-2, a) else (sBest a l y h, a)
def s_matched (a : pw_H) (l i y h : Int) : sR := if bLine a l i = false then (-1, a) else if bMom y h = false then (-2, a) else (sStar a l y h i.toNat, a)
def bYrs (h f t : Int) : Bool := bIn h (-600) 600 && (bIn f (-3000) 3000 && (bIn t (-3000) 3000 && decide (f ≤ t ∧ (t - f) / 10 ≤ 40)))
/-- of the first k + 1 years from f: the year that fits best, and its cost -/
def sDt (a : pw_H) (l h f : Int) : Nat → Int × Int
  | 0 => (f, sBest a l f h)
  | k + 1 => if sBest a l (f + 10 * (k + 1 : Nat)) h < (sDt a l h f k).2 then (f + 10 * (k + 1 : Nat), sBest a l (f + 10 * (k + 1 : Nat)) h) else sDt a l h f k
def sYs (f t : Int) : Nat := ((t - f) / 10).toNat
def s_dated (a : pw_H) (l h f t : Int) : sR := if bList a l = false then (-1, a) else if bYrs h f t = false then (-2, a) else ((sDt a l h f (sYs f t)).1 + 3000, a)
def s_doubt (a : pw_H) (l h f t k : Int) : sR := if bList a l = false then (-1, a) else if (bYrs h f t && bIn k 0 800) = false then (-2, a) else (sSum (fun i => zB (decide (sBest a l (f + 10 * i) h ≤ (sDt a l h f (sYs f t)).2 + k))) (sYs f t + 1), a)
/-- a way is put in its place among the first n -/
def sIns (d : Int) : Nat → (Int → Int) → (Int → Int)
  | 0, f => fun j => if j = 0 then d else f j
  | n + 1, f => if d < f (n : Int) then sIns d n (fun j => if j = (n + 1 : Nat) then f (n : Int) else f j) else fun j => if j = (n + 1 : Nat) then d else f j
/-- the ways of the first i lines that are matched by slip 0, in order; how many -/
def sWs (a : pw_H) (l y : Int) : Nat → (Int → Int) × Nat
  | 0 => (fun _ => 0, 0)
  | i + 1 => if sStar a l y 0 i = -9 ∨ ¬ sRk a l i (sStar a l y 0 i) y 0 % 4 = 0 then sWs a l y i else (sIns (sWay (sSky a (sStar a l y 0 i) y) (a 6 (l * 8 + i))) (sWs a l y i).2 (sWs a l y i).1, (sWs a l y i).2 + 1)
def sTold (a : pw_H) (l y : Int) : Int := if (sWs a l y (a 5 l).toNat).2 = 0 then -9 else (sWs a l y (a 5 l).toNat).1 ((((sWs a l y (a 5 l).toNat).2 : Int) - 1) / 2) + 30
def s_shift (a : pw_H) (l y : Int) : sR := if bList a l = false then (-1, a) else if bIn y (-3000) 3000 = false then (-2, a) else (sTold a l y, a)
/-- the faults that the first i lines of a list tell, by star -/
def sFs (a : pw_H) (l y h : Int) : Nat → (Int → Int)
  | 0 => fun _ => 0
  | i + 1 => if sStar a l y h i = -9 then sFs a l y h i else fun s => if s = sStar a l y h i then sRk a l i (sStar a l y h i) y h % 4 else sFs a l y h i s
def sFault (a : pw_H) (l y h s : Int) : Int := sFs a l y h (a 5 l).toNat s
def s_fault (a : pw_H) (l s y h : Int) : sR := if (bList a l && bStar a s) = false then (-1, a) else if bMom y h = false then (-2, a) else (sFault a l y h s, a)
def sShare (a : pw_H) (p q y h : Int) : Int := sSum (fun s => zB (decide (¬ sFault a p y h s = 0 ∧ sFault a p y h s = sFault a q y h s))) (a 0 0).toNat
def sApart (a : pw_H) (p q y h : Int) : Int := sSum (fun s => zB (decide (¬ sFault a p y h s = sFault a q y h s))) (a 0 0).toNat
def s_share (a : pw_H) (p q y h : Int) : sR := if (bList a p && bList a q) = false then (-1, a) else if bMom y h = false then (-2, a) else (sShare a p q y h, a)
def s_apart (a : pw_H) (p q y h : Int) : sR := if (bList a p && bList a q) = false then (-1, a) else if bMom y h = false then (-2, a) else (sApart a p q y h, a)
end
section
set_option maxRecDepth 100000 in
theorem c_J7_fill_d0a16 (l : Launch) (G : pw_G) (σ : pw_H) {v : Int} : Ct l shX G mJ7_fill_d0a16 [.ref (G.2.1 16), vL v] σ (fun r τ => r = none ∧ Fr [16] σ τ ∧ ∀ j : Int, 0 ≤ j → j < 256 → τ 16 j = v) := by
  refine Ct_of (ls := [some (.ref (G.2.1 16)), some (vL v), none, none, none]) (by decide +kernel) (Nat.le_of_ble_eq_true rfl) rfl (fun X C => ?_)
  have loop : ∀ (n i : Nat) (τ : pw_H), i + n = 256 → Fr [16] σ τ → (∀ j : Int, 0 ≤ j → j < i → τ 16 j = v) → PW X shX G 6 [some (.ref (G.2.1 16)), some (vL v), none, some (vI i), some (vI (256 : Nat))] [] τ := by
    intro n
    induction n with
    | zero =>
      intro i τ hi hF hj
      refine r_iload_n C rfl dJ7_fill_d0a16_6 ?_
      refine r_iload C rfl dJ7_fill_d0a16_7 ?_
      refine r_icmp_ge (tgt := 22) C (by decide) (by omega) (by omega) dJ7_fill_d0a16_9 (fun c9 => ?_) (fun c9 => ?_)
      · refine r_return C rfl ?_ dJ7_fill_d0a16_22
        exact ⟨rfl, hF, fun j j1 j2 => hj j j1 (by omega)⟩
      · omega
    | succ n ih =>
      intro i τ hi hF hj
      refine r_iload_n C rfl dJ7_fill_d0a16_6 ?_
      refine r_iload C rfl dJ7_fill_d0a16_7 ?_
      refine r_icmp_ge (tgt := 22) C (by decide) (by omega) (by omega) dJ7_fill_d0a16_9 (fun c9 => ?_) (fun c9 => ?_)
      · omega
      · refine r_aload_n C rfl dJ7_fill_d0a16_12 ?_
        refine r_iload_n C rfl dJ7_fill_d0a16_13 ?_
        refine r_lload_n C rfl dJ7_fill_d0a16_14 ?_
        refine r_lastore C rfl (by decide) (by omega) dJ7_fill_d0a16_15 ?_
        refine r_iinc (ls' := [_, _, _, _, _]) C rfl (by decide) rfl rfl dJ7_fill_d0a16_16 ?_
        refine r_goto (tgt := 6) C (by decide) dJ7_fill_d0a16_19 ?_
        refine ih (i + 1) _ (by omega) (hF.tr (Fr.u (by decide)) (fun _ q => q) (fun _ q => q)) (fun j j1 j2 => ?_)
        by_cases q : j = i
        · rw [q, pw_u_s]
        · rw [pw_u_j q]; exact hj j j1 (by omega)
  refine r_iconst C dJ7_fill_d0a16_0 ?_
  refine r_istore_n (ls' := [_, _, _, _, _]) C (by decide) rfl rfl dJ7_fill_d0a16_1 ?_
  refine r_aload_n C rfl dJ7_fill_d0a16_2 ?_
  refine r_alen C rfl dJ7_fill_d0a16_3 ?_
  refine r_istore (ls' := [_, _, _, _, _]) C (by decide) rfl rfl dJ7_fill_d0a16_4 ?_
  exact loop 256 0 σ (by omega) Fr.rf (fun j j1 j2 => by omega)
theorem p16 : ∀ i : Nat, i < 8 → (2 : Int) ^ (4 * (7 - i)) = 16 ^ (7 - i) := by decide
theorem p16N : ∀ i : Nat, i < 8 → 2 ^ (4 * (7 - i)) = 16 ^ (7 - i) := by decide
theorem p16b : ∀ i : Nat, i < 8 → 1 ≤ (16 : Int) ^ (7 - i) ∧ (16 : Int) ^ (7 - i) ≤ 268435456 := by decide
set_option maxRecDepth 100000 in
theorem c_X1_digitPlace (l : Launch) (G : pw_G) (σ : pw_H) {i : Nat} (hi : i < 8) : Ct l shX G mX1_digitPlace [vI (i : Int)] σ (pv ((4 * (7 - i) : Nat) : Int) σ) := by
  refine Ct_of (ls := [some (vI (i : Int))]) (by decide +kernel) (Nat.le_of_ble_eq_true rfl) rfl (fun X C => ?_)
  refine r_iconst C dX1_digitPlace_0 ?_
  refine r_bipush C (by decide +kernel) dX1_digitPlace_1 ?_
  refine r_iload_n C rfl dX1_digitPlace_3 ?_
  refine r_isub C dX1_digitPlace_4 ?_
  refine r_imul C dX1_digitPlace_5 ?_
  refine r_ireturn C rfl ?_ dX1_digitPlace_6
  exact pv_of (by omega) rfl
set_option maxRecDepth 100000 in
theorem c_X1_keyPart (l : Launch) (G : pw_G) (σ : pw_H) {i c d : Nat} (hi : i < 8) (hc : c < 1048576) (hd : d < 16) : Ct l shX G mX1_keyPart [vI (i : Int), vI (c : Int), vI (d : Int)] σ (fun r τ => r = some (vL (c * 4294967296 + d * 16 ^ (7 - i))) ∧ σ = τ) := by
  refine Ct_of (ls := [some (vI (i : Int)), some (vI (c : Int)), some (vI (d : Int))]) (by decide +kernel) (Nat.le_of_ble_eq_true rfl) rfl (fun X C => ?_)
  refine r_iload_n C rfl dX1_keyPart_0 ?_
  refine r_i2l C (l_i2l (by omega)) dX1_keyPart_1 ?_
  refine r_bipush C (by decide +kernel) dX1_keyPart_2 ?_
  refine r_lshl C (l_shl c (k := 32) (by decide)) dX1_keyPart_4 ?_
  refine r_iload_n C rfl dX1_keyPart_5 ?_
  refine r_i2l C (l_i2l (by omega)) dX1_keyPart_6 ?_
  refine r_iload_n C rfl dX1_keyPart_7 ?_
  refine r_callS (As := [_]) C (c_X1_digitPlace _ _ _ hi) ok_X1_digitPlace ln_X1_120 rfl rfl (Nat.le_of_ble_eq_true rfl) (Nat.le_of_ble_eq_true rfl) (Nat.le_of_ble_eq_true rfl) dX1_keyPart_8 (fun v8 τ8 hq8 => ?_)
  obtain ⟨rfl, rfl⟩ := hq8
  refine r_lshl C (l_shl d (k := 4 * (7 - i)) (by omega)) dX1_keyPart_11 ?_
  refine r_ladd C dX1_keyPart_12 ?_
  refine r_lreturn C rfl ?_ dX1_keyPart_13
  refine ⟨?_, rfl⟩
  rw [p16N i hi, Int.natCast_mul, Int.natCast_mul, Int.natCast_pow, Int.natCast_pow]
  rfl
/-- what gatherFits leaves: F stars st, that match and count, what each adds to a key -/
def Fits (σ : pw_H) (N : Nat) (p : Nat → Bool) (q : Nat → Int) (F : Nat) (st : Nat → Nat) : Prop := σ 3 9 = F ∧ F ≤ N ∧ (∀ f : Nat, f < F → st f < N ∧ p (st f) = true ∧ σ 17 f = ((2 ^ st f : Nat) : Int) ∧ σ 18 f = q (st f)) ∧ (∀ s, s < N → p s = true → ∃ f, f < F ∧ st f = s)
/-- a key behind a line: b is not above it if it isn't above any way to it -/
def Kn (K : Int → Int) (N : Nat) (p : Nat → Bool) (q : Nat → Int) (left : Int) (T : Nat) (v : Int) : Prop := ∀ b : Int, b ≤ v ↔ b ≤ K T + left ∧ ∀ s, s < N → p s = true → T.testBit s = true → b ≤ K ((T ^^^ 2 ^ s : Nat) : Int) + q s
theorem b_less8 : ∀ T : Nat, T < 256 → ∀ s : Nat, s < 8 → T.testBit s = true → T ^^^ 2 ^ s < T := by decide +kernel
/-- fewer places known -/
def pw_m : List (Option Value) → List Bool → List (Option Value)
  | a :: r, b :: m => (if b then a else none) :: pw_m r m
  | _, _ => []
theorem pw_m_at : ∀ (ls : List (Option Value)) (m : List Bool) (i : Nat) (v : Value), (pw_m ls m)[i]? = some (some v) → ls[i]? = some (some v)
  | [], m, i, v, h => by cases m <;> simp [pw_m] at h
  | a :: r, [], i, v, h => by simp [pw_m] at h
  | a :: r, b :: m, 0, v, h => by cases b <;> simp [pw_m] at h ⊢; exact h
  | a :: r, b :: m, i + 1, v, h => by
    simp only [pw_m, List.getElem?_cons_succ] at h ⊢
    exact pw_m_at r m i v h
theorem PW_lw {X : PXT} {sh : pw_S} {G : pw_G} {pc : Nat} {ls ls' : List (Option Value)} {st : List Value} {σ : pw_H} (m : List Bool) (h : PW X sh G pc ls' st σ) (e : pw_m ls m = ls') : PW X sh G pc ls st σ := by
  obtain ⟨p, l, e', R, s, mm, args, below, meth, c, A, Z, n⟩ := X
  subst e
  intro H locs la hl hP hS
  refine h H locs la ⟨hl.1, hl.2.1, fun q hq => ?_⟩ hP hS
  obtain ⟨j, v⟩ := q
  obtain ⟨t, ht, hv⟩ := (pw_l_mem _ 0 j v).mp hq
  exact hl.2.2 (j, v) ((pw_l_mem _ 0 j v).mpr ⟨t, ht, pw_m_at ls m t v hv⟩)
theorem b_none {T s : Nat} : T &&& 2 ^ s = 0 ↔ T.testBit s = false := by
  constructor
  · intro h
    have := congrArg (fun x => x.testBit s) h
    simpa using this
  · intro h
    apply Nat.eq_of_testBit_eq
    intro j
    by_cases q : s = j
    · subst q; simp [h]
    · simp [Nat.testBit_two_pow, q]
set_option maxRecDepth 100000 in
set_option maxHeartbeats 4000000 in
theorem c_X1_takeLine (l : Launch) (G : pw_G) (σ : pw_H) {i Z N : Nat} {p : Nat → Bool} {q : Nat → Int} {F : Nat} {st : Nat → Nat} (hi : i < 8) (hZ : Z < 256) (hN : N ≤ 8) (hF : Fits σ N p q F st) (hK : ∀ T : Nat, T < 256 → 0 ≤ σ 16 T ∧ σ 16 T ≤ 2305843009213693952) (hq : ∀ s, s < N → p s = true → 0 ≤ q s ∧ q s ≤ 36028797018963968) :
    Ct l shX G mX1_takeLine [.ref (G.2.1 3), vI (i : Int), vI (Z : Int)] σ (fun r τ => r = none ∧ Fr [16] σ τ ∧ ∀ T : Nat, T < 256 → (T &&& Z = T → Kn (σ 16) N p q (100 * 4294967296 + 8 * 16 ^ (7 - i)) T (τ 16 T)) ∧ (¬ T &&& Z = T → τ 16 T = σ 16 T)) := by
  obtain ⟨f1, f2, f3, f4⟩ := hF
  have hw := p16b i hi
  refine Ct_of (ls := [some (.ref (G.2.1 3)), some (vI (i : Int)), some (vI (Z : Int)), none, none, none, none, none, none]) (by decide +kernel) (Nat.le_of_ble_eq_true rfl) rfl (fun X C => ?_)
  have loop : ∀ (n : Nat) (υ : pw_H), n ≤ Z + 1 → Fr [16] σ υ → (∀ T : Nat, T < 256 → (T < n → υ 16 T = σ 16 T) ∧ (n ≤ T → (T &&& Z = T → Kn (σ 16) N p q (100 * 4294967296 + 8 * 16 ^ (7 - i)) T (υ 16 T)) ∧ (¬ T &&& Z = T → υ 16 T = σ 16 T))) → PW X shX G 12 [some (.ref (G.2.1 3)), some (vI (i : Int)), some (vI (Z : Int)), some (vL (100 * 4294967296 + 8 * 16 ^ (7 - i))), none, some (vI ((n : Int) - 1)), none, none, none] [] υ := by
    intro n
    induction n with
    | zero =>
      intro υ hn hFr hT
      refine r_iload C rfl dX1_takeLine_12 ?_
      refine r_if_lt (tgt := 119) C (by decide) (by omega) dX1_takeLine_14 (fun c14 => ?_) (fun c14 => ?_)
      · refine r_return C rfl ?_ dX1_takeLine_119
        exact ⟨rfl, hFr, fun T h => (hT T h).2 (Nat.zero_le T)⟩
      · omega
    | succ n ih =>
      intro υ hn hFr hT
      have e1 : υ 3 9 = F := (congrFun (hFr 3 (by decide)) 9).trans f1
      have e2 : ∀ f : Nat, υ 17 f = σ 17 f := fun f => congrFun (hFr 17 (by decide)) f
      have e3 : ∀ f : Nat, υ 18 f = σ 18 f := fun f => congrFun (hFr 18 (by decide)) f
      have hn0 : ((n + 1 : Nat) : Int) - 1 = (n : Int) := by omega
      have eK : ∀ T : Nat, T < n + 1 → υ 16 T = σ 16 T := fun T h => (hT T (by omega)).1 h
      rw [hn0]
      have ex : ∀ m : Int, 0 ≤ m → m ≤ 4611686018427387904 → n &&& Z = n → Kn (σ 16) N p q (100 * 4294967296 + 8 * 16 ^ (7 - i)) n m → PW X shX G 104 [some (.ref (G.2.1 3)), some (vI (i : Int)), some (vI (Z : Int)), some (vL (100 * 4294967296 + 8 * 16 ^ (7 - i))), none, some (vI (n : Int)), some (vL m), none, some (vI (F : Int))] [] υ := by
        intro m m0 m1 hs hm
        refine r_aload_n C rfl dX1_takeLine_104 ?_
        refine r_getR C 1 6 rfl rfl (by decide) rfl uw_X1 fl_X1_25 dX1_takeLine_105 ?_
        refine r_iload C rfl dX1_takeLine_108 ?_
        refine r_lload C rfl dX1_takeLine_110 ?_
        refine r_lastore C rfl (by decide) (by omega) dX1_takeLine_112 ?_
        refine r_iinc (ls' := [_, _, _, _, _, _, _, _, _]) C rfl (by decide) rfl rfl dX1_takeLine_113 ?_
        refine r_goto (tgt := 12) C (by decide) dX1_takeLine_116 ?_
        refine PW_lw [true, true, true, true, false, true, false, false, false] (ih _ (by omega) (hFr.tr (Fr.u (by decide)) (fun _ q => q) (fun _ q => q)) (fun T h => ?_)) ?_
        · by_cases q0 : T = n
          · subst q0
            exact ⟨fun q1 => by omega, fun _ => ⟨fun _ => by rw [pw_u_s]; exact hm, fun q1 => absurd hs q1⟩⟩
          · have e5 : pw_u υ 16 (n : Int) m 16 (T : Int) = υ 16 T := pw_u_j (by omega)
            rw [e5]
            exact ⟨fun q1 => eK T (by omega), fun q1 => (hT T h).2 (by omega)⟩
        · rfl
      have inner : ∀ (k f : Nat) (m : Int), f + k = F → n &&& Z = n → 0 ≤ m → m ≤ 4611686018427387904 → (∀ b : Int, b ≤ m ↔ b ≤ σ 16 n + (100 * 4294967296 + 8 * 16 ^ (7 - i)) ∧ ∀ g : Nat, g < f → n.testBit (st g) = true → b ≤ σ 16 ((n ^^^ 2 ^ st g : Nat) : Int) + q (st g)) → PW X shX G 43 [some (.ref (G.2.1 3)), some (vI (i : Int)), some (vI (Z : Int)), some (vL (100 * 4294967296 + 8 * 16 ^ (7 - i))), none, some (vI (n : Int)), some (vL m), none, some (vI (f : Int))] [] υ := by
        intro k
        induction k with
        | zero =>
          intro f m hf hs m0 m1 hm
          refine r_iload C rfl dX1_takeLine_43 ?_
          refine r_aload_n C rfl dX1_takeLine_45 ?_
          refine r_getI (jz := 9) C 1 9 rfl rfl (by decide) rfl uw_X1 fl_X1_35 rfl dX1_takeLine_46 ?_
          refine r_icmp_ge (tgt := 104) C (by decide) (by omega) (by omega) dX1_takeLine_49 (fun c49 => ?_) (fun c49 => ?_)
          · have hfF : f = F := by omega
            subst hfF
            refine ex m m0 m1 hs (fun b => (hm b).trans ⟨fun h => ⟨h.1, fun s s1 s2 s3 => ?_⟩, fun h => ⟨h.1, fun g g1 g2 => h.2 (st g) (f3 g g1).1 (f3 g g1).2.1 g2⟩⟩)
            obtain ⟨g, g1, g2⟩ := f4 s s1 s2
            subst g2
            exact h.2 g g1 s3
          · omega
        | succ k ihk =>
          intro f m hf hs m0 m1 hm
          have hfF : f < F := by omega
          obtain ⟨s1, s2, s3, s4⟩ := f3 f hfF
          have s5 := e2 f
          have s6 := e3 f
          have s7 := hq _ s1 s2
          have hn256 : n < 256 := by omega
          have hb1 : n &&& 2 ^ st f < 256 := Nat.lt_of_le_of_lt Nat.and_le_left hn256
          refine r_iload C rfl dX1_takeLine_43 ?_
          refine r_aload_n C rfl dX1_takeLine_45 ?_
          refine r_getI (jz := 9) C 1 9 rfl rfl (by decide) rfl uw_X1 fl_X1_35 rfl dX1_takeLine_46 ?_
          refine r_icmp_ge (tgt := 104) C (by decide) (by omega) (by omega) dX1_takeLine_49 (fun c49 => ?_) (fun c49 => ?_)
          · omega
          · refine r_iload C rfl dX1_takeLine_52 ?_
            refine r_aload_n C rfl dX1_takeLine_54 ?_
            refine r_getR C 1 7 rfl rfl (by decide) rfl uw_X1 fl_X1_29 dX1_takeLine_55 ?_
            refine r_iload C rfl dX1_takeLine_58 ?_
            refine r_iaload C rfl (by decide) (by omega) dX1_takeLine_60 ?_
            rw [s5, s3]
            refine r_iand C (b_and n (2 ^ st f)) dX1_takeLine_61 ?_
            refine r_if_ne (tgt := 68) C (by decide) (by omega) dX1_takeLine_62 (fun c62 => ?_) (fun c62 => ?_)
            · have hbit : n.testBit (st f) = true := by
                rcases Bool.eq_false_or_eq_true (n.testBit (st f)) with q1 | q1
                · exact q1
                · exact absurd (by rw [b_none.mpr q1]; rfl) c62
              have hls := b_less8 n hn256 (st f) (by omega) hbit
              have hk := hK (n ^^^ 2 ^ st f) (by omega)
              have e7 := eK (n ^^^ 2 ^ st f) (by omega)
              have hz := zmin_le m (σ 16 ((n ^^^ 2 ^ st f : Nat) : Int) + q (st f))
              have hnx : ∀ b : Int, b ≤ zmin m (σ 16 ((n ^^^ 2 ^ st f : Nat) : Int) + q (st f)) ↔ b ≤ σ 16 n + (100 * 4294967296 + 8 * 16 ^ (7 - i)) ∧ ∀ g : Nat, g < f + 1 → n.testBit (st g) = true → b ≤ σ 16 ((n ^^^ 2 ^ st g : Nat) : Int) + q (st g) := by
                intro b
                rw [le_zmin, hm b]
                constructor
                · rintro ⟨⟨h1, h2⟩, h3⟩
                  refine ⟨h1, fun g g1 g2 => ?_⟩
                  by_cases q1 : g = f
                  · subst q1; exact h3
                  · exact h2 g (by omega) g2
                · rintro ⟨h1, h2⟩
                  exact ⟨⟨h1, fun g g1 g2 => h2 g (by omega) g2⟩, h2 f (by omega) hbit⟩
              refine r_lload C rfl dX1_takeLine_68 ?_
              refine r_aload_n C rfl dX1_takeLine_70 ?_
              refine r_getR C 1 6 rfl rfl (by decide) rfl uw_X1 fl_X1_25 dX1_takeLine_71 ?_
              refine r_iload C rfl dX1_takeLine_74 ?_
              refine r_aload_n C rfl dX1_takeLine_76 ?_
              refine r_getR C 1 7 rfl rfl (by decide) rfl uw_X1 fl_X1_29 dX1_takeLine_77 ?_
              refine r_iload C rfl dX1_takeLine_80 ?_
              refine r_iaload C rfl (by decide) (by omega) dX1_takeLine_82 ?_
              rw [s5, s3]
              refine r_ixor C (b_xor n (2 ^ st f)) dX1_takeLine_83 ?_
              refine r_laload C rfl (by decide) (by omega) dX1_takeLine_84 ?_
              refine r_aload_n C rfl dX1_takeLine_85 ?_
              refine r_getR C 1 8 rfl rfl (by decide) rfl uw_X1 fl_X1_32 dX1_takeLine_86 ?_
              refine r_iload C rfl dX1_takeLine_89 ?_
              refine r_laload C rfl (by decide) (by omega) dX1_takeLine_91 ?_
              refine r_ladd C dX1_takeLine_92 ?_
              rw [e7, s6, s4]
              refine r_mminL C (by omega) (by omega) ln_X1_123 st_min_long in_Math co_min_long (Nat.le_of_ble_eq_true rfl) (Nat.le_of_ble_eq_true rfl) dX1_takeLine_93 ?_
              refine r_lstore (ls' := [_, _, _, _, _, _, _, _, _]) C (by decide) rfl rfl dX1_takeLine_96 ?_
              refine r_iinc (ls' := [_, _, _, _, _, _, _, _, _]) C rfl (by decide) rfl rfl dX1_takeLine_98 ?_
              refine r_goto (tgt := 43) C (by decide) dX1_takeLine_101 ?_
              exact ihk (f + 1) _ (by omega) hs (by omega) (by omega) hnx
            · have hbit : n.testBit (st f) = false := b_none.mp (by omega)
              have hnx : ∀ b : Int, b ≤ m ↔ b ≤ σ 16 n + (100 * 4294967296 + 8 * 16 ^ (7 - i)) ∧ ∀ g : Nat, g < f + 1 → n.testBit (st g) = true → b ≤ σ 16 ((n ^^^ 2 ^ st g : Nat) : Int) + q (st g) := by
                intro b
                rw [hm b]
                constructor
                · rintro ⟨h1, h2⟩
                  refine ⟨h1, fun g g1 g2 => ?_⟩
                  by_cases q1 : g = f
                  · subst q1; rw [hbit] at g2; cases g2
                  · exact h2 g (by omega) g2
                · rintro ⟨h1, h2⟩
                  exact ⟨h1, fun g g1 g2 => h2 g (by omega) g2⟩
              refine r_goto (tgt := 98) C (by decide) dX1_takeLine_65 ?_
              refine r_iinc (ls' := [_, _, _, _, _, _, _, _, _]) C rfl (by decide) rfl rfl dX1_takeLine_98 ?_
              refine r_goto (tgt := 43) C (by decide) dX1_takeLine_101 ?_
              exact ihk (f + 1) _ (by omega) hs (by omega) (by omega) hnx
      have hn256 : n < 256 := by omega
      have hk := hK n hn256
      have e8 := eK n (by omega)
      refine r_iload C rfl dX1_takeLine_12 ?_
      refine r_if_lt (tgt := 119) C (by decide) (by omega) dX1_takeLine_14 (fun c14 => ?_) (fun c14 => ?_)
      · omega
      · refine r_iload C rfl dX1_takeLine_17 ?_
        refine r_iload_n C rfl dX1_takeLine_19 ?_
        refine r_iconst C dX1_takeLine_20 ?_
        refine r_ixor C (b_not8 Z hZ) dX1_takeLine_21 ?_
        refine r_iand C (b_mask8 Z hZ n hn256) dX1_takeLine_22 ?_
        refine r_if_eq (tgt := 29) C (by decide) (by have : n &&& (255 ^^^ Z) ≤ n := Nat.and_le_left; omega) dX1_takeLine_23 (fun c23 => ?_) (fun c23 => ?_)
        · have hs : n &&& Z = n := (b_sub8 Z hZ n hn256).mp (by omega)
          refine r_aload_n C rfl dX1_takeLine_29 ?_
          refine r_getR C 1 6 rfl rfl (by decide) rfl uw_X1 fl_X1_25 dX1_takeLine_30 ?_
          refine r_iload C rfl dX1_takeLine_33 ?_
          refine r_laload C rfl (by decide) (by omega) dX1_takeLine_35 ?_
          refine r_lload_n C rfl dX1_takeLine_36 ?_
          refine r_ladd C dX1_takeLine_37 ?_
          refine r_lstore (ls' := [_, _, _, _, _, _, _, _, _]) C (by decide) rfl rfl dX1_takeLine_38 ?_
          refine r_iconst C dX1_takeLine_40 ?_
          refine r_istore (ls' := [_, _, _, _, _, _, _, _, _]) C (by decide) rfl rfl dX1_takeLine_41 ?_
          rw [e8]
          exact inner F 0 _ (by omega) hs (by omega) (by omega) (fun b => ⟨fun h => ⟨h, fun g g1 => by omega⟩, fun h => h.1⟩)
        · have hs : ¬ n &&& Z = n := fun q1 => c23 (by rw [(b_sub8 Z hZ n hn256).mpr q1]; rfl)
          refine r_goto (tgt := 113) C (by decide) dX1_takeLine_26 ?_
          refine r_iinc (ls' := [_, _, _, _, _, _, _, _, _]) C rfl (by decide) rfl rfl dX1_takeLine_113 ?_
          refine r_goto (tgt := 12) C (by decide) dX1_takeLine_116 ?_
          refine PW_lw [true, true, true, true, false, true, false, false, false] (ih υ (by omega) hFr (fun T h => ?_)) ?_
          · by_cases q0 : T = n
            · subst q0
              exact ⟨fun q1 => by omega, fun _ => ⟨fun q1 => absurd q1 hs, fun _ => e8⟩⟩
            · exact ⟨fun q1 => eK T (by omega), fun q1 => (hT T h).2 (by omega)⟩
          · rfl
  refine r_iload_n C rfl dX1_takeLine_0 ?_
  refine r_bipush C (by decide +kernel) dX1_takeLine_1 ?_
  refine r_bipush C (by decide +kernel) dX1_takeLine_3 ?_
  refine r_callS (As := [_, _, _]) C (c_X1_keyPart (c := 100) (d := 8) _ _ _ hi (by decide) (by decide)) ok_X1_keyPart ln_X1_116 rfl rfl (Nat.le_of_ble_eq_true rfl) (Nat.le_of_ble_eq_true rfl) (Nat.le_of_ble_eq_true rfl) dX1_takeLine_5 (fun v5 τ5 hq5 => ?_)
  obtain ⟨rfl, rfl⟩ := hq5
  refine r_lstore_n (ls' := [_, _, _, _, _, _, _, _, _]) C (by decide) rfl rfl dX1_takeLine_8 ?_
  refine r_iload_n C rfl dX1_takeLine_9 ?_
  refine r_istore (ls' := [_, _, _, _, _, _, _, _, _]) C (by decide) rfl rfl dX1_takeLine_10 ?_
  refine PW_lw [true, true, true, true, false, true, false, false, false] (loop (Z + 1) σ (by omega) Fr.rf (fun T h => ⟨fun _ => rfl, fun q1 => ⟨fun q2 => ?_, fun _ => rfl⟩⟩)) ?_
  · have : T &&& Z ≤ Z := Nat.and_le_right
    omega
  · have : ((Z + 1 : Nat) : Int) - 1 = (Z : Int) := by omega
    rw [this]
    rfl
end
section
theorem x_or8 : ∀ T : Nat, T < 256 → ∀ s : Nat, s < 8 → (T ||| 2 ^ s < 256) ∧ (T.testBit s = false → (T ||| 2 ^ s) ^^^ 2 ^ s = T ∧ (T ||| 2 ^ s).testBit s = true) ∧ (T.testBit s = true → (T ^^^ 2 ^ s) ||| 2 ^ s = T ∧ (T ^^^ 2 ^ s).testBit s = false ∧ T ^^^ 2 ^ s < 256) := by decide +kernel
theorem x_sub {T Z : Nat} : T &&& Z = T ↔ ∀ j, T.testBit j = true → Z.testBit j = true := by
  constructor
  · intro h j hj
    have := congrArg (fun x => x.testBit j) h
    simp only [Nat.testBit_and, hj, Bool.true_and] at this
    exact this
  · intro h
    apply Nat.eq_of_testBit_eq
    intro j
    rw [Nat.testBit_and]
    cases hj : T.testBit j with
    | false => rfl
    | true => rw [h j hj]; rfl
theorem n_sLess4 {least kind x y more : Int} (h : least = 1048576 ∨ 0 ≤ least ∧ least ≤ 443) (h1 : 0 ≤ x) (h2 : 0 ≤ y) (h3 : 0 ≤ more ∧ more ≤ 50) (h4 : 0 ≤ kind ∧ kind ≤ 3) : sLess least kind x y more = 1048576 ∨ 0 ≤ sLess least kind x y more ∧ sLess least kind x y more ≤ 443 := by
  unfold sLess; split <;> (try split) <;> omega
theorem n_sRank4 (d w v : Int) : sRank d w v = 1048576 ∨ 0 ≤ sRank d w v ∧ sRank d w v ≤ 443 := by
  unfold sRank
  refine n_sLess4 (n_sLess4 (n_sLess4 (n_sLess4 (n_sLess4 (by omega) ?_ ?_ ?_ ?_) ?_ ?_ ?_ ?_) ?_ ?_ ?_ ?_) ?_ ?_ ?_ ?_) ?_ ?_ ?_ ?_ <;> first | exact n_abs0 _ | omega
theorem sC_lt {a : pw_H} {l y h i s : Int} : sC a l y h i s < 100000 ↔ sF a l y h i s = true := by
  unfold sC
  have h4 := n_sRank4 (sWay (sSky a s y + h) (a 6 (l * 8 + i))) (a 7 (l * 8 + i)) (a 2 s)
  rw [show sRank (sWay (sSky a s y + h) (a 6 (l * 8 + i))) (a 7 (l * 8 + i)) (a 2 s) = sRk a l i s y h from rfl] at h4
  cases e : sF a l y h i s with
  | false => simp
  | true =>
    simp only [sF, Bool.and_eq_true, Bool.not_eq_true', decide_eq_false_iff_not] at e
    simp only [if_true, iff_true]
    have := e.2
    omega
theorem sC_t {a : pw_H} {l y h i s : Int} (e : sF a l y h i s = true) : sC a l y h i s = sRk a l i s y h / 4 ∧ 0 ≤ sRk a l i s y h ∧ sRk a l i s y h ≤ 443 := by
  have h4 := n_sRank4 (sWay (sSky a s y + h) (a 6 (l * 8 + i))) (a 7 (l * 8 + i)) (a 2 s)
  rw [show sRank (sWay (sSky a s y + h) (a 6 (l * 8 + i))) (a 7 (l * 8 + i)) (a 2 s) = sRk a l i s y h from rfl] at h4
  refine ⟨by unfold sC; rw [if_pos e], ?_⟩
  simp only [sF, Bool.and_eq_true, Bool.not_eq_true', decide_eq_false_iff_not] at e
  have := e.2
  omega
theorem sC_0 {a : pw_H} {l y h : Int} : ∀ i s, 0 ≤ sC a l y h i s := by
  intro i s
  cases e : sF a l y h i s with
  | false => unfold sC; rw [e]; simp
  | true => have := sC_t e; omega
/-- what a star adds to a key at line i -/
def kq (C : Int → Int → Int) (i s : Nat) : Int := C i s * 4294967296 + s * 16 ^ (7 - i)
section KEYS
variable {C : Int → Int → Int} {N n : Nat}
theorem dW_i {i : Nat} (hi : i < n) (hn : n ≤ 8) : dW n (n - (i + 1)) = 16 ^ (7 - i) := by
  unfold dW
  rw [show 8 - n + (n - (i + 1)) = 7 - i by omega]
/-- the keys K behind i lines: together with the least keys of the rest they give the least key -/
def DPi (C : Int → Int → Int) (N n i Z : Nat) (K : Int → Int) : Prop := (∀ T : Nat, T < 256 → 0 ≤ K T ∧ K T ≤ 1152921504606846976 + i * 2251799813685248) ∧ (∀ T : Nat, T < 256 → ¬ T &&& Z = T → 1152921504606846976 ≤ K T) ∧ ∀ b : Int, b ≤ 1152921504606846976 → ((∀ T : Nat, T < 256 → b ≤ K T + sK C N n (n - i) T) ↔ b ≤ sK C N n n 0)
theorem DP_0 (hC : ∀ i s, 0 ≤ C i s) (hN : N ≤ 8) (hn : n ≤ 8) {K : Int → Int} (h0 : K 0 = 0) (h1 : ∀ T : Nat, T < 256 → T ≠ 0 → K T = 1152921504606846976) : DPi C N n 0 0 K := by
  refine ⟨fun T hT => ?_, fun T hT hs => ?_, fun b hb => ⟨fun h => ?_, fun h T hT => ?_⟩⟩
  · by_cases q : T = 0
    · subst q; rw [show ((0 : Nat) : Int) = 0 from rfl, h0]; omega
    · rw [h1 T hT q]; omega
  · rw [h1 T hT (fun q => hs (by rw [q]; rfl))]; exact Int.le_refl _
  · have := h 0 (by decide)
    rw [show ((0 : Nat) : Int) = 0 from rfl, h0, Int.zero_add] at this
    exact this
  · have hr := sK_rng hC hN hn (r := n - 0) (by omega) T
    by_cases q : T = 0
    · subst q; rw [show ((0 : Nat) : Int) = 0 from rfl, h0, Int.zero_add]; exact h
    · rw [h1 T hT q]; omega
theorem DP_s (hC : ∀ i s, 0 ≤ C i s) (hN : N ≤ 8) (hn : n ≤ 8) {i Z Z' : Nat} (hi : i < n) {K K' : Int → Int} (D : DPi C N n i Z K) (hZ : ∀ s : Nat, Z.testBit s = true → Z'.testBit s = true) (hZs : ∀ s : Nat, s < N → C i s < 100000 → Z'.testBit s = true)
    (hk : ∀ s : Nat, s < N → C i s < 100000 → kq C i s ≤ 36028797018963968)
    (hin : ∀ T : Nat, T < 256 → T &&& Z' = T → Kn K N (fun s => decide (C i s < 100000)) (kq C i) (100 * 4294967296 + 8 * 16 ^ (7 - i)) T (K' T)) (hout : ∀ T : Nat, T < 256 → ¬ T &&& Z' = T → K' T = K T) : DPi C N n (i + 1) Z' K' := by
  obtain ⟨d1, d2, d3⟩ := D
  have hw := p16b i (by omega)
  have hkq : ∀ s : Nat, 0 ≤ kq C i s := fun s => by
    have := hC i s
    have := Int.mul_nonneg (show (0 : Int) ≤ s by omega) (show (0 : Int) ≤ 16 ^ (7 - i) by omega)
    unfold kq; omega
  have hsub : ∀ T : Nat, ¬ T &&& Z' = T → ¬ T &&& Z = T := fun T h q => h (x_sub.mpr fun j hj => hZ j (x_sub.mp q j hj))
  have en : n - i = (n - (i + 1)) + 1 := by omega
  have eI : ((n : Int) - ((n - (i + 1) + 1 : Nat) : Int)) = i := by omega
  have hstep : ∀ (G : Nat) (b : Int), b ≤ sK C N n (n - i) G ↔ b ≤ 100 * 4294967296 + 8 * 16 ^ (7 - i) + sK C N n (n - (i + 1)) G ∧ ∀ s : Nat, s < N → G.testBit s = false → C i s < 100000 → b ≤ kq C i s + sK C N n (n - (i + 1)) (G ||| 2 ^ s) := by
    intro G b
    have := sK_iff (N := N) hC hN hn (r := n - (i + 1)) (by omega) G b
    rw [dW_i hi hn, eI, ← en] at this
    exact this
  refine ⟨fun T hT => ?_, fun T hT hs => ?_, fun b hb => ?_⟩
  · by_cases q : T &&& Z' = T
    · have hn' := hin T hT q
      have h1 := d1 T hT
      constructor
      · rw [hn']
        refine ⟨by omega, fun s s1 s2 s3 => ?_⟩
        have h2 := d1 _ ((x_or8 T hT s (by omega)).2.2 s3).2.2
        have := hkq s
        omega
      · have := ((hn' (K' T)).mp (Int.le_refl _)).1
        omega
    · rw [hout T hT q]
      have h1 := d1 T hT
      omega
  · rw [hout T hT hs]; exact d2 T hT (hsub T hs)
  · rw [← d3 b hb]
    constructor
    · intro h T hT
      have hr0 := sK_rng hC hN hn (r := n - (i + 1)) (by omega) T
      rw [show (b ≤ K T + sK C N n (n - i) T) ↔ (b - K T ≤ sK C N n (n - i) T) by constructor <;> intro <;> omega, hstep]
      by_cases q : T &&& Z' = T
      · refine ⟨?_, fun s s1 s2 s3 => ?_⟩
        · have h1 := h T hT
          have h2 := (((hin T hT q) (K' T)).mp (Int.le_refl _)).1
          omega
        · obtain ⟨x1, x2, -⟩ := x_or8 T hT s (by omega)
          obtain ⟨x3, x4⟩ := x2 s2
          have q2 : (T ||| 2 ^ s) &&& Z' = T ||| 2 ^ s := x_sub.mpr fun j hj => by
            rw [Nat.testBit_or, Bool.or_eq_true] at hj
            rcases hj with hj | hj
            · exact x_sub.mp q j hj
            · have : s = j := by simpa [Nat.testBit_two_pow] using hj
              subst this
              exact hZs s s1 s3
          have h1 := h _ x1
          have h2 := (((hin _ x1 q2) (K' ((T ||| 2 ^ s : Nat) : Int))).mp (Int.le_refl _)).2 s s1 (by simpa using s3) x4
          rw [x3] at h2
          omega
      · have h1 := d2 T hT (hsub T q)
        refine ⟨by omega, fun s s1 s2 s3 => ?_⟩
        have h2 := sK_rng hC hN hn (r := n - (i + 1)) (by omega) (T ||| 2 ^ s)
        have := hkq s
        omega
    · intro h T hT
      have hr0 := sK_rng hC hN hn (r := n - (i + 1)) (by omega) T
      by_cases q : T &&& Z' = T
      · rw [show (b ≤ K' T + sK C N n (n - (i + 1)) T) ↔ (b - sK C N n (n - (i + 1)) T ≤ K' T) by constructor <;> intro <;> omega, hin T hT q]
        refine ⟨?_, fun s s1 s2 s3 => ?_⟩
        · have h1 := h T hT
          have h2 := ((hstep T _).mp (Int.le_refl _)).1
          omega
        · obtain ⟨-, -, x2⟩ := x_or8 T hT s (by omega)
          obtain ⟨x3, x4, x5⟩ := x2 s3
          have h1 := h _ x5
          have h2 := ((hstep (T ^^^ 2 ^ s) _).mp (Int.le_refl _)).2 s s1 x4 (by simpa using s2)
          rw [x3] at h2
          omega
      · rw [hout T hT q]
        have h1 := d2 T hT (hsub T q)
        omega
theorem DP_end (hC : ∀ i s, 0 ≤ C i s) (hN : N ≤ 8) (hn : n ≤ 8) {Z : Nat} (hZ : Z < 256) {K : Int → Int} (D : DPi C N n n Z K) {m : Int} (hm : ∀ b : Int, b ≤ m ↔ ∀ T : Nat, T ≤ Z → b ≤ K T) : m = sK C N n n 0 := by
  obtain ⟨d1, d2, d3⟩ := D
  have hr := sK_rng hC hN hn (r := n) (Nat.le_refl n) 0
  have e : ∀ T, sK C N n (n - n) T = 0 := fun T => by rw [Nat.sub_self]; rfl
  have key : ∀ b : Int, b ≤ 1152921504606846976 → (b ≤ m ↔ b ≤ sK C N n n 0) := by
    intro b hb
    rw [← d3 b hb, hm b]
    constructor
    · intro h T hT
      rw [e, Int.add_zero]
      rcases Nat.lt_or_ge Z T with q | q
      · have hs : ¬ T &&& Z = T := fun q2 => by
          have : T &&& Z ≤ Z := Nat.and_le_right
          omega
        have := d2 T hT hs
        omega
      · exact h T q
    · intro h T hT
      have := h T (by omega)
      rw [e, Int.add_zero] at this
      exact this
  have h1 : sK C N n n 0 ≤ m := (key _ (by omega)).mpr (Int.le_refl _)
  have h2 : ¬ sK C N n n 0 + 1 ≤ m := fun q => by
    have := (key (sK C N n n 0 + 1) (by omega)).mp q
    omega
  omega
end KEYS
end
section
theorem Fits_s {σ τ : pw_H} {k F : Nat} {p : Nat → Bool} {q : Nat → Int} {st : Nat → Nat} (h : Fits σ k p q F st) (e : Fr [3, 17, 18] σ τ) : True := trivial
set_option maxRecDepth 100000 in
set_option maxHeartbeats 4000000 in
theorem c_X1_gatherFits (l : Launch) (G : pw_G) (σ : pw_H) {t i : Nat} {y h : Int} (hI : Inv (vX σ)) (ht : t < 6) (hi : i < 8) (hsky : ∀ s : Int, 0 ≤ s → s < σ 1 4 → σ 15 s = sSky (vX σ) s y + h) (hh : -600 ≤ h ∧ h ≤ 600) :
    Ct l shX G mX1_gatherFits [.ref (G.2.1 3), vI (t : Int), vI (i : Int)] σ (fun r τ => Fr [3, 17, 18] σ τ ∧ ∃ (Z F : Nat) (st : Nat → Nat), r = some (vI (Z : Int)) ∧ Z < 256 ∧ (∀ s : Nat, Z.testBit s = (decide (s < (σ 1 4).toNat) && sF (vX σ) t y h i s)) ∧ Fits τ (σ 1 4).toNat (fun s => sF (vX σ) t y h i s) (kq (sC (vX σ) t y h) i) F st) := by
  have h0 : 0 ≤ σ 1 4 ∧ σ 1 4 ≤ 8 := hI.1
  refine Ct_of (ls := [some (.ref (G.2.1 3)), some (vI (t : Int)), some (vI (i : Int)), none, none, none]) (by decide +kernel) (Nat.le_of_ble_eq_true rfl) rfl (fun X C => ?_)
  have loop : ∀ (n k : Nat) (τ : pw_H) (Z F : Nat) (st : Nat → Nat), k + n = (σ 1 4).toNat → Fr [3, 17, 18] σ τ → Z < 256 → (∀ s : Nat, Z.testBit s = (decide (s < k) && sF (vX σ) t y h i s)) → Fits τ k (fun s => sF (vX σ) t y h i s) (kq (sC (vX σ) t y h) i) F st → PW X shX G 10 [some (.ref (G.2.1 3)), some (vI (t : Int)), some (vI (i : Int)), some (vI (Z : Int)), some (vI (k : Int)), none] [] τ := by
    intro n
    induction n with
    | zero =>
      intro k τ Z F st hk hF hZ hb hs
      have e1 : τ 1 4 = σ 1 4 := congrFun (hF 1 (by decide)) 4
      have ek : k = (σ 1 4).toNat := by omega
      refine r_iload C rfl dX1_gatherFits_10 ?_
      refine r_aload_n C rfl dX1_gatherFits_12 ?_
      refine r_getR C 1 3 rfl rfl (by decide) rfl uw_X1 fl_X1_38 dX1_gatherFits_13 ?_
      refine r_getI (jz := 4) C 3 4 rfl rfl (by decide) rfl uw_X4 fl_X1_82 rfl dX1_gatherFits_16 ?_
      refine r_icmp_ge (tgt := 118) C (by decide) (by omega) (by omega) dX1_gatherFits_19 (fun c19 => ?_) (fun c19 => ?_)
      · refine r_iload_n C rfl dX1_gatherFits_118 ?_
        refine r_ireturn C rfl ?_ dX1_gatherFits_119
        exact ⟨hF, Z, F, st, rfl, hZ, by rw [← ek]; exact hb, by rw [← ek]; exact hs⟩
      · omega
    | succ n ih =>
      intro k τ Z F st hk hF hZ hb hs
      have e1 : τ 1 4 = σ 1 4 := congrFun (hF 1 (by decide)) 4
      have e2 : vX τ = vX σ := Fr_vX hF (by decide)
      have e3 : τ 15 k = sSky (vX σ) k y + h := (congrFun (hF 15 (by decide)) k).trans (hsky k (by omega) (by omega))
      obtain ⟨g1, g2, g3, g4⟩ := hs
      have hsk := n_sky (vX σ) k y
      have hrk : 0 ≤ sRk (vX σ) t i k y h ∧ sRk (vX σ) t i k y h ≤ 1048576 := n_sRank _ _ _
      have hno : sF (vX σ) t y h i k = false → PW X shX G 10 [some (.ref (G.2.1 3)), some (vI (t : Int)), some (vI (i : Int)), some (vI (Z : Int)), some (vI ((k : Int) + 1)), none] [] τ := fun hf =>
        PW_ls (ih (k + 1) τ Z F st (by omega) hF hZ (fun s => by
          rw [hb s]
          by_cases q : s = k
          · subst q; rw [hf]; simp
          · rw [show decide (s < k + 1) = decide (s < k) from (by rw [decide_eq_decide]; omega)]) ⟨g1, by omega, fun f f1 => ⟨by have := (g3 f f1).1; omega, (g3 f f1).2⟩, fun s s1 s2 => by
          by_cases q : s = k
          · subst q
            have s3 : sF (vX σ) t y h i s = true := s2
            rw [hf] at s3; cases s3
          · exact g4 s (by omega) s2⟩) rfl
      refine r_iload C rfl dX1_gatherFits_10 ?_
      refine r_aload_n C rfl dX1_gatherFits_12 ?_
      refine r_getR C 1 3 rfl rfl (by decide) rfl uw_X1 fl_X1_38 dX1_gatherFits_13 ?_
      refine r_getI (jz := 4) C 3 4 rfl rfl (by decide) rfl uw_X4 fl_X1_82 rfl dX1_gatherFits_16 ?_
      refine r_icmp_ge (tgt := 118) C (by decide) (by omega) (by omega) dX1_gatherFits_19 (fun c19 => ?_) (fun c19 => ?_)
      · omega
      · refine r_aload_n C rfl dX1_gatherFits_22 ?_
        refine r_getR C 1 3 rfl rfl (by decide) rfl uw_X1 fl_X1_38 dX1_gatherFits_23 ?_
        refine r_iload C rfl dX1_gatherFits_26 ?_
        refine r_callV (As := [_]) C (c_X4_counts _ _ _ (e2 ▸ hI) (by omega)) ok_X4_counts ln_X1_107 rfl rfl rfl rfl (Nat.le_of_ble_eq_true rfl) (Nat.le_of_ble_eq_true rfl) (Nat.le_of_ble_eq_true rfl) dX1_gatherFits_28 (fun v28 τ28 hq28 => ?_)
        obtain ⟨rfl, rfl⟩ := hq28
        refine r_ifB_ne (tgt := 37) C (by decide) dX1_gatherFits_31 (fun c31 => ?_) (fun c31 => ?_)
        · refine r_aload_n C rfl dX1_gatherFits_37 ?_
          refine r_iload_n C rfl dX1_gatherFits_38 ?_
          refine r_iload_n C rfl dX1_gatherFits_39 ?_
          refine r_iload C rfl dX1_gatherFits_40 ?_
          refine r_callV (As := [_, _, _]) C (c_X1_turnedRank _ _ _ (e2 ▸ hI) (by omega) (by omega) (by omega) (by rw [e3]; omega)) ok_X1_turnedRank ln_X1_50 rfl rfl rfl rfl (Nat.le_of_ble_eq_true rfl) (Nat.le_of_ble_eq_true rfl) (Nat.le_of_ble_eq_true rfl) dX1_gatherFits_42 (fun v42 τ42 hq42 => ?_)
          obtain ⟨rfl, rfl⟩ := hq42
          rw [e3, e2, show sRank (sWay (sSky (vX σ) k y + h) (vX σ 6 ((t : Int) * 8 + i))) (vX σ 7 ((t : Int) * 8 + i)) (vX σ 2 k) = sRk (vX σ) t i k y h from rfl]
          refine r_istore (ls' := [_, _, _, _, _, _]) C (by decide) rfl rfl dX1_gatherFits_45 ?_
          refine r_iload C rfl dX1_gatherFits_47 ?_
          refine r_ldc C (z := 1048576) cn_X1_111 (by decide +kernel) dX1_gatherFits_49 ?_
          refine r_icmp_ne (tgt := 57) C (by decide) (by omega) (by omega) dX1_gatherFits_51 (fun c51 => ?_) (fun c51 => ?_)
          · have hf : sF (vX σ) t y h i k = true := by rw [e2] at c31; unfold sF; rw [c31, decide_eq_false c51]; rfl
            obtain ⟨r1, r2, r3⟩ := sC_t hf
            have hF8 : F < 8 := by omega
            have hp : ∀ s : Nat, s < 8 → (2 : Nat) ^ s < 256 := by decide
            have hpk := hp k (by omega)
            refine r_aload_n C rfl dX1_gatherFits_57 ?_
            refine r_getR C 1 7 rfl rfl (by decide) rfl uw_X1 fl_X1_29 dX1_gatherFits_58 ?_
            refine r_aload_n C rfl dX1_gatherFits_61 ?_
            refine r_getI (jz := 9) C 1 9 rfl rfl (by decide) rfl uw_X1 fl_X1_35 rfl dX1_gatherFits_62 ?_
            rw [g1]
            refine r_iconst C dX1_gatherFits_65 ?_
            refine r_iload C rfl dX1_gatherFits_66 ?_
            refine r_ishl C (b_shl8 k (by omega)) dX1_gatherFits_68 ?_
            refine r_iastore C rfl (by decide) (by omega) dX1_gatherFits_69 ?_
            refine r_aload_n C rfl dX1_gatherFits_70 ?_
            refine r_getR C 1 8 rfl rfl (by decide) rfl uw_X1 fl_X1_32 dX1_gatherFits_71 ?_
            refine r_aload_n C rfl dX1_gatherFits_74 ?_
            refine r_getI (jz := 9) C 1 9 rfl rfl (by decide) rfl uw_X1 fl_X1_35 rfl dX1_gatherFits_75 ?_
            try simp (disch := decide) only [pw_u_k, pw_u_j, pw_u_s]
            rw [g1]
            refine r_iload_n C rfl dX1_gatherFits_78 ?_
            refine r_iload C rfl dX1_gatherFits_79 ?_
            refine r_callS (As := [_]) C (c_X3_costOf _ _ _ (by omega)) ok_X3_costOf ln_X1_112 rfl rfl (Nat.le_of_ble_eq_true rfl) (Nat.le_of_ble_eq_true rfl) (Nat.le_of_ble_eq_true rfl) dX1_gatherFits_81 (fun v81 τ81 hq81 => ?_)
            obtain ⟨rfl, rfl⟩ := hq81
            refine r_iload C rfl dX1_gatherFits_84 ?_
            rw [show sRk (vX σ) t i k y h / 4 = ((sRk (vX σ) t i k y h / 4).toNat : Int) by omega]
            refine r_callS (As := [_, _, _]) C (c_X1_keyPart (c := (sRk (vX σ) t i k y h / 4).toNat) (d := k) _ _ _ hi (by omega) (by omega)) ok_X1_keyPart ln_X1_116 rfl rfl (Nat.le_of_ble_eq_true rfl) (Nat.le_of_ble_eq_true rfl) (Nat.le_of_ble_eq_true rfl) dX1_gatherFits_86 (fun v86 τ86 hq86 => ?_)
            obtain ⟨rfl, rfl⟩ := hq86
            refine r_lastore C rfl (by decide) (by omega) dX1_gatherFits_89 ?_
            refine r_iload_n C rfl dX1_gatherFits_90 ?_
            refine r_aload_n C rfl dX1_gatherFits_91 ?_
            refine r_getR C 1 7 rfl rfl (by decide) rfl uw_X1 fl_X1_29 dX1_gatherFits_92 ?_
            refine r_aload_n C rfl dX1_gatherFits_95 ?_
            refine r_getI (jz := 9) C 1 9 rfl rfl (by decide) rfl uw_X1 fl_X1_35 rfl dX1_gatherFits_96 ?_
            try simp (disch := decide) only [pw_u_k, pw_u_j, pw_u_s]
            rw [g1]
            refine r_iaload C rfl (by decide) (by omega) dX1_gatherFits_99 ?_
            try simp (disch := decide) only [pw_u_k, pw_u_j, pw_u_s]
            refine r_ior C (b_or Z (2 ^ k)) dX1_gatherFits_100 ?_
            refine r_istore_n (ls' := [_, _, _, _, _, _]) C (by decide) rfl rfl dX1_gatherFits_101 ?_
            refine r_aload_n C rfl dX1_gatherFits_102 ?_
            refine r_dup C rfl dX1_gatherFits_103 ?_
            refine r_getI (jz := 9) C 1 9 rfl rfl (by decide) rfl uw_X1 fl_X1_35 rfl dX1_gatherFits_104 ?_
            try simp (disch := decide) only [pw_u_k, pw_u_j, pw_u_s]
            rw [g1]
            refine r_iconst C dX1_gatherFits_107 ?_
            refine r_iadd C dX1_gatherFits_108 ?_
            refine r_putI (jz := 9) C 1 9 tyX1 tyX1_ok nmX1 rfl rfl (by decide) rfl uw_X1 fl_X1_35 rfl rfl rfl dX1_gatherFits_109 ?_
            refine r_iinc (ls' := [_, _, _, _, _, _]) C rfl (by decide) rfl rfl dX1_gatherFits_112 ?_
            refine r_goto (tgt := 10) C (by decide) dX1_gatherFits_115 ?_
            refine PW_lw [true, true, true, true, true, false] (ih (k + 1) _ (Z ||| 2 ^ k) (F + 1) (fun f => if f = F then k else st f) (by omega) ?_ (x_or8 Z hZ k (by omega)).1 (fun s => ?_) ⟨?_, by omega, fun f f1 => ?_, fun s s1 s2 => ?_⟩) rfl
            · exact ((hF.tr (Fr.u (ks := [3, 17, 18]) (by decide)) (fun _ q => q) (fun _ q => q)).tr (Fr.u (ks := [3, 17, 18]) (by decide)) (fun _ q => q) (fun _ q => q)).tr (Fr.u (by decide)) (fun _ q => q) (fun _ q => q)
            · rw [Nat.testBit_or, hb s, Nat.testBit_two_pow]
              by_cases q : s = k
              · subst q; rw [hf]; simp
              · rw [show decide (s < k + 1) = decide (s < k) from (by rw [decide_eq_decide]; omega), decide_eq_false (show ¬ k = s from fun z => q z.symm)]; simp
            · rw [pw_u_s]; rfl
            · by_cases q : f = F
              · subst q
                simp only [if_true]
                refine ⟨by omega, hf, ?_, ?_⟩
                · simp (disch := decide) only [pw_u_k, pw_u_s]
                · simp (disch := decide) only [pw_u_k, pw_u_s]
                  unfold kq
                  rw [r1]
                  omega
              · simp only [if_neg q]
                obtain ⟨f2, f3, f4, f5⟩ := g3 f (by omega)
                refine ⟨by omega, f3, ?_, ?_⟩
                · rw [pw_u_k (by decide), pw_u_k (by decide), pw_u_j (by omega)]; exact f4
                · rw [pw_u_k (by decide), pw_u_j (by omega), pw_u_k (by decide)]; exact f5
            · by_cases q : s = k
              · exact ⟨F, by omega, (if_pos rfl).trans q.symm⟩
              · obtain ⟨f, f1, f2⟩ := g4 s (by omega) s2
                exact ⟨f, by omega, (if_neg (by omega)).trans f2⟩
          · have hf : sF (vX σ) t y h i k = false := by unfold sF; rw [decide_eq_true (by omega : sRk (vX σ) t i k y h = 1048576)]; simp
            refine r_goto (tgt := 112) C (by decide) dX1_gatherFits_54 ?_
            refine r_iinc (ls' := [_, _, _, _, _, _]) C rfl (by decide) rfl rfl dX1_gatherFits_112 ?_
            refine r_goto (tgt := 10) C (by decide) dX1_gatherFits_115 ?_
            exact PW_lw [true, true, true, true, true, false] (hno hf) rfl
        · have hf : sF (vX σ) t y h i k = false := by rw [e2] at c31; unfold sF; rw [c31]; rfl
          refine r_goto (tgt := 112) C (by decide) dX1_gatherFits_34 ?_
          refine r_iinc (ls' := [_, _, _, _, _, _]) C rfl (by decide) rfl rfl dX1_gatherFits_112 ?_
          refine r_goto (tgt := 10) C (by decide) dX1_gatherFits_115 ?_
          exact hno hf
  refine r_iconst C dX1_gatherFits_0 ?_
  refine r_istore_n (ls' := [_, _, _, _, _, _]) C (by decide) rfl rfl dX1_gatherFits_1 ?_
  refine r_aload_n C rfl dX1_gatherFits_2 ?_
  refine r_iconst C dX1_gatherFits_3 ?_
  refine r_putI (jz := 9) C 1 9 tyX1 tyX1_ok nmX1 rfl rfl (by decide) rfl uw_X1 fl_X1_35 rfl rfl rfl dX1_gatherFits_4 ?_
  refine r_iconst C dX1_gatherFits_7 ?_
  refine r_istore (ls' := [_, _, _, _, _, _]) C (by decide) rfl rfl dX1_gatherFits_8 ?_
  refine loop (σ 1 4).toNat 0 _ 0 0 (fun _ => 0) (by omega) (Fr.u (by decide)) (by decide) (fun s => ?_) ⟨pw_u_s _ _ _ _, by omega, fun f f1 => by omega, fun s s1 => by omega⟩
  simp
set_option maxRecDepth 100000 in
theorem c_X1_leastKey (l : Launch) (G : pw_G) (σ : pw_H) {Z : Nat} (hZ : Z < 256) (hK : ∀ T : Nat, T < 256 → 0 ≤ σ 16 T ∧ σ 16 T ≤ 2305843009213693952) : Ct l shX G mX1_leastKey [.ref (G.2.1 3), vI (Z : Int)] σ (fun r τ => ∃ m : Int, r = some (vL m) ∧ σ = τ ∧ ∀ b : Int, b ≤ m ↔ ∀ T : Nat, T ≤ Z → b ≤ σ 16 T) := by
  refine Ct_of (ls := [some (.ref (G.2.1 3)), some (vI (Z : Int)), none, none, none]) (by decide +kernel) (Nat.le_of_ble_eq_true rfl) rfl (fun X C => ?_)
  have loop : ∀ (n k : Nat) (m : Int), k + n = Z + 1 → 0 ≤ m → m ≤ 2305843009213693952 → (∀ b : Int, b ≤ m ↔ ∀ T : Nat, T < k → b ≤ σ 16 T) → PW X shX G 10 [some (.ref (G.2.1 3)), some (vI (Z : Int)), some (vL m), none, some (vI (k : Int))] [] σ := by
    intro n
    induction n with
    | zero =>
      intro k m hk m0 m1 hm
      refine r_iload C rfl dX1_leastKey_10 ?_
      refine r_iload_n C rfl dX1_leastKey_12 ?_
      refine r_icmp_gt (tgt := 34) C (by decide) (by omega) (by omega) dX1_leastKey_13 (fun c13 => ?_) (fun c13 => ?_)
      · refine r_lload_n C rfl dX1_leastKey_34 ?_
        refine r_lreturn C rfl ?_ dX1_leastKey_35
        exact ⟨m, rfl, rfl, fun b => (hm b).trans ⟨fun h T hT => h T (by omega), fun h T hT => h T (by omega)⟩⟩
      · omega
    | succ n ih =>
      intro k m hk m0 m1 hm
      have hk2 := hK k (by omega)
      have hz := zmin_le m (σ 16 k)
      refine r_iload C rfl dX1_leastKey_10 ?_
      refine r_iload_n C rfl dX1_leastKey_12 ?_
      refine r_icmp_gt (tgt := 34) C (by decide) (by omega) (by omega) dX1_leastKey_13 (fun c13 => ?_) (fun c13 => ?_)
      · omega
      · refine r_lload_n C rfl dX1_leastKey_16 ?_
        refine r_aload_n C rfl dX1_leastKey_17 ?_
        refine r_getR C 1 6 rfl rfl (by decide) rfl uw_X1 fl_X1_25 dX1_leastKey_18 ?_
        refine r_iload C rfl dX1_leastKey_21 ?_
        refine r_laload C rfl (by decide) (by omega) dX1_leastKey_23 ?_
        refine r_mminL C (by omega) (by omega) ln_X1_123 st_min_long in_Math co_min_long (Nat.le_of_ble_eq_true rfl) (Nat.le_of_ble_eq_true rfl) dX1_leastKey_24 ?_
        refine r_lstore_n (ls' := [_, _, _, _, _]) C (by decide) rfl rfl dX1_leastKey_27 ?_
        refine r_iinc (ls' := [_, _, _, _, _]) C rfl (by decide) rfl rfl dX1_leastKey_28 ?_
        refine r_goto (tgt := 10) C (by decide) dX1_leastKey_31 ?_
        refine ih (k + 1) _ (by omega) (by omega) (by omega) (fun b => ?_)
        rw [le_zmin, hm b]
        constructor
        · rintro ⟨h1, h2⟩ T hT
          by_cases q : T = k
          · subst q; exact h2
          · exact h1 T (by omega)
        · intro h1
          exact ⟨fun T hT => h1 T (by omega), h1 k (by omega)⟩
  have hk0 := hK 0 (by decide)
  refine r_aload_n C rfl dX1_leastKey_0 ?_
  refine r_getR C 1 6 rfl rfl (by decide) rfl uw_X1 fl_X1_25 dX1_leastKey_1 ?_
  refine r_iconst C dX1_leastKey_4 ?_
  refine r_laload C rfl (by decide) (by omega) dX1_leastKey_5 ?_
  refine r_lstore_n (ls' := [_, _, _, _, _]) C (by decide) rfl rfl dX1_leastKey_6 ?_
  refine r_iconst C dX1_leastKey_7 ?_
  refine r_istore (ls' := [_, _, _, _, _]) C (by decide) rfl rfl dX1_leastKey_8 ?_
  refine loop Z 1 _ (by omega) hk0.1 hk0.2 (fun b => ⟨fun h T hT => ?_, fun h => h 0 (by decide)⟩)
  have : T = 0 := by omega
  subst this
  exact h
set_option maxRecDepth 100000 in
theorem c_X1_readKey (l : Launch) (G : pw_G) (σ : pw_H) {k : Int} {n : Nat} (hn : n ≤ 8) (hk : 0 ≤ k ∧ k ≤ 4611686018427387904) : Ct l shX G mX1_readKey [.ref (G.2.1 3), vL k, vI (n : Int)] σ (fun r τ => r = none ∧ Fr [3, 13] σ τ ∧ τ 3 2 = k / 4294967296 ∧ ∀ i : Nat, i < n → τ 13 i = if k / 16 ^ (7 - i) % 16 = 8 then -9 else k / 16 ^ (7 - i) % 16) := by
  refine Ct_of (ls := [some (.ref (G.2.1 3)), some (vL k), none, some (vI (n : Int)), none, none]) (by decide +kernel) (Nat.le_of_ble_eq_true rfl) rfl (fun X C => ?_)
  have loop : ∀ (m i : Nat) (τ : pw_H), i + m = n → Fr [3, 13] σ τ → τ 3 2 = k / 4294967296 → (∀ j : Nat, j < i → τ 13 j = if k / 16 ^ (7 - j) % 16 = 8 then -9 else k / 16 ^ (7 - j) % 16) → PW X shX G 12 [some (.ref (G.2.1 3)), some (vL k), none, some (vI (n : Int)), some (vI (i : Int)), none] [] τ := by
    intro m
    induction m with
    | zero =>
      intro i τ hi hF h2 hj
      refine r_iload C rfl dX1_readKey_12 ?_
      refine r_iload_n C rfl dX1_readKey_14 ?_
      refine r_icmp_ge (tgt := 58) C (by decide) (by omega) (by omega) dX1_readKey_15 (fun c15 => ?_) (fun c15 => ?_)
      · refine r_return C rfl ?_ dX1_readKey_58
        exact ⟨rfl, hF, h2, fun j j1 => hj j (by omega)⟩
      · omega
    | succ m ih =>
      intro i τ hi hF h2 hj
      have hi8 : i < 8 := by omega
      refine r_iload C rfl dX1_readKey_12 ?_
      refine r_iload_n C rfl dX1_readKey_14 ?_
      refine r_icmp_ge (tgt := 58) C (by decide) (by omega) (by omega) dX1_readKey_15 (fun c15 => ?_) (fun c15 => ?_)
      · omega
      · refine r_lload_n C rfl dX1_readKey_18 ?_
        refine r_iload C rfl dX1_readKey_19 ?_
        refine r_callS (As := [_]) C (c_X1_digitPlace _ _ _ hi8) ok_X1_digitPlace ln_X1_120 rfl rfl (Nat.le_of_ble_eq_true rfl) (Nat.le_of_ble_eq_true rfl) (Nat.le_of_ble_eq_true rfl) dX1_readKey_21 (fun v21 τ21 hq21 => ?_)
        obtain ⟨rfl, rfl⟩ := hq21
        refine r_lshr C (l_shr (k := 4 * (7 - i)) (by omega) (by omega) (by omega)) dX1_readKey_24 ?_
        rw [p16 i hi8]
        refine r_l2i C (l_l2i _) dX1_readKey_25 ?_
        refine r_bipush C (by decide +kernel) dX1_readKey_26 ?_
        refine r_iand C (b_and15 _) dX1_readKey_28 ?_
        refine r_istore (ls' := [_, _, _, _, _, _]) C (by decide) rfl rfl dX1_readKey_29 ?_
        refine r_aload_n C rfl dX1_readKey_31 ?_
        refine r_getR C 1 0 rfl rfl (by decide) rfl uw_X1 fl_X1_11 dX1_readKey_32 ?_
        refine r_iload C rfl dX1_readKey_35 ?_
        refine r_iload C rfl dX1_readKey_37 ?_
        refine r_bipush C (by decide +kernel) dX1_readKey_39 ?_
        refine r_icmp_ne (tgt := 49) C (by decide) (by omega) (by omega) dX1_readKey_41 (fun c41 => ?_) (fun c41 => ?_)
        · refine r_iload C rfl dX1_readKey_49 ?_
          refine r_iastore C rfl (by decide) (by omega) dX1_readKey_51 ?_
          refine r_iinc (ls' := [_, _, _, _, _, _]) C rfl (by decide) rfl rfl dX1_readKey_52 ?_
          refine r_goto (tgt := 12) C (by decide) dX1_readKey_55 ?_
          refine PW_lw [true, true, false, true, true, false] (ih (i + 1) _ (by omega) (hF.tr (Fr.u (by decide)) (fun _ q => q) (fun _ q => q)) (by rw [pw_u_k (by decide)]; exact h2) (fun j j1 => ?_)) rfl
          by_cases q : j = i
          · subst q
            rw [pw_u_s]
            first | rw [if_pos (by omega)] | rw [if_neg (by omega)]
          · rw [pw_u_j (by omega)]
            exact hj j (by omega)
        · refine r_bipush C (by decide +kernel) dX1_readKey_44 ?_
          refine r_goto (tgt := 51) C (by decide) dX1_readKey_46 ?_
          refine r_iastore C rfl (by decide) (by omega) dX1_readKey_51 ?_
          refine r_iinc (ls' := [_, _, _, _, _, _]) C rfl (by decide) rfl rfl dX1_readKey_52 ?_
          refine r_goto (tgt := 12) C (by decide) dX1_readKey_55 ?_
          refine PW_lw [true, true, false, true, true, false] (ih (i + 1) _ (by omega) (hF.tr (Fr.u (by decide)) (fun _ q => q) (fun _ q => q)) (by rw [pw_u_k (by decide)]; exact h2) (fun j j1 => ?_)) rfl
          by_cases q : j = i
          · subst q
            rw [pw_u_s]
            first | rw [if_pos (by omega)] | rw [if_neg (by omega)]
          · rw [pw_u_j (by omega)]
            exact hj j (by omega)
  refine r_aload_n C rfl dX1_readKey_0 ?_
  refine r_lload_n C rfl dX1_readKey_1 ?_
  refine r_bipush C (by decide +kernel) dX1_readKey_2 ?_
  refine r_lshr C (l_shr (k := 32) (by omega) (by omega) (by decide)) dX1_readKey_4 ?_
  refine r_l2i C (l_l2i _) dX1_readKey_5 ?_
  refine r_putI (jz := 2) C 1 2 tyX1 tyX1_ok nmX1 rfl rfl (by decide) rfl uw_X1 fl_X1_18 rfl rfl rfl dX1_readKey_6 ?_
  refine r_iconst C dX1_readKey_9 ?_
  refine r_istore (ls' := [_, _, _, _, _, _]) C (by decide) rfl rfl dX1_readKey_10 ?_
  exact loop n 0 _ (by omega) (Fr.u (by decide)) (by rw [pw_u_s]; rfl) (fun j j1 => by omega)
end
section
theorem kq_le {a : pw_H} {l y h : Int} {i s : Nat} (hi : i < 8) (hs : s < 8) (hF : sC a l y h i s < 100000) : 0 ≤ kq (sC a l y h) i s ∧ kq (sC a l y h) i s ≤ 36028797018963968 := by
  have h1 := sC_t (sC_lt.mp hF)
  have h2 := p16b i hi
  have h3 := sC_0 (a := a) (l := l) (y := y) (h := h) i s
  have h4 : 0 ≤ (s : Int) * 16 ^ (7 - i) := Int.mul_nonneg (by omega) (by omega)
  have h5 : (s : Int) * 16 ^ (7 - i) ≤ 7 * 268435456 := Int.mul_le_mul (by omega) h2.2 (by omega) (by omega)
  unfold kq
  omega
theorem sF_dec {a : pw_H} {l y h : Int} {i : Nat} : (fun s : Nat => sF a l y h i s) = (fun s : Nat => decide (sC a l y h i s < 100000)) := by
  funext s
  rw [Bool.eq_iff_iff, decide_eq_true_eq]
  exact sC_lt.symm
set_option maxRecDepth 100000 in
set_option maxHeartbeats 4000000 in
theorem c_X1_find (l : Launch) (G : pw_G) (σ : pw_H) {t : Nat} {y h : Int} (hI : Inv (vX σ)) (ht : t < 6) (hy : -3000 ≤ y ∧ y ≤ 3000) (hh : -600 ≤ h ∧ h ≤ 600) :
    Ct l shX G mX1_find [.ref (G.2.1 3), vI (t : Int), vI y, vI h] σ (fun r τ => r = none ∧ Fr [3, 13, 15, 16, 17, 18] σ τ ∧ τ 3 2 = sB (sC (vX σ) t y h) (σ 1 4).toNat (σ 10 t).toNat (σ 10 t).toNat 0 ∧ (∀ i : Nat, i < (σ 10 t).toNat → τ 13 i = sSt (sC (vX σ) t y h) (σ 1 4).toNat (σ 10 t).toNat i) ∧ ∀ s : Int, 0 ≤ s → s < σ 1 4 → τ 15 s = sSky (vX σ) s y + h) := by
  have h0 : 0 ≤ σ 1 4 ∧ σ 1 4 ≤ 8 := hI.1
  have h9 : 0 ≤ σ 10 t ∧ σ 10 t ≤ 8 := hI.2.2.2.2.2.2.2.1 t
  have hN8 : (σ 1 4).toNat ≤ 8 := by omega
  have hn8 : (σ 10 t).toNat ≤ 8 := by omega
  have hC := sC_0 (a := vX σ) (l := t) (y := y) (h := h)
  refine Ct_of (ls := [some (.ref (G.2.1 3)), some (vI (t : Int)), some (vI y), some (vI h), none, none]) (by decide +kernel) (Nat.le_of_ble_eq_true rfl) rfl (fun X C => ?_)
  have loop : ∀ (k i Z : Nat) (υ : pw_H), i + k = (σ 10 t).toNat → Fr [3, 15, 16, 17, 18] σ υ → (∀ s : Int, 0 ≤ s → s < σ 1 4 → υ 15 s = sSky (vX σ) s y + h) → Z < 256 → DPi (sC (vX σ) t y h) (σ 1 4).toNat (σ 10 t).toNat i Z (υ 16) → PW X shX G 29 [some (.ref (G.2.1 3)), some (vI (t : Int)), some (vI y), some (vI h), some (vI (Z : Int)), some (vI (i : Int))] [] υ := by
    intro k
    induction k with
    | zero =>
      intro i Z υ hi hF hs hZ hD
      have e1 : υ 10 t = σ 10 t := congrFun (hF 10 (by decide)) _
      have ei : i = (σ 10 t).toNat := by omega
      subst ei
      have hK : ∀ T : Nat, T < 256 → 0 ≤ υ 16 T ∧ υ 16 T ≤ 2305843009213693952 := fun T hT => by have := hD.1 T hT; omega
      refine r_iload C rfl dX1_find_29 ?_
      refine r_aload_n C rfl dX1_find_31 ?_
      refine r_getR C 1 4 rfl rfl (by decide) rfl uw_X1 fl_X1_42 dX1_find_32 ?_
      refine r_getR C 2 0 rfl rfl (by decide) rfl uw_X2 fl_X1_62 dX1_find_35 ?_
      refine r_iload_n C rfl dX1_find_38 ?_
      refine r_iaload C rfl (by decide) (by omega) dX1_find_39 ?_
      refine r_icmp_ge (tgt := 69) C (by decide) (by omega) (by omega) dX1_find_40 (fun c40 => ?_) (fun c40 => ?_)
      · refine r_aload_n C rfl dX1_find_69 ?_
        refine r_aload_n C rfl dX1_find_70 ?_
        refine r_iload C rfl dX1_find_71 ?_
        refine r_callV (As := [_]) C (c_X1_leastKey _ _ _ hZ hK) ok_X1_leastKey ln_X1_74 rfl rfl rfl rfl (Nat.le_of_ble_eq_true rfl) (Nat.le_of_ble_eq_true rfl) (Nat.le_of_ble_eq_true rfl) dX1_find_73 (fun v73 τ73 hq73 => ?_)
        obtain ⟨m, rfl, rfl, hm⟩ := hq73
        have em := DP_end hC hN8 hn8 hZ hD hm
        have er := sK_rng (N := (σ 1 4).toNat) hC hN8 hn8 (r := (σ 10 t).toNat) (Nat.le_refl _) 0
        refine r_aload_n C rfl dX1_find_76 ?_
        refine r_getR C 1 4 rfl rfl (by decide) rfl uw_X1 fl_X1_42 dX1_find_77 ?_
        refine r_getR C 2 0 rfl rfl (by decide) rfl uw_X2 fl_X1_62 dX1_find_80 ?_
        refine r_iload_n C rfl dX1_find_83 ?_
        refine r_iaload C rfl (by decide) (by omega) dX1_find_84 ?_
        rw [e1, show σ 10 t = ((σ 10 t).toNat : Int) by omega]
        refine r_callV (As := [_, _]) C (c_X1_readKey _ _ _ hn8 (by rw [em]; omega)) ok_X1_readKey ln_X1_78 rfl rfl rfl rfl (Nat.le_of_ble_eq_true rfl) (Nat.le_of_ble_eq_true rfl) (Nat.le_of_ble_eq_true rfl) dX1_find_85 (fun v85 τ85 hq85 => ?_)
        obtain ⟨rfl, hF2, hr2, hr13⟩ := hq85
        refine r_return C rfl ?_ dX1_find_88
        refine ⟨rfl, hF.tr hF2 (by decide) (by decide), ?_, fun i i1 => ?_, fun s s1 s2 => ?_⟩
        · rw [hr2, em, sK_cost hN8 hn8]
        · rw [hr13 i i1, em, ← dW_i i1 hn8, show (σ 10 t).toNat - (i + 1) = (σ 10 t).toNat - 1 - i by omega, sK_digit hN8 hn8 i1]
          rcases sSt_rng (C := sC (vX σ) t y h) (N := (σ 1 4).toNat) (n := (σ 10 t).toNat) i with q | ⟨q1, q2, -⟩ | q
          · rw [q]; rfl
          · unfold dD
            rw [if_neg (by omega : ¬ sSt (sC (vX σ) t y h) (σ 1 4).toNat (σ 10 t).toNat i = -9), if_neg (by omega)]
          · omega
        · rw [hF2 15 (by decide)]; exact hs s s1 s2
      · omega
    | succ k ih =>
      intro i Z υ hi hF hs hZ hD
      have e1 : υ 10 t = σ 10 t := congrFun (hF 10 (by decide)) _
      have e2 : vX υ = vX σ := Fr_vX hF (by decide)
      have e3 : υ 1 4 = σ 1 4 := congrFun (hF 1 (by decide)) _
      have hi8 : i < 8 := by omega
      refine r_iload C rfl dX1_find_29 ?_
      refine r_aload_n C rfl dX1_find_31 ?_
      refine r_getR C 1 4 rfl rfl (by decide) rfl uw_X1 fl_X1_42 dX1_find_32 ?_
      refine r_getR C 2 0 rfl rfl (by decide) rfl uw_X2 fl_X1_62 dX1_find_35 ?_
      refine r_iload_n C rfl dX1_find_38 ?_
      refine r_iaload C rfl (by decide) (by omega) dX1_find_39 ?_
      refine r_icmp_ge (tgt := 69) C (by decide) (by omega) (by omega) dX1_find_40 (fun c40 => ?_) (fun c40 => ?_)
      · omega
      · refine r_iload C rfl dX1_find_43 ?_
        refine r_aload_n C rfl dX1_find_45 ?_
        refine r_iload_n C rfl dX1_find_46 ?_
        refine r_iload C rfl dX1_find_47 ?_
        refine r_callV (As := [_, _]) C (c_X1_gatherFits (t := t) (i := i) (y := y) (h := h) _ _ _ (e2 ▸ hI) ht hi8 (fun s s1 s2 => by rw [e2]; exact hs s s1 (by omega)) hh) ok_X1_gatherFits ln_X1_67 rfl rfl rfl rfl (Nat.le_of_ble_eq_true rfl) (Nat.le_of_ble_eq_true rfl) (Nat.le_of_ble_eq_true rfl) dX1_find_49 (fun v49 τ49 hq49 => ?_)
        obtain ⟨hF2, B, F, st, rfl, hB, hbit, hfit⟩ := hq49
        rw [e2, e3] at hbit hfit
        rw [sF_dec] at hfit
        have hZB : Z ||| B < 256 := Nat.or_lt_two_pow (n := 8) hZ hB
        have e16 : τ49 16 = υ 16 := hF2 16 (by decide)
        have hK : ∀ T : Nat, T < 256 → 0 ≤ τ49 16 T ∧ τ49 16 T ≤ 2305843009213693952 := fun T hT => by have := hD.1 T hT; rw [e16]; omega
        refine r_ior C (b_or Z B) dX1_find_52 ?_
        refine r_istore (ls' := [_, _, _, _, _, _]) C (by decide) rfl rfl dX1_find_53 ?_
        refine r_aload_n C rfl dX1_find_55 ?_
        refine r_iload C rfl dX1_find_56 ?_
        refine r_iload C rfl dX1_find_58 ?_
        refine r_callV (As := [_, _]) C (c_X1_takeLine _ _ _ hi8 hZB hN8 hfit hK (fun s s1 s2 => kq_le hi8 (by omega) (by simpa using s2))) ok_X1_takeLine ln_X1_71 rfl rfl rfl rfl (Nat.le_of_ble_eq_true rfl) (Nat.le_of_ble_eq_true rfl) (Nat.le_of_ble_eq_true rfl) dX1_find_60 (fun v60 τ60 hq60 => ?_)
        obtain ⟨rfl, hF3, hT⟩ := hq60
        rw [e16] at hT
        refine r_iinc (ls' := [_, _, _, _, _, _]) C rfl (by decide) rfl rfl dX1_find_63 ?_
        refine r_goto (tgt := 29) C (by decide) dX1_find_66 ?_
        refine ih (i + 1) (Z ||| B) _ (by omega) ((hF.tr hF2 (fun _ q => q) (by decide)).tr hF3 (fun _ q => q) (by decide)) (fun s s1 s2 => ?_) hZB (DP_s hC hN8 hn8 (by omega) hD (fun s q => by rw [Nat.testBit_or, q]; rfl) (fun s s1 s2 => ?_) (fun s s1 s2 => (kq_le hi8 (by omega) s2).2) (fun T h1 h2 => (hT T h1).1 h2) (fun T h1 h2 => (hT T h1).2 h2))
        · rw [hF3 15 (by decide), hF2 15 (by decide)]; exact hs s s1 s2
        · rw [Nat.testBit_or, hbit s, sC_lt.mp s2, decide_eq_true s1]; simp
  refine r_aload_n C rfl dX1_find_0 ?_
  refine r_iload_n C rfl dX1_find_1 ?_
  refine r_iload_n C rfl dX1_find_2 ?_
  refine r_callV (As := [_, _]) C (c_X1_turnSky _ _ _ hI hy) ok_X1_turnSky ln_X1_46 rfl rfl rfl rfl (Nat.le_of_ble_eq_true rfl) (Nat.le_of_ble_eq_true rfl) (Nat.le_of_ble_eq_true rfl) dX1_find_3 (fun v3 τ3 hq3 => ?_)
  obtain ⟨rfl, hF1, hS⟩ := hq3
  refine r_aload_n C rfl dX1_find_6 ?_
  refine r_getR C 1 6 rfl rfl (by decide) rfl uw_X1 fl_X1_25 dX1_find_7 ?_
  refine r_ldc2 C (z := 1152921504606846976) cn_X1_54 (by decide +kernel) dX1_find_10 ?_
  refine r_callS (As := [_, _]) C (c_J7_fill_d0a16 _ _ _) ok_J7_fill_d0a16 ln_X1_56 rfl rfl (Nat.le_of_ble_eq_true rfl) (Nat.le_of_ble_eq_true rfl) (Nat.le_of_ble_eq_true rfl) dX1_find_13 (fun v13 τ13 hq13 => ?_)
  obtain ⟨rfl, hF2, hfill⟩ := hq13
  refine r_aload_n C rfl dX1_find_16 ?_
  refine r_getR C 1 6 rfl rfl (by decide) rfl uw_X1 fl_X1_25 dX1_find_17 ?_
  refine r_iconst C dX1_find_20 ?_
  refine r_lconst C (z := 0) (by decide +kernel) dX1_find_21 ?_
  refine r_lastore C rfl (by decide) (by omega) dX1_find_22 ?_
  refine r_iconst C dX1_find_23 ?_
  refine r_istore (ls' := [_, _, _, _, _, _]) C (by decide) rfl rfl dX1_find_24 ?_
  refine r_iconst C dX1_find_26 ?_
  refine r_istore (ls' := [_, _, _, _, _, _]) C (by decide) rfl rfl dX1_find_27 ?_
  refine loop (σ 10 t).toNat 0 0 _ (by omega) ((hF1.tr hF2 (ks := [3, 15, 16, 17, 18]) (by decide) (by decide)).tr (Fr.u (by decide)) (fun _ q => q) (fun _ q => q)) (fun s s1 s2 => ?_) (by decide) (DP_0 hC hN8 hn8 (pw_u_s _ _ _ _) (fun T hT h0 => ?_))
  · rw [pw_u_k (by decide), hF2 15 (by decide)]; exact hS s s1 s2
  · rw [pw_u_j (by omega)]; exact hfill T (by omega) (by omega)
end
section
set_option maxRecDepth 100000 in
theorem c_X5_best (l : Launch) (G : pw_G) (σ : pw_H) {t y h : Int} (hI : Inv (vX σ)) (q_t : InI t) (q_y : InI y) (q_h : InI h) : Ct l shX G mX5_best [.ref (G.2.1 0), vI t, vI y, vI h] σ (pX (s_best (vX σ) t y h)) := by
  have h0 : 0 ≤ σ 1 4 ∧ σ 1 4 ≤ 8 := hI.1
  have h5 : 0 ≤ σ 1 5 ∧ σ 1 5 ≤ 6 := hI.2.1
  have h1 : 0 ≤ σ 2 1 ∧ σ 2 1 ≤ 6 := hI.2.2.1
  refine Ct_of (ls := [some (.ref (G.2.1 0)), some (vI t), some (vI y), some (vI h)]) (by decide +kernel) (Nat.le_of_ble_eq_true rfl) rfl (fun X C => ?_)
  refine r_aload_n C rfl dX5_best_0 ?_
  refine r_getR C 4 1 rfl rfl (by decide) rfl uw_X5 fl_X5_19 dX5_best_1 ?_
  refine r_iload_n C rfl dX5_best_4 ?_
  refine r_callV (As := [_]) C (c_X2_has _ _ _ (by omega) hI) ok_X2_has ln_X5_98 rfl rfl rfl rfl (Nat.le_of_ble_eq_true rfl) (Nat.le_of_ble_eq_true rfl) (Nat.le_of_ble_eq_true rfl) dX5_best_5 (fun v5 τ5 hq5 => ?_)
  obtain ⟨rfl, rfl⟩ := hq5
  refine r_ifB_ne (tgt := 13) C (by decide) dX5_best_8 (fun c8 => ?_) (fun c8 => ?_)
  · have h8 : 0 ≤ t ∧ t ≤ σ 2 1 - 1 := bList_t c8
    obtain ⟨u, rfl⟩ := Int.eq_ofNat_of_zero_le h8.1
    refine r_iload_n C rfl dX5_best_13 ?_
    refine r_iload_n C rfl dX5_best_14 ?_
    refine r_callS (As := [_, _]) C (c_X5_isMoment _ _ _ (by omega) (by omega)) ok_X5_isMoment ln_X5_118 rfl rfl (Nat.le_of_ble_eq_true rfl) (Nat.le_of_ble_eq_true rfl) (Nat.le_of_ble_eq_true rfl) dX5_best_15 (fun v15 τ15 hq15 => ?_)
    obtain ⟨rfl, rfl⟩ := hq15
    refine r_ifB_ne (tgt := 24) C (by decide) dX5_best_18 (fun c18 => ?_) (fun c18 => ?_)
    · have h11 := bMom_t c18
      refine r_aload_n C rfl dX5_best_24 ?_
      refine r_getR C 4 2 rfl rfl (by decide) rfl uw_X5 fl_X5_28 dX5_best_25 ?_
      refine r_iload_n C rfl dX5_best_28 ?_
      refine r_iload_n C rfl dX5_best_29 ?_
      refine r_iload_n C rfl dX5_best_30 ?_
      refine r_callV (As := [_, _, _]) C (c_X1_find _ _ _ hI (by omega) h11.1 h11.2) ok_X1_find ln_X5_135 rfl rfl rfl rfl (Nat.le_of_ble_eq_true rfl) (Nat.le_of_ble_eq_true rfl) (Nat.le_of_ble_eq_true rfl) dX5_best_31 (fun v31 τ31 hq31 => ?_)
      obtain ⟨rfl, hF, e1, -, -⟩ := hq31
      have e2 : vX τ31 = vX σ := Fr_vX hF (by decide)
      refine r_aload_n C rfl dX5_best_34 ?_
      refine r_getR C 4 2 rfl rfl (by decide) rfl uw_X5 fl_X5_28 dX5_best_35 ?_
      refine r_getI (jz := 2) C 1 2 rfl rfl (by decide) rfl uw_X1 fl_X5_139 rfl dX5_best_38 ?_
      refine r_ireturn C rfl ?_ dX5_best_41
      exact pX_of (a := vX σ) (by rw [e1]; simp [s_best, c8, c18]; rfl) e2
    · refine r_bipush C (by decide +kernel) dX5_best_21 ?_
      refine r_ireturn C rfl ?_ dX5_best_23
      exact pX_of (by simp [s_best, *]) rfl
  · refine r_iconst C dX5_best_11 ?_
    refine r_ireturn C rfl ?_ dX5_best_12
    exact pX_of (by simp [s_best, *]) rfl
set_option maxRecDepth 100000 in
theorem c_X5_matched (l : Launch) (G : pw_G) (σ : pw_H) {t i y h : Int} (hI : Inv (vX σ)) (q_t : InI t) (q_i : InI i) (q_y : InI y) (q_h : InI h) : Ct l shX G mX5_matched [.ref (G.2.1 0), vI t, vI i, vI y, vI h] σ (pX (s_matched (vX σ) t i y h)) := by
  have h0 : 0 ≤ σ 1 4 ∧ σ 1 4 ≤ 8 := hI.1
  have h5 : 0 ≤ σ 1 5 ∧ σ 1 5 ≤ 6 := hI.2.1
  have h1 : 0 ≤ σ 2 1 ∧ σ 2 1 ≤ 6 := hI.2.2.1
  refine Ct_of (ls := [some (.ref (G.2.1 0)), some (vI t), some (vI i), some (vI y), some (vI h)]) (by decide +kernel) (Nat.le_of_ble_eq_true rfl) rfl (fun X C => ?_)
  refine r_aload_n C rfl dX5_matched_0 ?_
  refine r_getR C 4 1 rfl rfl (by decide) rfl uw_X5 fl_X5_19 dX5_matched_1 ?_
  refine r_iload_n C rfl dX5_matched_4 ?_
  refine r_iload_n C rfl dX5_matched_5 ?_
  refine r_callV (As := [_, _]) C (c_X2_hasLine _ _ _ (by omega) (by omega) hI) ok_X2_hasLine ln_X5_105 rfl rfl rfl rfl (Nat.le_of_ble_eq_true rfl) (Nat.le_of_ble_eq_true rfl) (Nat.le_of_ble_eq_true rfl) dX5_matched_6 (fun v6 τ6 hq6 => ?_)
  obtain ⟨rfl, rfl⟩ := hq6
  refine r_ifB_ne (tgt := 14) C (by decide) dX5_matched_9 (fun c9 => ?_) (fun c9 => ?_)
  · have h8 : (0 ≤ t ∧ t ≤ σ 2 1 - 1) ∧ 0 ≤ i ∧ i ≤ σ 10 t - 1 := bLine_t c9
    have h9 : 0 ≤ σ 10 t ∧ σ 10 t ≤ 8 := hI.2.2.2.2.2.2.2.1 t
    obtain ⟨u, rfl⟩ := Int.eq_ofNat_of_zero_le h8.1.1
    obtain ⟨j, rfl⟩ := Int.eq_ofNat_of_zero_le h8.2.1
    refine r_iload_n C rfl dX5_matched_14 ?_
    refine r_iload C rfl dX5_matched_15 ?_
    refine r_callS (As := [_, _]) C (c_X5_isMoment _ _ _ (by omega) (by omega)) ok_X5_isMoment ln_X5_118 rfl rfl (Nat.le_of_ble_eq_true rfl) (Nat.le_of_ble_eq_true rfl) (Nat.le_of_ble_eq_true rfl) dX5_matched_17 (fun v17 τ17 hq17 => ?_)
    obtain ⟨rfl, rfl⟩ := hq17
    refine r_ifB_ne (tgt := 26) C (by decide) dX5_matched_20 (fun c20 => ?_) (fun c20 => ?_)
    · have h11 := bMom_t c20
      refine r_aload_n C rfl dX5_matched_26 ?_
      refine r_getR C 4 2 rfl rfl (by decide) rfl uw_X5 fl_X5_28 dX5_matched_27 ?_
      refine r_iload_n C rfl dX5_matched_30 ?_
      refine r_iload_n C rfl dX5_matched_31 ?_
      refine r_iload C rfl dX5_matched_32 ?_
      refine r_callV (As := [_, _, _]) C (c_X1_find _ _ _ hI (by omega) h11.1 h11.2) ok_X1_find ln_X5_135 rfl rfl rfl rfl (Nat.le_of_ble_eq_true rfl) (Nat.le_of_ble_eq_true rfl) (Nat.le_of_ble_eq_true rfl) dX5_matched_34 (fun v34 τ34 hq34 => ?_)
      obtain ⟨rfl, hF, -, e1, -⟩ := hq34
      have e2 : vX τ34 = vX σ := Fr_vX hF (by decide)
      have e3 := e1 j (by omega)
      refine r_aload_n C rfl dX5_matched_37 ?_
      refine r_getR C 4 2 rfl rfl (by decide) rfl uw_X5 fl_X5_28 dX5_matched_38 ?_
      refine r_getR C 1 0 rfl rfl (by decide) rfl uw_X1 fl_X5_142 dX5_matched_41 ?_
      refine r_iload_n C rfl dX5_matched_44 ?_
      refine r_iaload C rfl (by decide) (by omega) dX5_matched_45 ?_
      refine r_ireturn C rfl ?_ dX5_matched_46
      exact pX_of (a := vX σ) (by rw [e3]; simp [s_matched, c9, c20]; rfl) e2
    · refine r_bipush C (by decide +kernel) dX5_matched_23 ?_
      refine r_ireturn C rfl ?_ dX5_matched_25
      exact pX_of (by simp [s_matched, *]) rfl
  · refine r_iconst C dX5_matched_12 ?_
    refine r_ireturn C rfl ?_ dX5_matched_13
    exact pX_of (by simp [s_matched, *]) rfl
set_option maxRecDepth 100000 in
theorem c_X5_yearsBetween (l : Launch) (G : pw_G) (σ : pw_H) {f t : Int} (hf : -3000 ≤ f ∧ f ≤ 3000) (ht : -3000 ≤ t ∧ t ≤ 3000) (h : f ≤ t) : Ct l shX G mX5_yearsBetween [vI f, vI t] σ (pv ((sYs f t : Int) + 1) σ) := by
  refine Ct_of (ls := [some (vI f), some (vI t)]) (by decide +kernel) (Nat.le_of_ble_eq_true rfl) rfl (fun X C => ?_)
  refine r_iload_n C rfl dX5_yearsBetween_0 ?_
  refine r_iload_n C rfl dX5_yearsBetween_1 ?_
  refine r_isub C dX5_yearsBetween_2 ?_
  refine r_bipush C (by decide +kernel) dX5_yearsBetween_3 ?_
  refine r_idiv C (by omega) (by omega) (by omega) dX5_yearsBetween_5 ?_
  refine r_iconst C dX5_yearsBetween_6 ?_
  refine r_iadd C dX5_yearsBetween_7 ?_
  refine r_ireturn C rfl ?_ dX5_yearsBetween_8
  refine pv_of ?_ rfl
  rw [Int.tdiv_eq_ediv_of_nonneg (by omega)]
  unfold sYs
  omega
theorem bYrs_t {h f t : Int} (e : bYrs h f t = true) : (-600 ≤ h ∧ h ≤ 600) ∧ (-3000 ≤ f ∧ f ≤ 3000) ∧ (-3000 ≤ t ∧ t ≤ 3000) ∧ f ≤ t ∧ (t - f) / 10 ≤ 40 := by
  simp only [bYrs, Bool.and_eq_true, decide_eq_true_eq] at e
  exact ⟨bIn_iff.mp e.1, bIn_iff.mp e.2.1, bIn_iff.mp e.2.2.1, e.2.2.2⟩
set_option maxRecDepth 100000 in
theorem c_X5_areYears (l : Launch) (G : pw_G) (σ : pw_H) {h f t : Int} (ih : InI h) (i_f : InI f) (it : InI t) : Ct l shX G mX5_areYears [vI h, vI f, vI t] σ (pb (bYrs h f t) σ) := by
  refine Ct_of (ls := [some (vI h), some (vI f), some (vI t)]) (by decide +kernel) (Nat.le_of_ble_eq_true rfl) rfl (fun X C => ?_)
  refine r_iload_n C rfl dX5_areYears_0 ?_
  refine r_callS (As := [_]) C (c_X5_isShift _ _ _ (by omega)) ok_X5_isShift ln_X5_193 rfl rfl (Nat.le_of_ble_eq_true rfl) (Nat.le_of_ble_eq_true rfl) (Nat.le_of_ble_eq_true rfl) dX5_areYears_1 (fun v1 τ1 hq1 => ?_)
  obtain ⟨rfl, rfl⟩ := hq1
  refine r_ifB_eq (tgt := 21) C (by decide) dX5_areYears_4 (fun c4 => ?_) (fun c4 => ?_)
  · refine r_iconst C dX5_areYears_21 ?_
    refine r_zreturn C rfl (by first | exact Or.inl rfl | exact Or.inr rfl) ?_ dX5_areYears_22
    refine pv_of ?_ rfl
    simp [bYrs, *, zB]
  · refine r_iload_n C rfl dX5_areYears_7 ?_
    refine r_callS (As := [_]) C (c_X5_isYear _ _ _ (by omega)) ok_X5_isYear ln_X5_65 rfl rfl (Nat.le_of_ble_eq_true rfl) (Nat.le_of_ble_eq_true rfl) (Nat.le_of_ble_eq_true rfl) dX5_areYears_8 (fun v8 τ8 hq8 => ?_)
    obtain ⟨rfl, rfl⟩ := hq8
    refine r_ifB_eq (tgt := 21) C (by decide) dX5_areYears_11 (fun c11 => ?_) (fun c11 => ?_)
    · refine r_iconst C dX5_areYears_21 ?_
      refine r_zreturn C rfl (by first | exact Or.inl rfl | exact Or.inr rfl) ?_ dX5_areYears_22
      refine pv_of ?_ rfl
      simp [bYrs, *, zB]
    · have q1 := bIn_iff.mp c11
      refine r_iload_n C rfl dX5_areYears_14 ?_
      refine r_callS (As := [_]) C (c_X5_isYear _ _ _ (by omega)) ok_X5_isYear ln_X5_65 rfl rfl (Nat.le_of_ble_eq_true rfl) (Nat.le_of_ble_eq_true rfl) (Nat.le_of_ble_eq_true rfl) dX5_areYears_15 (fun v15 τ15 hq15 => ?_)
      obtain ⟨rfl, rfl⟩ := hq15
      refine r_ifB_ne (tgt := 23) C (by decide) dX5_areYears_18 (fun c18 => ?_) (fun c18 => ?_)
      · have q2 := bIn_iff.mp c18
        refine r_iload_n C rfl dX5_areYears_23 ?_
        refine r_iload_n C rfl dX5_areYears_24 ?_
        refine r_icmp_lt (tgt := 42) C (by decide) (by omega) (by omega) dX5_areYears_25 (fun c25 => ?_) (fun c25 => ?_)
        · refine r_iconst C dX5_areYears_42 ?_
          refine r_zreturn C rfl (by first | exact Or.inl rfl | exact Or.inr rfl) ?_ dX5_areYears_43
          refine pv_of ?_ rfl
          first | exact (zB_t (by simp only [bYrs, *, Bool.true_and, decide_eq_true_eq]; unfold sYs at *; omega)).symm | exact (zB_f (by simp only [bYrs, *, Bool.true_and, decide_eq_false_iff_not]; unfold sYs at *; omega)).symm | exact (zB_f (by simp only [bYrs, *, Bool.true_and, decide_eq_false_iff_not]; omega)).symm
        · refine r_iload_n C rfl dX5_areYears_28 ?_
          refine r_iload_n C rfl dX5_areYears_29 ?_
          refine r_callS (As := [_, _]) C (c_X5_yearsBetween _ _ _ (by omega) (by omega) (by omega)) ok_X5_yearsBetween ln_X5_196 rfl rfl (Nat.le_of_ble_eq_true rfl) (Nat.le_of_ble_eq_true rfl) (Nat.le_of_ble_eq_true rfl) dX5_areYears_30 (fun v30 τ30 hq30 => ?_)
          obtain ⟨rfl, rfl⟩ := hq30
          refine r_bipush C (by decide +kernel) dX5_areYears_33 ?_
          refine r_icmp_gt (tgt := 42) C (by decide) (by unfold sYs; omega) (by omega) dX5_areYears_35 (fun c35 => ?_) (fun c35 => ?_)
          · refine r_iconst C dX5_areYears_42 ?_
            refine r_zreturn C rfl (by first | exact Or.inl rfl | exact Or.inr rfl) ?_ dX5_areYears_43
            refine pv_of ?_ rfl
            first | exact (zB_t (by simp only [bYrs, *, Bool.true_and, decide_eq_true_eq]; unfold sYs at *; omega)).symm | exact (zB_f (by simp only [bYrs, *, Bool.true_and, decide_eq_false_iff_not]; unfold sYs at *; omega)).symm | exact (zB_f (by simp only [bYrs, *, Bool.true_and, decide_eq_false_iff_not]; omega)).symm
          · refine r_iconst C dX5_areYears_38 ?_
            refine r_goto (tgt := 43) C (by decide) dX5_areYears_39 ?_
            refine r_zreturn C rfl (by first | exact Or.inl rfl | exact Or.inr rfl) ?_ dX5_areYears_43
            refine pv_of ?_ rfl
            first | exact (zB_t (by simp only [bYrs, *, Bool.true_and, decide_eq_true_eq]; unfold sYs at *; omega)).symm | exact (zB_f (by simp only [bYrs, *, Bool.true_and, decide_eq_false_iff_not]; unfold sYs at *; omega)).symm | exact (zB_f (by simp only [bYrs, *, Bool.true_and, decide_eq_false_iff_not]; omega)).symm
      · refine r_iconst C dX5_areYears_21 ?_
        refine r_zreturn C rfl (by first | exact Or.inl rfl | exact Or.inr rfl) ?_ dX5_areYears_22
        refine pv_of ?_ rfl
        simp [bYrs, *, zB]
set_option maxRecDepth 100000 in
theorem c_X5_weighYears (l : Launch) (G : pw_G) (σ : pw_H) {t : Nat} {h f e : Int} (hI : Inv (vX σ)) (ht : t < 6) (hy : bYrs h f e = true) : Ct l shX G mX5_weighYears [.ref (G.2.1 0), vI (t : Int), vI h, vI f, vI e] σ (fun r τ => r = some (vI ((sYs f e : Int) + 1)) ∧ Fr [3, 5, 13, 15, 16, 17, 18] σ τ ∧ ∀ i : Nat, i ≤ sYs f e → τ 5 i = sBest (vX σ) t (f + 10 * i) h) := by
  obtain ⟨y1, y2, y3, y4, y5⟩ := bYrs_t hy
  have hs : (sYs f e : Int) = (e - f) / 10 := by unfold sYs; omega
  have hz : zmin ((sYs f e : Int) + 1) 41 = (sYs f e : Int) + 1 := by unfold zmin; rw [if_neg (by omega)]
  refine Ct_of (ls := [some (.ref (G.2.1 0)), some (vI (t : Int)), some (vI h), some (vI f), some (vI e), none, none]) (by decide +kernel) (Nat.le_of_ble_eq_true rfl) rfl (fun X C => ?_)
  have loop : ∀ (k i : Nat) (υ : pw_H), i + k = sYs f e + 1 → Fr [3, 5, 13, 15, 16, 17, 18] σ υ → (∀ j : Nat, j < i → υ 5 j = sBest (vX σ) t (f + 10 * j) h) → PW X shX G 16 [some (.ref (G.2.1 0)), some (vI (t : Int)), some (vI h), some (vI f), some (vI e), some (vI ((sYs f e : Int) + 1)), some (vI (i : Int))] [] υ := by
    intro k
    induction k with
    | zero =>
      intro i υ hi hF hj
      refine r_iload C rfl dX5_weighYears_16 ?_
      refine r_iload C rfl dX5_weighYears_18 ?_
      refine r_icmp_ge (tgt := 59) C (by decide) (by omega) (by omega) dX5_weighYears_20 (fun c20 => ?_) (fun c20 => ?_)
      · refine r_iload C rfl dX5_weighYears_59 ?_
        refine r_ireturn C rfl ?_ dX5_weighYears_61
        exact ⟨rfl, hF, fun j j1 => hj j (by omega)⟩
      · omega
    | succ k ih =>
      intro i υ hi hF hj
      have e2 : vX υ = vX σ := Fr_vX hF (by decide)
      refine r_iload C rfl dX5_weighYears_16 ?_
      refine r_iload C rfl dX5_weighYears_18 ?_
      refine r_icmp_ge (tgt := 59) C (by decide) (by omega) (by omega) dX5_weighYears_20 (fun c20 => ?_) (fun c20 => ?_)
      · omega
      · refine r_aload_n C rfl dX5_weighYears_23 ?_
        refine r_getR C 4 2 rfl rfl (by decide) rfl uw_X5 fl_X5_28 dX5_weighYears_24 ?_
        refine r_iload_n C rfl dX5_weighYears_27 ?_
        refine r_iload_n C rfl dX5_weighYears_28 ?_
        refine r_bipush C (by decide +kernel) dX5_weighYears_29 ?_
        refine r_iload C rfl dX5_weighYears_31 ?_
        refine r_imul C dX5_weighYears_33 ?_
        refine r_iadd C dX5_weighYears_34 ?_
        refine r_iload_n C rfl dX5_weighYears_35 ?_
        refine r_callV (As := [_, _, _]) C (c_X1_find _ _ _ (e2 ▸ hI) ht (by omega) y1) ok_X1_find ln_X5_135 rfl rfl rfl rfl (Nat.le_of_ble_eq_true rfl) (Nat.le_of_ble_eq_true rfl) (Nat.le_of_ble_eq_true rfl) dX5_weighYears_36 (fun v36 τ36 hq36 => ?_)
        obtain ⟨rfl, hF2, e3, -, -⟩ := hq36
        rw [e2] at e3
        refine r_aload_n C rfl dX5_weighYears_39 ?_
        refine r_getR C 4 4 rfl rfl (by decide) rfl uw_X5 fl_X5_41 dX5_weighYears_40 ?_
        refine r_iload C rfl dX5_weighYears_43 ?_
        refine r_aload_n C rfl dX5_weighYears_45 ?_
        refine r_getR C 4 2 rfl rfl (by decide) rfl uw_X5 fl_X5_28 dX5_weighYears_46 ?_
        refine r_getI (jz := 2) C 1 2 rfl rfl (by decide) rfl uw_X1 fl_X5_139 rfl dX5_weighYears_49 ?_
        refine r_iastore C rfl (by decide) (by omega) dX5_weighYears_52 ?_
        refine r_iinc (ls' := [_, _, _, _, _, _, _]) C rfl (by decide) rfl rfl dX5_weighYears_53 ?_
        refine r_goto (tgt := 16) C (by decide) dX5_weighYears_56 ?_
        refine ih (i + 1) _ (by omega) ((hF.tr hF2 (fun _ q => q) (by decide)).tr (Fr.u (by decide)) (fun _ q => q) (fun _ q => q)) (fun j j1 => ?_)
        by_cases q : j = i
        · subst q
          rw [pw_u_s, e3, show υ 1 4 = σ 1 4 from congrFun (hF 1 (by decide)) 4, show υ 10 (t : Int) = σ 10 t from congrFun (hF 10 (by decide)) _]
          rfl
        · rw [pw_u_j (by omega), hF2 5 (by decide)]
          exact hj j (by omega)
  refine r_iload_n C rfl dX5_weighYears_0 ?_
  refine r_iload C rfl dX5_weighYears_1 ?_
  refine r_callS (As := [_, _]) C (c_X5_yearsBetween _ _ _ (by omega) (by omega) (by omega)) ok_X5_yearsBetween ln_X5_196 rfl rfl (Nat.le_of_ble_eq_true rfl) (Nat.le_of_ble_eq_true rfl) (Nat.le_of_ble_eq_true rfl) dX5_weighYears_3 (fun v3 τ3 hq3 => ?_)
  obtain ⟨rfl, rfl⟩ := hq3
  refine r_bipush C (by decide +kernel) dX5_weighYears_6 ?_
  refine r_mmin C (by omega) (by omega) ln_X5_151 st_min in_Math co_min (Nat.le_of_ble_eq_true rfl) (Nat.le_of_ble_eq_true rfl) dX5_weighYears_8 ?_
  rw [hz]
  refine r_istore (ls' := [_, _, _, _, _, _, _]) C (by decide) rfl rfl dX5_weighYears_11 ?_
  refine r_iconst C dX5_weighYears_13 ?_
  refine r_istore (ls' := [_, _, _, _, _, _, _]) C (by decide) rfl rfl dX5_weighYears_14 ?_
  exact loop (sYs f e + 1) 0 σ (by omega) Fr.rf (fun j j1 => by omega)
theorem sB_800 {C : Int → Int → Int} {N n : Nat} (hC : ∀ i s, 0 ≤ C i s) (hn : n ≤ 8) (G : Nat) : 0 ≤ sB C N n n G ∧ sB C N n n G ≤ 800 := by
  have := sB_rng (N := N) (n := n) hC n G
  omega
theorem sBest_r {a : pw_H} (hI : Inv a) (l y h : Int) : 0 ≤ sBest a l y h ∧ sBest a l y h ≤ 800 := by
  have := hI.2.2.2.2.2.2.2.1 l
  exact sB_800 sC_0 (by omega) 0
theorem sDt_r {a : pw_H} (hI : Inv a) (l h f : Int) : ∀ k, (0 ≤ (sDt a l h f k).2 ∧ (sDt a l h f k).2 ≤ 800) ∧ (sDt a l h f k).2 = sBest a l (sDt a l h f k).1 h ∧ f ≤ (sDt a l h f k).1 ∧ (sDt a l h f k).1 ≤ f + 10 * k
  | 0 => ⟨sBest_r hI _ _ _, rfl, Int.le_refl f, by simp [sDt]⟩
  | k + 1 => by
    have h1 := sDt_r hI l h f k
    simp only [sDt]
    split
    · exact ⟨sBest_r hI _ _ _, rfl, by simp only []; omega, Int.le_refl _⟩
    · exact ⟨h1.1, h1.2.1, h1.2.2.1, by omega⟩
set_option maxRecDepth 100000 in
theorem c_X5_dated (l : Launch) (G : pw_G) (σ : pw_H) {t h f e : Int} (hI : Inv (vX σ)) (q_t : InI t) (q_h : InI h) (q_f : InI f) (q_e : InI e) : Ct l shX G mX5_dated [.ref (G.2.1 0), vI t, vI h, vI f, vI e] σ (pX (s_dated (vX σ) t h f e)) := by
  have h0 : 0 ≤ σ 1 4 ∧ σ 1 4 ≤ 8 := hI.1
  have h5 : 0 ≤ σ 1 5 ∧ σ 1 5 ≤ 6 := hI.2.1
  have h1 : 0 ≤ σ 2 1 ∧ σ 2 1 ≤ 6 := hI.2.2.1
  refine Ct_of (ls := [some (.ref (G.2.1 0)), some (vI t), some (vI h), some (vI f), some (vI e), none, none, none]) (by decide +kernel) (Nat.le_of_ble_eq_true rfl) rfl (fun X C => ?_)
  have loop : ∀ (k i g u : Nat) (υ : pw_H), t = u → bList (vX σ) t = true → bYrs h f e = true → i + k = sYs f e + 1 → 1 ≤ i → vX υ = vX σ → (∀ j : Nat, j ≤ sYs f e → υ 5 j = sBest (vX σ) t (f + 10 * j) h) → g < i → (sDt (vX σ) t h f (i - 1)).1 = f + 10 * g → PW X shX G 43 [some (.ref (G.2.1 0)), some (vI t), some (vI h), some (vI f), some (vI e), some (vI ((sYs f e : Int) + 1)), some (vI (g : Int)), some (vI (i : Int))] [] υ := by
    intro k
    induction k with
    | zero =>
      intro i g u υ eu c8 c20 hi i1 e2 hj hg hd
      obtain ⟨y1, y2, y3, y4, y5⟩ := bYrs_t c20
      have hs : (sYs f e : Int) = (e - f) / 10 := by unfold sYs; omega
      refine r_iload C rfl dX5_dated_43 ?_
      refine r_iload C rfl dX5_dated_45 ?_
      refine r_icmp_ge (tgt := 77) C (by decide) (by omega) (by omega) dX5_dated_47 (fun c47 => ?_) (fun c47 => ?_)
      · refine r_iload_n C rfl dX5_dated_77 ?_
        refine r_bipush C (by decide +kernel) dX5_dated_78 ?_
        refine r_iload C rfl dX5_dated_80 ?_
        refine r_imul C dX5_dated_82 ?_
        refine r_iadd C dX5_dated_83 ?_
        refine r_sipush C (by decide +kernel) dX5_dated_84 ?_
        refine r_iadd C dX5_dated_87 ?_
        refine r_ireturn C rfl ?_ dX5_dated_88
        rw [show i - 1 = sYs f e by omega] at hd
        exact pX_of (a := vX σ) (by simp [s_dated, c8, c20, hd]) e2
      · omega
    | succ k ih =>
      intro i g u υ eu c8 c20 hi i1 e2 hj hg hd
      obtain ⟨y1, y2, y3, y4, y5⟩ := bYrs_t c20
      have hs : (sYs f e : Int) = (e - f) / 10 := by unfold sYs; omega
      have r1 := hj i (by omega)
      have r2 := hj g (by omega)
      have r3 := sBest_r hI t (f + 10 * i) h
      have r4 := sBest_r hI t (f + 10 * g) h
      have r5 := (sDt_r hI t h f (i - 1)).2.1
      rw [hd] at r5
      have ei : i = (i - 1) + 1 := by omega
      have ec : ((i - 1 + 1 : Nat) : Int) = (i : Int) := by omega
      refine r_iload C rfl dX5_dated_43 ?_
      refine r_iload C rfl dX5_dated_45 ?_
      refine r_icmp_ge (tgt := 77) C (by decide) (by omega) (by omega) dX5_dated_47 (fun c47 => ?_) (fun c47 => ?_)
      · omega
      · refine r_aload_n C rfl dX5_dated_50 ?_
        refine r_getR C 4 4 rfl rfl (by decide) rfl uw_X5 fl_X5_41 dX5_dated_51 ?_
        refine r_iload C rfl dX5_dated_54 ?_
        refine r_iaload C rfl (by decide) (by omega) dX5_dated_56 ?_
        refine r_aload_n C rfl dX5_dated_57 ?_
        refine r_getR C 4 4 rfl rfl (by decide) rfl uw_X5 fl_X5_41 dX5_dated_58 ?_
        refine r_iload C rfl dX5_dated_61 ?_
        refine r_iaload C rfl (by decide) (by omega) dX5_dated_63 ?_
        rw [r1, r2]
        refine r_icmp_ge (tgt := 71) C (by decide) (by omega) (by omega) dX5_dated_64 (fun c64 => ?_) (fun c64 => ?_)
        · refine r_iinc (ls' := [_, _, _, _, _, _, _, _]) C rfl (by decide) rfl rfl dX5_dated_71 ?_
          refine r_goto (tgt := 43) C (by decide) dX5_dated_74 ?_
          refine ih (i + 1) g u υ eu c8 c20 (by omega) (by omega) e2 hj (by omega) ?_
          rw [show i + 1 - 1 = (i - 1) + 1 by omega]
          simp only [sDt]
          rw [ec, if_neg (by omega)]
          exact hd
        · refine r_iload C rfl dX5_dated_67 ?_
          refine r_istore (ls' := [_, _, _, _, _, _, _, _]) C (by decide) rfl rfl dX5_dated_69 ?_
          refine r_iinc (ls' := [_, _, _, _, _, _, _, _]) C rfl (by decide) rfl rfl dX5_dated_71 ?_
          refine r_goto (tgt := 43) C (by decide) dX5_dated_74 ?_
          refine ih (i + 1) i u υ eu c8 c20 (by omega) (by omega) e2 hj (by omega) ?_
          rw [show i + 1 - 1 = (i - 1) + 1 by omega]
          simp only [sDt]
          rw [ec, if_pos (by omega)]
  refine r_aload_n C rfl dX5_dated_0 ?_
  refine r_getR C 4 1 rfl rfl (by decide) rfl uw_X5 fl_X5_19 dX5_dated_1 ?_
  refine r_iload_n C rfl dX5_dated_4 ?_
  refine r_callV (As := [_]) C (c_X2_has _ _ _ (by omega) hI) ok_X2_has ln_X5_98 rfl rfl rfl rfl (Nat.le_of_ble_eq_true rfl) (Nat.le_of_ble_eq_true rfl) (Nat.le_of_ble_eq_true rfl) dX5_dated_5 (fun v5 τ5 hq5 => ?_)
  obtain ⟨rfl, rfl⟩ := hq5
  refine r_ifB_ne (tgt := 13) C (by decide) dX5_dated_8 (fun c8 => ?_) (fun c8 => ?_)
  · have h8 : 0 ≤ t ∧ t ≤ σ 2 1 - 1 := bList_t c8
    obtain ⟨u, rfl⟩ := Int.eq_ofNat_of_zero_le h8.1
    refine r_iload_n C rfl dX5_dated_13 ?_
    refine r_iload_n C rfl dX5_dated_14 ?_
    refine r_iload C rfl dX5_dated_15 ?_
    refine r_callS (As := [_, _, _]) C (c_X5_areYears _ _ _ (by omega) (by omega) (by omega)) ok_X5_areYears ln_X5_145 rfl rfl (Nat.le_of_ble_eq_true rfl) (Nat.le_of_ble_eq_true rfl) (Nat.le_of_ble_eq_true rfl) dX5_dated_17 (fun v17 τ17 hq17 => ?_)
    obtain ⟨rfl, rfl⟩ := hq17
    refine r_ifB_ne (tgt := 26) C (by decide) dX5_dated_20 (fun c20 => ?_) (fun c20 => ?_)
    · refine r_aload_n C rfl dX5_dated_26 ?_
      refine r_iload_n C rfl dX5_dated_27 ?_
      refine r_iload_n C rfl dX5_dated_28 ?_
      refine r_iload_n C rfl dX5_dated_29 ?_
      refine r_iload C rfl dX5_dated_30 ?_
      refine r_callV (As := [_, _, _, _]) C (c_X5_weighYears _ _ _ hI (by omega) c20) ok_X5_weighYears ln_X5_148 rfl rfl rfl rfl (Nat.le_of_ble_eq_true rfl) (Nat.le_of_ble_eq_true rfl) (Nat.le_of_ble_eq_true rfl) dX5_dated_32 (fun v32 τ32 hq32 => ?_)
      obtain ⟨rfl, hF, hj⟩ := hq32
      have e2 : vX τ32 = vX σ := Fr_vX hF (by decide)
      refine r_istore (ls' := [_, _, _, _, _, _, _, _]) C (by decide) rfl rfl dX5_dated_35 ?_
      refine r_iconst C dX5_dated_37 ?_
      refine r_istore (ls' := [_, _, _, _, _, _, _, _]) C (by decide) rfl rfl dX5_dated_38 ?_
      refine r_iconst C dX5_dated_40 ?_
      refine r_istore (ls' := [_, _, _, _, _, _, _, _]) C (by decide) rfl rfl dX5_dated_41 ?_
      refine loop (sYs f e) 1 0 u _ rfl c8 c20 (by omega) (by omega) e2 hj (by omega) ?_
      simp [sDt]
    · refine r_bipush C (by decide +kernel) dX5_dated_23 ?_
      refine r_ireturn C rfl ?_ dX5_dated_25
      exact pX_of (by simp [s_dated, *]) rfl
  · refine r_iconst C dX5_dated_11 ?_
    refine r_ireturn C rfl ?_ dX5_dated_12
    exact pX_of (by simp [s_dated, *]) rfl
set_option maxRecDepth 100000 in
theorem c_X5_doubt (l : Launch) (G : pw_G) (σ : pw_H) {t h f e k : Int} (hI : Inv (vX σ)) (q_t : InI t) (q_h : InI h) (q_f : InI f) (q_e : InI e) (q_k : InI k) : Ct l shX G mX5_doubt [.ref (G.2.1 0), vI t, vI h, vI f, vI e, vI k] σ (pX (s_doubt (vX σ) t h f e k)) := by
  have h0 : 0 ≤ σ 1 4 ∧ σ 1 4 ≤ 8 := hI.1
  have h5 : 0 ≤ σ 1 5 ∧ σ 1 5 ≤ 6 := hI.2.1
  have h1 : 0 ≤ σ 2 1 ∧ σ 2 1 ≤ 6 := hI.2.2.1
  refine Ct_of (ls := [some (.ref (G.2.1 0)), some (vI t), some (vI h), some (vI f), some (vI e), some (vI k), none, none, none, none]) (by decide +kernel) (Nat.le_of_ble_eq_true rfl) rfl (fun X C => ?_)
  have loop2 : ∀ (n i : Nat) (υ : pw_H), bList (vX σ) t = true → bYrs h f e = true → bIn k 0 800 = true → i + n = sYs f e + 1 → vX υ = vX σ → (∀ j : Nat, j ≤ sYs f e → υ 5 j = sBest (vX σ) t (f + 10 * j) h) → PW X shX G 93 [some (.ref (G.2.1 0)), some (vI t), some (vI h), some (vI f), some (vI e), some (vI k), some (vI ((sYs f e : Int) + 1)), some (vI (sDt (vX σ) t h f (sYs f e)).2), some (vI (sSum (fun i => zB (decide (sBest (vX σ) t (f + 10 * i) h ≤ (sDt (vX σ) t h f (sYs f e)).2 + k))) i)), some (vI (i : Int))] [] υ := by
    intro n
    induction n with
    | zero =>
      intro i υ c8 c20 c32 hi e2 hj
      obtain ⟨y1, y2, y3, y4, y5⟩ := bYrs_t c20
      have hs : (sYs f e : Int) = (e - f) / 10 := by unfold sYs; omega
      refine r_iload C rfl dX5_doubt_93 ?_
      refine r_iload C rfl dX5_doubt_95 ?_
      refine r_icmp_ge (tgt := 124) C (by decide) (by omega) (by omega) dX5_doubt_97 (fun c97 => ?_) (fun c97 => ?_)
      · refine r_iload C rfl dX5_doubt_124 ?_
        refine r_ireturn C rfl ?_ dX5_doubt_126
        rw [show i = sYs f e + 1 by omega]
        exact pX_of (a := vX σ) (by simp [s_doubt, c8, c20, c32]) e2
      · omega
    | succ n ih =>
      intro i υ c8 c20 c32 hi e2 hj
      obtain ⟨y1, y2, y3, y4, y5⟩ := bYrs_t c20
      have hs : (sYs f e : Int) = (e - f) / 10 := by unfold sYs; omega
      have r1 := hj i (by omega)
      have r3 := sBest_r hI t (f + 10 * i) h
      have r5 := (sDt_r hI t h f (sYs f e)).1
      have r6 := bIn_iff.mp c32
      have es : sSum (fun i => zB (decide (sBest (vX σ) t (f + 10 * i) h ≤ (sDt (vX σ) t h f (sYs f e)).2 + k))) (i + 1) = sSum (fun i => zB (decide (sBest (vX σ) t (f + 10 * i) h ≤ (sDt (vX σ) t h f (sYs f e)).2 + k))) i + zB (decide (sBest (vX σ) t (f + 10 * i) h ≤ (sDt (vX σ) t h f (sYs f e)).2 + k)) := rfl
      refine r_iload C rfl dX5_doubt_93 ?_
      refine r_iload C rfl dX5_doubt_95 ?_
      refine r_icmp_ge (tgt := 124) C (by decide) (by omega) (by omega) dX5_doubt_97 (fun c97 => ?_) (fun c97 => ?_)
      · omega
      · refine r_aload_n C rfl dX5_doubt_100 ?_
        refine r_getR C 4 4 rfl rfl (by decide) rfl uw_X5 fl_X5_41 dX5_doubt_101 ?_
        refine r_iload C rfl dX5_doubt_104 ?_
        refine r_iaload C rfl (by decide) (by omega) dX5_doubt_106 ?_
        refine r_iload C rfl dX5_doubt_107 ?_
        refine r_iload C rfl dX5_doubt_109 ?_
        refine r_iadd C dX5_doubt_111 ?_
        rw [r1]
        refine r_icmp_gt (tgt := 118) C (by decide) (by omega) (by omega) dX5_doubt_112 (fun c112 => ?_) (fun c112 => ?_)
        · refine r_iinc (ls' := [_, _, _, _, _, _, _, _, _, _]) C rfl (by decide) rfl rfl dX5_doubt_118 ?_
          refine r_goto (tgt := 93) C (by decide) dX5_doubt_121 ?_
          refine PW_ls (ih (i + 1) υ c8 c20 c32 (by omega) e2 hj) ?_
          rw [es]
          first | rw [zB_t (by rw [decide_eq_true_eq]; omega)]; rfl | rw [zB_f (by rw [decide_eq_false_iff_not]; omega), Int.add_zero]; rfl
        · refine r_iinc (ls' := [_, _, _, _, _, _, _, _, _, _]) C rfl (by decide) rfl rfl dX5_doubt_115 ?_
          refine r_iinc (ls' := [_, _, _, _, _, _, _, _, _, _]) C rfl (by decide) rfl rfl dX5_doubt_118 ?_
          refine r_goto (tgt := 93) C (by decide) dX5_doubt_121 ?_
          refine PW_ls (ih (i + 1) υ c8 c20 c32 (by omega) e2 hj) ?_
          rw [es]
          first | rw [zB_t (by rw [decide_eq_true_eq]; omega)]; rfl | rw [zB_f (by rw [decide_eq_false_iff_not]; omega), Int.add_zero]; rfl
  have loop : ∀ (n i : Nat) (υ : pw_H), bList (vX σ) t = true → bYrs h f e = true → bIn k 0 800 = true → i + n = sYs f e + 1 → 1 ≤ i → vX υ = vX σ → (∀ j : Nat, j ≤ sYs f e → υ 5 j = sBest (vX σ) t (f + 10 * j) h) → PW X shX G 60 [some (.ref (G.2.1 0)), some (vI t), some (vI h), some (vI f), some (vI e), some (vI k), some (vI ((sYs f e : Int) + 1)), some (vI (sDt (vX σ) t h f (i - 1)).2), some (vI (i : Int)), none] [] υ := by
    intro n
    induction n with
    | zero =>
      intro i υ c8 c20 c32 hi i1 e2 hj
      obtain ⟨y1, y2, y3, y4, y5⟩ := bYrs_t c20
      have hs : (sYs f e : Int) = (e - f) / 10 := by unfold sYs; omega
      refine r_iload C rfl dX5_doubt_60 ?_
      refine r_iload C rfl dX5_doubt_62 ?_
      refine r_icmp_ge (tgt := 87) C (by decide) (by omega) (by omega) dX5_doubt_64 (fun c64 => ?_) (fun c64 => ?_)
      · refine r_iconst C dX5_doubt_87 ?_
        refine r_istore (ls' := [_, _, _, _, _, _, _, _, _, _]) C (by decide) rfl rfl dX5_doubt_88 ?_
        refine r_iconst C dX5_doubt_90 ?_
        refine r_istore (ls' := [_, _, _, _, _, _, _, _, _, _]) C (by decide) rfl rfl dX5_doubt_91 ?_
        rw [show i - 1 = sYs f e by omega]
        exact loop2 (sYs f e + 1) 0 υ c8 c20 c32 (by omega) e2 hj
      · omega
    | succ n ih =>
      intro i υ c8 c20 c32 hi i1 e2 hj
      obtain ⟨y1, y2, y3, y4, y5⟩ := bYrs_t c20
      have hs : (sYs f e : Int) = (e - f) / 10 := by unfold sYs; omega
      have r1 := hj i (by omega)
      have r3 := sBest_r hI t (f + 10 * i) h
      have r5 := (sDt_r hI t h f (i - 1)).1
      have ec : ((i - 1 + 1 : Nat) : Int) = (i : Int) := by omega
      have em : (sDt (vX σ) t h f (i + 1 - 1)).2 = zmin (sDt (vX σ) t h f (i - 1)).2 (sBest (vX σ) t (f + 10 * i) h) := by
        rw [show i + 1 - 1 = (i - 1) + 1 by omega]
        simp only [sDt, zmin]
        rw [ec]
        split <;> rfl
      refine r_iload C rfl dX5_doubt_60 ?_
      refine r_iload C rfl dX5_doubt_62 ?_
      refine r_icmp_ge (tgt := 87) C (by decide) (by omega) (by omega) dX5_doubt_64 (fun c64 => ?_) (fun c64 => ?_)
      · omega
      · refine r_iload C rfl dX5_doubt_67 ?_
        refine r_aload_n C rfl dX5_doubt_69 ?_
        refine r_getR C 4 4 rfl rfl (by decide) rfl uw_X5 fl_X5_41 dX5_doubt_70 ?_
        refine r_iload C rfl dX5_doubt_73 ?_
        refine r_iaload C rfl (by decide) (by omega) dX5_doubt_75 ?_
        rw [r1]
        refine r_mmin C (by omega) (by omega) ln_X5_151 st_min in_Math co_min (Nat.le_of_ble_eq_true rfl) (Nat.le_of_ble_eq_true rfl) dX5_doubt_76 ?_
        refine r_istore (ls' := [_, _, _, _, _, _, _, _, _, _]) C (by decide) rfl rfl dX5_doubt_79 ?_
        refine r_iinc (ls' := [_, _, _, _, _, _, _, _, _, _]) C rfl (by decide) rfl rfl dX5_doubt_81 ?_
        refine r_goto (tgt := 60) C (by decide) dX5_doubt_84 ?_
        refine PW_ls (ih (i + 1) υ c8 c20 c32 (by omega) (by omega) e2 hj) ?_
        rw [em]
        rfl
  refine r_aload_n C rfl dX5_doubt_0 ?_
  refine r_getR C 4 1 rfl rfl (by decide) rfl uw_X5 fl_X5_19 dX5_doubt_1 ?_
  refine r_iload_n C rfl dX5_doubt_4 ?_
  refine r_callV (As := [_]) C (c_X2_has _ _ _ (by omega) hI) ok_X2_has ln_X5_98 rfl rfl rfl rfl (Nat.le_of_ble_eq_true rfl) (Nat.le_of_ble_eq_true rfl) (Nat.le_of_ble_eq_true rfl) dX5_doubt_5 (fun v5 τ5 hq5 => ?_)
  obtain ⟨rfl, rfl⟩ := hq5
  refine r_ifB_ne (tgt := 13) C (by decide) dX5_doubt_8 (fun c8 => ?_) (fun c8 => ?_)
  · have h8 : 0 ≤ t ∧ t ≤ σ 2 1 - 1 := bList_t c8
    obtain ⟨u, rfl⟩ := Int.eq_ofNat_of_zero_le h8.1
    refine r_iload_n C rfl dX5_doubt_13 ?_
    refine r_iload_n C rfl dX5_doubt_14 ?_
    refine r_iload C rfl dX5_doubt_15 ?_
    refine r_callS (As := [_, _, _]) C (c_X5_areYears _ _ _ (by omega) (by omega) (by omega)) ok_X5_areYears ln_X5_145 rfl rfl (Nat.le_of_ble_eq_true rfl) (Nat.le_of_ble_eq_true rfl) (Nat.le_of_ble_eq_true rfl) dX5_doubt_17 (fun v17 τ17 hq17 => ?_)
    obtain ⟨rfl, rfl⟩ := hq17
    refine r_ifB_eq (tgt := 35) C (by decide) dX5_doubt_20 (fun c20 => ?_) (fun c20 => ?_)
    · refine r_bipush C (by decide +kernel) dX5_doubt_35 ?_
      refine r_ireturn C rfl ?_ dX5_doubt_37
      exact pX_of (by simp [s_doubt, *]) rfl
    · refine r_iload C rfl dX5_doubt_23 ?_
      refine r_iconst C dX5_doubt_25 ?_
      refine r_sipush C (by decide +kernel) dX5_doubt_26 ?_
      refine r_callS (As := [_, _, _]) C (c_X5_isWithin _ _ _ (by omega) (by omega) (by omega)) ok_X5_isWithin ln_X5_49 rfl rfl (Nat.le_of_ble_eq_true rfl) (Nat.le_of_ble_eq_true rfl) (Nat.le_of_ble_eq_true rfl) dX5_doubt_29 (fun v29 τ29 hq29 => ?_)
      obtain ⟨rfl, rfl⟩ := hq29
      refine r_ifB_ne (tgt := 38) C (by decide) dX5_doubt_32 (fun c32 => ?_) (fun c32 => ?_)
      · refine r_aload_n C rfl dX5_doubt_38 ?_
        refine r_iload_n C rfl dX5_doubt_39 ?_
        refine r_iload_n C rfl dX5_doubt_40 ?_
        refine r_iload_n C rfl dX5_doubt_41 ?_
        refine r_iload C rfl dX5_doubt_42 ?_
        refine r_callV (As := [_, _, _, _]) C (c_X5_weighYears _ _ _ hI (by omega) c20) ok_X5_weighYears ln_X5_148 rfl rfl rfl rfl (Nat.le_of_ble_eq_true rfl) (Nat.le_of_ble_eq_true rfl) (Nat.le_of_ble_eq_true rfl) dX5_doubt_44 (fun v44 τ44 hq44 => ?_)
        obtain ⟨rfl, hF, hj⟩ := hq44
        have e2 : vX τ44 = vX σ := Fr_vX hF (by decide)
        have hj0 := hj 0 (Nat.zero_le _)
        refine r_istore (ls' := [_, _, _, _, _, _, _, _, _, _]) C (by decide) rfl rfl dX5_doubt_47 ?_
        refine r_aload_n C rfl dX5_doubt_49 ?_
        refine r_getR C 4 4 rfl rfl (by decide) rfl uw_X5 fl_X5_41 dX5_doubt_50 ?_
        refine r_iconst C dX5_doubt_53 ?_
        refine r_iaload C rfl (by decide) (by omega) dX5_doubt_54 ?_
        refine r_istore (ls' := [_, _, _, _, _, _, _, _, _, _]) C (by decide) rfl rfl dX5_doubt_55 ?_
        refine r_iconst C dX5_doubt_57 ?_
        refine r_istore (ls' := [_, _, _, _, _, _, _, _, _, _]) C (by decide) rfl rfl dX5_doubt_58 ?_
        refine PW_ls (loop (sYs f e) 1 _ c8 c20 c32 (by omega) (by omega) e2 hj) ?_
        have e5 : (sDt (vX σ) u h f (1 - 1)).2 = sBest (vX σ) u (f + 10 * (0 : Nat)) h := by simp [sDt]
        rw [e5, ← hj0]
        rfl
      · refine r_bipush C (by decide +kernel) dX5_doubt_35 ?_
        refine r_ireturn C rfl ?_ dX5_doubt_37
        exact pX_of (by simp [s_doubt, *]) rfl
  · refine r_iconst C dX5_doubt_11 ?_
    refine r_ireturn C rfl ?_ dX5_doubt_12
    exact pX_of (by simp [s_doubt, *]) rfl
end
section
theorem sIns_cong (d : Int) : ∀ (n : Nat) (f g : Int → Int), (∀ j : Nat, j < n → f j = g j) → ∀ j : Nat, j ≤ n → sIns d n f j = sIns d n g j
  | 0, f, g, h, j, hj => by
    have : j = 0 := by omega
    subst this
    simp [sIns]
  | n + 1, f, g, h, j, hj => by
    simp only [sIns]
    rw [h n (by omega)]
    by_cases q : d < g n
    · rw [if_pos q, if_pos q]
      by_cases q2 : j = n + 1
      · subst q2
        have out : ∀ (m : Nat) (F : Int → Int) (z : Int), (m : Int) < z → sIns d m F z = F z := by
          intro m
          induction m with
          | zero => intro F z hz; simp only [sIns]; rw [if_neg (by omega)]
          | succ m ih =>
            intro F z hz
            simp only [sIns]
            split
            · rw [ih _ z (by omega), if_neg (by omega)]
            · exact if_neg (by omega)
        rw [out n _ _ (by omega), out n _ _ (by omega)]
        simp
      · refine sIns_cong d n _ _ (fun k hk => ?_) j (by omega)
        try simp only []
        rw [if_neg (by omega), if_neg (by omega)]
        exact h k (by omega)
    · rw [if_neg q, if_neg q]
      by_cases q2 : (j : Int) = (n + 1 : Nat)
      · rw [if_pos q2, if_pos q2]
      · rw [if_neg q2, if_neg q2]
        exact h j (by omega)
theorem sIns_rng (d lo hi : Int) (hd : lo ≤ d ∧ d ≤ hi) : ∀ (n : Nat) (f : Int → Int), (∀ j : Nat, j < n → lo ≤ f j ∧ f j ≤ hi) → ∀ j : Nat, j ≤ n → lo ≤ sIns d n f j ∧ sIns d n f j ≤ hi
  | 0, f, h, j, hj => by
    have : j = 0 := by omega
    subst this
    simp [sIns]; exact hd
  | n + 1, f, h, j, hj => by
    simp only [sIns]
    by_cases q : d < f n
    · rw [if_pos q]
      by_cases q2 : j = n + 1
      · subst q2
        have out : ∀ (m : Nat) (F : Int → Int) (z : Int), (m : Int) < z → sIns d m F z = F z := by
          intro m
          induction m with
          | zero => intro F z hz; simp only [sIns]; rw [if_neg (by omega)]
          | succ m ih =>
            intro F z hz
            simp only [sIns]
            split
            · rw [ih _ z (by omega), if_neg (by omega)]
            · exact if_neg (by omega)
        rw [out n _ _ (by omega)]
        simp
        exact h n (by omega)
      · refine sIns_rng d lo hi hd n _ (fun k hk => ?_) j (by omega)
        try simp only []
        rw [if_neg (by omega)]
        exact h k (by omega)
    · rw [if_neg q]
      by_cases q2 : (j : Int) = (n + 1 : Nat)
      · rw [if_pos q2]; exact hd
      · rw [if_neg q2]
        exact h j (by omega)
theorem sStar_r {a : pw_H} (hI : Inv a) {l y h : Int} {i : Nat} (hi : i < (a 5 l).toNat) : sStar a l y h i = -9 ∨ (0 ≤ sStar a l y h i ∧ sStar a l y h i < a 0 0 ∧ sF a l y h i (sStar a l y h i) = true) := by
  have h0 := hI.1
  rcases sSt_rng (C := sC a l y h) (N := (a 0 0).toNat) (n := (a 5 l).toNat) i with q | ⟨q1, q2, q3⟩ | q
  · exact Or.inl q
  · have e : sSt (sC a l y h) (a 0 0).toNat (a 5 l).toNat i = sStar a l y h i := rfl
    rw [e] at q1 q2 q3
    exact Or.inr ⟨q1, by omega, sC_lt.mp q3⟩
  · omega
theorem pw_u_f (σ : pw_H) (k : Nat) (z v : Int) : pw_u σ k z v k = fun j => if j = z then v else σ k j := by
  funext j
  simp [pw_u]
theorem sWs_r (a : pw_H) (l y : Int) : ∀ i, (sWs a l y i).2 ≤ i ∧ ∀ j : Nat, j < (sWs a l y i).2 → -10800 ≤ (sWs a l y i).1 j ∧ (sWs a l y i).1 j ≤ 10799
  | 0 => by simp [sWs]
  | i + 1 => by
    obtain ⟨h1, h2⟩ := sWs_r a l y i
    simp only [sWs]
    split
    · exact ⟨by omega, h2⟩
    · refine ⟨by simp only []; omega, fun j hj => sIns_rng _ _ _ (n_way _ _) _ _ h2 j ?_⟩
      simp only [] at hj
      omega
set_option maxRecDepth 100000 in
theorem c_X1_insertWay (l : Launch) (G : pw_G) (σ : pw_H) {n : Nat} {d : Int} (hn : n < 8) (hd : -10800 ≤ d ∧ d ≤ 10800) (hr : ∀ j : Nat, j < n → -10800 ≤ σ 14 j ∧ σ 14 j ≤ 10799) : Ct l shX G mX1_insertWay [.ref (G.2.1 3), vI (n : Int), vI d] σ (fun r τ => r = none ∧ Fr [14] σ τ ∧ τ 14 = sIns d n (σ 14)) := by
  refine Ct_of (ls := [some (.ref (G.2.1 3)), some (vI (n : Int)), some (vI d), none]) (by decide +kernel) (Nat.le_of_ble_eq_true rfl) rfl (fun X C => ?_)
  have loop : ∀ (k : Nat) (υ : pw_H), k ≤ n → Fr [14] σ υ → (∀ j : Nat, j < k → υ 14 j = σ 14 j) → sIns d k (υ 14) = sIns d n (σ 14) → PW X shX G 2 [some (.ref (G.2.1 3)), some (vI (n : Int)), some (vI d), some (vI (k : Int))] [] υ := by
    intro k
    induction k with
    | zero =>
      intro υ hk hF hj hs
      refine r_iload_n C rfl dX1_insertWay_2 ?_
      refine r_if_le (tgt := 38) C (by decide) (by omega) dX1_insertWay_3 (fun c3 => ?_) (fun c3 => ?_)
      · refine r_aload_n C rfl dX1_insertWay_38 ?_
        refine r_getR C 1 1 rfl rfl (by decide) rfl uw_X1 fl_X1_15 dX1_insertWay_39 ?_
        refine r_iload_n C rfl dX1_insertWay_42 ?_
        refine r_iload_n C rfl dX1_insertWay_43 ?_
        refine r_iastore C rfl (by decide) (by omega) dX1_insertWay_44 ?_
        refine r_return C rfl ?_ dX1_insertWay_45
        refine ⟨rfl, hF.tr (Fr.u (by decide)) (fun _ q => q) (fun _ q => q), ?_⟩
        rw [pw_u_f, ← hs]
        rfl
      · omega
    | succ k ih =>
      intro υ hk hF hj hs
      have e1 := hj k (by omega)
      have e2 := hr k (by omega)
      have e0 : ((k + 1 : Nat) : Int) - 1 = (k : Int) := by omega
      refine r_iload_n C rfl dX1_insertWay_2 ?_
      refine r_if_le (tgt := 38) C (by decide) (by omega) dX1_insertWay_3 (fun c3 => ?_) (fun c3 => ?_)
      · omega
      · refine r_aload_n C rfl dX1_insertWay_6 ?_
        refine r_getR C 1 1 rfl rfl (by decide) rfl uw_X1 fl_X1_15 dX1_insertWay_7 ?_
        refine r_iload_n C rfl dX1_insertWay_10 ?_
        refine r_iconst C dX1_insertWay_11 ?_
        refine r_isub C dX1_insertWay_12 ?_
        rw [e0]
        refine r_iaload C rfl (by decide) (by omega) dX1_insertWay_13 ?_
        refine r_iload_n C rfl dX1_insertWay_14 ?_
        rw [e1]
        refine r_icmp_le (tgt := 38) C (by decide) (by omega) (by omega) dX1_insertWay_15 (fun c15 => ?_) (fun c15 => ?_)
        · refine r_aload_n C rfl dX1_insertWay_38 ?_
          refine r_getR C 1 1 rfl rfl (by decide) rfl uw_X1 fl_X1_15 dX1_insertWay_39 ?_
          refine r_iload_n C rfl dX1_insertWay_42 ?_
          refine r_iload_n C rfl dX1_insertWay_43 ?_
          refine r_iastore C rfl (by decide) (by omega) dX1_insertWay_44 ?_
          refine r_return C rfl ?_ dX1_insertWay_45
          refine ⟨rfl, hF.tr (Fr.u (by decide)) (fun _ q => q) (fun _ q => q), ?_⟩
          rw [pw_u_f, ← hs]
          simp only [sIns]
          rw [if_neg (by omega)]
        · refine r_aload_n C rfl dX1_insertWay_18 ?_
          refine r_getR C 1 1 rfl rfl (by decide) rfl uw_X1 fl_X1_15 dX1_insertWay_19 ?_
          refine r_iload_n C rfl dX1_insertWay_22 ?_
          refine r_aload_n C rfl dX1_insertWay_23 ?_
          refine r_getR C 1 1 rfl rfl (by decide) rfl uw_X1 fl_X1_15 dX1_insertWay_24 ?_
          refine r_iload_n C rfl dX1_insertWay_27 ?_
          refine r_iconst C dX1_insertWay_28 ?_
          refine r_isub C dX1_insertWay_29 ?_
          rw [e0]
          refine r_iaload C rfl (by decide) (by omega) dX1_insertWay_30 ?_
          rw [e1]
          refine r_iastore C rfl (by decide) (by omega) dX1_insertWay_31 ?_
          refine r_iinc (ls' := [_, _, _, _]) C rfl (by decide) rfl rfl dX1_insertWay_32 ?_
          refine r_goto (tgt := 2) C (by decide) dX1_insertWay_35 ?_
          refine PW_ls (ih _ (by omega) (hF.tr (Fr.u (by decide)) (fun _ q => q) (fun _ q => q)) (fun j j1 => by rw [pw_u_j (by omega)]; exact hj j (by omega)) ?_) ?_
          · rw [pw_u_f, ← hs, ← e1]
            simp only [sIns]
            rw [if_pos (by omega)]
          · rw [show ((k + 1 : Nat) : Int) + -1 = (k : Int) by omega]
  refine r_iload_n C rfl dX1_insertWay_0 ?_
  refine r_istore_n (ls' := [_, _, _, _]) C (by decide) rfl rfl dX1_insertWay_1 ?_
  exact loop n σ (Nat.le_refl n) Fr.rf (fun j j1 => rfl) rfl
set_option maxRecDepth 100000 in
set_option maxHeartbeats 4000000 in
theorem c_X1_sortPlainWays (l : Launch) (G : pw_G) (σ : pw_H) {t : Nat} {y : Int} (hI : Inv (vX σ)) (ht : t < 6) (hst : ∀ i : Nat, i < (σ 10 t).toNat → σ 13 i = sStar (vX σ) t y 0 i) (hsky : ∀ s : Int, 0 ≤ s → s < σ 1 4 → σ 15 s = sSky (vX σ) s y + 0) : Ct l shX G mX1_sortPlainWays [.ref (G.2.1 3), vI (t : Int)] σ (fun r τ => r = some (vI ((sWs (vX σ) t y (σ 10 t).toNat).2 : Int)) ∧ Fr [14] σ τ ∧ ∀ j : Nat, j < (sWs (vX σ) t y (σ 10 t).toNat).2 → τ 14 j = (sWs (vX σ) t y (σ 10 t).toNat).1 j) := by
  have h0 : 0 ≤ σ 1 4 ∧ σ 1 4 ≤ 8 := hI.1
  have h9 : 0 ≤ σ 10 t ∧ σ 10 t ≤ 8 := hI.2.2.2.2.2.2.2.1 t
  refine Ct_of (ls := [some (.ref (G.2.1 3)), some (vI (t : Int)), none, none, none]) (by decide +kernel) (Nat.le_of_ble_eq_true rfl) rfl (fun X C => ?_)
  have loop : ∀ (k i : Nat) (υ : pw_H), i + k = (σ 10 t).toNat → Fr [14] σ υ → (∀ j : Nat, j < (sWs (vX σ) t y i).2 → υ 14 j = (sWs (vX σ) t y i).1 j) → PW X shX G 4 [some (.ref (G.2.1 3)), some (vI (t : Int)), some (vI ((sWs (vX σ) t y i).2 : Int)), some (vI (i : Int)), none] [] υ := by
    intro k
    induction k with
    | zero =>
      intro i υ hi hF hj
      have e1 : υ 10 t = σ 10 t := congrFun (hF 10 (by decide)) _
      have ei : i = (σ 10 t).toNat := by omega
      subst ei
      refine r_iload_n C rfl dX1_sortPlainWays_4 ?_
      refine r_aload_n C rfl dX1_sortPlainWays_5 ?_
      refine r_getR C 1 4 rfl rfl (by decide) rfl uw_X1 fl_X1_42 dX1_sortPlainWays_6 ?_
      refine r_getR C 2 0 rfl rfl (by decide) rfl uw_X2 fl_X1_62 dX1_sortPlainWays_9 ?_
      refine r_iload_n C rfl dX1_sortPlainWays_12 ?_
      refine r_iaload C rfl (by decide) (by omega) dX1_sortPlainWays_13 ?_
      refine r_icmp_ge (tgt := 82) C (by decide) (by omega) (by omega) dX1_sortPlainWays_14 (fun c14 => ?_) (fun c14 => ?_)
      · refine r_iload_n C rfl dX1_sortPlainWays_82 ?_
        refine r_ireturn C rfl ?_ dX1_sortPlainWays_83
        exact ⟨rfl, hF, hj⟩
      · omega
    | succ k ih =>
      intro i υ hi hF hj
      have e1 : υ 10 t = σ 10 t := congrFun (hF 10 (by decide)) _
      have e2 : vX υ = vX σ := Fr_vX hF (by decide)
      have e3 : υ 13 i = sStar (vX σ) t y 0 i := (congrFun (hF 13 (by decide)) _).trans (hst i (by omega))
      have hw := sWs_r (vX σ) t y i
      have hs3 : sStar (vX σ) t y 0 i = -9 ∨ (0 ≤ sStar (vX σ) t y 0 i ∧ sStar (vX σ) t y 0 i < σ 1 4) := by
        rcases sStar_r (y := y) (h := 0) hI (l := t) (i := i) (show i < (σ 10 t).toNat by omega) with q | ⟨q1, q2, -⟩
        · exact Or.inl q
        · exact Or.inr ⟨q1, q2⟩
      have e4 : 0 ≤ sStar (vX σ) t y 0 i → υ 15 (sStar (vX σ) t y 0 i) = sSky (vX σ) (sStar (vX σ) t y 0 i) y := fun q => by
        rw [hF 15 (by decide), hsky _ q (by omega), Int.add_zero]
      have hsk := n_sky (vX σ) (sStar (vX σ) t y 0 i) y
      have hrk : 0 ≤ sRk (vX σ) t i (sStar (vX σ) t y 0 i) y 0 ∧ sRk (vX σ) t i (sStar (vX σ) t y 0 i) y 0 ≤ 1048576 := n_sRank _ _ _
      have b1 : 0 ≤ σ 11 ((t : Int) * 8 + i) ∧ σ 11 ((t : Int) * 8 + i) ≤ 21599 := hI.2.2.2.2.2.2.2.2.2.1 _
      have b2 : υ 11 ((t : Int) * 8 + i) = σ 11 ((t : Int) * 8 + i) := congrFun (hF 11 (by decide)) _
      have b4 := n_way (sSky (vX σ) (sStar (vX σ) t y 0 i) y) (σ 11 ((t : Int) * 8 + i))
      have hno : (sStar (vX σ) t y 0 i = -9 ∨ ¬ sRk (vX σ) t i (sStar (vX σ) t y 0 i) y 0 % 4 = 0) → sWs (vX σ) t y (i + 1) = sWs (vX σ) t y i := fun q => by simp only [sWs]; rw [if_pos q]
      refine r_iload_n C rfl dX1_sortPlainWays_4 ?_
      refine r_aload_n C rfl dX1_sortPlainWays_5 ?_
      refine r_getR C 1 4 rfl rfl (by decide) rfl uw_X1 fl_X1_42 dX1_sortPlainWays_6 ?_
      refine r_getR C 2 0 rfl rfl (by decide) rfl uw_X2 fl_X1_62 dX1_sortPlainWays_9 ?_
      refine r_iload_n C rfl dX1_sortPlainWays_12 ?_
      refine r_iaload C rfl (by decide) (by omega) dX1_sortPlainWays_13 ?_
      refine r_icmp_ge (tgt := 82) C (by decide) (by omega) (by omega) dX1_sortPlainWays_14 (fun c14 => ?_) (fun c14 => ?_)
      · omega
      · refine r_aload_n C rfl dX1_sortPlainWays_17 ?_
        refine r_getR C 1 0 rfl rfl (by decide) rfl uw_X1 fl_X1_11 dX1_sortPlainWays_18 ?_
        refine r_iload_n C rfl dX1_sortPlainWays_21 ?_
        refine r_iaload C rfl (by decide) (by omega) dX1_sortPlainWays_22 ?_
        rw [e3]
        refine r_istore (ls' := [_, _, _, _, _]) C (by decide) rfl rfl dX1_sortPlainWays_23 ?_
        refine r_iload C rfl dX1_sortPlainWays_25 ?_
        refine r_bipush C (by decide +kernel) dX1_sortPlainWays_27 ?_
        refine r_icmp_eq (tgt := 76) C (by decide) (by omega) (by omega) dX1_sortPlainWays_29 (fun c29 => ?_) (fun c29 => ?_)
        · refine r_iinc (ls' := [_, _, _, _, _]) C rfl (by decide) rfl rfl dX1_sortPlainWays_76 ?_
          refine r_goto (tgt := 4) C (by decide) dX1_sortPlainWays_79 ?_
          refine PW_lw [true, true, true, true, false] (ih (i + 1) υ (by omega) hF ?_) ?_
          · rw [hno (Or.inl (by omega))]; exact hj
          · rw [hno (Or.inl (by omega))]; rfl
        · refine r_aload_n C rfl dX1_sortPlainWays_32 ?_
          refine r_iload_n C rfl dX1_sortPlainWays_33 ?_
          refine r_iload_n C rfl dX1_sortPlainWays_34 ?_
          refine r_iload C rfl dX1_sortPlainWays_35 ?_
          refine r_callV (As := [_, _, _]) C (c_X1_turnedRank _ _ _ (e2 ▸ hI) (by omega) (by omega) (by omega) (by rw [e4 (by omega)]; omega)) ok_X1_turnedRank ln_X1_50 rfl rfl rfl rfl (Nat.le_of_ble_eq_true rfl) (Nat.le_of_ble_eq_true rfl) (Nat.le_of_ble_eq_true rfl) dX1_sortPlainWays_37 (fun v37 τ37 hq37 => ?_)
          obtain ⟨rfl, rfl⟩ := hq37
          rw [e4 (by omega), e2, show sRank (sWay (sSky (vX σ) (sStar (vX σ) t y 0 i) y) (vX σ 6 ((t : Int) * 8 + i))) (vX σ 7 ((t : Int) * 8 + i)) (vX σ 2 (sStar (vX σ) t y 0 i)) = sRk (vX σ) t i (sStar (vX σ) t y 0 i) y 0 by unfold sRk; rw [Int.add_zero]]
          refine r_callS (As := [_]) C (c_X3_kindOf _ _ _ hrk) ok_X3_kindOf ln_X1_129 rfl rfl (Nat.le_of_ble_eq_true rfl) (Nat.le_of_ble_eq_true rfl) (Nat.le_of_ble_eq_true rfl) dX1_sortPlainWays_40 (fun v40 τ40 hq40 => ?_)
          obtain ⟨rfl, rfl⟩ := hq40
          refine r_if_eq (tgt := 49) C (by decide) (by omega) dX1_sortPlainWays_43 (fun c43 => ?_) (fun c43 => ?_)
          · refine r_aload_n C rfl dX1_sortPlainWays_49 ?_
            refine r_iload_n C rfl dX1_sortPlainWays_50 ?_
            refine r_aload_n C rfl dX1_sortPlainWays_51 ?_
            refine r_getR C 1 5 rfl rfl (by decide) rfl uw_X1 fl_X1_22 dX1_sortPlainWays_52 ?_
            refine r_iload C rfl dX1_sortPlainWays_55 ?_
            refine r_iaload C rfl (by decide) (by omega) dX1_sortPlainWays_57 ?_
            rw [e4 (by omega)]
            refine r_aload_n C rfl dX1_sortPlainWays_58 ?_
            refine r_getR C 1 4 rfl rfl (by decide) rfl uw_X1 fl_X1_42 dX1_sortPlainWays_59 ?_
            refine r_iload_n C rfl dX1_sortPlainWays_62 ?_
            refine r_iload_n C rfl dX1_sortPlainWays_63 ?_
            refine r_callV (As := [_, _]) C (c_X2_longOf _ _ _ (by omega) (by omega)) ok_X2_longOf ln_X1_90 rfl rfl rfl rfl (Nat.le_of_ble_eq_true rfl) (Nat.le_of_ble_eq_true rfl) (Nat.le_of_ble_eq_true rfl) dX1_sortPlainWays_64 (fun v64 τ64 hq64 => ?_)
            obtain ⟨rfl, rfl⟩ := hq64
            rw [b2]
            refine r_callN (As := [_, _]) C (c_X5_leads _ _ _ (by omega) (by omega)) ok_X5_leads rfl rfl rfl rfl (Nat.le_of_ble_eq_true rfl) (Nat.le_of_ble_eq_true rfl) (Nat.le_of_ble_eq_true rfl) dX1_sortPlainWays_67 (fun v67 τ67 hq67 => ?_)
            obtain ⟨rfl, rfl⟩ := hq67
            refine r_callV (As := [_, _]) C (c_X1_insertWay _ _ _ (by omega) (by omega) (fun j j1 => by rw [hj j j1]; exact hw.2 j j1)) ok_X1_insertWay ln_X1_132 rfl rfl rfl rfl (Nat.le_of_ble_eq_true rfl) (Nat.le_of_ble_eq_true rfl) (Nat.le_of_ble_eq_true rfl) dX1_sortPlainWays_70 (fun v70 τ70 hq70 => ?_)
            obtain ⟨rfl, hF2, e5⟩ := hq70
            refine r_iinc (ls' := [_, _, _, _, _]) C rfl (by decide) rfl rfl dX1_sortPlainWays_73 ?_
            refine r_iinc (ls' := [_, _, _, _, _]) C rfl (by decide) rfl rfl dX1_sortPlainWays_76 ?_
            refine r_goto (tgt := 4) C (by decide) dX1_sortPlainWays_79 ?_
            have hye : sWs (vX σ) t y (i + 1) = (sIns (sWay (sSky (vX σ) (sStar (vX σ) t y 0 i) y) (vX σ 6 ((t : Int) * 8 + i))) (sWs (vX σ) t y i).2 (sWs (vX σ) t y i).1, (sWs (vX σ) t y i).2 + 1) := by simp only [sWs]; rw [if_neg (by omega)]
            refine PW_lw [true, true, true, true, false] (ih (i + 1) _ (by omega) (hF.tr hF2 (fun _ q => q) (fun _ q => q)) (fun j j1 => ?_)) ?_
            · rw [hye] at j1 ⊢
              simp only [] at j1 ⊢
              rw [e5]
              exact sIns_cong _ _ _ _ hj j (by omega)
            · rw [hye]; rfl
          · refine r_goto (tgt := 76) C (by decide) dX1_sortPlainWays_46 ?_
            refine r_iinc (ls' := [_, _, _, _, _]) C rfl (by decide) rfl rfl dX1_sortPlainWays_76 ?_
            refine r_goto (tgt := 4) C (by decide) dX1_sortPlainWays_79 ?_
            refine PW_lw [true, true, true, true, false] (ih (i + 1) υ (by omega) hF ?_) ?_
            · rw [hno (Or.inr (by omega))]; exact hj
            · rw [hno (Or.inr (by omega))]; rfl
  refine r_iconst C dX1_sortPlainWays_0 ?_
  refine r_istore_n (ls' := [_, _, _, _, _]) C (by decide) rfl rfl dX1_sortPlainWays_1 ?_
  refine r_iconst C dX1_sortPlainWays_2 ?_
  refine r_istore_n (ls' := [_, _, _, _, _]) C (by decide) rfl rfl dX1_sortPlainWays_3 ?_
  exact loop (σ 10 t).toNat 0 σ (by omega) Fr.rf (fun j j1 => by simp [sWs] at j1)
set_option maxRecDepth 100000 in
theorem c_X5_shift (l : Launch) (G : pw_G) (σ : pw_H) {t y : Int} (hI : Inv (vX σ)) (q_t : InI t) (q_y : InI y) : Ct l shX G mX5_shift [.ref (G.2.1 0), vI t, vI y] σ (pX (s_shift (vX σ) t y)) := by
  have h0 : 0 ≤ σ 1 4 ∧ σ 1 4 ≤ 8 := hI.1
  have h5 : 0 ≤ σ 1 5 ∧ σ 1 5 ≤ 6 := hI.2.1
  have h1 : 0 ≤ σ 2 1 ∧ σ 2 1 ≤ 6 := hI.2.2.1
  refine Ct_of (ls := [some (.ref (G.2.1 0)), some (vI t), some (vI y), none]) (by decide +kernel) (Nat.le_of_ble_eq_true rfl) rfl (fun X C => ?_)
  refine r_aload_n C rfl dX5_shift_0 ?_
  refine r_getR C 4 1 rfl rfl (by decide) rfl uw_X5 fl_X5_19 dX5_shift_1 ?_
  refine r_iload_n C rfl dX5_shift_4 ?_
  refine r_callV (As := [_]) C (c_X2_has _ _ _ (by omega) hI) ok_X2_has ln_X5_98 rfl rfl rfl rfl (Nat.le_of_ble_eq_true rfl) (Nat.le_of_ble_eq_true rfl) (Nat.le_of_ble_eq_true rfl) dX5_shift_5 (fun v5 τ5 hq5 => ?_)
  obtain ⟨rfl, rfl⟩ := hq5
  refine r_ifB_ne (tgt := 13) C (by decide) dX5_shift_8 (fun c8 => ?_) (fun c8 => ?_)
  · have h8 : 0 ≤ t ∧ t ≤ σ 2 1 - 1 := bList_t c8
    obtain ⟨u, rfl⟩ := Int.eq_ofNat_of_zero_le h8.1
    have h9 : 0 ≤ σ 10 u ∧ σ 10 u ≤ 8 := hI.2.2.2.2.2.2.2.1 u
    have hw := sWs_r (vX σ) u y (σ 10 u).toNat
    refine r_iload_n C rfl dX5_shift_13 ?_
    refine r_callS (As := [_]) C (c_X5_isYear _ _ _ (by omega)) ok_X5_isYear ln_X5_65 rfl rfl (Nat.le_of_ble_eq_true rfl) (Nat.le_of_ble_eq_true rfl) (Nat.le_of_ble_eq_true rfl) dX5_shift_14 (fun v14 τ14 hq14 => ?_)
    obtain ⟨rfl, rfl⟩ := hq14
    refine r_ifB_ne (tgt := 23) C (by decide) dX5_shift_17 (fun c17 => ?_) (fun c17 => ?_)
    · have h11 := bIn_iff.mp c17
      refine r_aload_n C rfl dX5_shift_23 ?_
      refine r_getR C 4 2 rfl rfl (by decide) rfl uw_X5 fl_X5_28 dX5_shift_24 ?_
      refine r_iload_n C rfl dX5_shift_27 ?_
      refine r_iload_n C rfl dX5_shift_28 ?_
      refine r_iconst C dX5_shift_29 ?_
      refine r_callV (As := [_, _, _]) C (c_X1_find _ _ _ hI (by omega) h11 (by omega)) ok_X1_find ln_X5_135 rfl rfl rfl rfl (Nat.le_of_ble_eq_true rfl) (Nat.le_of_ble_eq_true rfl) (Nat.le_of_ble_eq_true rfl) dX5_shift_30 (fun v30 τ30 hq30 => ?_)
      obtain ⟨rfl, hF, -, e3, e4⟩ := hq30
      have e2 : vX τ30 = vX σ := Fr_vX hF (by decide)
      have f1 : τ30 10 u = σ 10 u := congrFun (hF 10 (by decide)) _
      have f2 : τ30 1 4 = σ 1 4 := congrFun (hF 1 (by decide)) _
      refine r_aload_n C rfl dX5_shift_33 ?_
      refine r_getR C 4 2 rfl rfl (by decide) rfl uw_X5 fl_X5_28 dX5_shift_34 ?_
      refine r_iload_n C rfl dX5_shift_37 ?_
      refine r_callV (As := [_]) C (c_X1_sortPlainWays (t := u) (y := y) _ _ _ (e2 ▸ hI) (by omega) (fun i i1 => by rw [e2]; exact e3 i (by omega)) (fun s s1 s2 => by rw [e2]; exact e4 s s1 (by omega))) ok_X1_sortPlainWays ln_X5_156 rfl rfl rfl rfl (Nat.le_of_ble_eq_true rfl) (Nat.le_of_ble_eq_true rfl) (Nat.le_of_ble_eq_true rfl) dX5_shift_38 (fun v38 τ38 hq38 => ?_)
      obtain ⟨rfl, hF2, e5⟩ := hq38
      have e6 : vX τ38 = vX σ := (Fr_vX hF2 (by decide)).trans e2
      rw [e2, f1] at e5
      rw [e2, f1]
      refine r_istore_n (ls' := [_, _, _, _]) C (by decide) rfl rfl dX5_shift_41 ?_
      refine r_iload_n C rfl dX5_shift_42 ?_
      refine r_if_ne (tgt := 49) C (by decide) (by omega) dX5_shift_43 (fun c43 => ?_) (fun c43 => ?_)
      · refine r_aload_n C rfl dX5_shift_49 ?_
        refine r_getR C 4 2 rfl rfl (by decide) rfl uw_X5 fl_X5_28 dX5_shift_50 ?_
        refine r_getR C 1 1 rfl rfl (by decide) rfl uw_X1 fl_X5_159 dX5_shift_53 ?_
        refine r_iload_n C rfl dX5_shift_56 ?_
        refine r_iconst C dX5_shift_57 ?_
        refine r_isub C dX5_shift_58 ?_
        refine r_iconst C dX5_shift_59 ?_
        refine r_idiv C (by omega) (by omega) (by omega) dX5_shift_60 ?_
        rw [Int.tdiv_eq_ediv_of_nonneg (show 0 ≤ ((sWs (vX σ) u y (σ 10 u).toNat).2 : Int) - 1 by omega)]
        refine r_iaload C rfl (by decide) (by omega) dX5_shift_61 ?_
        refine r_bipush C (by decide +kernel) dX5_shift_62 ?_
        refine r_iadd C dX5_shift_64 ?_
        refine r_ireturn C rfl ?_ dX5_shift_65
        refine pX_of (a := vX σ) ?_ e6
        have e7 := e5 (((sWs (vX σ) u y (σ 10 u).toNat).2 - 1) / 2) (by omega)
        rw [show ((((sWs (vX σ) u y (σ 10 u).toNat).2 - 1) / 2 : Nat) : Int) = (((sWs (vX σ) u y (σ 10 u).toNat).2 : Int) - 1) / 2 by omega] at e7
        rw [e7]
        simp only [s_shift, c8, c17]
        rw [sTold, if_neg (show ¬ (sWs (vX σ) u y (vX σ 5 u).toNat).2 = 0 from (by omega : ¬ (sWs (vX σ) u y (σ 10 u).toNat).2 = 0))]
        rfl
      · refine r_bipush C (by decide +kernel) dX5_shift_46 ?_
        refine r_ireturn C rfl ?_ dX5_shift_48
        exact pX_of (a := vX σ) (by simp only [s_shift, c8, c17]; rw [sTold, if_pos (show (sWs (vX σ) u y (vX σ 5 u).toNat).2 = 0 from (by omega : (sWs (vX σ) u y (σ 10 u).toNat).2 = 0))]; rfl) e6
    · refine r_bipush C (by decide +kernel) dX5_shift_20 ?_
      refine r_ireturn C rfl ?_ dX5_shift_22
      exact pX_of (by simp [s_shift, *]) rfl
  · refine r_iconst C dX5_shift_11 ?_
    refine r_ireturn C rfl ?_ dX5_shift_12
    exact pX_of (by simp [s_shift, *]) rfl
end
section
/-! the tree of copies -/
abbrev tA : Type := Int × Int × Int
def tB (ap : Int → Int → Int) (g : Int → Int) (p q : Int) (c : tA) : tA := if ¬ g p = g q ∧ ap p q < c.2.2 then (p, q, ap p q) else c
/-- the lists q0, q0 + 1, .. behind p -/
def tIn (ap : Int → Int → Int) (g : Int → Int) (p : Int) (q0 : Nat) (c : tA) : Nat → tA
  | 0 => c
  | k + 1 => tB ap g p ((q0 + k : Nat) : Int) (tIn ap g p q0 c k)
def tOut (ap : Int → Int → Int) (g : Int → Int) (n : Nat) (c : tA) : Nat → tA
  | 0 => c
  | p + 1 => tIn ap g p (p + 1) (tOut ap g n c p) (n - (p + 1))
/-- the pair that comes next: its lists, by how much they are apart -/
def tPk (ap : Int → Int → Int) (g : Int → Int) (n : Nat) : tA := tOut ap g n (-9, -9, 9) n
def tG (g : Int → Int) (f e : Int) : Int → Int := fun l => if g l = g e then g f else g l
/-- groups, faults, rows behind k rows -/
def tS (ap : Int → Int → Int) (n : Nat) : Nat → (Int → Int) × Int × (Int → Int)
  | 0 => (fun l => l, 0, fun _ => 0)
  | k + 1 => (tG (tS ap n k).1 (tPk ap (tS ap n k).1 n).1 (tPk ap (tS ap n k).1 n).2.1, (tS ap n k).2.1 + (tPk ap (tS ap n k).1 n).2.2, fun j => if j = (k : Int) then 10 * (tPk ap (tS ap n k).1 n).1 + (tPk ap (tS ap n k).1 n).2.1 else (tS ap n k).2.2 j)
def tI (ap : Int → Int → Int) (n : Nat) (c : tA) : Prop := c = (-9, -9, 9) ∨ (0 ≤ c.1 ∧ c.1 < c.2.1 ∧ c.2.1 < n ∧ c.2.2 = ap c.1 c.2.1 ∧ c.2.2 < 9)
section TREE
variable {ap : Int → Int → Int} {g : Int → Int} {n : Nat}
theorem tB_I {p q : Nat} (hp : p < q) (hq : q < n) {c : tA} (h : tI ap n c) : tI ap n (tB ap g p q c) := by
  unfold tB
  by_cases z : ¬ g p = g q ∧ ap p q < c.2.2
  · rw [if_pos z]
    refine Or.inr ⟨by simp only []; omega, by simp only []; omega, by simp only []; omega, rfl, ?_⟩
    rcases h with h | h
    · rw [h] at z; exact z.2
    · simp only []; omega
  · rw [if_neg z]; exact h
theorem tIn_I {p q0 : Nat} (hp : p < q0) {c : tA} (h : tI ap n c) : ∀ k, q0 + k ≤ n → tI ap n (tIn ap g p q0 c k)
  | 0, _ => h
  | k + 1, hk => tB_I (by omega) (by omega) (tIn_I hp h k (by omega))
theorem tOut_I {c : tA} (h : tI ap n c) : ∀ p, p ≤ n → tI ap n (tOut ap g n c p)
  | 0, _ => h
  | p + 1, hp => tIn_I (Nat.lt_succ_self p) (tOut_I h p (by omega)) _ (by omega)
theorem tPk_I : tI ap n (tPk ap g n) := tOut_I (Or.inl rfl) n (Nat.le_refl n)
theorem tB_s {p q : Nat} {c : tA} (h : ¬ c.1 = -9) : ¬ (tB ap g p q c).1 = -9 := by
  unfold tB
  split
  · simp only []; omega
  · exact h
theorem tIn_s {p q0 : Nat} {c : tA} (h : ¬ c.1 = -9) : ∀ k, ¬ (tIn ap g p q0 c k).1 = -9
  | 0 => h
  | k + 1 => tB_s (tIn_s h k)
theorem tIn_f (hap : ∀ i j, ap i j < 9) {p q0 : Nat} (hp : p < q0) {c : tA} (hc : tI ap n c) : ∀ k, q0 + k ≤ n → (∃ j, j < k ∧ ¬ g p = g ((q0 + j : Nat) : Int)) → ¬ (tIn ap g p q0 c k).1 = -9
  | 0, _, h => by obtain ⟨j, hj, -⟩ := h; omega
  | k + 1, hk, h => by
    obtain ⟨j, hj, hg⟩ := h
    by_cases q : j = k
    · subst q
      simp only [tIn]
      have hI := tIn_I (g := g) hp hc j (by omega)
      by_cases z : (tIn ap g p q0 c j).1 = -9
      · have e : (tIn ap g p q0 c j) = (-9, -9, 9) := by
          rcases hI with h | h
          · exact h
          · omega
        rw [e]
        unfold tB
        rw [if_pos ⟨hg, hap _ _⟩]
        simp only []; omega
      · exact tB_s z
    · exact tB_s (tIn_f hap hp hc k (by omega) ⟨j, by omega, hg⟩)
theorem tOut_f (hap : ∀ i j, ap i j < 9) {c : tA} (hc : tI ap n c) : ∀ p, p ≤ n → (∃ i j : Nat, i < p ∧ i < j ∧ j < n ∧ ¬ g i = g j) → ¬ (tOut ap g n c p).1 = -9
  | 0, _, h => by obtain ⟨i, j, hi, -⟩ := h; omega
  | p + 1, hp, h => by
    obtain ⟨i, j, h1, h2, h3, h4⟩ := h
    simp only [tOut]
    by_cases q : i = p
    · subst q
      refine tIn_f hap (Nat.lt_succ_self i) (tOut_I hc i (by omega)) _ (by omega) ⟨j - (i + 1), by omega, ?_⟩
      rw [show i + 1 + (j - (i + 1)) = j by omega]
      exact h4
    · exact tIn_s (tOut_f hap hc p (by omega) ⟨i, j, by omega, h2, h3, h4⟩) _
/-- at least m lists of n, no two of which hang together -/
def tDis (g : Int → Int) (n m : Nat) : Prop := ∃ f : Nat → Nat, (∀ i, i < m → f i < n) ∧ ∀ i j, i < j → j < m → ¬ g (f i) = g (f j)
theorem tDis_s {m : Nat} (h : tDis g n (m + 1)) (f e : Int) : tDis (tG g f e) n m := by
  obtain ⟨F, h1, h2⟩ := h
  by_cases z : ∃ i, i < m + 1 ∧ g (F i) = g e
  · obtain ⟨i0, z1, z2⟩ := z
    refine ⟨fun i => if i < i0 then F i else F (i + 1), fun i hi => ?_, fun i j hij hj => ?_⟩
    · simp only []
      split
      · exact h1 i (by omega)
      · exact h1 (i + 1) (by omega)
    · have keep : ∀ k, k < m + 1 → k ≠ i0 → tG g f e (F k) = g (F k) := by
        intro k hk hne
        unfold tG
        rw [if_neg]
        intro q
        rw [← z2] at q
        rcases Nat.lt_or_ge k i0 with w | w
        · exact h2 k i0 w z1 q
        · exact h2 i0 k (by omega) hk q.symm
      simp only []
      split
      · split
        · rw [keep i (by omega) (by omega), keep j (by omega) (by omega)]; exact h2 i j hij (by omega)
        · rw [keep i (by omega) (by omega), keep (j + 1) (by omega) (by omega)]; exact h2 i (j + 1) (by omega) (by omega)
      · split
        · omega
        · rw [keep (i + 1) (by omega) (by omega), keep (j + 1) (by omega) (by omega)]; exact h2 (i + 1) (j + 1) (by omega) (by omega)
  · have keep : ∀ k, k < m + 1 → tG g f e (F k) = g (F k) := by
      intro k hk
      unfold tG
      rw [if_neg (fun q => z ⟨k, hk, q⟩)]
    exact ⟨F, fun i hi => h1 i (by omega), fun i j hij hj => by rw [keep i (by omega), keep j (by omega)]; exact h2 i j hij (by omega)⟩
theorem tS_dis (ap : Int → Int → Int) (n : Nat) : ∀ k, k ≤ n → tDis (tS ap n k).1 n (n - k)
  | 0, _ => ⟨fun i => i, fun i hi => by omega, fun i j hij hj => by simp only [tS]; omega⟩
  | k + 1, hk => by
    have := tS_dis ap n k (by omega)
    rw [show n - k = (n - (k + 1)) + 1 by omega] at this
    exact tDis_s this _ _
/-- as long as there are two lists that don't hang together a pair is found -/
theorem tS_found (hap : ∀ i j, ap i j < 9) {k : Nat} (hk : k + 1 < n) : 0 ≤ (tPk ap (tS ap n k).1 n).1 ∧ (tPk ap (tS ap n k).1 n).1 < (tPk ap (tS ap n k).1 n).2.1 ∧ (tPk ap (tS ap n k).1 n).2.1 < n ∧ (tPk ap (tS ap n k).1 n).2.2 = ap (tPk ap (tS ap n k).1 n).1 (tPk ap (tS ap n k).1 n).2.1 := by
  have hne : ¬ (tPk ap (tS ap n k).1 n).1 = -9 := by
    refine tOut_f hap (Or.inl rfl) n (Nat.le_refl n) ?_
    obtain ⟨F, h1, h2⟩ := tS_dis ap n k (by omega)
    have d := h2 0 1 (by omega) (by omega)
    have a0 := h1 0 (by omega)
    have a1 := h1 1 (by omega)
    rcases Nat.lt_trichotomy (F 0) (F 1) with w | w | w
    · exact ⟨F 0, F 1, a0, w, a1, d⟩
    · rw [w] at d; exact absurd rfl d
    · exact ⟨F 1, F 0, a1, w, a0, fun q => d q.symm⟩
  rcases (tPk_I : tI ap n (tPk ap (tS ap n k).1 n)) with h | h
  · rw [h] at hne; exact absurd rfl hne
  · exact ⟨h.1, h.2.1, h.2.2.1, h.2.2.2.1⟩
theorem tS_rng (ap : Int → Int → Int) (n : Nat) : ∀ k, k + 1 ≤ n → (∀ i j, ap i j < 9) → ∀ l : Int, 0 ≤ l → l < n → 0 ≤ (tS ap n k).1 l ∧ (tS ap n k).1 l < n
  | 0, _, _, l, h1, h2 => by simp only [tS]; omega
  | k + 1, hk, hap, l, h1, h2 => by
    have ih := tS_rng ap n k (by omega) hap
    have hf := tS_found (ap := ap) (n := n) hap (k := k) (by omega)
    simp only [tS, tG]
    split
    · exact ih _ hf.1 (by omega)
    · exact ih l h1 h2
end TREE
def sTr (a : pw_H) (y h : Int) (k : Nat) : (Int → Int) × Int × (Int → Int) := tS (fun p q => sApart a p q y h) (a 0 2).toNat k
def s_tree (a : pw_H) (y h : Int) : sR := if bMom y h = false then (-2, a) else ((sTr a y h ((a 0 2).toNat - 1)).2.1, a)
def s_row (a : pw_H) (i y h : Int) : sR := if bMom y h = false then (-2, a) else (if bIn i 0 (a 0 2 - 2) = true then (sTr a y h ((a 0 2).toNat - 1)).2.2 i else -9, a)
theorem sSum_cong {f g : Int → Int} : ∀ {n : Nat}, (∀ j : Nat, j < n → f j = g j) → sSum f n = sSum g n
  | 0, _ => rfl
  | n + 1, h => by
    simp only [sSum]
    rw [sSum_cong (fun j hj => h j (by omega)), h n (by omega)]
theorem sApart_r {a : pw_H} (hI : Inv a) (p q y h : Int) : 0 ≤ sApart a p q y h ∧ sApart a p q y h < 9 := by
  have h0 := hI.1
  have := sSum_01 (fun s => decide (¬ sFault a p y h s = sFault a q y h s)) (a 0 0).toNat
  unfold sApart
  omega
theorem sFs_r (a : pw_H) (l y h : Int) : ∀ (i : Nat) (s : Int), 0 ≤ sFs a l y h i s ∧ sFs a l y h i s ≤ 3
  | 0, s => by simp [sFs]
  | i + 1, s => by
    simp only [sFs]
    split
    · exact sFs_r a l y h i s
    · simp only []
      split
      · omega
      · exact sFs_r a l y h i s
end
section
set_option maxRecDepth 100000 in
set_option maxHeartbeats 4000000 in
theorem c_X0_note (l : Launch) (G : pw_G) (σ : pw_H) {t : Nat} {y h : Int} (hI : Inv (vX σ)) (ht : t < 6) (hy : -3000 ≤ y ∧ y ≤ 3000) (hh : -600 ≤ h ∧ h ≤ 600) : Ct l shX G mX0_note [.ref (G.2.1 4), vI (t : Int), vI y, vI h] σ (fun r τ => r = none ∧ Fr [3, 13, 15, 16, 17, 18, 20] σ τ ∧ (∀ s : Int, 0 ≤ s → s < 8 → τ 20 (t * 8 + s) = sFault (vX σ) t y h s) ∧ ∀ j : Int, (j < t * 8 ∨ t * 8 + 8 ≤ j) → τ 20 j = σ 20 j) := by
  have h0 : 0 ≤ σ 1 4 ∧ σ 1 4 ≤ 8 := hI.1
  have h9 : 0 ≤ σ 10 t ∧ σ 10 t ≤ 8 := hI.2.2.2.2.2.2.2.1 t
  refine Ct_of (ls := [some (.ref (G.2.1 4)), some (vI (t : Int)), some (vI y), some (vI h), none, none]) (by decide +kernel) (Nat.le_of_ble_eq_true rfl) rfl (fun X C => ?_)
  have loop2 : ∀ (k i : Nat) (υ : pw_H), i + k = (σ 10 t).toNat → Fr [3, 13, 15, 16, 17, 18, 20] σ υ → (∀ i : Nat, i < (σ 10 t).toNat → υ 13 i = sStar (vX σ) t y h i) → (∀ s : Int, 0 ≤ s → s < σ 1 4 → υ 15 s = sSky (vX σ) s y + h) → (∀ s : Int, 0 ≤ s → s < 8 → υ 20 (t * 8 + s) = sFs (vX σ) t y h i s) → (∀ j : Int, (j < t * 8 ∨ t * 8 + 8 ≤ j) → υ 20 j = σ 20 j) → PW X shX G 42 [some (.ref (G.2.1 4)), some (vI (t : Int)), some (vI y), some (vI h), some (vI (i : Int)), none] [] υ := by
    intro k
    induction k with
    | zero =>
      intro i υ hi hF h13 h15 h20 ho
      have e1 : υ 10 t = σ 10 t := congrFun (hF 10 (by decide)) _
      have ei : i = (σ 10 t).toNat := by omega
      subst ei
      refine r_iload C rfl dX0_note_42 ?_
      refine r_aload_n C rfl dX0_note_44 ?_
      refine r_getR C 0 4 rfl rfl (by decide) rfl uw_X0 fl_X0_32 dX0_note_45 ?_
      refine r_getR C 2 0 rfl rfl (by decide) rfl uw_X2 fl_X0_48 dX0_note_48 ?_
      refine r_iload_n C rfl dX0_note_51 ?_
      refine r_iaload C rfl (by decide) (by omega) dX0_note_52 ?_
      refine r_icmp_ge (tgt := 111) C (by decide) (by omega) (by omega) dX0_note_53 (fun c53 => ?_) (fun c53 => ?_)
      · refine r_return C rfl ?_ dX0_note_111
        exact ⟨rfl, hF, h20, ho⟩
      · omega
    | succ k ih =>
      intro i υ hi hF h13 h15 h20 ho
      have e1 : υ 10 t = σ 10 t := congrFun (hF 10 (by decide)) _
      have e2 : vX υ = vX σ := Fr_vX hF (by decide)
      have e3 := h13 i (by omega)
      have hs3 := sStar_r (y := y) (h := h) hI (l := t) (i := i) (show i < (σ 10 t).toNat by omega)
      have hs4 : sStar (vX σ) t y h i = -9 ∨ (0 ≤ sStar (vX σ) t y h i ∧ sStar (vX σ) t y h i < σ 1 4) := by
        rcases hs3 with q | ⟨q1, q2, -⟩
        · exact Or.inl q
        · exact Or.inr ⟨q1, q2⟩
      have e4 : 0 ≤ sStar (vX σ) t y h i → υ 15 (sStar (vX σ) t y h i) = sSky (vX σ) (sStar (vX σ) t y h i) y + h := fun q => h15 _ q (by omega)
      have hsk := n_sky (vX σ) (sStar (vX σ) t y h i) y
      have hrk : 0 ≤ sRk (vX σ) t i (sStar (vX σ) t y h i) y h ∧ sRk (vX σ) t i (sStar (vX σ) t y h i) y h ≤ 1048576 := n_sRank _ _ _
      refine r_iload C rfl dX0_note_42 ?_
      refine r_aload_n C rfl dX0_note_44 ?_
      refine r_getR C 0 4 rfl rfl (by decide) rfl uw_X0 fl_X0_32 dX0_note_45 ?_
      refine r_getR C 2 0 rfl rfl (by decide) rfl uw_X2 fl_X0_48 dX0_note_48 ?_
      refine r_iload_n C rfl dX0_note_51 ?_
      refine r_iaload C rfl (by decide) (by omega) dX0_note_52 ?_
      refine r_icmp_ge (tgt := 111) C (by decide) (by omega) (by omega) dX0_note_53 (fun c53 => ?_) (fun c53 => ?_)
      · omega
      · refine r_aload_n C rfl dX0_note_56 ?_
        refine r_getR C 0 5 rfl rfl (by decide) rfl uw_X0 fl_X0_36 dX0_note_57 ?_
        refine r_getR C 1 0 rfl rfl (by decide) rfl uw_X1 fl_X0_53 dX0_note_60 ?_
        refine r_iload C rfl dX0_note_63 ?_
        refine r_iaload C rfl (by decide) (by omega) dX0_note_65 ?_
        rw [e3]
        refine r_istore (ls' := [_, _, _, _, _, _]) C (by decide) rfl rfl dX0_note_66 ?_
        refine r_iload C rfl dX0_note_68 ?_
        refine r_bipush C (by decide +kernel) dX0_note_70 ?_
        refine r_icmp_ne (tgt := 78) C (by decide) (by omega) (by omega) dX0_note_72 (fun c72 => ?_) (fun c72 => ?_)
        · refine r_aload_n C rfl dX0_note_78 ?_
          refine r_getR C 0 6 rfl rfl (by decide) rfl uw_X0 fl_X0_22 dX0_note_79 ?_
          refine r_iload_n C rfl dX0_note_82 ?_
          refine r_bipush C (by decide +kernel) dX0_note_83 ?_
          refine r_imul C dX0_note_85 ?_
          refine r_iload C rfl dX0_note_86 ?_
          refine r_iadd C dX0_note_88 ?_
          refine r_aload_n C rfl dX0_note_89 ?_
          refine r_getR C 0 5 rfl rfl (by decide) rfl uw_X0 fl_X0_36 dX0_note_90 ?_
          refine r_iload_n C rfl dX0_note_93 ?_
          refine r_iload C rfl dX0_note_94 ?_
          refine r_iload C rfl dX0_note_96 ?_
          refine r_callV (As := [_, _, _]) C (c_X1_turnedRank _ _ _ (e2 ▸ hI) (by omega) (by omega) (by omega) (by rw [e4 (by omega)]; omega)) ok_X1_turnedRank ln_X0_56 rfl rfl rfl rfl (Nat.le_of_ble_eq_true rfl) (Nat.le_of_ble_eq_true rfl) (Nat.le_of_ble_eq_true rfl) dX0_note_98 (fun v98 τ98 hq98 => ?_)
          obtain ⟨rfl, rfl⟩ := hq98
          rw [e4 (by omega), e2, show sRank (sWay (sSky (vX σ) (sStar (vX σ) t y h i) y + h) (vX σ 6 ((t : Int) * 8 + i))) (vX σ 7 ((t : Int) * 8 + i)) (vX σ 2 (sStar (vX σ) t y h i)) = sRk (vX σ) t i (sStar (vX σ) t y h i) y h from rfl]
          refine r_callS (As := [_]) C (c_X3_kindOf _ _ _ hrk) ok_X3_kindOf ln_X0_60 rfl rfl (Nat.le_of_ble_eq_true rfl) (Nat.le_of_ble_eq_true rfl) (Nat.le_of_ble_eq_true rfl) dX0_note_101 (fun v101 τ101 hq101 => ?_)
          obtain ⟨rfl, rfl⟩ := hq101
          refine r_iastore C rfl (by decide) (by omega) dX0_note_104 ?_
          refine r_iinc (ls' := [_, _, _, _, _, _]) C rfl (by decide) rfl rfl dX0_note_105 ?_
          refine r_goto (tgt := 42) C (by decide) dX0_note_108 ?_
          refine PW_lw [true, true, true, true, true, false] (ih (i + 1) _ (by omega) (hF.tr (Fr.u (by decide)) (fun _ q => q) (fun _ q => q)) (fun j j1 => by rw [pw_u_k (by decide)]; exact h13 j j1) (fun s s1 s2 => by rw [pw_u_k (by decide)]; exact h15 s s1 s2) (fun s s1 s2 => ?_) (fun j j1 => by rw [pw_u_j (by omega)]; exact ho j j1)) rfl
          simp only [sFs]
          rw [if_neg (by omega)]
          by_cases q : s = sStar (vX σ) t y h i
          · rw [q, pw_u_s, if_pos rfl]
          · rw [if_neg q, pw_u_j (by omega)]
            exact h20 s s1 s2
        · refine r_goto (tgt := 105) C (by decide) dX0_note_75 ?_
          refine r_iinc (ls' := [_, _, _, _, _, _]) C rfl (by decide) rfl rfl dX0_note_105 ?_
          refine r_goto (tgt := 42) C (by decide) dX0_note_108 ?_
          refine PW_lw [true, true, true, true, true, false] (ih (i + 1) υ (by omega) hF h13 h15 (fun s s1 s2 => ?_) ho) rfl
          rw [h20 s s1 s2]
          simp only [sFs]
          rw [if_pos (by omega)]
  have loop : ∀ (k i : Nat) (υ : pw_H), i + k = 8 → Fr [20] σ υ → (∀ s : Int, 0 ≤ s → s < i → υ 20 (t * 8 + s) = 0) → (∀ j : Int, (j < t * 8 ∨ t * 8 + 8 ≤ j) → υ 20 j = σ 20 j) → PW X shX G 3 [some (.ref (G.2.1 4)), some (vI (t : Int)), some (vI y), some (vI h), some (vI (i : Int)), none] [] υ := by
    intro k
    induction k with
    | zero =>
      intro i υ hi hF hz ho
      have e2 : vX υ = vX σ := Fr_vX hF (by decide)
      refine r_iload C rfl dX0_note_3 ?_
      refine r_bipush C (by decide +kernel) dX0_note_5 ?_
      refine r_icmp_ge (tgt := 29) C (by decide) (by omega) (by omega) dX0_note_7 (fun c7 => ?_) (fun c7 => ?_)
      · refine r_aload_n C rfl dX0_note_29 ?_
        refine r_getR C 0 5 rfl rfl (by decide) rfl uw_X0 fl_X0_36 dX0_note_30 ?_
        refine r_iload_n C rfl dX0_note_33 ?_
        refine r_iload_n C rfl dX0_note_34 ?_
        refine r_iload_n C rfl dX0_note_35 ?_
        refine r_callV (As := [_, _, _]) C (c_X1_find _ _ _ (e2 ▸ hI) ht hy hh) ok_X1_find ln_X0_42 rfl rfl rfl rfl (Nat.le_of_ble_eq_true rfl) (Nat.le_of_ble_eq_true rfl) (Nat.le_of_ble_eq_true rfl) dX0_note_36 (fun v36 τ36 hq36 => ?_)
        obtain ⟨rfl, hF2, -, e4, e5⟩ := hq36
        rw [e2, show υ 10 (t : Int) = σ 10 t from congrFun (hF 10 (by decide)) _, show υ 1 4 = σ 1 4 from congrFun (hF 1 (by decide)) 4] at e4
        rw [e2, show υ 1 4 = σ 1 4 from congrFun (hF 1 (by decide)) 4] at e5
        refine r_iconst C dX0_note_39 ?_
        refine r_istore (ls' := [_, _, _, _, _, _]) C (by decide) rfl rfl dX0_note_40 ?_
        refine loop2 (σ 10 t).toNat 0 _ (by omega) (hF.tr hF2 (by decide) (by decide)) e4 e5 (fun s s1 s2 => ?_) (fun j j1 => ?_)
        · rw [hF2 20 (by decide)]; exact hz s s1 (by omega)
        · rw [hF2 20 (by decide)]; exact ho j j1
      · omega
    | succ k ih =>
      intro i υ hi hF hz ho
      refine r_iload C rfl dX0_note_3 ?_
      refine r_bipush C (by decide +kernel) dX0_note_5 ?_
      refine r_icmp_ge (tgt := 29) C (by decide) (by omega) (by omega) dX0_note_7 (fun c7 => ?_) (fun c7 => ?_)
      · omega
      · refine r_aload_n C rfl dX0_note_10 ?_
        refine r_getR C 0 6 rfl rfl (by decide) rfl uw_X0 fl_X0_22 dX0_note_11 ?_
        refine r_iload_n C rfl dX0_note_14 ?_
        refine r_bipush C (by decide +kernel) dX0_note_15 ?_
        refine r_imul C dX0_note_17 ?_
        refine r_iload C rfl dX0_note_18 ?_
        refine r_iadd C dX0_note_20 ?_
        refine r_iconst C dX0_note_21 ?_
        refine r_iastore C rfl (by decide) (by omega) dX0_note_22 ?_
        refine r_iinc (ls' := [_, _, _, _, _, _]) C rfl (by decide) rfl rfl dX0_note_23 ?_
        refine r_goto (tgt := 3) C (by decide) dX0_note_26 ?_
        refine ih (i + 1) _ (by omega) (hF.tr (Fr.u (by decide)) (fun _ q => q) (fun _ q => q)) (fun s s1 s2 => ?_) (fun j j1 => by rw [pw_u_j (by omega)]; exact ho j j1)
        by_cases q : s = i
        · rw [q, pw_u_s]
        · rw [pw_u_j (by omega)]; exact hz s s1 (by omega)
  refine r_iconst C dX0_note_0 ?_
  refine r_istore (ls' := [_, _, _, _, _, _]) C (by decide) rfl rfl dX0_note_1 ?_
  exact loop 8 0 σ (by omega) Fr.rf (fun s s1 s2 => by omega) (fun _ _ => rfl)
set_option maxRecDepth 100000 in
theorem c_X0_faultOf (l : Launch) (G : pw_G) (σ : pw_H) {t s : Int} (ht : 0 ≤ t ∧ t < 6) (hs : 0 ≤ s ∧ s < 8) : Ct l shX G mX0_faultOf [.ref (G.2.1 4), vI t, vI s] σ (pv (σ 20 (t * 8 + s)) σ) := by
  refine Ct_of (ls := [some (.ref (G.2.1 4)), some (vI t), some (vI s)]) (by decide +kernel) (Nat.le_of_ble_eq_true rfl) rfl (fun X C => ?_)
  refine r_aload_n C rfl dX0_faultOf_0 ?_
  refine r_getR C 0 6 rfl rfl (by decide) rfl uw_X0 fl_X0_22 dX0_faultOf_1 ?_
  refine r_iload_n C rfl dX0_faultOf_4 ?_
  refine r_bipush C (by decide +kernel) dX0_faultOf_5 ?_
  refine r_imul C dX0_faultOf_7 ?_
  refine r_iload_n C rfl dX0_faultOf_8 ?_
  refine r_iadd C dX0_faultOf_9 ?_
  refine r_iaload C rfl (by decide) (by omega) dX0_faultOf_10 ?_
  refine r_ireturn C rfl ?_ dX0_faultOf_11
  exact ⟨rfl, rfl⟩
set_option maxRecDepth 100000 in
theorem c_X0_inBoth (l : Launch) (G : pw_G) (σ : pw_H) {p q : Int} (hI : Inv (vX σ)) (hp : 0 ≤ p ∧ p < 6) (hq : 0 ≤ q ∧ q < 6) (hr : ∀ s : Int, 0 ≤ s → s < 8 → (0 ≤ σ 20 (p * 8 + s) ∧ σ 20 (p * 8 + s) ≤ 3) ∧ 0 ≤ σ 20 (q * 8 + s) ∧ σ 20 (q * 8 + s) ≤ 3) : Ct l shX G mX0_inBoth [.ref (G.2.1 4), vI p, vI q] σ (pv (sSum (fun s => zB (decide (¬ σ 20 (p * 8 + s) = 0 ∧ σ 20 (p * 8 + s) = σ 20 (q * 8 + s)))) (σ 1 4).toNat) σ) := by
  have h0 : 0 ≤ σ 1 4 ∧ σ 1 4 ≤ 8 := hI.1
  refine Ct_of (ls := [some (.ref (G.2.1 4)), some (vI p), some (vI q), none, none, none]) (by decide +kernel) (Nat.le_of_ble_eq_true rfl) rfl (fun X C => ?_)
  have loop : ∀ (k i : Nat), i + k = (σ 1 4).toNat → PW X shX G 5 [some (.ref (G.2.1 4)), some (vI p), some (vI q), some (vI (sSum (fun s => zB (decide (¬ σ 20 (p * 8 + s) = 0 ∧ σ 20 (p * 8 + s) = σ 20 (q * 8 + s)))) i)), some (vI (i : Int)), none] [] σ := by
    intro k
    induction k with
    | zero =>
      intro i hi
      refine r_iload C rfl dX0_inBoth_5 ?_
      refine r_aload_n C rfl dX0_inBoth_7 ?_
      refine r_getR C 0 3 rfl rfl (by decide) rfl uw_X0 fl_X0_28 dX0_inBoth_8 ?_
      refine r_getI (jz := 4) C 3 4 rfl rfl (by decide) rfl uw_X4 fl_X0_64 rfl dX0_inBoth_11 ?_
      refine r_icmp_ge (tgt := 52) C (by decide) (by omega) (by omega) dX0_inBoth_14 (fun c14 => ?_) (fun c14 => ?_)
      · refine r_iload_n C rfl dX0_inBoth_52 ?_
        refine r_ireturn C rfl ?_ dX0_inBoth_53
        exact pv_of (by rw [show i = (σ 1 4).toNat by omega]) rfl
      · omega
    | succ k ih =>
      intro i hi
      have hri := hr i (by omega) (by omega)
      have es : sSum (fun s => zB (decide (¬ σ 20 (p * 8 + s) = 0 ∧ σ 20 (p * 8 + s) = σ 20 (q * 8 + s)))) (i + 1) = sSum (fun s => zB (decide (¬ σ 20 (p * 8 + s) = 0 ∧ σ 20 (p * 8 + s) = σ 20 (q * 8 + s)))) i + zB (decide (¬ σ 20 (p * 8 + i) = 0 ∧ σ 20 (p * 8 + i) = σ 20 (q * 8 + i))) := rfl
      refine r_iload C rfl dX0_inBoth_5 ?_
      refine r_aload_n C rfl dX0_inBoth_7 ?_
      refine r_getR C 0 3 rfl rfl (by decide) rfl uw_X0 fl_X0_28 dX0_inBoth_8 ?_
      refine r_getI (jz := 4) C 3 4 rfl rfl (by decide) rfl uw_X4 fl_X0_64 rfl dX0_inBoth_11 ?_
      refine r_icmp_ge (tgt := 52) C (by decide) (by omega) (by omega) dX0_inBoth_14 (fun c14 => ?_) (fun c14 => ?_)
      · omega
      · refine r_aload_n C rfl dX0_inBoth_17 ?_
        refine r_iload_n C rfl dX0_inBoth_18 ?_
        refine r_iload C rfl dX0_inBoth_19 ?_
        refine r_callV (As := [_, _]) C (c_X0_faultOf _ _ _ (by omega) (by omega)) ok_X0_faultOf ln_X0_69 rfl rfl rfl rfl (Nat.le_of_ble_eq_true rfl) (Nat.le_of_ble_eq_true rfl) (Nat.le_of_ble_eq_true rfl) dX0_inBoth_21 (fun v21 τ21 hq21 => ?_)
        obtain ⟨rfl, rfl⟩ := hq21
        refine r_istore (ls' := [_, _, _, _, _, _]) C (by decide) rfl rfl dX0_inBoth_24 ?_
        refine r_iload C rfl dX0_inBoth_26 ?_
        refine r_if_eq (tgt := 46) C (by decide) (by omega) dX0_inBoth_28 (fun c28 => ?_) (fun c28 => ?_)
        · refine r_iinc (ls' := [_, _, _, _, _, _]) C rfl (by decide) rfl rfl dX0_inBoth_46 ?_
          refine r_goto (tgt := 5) C (by decide) dX0_inBoth_49 ?_
          refine PW_lw [true, true, true, true, true, false] (ih (i + 1) (by omega)) ?_
          rw [es]
          first | rw [zB_t (by rw [decide_eq_true_eq]; omega)]; rfl | rw [zB_f (by rw [decide_eq_false_iff_not]; omega), Int.add_zero]; rfl
        · refine r_iload C rfl dX0_inBoth_31 ?_
          refine r_aload_n C rfl dX0_inBoth_33 ?_
          refine r_iload_n C rfl dX0_inBoth_34 ?_
          refine r_iload C rfl dX0_inBoth_35 ?_
          refine r_callV (As := [_, _]) C (c_X0_faultOf _ _ _ (by omega) (by omega)) ok_X0_faultOf ln_X0_69 rfl rfl rfl rfl (Nat.le_of_ble_eq_true rfl) (Nat.le_of_ble_eq_true rfl) (Nat.le_of_ble_eq_true rfl) dX0_inBoth_37 (fun v37 τ37 hq37 => ?_)
          obtain ⟨rfl, rfl⟩ := hq37
          refine r_icmp_ne (tgt := 46) C (by decide) (by omega) (by omega) dX0_inBoth_40 (fun c40 => ?_) (fun c40 => ?_)
          · refine r_iinc (ls' := [_, _, _, _, _, _]) C rfl (by decide) rfl rfl dX0_inBoth_46 ?_
            refine r_goto (tgt := 5) C (by decide) dX0_inBoth_49 ?_
            refine PW_lw [true, true, true, true, true, false] (ih (i + 1) (by omega)) ?_
            rw [es]
            first | rw [zB_t (by rw [decide_eq_true_eq]; omega)]; rfl | rw [zB_f (by rw [decide_eq_false_iff_not]; omega), Int.add_zero]; rfl
          · refine r_iinc (ls' := [_, _, _, _, _, _]) C rfl (by decide) rfl rfl dX0_inBoth_43 ?_
            refine r_iinc (ls' := [_, _, _, _, _, _]) C rfl (by decide) rfl rfl dX0_inBoth_46 ?_
            refine r_goto (tgt := 5) C (by decide) dX0_inBoth_49 ?_
            refine PW_lw [true, true, true, true, true, false] (ih (i + 1) (by omega)) ?_
            rw [es]
            first | rw [zB_t (by rw [decide_eq_true_eq]; omega)]; rfl | rw [zB_f (by rw [decide_eq_false_iff_not]; omega), Int.add_zero]; rfl
  refine r_iconst C dX0_inBoth_0 ?_
  refine r_istore_n (ls' := [_, _, _, _, _, _]) C (by decide) rfl rfl dX0_inBoth_1 ?_
  refine r_iconst C dX0_inBoth_2 ?_
  refine r_istore (ls' := [_, _, _, _, _, _]) C (by decide) rfl rfl dX0_inBoth_3 ?_
  exact loop (σ 1 4).toNat 0 (by omega)
set_option maxRecDepth 100000 in
theorem c_X0_unlike (l : Launch) (G : pw_G) (σ : pw_H) {p q : Int} (hI : Inv (vX σ)) (hp : 0 ≤ p ∧ p < 6) (hq : 0 ≤ q ∧ q < 6) (hr : ∀ s : Int, 0 ≤ s → s < 8 → (0 ≤ σ 20 (p * 8 + s) ∧ σ 20 (p * 8 + s) ≤ 3) ∧ 0 ≤ σ 20 (q * 8 + s) ∧ σ 20 (q * 8 + s) ≤ 3) : Ct l shX G mX0_unlike [.ref (G.2.1 4), vI p, vI q] σ (pv (sSum (fun s => zB (decide (¬ σ 20 (p * 8 + s) = σ 20 (q * 8 + s)))) (σ 1 4).toNat) σ) := by
  have h0 : 0 ≤ σ 1 4 ∧ σ 1 4 ≤ 8 := hI.1
  refine Ct_of (ls := [some (.ref (G.2.1 4)), some (vI p), some (vI q), none, none]) (by decide +kernel) (Nat.le_of_ble_eq_true rfl) rfl (fun X C => ?_)
  have loop : ∀ (k i : Nat), i + k = (σ 1 4).toNat → PW X shX G 5 [some (.ref (G.2.1 4)), some (vI p), some (vI q), some (vI (sSum (fun s => zB (decide (¬ σ 20 (p * 8 + s) = σ 20 (q * 8 + s)))) i)), some (vI (i : Int))] [] σ := by
    intro k
    induction k with
    | zero =>
      intro i hi
      refine r_iload C rfl dX0_unlike_5 ?_
      refine r_aload_n C rfl dX0_unlike_7 ?_
      refine r_getR C 0 3 rfl rfl (by decide) rfl uw_X0 fl_X0_28 dX0_unlike_8 ?_
      refine r_getI (jz := 4) C 3 4 rfl rfl (by decide) rfl uw_X4 fl_X0_64 rfl dX0_unlike_11 ?_
      refine r_icmp_ge (tgt := 43) C (by decide) (by omega) (by omega) dX0_unlike_14 (fun c14 => ?_) (fun c14 => ?_)
      · refine r_iload_n C rfl dX0_unlike_43 ?_
        refine r_ireturn C rfl ?_ dX0_unlike_44
        exact pv_of (by rw [show i = (σ 1 4).toNat by omega]) rfl
      · omega
    | succ k ih =>
      intro i hi
      have hri := hr i (by omega) (by omega)
      have es : sSum (fun s => zB (decide (¬ σ 20 (p * 8 + s) = σ 20 (q * 8 + s)))) (i + 1) = sSum (fun s => zB (decide (¬ σ 20 (p * 8 + s) = σ 20 (q * 8 + s)))) i + zB (decide (¬ σ 20 (p * 8 + i) = σ 20 (q * 8 + i))) := rfl
      refine r_iload C rfl dX0_unlike_5 ?_
      refine r_aload_n C rfl dX0_unlike_7 ?_
      refine r_getR C 0 3 rfl rfl (by decide) rfl uw_X0 fl_X0_28 dX0_unlike_8 ?_
      refine r_getI (jz := 4) C 3 4 rfl rfl (by decide) rfl uw_X4 fl_X0_64 rfl dX0_unlike_11 ?_
      refine r_icmp_ge (tgt := 43) C (by decide) (by omega) (by omega) dX0_unlike_14 (fun c14 => ?_) (fun c14 => ?_)
      · omega
      · refine r_aload_n C rfl dX0_unlike_17 ?_
        refine r_iload_n C rfl dX0_unlike_18 ?_
        refine r_iload C rfl dX0_unlike_19 ?_
        refine r_callV (As := [_, _]) C (c_X0_faultOf _ _ _ (by omega) (by omega)) ok_X0_faultOf ln_X0_69 rfl rfl rfl rfl (Nat.le_of_ble_eq_true rfl) (Nat.le_of_ble_eq_true rfl) (Nat.le_of_ble_eq_true rfl) dX0_unlike_21 (fun v21 τ21 hq21 => ?_)
        obtain ⟨rfl, rfl⟩ := hq21
        refine r_aload_n C rfl dX0_unlike_24 ?_
        refine r_iload_n C rfl dX0_unlike_25 ?_
        refine r_iload C rfl dX0_unlike_26 ?_
        refine r_callV (As := [_, _]) C (c_X0_faultOf _ _ _ (by omega) (by omega)) ok_X0_faultOf ln_X0_69 rfl rfl rfl rfl (Nat.le_of_ble_eq_true rfl) (Nat.le_of_ble_eq_true rfl) (Nat.le_of_ble_eq_true rfl) dX0_unlike_28 (fun v28 τ28 hq28 => ?_)
        obtain ⟨rfl, rfl⟩ := hq28
        refine r_icmp_eq (tgt := 37) C (by decide) (by omega) (by omega) dX0_unlike_31 (fun c31 => ?_) (fun c31 => ?_)
        · refine r_iinc (ls' := [_, _, _, _, _]) C rfl (by decide) rfl rfl dX0_unlike_37 ?_
          refine r_goto (tgt := 5) C (by decide) dX0_unlike_40 ?_
          refine PW_lw [true, true, true, true, true] (ih (i + 1) (by omega)) ?_
          rw [es]
          first | rw [zB_t (by rw [decide_eq_true_eq]; omega)]; rfl | rw [zB_f (by rw [decide_eq_false_iff_not]; omega), Int.add_zero]; rfl
        · refine r_iinc (ls' := [_, _, _, _, _]) C rfl (by decide) rfl rfl dX0_unlike_34 ?_
          refine r_iinc (ls' := [_, _, _, _, _]) C rfl (by decide) rfl rfl dX0_unlike_37 ?_
          refine r_goto (tgt := 5) C (by decide) dX0_unlike_40 ?_
          refine PW_lw [true, true, true, true, true] (ih (i + 1) (by omega)) ?_
          rw [es]
          first | rw [zB_t (by rw [decide_eq_true_eq]; omega)]; rfl | rw [zB_f (by rw [decide_eq_false_iff_not]; omega), Int.add_zero]; rfl
  refine r_iconst C dX0_unlike_0 ?_
  refine r_istore_n (ls' := [_, _, _, _, _]) C (by decide) rfl rfl dX0_unlike_1 ?_
  refine r_iconst C dX0_unlike_2 ?_
  refine r_istore (ls' := [_, _, _, _, _]) C (by decide) rfl rfl dX0_unlike_3 ?_
  exact loop (σ 1 4).toNat 0 (by omega)
set_option maxRecDepth 100000 in
theorem c_X5_fault (l : Launch) (G : pw_G) (σ : pw_H) {t s y h : Int} (hI : Inv (vX σ)) (q_t : InI t) (q_s : InI s) (q_y : InI y) (q_h : InI h) : Ct l shX G mX5_fault [.ref (G.2.1 0), vI t, vI s, vI y, vI h] σ (pX (s_fault (vX σ) t s y h)) := by
  have h0 : 0 ≤ σ 1 4 ∧ σ 1 4 ≤ 8 := hI.1
  have h5 : 0 ≤ σ 1 5 ∧ σ 1 5 ≤ 6 := hI.2.1
  have h1 : 0 ≤ σ 2 1 ∧ σ 2 1 ≤ 6 := hI.2.2.1
  refine Ct_of (ls := [some (.ref (G.2.1 0)), some (vI t), some (vI s), some (vI y), some (vI h)]) (by decide +kernel) (Nat.le_of_ble_eq_true rfl) rfl (fun X C => ?_)
  refine r_aload_n C rfl dX5_fault_0 ?_
  refine r_getR C 4 1 rfl rfl (by decide) rfl uw_X5 fl_X5_19 dX5_fault_1 ?_
  refine r_iload_n C rfl dX5_fault_4 ?_
  refine r_callV (As := [_]) C (c_X2_has _ _ _ (by omega) hI) ok_X2_has ln_X5_98 rfl rfl rfl rfl (Nat.le_of_ble_eq_true rfl) (Nat.le_of_ble_eq_true rfl) (Nat.le_of_ble_eq_true rfl) dX5_fault_5 (fun v5 τ5 hq5 => ?_)
  obtain ⟨rfl, rfl⟩ := hq5
  refine r_ifB_eq (tgt := 22) C (by decide) dX5_fault_8 (fun c8 => ?_) (fun c8 => ?_)
  · refine r_iconst C dX5_fault_22 ?_
    refine r_ireturn C rfl ?_ dX5_fault_23
    exact pX_of (by simp [s_fault, *]) rfl
  · have h8 : 0 ≤ t ∧ t ≤ σ 2 1 - 1 := bList_t c8
    obtain ⟨u, rfl⟩ := Int.eq_ofNat_of_zero_le h8.1
    refine r_aload_n C rfl dX5_fault_11 ?_
    refine r_getR C 4 0 rfl rfl (by decide) rfl uw_X5 fl_X5_10 dX5_fault_12 ?_
    refine r_iload_n C rfl dX5_fault_15 ?_
    refine r_callV (As := [_]) C (c_X4_has _ _ _ (by omega) hI) ok_X4_has ln_X5_61 rfl rfl rfl rfl (Nat.le_of_ble_eq_true rfl) (Nat.le_of_ble_eq_true rfl) (Nat.le_of_ble_eq_true rfl) dX5_fault_16 (fun v16 τ16 hq16 => ?_)
    obtain ⟨rfl, rfl⟩ := hq16
    refine r_ifB_ne (tgt := 24) C (by decide) dX5_fault_19 (fun c19 => ?_) (fun c19 => ?_)
    · have h9 : 0 ≤ s ∧ s ≤ σ 1 4 - 1 := bStar_t c19
      refine r_iload_n C rfl dX5_fault_24 ?_
      refine r_iload C rfl dX5_fault_25 ?_
      refine r_callS (As := [_, _]) C (c_X5_isMoment _ _ _ (by omega) (by omega)) ok_X5_isMoment ln_X5_118 rfl rfl (Nat.le_of_ble_eq_true rfl) (Nat.le_of_ble_eq_true rfl) (Nat.le_of_ble_eq_true rfl) dX5_fault_27 (fun v27 τ27 hq27 => ?_)
      obtain ⟨rfl, rfl⟩ := hq27
      refine r_ifB_ne (tgt := 36) C (by decide) dX5_fault_30 (fun c30 => ?_) (fun c30 => ?_)
      · have h11 := bMom_t c30
        refine r_aload_n C rfl dX5_fault_36 ?_
        refine r_getR C 4 3 rfl rfl (by decide) rfl uw_X5 fl_X5_37 dX5_fault_37 ?_
        refine r_iload_n C rfl dX5_fault_40 ?_
        refine r_iload_n C rfl dX5_fault_41 ?_
        refine r_iload C rfl dX5_fault_42 ?_
        refine r_callV (As := [_, _, _]) C (c_X0_note _ _ _ hI (by omega) h11.1 h11.2) ok_X0_note ln_X5_162 rfl rfl rfl rfl (Nat.le_of_ble_eq_true rfl) (Nat.le_of_ble_eq_true rfl) (Nat.le_of_ble_eq_true rfl) dX5_fault_44 (fun v44 τ44 hq44 => ?_)
        obtain ⟨rfl, hF, e3, -⟩ := hq44
        have e2 : vX τ44 = vX σ := Fr_vX hF (by decide)
        have e4 := e3 s h9.1 (by omega)
        refine r_aload_n C rfl dX5_fault_47 ?_
        refine r_getR C 4 3 rfl rfl (by decide) rfl uw_X5 fl_X5_37 dX5_fault_48 ?_
        refine r_iload_n C rfl dX5_fault_51 ?_
        refine r_iload_n C rfl dX5_fault_52 ?_
        refine r_callV (As := [_, _]) C (c_X0_faultOf _ _ _ (by omega) (by omega)) ok_X0_faultOf ln_X5_165 rfl rfl rfl rfl (Nat.le_of_ble_eq_true rfl) (Nat.le_of_ble_eq_true rfl) (Nat.le_of_ble_eq_true rfl) dX5_fault_53 (fun v53 τ53 hq53 => ?_)
        obtain ⟨rfl, rfl⟩ := hq53
        refine r_ireturn C rfl ?_ dX5_fault_56
        exact pX_of (a := vX σ) (by rw [e4]; simp [s_fault, *]) e2
      · refine r_bipush C (by decide +kernel) dX5_fault_33 ?_
        refine r_ireturn C rfl ?_ dX5_fault_35
        exact pX_of (by simp [s_fault, *]) rfl
    · refine r_iconst C dX5_fault_22 ?_
      refine r_ireturn C rfl ?_ dX5_fault_23
      exact pX_of (by simp [s_fault, *]) rfl
set_option maxRecDepth 100000 in
theorem c_X5_share (l : Launch) (G : pw_G) (σ : pw_H) {p q y h : Int} (hI : Inv (vX σ)) (q_p : InI p) (q_q : InI q) (q_y : InI y) (q_h : InI h) : Ct l shX G mX5_share [.ref (G.2.1 0), vI p, vI q, vI y, vI h] σ (pX (s_share (vX σ) p q y h)) := by
  have h0 : 0 ≤ σ 1 4 ∧ σ 1 4 ≤ 8 := hI.1
  have h5 : 0 ≤ σ 1 5 ∧ σ 1 5 ≤ 6 := hI.2.1
  have h1 : 0 ≤ σ 2 1 ∧ σ 2 1 ≤ 6 := hI.2.2.1
  refine Ct_of (ls := [some (.ref (G.2.1 0)), some (vI p), some (vI q), some (vI y), some (vI h)]) (by decide +kernel) (Nat.le_of_ble_eq_true rfl) rfl (fun X C => ?_)
  refine r_aload_n C rfl dX5_share_0 ?_
  refine r_getR C 4 1 rfl rfl (by decide) rfl uw_X5 fl_X5_19 dX5_share_1 ?_
  refine r_iload_n C rfl dX5_share_4 ?_
  refine r_callV (As := [_]) C (c_X2_has _ _ _ (by omega) hI) ok_X2_has ln_X5_98 rfl rfl rfl rfl (Nat.le_of_ble_eq_true rfl) (Nat.le_of_ble_eq_true rfl) (Nat.le_of_ble_eq_true rfl) dX5_share_5 (fun v5 τ5 hq5 => ?_)
  obtain ⟨rfl, rfl⟩ := hq5
  refine r_ifB_eq (tgt := 22) C (by decide) dX5_share_8 (fun c8 => ?_) (fun c8 => ?_)
  · refine r_iconst C dX5_share_22 ?_
    refine r_ireturn C rfl ?_ dX5_share_23
    exact pX_of (by simp [s_share, *]) rfl
  · have h8 : 0 ≤ p ∧ p ≤ σ 2 1 - 1 := bList_t c8
    obtain ⟨u, rfl⟩ := Int.eq_ofNat_of_zero_le h8.1
    refine r_aload_n C rfl dX5_share_11 ?_
    refine r_getR C 4 1 rfl rfl (by decide) rfl uw_X5 fl_X5_19 dX5_share_12 ?_
    refine r_iload_n C rfl dX5_share_15 ?_
    refine r_callV (As := [_]) C (c_X2_has _ _ _ (by omega) hI) ok_X2_has ln_X5_98 rfl rfl rfl rfl (Nat.le_of_ble_eq_true rfl) (Nat.le_of_ble_eq_true rfl) (Nat.le_of_ble_eq_true rfl) dX5_share_16 (fun v16 τ16 hq16 => ?_)
    obtain ⟨rfl, rfl⟩ := hq16
    refine r_ifB_ne (tgt := 24) C (by decide) dX5_share_19 (fun c19 => ?_) (fun c19 => ?_)
    · have h9 : 0 ≤ q ∧ q ≤ σ 2 1 - 1 := bList_t c19
      obtain ⟨w, rfl⟩ := Int.eq_ofNat_of_zero_le h9.1
      refine r_iload_n C rfl dX5_share_24 ?_
      refine r_iload C rfl dX5_share_25 ?_
      refine r_callS (As := [_, _]) C (c_X5_isMoment _ _ _ (by omega) (by omega)) ok_X5_isMoment ln_X5_118 rfl rfl (Nat.le_of_ble_eq_true rfl) (Nat.le_of_ble_eq_true rfl) (Nat.le_of_ble_eq_true rfl) dX5_share_27 (fun v27 τ27 hq27 => ?_)
      obtain ⟨rfl, rfl⟩ := hq27
      refine r_ifB_ne (tgt := 36) C (by decide) dX5_share_30 (fun c30 => ?_) (fun c30 => ?_)
      · have h11 := bMom_t c30
        refine r_aload_n C rfl dX5_share_36 ?_
        refine r_getR C 4 3 rfl rfl (by decide) rfl uw_X5 fl_X5_37 dX5_share_37 ?_
        refine r_iload_n C rfl dX5_share_40 ?_
        refine r_iload_n C rfl dX5_share_41 ?_
        refine r_iload C rfl dX5_share_42 ?_
        refine r_callV (As := [_, _, _]) C (c_X0_note _ _ _ hI (by omega) h11.1 h11.2) ok_X0_note ln_X5_162 rfl rfl rfl rfl (Nat.le_of_ble_eq_true rfl) (Nat.le_of_ble_eq_true rfl) (Nat.le_of_ble_eq_true rfl) dX5_share_44 (fun v44 τ44 hq44 => ?_)
        obtain ⟨rfl, hF, e3, -⟩ := hq44
        have e2 : vX τ44 = vX σ := Fr_vX hF (by decide)
        refine r_aload_n C rfl dX5_share_47 ?_
        refine r_getR C 4 3 rfl rfl (by decide) rfl uw_X5 fl_X5_37 dX5_share_48 ?_
        refine r_iload_n C rfl dX5_share_51 ?_
        refine r_iload_n C rfl dX5_share_52 ?_
        refine r_iload C rfl dX5_share_53 ?_
        refine r_callV (As := [_, _, _]) C (c_X0_note _ _ _ (e2 ▸ hI) (by omega) h11.1 h11.2) ok_X0_note ln_X5_162 rfl rfl rfl rfl (Nat.le_of_ble_eq_true rfl) (Nat.le_of_ble_eq_true rfl) (Nat.le_of_ble_eq_true rfl) dX5_share_55 (fun v55 τ55 hq55 => ?_)
        obtain ⟨rfl, hF2, e4, e5⟩ := hq55
        have e6 : vX τ55 = vX σ := (Fr_vX hF2 (by decide)).trans e2
        rw [e2] at e4
        have e7 : ∀ s : Int, 0 ≤ s → s < 8 → τ55 20 ((u : Int) * 8 + s) = sFault (vX σ) u y h s := fun s s1 s2 => by
          by_cases z : u = w
          · subst z; exact e4 s s1 s2
          · rw [e5 _ (by omega)]; exact e3 s s1 s2
        have e8 : τ55 1 4 = σ 1 4 := (congrFun (hF2 1 (by decide)) 4).trans (congrFun (hF 1 (by decide)) 4)
        refine r_aload_n C rfl dX5_share_58 ?_
        refine r_getR C 4 3 rfl rfl (by decide) rfl uw_X5 fl_X5_37 dX5_share_59 ?_
        refine r_iload_n C rfl dX5_share_62 ?_
        refine r_iload_n C rfl dX5_share_63 ?_
        refine r_callV (As := [_, _]) C (c_X0_inBoth _ _ _ (e6 ▸ hI) (by omega) (by omega) (fun s s1 s2 => by rw [e7 s s1 s2, e4 s s1 s2]; exact ⟨sFs_r _ _ _ _ _ _, sFs_r _ _ _ _ _ _⟩)) ok_X0_inBoth ln_X5_168 rfl rfl rfl rfl (Nat.le_of_ble_eq_true rfl) (Nat.le_of_ble_eq_true rfl) (Nat.le_of_ble_eq_true rfl) dX5_share_64 (fun v64 τ64 hq64 => ?_)
        obtain ⟨rfl, rfl⟩ := hq64
        refine r_ireturn C rfl ?_ dX5_share_67
        refine pX_of (a := vX σ) ?_ e6
        rw [s_share, if_neg (by simp [c8, c19]), if_neg (by simp [c30])]
        refine congrArg (fun z => (z, vX σ)) ?_
        rw [e8]
        unfold sShare
        refine sSum_cong (fun s s1 => ?_)
        have s2 : s < (σ 1 4).toNat := s1
        rw [e7 s (by omega) (by omega), e4 s (by omega) (by omega)]
      · refine r_bipush C (by decide +kernel) dX5_share_33 ?_
        refine r_ireturn C rfl ?_ dX5_share_35
        exact pX_of (by simp [s_share, *]) rfl
    · refine r_iconst C dX5_share_22 ?_
      refine r_ireturn C rfl ?_ dX5_share_23
      exact pX_of (by simp [s_share, *]) rfl
set_option maxRecDepth 100000 in
theorem c_X5_apart (l : Launch) (G : pw_G) (σ : pw_H) {p q y h : Int} (hI : Inv (vX σ)) (q_p : InI p) (q_q : InI q) (q_y : InI y) (q_h : InI h) : Ct l shX G mX5_apart [.ref (G.2.1 0), vI p, vI q, vI y, vI h] σ (pX (s_apart (vX σ) p q y h)) := by
  have h0 : 0 ≤ σ 1 4 ∧ σ 1 4 ≤ 8 := hI.1
  have h5 : 0 ≤ σ 1 5 ∧ σ 1 5 ≤ 6 := hI.2.1
  have h1 : 0 ≤ σ 2 1 ∧ σ 2 1 ≤ 6 := hI.2.2.1
  refine Ct_of (ls := [some (.ref (G.2.1 0)), some (vI p), some (vI q), some (vI y), some (vI h)]) (by decide +kernel) (Nat.le_of_ble_eq_true rfl) rfl (fun X C => ?_)
  refine r_aload_n C rfl dX5_apart_0 ?_
  refine r_getR C 4 1 rfl rfl (by decide) rfl uw_X5 fl_X5_19 dX5_apart_1 ?_
  refine r_iload_n C rfl dX5_apart_4 ?_
  refine r_callV (As := [_]) C (c_X2_has _ _ _ (by omega) hI) ok_X2_has ln_X5_98 rfl rfl rfl rfl (Nat.le_of_ble_eq_true rfl) (Nat.le_of_ble_eq_true rfl) (Nat.le_of_ble_eq_true rfl) dX5_apart_5 (fun v5 τ5 hq5 => ?_)
  obtain ⟨rfl, rfl⟩ := hq5
  refine r_ifB_eq (tgt := 22) C (by decide) dX5_apart_8 (fun c8 => ?_) (fun c8 => ?_)
  · refine r_iconst C dX5_apart_22 ?_
    refine r_ireturn C rfl ?_ dX5_apart_23
    exact pX_of (by simp [s_apart, *]) rfl
  · have h8 : 0 ≤ p ∧ p ≤ σ 2 1 - 1 := bList_t c8
    obtain ⟨u, rfl⟩ := Int.eq_ofNat_of_zero_le h8.1
    refine r_aload_n C rfl dX5_apart_11 ?_
    refine r_getR C 4 1 rfl rfl (by decide) rfl uw_X5 fl_X5_19 dX5_apart_12 ?_
    refine r_iload_n C rfl dX5_apart_15 ?_
    refine r_callV (As := [_]) C (c_X2_has _ _ _ (by omega) hI) ok_X2_has ln_X5_98 rfl rfl rfl rfl (Nat.le_of_ble_eq_true rfl) (Nat.le_of_ble_eq_true rfl) (Nat.le_of_ble_eq_true rfl) dX5_apart_16 (fun v16 τ16 hq16 => ?_)
    obtain ⟨rfl, rfl⟩ := hq16
    refine r_ifB_ne (tgt := 24) C (by decide) dX5_apart_19 (fun c19 => ?_) (fun c19 => ?_)
    · have h9 : 0 ≤ q ∧ q ≤ σ 2 1 - 1 := bList_t c19
      obtain ⟨w, rfl⟩ := Int.eq_ofNat_of_zero_le h9.1
      refine r_iload_n C rfl dX5_apart_24 ?_
      refine r_iload C rfl dX5_apart_25 ?_
      refine r_callS (As := [_, _]) C (c_X5_isMoment _ _ _ (by omega) (by omega)) ok_X5_isMoment ln_X5_118 rfl rfl (Nat.le_of_ble_eq_true rfl) (Nat.le_of_ble_eq_true rfl) (Nat.le_of_ble_eq_true rfl) dX5_apart_27 (fun v27 τ27 hq27 => ?_)
      obtain ⟨rfl, rfl⟩ := hq27
      refine r_ifB_ne (tgt := 36) C (by decide) dX5_apart_30 (fun c30 => ?_) (fun c30 => ?_)
      · have h11 := bMom_t c30
        refine r_aload_n C rfl dX5_apart_36 ?_
        refine r_getR C 4 3 rfl rfl (by decide) rfl uw_X5 fl_X5_37 dX5_apart_37 ?_
        refine r_iload_n C rfl dX5_apart_40 ?_
        refine r_iload_n C rfl dX5_apart_41 ?_
        refine r_iload C rfl dX5_apart_42 ?_
        refine r_callV (As := [_, _, _]) C (c_X0_note _ _ _ hI (by omega) h11.1 h11.2) ok_X0_note ln_X5_162 rfl rfl rfl rfl (Nat.le_of_ble_eq_true rfl) (Nat.le_of_ble_eq_true rfl) (Nat.le_of_ble_eq_true rfl) dX5_apart_44 (fun v44 τ44 hq44 => ?_)
        obtain ⟨rfl, hF, e3, -⟩ := hq44
        have e2 : vX τ44 = vX σ := Fr_vX hF (by decide)
        refine r_aload_n C rfl dX5_apart_47 ?_
        refine r_getR C 4 3 rfl rfl (by decide) rfl uw_X5 fl_X5_37 dX5_apart_48 ?_
        refine r_iload_n C rfl dX5_apart_51 ?_
        refine r_iload_n C rfl dX5_apart_52 ?_
        refine r_iload C rfl dX5_apart_53 ?_
        refine r_callV (As := [_, _, _]) C (c_X0_note _ _ _ (e2 ▸ hI) (by omega) h11.1 h11.2) ok_X0_note ln_X5_162 rfl rfl rfl rfl (Nat.le_of_ble_eq_true rfl) (Nat.le_of_ble_eq_true rfl) (Nat.le_of_ble_eq_true rfl) dX5_apart_55 (fun v55 τ55 hq55 => ?_)
        obtain ⟨rfl, hF2, e4, e5⟩ := hq55
        have e6 : vX τ55 = vX σ := (Fr_vX hF2 (by decide)).trans e2
        rw [e2] at e4
        have e7 : ∀ s : Int, 0 ≤ s → s < 8 → τ55 20 ((u : Int) * 8 + s) = sFault (vX σ) u y h s := fun s s1 s2 => by
          by_cases z : u = w
          · subst z; exact e4 s s1 s2
          · rw [e5 _ (by omega)]; exact e3 s s1 s2
        have e8 : τ55 1 4 = σ 1 4 := (congrFun (hF2 1 (by decide)) 4).trans (congrFun (hF 1 (by decide)) 4)
        refine r_aload_n C rfl dX5_apart_58 ?_
        refine r_getR C 4 3 rfl rfl (by decide) rfl uw_X5 fl_X5_37 dX5_apart_59 ?_
        refine r_iload_n C rfl dX5_apart_62 ?_
        refine r_iload_n C rfl dX5_apart_63 ?_
        refine r_callV (As := [_, _]) C (c_X0_unlike _ _ _ (e6 ▸ hI) (by omega) (by omega) (fun s s1 s2 => by rw [e7 s s1 s2, e4 s s1 s2]; exact ⟨sFs_r _ _ _ _ _ _, sFs_r _ _ _ _ _ _⟩)) ok_X0_unlike ln_X5_171 rfl rfl rfl rfl (Nat.le_of_ble_eq_true rfl) (Nat.le_of_ble_eq_true rfl) (Nat.le_of_ble_eq_true rfl) dX5_apart_64 (fun v64 τ64 hq64 => ?_)
        obtain ⟨rfl, rfl⟩ := hq64
        refine r_ireturn C rfl ?_ dX5_apart_67
        refine pX_of (a := vX σ) ?_ e6
        rw [s_apart, if_neg (by simp [c8, c19]), if_neg (by simp [c30])]
        refine congrArg (fun z => (z, vX σ)) ?_
        rw [e8]
        unfold sApart
        refine sSum_cong (fun s s1 => ?_)
        have s2 : s < (σ 1 4).toNat := s1
        rw [e7 s (by omega) (by omega), e4 s (by omega) (by omega)]
      · refine r_bipush C (by decide +kernel) dX5_apart_33 ?_
        refine r_ireturn C rfl ?_ dX5_apart_35
        exact pX_of (by simp [s_apart, *]) rfl
    · refine r_iconst C dX5_apart_22 ?_
      refine r_ireturn C rfl ?_ dX5_apart_23
      exact pX_of (by simp [s_apart, *]) rfl
end
section
/-- the faults of all lists are laid -/
def hFt (σ : pw_H) (a : pw_H) (y h : Int) (n : Nat) : Prop := ∀ t : Nat, t < n → ∀ s : Int, 0 ≤ s → s < 8 → σ 20 (t * 8 + s) = sFault a t y h s
set_option maxRecDepth 100000 in
theorem c_X0_join (l : Launch) (G : pw_G) (σ : pw_H) {f e : Int} (hI : Inv (vX σ)) (hf : 0 ≤ f ∧ f ≤ 10) (he : 0 ≤ e ∧ e ≤ 10) (hg : ∀ l : Int, 0 ≤ l → l < σ 2 1 → 0 ≤ σ 21 l ∧ σ 21 l ≤ 10) : Ct l shX G mX0_join [.ref (G.2.1 4), vI f, vI e] σ (fun r τ => r = none ∧ Fr [21] σ τ ∧ ∀ l : Int, 0 ≤ l → l < σ 2 1 → τ 21 l = if σ 21 l = e then f else σ 21 l) := by
  have h1 : 0 ≤ σ 2 1 ∧ σ 2 1 ≤ 6 := hI.2.2.1
  refine Ct_of (ls := [some (.ref (G.2.1 4)), some (vI f), some (vI e), none]) (by decide +kernel) (Nat.le_of_ble_eq_true rfl) rfl (fun X C => ?_)
  have loop : ∀ (k i : Nat) (υ : pw_H), i + k = (σ 2 1).toNat → Fr [21] σ υ → (∀ l : Int, 0 ≤ l → l < i → υ 21 l = if σ 21 l = e then f else σ 21 l) → (∀ l : Int, i ≤ l → υ 21 l = σ 21 l) → PW X shX G 2 [some (.ref (G.2.1 4)), some (vI f), some (vI e), some (vI (i : Int))] [] υ := by
    intro k
    induction k with
    | zero =>
      intro i υ hi hF h21 ho
      have e1 : υ 2 1 = σ 2 1 := congrFun (hF 2 (by decide)) _
      refine r_iload_n C rfl dX0_join_2 ?_
      refine r_aload_n C rfl dX0_join_3 ?_
      refine r_getR C 0 4 rfl rfl (by decide) rfl uw_X0 fl_X0_32 dX0_join_4 ?_
      refine r_getI (jz := 1) C 2 1 rfl rfl (by decide) rfl uw_X2 fl_X0_73 rfl dX0_join_7 ?_
      refine r_icmp_ge (tgt := 36) C (by decide) (by omega) (by omega) dX0_join_10 (fun c10 => ?_) (fun c10 => ?_)
      · refine r_return C rfl ?_ dX0_join_36
        exact ⟨rfl, hF, fun l l1 l2 => h21 l l1 (by omega)⟩
      · omega
    | succ k ih =>
      intro i υ hi hF h21 ho
      have e1 : υ 2 1 = σ 2 1 := congrFun (hF 2 (by decide)) _
      have e2 := ho i (by omega)
      have e3 := hg i (by omega) (by omega)
      refine r_iload_n C rfl dX0_join_2 ?_
      refine r_aload_n C rfl dX0_join_3 ?_
      refine r_getR C 0 4 rfl rfl (by decide) rfl uw_X0 fl_X0_32 dX0_join_4 ?_
      refine r_getI (jz := 1) C 2 1 rfl rfl (by decide) rfl uw_X2 fl_X0_73 rfl dX0_join_7 ?_
      refine r_icmp_ge (tgt := 36) C (by decide) (by omega) (by omega) dX0_join_10 (fun c10 => ?_) (fun c10 => ?_)
      · omega
      · refine r_aload_n C rfl dX0_join_13 ?_
        refine r_getR C 0 7 rfl rfl (by decide) rfl uw_X0 fl_X0_25 dX0_join_14 ?_
        refine r_iload_n C rfl dX0_join_17 ?_
        refine r_iaload C rfl (by decide) (by omega) dX0_join_18 ?_
        refine r_iload_n C rfl dX0_join_19 ?_
        rw [e2]
        refine r_icmp_ne (tgt := 30) C (by decide) (by omega) (by omega) dX0_join_20 (fun c20 => ?_) (fun c20 => ?_)
        · refine r_iinc (ls' := [_, _, _, _]) C rfl (by decide) rfl rfl dX0_join_30 ?_
          refine r_goto (tgt := 2) C (by decide) dX0_join_33 ?_
          refine ih (i + 1) _ (by omega) hF (fun l l1 l2 => ?_) (fun l l1 => ho l (by omega))
          by_cases z : l = i
          · subst z; rw [e2, if_neg (by omega)]
          · exact h21 l l1 (by omega)
        · refine r_aload_n C rfl dX0_join_23 ?_
          refine r_getR C 0 7 rfl rfl (by decide) rfl uw_X0 fl_X0_25 dX0_join_24 ?_
          refine r_iload_n C rfl dX0_join_27 ?_
          refine r_iload_n C rfl dX0_join_28 ?_
          refine r_iastore C rfl (by decide) (by omega) dX0_join_29 ?_
          refine r_iinc (ls' := [_, _, _, _]) C rfl (by decide) rfl rfl dX0_join_30 ?_
          refine r_goto (tgt := 2) C (by decide) dX0_join_33 ?_
          refine ih (i + 1) _ (by omega) (hF.tr (Fr.u (by decide)) (fun _ q => q) (fun _ q => q)) (fun l l1 l2 => ?_) (fun l l1 => by rw [pw_u_j (by omega)]; exact ho l (by omega))
          by_cases z : l = i
          · subst z; rw [pw_u_s, if_pos (by omega)]
          · rw [pw_u_j z]; exact h21 l l1 (by omega)
  refine r_iconst C dX0_join_0 ?_
  refine r_istore_n (ls' := [_, _, _, _]) C (by decide) rfl rfl dX0_join_1 ?_
  exact loop (σ 2 1).toNat 0 σ (by omega) Fr.rf (fun l l1 l2 => by omega) (fun _ _ => rfl)
theorem ap_eq {σ : pw_H} {a : pw_H} {y h : Int} {n p q : Nat} (hv : vX σ = a) (hI : Inv a) (hF : hFt σ a y h n) (hp : p < n) (hq : q < n) : sSum (fun s => zB (decide (¬ σ 20 ((p : Int) * 8 + s) = σ 20 ((q : Int) * 8 + s)))) (σ 1 4).toNat = sApart a p q y h := by
  subst hv
  have h0 : 0 ≤ σ 1 4 ∧ σ 1 4 ≤ 8 := hI.1
  unfold sApart
  refine sSum_cong (fun s s1 => ?_)
  have s2 : s < (σ 1 4).toNat := s1
  rw [hF p hp s (by omega) (by omega), hF q hq s (by omega) (by omega)]
set_option maxRecDepth 100000 in
set_option maxHeartbeats 4000000 in
theorem c_X0_addRow (l : Launch) (G : pw_G) (σ : pw_H) {a : pw_H} {y h : Int} {n k : Nat} {g : Int → Int} (hv : vX σ = a) (hI : Inv a) (hn : n = (σ 2 1).toNat) (hF : hFt σ a y h n) (hg : ∀ l : Int, 0 ≤ l → l < n → σ 21 l = g l ∧ 0 ≤ g l ∧ g l < n) (hk : σ 4 1 = k) (hk5 : k < 5)
    (hfd : 0 ≤ (tPk (fun p q => sApart a p q y h) g n).1 ∧ (tPk (fun p q => sApart a p q y h) g n).1 < (tPk (fun p q => sApart a p q y h) g n).2.1 ∧ (tPk (fun p q => sApart a p q y h) g n).2.1 < n ∧ (tPk (fun p q => sApart a p q y h) g n).2.2 = sApart a (tPk (fun p q => sApart a p q y h) g n).1 (tPk (fun p q => sApart a p q y h) g n).2.1 y h) :
    Ct l shX G mX0_addRow [.ref (G.2.1 4)] σ (fun r τ => r = none ∧ Fr [4, 19, 21] σ τ ∧ τ 4 1 = k + 1 ∧ τ 4 2 = σ 4 2 + (tPk (fun p q => sApart a p q y h) g n).2.2 ∧ (∀ j : Int, τ 19 j = if j = k then 10 * (tPk (fun p q => sApart a p q y h) g n).1 + (tPk (fun p q => sApart a p q y h) g n).2.1 else σ 19 j) ∧ ∀ l : Int, 0 ≤ l → l < n → τ 21 l = tG g (tPk (fun p q => sApart a p q y h) g n).1 (tPk (fun p q => sApart a p q y h) g n).2.1 l) := by
  have h1 : 0 ≤ σ 2 1 ∧ σ 2 1 ≤ 6 := (hv ▸ hI : Inv (vX σ)).2.2.1
  have hap : ∀ p q : Int, 0 ≤ sApart a p q y h ∧ sApart a p q y h < 9 := fun p q => sApart_r hI p q y h
  have hIσ : Inv (vX σ) := hv ▸ hI
  refine Ct_of (ls := [some (.ref (G.2.1 4)), none, none, none, none, none, none]) (by decide +kernel) (Nat.le_of_ble_eq_true rfl) rfl (fun X C => ?_)
  have fin : ∀ c : tA, c = tPk (fun p q => sApart a p q y h) g n → ∀ i : Nat, i = n → PW X shX G 12 [some (.ref (G.2.1 4)), some (vI c.1), some (vI c.2.1), some (vI c.2.2), some (vI (i : Int)), none, none] [] σ := by
    intro c hc i hi
    rw [← hc] at hfd
    have g1 := hg c.1 (by omega) (by omega)
    have g2 := hg c.2.1 (by omega) (by omega)
    have a1 := hap c.1 c.2.1
    refine r_iload C rfl dX0_addRow_12 ?_
    refine r_aload_n C rfl dX0_addRow_14 ?_
    refine r_getR C 0 4 rfl rfl (by decide) rfl uw_X0 fl_X0_32 dX0_addRow_15 ?_
    refine r_getI (jz := 1) C 2 1 rfl rfl (by decide) rfl uw_X2 fl_X0_73 rfl dX0_addRow_18 ?_
    refine r_icmp_ge (tgt := 102) C (by decide) (by omega) (by omega) dX0_addRow_21 (fun c21 => ?_) (fun c21 => ?_)
    · refine r_iload_n C rfl dX0_addRow_102 ?_
      refine r_bipush C (by decide +kernel) dX0_addRow_103 ?_
      refine r_icmp_eq (tgt := 120) C (by decide) (by omega) (by omega) dX0_addRow_105 (fun c105 => ?_) (fun c105 => ?_)
      · omega
      · refine r_aload_n C rfl dX0_addRow_108 ?_
        refine r_getI (jz := 1) C 0 1 rfl rfl (by decide) rfl uw_X0 fl_X0_15 rfl dX0_addRow_109 ?_
        rw [hk]
        refine r_aload_n C rfl dX0_addRow_112 ?_
        refine r_getR C 0 0 rfl rfl (by decide) rfl uw_X0 fl_X0_9 dX0_addRow_113 ?_
        refine r_alen C rfl dX0_addRow_116 ?_
        refine r_icmp_lt (tgt := 121) C (by decide) (by omega) (by omega) dX0_addRow_117 (fun c117 => ?_) (fun c117 => ?_)
        · refine r_aload_n C rfl dX0_addRow_121 ?_
          refine r_getR C 0 0 rfl rfl (by decide) rfl uw_X0 fl_X0_9 dX0_addRow_122 ?_
          refine r_aload_n C rfl dX0_addRow_125 ?_
          refine r_getI (jz := 1) C 0 1 rfl rfl (by decide) rfl uw_X0 fl_X0_15 rfl dX0_addRow_126 ?_
          rw [hk]
          refine r_bipush C (by decide +kernel) dX0_addRow_129 ?_
          refine r_iload_n C rfl dX0_addRow_131 ?_
          refine r_imul C dX0_addRow_132 ?_
          refine r_iload_n C rfl dX0_addRow_133 ?_
          refine r_iadd C dX0_addRow_134 ?_
          refine r_iastore C rfl (by decide) (by omega) dX0_addRow_135 ?_
          refine r_aload_n C rfl dX0_addRow_136 ?_
          refine r_dup C rfl dX0_addRow_137 ?_
          refine r_getI (jz := 1) C 0 1 rfl rfl (by decide) rfl uw_X0 fl_X0_15 rfl dX0_addRow_138 ?_
          try simp (disch := decide) only [pw_u_k, pw_u_j, pw_u_s]
          rw [hk]
          refine r_iconst C dX0_addRow_141 ?_
          refine r_iadd C dX0_addRow_142 ?_
          refine r_putI (jz := 1) C 0 1 tyX0 tyX0_ok nmX0 rfl rfl (by decide) rfl uw_X0 fl_X0_15 rfl rfl rfl dX0_addRow_143 ?_
          refine r_aload_n C rfl dX0_addRow_146 ?_
          refine r_dup C rfl dX0_addRow_147 ?_
          refine r_getI (jz := 2) C 0 2 rfl rfl (by decide) rfl uw_X0 fl_X0_19 rfl dX0_addRow_148 ?_
          try simp (disch := decide) only [pw_u_k, pw_u_j, pw_u_s]
          refine r_iload_n C rfl dX0_addRow_151 ?_
          refine r_iadd C dX0_addRow_152 ?_
          refine r_putI (jz := 2) C 0 2 tyX0 tyX0_ok nmX0 rfl rfl (by decide) rfl uw_X0 fl_X0_19 rfl rfl rfl dX0_addRow_153 ?_
          refine r_aload_n C rfl dX0_addRow_156 ?_
          refine r_aload_n C rfl dX0_addRow_157 ?_
          refine r_getR C 0 7 rfl rfl (by decide) rfl uw_X0 fl_X0_25 dX0_addRow_158 ?_
          refine r_iload_n C rfl dX0_addRow_161 ?_
          refine r_iaload C rfl (by decide) (by omega) dX0_addRow_162 ?_
          try simp (disch := decide) only [pw_u_k, pw_u_j, pw_u_s]
          refine r_aload_n C rfl dX0_addRow_163 ?_
          refine r_getR C 0 7 rfl rfl (by decide) rfl uw_X0 fl_X0_25 dX0_addRow_164 ?_
          refine r_iload_n C rfl dX0_addRow_167 ?_
          refine r_iaload C rfl (by decide) (by omega) dX0_addRow_168 ?_
          try simp (disch := decide) only [pw_u_k, pw_u_j, pw_u_s]
          rw [g1.1, g2.1]
          refine r_callV (As := [_, _]) C (c_X0_join (f := g c.1) (e := g c.2.1) _ _ _ (by rw [Fr_vX (((Fr.u (ks := [4, 19, 21]) (σ := σ) (by decide)).tr (Fr.u (ks := [4, 19, 21]) (by decide)) (fun _ q => q) (fun _ q => q)).tr (Fr.u (ks := [4, 19, 21]) (by decide)) (fun _ q => q) (fun _ q => q)) (by decide)]; exact hIσ) (by omega) (by omega) (fun l l1 l2 => by
            simp (disch := decide) only [pw_u_k] at l2 ⊢
            have := hg l l1 (by omega)
            omega)) ok_X0_join ln_X0_83 rfl rfl rfl rfl (Nat.le_of_ble_eq_true rfl) (Nat.le_of_ble_eq_true rfl) (Nat.le_of_ble_eq_true rfl) dX0_addRow_169 (fun v169 τ169 hq169 => ?_)
          obtain ⟨rfl, hF2, h21⟩ := hq169
          refine r_return C rfl ?_ dX0_addRow_172
          refine ⟨rfl, (((Fr.u (ks := [4, 19, 21]) (by decide)).tr (Fr.u (ks := [4, 19, 21]) (by decide)) (fun _ q => q) (fun _ q => q)).tr (Fr.u (ks := [4, 19, 21]) (by decide)) (fun _ q => q) (fun _ q => q)).tr hF2 (fun _ q => q) (by decide), ?_, ?_, fun j => ?_, fun l l1 l2 => ?_⟩
          · rw [hF2 4 (by decide), pw_u_j (by decide), pw_u_s]
          · rw [← hc, hF2 4 (by decide), pw_u_s]
          · rw [← hc, hF2 19 (by decide), pw_u_k (by decide), pw_u_k (by decide), pw_u_f]
          · have e9 := h21 l l1 (by simp (disch := decide) only [pw_u_k]; omega)
            simp (disch := decide) only [pw_u_k] at e9
            have g3 := hg l l1 l2
            rw [e9, g3.1, ← hc]
            rfl
        · omega
    · omega
  have inner : ∀ (w p j : Nat) (c0 : tA), c0 = tOut (fun p q => sApart a p q y h) g n (-9, -9, 9) p → p < n → j + w = n - (p + 1) → (∀ c : tA, c = tOut (fun p q => sApart a p q y h) g n (-9, -9, 9) (p + 1) → PW X shX G 96 [some (.ref (G.2.1 4)), some (vI c.1), some (vI c.2.1), some (vI c.2.2), some (vI (p : Int)), none, none] [] σ) → ∀ c : tA, c = tIn (fun p q => sApart a p q y h) g p (p + 1) c0 j → PW X shX G 30 [some (.ref (G.2.1 4)), some (vI c.1), some (vI c.2.1), some (vI c.2.2), some (vI (p : Int)), some (vI ((p + 1 + j : Nat) : Int)), none] [] σ := by
    intro w
    induction w with
    | zero =>
      intro p j c0 hc0 hp hj hout c hc
      refine r_iload C rfl dX0_addRow_30 ?_
      refine r_aload_n C rfl dX0_addRow_32 ?_
      refine r_getR C 0 4 rfl rfl (by decide) rfl uw_X0 fl_X0_32 dX0_addRow_33 ?_
      refine r_getI (jz := 1) C 2 1 rfl rfl (by decide) rfl uw_X2 fl_X0_73 rfl dX0_addRow_36 ?_
      refine r_icmp_ge (tgt := 96) C (by decide) (by omega) (by omega) dX0_addRow_39 (fun c39 => ?_) (fun c39 => ?_)
      · refine PW_lw [true, true, true, true, true, false, false] (hout c ?_) rfl
        rw [hc, hc0, show j = n - (p + 1) by omega]
        rfl
      · omega
    | succ w ihw =>
      intro p j c0 hc0 hp hj hout c hc
      have g1 := hg p (by omega) (by omega)
      have g2 := hg ((p + 1 + j : Nat) : Int) (by omega) (by omega)
      have a1 := hap p ((p + 1 + j : Nat) : Int)
      have hI2 : tI (fun p q => sApart a p q y h) n c := by
        rw [hc, hc0]
        exact tIn_I (Nat.lt_succ_self p) (tOut_I (Or.inl rfl) p (by omega)) j (by omega)
      have hcr : (-9 ≤ c.1 ∧ c.1 < 6) ∧ (-9 ≤ c.2.1 ∧ c.2.1 < 6) ∧ 0 ≤ c.2.2 ∧ c.2.2 ≤ 9 := by
        rcases hI2 with z | z
        · rw [z]; decide
        · have z1 := hap c.1 c.2.1
          have z2 : c.2.2 = sApart a c.1 c.2.1 y h := z.2.2.2.1
          omega
      have ea := ap_eq (y := y) (h := h) hv hI hF (p := p) (q := p + 1 + j) (by omega) (by omega)
      have es : tIn (fun p q => sApart a p q y h) g p (p + 1) c0 (j + 1) = tB (fun p q => sApart a p q y h) g p ((p + 1 + j : Nat) : Int) c := by rw [hc]; rfl
      have el : ((p + 1 + j : Nat) : Int) + 1 = ((p + 1 + (j + 1) : Nat) : Int) := by omega
      have stay : ¬ (¬ g p = g ((p + 1 + j : Nat) : Int) ∧ sApart a p ((p + 1 + j : Nat) : Int) y h < c.2.2) → ∀ z : Option Value, PW X shX G 30 [some (.ref (G.2.1 4)), some (vI c.1), some (vI c.2.1), some (vI c.2.2), some (vI (p : Int)), some (vI (((p + 1 + j : Nat) : Int) + 1)), z] [] σ := by
        intro hz z
        have e5 : tB (fun p q => sApart a p q y h) g p ((p + 1 + j : Nat) : Int) c = c := by unfold tB; rw [if_neg hz]
        rw [el]
        exact PW_lw [true, true, true, true, true, true, false] (ihw p (j + 1) c0 hc0 hp (by omega) hout c (by rw [es, e5])) rfl
      refine r_iload C rfl dX0_addRow_30 ?_
      refine r_aload_n C rfl dX0_addRow_32 ?_
      refine r_getR C 0 4 rfl rfl (by decide) rfl uw_X0 fl_X0_32 dX0_addRow_33 ?_
      refine r_getI (jz := 1) C 2 1 rfl rfl (by decide) rfl uw_X2 fl_X0_73 rfl dX0_addRow_36 ?_
      refine r_icmp_ge (tgt := 96) C (by decide) (by omega) (by omega) dX0_addRow_39 (fun c39 => ?_) (fun c39 => ?_)
      · omega
      · refine r_aload_n C rfl dX0_addRow_42 ?_
        refine r_getR C 0 7 rfl rfl (by decide) rfl uw_X0 fl_X0_25 dX0_addRow_43 ?_
        refine r_iload C rfl dX0_addRow_46 ?_
        refine r_iaload C rfl (by decide) (by omega) dX0_addRow_48 ?_
        refine r_aload_n C rfl dX0_addRow_49 ?_
        refine r_getR C 0 7 rfl rfl (by decide) rfl uw_X0 fl_X0_25 dX0_addRow_50 ?_
        refine r_iload C rfl dX0_addRow_53 ?_
        refine r_iaload C rfl (by decide) (by omega) dX0_addRow_55 ?_
        rw [g1.1, g2.1]
        refine r_icmp_ne (tgt := 62) C (by decide) (by omega) (by omega) dX0_addRow_56 (fun c56 => ?_) (fun c56 => ?_)
        · refine r_aload_n C rfl dX0_addRow_62 ?_
          refine r_iload C rfl dX0_addRow_63 ?_
          refine r_iload C rfl dX0_addRow_65 ?_
          refine r_callV (As := [_, _]) C (c_X0_unlike _ _ _ hIσ (by omega) (by omega) (fun s s1 s2 => by rw [hF p (by omega) s s1 s2, hF (p + 1 + j) (by omega) s s1 s2]; exact ⟨sFs_r _ _ _ _ _ _, sFs_r _ _ _ _ _ _⟩)) ok_X0_unlike ln_X0_80 rfl rfl rfl rfl (Nat.le_of_ble_eq_true rfl) (Nat.le_of_ble_eq_true rfl) (Nat.le_of_ble_eq_true rfl) dX0_addRow_67 (fun v67 τ67 hq67 => ?_)
          obtain ⟨rfl, rfl⟩ := hq67
          rw [ea]
          refine r_istore (ls' := [_, _, _, _, _, _, _]) C (by decide) rfl rfl dX0_addRow_70 ?_
          refine r_iload C rfl dX0_addRow_72 ?_
          refine r_iload_n C rfl dX0_addRow_74 ?_
          refine r_icmp_lt (tgt := 81) C (by decide) (by omega) (by omega) dX0_addRow_75 (fun c75 => ?_) (fun c75 => ?_)
          · refine r_iload C rfl dX0_addRow_81 ?_
            refine r_istore_n (ls' := [_, _, _, _, _, _, _]) C (by decide) rfl rfl dX0_addRow_83 ?_
            refine r_iload C rfl dX0_addRow_84 ?_
            refine r_istore_n (ls' := [_, _, _, _, _, _, _]) C (by decide) rfl rfl dX0_addRow_86 ?_
            refine r_iload C rfl dX0_addRow_87 ?_
            refine r_istore_n (ls' := [_, _, _, _, _, _, _]) C (by decide) rfl rfl dX0_addRow_89 ?_
            refine r_iinc (ls' := [_, _, _, _, _, _, _]) C rfl (by decide) rfl rfl dX0_addRow_90 ?_
            refine r_goto (tgt := 30) C (by decide) dX0_addRow_93 ?_
            have e5 : tB (fun p q => sApart a p q y h) g p ((p + 1 + j : Nat) : Int) c = ((p : Int), ((p + 1 + j : Nat) : Int), sApart a p ((p + 1 + j : Nat) : Int) y h) := by unfold tB; rw [if_pos ⟨by omega, by omega⟩]
            rw [el]
            exact PW_lw [true, true, true, true, true, true, false] (ihw p (j + 1) c0 hc0 hp (by omega) hout _ (es.trans e5).symm) rfl
          · refine r_goto (tgt := 90) C (by decide) dX0_addRow_78 ?_
            refine r_iinc (ls' := [_, _, _, _, _, _, _]) C rfl (by decide) rfl rfl dX0_addRow_90 ?_
            refine r_goto (tgt := 30) C (by decide) dX0_addRow_93 ?_
            exact stay (by omega) _
        · refine r_goto (tgt := 90) C (by decide) dX0_addRow_59 ?_
          refine r_iinc (ls' := [_, _, _, _, _, _, _]) C rfl (by decide) rfl rfl dX0_addRow_90 ?_
          refine r_goto (tgt := 30) C (by decide) dX0_addRow_93 ?_
          exact stay (by omega) _
  have loop : ∀ (w p : Nat) (c : tA), p + w = n → c = tOut (fun p q => sApart a p q y h) g n (-9, -9, 9) p → PW X shX G 12 [some (.ref (G.2.1 4)), some (vI c.1), some (vI c.2.1), some (vI c.2.2), some (vI (p : Int)), none, none] [] σ := by
    intro w
    induction w with
    | zero =>
      intro p c hp hc
      exact fin c (by rw [hc, show p = n by omega]; rfl) p (by omega)
    | succ w ih =>
      intro p c hp hc
      have hout : ∀ c : tA, c = tOut (fun p q => sApart a p q y h) g n (-9, -9, 9) (p + 1) → PW X shX G 96 [some (.ref (G.2.1 4)), some (vI c.1), some (vI c.2.1), some (vI c.2.2), some (vI (p : Int)), none, none] [] σ := by
        intro c hc
        refine r_iinc (ls' := [_, _, _, _, _, _, _]) C rfl (by decide) rfl rfl dX0_addRow_96 ?_
        refine r_goto (tgt := 12) C (by decide) dX0_addRow_99 ?_
        exact ih (p + 1) c (by omega) hc
      refine r_iload C rfl dX0_addRow_12 ?_
      refine r_aload_n C rfl dX0_addRow_14 ?_
      refine r_getR C 0 4 rfl rfl (by decide) rfl uw_X0 fl_X0_32 dX0_addRow_15 ?_
      refine r_getI (jz := 1) C 2 1 rfl rfl (by decide) rfl uw_X2 fl_X0_73 rfl dX0_addRow_18 ?_
      refine r_icmp_ge (tgt := 102) C (by decide) (by omega) (by omega) dX0_addRow_21 (fun c21 => ?_) (fun c21 => ?_)
      · omega
      · refine r_iload C rfl dX0_addRow_24 ?_
        refine r_iconst C dX0_addRow_26 ?_
        refine r_iadd C dX0_addRow_27 ?_
        refine r_istore (ls' := [_, _, _, _, _, _, _]) C (by decide) rfl rfl dX0_addRow_28 ?_
        exact inner (n - (p + 1)) p 0 c hc (by omega) (by omega) hout c rfl
  refine r_bipush C (by decide +kernel) dX0_addRow_0 ?_
  refine r_istore_n (ls' := [_, _, _, _, _, _, _]) C (by decide) rfl rfl dX0_addRow_2 ?_
  refine r_bipush C (by decide +kernel) dX0_addRow_3 ?_
  refine r_istore_n (ls' := [_, _, _, _, _, _, _]) C (by decide) rfl rfl dX0_addRow_5 ?_
  refine r_bipush C (by decide +kernel) dX0_addRow_6 ?_
  refine r_istore_n (ls' := [_, _, _, _, _, _, _]) C (by decide) rfl rfl dX0_addRow_8 ?_
  refine r_iconst C dX0_addRow_9 ?_
  refine r_istore (ls' := [_, _, _, _, _, _, _]) C (by decide) rfl rfl dX0_addRow_10 ?_
  exact loop n 0 (-9, -9, 9) (by omega) rfl
set_option maxRecDepth 100000 in
set_option maxHeartbeats 4000000 in
theorem c_X0_grow (l : Launch) (G : pw_G) (σ : pw_H) {y h : Int} (hI : Inv (vX σ)) (hy : -3000 ≤ y ∧ y ≤ 3000) (hh : -600 ≤ h ∧ h ≤ 600) : Ct l shX G mX0_grow [.ref (G.2.1 4), vI y, vI h] σ (fun r τ => r = none ∧ vX τ = vX σ ∧ τ 4 1 = ((σ 2 1).toNat - 1 : Nat) ∧ τ 4 2 = (sTr (vX σ) y h ((σ 2 1).toNat - 1)).2.1 ∧ ∀ j : Nat, j < (σ 2 1).toNat - 1 → τ 19 j = (sTr (vX σ) y h ((σ 2 1).toNat - 1)).2.2 j) := by
  have h1 : 0 ≤ σ 2 1 ∧ σ 2 1 ≤ 6 := hI.2.2.1
  have hap : ∀ p q : Int, sApart (vX σ) p q y h < 9 := fun p q => (sApart_r hI p q y h).2
  refine Ct_of (ls := [some (.ref (G.2.1 4)), some (vI y), some (vI h), none]) (by decide +kernel) (Nat.le_of_ble_eq_true rfl) rfl (fun X C => ?_)
  have loop2 : ∀ (w k : Nat) (υ : pw_H), k + w = (σ 2 1).toNat - 1 → vX υ = vX σ → hFt υ (vX σ) y h (σ 2 1).toNat → (∀ l : Int, 0 ≤ l → l < (σ 2 1).toNat → υ 21 l = (sTr (vX σ) y h k).1 l) → υ 4 1 = k → υ 4 2 = (sTr (vX σ) y h k).2.1 → (∀ j : Nat, j < k → υ 19 j = (sTr (vX σ) y h k).2.2 j) → PW X shX G 45 [some (.ref (G.2.1 4)), some (vI y), some (vI h), some (vI ((k : Int) + 1))] [] υ := by
    intro w
    induction w with
    | zero =>
      intro k υ hk e2 hF hg h41 h42 h19
      have e1 : υ 2 1 = σ 2 1 := congrFun (congrFun e2 0) 2
      have ek : k = (σ 2 1).toNat - 1 := by omega
      subst ek
      refine r_iload_n C rfl dX0_grow_45 ?_
      refine r_aload_n C rfl dX0_grow_46 ?_
      refine r_getR C 0 4 rfl rfl (by decide) rfl uw_X0 fl_X0_32 dX0_grow_47 ?_
      refine r_getI (jz := 1) C 2 1 rfl rfl (by decide) rfl uw_X2 fl_X0_73 rfl dX0_grow_50 ?_
      refine r_icmp_ge (tgt := 66) C (by decide) (by omega) (by omega) dX0_grow_53 (fun c53 => ?_) (fun c53 => ?_)
      · refine r_return C rfl ?_ dX0_grow_66
        exact ⟨rfl, e2, h41, h42, h19⟩
      · omega
    | succ w ih =>
      intro k υ hk e2 hF hg h41 h42 h19
      have e1 : υ 2 1 = σ 2 1 := congrFun (congrFun e2 0) 2
      have hr := tS_rng (fun p q => sApart (vX σ) p q y h) (σ 2 1).toNat k (by omega) hap
      have hfd := tS_found (ap := fun p q => sApart (vX σ) p q y h) (n := (σ 2 1).toNat) hap (k := k) (by omega)
      refine r_iload_n C rfl dX0_grow_45 ?_
      refine r_aload_n C rfl dX0_grow_46 ?_
      refine r_getR C 0 4 rfl rfl (by decide) rfl uw_X0 fl_X0_32 dX0_grow_47 ?_
      refine r_getI (jz := 1) C 2 1 rfl rfl (by decide) rfl uw_X2 fl_X0_73 rfl dX0_grow_50 ?_
      refine r_icmp_ge (tgt := 66) C (by decide) (by omega) (by omega) dX0_grow_53 (fun c53 => ?_) (fun c53 => ?_)
      · omega
      · refine r_aload_n C rfl dX0_grow_56 ?_
        refine r_callV (As := []) C (c_X0_addRow (a := vX σ) (y := y) (h := h) (n := (σ 2 1).toNat) (k := k) (g := (sTr (vX σ) y h k).1) _ _ _ e2 hI (by rw [e1]) hF (fun l l1 l2 => ⟨hg l l1 l2, hr l l1 l2⟩) h41 (by omega) hfd) ok_X0_addRow ln_X0_77 rfl rfl rfl rfl (Nat.le_of_ble_eq_true rfl) (Nat.le_of_ble_eq_true rfl) (Nat.le_of_ble_eq_true rfl) dX0_grow_57 (fun v57 τ57 hq57 => ?_)
        obtain ⟨rfl, hF2, r41, r42, r19, r21⟩ := hq57
        have e20 : τ57 20 = υ 20 := hF2 20 (by decide)
        refine r_iinc (ls' := [_, _, _, _]) C rfl (by decide) rfl rfl dX0_grow_60 ?_
        refine r_goto (tgt := 45) C (by decide) dX0_grow_63 ?_
        refine ih (k + 1) _ (by omega) ((Fr_vX hF2 (by decide)).trans e2) (fun t t1 s s1 s2 => by rw [e20]; exact hF t t1 s s1 s2) r21 r41 (by rw [r42, h42]; rfl) (fun j j1 => ?_)
        rw [r19]
        by_cases z : j = k
        · subst z
          rw [if_pos rfl]
          show _ = (tS (fun p q => sApart (vX σ) p q y h) (σ 2 1).toNat (j + 1)).2.2 j
          simp only [tS, if_true]
          rfl
        · rw [if_neg (by omega), h19 j (by omega)]
          show _ = (tS (fun p q => sApart (vX σ) p q y h) (σ 2 1).toNat (k + 1)).2.2 j
          simp only [tS]
          rw [if_neg (by omega)]
          rfl
  have loop : ∀ (w t : Nat) (υ : pw_H), t + w = (σ 2 1).toNat → vX υ = vX σ → hFt υ (vX σ) y h t → (∀ l : Int, 0 ≤ l → l < t → υ 21 l = l) → υ 4 1 = 0 → υ 4 2 = 0 → PW X shX G 12 [some (.ref (G.2.1 4)), some (vI y), some (vI h), some (vI (t : Int))] [] υ := by
    intro w
    induction w with
    | zero =>
      intro t υ ht e2 hF hg h41 h42
      have e1 : υ 2 1 = σ 2 1 := congrFun (congrFun e2 0) 2
      have et : t = (σ 2 1).toNat := by omega
      subst et
      refine r_iload_n C rfl dX0_grow_12 ?_
      refine r_aload_n C rfl dX0_grow_13 ?_
      refine r_getR C 0 4 rfl rfl (by decide) rfl uw_X0 fl_X0_32 dX0_grow_14 ?_
      refine r_getI (jz := 1) C 2 1 rfl rfl (by decide) rfl uw_X2 fl_X0_73 rfl dX0_grow_17 ?_
      refine r_icmp_ge (tgt := 43) C (by decide) (by omega) (by omega) dX0_grow_20 (fun c20 => ?_) (fun c20 => ?_)
      · refine r_iconst C dX0_grow_43 ?_
        refine r_istore_n (ls' := [_, _, _, _]) C (by decide) rfl rfl dX0_grow_44 ?_
        exact loop2 ((σ 2 1).toNat - 1) 0 υ (by omega) e2 hF hg h41 h42 (fun j j1 => by omega)
      · omega
    | succ w ih =>
      intro t υ ht e2 hF hg h41 h42
      have e1 : υ 2 1 = σ 2 1 := congrFun (congrFun e2 0) 2
      refine r_iload_n C rfl dX0_grow_12 ?_
      refine r_aload_n C rfl dX0_grow_13 ?_
      refine r_getR C 0 4 rfl rfl (by decide) rfl uw_X0 fl_X0_32 dX0_grow_14 ?_
      refine r_getI (jz := 1) C 2 1 rfl rfl (by decide) rfl uw_X2 fl_X0_73 rfl dX0_grow_17 ?_
      refine r_icmp_ge (tgt := 43) C (by decide) (by omega) (by omega) dX0_grow_20 (fun c20 => ?_) (fun c20 => ?_)
      · omega
      · refine r_aload_n C rfl dX0_grow_23 ?_
        refine r_iload_n C rfl dX0_grow_24 ?_
        refine r_iload_n C rfl dX0_grow_25 ?_
        refine r_iload_n C rfl dX0_grow_26 ?_
        refine r_callV (As := [_, _, _]) C (c_X0_note _ _ _ (e2 ▸ hI) (by omega) hy hh) ok_X0_note ln_X0_74 rfl rfl rfl rfl (Nat.le_of_ble_eq_true rfl) (Nat.le_of_ble_eq_true rfl) (Nat.le_of_ble_eq_true rfl) dX0_grow_27 (fun v27 τ27 hq27 => ?_)
        obtain ⟨rfl, hF2, f1, f2⟩ := hq27
        rw [e2] at f1
        refine r_aload_n C rfl dX0_grow_30 ?_
        refine r_getR C 0 7 rfl rfl (by decide) rfl uw_X0 fl_X0_25 dX0_grow_31 ?_
        refine r_iload_n C rfl dX0_grow_34 ?_
        refine r_iload_n C rfl dX0_grow_35 ?_
        refine r_iastore C rfl (by decide) (by omega) dX0_grow_36 ?_
        refine r_iinc (ls' := [_, _, _, _]) C rfl (by decide) rfl rfl dX0_grow_37 ?_
        refine r_goto (tgt := 12) C (by decide) dX0_grow_40 ?_
        refine ih (t + 1) _ (by omega) ((Fr_vX (hF2.tr (Fr.u (k := 21) (by decide)) (ks := [3, 13, 15, 16, 17, 18, 20, 21]) (by decide) (fun _ q => q)) (by decide)).trans e2) (fun u u1 s s1 s2 => ?_) (fun l l1 l2 => ?_) ?_ ?_
        · rw [pw_u_k (by decide)]
          by_cases z : u = t
          · subst z; exact f1 s s1 s2
          · rw [f2 _ (by omega)]; exact hF u (by omega) s s1 s2
        · by_cases z : l = t
          · subst z; rw [pw_u_s]
          · rw [pw_u_j z, hF2 21 (by decide)]; exact hg l l1 (by omega)
        · rw [pw_u_k (by decide), hF2 4 (by decide)]; exact h41
        · rw [pw_u_k (by decide), hF2 4 (by decide)]; exact h42
  refine r_aload_n C rfl dX0_grow_0 ?_
  refine r_iconst C dX0_grow_1 ?_
  refine r_putI (jz := 1) C 0 1 tyX0 tyX0_ok nmX0 rfl rfl (by decide) rfl uw_X0 fl_X0_15 rfl rfl rfl dX0_grow_2 ?_
  refine r_aload_n C rfl dX0_grow_5 ?_
  refine r_iconst C dX0_grow_6 ?_
  refine r_putI (jz := 2) C 0 2 tyX0 tyX0_ok nmX0 rfl rfl (by decide) rfl uw_X0 fl_X0_19 rfl rfl rfl dX0_grow_7 ?_
  refine r_iconst C dX0_grow_10 ?_
  refine r_istore_n (ls' := [_, _, _, _]) C (by decide) rfl rfl dX0_grow_11 ?_
  refine loop (σ 2 1).toNat 0 _ (by omega) (Fr_vX ((Fr.u (ks := [4]) (by decide)).tr (Fr.u (by decide)) (fun _ q => q) (fun _ q => q)) (by decide)) (fun t t1 => by omega) (fun l l1 l2 => by omega) ?_ (pw_u_s _ _ _ _)
  rw [pw_u_j (by decide), pw_u_s]
set_option maxRecDepth 100000 in
theorem c_X5_tree (l : Launch) (G : pw_G) (σ : pw_H) {y h : Int} (hI : Inv (vX σ)) (q_y : InI y) (q_h : InI h) : Ct l shX G mX5_tree [.ref (G.2.1 0), vI y, vI h] σ (pX (s_tree (vX σ) y h)) := by
  have h0 : 0 ≤ σ 1 4 ∧ σ 1 4 ≤ 8 := hI.1
  have h5 : 0 ≤ σ 1 5 ∧ σ 1 5 ≤ 6 := hI.2.1
  have h1 : 0 ≤ σ 2 1 ∧ σ 2 1 ≤ 6 := hI.2.2.1
  refine Ct_of (ls := [some (.ref (G.2.1 0)), some (vI y), some (vI h)]) (by decide +kernel) (Nat.le_of_ble_eq_true rfl) rfl (fun X C => ?_)
  refine r_iload_n C rfl dX5_tree_0 ?_
  refine r_iload_n C rfl dX5_tree_1 ?_
  refine r_callS (As := [_, _]) C (c_X5_isMoment _ _ _ (by omega) (by omega)) ok_X5_isMoment ln_X5_118 rfl rfl (Nat.le_of_ble_eq_true rfl) (Nat.le_of_ble_eq_true rfl) (Nat.le_of_ble_eq_true rfl) dX5_tree_2 (fun v2 τ2 hq2 => ?_)
  obtain ⟨rfl, rfl⟩ := hq2
  refine r_ifB_ne (tgt := 11) C (by decide) dX5_tree_5 (fun c5 => ?_) (fun c5 => ?_)
  · have h11 := bMom_t c5
    refine r_aload_n C rfl dX5_tree_11 ?_
    refine r_getR C 4 3 rfl rfl (by decide) rfl uw_X5 fl_X5_37 dX5_tree_12 ?_
    refine r_iload_n C rfl dX5_tree_15 ?_
    refine r_iload_n C rfl dX5_tree_16 ?_
    refine r_callV (As := [_, _]) C (c_X0_grow _ _ _ hI h11.1 h11.2) ok_X0_grow ln_X5_174 rfl rfl rfl rfl (Nat.le_of_ble_eq_true rfl) (Nat.le_of_ble_eq_true rfl) (Nat.le_of_ble_eq_true rfl) dX5_tree_17 (fun v17 τ17 hq17 => ?_)
    obtain ⟨rfl, e2, -, e3, -⟩ := hq17
    refine r_aload_n C rfl dX5_tree_20 ?_
    refine r_getR C 4 3 rfl rfl (by decide) rfl uw_X5 fl_X5_37 dX5_tree_21 ?_
    refine r_getI (jz := 2) C 0 2 rfl rfl (by decide) rfl uw_X0 fl_X5_178 rfl dX5_tree_24 ?_
    refine r_ireturn C rfl ?_ dX5_tree_27
    exact pX_of (a := vX σ) (by rw [e3]; simp only [s_tree, c5]; rfl) e2
  · refine r_bipush C (by decide +kernel) dX5_tree_8 ?_
    refine r_ireturn C rfl ?_ dX5_tree_10
    exact pX_of (by simp [s_tree, *]) rfl
set_option maxRecDepth 100000 in
theorem c_X5_row (l : Launch) (G : pw_G) (σ : pw_H) {i y h : Int} (hI : Inv (vX σ)) (q_i : InI i) (q_y : InI y) (q_h : InI h) : Ct l shX G mX5_row [.ref (G.2.1 0), vI i, vI y, vI h] σ (pX (s_row (vX σ) i y h)) := by
  have h0 : 0 ≤ σ 1 4 ∧ σ 1 4 ≤ 8 := hI.1
  have h5 : 0 ≤ σ 1 5 ∧ σ 1 5 ≤ 6 := hI.2.1
  have h1 : 0 ≤ σ 2 1 ∧ σ 2 1 ≤ 6 := hI.2.2.1
  refine Ct_of (ls := [some (.ref (G.2.1 0)), some (vI i), some (vI y), some (vI h)]) (by decide +kernel) (Nat.le_of_ble_eq_true rfl) rfl (fun X C => ?_)
  refine r_iload_n C rfl dX5_row_0 ?_
  refine r_iload_n C rfl dX5_row_1 ?_
  refine r_callS (As := [_, _]) C (c_X5_isMoment _ _ _ (by omega) (by omega)) ok_X5_isMoment ln_X5_118 rfl rfl (Nat.le_of_ble_eq_true rfl) (Nat.le_of_ble_eq_true rfl) (Nat.le_of_ble_eq_true rfl) dX5_row_2 (fun v2 τ2 hq2 => ?_)
  obtain ⟨rfl, rfl⟩ := hq2
  refine r_ifB_ne (tgt := 11) C (by decide) dX5_row_5 (fun c5 => ?_) (fun c5 => ?_)
  · have h11 := bMom_t c5
    refine r_aload_n C rfl dX5_row_11 ?_
    refine r_getR C 4 3 rfl rfl (by decide) rfl uw_X5 fl_X5_37 dX5_row_12 ?_
    refine r_iload_n C rfl dX5_row_15 ?_
    refine r_iload_n C rfl dX5_row_16 ?_
    refine r_callV (As := [_, _]) C (c_X0_grow _ _ _ hI h11.1 h11.2) ok_X0_grow ln_X5_174 rfl rfl rfl rfl (Nat.le_of_ble_eq_true rfl) (Nat.le_of_ble_eq_true rfl) (Nat.le_of_ble_eq_true rfl) dX5_row_17 (fun v17 τ17 hq17 => ?_)
    obtain ⟨rfl, e2, e3, -, e4⟩ := hq17
    have e5 : (((σ 2 1).toNat - 1 : Nat) : Int) - 1 = (if σ 2 1 = 0 then -1 else σ 2 1 - 2) := by split <;> omega
    refine r_iload_n C rfl dX5_row_20 ?_
    refine r_iconst C dX5_row_21 ?_
    refine r_aload_n C rfl dX5_row_22 ?_
    refine r_getR C 4 3 rfl rfl (by decide) rfl uw_X5 fl_X5_37 dX5_row_23 ?_
    refine r_getI (jz := 1) C 0 1 rfl rfl (by decide) rfl uw_X0 fl_X5_181 rfl dX5_row_26 ?_
    refine r_iconst C dX5_row_29 ?_
    refine r_isub C dX5_row_30 ?_
    rw [e3]
    refine r_callS (As := [_, _, _]) C (c_X5_isWithin _ _ _ (by omega) (by omega) (by omega)) ok_X5_isWithin ln_X5_49 rfl rfl (Nat.le_of_ble_eq_true rfl) (Nat.le_of_ble_eq_true rfl) (Nat.le_of_ble_eq_true rfl) dX5_row_31 (fun v31 τ31 hq31 => ?_)
    obtain ⟨rfl, rfl⟩ := hq31
    refine r_ifB_eq (tgt := 49) C (by decide) dX5_row_34 (fun c34 => ?_) (fun c34 => ?_)
    · have h12 := bIn_niff.mp c34
      refine r_bipush C (by decide +kernel) dX5_row_49 ?_
      refine r_ireturn C rfl ?_ dX5_row_51
      first | (refine pX_of (a := vX σ) ?_ e2; rw [e6, s_row, if_neg (by simp [c5]), if_pos (bIn_t (by omega) (show i ≤ vX σ 0 2 - 2 from (by omega : i ≤ σ 2 1 - 2)))]; rfl) | (refine pX_of (a := vX σ) ?_ e2; rw [s_row, if_neg (by simp [c5]), if_neg (by rw [bIn_f (show i < 0 ∨ vX σ 0 2 - 2 < i from (by omega : i < 0 ∨ σ 2 1 - 2 < i))]; decide)])
    · have h12 := bIn_iff.mp c34
      have e6 := e4 i.toNat (by omega)
      rw [show (i.toNat : Int) = i by omega] at e6
      refine r_aload_n C rfl dX5_row_37 ?_
      refine r_getR C 4 3 rfl rfl (by decide) rfl uw_X5 fl_X5_37 dX5_row_38 ?_
      refine r_getR C 0 0 rfl rfl (by decide) rfl uw_X0 fl_X5_184 dX5_row_41 ?_
      refine r_iload_n C rfl dX5_row_44 ?_
      refine r_iaload C rfl (by decide) (by omega) dX5_row_45 ?_
      refine r_goto (tgt := 51) C (by decide) dX5_row_46 ?_
      refine r_ireturn C rfl ?_ dX5_row_51
      first | (refine pX_of (a := vX σ) ?_ e2; rw [e6, s_row, if_neg (by simp [c5]), if_pos (bIn_t (by omega) (show i ≤ vX σ 0 2 - 2 from (by omega : i ≤ σ 2 1 - 2)))]; rfl) | (refine pX_of (a := vX σ) ?_ e2; rw [s_row, if_neg (by simp [c5]), if_neg (by rw [bIn_f (show i < 0 ∨ vX σ 0 2 - 2 < i from (by omega : i < 0 ∨ σ 2 1 - 2 < i))]; decide)])
  · refine r_bipush C (by decide +kernel) dX5_row_8 ?_
    refine r_ireturn C rfl ?_ dX5_row_10
    exact pX_of (by simp [s_row, *]) rfl
end
section
set_option maxRecDepth 100000 in
theorem c_X6_in (l : Launch) (G : pw_G) (σ : pw_H) {n a b : Int} (h1 : InI n) (h2 : InI a) (h3 : InI b) : Ct l shM G mX6_in [vI n, vI a, vI b] σ (pb (bIn n a b) σ) := by
  refine Ct_of (ls := [some (vI n), some (vI a), some (vI b)]) (by decide +kernel) (Nat.le_of_ble_eq_true rfl) rfl (fun X C => ?_)
  refine r_iload_n C rfl dX6_in_0 ?_
  refine r_iload_n C rfl dX6_in_1 ?_
  refine r_icmp_lt (tgt := 14) C (by decide) (by omega) (by omega) dX6_in_2 (fun c2 => ?_) (fun c2 => ?_)
  · refine r_iconst C dX6_in_14 ?_
    refine r_zreturn C rfl (by first | exact Or.inl rfl | exact Or.inr rfl) ?_ dX6_in_15
    refine pv_of ?_ rfl
    first | exact (zB_t (bIn_t (by omega) (by omega))).symm | exact (zB_f (bIn_f (by omega))).symm
  · refine r_iload_n C rfl dX6_in_5 ?_
    refine r_iload_n C rfl dX6_in_6 ?_
    refine r_icmp_gt (tgt := 14) C (by decide) (by omega) (by omega) dX6_in_7 (fun c7 => ?_) (fun c7 => ?_)
    · refine r_iconst C dX6_in_14 ?_
      refine r_zreturn C rfl (by first | exact Or.inl rfl | exact Or.inr rfl) ?_ dX6_in_15
      refine pv_of ?_ rfl
      first | exact (zB_t (bIn_t (by omega) (by omega))).symm | exact (zB_f (bIn_f (by omega))).symm
    · refine r_iconst C dX6_in_10 ?_
      refine r_goto (tgt := 15) C (by decide) dX6_in_11 ?_
      refine r_zreturn C rfl (by first | exact Or.inl rfl | exact Or.inr rfl) ?_ dX6_in_15
      refine pv_of ?_ rfl
      first | exact (zB_t (bIn_t (by omega) (by omega))).symm | exact (zB_f (bIn_f (by omega))).symm
set_option maxRecDepth 100000 in
theorem c_X6_size (l : Launch) (G : pw_G) (σ : pw_H) {n : Int} (h1 : InI n) : Ct l shM G mX6_size [vI n] σ (pv (zabs n) σ) := by
  refine Ct_of (ls := [some (vI n)]) (by decide +kernel) (Nat.le_of_ble_eq_true rfl) rfl (fun X C => ?_)
  refine r_iload_n C rfl dX6_size_0 ?_
  refine r_if_ge (tgt := 9) C (by decide) (by omega) dX6_size_1 (fun c1 => ?_) (fun c1 => ?_)
  · refine r_iload_n C rfl dX6_size_9 ?_
    refine r_ireturn C rfl ?_ dX6_size_10
    refine pv_of ?_ rfl
    unfold zabs; split <;> omega
  · refine r_iload_n C rfl dX6_size_4 ?_
    refine r_ineg C dX6_size_5 ?_
    refine r_goto (tgt := 10) C (by decide) dX6_size_6 ?_
    refine r_ireturn C rfl ?_ dX6_size_10
    refine pv_of ?_ rfl
    unfold zabs; split <;> omega
theorem n_rnd (x : Int) : (x.tmod 21600 + 21600).tmod 21600 = x % 21600 := by
  have h1 := n_tm (x := x) (y := 21600) (by decide)
  have h2 := n_tm (x := x.tmod 21600 + 21600) (y := 21600) (by decide)
  split at h1 <;> split at h2 <;> omega
set_option maxRecDepth 100000 in
theorem c_X6_round (l : Launch) (G : pw_G) (σ : pw_H) {x : Int} (h1 : -1000000 ≤ x ∧ x ≤ 1000000) : Ct l shM G mX6_round [vI x] σ (pv (x % 21600) σ) := by
  have h2 := n_tm (x := x) (y := 21600) (by decide)
  refine Ct_of (ls := [some (vI x)]) (by decide +kernel) (Nat.le_of_ble_eq_true rfl) rfl (fun X C => ?_)
  refine r_iload_n C rfl dX6_round_0 ?_
  refine r_sipush C (by decide +kernel) dX6_round_1 ?_
  refine r_irem C (by omega) (by omega) (by omega) dX6_round_4 ?_
  refine r_sipush C (by decide +kernel) dX6_round_5 ?_
  refine r_iadd C dX6_round_8 ?_
  refine r_sipush C (by decide +kernel) dX6_round_9 ?_
  refine r_irem C (by split at h2 <;> omega) (by omega) (by omega) dX6_round_12 ?_
  refine r_ireturn C rfl ?_ dX6_round_13
  exact pv_of (n_rnd x) rfl
set_option maxRecDepth 100000 in
theorem c_X6_by (l : Launch) (G : pw_G) (σ : pw_H) {v n : Int} (h1 : -1000000 ≤ v ∧ v ≤ 1000000) (hn : 0 < n ∧ n ≤ 1000) : Ct l shM G mX6_by [vI v, vI n] σ (pv (v / n) σ) := by
  have h2 := n_tm (x := v) hn.1
  have k3 := Int.emod_nonneg v (show n ≠ 0 by omega)
  have k4 := Int.emod_lt_of_pos v hn.1
  have h3 : (v.tmod n + n).tmod n = v % n := by
    rw [Int.tmod_eq_emod_of_nonneg (by split at h2 <;> omega), Int.add_emod_right]
    split at h2
    · rw [h2, Int.emod_emod_of_dvd _ (Int.dvd_refl n)]
    · rw [h2, Int.sub_emod_right, Int.emod_emod_of_dvd _ (Int.dvd_refl n)]
  have h4 : (v - v % n).tdiv n = v / n := by
    have e : v - v % n = n * (v / n) := by have := Int.mul_ediv_add_emod v n; omega
    rw [e, Int.mul_tdiv_cancel_left _ (by omega)]
  refine Ct_of (ls := [some (vI v), some (vI n), none]) (by decide +kernel) (Nat.le_of_ble_eq_true rfl) rfl (fun X C => ?_)
  refine r_iload_n C rfl dX6_by_0 ?_
  refine r_iload_n C rfl dX6_by_1 ?_
  refine r_irem C (by omega) (by omega) (by omega) dX6_by_2 ?_
  refine r_iload_n C rfl dX6_by_3 ?_
  refine r_iadd C dX6_by_4 ?_
  refine r_iload_n C rfl dX6_by_5 ?_
  refine r_irem C (by split at h2 <;> omega) (by omega) (by omega) dX6_by_6 ?_
  rw [h3]
  refine r_istore_n (ls' := [_, _, _]) C (by decide) rfl rfl dX6_by_7 ?_
  refine r_iload_n C rfl dX6_by_8 ?_
  refine r_iload_n C rfl dX6_by_9 ?_
  refine r_isub C dX6_by_10 ?_
  refine r_iload_n C rfl dX6_by_11 ?_
  refine r_idiv C (by omega) (by omega) (by omega) dX6_by_12 ?_
  refine r_ireturn C rfl ?_ dX6_by_13
  exact pv_of h4 rfl
set_option maxRecDepth 100000 in
theorem c_X6_isLong (l : Launch) (G : pw_G) (σ : pw_H) {n : Int} (h1 : InI n) : Ct l shM G mX6_isLong [vI n] σ (pb (bIn n 0 21599) σ) := by
  refine Ct_of (ls := [some (vI n)]) (by decide +kernel) (Nat.le_of_ble_eq_true rfl) rfl (fun X C => ?_)
  refine r_iload_n C rfl dX6_isLong_0 ?_
  refine r_iconst C dX6_isLong_1 ?_
  refine r_sipush C (by decide +kernel) dX6_isLong_2 ?_
  refine r_callS (As := [_, _, _]) C (c_X6_in _ _ _ (by omega) (by omega) (by omega)) ok_X6_in ln_X6_59 rfl rfl (Nat.le_of_ble_eq_true rfl) (Nat.le_of_ble_eq_true rfl) (Nat.le_of_ble_eq_true rfl) dX6_isLong_5 (fun v5 τ5 hq5 => ?_)
  obtain ⟨rfl, rfl⟩ := hq5
  refine r_breturn C rfl ?_ dX6_isLong_8
  exact ⟨rfl, rfl⟩
set_option maxRecDepth 100000 in
theorem c_X6_isWide (l : Launch) (G : pw_G) (σ : pw_H) {n : Int} (h1 : InI n) : Ct l shM G mX6_isWide [vI n] σ (pb (bIn n (-5400) 5400) σ) := by
  refine Ct_of (ls := [some (vI n)]) (by decide +kernel) (Nat.le_of_ble_eq_true rfl) rfl (fun X C => ?_)
  refine r_iload_n C rfl dX6_isWide_0 ?_
  refine r_sipush C (by decide +kernel) dX6_isWide_1 ?_
  refine r_sipush C (by decide +kernel) dX6_isWide_4 ?_
  refine r_callS (As := [_, _, _]) C (c_X6_in _ _ _ (by omega) (by omega) (by omega)) ok_X6_in ln_X6_59 rfl rfl (Nat.le_of_ble_eq_true rfl) (Nat.le_of_ble_eq_true rfl) (Nat.le_of_ble_eq_true rfl) dX6_isWide_7 (fun v7 τ7 hq7 => ?_)
  obtain ⟨rfl, rfl⟩ := hq7
  refine r_breturn C rfl ?_ dX6_isWide_10
  exact ⟨rfl, rfl⟩
set_option maxRecDepth 100000 in
theorem c_X6_isYear (l : Launch) (G : pw_G) (σ : pw_H) {n : Int} (h1 : InI n) : Ct l shM G mX6_isYear [vI n] σ (pb (bIn n (-3000) 3000) σ) := by
  refine Ct_of (ls := [some (vI n)]) (by decide +kernel) (Nat.le_of_ble_eq_true rfl) rfl (fun X C => ?_)
  refine r_iload_n C rfl dX6_isYear_0 ?_
  refine r_sipush C (by decide +kernel) dX6_isYear_1 ?_
  refine r_sipush C (by decide +kernel) dX6_isYear_4 ?_
  refine r_callS (As := [_, _, _]) C (c_X6_in _ _ _ (by omega) (by omega) (by omega)) ok_X6_in ln_X6_59 rfl rfl (Nat.le_of_ble_eq_true rfl) (Nat.le_of_ble_eq_true rfl) (Nat.le_of_ble_eq_true rfl) dX6_isYear_7 (fun v7 τ7 hq7 => ?_)
  obtain ⟨rfl, rfl⟩ := hq7
  refine r_breturn C rfl ?_ dX6_isYear_10
  exact ⟨rfl, rfl⟩
set_option maxRecDepth 100000 in
theorem c_X6_isShift (l : Launch) (G : pw_G) (σ : pw_H) {n : Int} (h1 : InI n) : Ct l shM G mX6_isShift [vI n] σ (pb (bIn n (-600) 600) σ) := by
  refine Ct_of (ls := [some (vI n)]) (by decide +kernel) (Nat.le_of_ble_eq_true rfl) rfl (fun X C => ?_)
  refine r_iload_n C rfl dX6_isShift_0 ?_
  refine r_sipush C (by decide +kernel) dX6_isShift_1 ?_
  refine r_sipush C (by decide +kernel) dX6_isShift_4 ?_
  refine r_callS (As := [_, _, _]) C (c_X6_in _ _ _ (by omega) (by omega) (by omega)) ok_X6_in ln_X6_59 rfl rfl (Nat.le_of_ble_eq_true rfl) (Nat.le_of_ble_eq_true rfl) (Nat.le_of_ble_eq_true rfl) dX6_isShift_7 (fun v7 τ7 hq7 => ?_)
  obtain ⟨rfl, rfl⟩ := hq7
  refine r_breturn C rfl ?_ dX6_isShift_10
  exact ⟨rfl, rfl⟩
set_option maxRecDepth 100000 in
theorem c_X6_wayOf (l : Launch) (G : pw_G) (σ : pw_H) {x y : Int} (h1 : -100000 ≤ x ∧ x ≤ 100000) (h2 : -100000 ≤ y ∧ y ≤ 100000) : Ct l shM G mX6_wayOf [vI x, vI y] σ (pv (sWay x y) σ) := by
  refine Ct_of (ls := [some (vI x), some (vI y)]) (by decide +kernel) (Nat.le_of_ble_eq_true rfl) rfl (fun X C => ?_)
  refine r_iload_n C rfl dX6_wayOf_0 ?_
  refine r_iload_n C rfl dX6_wayOf_1 ?_
  refine r_isub C dX6_wayOf_2 ?_
  refine r_sipush C (by decide +kernel) dX6_wayOf_3 ?_
  refine r_iadd C dX6_wayOf_6 ?_
  refine r_callS (As := [_]) C (c_X6_round _ _ _ (by omega)) ok_X6_round ln_X6_83 rfl rfl (Nat.le_of_ble_eq_true rfl) (Nat.le_of_ble_eq_true rfl) (Nat.le_of_ble_eq_true rfl) dX6_wayOf_7 (fun v7 τ7 hq7 => ?_)
  obtain ⟨rfl, rfl⟩ := hq7
  refine r_sipush C (by decide +kernel) dX6_wayOf_10 ?_
  refine r_isub C dX6_wayOf_13 ?_
  refine r_ireturn C rfl ?_ dX6_wayOf_14
  exact ⟨rfl, rfl⟩
set_option maxRecDepth 100000 in
theorem c_X6_isStar (l : Launch) (G : pw_G) (σ : pw_H) {s : Int} (h1 : InI s) (hI : Inv (vM σ)) : Ct l shM G mX6_isStar [.ref (G.2.1 0), vI s] σ (pb (bStar (vM σ) s) σ) := by
  have h8 : 0 ≤ σ 0 0 ∧ σ 0 0 ≤ 8 := hI.1
  refine Ct_of (ls := [some (.ref (G.2.1 0)), some (vI s)]) (by decide +kernel) (Nat.le_of_ble_eq_true rfl) rfl (fun X C => ?_)
  refine r_iload_n C rfl dX6_isStar_0 ?_
  refine r_iconst C dX6_isStar_1 ?_
  refine r_aload_n C rfl dX6_isStar_2 ?_
  refine r_getI (jz := 0) C 5 0 rfl rfl (by decide) rfl uw_X6 fl_X6_63 rfl dX6_isStar_3 ?_
  refine r_iconst C dX6_isStar_6 ?_
  refine r_isub C dX6_isStar_7 ?_
  refine r_callS (As := [_, _, _]) C (c_X6_in _ _ _ (by omega) (by omega) (by omega)) ok_X6_in ln_X6_59 rfl rfl (Nat.le_of_ble_eq_true rfl) (Nat.le_of_ble_eq_true rfl) (Nat.le_of_ble_eq_true rfl) dX6_isStar_8 (fun v8 τ8 hq8 => ?_)
  obtain ⟨rfl, rfl⟩ := hq8
  refine r_breturn C rfl ?_ dX6_isStar_11
  exact ⟨rfl, rfl⟩
set_option maxRecDepth 100000 in
theorem c_X6_isList (l : Launch) (G : pw_G) (σ : pw_H) {s : Int} (h1 : InI s) (hI : Inv (vM σ)) : Ct l shM G mX6_isList [.ref (G.2.1 0), vI s] σ (pb (bList (vM σ) s) σ) := by
  have h8 : 0 ≤ σ 0 6 ∧ σ 0 6 ≤ 6 := hI.2.2.1
  refine Ct_of (ls := [some (.ref (G.2.1 0)), some (vI s)]) (by decide +kernel) (Nat.le_of_ble_eq_true rfl) rfl (fun X C => ?_)
  refine r_iload_n C rfl dX6_isList_0 ?_
  refine r_iconst C dX6_isList_1 ?_
  refine r_aload_n C rfl dX6_isList_2 ?_
  refine r_getI (jz := 6) C 5 6 rfl rfl (by decide) rfl uw_X6 fl_X6_66 rfl dX6_isList_3 ?_
  refine r_iconst C dX6_isList_6 ?_
  refine r_isub C dX6_isList_7 ?_
  refine r_callS (As := [_, _, _]) C (c_X6_in _ _ _ (by omega) (by omega) (by omega)) ok_X6_in ln_X6_59 rfl rfl (Nat.le_of_ble_eq_true rfl) (Nat.le_of_ble_eq_true rfl) (Nat.le_of_ble_eq_true rfl) dX6_isList_8 (fun v8 τ8 hq8 => ?_)
  obtain ⟨rfl, rfl⟩ := hq8
  refine r_breturn C rfl ?_ dX6_isList_11
  exact ⟨rfl, rfl⟩
set_option maxRecDepth 100000 in
theorem c_X6_isLine (l : Launch) (G : pw_G) (σ : pw_H) {s i : Int} (h1 : InI s) (h2 : InI i) (hI : Inv (vM σ)) : Ct l shM G mX6_isLine [.ref (G.2.1 0), vI s, vI i] σ (pb (bLine (vM σ) s i) σ) := by
  have h8 : 0 ≤ σ 0 6 ∧ σ 0 6 ≤ 6 := hI.2.2.1
  have h9 : 0 ≤ σ 5 s ∧ σ 5 s ≤ 8 := hI.2.2.2.2.2.2.2.1 s
  refine Ct_of (ls := [some (.ref (G.2.1 0)), some (vI s), some (vI i)]) (by decide +kernel) (Nat.le_of_ble_eq_true rfl) rfl (fun X C => ?_)
  refine r_aload_n C rfl dX6_isLine_0 ?_
  refine r_iload_n C rfl dX6_isLine_1 ?_
  refine r_callV (As := [_]) C (c_X6_isList _ _ _ (by omega) hI) ok_X6_isList ln_X6_69 rfl rfl rfl rfl (Nat.le_of_ble_eq_true rfl) (Nat.le_of_ble_eq_true rfl) (Nat.le_of_ble_eq_true rfl) dX6_isLine_2 (fun v2 τ2 hq2 => ?_)
  obtain ⟨rfl, rfl⟩ := hq2
  refine r_ifB_eq (tgt := 28) C (by decide) dX6_isLine_5 (fun c5 => ?_) (fun c5 => ?_)
  · refine r_iconst C dX6_isLine_28 ?_
    refine r_zreturn C rfl (by first | exact Or.inl rfl | exact Or.inr rfl) ?_ dX6_isLine_29
    refine pv_of ?_ rfl
    first | exact (zB_t (bLine_1 c5 c21)).symm | exact (zB_f (bLine_1 c5 c21)).symm | exact (zB_f (bLine_0 c5)).symm
  · have h10 : 0 ≤ s ∧ s ≤ σ 0 6 - 1 := bList_t c5
    refine r_iload_n C rfl dX6_isLine_8 ?_
    refine r_iconst C dX6_isLine_9 ?_
    refine r_aload_n C rfl dX6_isLine_10 ?_
    refine r_getR C 5 7 rfl rfl (by decide) rfl uw_X6 fl_X6_26 dX6_isLine_11 ?_
    refine r_iload_n C rfl dX6_isLine_14 ?_
    refine r_iaload C rfl (by decide) (by omega) dX6_isLine_15 ?_
    refine r_iconst C dX6_isLine_16 ?_
    refine r_isub C dX6_isLine_17 ?_
    refine r_callS (As := [_, _, _]) C (c_X6_in _ _ _ (by omega) (by omega) (by omega)) ok_X6_in ln_X6_59 rfl rfl (Nat.le_of_ble_eq_true rfl) (Nat.le_of_ble_eq_true rfl) (Nat.le_of_ble_eq_true rfl) dX6_isLine_18 (fun v18 τ18 hq18 => ?_)
    obtain ⟨rfl, rfl⟩ := hq18
    refine r_ifB_eq (tgt := 28) C (by decide) dX6_isLine_21 (fun c21 => ?_) (fun c21 => ?_)
    · refine r_iconst C dX6_isLine_28 ?_
      refine r_zreturn C rfl (by first | exact Or.inl rfl | exact Or.inr rfl) ?_ dX6_isLine_29
      refine pv_of ?_ rfl
      first | exact (zB_t (bLine_1 c5 c21)).symm | exact (zB_f (bLine_1 c5 c21)).symm | exact (zB_f (bLine_0 c5)).symm
    · refine r_iconst C dX6_isLine_24 ?_
      refine r_goto (tgt := 29) C (by decide) dX6_isLine_25 ?_
      refine r_zreturn C rfl (by first | exact Or.inl rfl | exact Or.inr rfl) ?_ dX6_isLine_29
      refine pv_of ?_ rfl
      first | exact (zB_t (bLine_1 c5 c21)).symm | exact (zB_f (bLine_1 c5 c21)).symm | exact (zB_f (bLine_0 c5)).symm
set_option maxRecDepth 100000 in
theorem c_X6_skyOf (l : Launch) (G : pw_G) (σ : pw_H) {s y : Int} (hI : Inv (vM σ)) (hs : 0 ≤ s ∧ s < 8) (hy : -3000 ≤ y ∧ y ≤ 3000) : Ct l shM G mX6_skyOf [.ref (G.2.1 0), vI s, vI y] σ (pv (sSky (vM σ) s y) σ) := by
  have h1 : 0 ≤ σ 1 s ∧ σ 1 s ≤ 21599 := hI.2.2.2.1 s
  have h3 : -50 ≤ σ 3 s ∧ σ 3 s ≤ 50 := hI.2.2.2.2.2.1 s
  have h4 := n_mul h3.1 h3.2 hy.1 hy.2
  refine Ct_of (ls := [some (.ref (G.2.1 0)), some (vI s), some (vI y)]) (by decide +kernel) (Nat.le_of_ble_eq_true rfl) rfl (fun X C => ?_)
  refine r_aload_n C rfl dX6_skyOf_0 ?_
  refine r_getR C 5 1 rfl rfl (by decide) rfl uw_X6 fl_X6_7 dX6_skyOf_1 ?_
  refine r_iload_n C rfl dX6_skyOf_4 ?_
  refine r_iaload C rfl (by decide) (by omega) dX6_skyOf_5 ?_
  refine r_iconst C dX6_skyOf_6 ?_
  refine r_iload_n C rfl dX6_skyOf_7 ?_
  refine r_imul C dX6_skyOf_8 ?_
  refine r_bipush C (by decide +kernel) dX6_skyOf_9 ?_
  refine r_callS (As := [_, _]) C (c_X6_by _ _ _ (by omega) (by omega)) ok_X6_by ln_X6_79 rfl rfl (Nat.le_of_ble_eq_true rfl) (Nat.le_of_ble_eq_true rfl) (Nat.le_of_ble_eq_true rfl) dX6_skyOf_11 (fun v11 τ11 hq11 => ?_)
  obtain ⟨rfl, rfl⟩ := hq11
  refine r_iadd C dX6_skyOf_14 ?_
  refine r_aload_n C rfl dX6_skyOf_15 ?_
  refine r_getR C 5 3 rfl rfl (by decide) rfl uw_X6 fl_X6_16 dX6_skyOf_16 ?_
  refine r_iload_n C rfl dX6_skyOf_19 ?_
  refine r_iaload C rfl (by decide) (by omega) dX6_skyOf_20 ?_
  refine r_iload_n C rfl dX6_skyOf_21 ?_
  refine r_imul C dX6_skyOf_22 ?_
  refine r_bipush C (by decide +kernel) dX6_skyOf_23 ?_
  refine r_callS (As := [_, _]) C (c_X6_by _ _ _ (by omega) (by omega)) ok_X6_by ln_X6_79 rfl rfl (Nat.le_of_ble_eq_true rfl) (Nat.le_of_ble_eq_true rfl) (Nat.le_of_ble_eq_true rfl) dX6_skyOf_25 (fun v25 τ25 hq25 => ?_)
  obtain ⟨rfl, rfl⟩ := hq25
  refine r_iadd C dX6_skyOf_28 ?_
  refine r_callS (As := [_]) C (c_X6_round _ _ _ (by omega)) ok_X6_round ln_X6_83 rfl rfl (Nat.le_of_ble_eq_true rfl) (Nat.le_of_ble_eq_true rfl) (Nat.le_of_ble_eq_true rfl) dX6_skyOf_29 (fun v29 τ29 hq29 => ?_)
  obtain ⟨rfl, rfl⟩ := hq29
  refine r_ireturn C rfl ?_ dX6_skyOf_32
  exact ⟨rfl, rfl⟩
theorem pM_of {S : sR} {v : Int} {τ a : pw_H} (h : S = (v, a)) (h2 : vM τ = a) : pM S (some (vI v)) τ := by rw [h]; exact ⟨rfl, h2⟩
theorem vM_star (σ : pw_H) (n x w m b z : Int) : vM (pw_u (pw_u (pw_u (pw_u (pw_u σ 1 n x) 2 n w) 3 n m) 4 n b) 0 0 z) = pw_u (pw_u (pw_u (pw_u (pw_u (vM σ) 1 n x) 2 n w) 3 n m) 4 n b) 0 0 z := by
  funext k j
  match k with
  | 0 => by_cases h : j = 0 <;> by_cases h2 : j = 1 <;> by_cases h3 : j = 2 <;> simp [vM, pw_u, h, h2, h3]
  | 1 => simp [vM, pw_u]
  | 2 => simp [vM, pw_u]
  | 3 => simp [vM, pw_u]
  | 4 => simp [vM, pw_u]
  | 5 => simp [vM, pw_u]
  | 6 => simp [vM, pw_u]
  | 7 => simp [vM, pw_u]
  | k + 8 => simp [vM, pw_u]
theorem vM_limit (σ : pw_H) (z : Int) : vM (pw_u σ 0 5 z) = pw_u (vM σ) 0 1 z := by
  funext k j
  match k with
  | 0 => by_cases h : j = 0 <;> by_cases h2 : j = 1 <;> by_cases h3 : j = 2 <;> simp [vM, pw_u, h, h2, h3]
  | 1 => simp [vM, pw_u]
  | 2 => simp [vM, pw_u]
  | 3 => simp [vM, pw_u]
  | 4 => simp [vM, pw_u]
  | 5 => simp [vM, pw_u]
  | 6 => simp [vM, pw_u]
  | 7 => simp [vM, pw_u]
  | k + 8 => simp [vM, pw_u]
theorem vM_list0 (σ : pw_H) (z : Int) : vM (pw_u σ 0 6 z) = pw_u (vM σ) 0 2 z := by
  funext k j
  match k with
  | 0 => by_cases h : j = 0 <;> by_cases h2 : j = 1 <;> by_cases h3 : j = 2 <;> simp [vM, pw_u, h, h2, h3]
  | 1 => simp [vM, pw_u]
  | 2 => simp [vM, pw_u]
  | 3 => simp [vM, pw_u]
  | 4 => simp [vM, pw_u]
  | 5 => simp [vM, pw_u]
  | 6 => simp [vM, pw_u]
  | 7 => simp [vM, pw_u]
  | k + 8 => simp [vM, pw_u]
theorem pw_u_id {σ : pw_H} {k : Nat} {j v : Int} (h : σ k j = v) : pw_u σ k j v = σ := by
  funext k' j'
  unfold pw_u
  split
  · rename_i q; rw [q.1, q.2, h]
  · rfl
theorem vM_line (σ : pw_H) (t i x w z : Int) : vM (pw_u (pw_u (pw_u σ 6 i x) 7 i w) 5 t z) = pw_u (pw_u (pw_u (vM σ) 5 t z) 6 i x) 7 i w := by
  funext k j
  match k with
  | 0 => by_cases h : j = 0 <;> by_cases h2 : j = 1 <;> by_cases h3 : j = 2 <;> simp [vM, pw_u, h, h2, h3]
  | 1 => simp [vM, pw_u]
  | 2 => simp [vM, pw_u]
  | 3 => simp [vM, pw_u]
  | 4 => simp [vM, pw_u]
  | 5 => simp [vM, pw_u]
  | 6 => simp [vM, pw_u]
  | 7 => simp [vM, pw_u]
  | k + 8 => simp [vM, pw_u]
theorem vM_mend (σ : pw_H) (i x w : Int) : vM (pw_u (pw_u σ 6 i x) 7 i w) = pw_u (pw_u (vM σ) 6 i x) 7 i w := by
  funext k j
  match k with
  | 0 => by_cases h : j = 0 <;> by_cases h2 : j = 1 <;> by_cases h3 : j = 2 <;> simp [vM, pw_u, h, h2, h3]
  | 1 => simp [vM, pw_u]
  | 2 => simp [vM, pw_u]
  | 3 => simp [vM, pw_u]
  | 4 => simp [vM, pw_u]
  | 5 => simp [vM, pw_u]
  | 6 => simp [vM, pw_u]
  | 7 => simp [vM, pw_u]
  | k + 8 => simp [vM, pw_u]
set_option maxRecDepth 100000 in
theorem c_X6_star (l : Launch) (G : pw_G) (σ : pw_H) {x w m b : Int} (hI : Inv (vM σ)) (q_x : InI x) (q_w : InI w) (q_m : InI m) (q_b : InI b) : Ct l shM G mX6_star [.ref (G.2.1 0), vI x, vI w, vI m, vI b] σ (pM (s_star (vM σ) x w m b)) := by
  have h0 : 0 ≤ σ 0 0 ∧ σ 0 0 ≤ 8 := hI.1
  have h5 : 0 ≤ σ 0 5 ∧ σ 0 5 ≤ 6 := hI.2.1
  have h1 : 0 ≤ σ 0 6 ∧ σ 0 6 ≤ 6 := hI.2.2.1
  refine Ct_of (ls := [some (.ref (G.2.1 0)), some (vI x), some (vI w), some (vI m), some (vI b)]) (by decide +kernel) (Nat.le_of_ble_eq_true rfl) rfl (fun X C => ?_)
  refine r_iload_n C rfl dX6_star_0 ?_
  refine r_callS (As := [_]) C (c_X6_isLong _ _ _ (by omega)) ok_X6_isLong ln_X6_73 rfl rfl (Nat.le_of_ble_eq_true rfl) (Nat.le_of_ble_eq_true rfl) (Nat.le_of_ble_eq_true rfl) dX6_star_1 (fun v1 τ1 hq1 => ?_)
  obtain ⟨rfl, rfl⟩ := hq1
  refine r_ifB_eq (tgt := 36) C (by decide) dX6_star_4 (fun c4 => ?_) (fun c4 => ?_)
  · refine r_bipush C (by decide +kernel) dX6_star_36 ?_
    refine r_ireturn C rfl ?_ dX6_star_38
    exact pM_of (by simp [s_star, bPlace, *]) rfl
  · refine r_iload_n C rfl dX6_star_7 ?_
    refine r_callS (As := [_]) C (c_X6_isWide _ _ _ (by omega)) ok_X6_isWide ln_X6_76 rfl rfl (Nat.le_of_ble_eq_true rfl) (Nat.le_of_ble_eq_true rfl) (Nat.le_of_ble_eq_true rfl) dX6_star_8 (fun v8 τ8 hq8 => ?_)
    obtain ⟨rfl, rfl⟩ := hq8
    refine r_ifB_eq (tgt := 36) C (by decide) dX6_star_11 (fun c11 => ?_) (fun c11 => ?_)
    · refine r_bipush C (by decide +kernel) dX6_star_36 ?_
      refine r_ireturn C rfl ?_ dX6_star_38
      exact pM_of (by simp [s_star, bPlace, *]) rfl
    · refine r_iload_n C rfl dX6_star_14 ?_
      refine r_bipush C (by decide +kernel) dX6_star_15 ?_
      refine r_bipush C (by decide +kernel) dX6_star_17 ?_
      refine r_callS (As := [_, _, _]) C (c_X6_in _ _ _ (by omega) (by omega) (by omega)) ok_X6_in ln_X6_59 rfl rfl (Nat.le_of_ble_eq_true rfl) (Nat.le_of_ble_eq_true rfl) (Nat.le_of_ble_eq_true rfl) dX6_star_19 (fun v19 τ19 hq19 => ?_)
      obtain ⟨rfl, rfl⟩ := hq19
      refine r_ifB_eq (tgt := 36) C (by decide) dX6_star_22 (fun c22 => ?_) (fun c22 => ?_)
      · refine r_bipush C (by decide +kernel) dX6_star_36 ?_
        refine r_ireturn C rfl ?_ dX6_star_38
        exact pM_of (by simp [s_star, bPlace, *]) rfl
      · refine r_iload C rfl dX6_star_25 ?_
        refine r_iconst C dX6_star_27 ?_
        refine r_bipush C (by decide +kernel) dX6_star_28 ?_
        refine r_callS (As := [_, _, _]) C (c_X6_in _ _ _ (by omega) (by omega) (by omega)) ok_X6_in ln_X6_59 rfl rfl (Nat.le_of_ble_eq_true rfl) (Nat.le_of_ble_eq_true rfl) (Nat.le_of_ble_eq_true rfl) dX6_star_30 (fun v30 τ30 hq30 => ?_)
        obtain ⟨rfl, rfl⟩ := hq30
        refine r_ifB_ne (tgt := 39) C (by decide) dX6_star_33 (fun c33 => ?_) (fun c33 => ?_)
        · refine r_aload_n C rfl dX6_star_39 ?_
          refine r_getI (jz := 0) C 5 0 rfl rfl (by decide) rfl uw_X6 fl_X6_63 rfl dX6_star_40 ?_
          refine r_bipush C (by decide +kernel) dX6_star_43 ?_
          refine r_icmp_ne (tgt := 51) C (by decide) (by omega) (by omega) dX6_star_45 (fun c45 => ?_) (fun c45 => ?_)
          · refine r_aload_n C rfl dX6_star_51 ?_
            refine r_getR C 5 1 rfl rfl (by decide) rfl uw_X6 fl_X6_7 dX6_star_52 ?_
            refine r_aload_n C rfl dX6_star_55 ?_
            refine r_getI (jz := 0) C 5 0 rfl rfl (by decide) rfl uw_X6 fl_X6_63 rfl dX6_star_56 ?_
            refine r_iload_n C rfl dX6_star_59 ?_
            refine r_iastore C rfl (by decide) (by omega) dX6_star_60 ?_
            refine r_aload_n C rfl dX6_star_61 ?_
            refine r_getR C 5 2 rfl rfl (by decide) rfl uw_X6 fl_X6_13 dX6_star_62 ?_
            refine r_aload_n C rfl dX6_star_65 ?_
            refine r_getI (jz := 0) C 5 0 rfl rfl (by decide) rfl uw_X6 fl_X6_63 rfl dX6_star_66 ?_
            try simp (disch := decide) only [pw_u_k, pw_u_j, pw_u_s]
            refine r_iload_n C rfl dX6_star_69 ?_
            refine r_iastore C rfl (by decide) (by omega) dX6_star_70 ?_
            refine r_aload_n C rfl dX6_star_71 ?_
            refine r_getR C 5 3 rfl rfl (by decide) rfl uw_X6 fl_X6_16 dX6_star_72 ?_
            refine r_aload_n C rfl dX6_star_75 ?_
            refine r_getI (jz := 0) C 5 0 rfl rfl (by decide) rfl uw_X6 fl_X6_63 rfl dX6_star_76 ?_
            try simp (disch := decide) only [pw_u_k, pw_u_j, pw_u_s]
            refine r_iload_n C rfl dX6_star_79 ?_
            refine r_iastore C rfl (by decide) (by omega) dX6_star_80 ?_
            refine r_aload_n C rfl dX6_star_81 ?_
            refine r_getR C 5 4 rfl rfl (by decide) rfl uw_X6 fl_X6_19 dX6_star_82 ?_
            refine r_aload_n C rfl dX6_star_85 ?_
            refine r_getI (jz := 0) C 5 0 rfl rfl (by decide) rfl uw_X6 fl_X6_63 rfl dX6_star_86 ?_
            try simp (disch := decide) only [pw_u_k, pw_u_j, pw_u_s]
            refine r_iload C rfl dX6_star_89 ?_
            refine r_iastore C rfl (by decide) (by omega) dX6_star_91 ?_
            refine r_aload_n C rfl dX6_star_92 ?_
            refine r_dup C rfl dX6_star_93 ?_
            refine r_getI (jz := 0) C 5 0 rfl rfl (by decide) rfl uw_X6 fl_X6_63 rfl dX6_star_94 ?_
            try simp (disch := decide) only [pw_u_k, pw_u_j, pw_u_s]
            refine r_iconst C dX6_star_97 ?_
            refine r_iadd C dX6_star_98 ?_
            refine r_putI (jz := 0) C 5 0 tyX6 tyX6_ok nmX6 rfl rfl (by decide) rfl uw_X6 fl_X6_63 rfl rfl rfl dX6_star_99 ?_
            refine r_aload_n C rfl dX6_star_102 ?_
            refine r_getI (jz := 0) C 5 0 rfl rfl (by decide) rfl uw_X6 fl_X6_63 rfl dX6_star_103 ?_
            try simp (disch := decide) only [pw_u_k, pw_u_j, pw_u_s]
            refine r_iconst C dX6_star_106 ?_
            refine r_isub C dX6_star_107 ?_
            refine r_ireturn C rfl ?_ dX6_star_108
            exact pM_of (a := pw_u (pw_u (pw_u (pw_u (pw_u (vM σ) 1 (σ 0 0) x) 2 (σ 0 0) w) 3 (σ 0 0) m) 4 (σ 0 0) b) 0 0 (σ 0 0 + 1)) (by rw [s_star, if_neg (by simp [bPlace, *]), if_neg (show ¬ vM σ 0 0 = 8 from (show ¬ σ 0 0 = 8 by omega)), show σ 0 0 + 1 - 1 = σ 0 0 by omega]; rfl) (vM_star σ _ _ _ _ _ _)
          · refine r_bipush C (by decide +kernel) dX6_star_48 ?_
            refine r_ireturn C rfl ?_ dX6_star_50
            exact pM_of (by rw [s_star, if_neg (by simp [bPlace, *]), if_pos (show vM σ 0 0 = 8 from (show σ 0 0 = 8 by omega))]) rfl
        · refine r_bipush C (by decide +kernel) dX6_star_36 ?_
          refine r_ireturn C rfl ?_ dX6_star_38
          exact pM_of (by simp [s_star, bPlace, *]) rfl
set_option maxRecDepth 100000 in
theorem c_X6_sky (l : Launch) (G : pw_G) (σ : pw_H) {s y : Int} (hI : Inv (vM σ)) (q_s : InI s) (q_y : InI y) : Ct l shM G mX6_sky [.ref (G.2.1 0), vI s, vI y] σ (pM (s_sky (vM σ) s y)) := by
  have h0 : 0 ≤ σ 0 0 ∧ σ 0 0 ≤ 8 := hI.1
  have h5 : 0 ≤ σ 0 5 ∧ σ 0 5 ≤ 6 := hI.2.1
  have h1 : 0 ≤ σ 0 6 ∧ σ 0 6 ≤ 6 := hI.2.2.1
  refine Ct_of (ls := [some (.ref (G.2.1 0)), some (vI s), some (vI y)]) (by decide +kernel) (Nat.le_of_ble_eq_true rfl) rfl (fun X C => ?_)
  refine r_aload_n C rfl dX6_sky_0 ?_
  refine r_iload_n C rfl dX6_sky_1 ?_
  refine r_callV (As := [_]) C (c_X6_isStar _ _ _ (by omega) hI) ok_X6_isStar ln_X6_87 rfl rfl rfl rfl (Nat.le_of_ble_eq_true rfl) (Nat.le_of_ble_eq_true rfl) (Nat.le_of_ble_eq_true rfl) dX6_sky_2 (fun v2 τ2 hq2 => ?_)
  obtain ⟨rfl, rfl⟩ := hq2
  refine r_ifB_ne (tgt := 10) C (by decide) dX6_sky_5 (fun c5 => ?_) (fun c5 => ?_)
  · have h8 : 0 ≤ s ∧ s ≤ σ 0 0 - 1 := bStar_t c5
    refine r_iload_n C rfl dX6_sky_10 ?_
    refine r_callS (As := [_]) C (c_X6_isYear _ _ _ (by omega)) ok_X6_isYear ln_X6_90 rfl rfl (Nat.le_of_ble_eq_true rfl) (Nat.le_of_ble_eq_true rfl) (Nat.le_of_ble_eq_true rfl) dX6_sky_11 (fun v11 τ11 hq11 => ?_)
    obtain ⟨rfl, rfl⟩ := hq11
    refine r_ifB_eq (tgt := 26) C (by decide) dX6_sky_14 (fun c14 => ?_) (fun c14 => ?_)
    · refine r_bipush C (by decide +kernel) dX6_sky_26 ?_
      refine r_ireturn C rfl ?_ dX6_sky_28
      exact pM_of (by simp [s_sky, *]) rfl
    · have h9 := bIn_iff.mp c14
      refine r_aload_n C rfl dX6_sky_17 ?_
      refine r_iload_n C rfl dX6_sky_18 ?_
      refine r_iload_n C rfl dX6_sky_19 ?_
      refine r_callV (As := [_, _]) C (c_X6_skyOf _ _ _ hI (by omega) (by omega)) ok_X6_skyOf ln_X6_93 rfl rfl rfl rfl (Nat.le_of_ble_eq_true rfl) (Nat.le_of_ble_eq_true rfl) (Nat.le_of_ble_eq_true rfl) dX6_sky_20 (fun v20 τ20 hq20 => ?_)
      obtain ⟨rfl, rfl⟩ := hq20
      refine r_goto (tgt := 28) C (by decide) dX6_sky_23 ?_
      refine r_ireturn C rfl ?_ dX6_sky_28
      exact pM_of (by simp [s_sky, *]) rfl
  · refine r_iconst C dX6_sky_8 ?_
    refine r_ireturn C rfl ?_ dX6_sky_9
    exact pM_of (by simp [s_sky, *]) rfl
set_option maxRecDepth 100000 in
theorem c_X6_about (l : Launch) (G : pw_G) (σ : pw_H) {s w : Int} (hI : Inv (vM σ)) (q_s : InI s) (q_w : InI w) : Ct l shM G mX6_about [.ref (G.2.1 0), vI s, vI w] σ (pM (s_about (vM σ) s w)) := by
  have h0 : 0 ≤ σ 0 0 ∧ σ 0 0 ≤ 8 := hI.1
  have h5 : 0 ≤ σ 0 5 ∧ σ 0 5 ≤ 6 := hI.2.1
  have h1 : 0 ≤ σ 0 6 ∧ σ 0 6 ≤ 6 := hI.2.2.1
  refine Ct_of (ls := [some (.ref (G.2.1 0)), some (vI s), some (vI w)]) (by decide +kernel) (Nat.le_of_ble_eq_true rfl) rfl (fun X C => ?_)
  refine r_aload_n C rfl dX6_about_0 ?_
  refine r_iload_n C rfl dX6_about_1 ?_
  refine r_callV (As := [_]) C (c_X6_isStar _ _ _ (by omega) hI) ok_X6_isStar ln_X6_87 rfl rfl rfl rfl (Nat.le_of_ble_eq_true rfl) (Nat.le_of_ble_eq_true rfl) (Nat.le_of_ble_eq_true rfl) dX6_about_2 (fun v2 τ2 hq2 => ?_)
  obtain ⟨rfl, rfl⟩ := hq2
  refine r_ifB_ne (tgt := 10) C (by decide) dX6_about_5 (fun c5 => ?_) (fun c5 => ?_)
  · have h8 : 0 ≤ s ∧ s ≤ σ 0 0 - 1 := bStar_t c5
    refine r_iload_n C rfl dX6_about_10 ?_
    by_cases w11 : w < 0 ∨ 3 < w
    · refine r_tableOut (tgt := 72) C (by omega) w11 (by decide) dX6_about_11 ?_
      refine r_bipush C (by decide +kernel) dX6_about_72 ?_
      refine r_ireturn C rfl ?_ dX6_about_74
      exact pM_of (by rw [s_about, if_neg (by simp [c5]), if_neg (by omega), if_neg (by omega), if_neg (by omega), if_neg (by omega)]) rfl
    · rcases (show w = 0 ∨ w = 1 ∨ w = 2 ∨ w = 3 by omega) with e11 | e11 | e11 | e11
      · refine r_tableIn (off := 29) (tgt := 40) C (by omega) (by omega) (by omega) (by rw [e11]; rfl) (by decide) dX6_about_11 ?_
        refine r_aload_n C rfl dX6_about_40 ?_
        refine r_getR C 5 1 rfl rfl (by decide) rfl uw_X6 fl_X6_7 dX6_about_41 ?_
        refine r_iload_n C rfl dX6_about_44 ?_
        refine r_iaload C rfl (by decide) (by omega) dX6_about_45 ?_
        refine r_ireturn C rfl ?_ dX6_about_46
        exact pM_of (by simp [s_about, *]; rfl) rfl
      · refine r_tableIn (off := 36) (tgt := 47) C (by omega) (by omega) (by omega) (by rw [e11]; rfl) (by decide) dX6_about_11 ?_
        refine r_aload_n C rfl dX6_about_47 ?_
        refine r_getR C 5 3 rfl rfl (by decide) rfl uw_X6 fl_X6_16 dX6_about_48 ?_
        refine r_iload_n C rfl dX6_about_51 ?_
        refine r_iaload C rfl (by decide) (by omega) dX6_about_52 ?_
        refine r_ireturn C rfl ?_ dX6_about_53
        exact pM_of (by simp [s_about, *]; rfl) rfl
      · refine r_tableIn (off := 43) (tgt := 54) C (by omega) (by omega) (by omega) (by rw [e11]; rfl) (by decide) dX6_about_11 ?_
        refine r_aload_n C rfl dX6_about_54 ?_
        refine r_getR C 5 4 rfl rfl (by decide) rfl uw_X6 fl_X6_19 dX6_about_55 ?_
        refine r_iload_n C rfl dX6_about_58 ?_
        refine r_iaload C rfl (by decide) (by omega) dX6_about_59 ?_
        refine r_ireturn C rfl ?_ dX6_about_60
        exact pM_of (by simp [s_about, *]; rfl) rfl
      · refine r_tableIn (off := 50) (tgt := 61) C (by omega) (by omega) (by omega) (by rw [e11]; rfl) (by decide) dX6_about_11 ?_
        refine r_aload_n C rfl dX6_about_61 ?_
        refine r_getR C 5 2 rfl rfl (by decide) rfl uw_X6 fl_X6_13 dX6_about_62 ?_
        refine r_iload_n C rfl dX6_about_65 ?_
        refine r_iaload C rfl (by decide) (by omega) dX6_about_66 ?_
        refine r_sipush C (by decide +kernel) dX6_about_67 ?_
        refine r_iadd C dX6_about_70 ?_
        refine r_ireturn C rfl ?_ dX6_about_71
        exact pM_of (by simp [s_about, *]; rfl) rfl
  · refine r_iconst C dX6_about_8 ?_
    refine r_ireturn C rfl ?_ dX6_about_9
    exact pM_of (by simp [s_about, *]) rfl
set_option maxRecDepth 100000 in
theorem c_X6_limit (l : Launch) (G : pw_G) (σ : pw_H) {n : Int} (hI : Inv (vM σ)) (q_n : InI n) : Ct l shM G mX6_limit [.ref (G.2.1 0), vI n] σ (pM (s_limit (vM σ) n)) := by
  have h0 : 0 ≤ σ 0 0 ∧ σ 0 0 ≤ 8 := hI.1
  have h5 : 0 ≤ σ 0 5 ∧ σ 0 5 ≤ 6 := hI.2.1
  have h1 : 0 ≤ σ 0 6 ∧ σ 0 6 ≤ 6 := hI.2.2.1
  refine Ct_of (ls := [some (.ref (G.2.1 0)), some (vI n), none]) (by decide +kernel) (Nat.le_of_ble_eq_true rfl) rfl (fun X C => ?_)
  refine r_iload_n C rfl dX6_limit_0 ?_
  refine r_iconst C dX6_limit_1 ?_
  refine r_bipush C (by decide +kernel) dX6_limit_2 ?_
  refine r_callS (As := [_, _, _]) C (c_X6_in _ _ _ (by omega) (by omega) (by omega)) ok_X6_in ln_X6_59 rfl rfl (Nat.le_of_ble_eq_true rfl) (Nat.le_of_ble_eq_true rfl) (Nat.le_of_ble_eq_true rfl) dX6_limit_4 (fun v4 τ4 hq4 => ?_)
  obtain ⟨rfl, rfl⟩ := hq4
  refine r_ifB_ne (tgt := 13) C (by decide) dX6_limit_7 (fun c7 => ?_) (fun c7 => ?_)
  · refine r_aload_n C rfl dX6_limit_13 ?_
    refine r_getI (jz := 5) C 5 5 rfl rfl (by decide) rfl uw_X6 fl_X6_22 rfl dX6_limit_14 ?_
    refine r_istore_n (ls' := [_, _, _]) C (by decide) rfl rfl dX6_limit_17 ?_
    refine r_aload_n C rfl dX6_limit_18 ?_
    refine r_iload_n C rfl dX6_limit_19 ?_
    refine r_putI (jz := 5) C 5 5 tyX6 tyX6_ok nmX6 rfl rfl (by decide) rfl uw_X6 fl_X6_22 rfl rfl rfl dX6_limit_20 ?_
    refine r_iload_n C rfl dX6_limit_23 ?_
    refine r_ireturn C rfl ?_ dX6_limit_24
    exact pM_of (by simp [s_limit, *]; rfl) (vM_limit σ _)
  · refine r_bipush C (by decide +kernel) dX6_limit_10 ?_
    refine r_ireturn C rfl ?_ dX6_limit_12
    exact pM_of (by simp [s_limit, *]) rfl
set_option maxRecDepth 100000 in
theorem c_X6_way (l : Launch) (G : pw_G) (σ : pw_H) {f t : Int} (hI : Inv (vM σ)) (q_f : InI f) (q_t : InI t) : Ct l shM G mX6_way [.ref (G.2.1 0), vI f, vI t] σ (pM (s_way (vM σ) f t)) := by
  have h0 : 0 ≤ σ 0 0 ∧ σ 0 0 ≤ 8 := hI.1
  have h5 : 0 ≤ σ 0 5 ∧ σ 0 5 ≤ 6 := hI.2.1
  have h1 : 0 ≤ σ 0 6 ∧ σ 0 6 ≤ 6 := hI.2.2.1
  refine Ct_of (ls := [some (.ref (G.2.1 0)), some (vI f), some (vI t)]) (by decide +kernel) (Nat.le_of_ble_eq_true rfl) rfl (fun X C => ?_)
  refine r_iload_n C rfl dX6_way_0 ?_
  refine r_callS (As := [_]) C (c_X6_isLong _ _ _ (by omega)) ok_X6_isLong ln_X6_73 rfl rfl (Nat.le_of_ble_eq_true rfl) (Nat.le_of_ble_eq_true rfl) (Nat.le_of_ble_eq_true rfl) dX6_way_1 (fun v1 τ1 hq1 => ?_)
  obtain ⟨rfl, rfl⟩ := hq1
  refine r_ifB_eq (tgt := 26) C (by decide) dX6_way_4 (fun c4 => ?_) (fun c4 => ?_)
  · refine r_bipush C (by decide +kernel) dX6_way_26 ?_
    refine r_ireturn C rfl ?_ dX6_way_28
    exact pM_of (by simp [s_way, *]) rfl
  · refine r_iload_n C rfl dX6_way_7 ?_
    refine r_callS (As := [_]) C (c_X6_isLong _ _ _ (by omega)) ok_X6_isLong ln_X6_73 rfl rfl (Nat.le_of_ble_eq_true rfl) (Nat.le_of_ble_eq_true rfl) (Nat.le_of_ble_eq_true rfl) dX6_way_8 (fun v8 τ8 hq8 => ?_)
    obtain ⟨rfl, rfl⟩ := hq8
    refine r_ifB_eq (tgt := 26) C (by decide) dX6_way_11 (fun c11 => ?_) (fun c11 => ?_)
    · refine r_bipush C (by decide +kernel) dX6_way_26 ?_
      refine r_ireturn C rfl ?_ dX6_way_28
      exact pM_of (by simp [s_way, *]) rfl
    · refine r_iload_n C rfl dX6_way_14 ?_
      refine r_iload_n C rfl dX6_way_15 ?_
      refine r_callS (As := [_, _]) C (c_X6_wayOf _ _ _ (by have := bIn_iff.mp ‹bIn f 0 21599 = true›; omega) (by have := bIn_iff.mp ‹bIn t 0 21599 = true›; omega)) ok_X6_wayOf ln_X6_96 rfl rfl (Nat.le_of_ble_eq_true rfl) (Nat.le_of_ble_eq_true rfl) (Nat.le_of_ble_eq_true rfl) dX6_way_16 (fun v16 τ16 hq16 => ?_)
      obtain ⟨rfl, rfl⟩ := hq16
      refine r_sipush C (by decide +kernel) dX6_way_19 ?_
      refine r_iadd C dX6_way_22 ?_
      refine r_goto (tgt := 28) C (by decide) dX6_way_23 ?_
      refine r_ireturn C rfl ?_ dX6_way_28
      exact pM_of (by simp [s_way, *]) rfl
set_option maxRecDepth 100000 in
theorem c_X6_list (l : Launch) (G : pw_G) (σ : pw_H) (hI : Inv (vM σ))  : Ct l shM G mX6_list [.ref (G.2.1 0)] σ (pM (s_list (vM σ) )) := by
  have h0 : 0 ≤ σ 0 0 ∧ σ 0 0 ≤ 8 := hI.1
  have h5 : 0 ≤ σ 0 5 ∧ σ 0 5 ≤ 6 := hI.2.1
  have h1 : 0 ≤ σ 0 6 ∧ σ 0 6 ≤ 6 := hI.2.2.1
  refine Ct_of (ls := [some (.ref (G.2.1 0))]) (by decide +kernel) (Nat.le_of_ble_eq_true rfl) rfl (fun X C => ?_)
  refine r_aload_n C rfl dX6_list_0 ?_
  refine r_getI (jz := 6) C 5 6 rfl rfl (by decide) rfl uw_X6 fl_X6_66 rfl dX6_list_1 ?_
  refine r_bipush C (by decide +kernel) dX6_list_4 ?_
  refine r_icmp_ne (tgt := 12) C (by decide) (by omega) (by omega) dX6_list_6 (fun c6 => ?_) (fun c6 => ?_)
  · refine r_aload_n C rfl dX6_list_12 ?_
    refine r_getR C 5 7 rfl rfl (by decide) rfl uw_X6 fl_X6_26 dX6_list_13 ?_
    refine r_aload_n C rfl dX6_list_16 ?_
    refine r_getI (jz := 6) C 5 6 rfl rfl (by decide) rfl uw_X6 fl_X6_66 rfl dX6_list_17 ?_
    refine r_iconst C dX6_list_20 ?_
    refine r_iastore C rfl (by decide) (by omega) dX6_list_21 ?_
    refine r_aload_n C rfl dX6_list_22 ?_
    refine r_dup C rfl dX6_list_23 ?_
    refine r_getI (jz := 6) C 5 6 rfl rfl (by decide) rfl uw_X6 fl_X6_66 rfl dX6_list_24 ?_
    try simp (disch := decide) only [pw_u_k, pw_u_j, pw_u_s]
    refine r_iconst C dX6_list_27 ?_
    refine r_iadd C dX6_list_28 ?_
    refine r_putI (jz := 6) C 5 6 tyX6 tyX6_ok nmX6 rfl rfl (by decide) rfl uw_X6 fl_X6_66 rfl rfl rfl dX6_list_29 ?_
    refine r_aload_n C rfl dX6_list_32 ?_
    refine r_getI (jz := 6) C 5 6 rfl rfl (by decide) rfl uw_X6 fl_X6_66 rfl dX6_list_33 ?_
    try simp (disch := decide) only [pw_u_k, pw_u_j, pw_u_s]
    refine r_iconst C dX6_list_36 ?_
    refine r_isub C dX6_list_37 ?_
    refine r_ireturn C rfl ?_ dX6_list_38
    have h9 : σ 5 (σ 0 6) = 0 := hI.2.2.2.2.2.2.2.2.1 (σ 0 6) (Int.le_refl _)
    refine pM_of (a := pw_u (vM σ) 0 2 (σ 0 6 + 1)) (by rw [s_list, if_neg (show ¬ vM σ 0 2 = 6 from (show ¬ σ 0 6 = 6 by omega)), show σ 0 6 + 1 - 1 = σ 0 6 by omega]; rfl) ?_
    rw [pw_u_id h9]
    exact vM_list0 σ _
  · refine r_bipush C (by decide +kernel) dX6_list_9 ?_
    refine r_ireturn C rfl ?_ dX6_list_11
    exact pM_of (by rw [s_list, if_pos (show vM σ 0 2 = 6 from (show σ 0 6 = 6 by omega))]) rfl
set_option maxRecDepth 100000 in
theorem c_X6_line (l : Launch) (G : pw_G) (σ : pw_H) {t x w : Int} (hI : Inv (vM σ)) (q_t : InI t) (q_x : InI x) (q_w : InI w) : Ct l shM G mX6_line [.ref (G.2.1 0), vI t, vI x, vI w] σ (pM (s_line (vM σ) t x w)) := by
  have h0 : 0 ≤ σ 0 0 ∧ σ 0 0 ≤ 8 := hI.1
  have h5 : 0 ≤ σ 0 5 ∧ σ 0 5 ≤ 6 := hI.2.1
  have h1 : 0 ≤ σ 0 6 ∧ σ 0 6 ≤ 6 := hI.2.2.1
  refine Ct_of (ls := [some (.ref (G.2.1 0)), some (vI t), some (vI x), some (vI w)]) (by decide +kernel) (Nat.le_of_ble_eq_true rfl) rfl (fun X C => ?_)
  refine r_aload_n C rfl dX6_line_0 ?_
  refine r_iload_n C rfl dX6_line_1 ?_
  refine r_callV (As := [_]) C (c_X6_isList _ _ _ (by omega) hI) ok_X6_isList ln_X6_69 rfl rfl rfl rfl (Nat.le_of_ble_eq_true rfl) (Nat.le_of_ble_eq_true rfl) (Nat.le_of_ble_eq_true rfl) dX6_line_2 (fun v2 τ2 hq2 => ?_)
  obtain ⟨rfl, rfl⟩ := hq2
  refine r_ifB_ne (tgt := 10) C (by decide) dX6_line_5 (fun c5 => ?_) (fun c5 => ?_)
  · have h8 : 0 ≤ t ∧ t ≤ σ 0 6 - 1 := bList_t c5
    have h9 : 0 ≤ σ 5 t ∧ σ 5 t ≤ 8 := hI.2.2.2.2.2.2.2.1 t
    refine r_iload_n C rfl dX6_line_10 ?_
    refine r_callS (As := [_]) C (c_X6_isLong _ _ _ (by omega)) ok_X6_isLong ln_X6_73 rfl rfl (Nat.le_of_ble_eq_true rfl) (Nat.le_of_ble_eq_true rfl) (Nat.le_of_ble_eq_true rfl) dX6_line_11 (fun v11 τ11 hq11 => ?_)
    obtain ⟨rfl, rfl⟩ := hq11
    refine r_ifB_eq (tgt := 24) C (by decide) dX6_line_14 (fun c14 => ?_) (fun c14 => ?_)
    · refine r_bipush C (by decide +kernel) dX6_line_24 ?_
      refine r_ireturn C rfl ?_ dX6_line_26
      exact pM_of (by simp [s_line, bPlace, *]) rfl
    · refine r_iload_n C rfl dX6_line_17 ?_
      refine r_callS (As := [_]) C (c_X6_isWide _ _ _ (by omega)) ok_X6_isWide ln_X6_76 rfl rfl (Nat.le_of_ble_eq_true rfl) (Nat.le_of_ble_eq_true rfl) (Nat.le_of_ble_eq_true rfl) dX6_line_18 (fun v18 τ18 hq18 => ?_)
      obtain ⟨rfl, rfl⟩ := hq18
      refine r_ifB_ne (tgt := 27) C (by decide) dX6_line_21 (fun c21 => ?_) (fun c21 => ?_)
      · refine r_aload_n C rfl dX6_line_27 ?_
        refine r_getR C 5 7 rfl rfl (by decide) rfl uw_X6 fl_X6_26 dX6_line_28 ?_
        refine r_iload_n C rfl dX6_line_31 ?_
        refine r_iaload C rfl (by decide) (by omega) dX6_line_32 ?_
        refine r_bipush C (by decide +kernel) dX6_line_33 ?_
        refine r_icmp_ne (tgt := 41) C (by decide) (by omega) (by omega) dX6_line_35 (fun c35 => ?_) (fun c35 => ?_)
        · refine r_aload_n C rfl dX6_line_41 ?_
          refine r_getR C 5 8 rfl rfl (by decide) rfl uw_X6 fl_X6_29 dX6_line_42 ?_
          refine r_bipush C (by decide +kernel) dX6_line_45 ?_
          refine r_iload_n C rfl dX6_line_47 ?_
          refine r_imul C dX6_line_48 ?_
          rw [Int.mul_comm (8 : Int)]
          refine r_aload_n C rfl dX6_line_49 ?_
          refine r_getR C 5 7 rfl rfl (by decide) rfl uw_X6 fl_X6_26 dX6_line_50 ?_
          refine r_iload_n C rfl dX6_line_53 ?_
          refine r_iaload C rfl (by decide) (by omega) dX6_line_54 ?_
          refine r_iadd C dX6_line_55 ?_
          refine r_iload_n C rfl dX6_line_56 ?_
          refine r_iastore C rfl (by decide) (by omega) dX6_line_57 ?_
          refine r_aload_n C rfl dX6_line_58 ?_
          refine r_getR C 5 9 rfl rfl (by decide) rfl uw_X6 fl_X6_32 dX6_line_59 ?_
          refine r_bipush C (by decide +kernel) dX6_line_62 ?_
          refine r_iload_n C rfl dX6_line_64 ?_
          refine r_imul C dX6_line_65 ?_
          rw [Int.mul_comm (8 : Int)]
          refine r_aload_n C rfl dX6_line_66 ?_
          refine r_getR C 5 7 rfl rfl (by decide) rfl uw_X6 fl_X6_26 dX6_line_67 ?_
          refine r_iload_n C rfl dX6_line_70 ?_
          refine r_iaload C rfl (by decide) (by omega) dX6_line_71 ?_
          try simp (disch := decide) only [pw_u_k, pw_u_j, pw_u_s]
          refine r_iadd C dX6_line_72 ?_
          refine r_iload_n C rfl dX6_line_73 ?_
          refine r_iastore C rfl (by decide) (by omega) dX6_line_74 ?_
          refine r_aload_n C rfl dX6_line_75 ?_
          refine r_getR C 5 7 rfl rfl (by decide) rfl uw_X6 fl_X6_26 dX6_line_76 ?_
          refine r_iload_n C rfl dX6_line_79 ?_
          refine r_dup2 C rfl rfl dX6_line_80 ?_
          refine r_iaload C rfl (by decide) (by omega) dX6_line_81 ?_
          try simp (disch := decide) only [pw_u_k, pw_u_j, pw_u_s]
          refine r_iconst C dX6_line_82 ?_
          refine r_iadd C dX6_line_83 ?_
          refine r_iastore C rfl (by decide) (by omega) dX6_line_84 ?_
          refine r_aload_n C rfl dX6_line_85 ?_
          refine r_getR C 5 7 rfl rfl (by decide) rfl uw_X6 fl_X6_26 dX6_line_86 ?_
          refine r_iload_n C rfl dX6_line_89 ?_
          refine r_iaload C rfl (by decide) (by omega) dX6_line_90 ?_
          try simp (disch := decide) only [pw_u_k, pw_u_j, pw_u_s]
          refine r_iconst C dX6_line_91 ?_
          refine r_isub C dX6_line_92 ?_
          refine r_ireturn C rfl ?_ dX6_line_93
          exact pM_of (a := pw_u (pw_u (pw_u (vM σ) 5 t (σ 5 t + 1)) 6 (t * 8 + σ 5 t) x) 7 (t * 8 + σ 5 t) w) (by rw [s_line, if_neg (by simp [c5]), if_neg (by simp [bPlace, *]), if_neg (show ¬ vM σ 5 t = 8 from (show ¬ σ 5 t = 8 by omega)), show σ 5 t + 1 - 1 = σ 5 t by omega]; rfl) (vM_line σ _ _ _ _ _)
        · refine r_bipush C (by decide +kernel) dX6_line_38 ?_
          refine r_ireturn C rfl ?_ dX6_line_40
          exact pM_of (by rw [s_line, if_neg (by simp [c5]), if_neg (by simp [bPlace, *]), if_pos (show vM σ 5 t = 8 from (show σ 5 t = 8 by omega))]) rfl
      · refine r_bipush C (by decide +kernel) dX6_line_24 ?_
        refine r_ireturn C rfl ?_ dX6_line_26
        exact pM_of (by simp [s_line, bPlace, *]) rfl
  · refine r_iconst C dX6_line_8 ?_
    refine r_ireturn C rfl ?_ dX6_line_9
    exact pM_of (by simp [s_line, *]) rfl
set_option maxRecDepth 100000 in
theorem c_X6_written (l : Launch) (G : pw_G) (σ : pw_H) {t i w : Int} (hI : Inv (vM σ)) (q_t : InI t) (q_i : InI i) (q_w : InI w) : Ct l shM G mX6_written [.ref (G.2.1 0), vI t, vI i, vI w] σ (pM (s_written (vM σ) t i w)) := by
  have h0 : 0 ≤ σ 0 0 ∧ σ 0 0 ≤ 8 := hI.1
  have h5 : 0 ≤ σ 0 5 ∧ σ 0 5 ≤ 6 := hI.2.1
  have h1 : 0 ≤ σ 0 6 ∧ σ 0 6 ≤ 6 := hI.2.2.1
  refine Ct_of (ls := [some (.ref (G.2.1 0)), some (vI t), some (vI i), some (vI w)]) (by decide +kernel) (Nat.le_of_ble_eq_true rfl) rfl (fun X C => ?_)
  refine r_aload_n C rfl dX6_written_0 ?_
  refine r_iload_n C rfl dX6_written_1 ?_
  refine r_iload_n C rfl dX6_written_2 ?_
  refine r_callV (As := [_, _]) C (c_X6_isLine _ _ _ (by omega) (by omega) hI) ok_X6_isLine ln_X6_99 rfl rfl rfl rfl (Nat.le_of_ble_eq_true rfl) (Nat.le_of_ble_eq_true rfl) (Nat.le_of_ble_eq_true rfl) dX6_written_3 (fun v3 τ3 hq3 => ?_)
  obtain ⟨rfl, rfl⟩ := hq3
  refine r_ifB_ne (tgt := 11) C (by decide) dX6_written_6 (fun c6 => ?_) (fun c6 => ?_)
  · have h8 : (0 ≤ t ∧ t ≤ σ 0 6 - 1) ∧ 0 ≤ i ∧ i ≤ σ 5 t - 1 := bLine_t c6
    have h9 : 0 ≤ σ 5 t ∧ σ 5 t ≤ 8 := hI.2.2.2.2.2.2.2.1 t
    refine r_iload_n C rfl dX6_written_11 ?_
    refine r_if_ne (tgt := 29) C (by decide) (by omega) dX6_written_12 (fun c12 => ?_) (fun c12 => ?_)
    · refine r_iload_n C rfl dX6_written_29 ?_
      refine r_iconst C dX6_written_30 ?_
      refine r_icmp_ne (tgt := 52) C (by decide) (by omega) (by omega) dX6_written_31 (fun c31 => ?_) (fun c31 => ?_)
      · refine r_bipush C (by decide +kernel) dX6_written_52 ?_
        refine r_ireturn C rfl ?_ dX6_written_54
        first | (refine pM_of (a := vM σ) ?_ rfl; rw [s_written, if_neg (by simp [c6]), if_pos (by omega)]; rfl) | (refine pM_of (a := vM σ) ?_ rfl; rw [s_written, if_neg (by simp [c6]), if_neg (by omega), if_pos (by omega)]; rfl) | (refine pM_of (a := vM σ) ?_ rfl; rw [s_written, if_neg (by simp [c6]), if_neg (by omega), if_neg (by omega)])
      · refine r_aload_n C rfl dX6_written_34 ?_
        refine r_getR C 5 9 rfl rfl (by decide) rfl uw_X6 fl_X6_32 dX6_written_35 ?_
        refine r_bipush C (by decide +kernel) dX6_written_38 ?_
        refine r_iload_n C rfl dX6_written_40 ?_
        refine r_imul C dX6_written_41 ?_
        rw [Int.mul_comm (8 : Int)]
        refine r_iload_n C rfl dX6_written_42 ?_
        refine r_iadd C dX6_written_43 ?_
        refine r_iaload C rfl (by decide) (by omega) dX6_written_44 ?_
        refine r_sipush C (by decide +kernel) dX6_written_45 ?_
        refine r_iadd C dX6_written_48 ?_
        refine r_goto (tgt := 54) C (by decide) dX6_written_49 ?_
        refine r_ireturn C rfl ?_ dX6_written_54
        first | (refine pM_of (a := vM σ) ?_ rfl; rw [s_written, if_neg (by simp [c6]), if_pos (by omega)]; rfl) | (refine pM_of (a := vM σ) ?_ rfl; rw [s_written, if_neg (by simp [c6]), if_neg (by omega), if_pos (by omega)]; rfl) | (refine pM_of (a := vM σ) ?_ rfl; rw [s_written, if_neg (by simp [c6]), if_neg (by omega), if_neg (by omega)])
    · refine r_aload_n C rfl dX6_written_15 ?_
      refine r_getR C 5 8 rfl rfl (by decide) rfl uw_X6 fl_X6_29 dX6_written_16 ?_
      refine r_bipush C (by decide +kernel) dX6_written_19 ?_
      refine r_iload_n C rfl dX6_written_21 ?_
      refine r_imul C dX6_written_22 ?_
      rw [Int.mul_comm (8 : Int)]
      refine r_iload_n C rfl dX6_written_23 ?_
      refine r_iadd C dX6_written_24 ?_
      refine r_iaload C rfl (by decide) (by omega) dX6_written_25 ?_
      refine r_goto (tgt := 54) C (by decide) dX6_written_26 ?_
      refine r_ireturn C rfl ?_ dX6_written_54
      first | (refine pM_of (a := vM σ) ?_ rfl; rw [s_written, if_neg (by simp [c6]), if_pos (by omega)]; rfl) | (refine pM_of (a := vM σ) ?_ rfl; rw [s_written, if_neg (by simp [c6]), if_neg (by omega), if_pos (by omega)]; rfl) | (refine pM_of (a := vM σ) ?_ rfl; rw [s_written, if_neg (by simp [c6]), if_neg (by omega), if_neg (by omega)])
  · refine r_iconst C dX6_written_9 ?_
    refine r_ireturn C rfl ?_ dX6_written_10
    exact pM_of (by simp [s_written, *]) rfl
set_option maxRecDepth 100000 in
theorem c_X6_mend (l : Launch) (G : pw_G) (σ : pw_H) {t i x w : Int} (hI : Inv (vM σ)) (q_t : InI t) (q_i : InI i) (q_x : InI x) (q_w : InI w) : Ct l shM G mX6_mend [.ref (G.2.1 0), vI t, vI i, vI x, vI w] σ (pM (s_mend (vM σ) t i x w)) := by
  have h0 : 0 ≤ σ 0 0 ∧ σ 0 0 ≤ 8 := hI.1
  have h5 : 0 ≤ σ 0 5 ∧ σ 0 5 ≤ 6 := hI.2.1
  have h1 : 0 ≤ σ 0 6 ∧ σ 0 6 ≤ 6 := hI.2.2.1
  refine Ct_of (ls := [some (.ref (G.2.1 0)), some (vI t), some (vI i), some (vI x), some (vI w), none]) (by decide +kernel) (Nat.le_of_ble_eq_true rfl) rfl (fun X C => ?_)
  refine r_aload_n C rfl dX6_mend_0 ?_
  refine r_iload_n C rfl dX6_mend_1 ?_
  refine r_iload_n C rfl dX6_mend_2 ?_
  refine r_callV (As := [_, _]) C (c_X6_isLine _ _ _ (by omega) (by omega) hI) ok_X6_isLine ln_X6_99 rfl rfl rfl rfl (Nat.le_of_ble_eq_true rfl) (Nat.le_of_ble_eq_true rfl) (Nat.le_of_ble_eq_true rfl) dX6_mend_3 (fun v3 τ3 hq3 => ?_)
  obtain ⟨rfl, rfl⟩ := hq3
  refine r_ifB_ne (tgt := 11) C (by decide) dX6_mend_6 (fun c6 => ?_) (fun c6 => ?_)
  · have h8 : (0 ≤ t ∧ t ≤ σ 0 6 - 1) ∧ 0 ≤ i ∧ i ≤ σ 5 t - 1 := bLine_t c6
    have h9 : 0 ≤ σ 5 t ∧ σ 5 t ≤ 8 := hI.2.2.2.2.2.2.2.1 t
    refine r_iload_n C rfl dX6_mend_11 ?_
    refine r_callS (As := [_]) C (c_X6_isLong _ _ _ (by omega)) ok_X6_isLong ln_X6_73 rfl rfl (Nat.le_of_ble_eq_true rfl) (Nat.le_of_ble_eq_true rfl) (Nat.le_of_ble_eq_true rfl) dX6_mend_12 (fun v12 τ12 hq12 => ?_)
    obtain ⟨rfl, rfl⟩ := hq12
    refine r_ifB_eq (tgt := 26) C (by decide) dX6_mend_15 (fun c15 => ?_) (fun c15 => ?_)
    · refine r_bipush C (by decide +kernel) dX6_mend_26 ?_
      refine r_ireturn C rfl ?_ dX6_mend_28
      exact pM_of (by simp [s_mend, bPlace, *]) rfl
    · refine r_iload C rfl dX6_mend_18 ?_
      refine r_callS (As := [_]) C (c_X6_isWide _ _ _ (by omega)) ok_X6_isWide ln_X6_76 rfl rfl (Nat.le_of_ble_eq_true rfl) (Nat.le_of_ble_eq_true rfl) (Nat.le_of_ble_eq_true rfl) dX6_mend_20 (fun v20 τ20 hq20 => ?_)
      obtain ⟨rfl, rfl⟩ := hq20
      refine r_ifB_ne (tgt := 29) C (by decide) dX6_mend_23 (fun c23 => ?_) (fun c23 => ?_)
      · refine r_aload_n C rfl dX6_mend_29 ?_
        refine r_getR C 5 8 rfl rfl (by decide) rfl uw_X6 fl_X6_29 dX6_mend_30 ?_
        refine r_bipush C (by decide +kernel) dX6_mend_33 ?_
        refine r_iload_n C rfl dX6_mend_35 ?_
        refine r_imul C dX6_mend_36 ?_
        rw [Int.mul_comm (8 : Int)]
        refine r_iload_n C rfl dX6_mend_37 ?_
        refine r_iadd C dX6_mend_38 ?_
        refine r_iaload C rfl (by decide) (by omega) dX6_mend_39 ?_
        refine r_istore (ls' := [_, _, _, _, _, _]) C (by decide) rfl rfl dX6_mend_40 ?_
        refine r_aload_n C rfl dX6_mend_42 ?_
        refine r_getR C 5 8 rfl rfl (by decide) rfl uw_X6 fl_X6_29 dX6_mend_43 ?_
        refine r_bipush C (by decide +kernel) dX6_mend_46 ?_
        refine r_iload_n C rfl dX6_mend_48 ?_
        refine r_imul C dX6_mend_49 ?_
        rw [Int.mul_comm (8 : Int)]
        refine r_iload_n C rfl dX6_mend_50 ?_
        refine r_iadd C dX6_mend_51 ?_
        refine r_iload_n C rfl dX6_mend_52 ?_
        refine r_iastore C rfl (by decide) (by omega) dX6_mend_53 ?_
        refine r_aload_n C rfl dX6_mend_54 ?_
        refine r_getR C 5 9 rfl rfl (by decide) rfl uw_X6 fl_X6_32 dX6_mend_55 ?_
        refine r_bipush C (by decide +kernel) dX6_mend_58 ?_
        refine r_iload_n C rfl dX6_mend_60 ?_
        refine r_imul C dX6_mend_61 ?_
        rw [Int.mul_comm (8 : Int)]
        refine r_iload_n C rfl dX6_mend_62 ?_
        refine r_iadd C dX6_mend_63 ?_
        refine r_iload C rfl dX6_mend_64 ?_
        refine r_iastore C rfl (by decide) (by omega) dX6_mend_66 ?_
        refine r_iload C rfl dX6_mend_67 ?_
        refine r_ireturn C rfl ?_ dX6_mend_69
        exact pM_of (by rw [s_mend, if_neg (by simp [c6]), if_neg (by simp [bPlace, *])]; rfl) (vM_mend σ _ _ _)
      · refine r_bipush C (by decide +kernel) dX6_mend_26 ?_
        refine r_ireturn C rfl ?_ dX6_mend_28
        exact pM_of (by simp [s_mend, bPlace, *]) rfl
  · refine r_iconst C dX6_mend_9 ?_
    refine r_ireturn C rfl ?_ dX6_mend_10
    exact pM_of (by simp [s_mend, *]) rfl
set_option maxRecDepth 100000 in
theorem c_X6_round_ (l : Launch) (G : pw_G) (σ : pw_H) {t p : Int} (hI : Inv (vM σ)) (q_t : InI t) (q_p : InI p) : Ct l shM G mX6_round_ [.ref (G.2.1 0), vI t, vI p] σ (pM (s_round (vM σ) t p)) := by
  have h0 : 0 ≤ σ 0 0 ∧ σ 0 0 ≤ 8 := hI.1
  have h5 : 0 ≤ σ 0 5 ∧ σ 0 5 ≤ 6 := hI.2.1
  have h1 : 0 ≤ σ 0 6 ∧ σ 0 6 ≤ 6 := hI.2.2.1
  refine Ct_of (ls := [some (.ref (G.2.1 0)), some (vI t), some (vI p), none, none]) (by decide +kernel) (Nat.le_of_ble_eq_true rfl) rfl (fun X C => ?_)
  have loop : ∀ (n i : Nat), bList (vM σ) t = true → 2 ≤ p → p ≤ 1800 → i + n = (σ 5 t).toNat → bIn p 2 1800 = true → PW X shM G 29 [some (.ref (G.2.1 0)), some (vI t), some (vI p), some (vI (sSum (fun i => zB (decide (vM σ 6 (t * 8 + i) % p = 0))) i)), some (vI i)] [] σ := by
    intro n
    induction n with
    | zero =>
      intro i c8 p1 p2 hi c21
      have h8 : 0 ≤ t ∧ t ≤ σ 0 6 - 1 := bList_t c8
      have h9 : 0 ≤ σ 5 t ∧ σ 5 t ≤ 8 := hI.2.2.2.2.2.2.2.1 t
      refine r_iload C rfl dX6_round__29 ?_
      refine r_aload_n C rfl dX6_round__31 ?_
      refine r_getR C 5 7 rfl rfl (by decide) rfl uw_X6 fl_X6_26 dX6_round__32 ?_
      refine r_iload_n C rfl dX6_round__35 ?_
      refine r_iaload C rfl (by decide) (by omega) dX6_round__36 ?_
      refine r_icmp_ge (tgt := 71) C (by decide) (by omega) (by omega) dX6_round__37 (fun c37 => ?_) (fun c37 => ?_)
      · refine r_iload_n C rfl dX6_round__71 ?_
        refine r_ireturn C rfl ?_ dX6_round__72
        exact pM_of (by simp [s_round, *]; rw [show i = (σ 5 t).toNat by omega]; rfl) rfl
      · omega
    | succ n ih =>
      intro i c8 p1 p2 hi c21
      have h8 : 0 ≤ t ∧ t ≤ σ 0 6 - 1 := bList_t c8
      have h9 : 0 ≤ σ 5 t ∧ σ 5 t ≤ 8 := hI.2.2.2.2.2.2.2.1 t
      have h10 : 0 ≤ σ 6 (t * 8 + i) ∧ σ 6 (t * 8 + i) ≤ 21599 := hI.2.2.2.2.2.2.2.2.2.1 _
      have h11 : (σ 6 (t * 8 + i)).tmod p = σ 6 (t * 8 + i) % p := Int.tmod_eq_emod_of_nonneg h10.1
      have h12 := Int.emod_nonneg (σ 6 (t * 8 + i)) (show p ≠ 0 by omega)
      have h13 := Int.emod_lt_of_pos (σ 6 (t * 8 + i)) (show 0 < p by omega)
      refine r_iload C rfl dX6_round__29 ?_
      refine r_aload_n C rfl dX6_round__31 ?_
      refine r_getR C 5 7 rfl rfl (by decide) rfl uw_X6 fl_X6_26 dX6_round__32 ?_
      refine r_iload_n C rfl dX6_round__35 ?_
      refine r_iaload C rfl (by decide) (by omega) dX6_round__36 ?_
      refine r_icmp_ge (tgt := 71) C (by decide) (by omega) (by omega) dX6_round__37 (fun c37 => ?_) (fun c37 => ?_)
      · omega
      · refine r_iload_n C rfl dX6_round__40 ?_
        refine r_aload_n C rfl dX6_round__41 ?_
        refine r_getR C 5 8 rfl rfl (by decide) rfl uw_X6 fl_X6_29 dX6_round__42 ?_
        refine r_bipush C (by decide +kernel) dX6_round__45 ?_
        refine r_iload_n C rfl dX6_round__47 ?_
        refine r_imul C dX6_round__48 ?_
        rw [Int.mul_comm (8 : Int)]
        refine r_iload C rfl dX6_round__49 ?_
        refine r_iadd C dX6_round__51 ?_
        refine r_iaload C rfl (by decide) (by omega) dX6_round__52 ?_
        refine r_iload_n C rfl dX6_round__53 ?_
        refine r_irem C (by omega) (by omega) (by omega) dX6_round__54 ?_
        refine r_if_ne (tgt := 62) C (by decide) (by omega) dX6_round__55 (fun c55 => ?_) (fun c55 => ?_)
        · refine r_iconst C dX6_round__62 ?_
          refine r_iadd C dX6_round__63 ?_
          refine r_istore_n (ls' := [_, _, _, _, _]) C (by decide) rfl rfl dX6_round__64 ?_
          refine r_iinc (ls' := [_, _, _, _, _]) C rfl (by decide) rfl rfl dX6_round__65 ?_
          refine r_goto (tgt := 29) C (by decide) dX6_round__68 ?_
          refine PW_ls (ih (i + 1) c8 p1 p2 (by omega) c21) ?_
          have e : sSum (fun i => zB (decide (vM σ 6 (t * 8 + i) % p = 0))) (i + 1) = sSum (fun i => zB (decide (vM σ 6 (t * 8 + i) % p = 0))) i + zB (decide (σ 6 (t * 8 + i) % p = 0)) := rfl
          rw [e]
          first | rw [zB_t (by rw [decide_eq_true_eq]; omega)]; rfl | rw [zB_f (by rw [decide_eq_false_iff_not]; omega)]; rfl
        · refine r_iconst C dX6_round__58 ?_
          refine r_goto (tgt := 63) C (by decide) dX6_round__59 ?_
          refine r_iadd C dX6_round__63 ?_
          refine r_istore_n (ls' := [_, _, _, _, _]) C (by decide) rfl rfl dX6_round__64 ?_
          refine r_iinc (ls' := [_, _, _, _, _]) C rfl (by decide) rfl rfl dX6_round__65 ?_
          refine r_goto (tgt := 29) C (by decide) dX6_round__68 ?_
          refine PW_ls (ih (i + 1) c8 p1 p2 (by omega) c21) ?_
          have e : sSum (fun i => zB (decide (vM σ 6 (t * 8 + i) % p = 0))) (i + 1) = sSum (fun i => zB (decide (vM σ 6 (t * 8 + i) % p = 0))) i + zB (decide (σ 6 (t * 8 + i) % p = 0)) := rfl
          rw [e]
          first | rw [zB_t (by rw [decide_eq_true_eq]; omega)]; rfl | rw [zB_f (by rw [decide_eq_false_iff_not]; omega)]; rfl
  refine r_aload_n C rfl dX6_round__0 ?_
  refine r_iload_n C rfl dX6_round__1 ?_
  refine r_callV (As := [_]) C (c_X6_isList _ _ _ (by omega) hI) ok_X6_isList ln_X6_69 rfl rfl rfl rfl (Nat.le_of_ble_eq_true rfl) (Nat.le_of_ble_eq_true rfl) (Nat.le_of_ble_eq_true rfl) dX6_round__2 (fun v2 τ2 hq2 => ?_)
  obtain ⟨rfl, rfl⟩ := hq2
  refine r_ifB_ne (tgt := 10) C (by decide) dX6_round__5 (fun c5 => ?_) (fun c5 => ?_)
  · refine r_iload_n C rfl dX6_round__10 ?_
    refine r_iconst C dX6_round__11 ?_
    refine r_sipush C (by decide +kernel) dX6_round__12 ?_
    refine r_callS (As := [_, _, _]) C (c_X6_in _ _ _ (by omega) (by omega) (by omega)) ok_X6_in ln_X6_59 rfl rfl (Nat.le_of_ble_eq_true rfl) (Nat.le_of_ble_eq_true rfl) (Nat.le_of_ble_eq_true rfl) dX6_round__15 (fun v15 τ15 hq15 => ?_)
    obtain ⟨rfl, rfl⟩ := hq15
    refine r_ifB_ne (tgt := 24) C (by decide) dX6_round__18 (fun c18 => ?_) (fun c18 => ?_)
    · have h11 := bIn_iff.mp c18
      refine r_iconst C dX6_round__24 ?_
      refine r_istore_n (ls' := [_, _, _, _, _]) C (by decide) rfl rfl dX6_round__25 ?_
      refine r_iconst C dX6_round__26 ?_
      refine r_istore (ls' := [_, _, _, _, _]) C (by decide) rfl rfl dX6_round__27 ?_
      have h9 : 0 ≤ σ 5 t ∧ σ 5 t ≤ 8 := hI.2.2.2.2.2.2.2.1 t
      exact loop (σ 5 t).toNat 0 c5 (by omega) (by omega) (by omega) c18
    · refine r_bipush C (by decide +kernel) dX6_round__21 ?_
      refine r_ireturn C rfl ?_ dX6_round__23
      exact pM_of (by simp [s_round, *]) rfl
  · refine r_iconst C dX6_round__8 ?_
    refine r_ireturn C rfl ?_ dX6_round__9
    exact pM_of (by simp [s_round, *]) rfl
set_option maxRecDepth 100000 in
theorem c_X6_count (l : Launch) (G : pw_G) (σ : pw_H) {w : Int} (hI : Inv (vM σ)) (q_w : InI w) : Ct l shM G mX6_count [.ref (G.2.1 0), vI w] σ (pM (s_count (vM σ) w)) := by
  have h0 : 0 ≤ σ 0 0 ∧ σ 0 0 ≤ 8 := hI.1
  have h5 : 0 ≤ σ 0 5 ∧ σ 0 5 ≤ 6 := hI.2.1
  have h1 : 0 ≤ σ 0 6 ∧ σ 0 6 ≤ 6 := hI.2.2.1
  refine Ct_of (ls := [some (.ref (G.2.1 0)), some (vI w), none, none, none]) (by decide +kernel) (Nat.le_of_ble_eq_true rfl) rfl (fun X C => ?_)
  have fin : PW X shM G 72 [some (.ref (G.2.1 0)), some (vI w), some (vI (sSum (vM σ 5) (σ 0 6).toNat)), some (vI (sSum (fun s => zB (decide (vM σ 4 s ≤ vM σ 0 1))) (σ 0 0).toNat)), none] [] σ := by
    refine r_iload_n C rfl dX6_count_72 ?_
    refine r_if_ne (tgt := 83) C (by decide) (by omega) dX6_count_73 (fun c73 => ?_) (fun c73 => ?_)
    · refine r_iload_n C rfl dX6_count_83 ?_
      refine r_iconst C dX6_count_84 ?_
      refine r_icmp_ne (tgt := 95) C (by decide) (by omega) (by omega) dX6_count_85 (fun c85 => ?_) (fun c85 => ?_)
      · refine r_iload_n C rfl dX6_count_95 ?_
        refine r_iconst C dX6_count_96 ?_
        refine r_icmp_ne (tgt := 104) C (by decide) (by omega) (by omega) dX6_count_97 (fun c97 => ?_) (fun c97 => ?_)
        · refine r_iload_n C rfl dX6_count_104 ?_
          refine r_iconst C dX6_count_105 ?_
          refine r_icmp_ne (tgt := 113) C (by decide) (by omega) (by omega) dX6_count_106 (fun c106 => ?_) (fun c106 => ?_)
          · refine r_bipush C (by decide +kernel) dX6_count_113 ?_
            refine r_ireturn C rfl ?_ dX6_count_115
            first | (refine pM_of (a := vM σ) ?_ rfl; rw [s_count, if_pos (by omega)]; rfl) | (refine pM_of (a := vM σ) ?_ rfl; rw [s_count, if_neg (by omega), if_pos (by omega)]; rfl) | (refine pM_of (a := vM σ) ?_ rfl; rw [s_count, if_neg (by omega), if_neg (by omega), if_pos (by omega)]; rfl) | (refine pM_of (a := vM σ) ?_ rfl; rw [s_count, if_neg (by omega), if_neg (by omega), if_neg (by omega), if_pos (by omega)]; rfl) | (refine pM_of (a := vM σ) ?_ rfl; rw [s_count, if_neg (by omega), if_neg (by omega), if_neg (by omega), if_neg (by omega)])
          · refine r_iload_n C rfl dX6_count_109 ?_
            refine r_goto (tgt := 115) C (by decide) dX6_count_110 ?_
            refine r_ireturn C rfl ?_ dX6_count_115
            first | (refine pM_of (a := vM σ) ?_ rfl; rw [s_count, if_pos (by omega)]; rfl) | (refine pM_of (a := vM σ) ?_ rfl; rw [s_count, if_neg (by omega), if_pos (by omega)]; rfl) | (refine pM_of (a := vM σ) ?_ rfl; rw [s_count, if_neg (by omega), if_neg (by omega), if_pos (by omega)]; rfl) | (refine pM_of (a := vM σ) ?_ rfl; rw [s_count, if_neg (by omega), if_neg (by omega), if_neg (by omega), if_pos (by omega)]; rfl) | (refine pM_of (a := vM σ) ?_ rfl; rw [s_count, if_neg (by omega), if_neg (by omega), if_neg (by omega), if_neg (by omega)])
        · refine r_iload_n C rfl dX6_count_100 ?_
          refine r_goto (tgt := 115) C (by decide) dX6_count_101 ?_
          refine r_ireturn C rfl ?_ dX6_count_115
          first | (refine pM_of (a := vM σ) ?_ rfl; rw [s_count, if_pos (by omega)]; rfl) | (refine pM_of (a := vM σ) ?_ rfl; rw [s_count, if_neg (by omega), if_pos (by omega)]; rfl) | (refine pM_of (a := vM σ) ?_ rfl; rw [s_count, if_neg (by omega), if_neg (by omega), if_pos (by omega)]; rfl) | (refine pM_of (a := vM σ) ?_ rfl; rw [s_count, if_neg (by omega), if_neg (by omega), if_neg (by omega), if_pos (by omega)]; rfl) | (refine pM_of (a := vM σ) ?_ rfl; rw [s_count, if_neg (by omega), if_neg (by omega), if_neg (by omega), if_neg (by omega)])
      · refine r_aload_n C rfl dX6_count_88 ?_
        refine r_getI (jz := 6) C 5 6 rfl rfl (by decide) rfl uw_X6 fl_X6_66 rfl dX6_count_89 ?_
        refine r_goto (tgt := 115) C (by decide) dX6_count_92 ?_
        refine r_ireturn C rfl ?_ dX6_count_115
        first | (refine pM_of (a := vM σ) ?_ rfl; rw [s_count, if_pos (by omega)]; rfl) | (refine pM_of (a := vM σ) ?_ rfl; rw [s_count, if_neg (by omega), if_pos (by omega)]; rfl) | (refine pM_of (a := vM σ) ?_ rfl; rw [s_count, if_neg (by omega), if_neg (by omega), if_pos (by omega)]; rfl) | (refine pM_of (a := vM σ) ?_ rfl; rw [s_count, if_neg (by omega), if_neg (by omega), if_neg (by omega), if_pos (by omega)]; rfl) | (refine pM_of (a := vM σ) ?_ rfl; rw [s_count, if_neg (by omega), if_neg (by omega), if_neg (by omega), if_neg (by omega)])
    · refine r_aload_n C rfl dX6_count_76 ?_
      refine r_getI (jz := 0) C 5 0 rfl rfl (by decide) rfl uw_X6 fl_X6_63 rfl dX6_count_77 ?_
      refine r_goto (tgt := 115) C (by decide) dX6_count_80 ?_
      refine r_ireturn C rfl ?_ dX6_count_115
      first | (refine pM_of (a := vM σ) ?_ rfl; rw [s_count, if_pos (by omega)]; rfl) | (refine pM_of (a := vM σ) ?_ rfl; rw [s_count, if_neg (by omega), if_pos (by omega)]; rfl) | (refine pM_of (a := vM σ) ?_ rfl; rw [s_count, if_neg (by omega), if_neg (by omega), if_pos (by omega)]; rfl) | (refine pM_of (a := vM σ) ?_ rfl; rw [s_count, if_neg (by omega), if_neg (by omega), if_neg (by omega), if_pos (by omega)]; rfl) | (refine pM_of (a := vM σ) ?_ rfl; rw [s_count, if_neg (by omega), if_neg (by omega), if_neg (by omega), if_neg (by omega)])
  have loop2 : ∀ (n i : Nat), i + n = (σ 0 0).toNat → PW X shM G 35 [some (.ref (G.2.1 0)), some (vI w), some (vI (sSum (vM σ 5) (σ 0 6).toNat)), some (vI (sSum (fun s => zB (decide (vM σ 4 s ≤ vM σ 0 1))) i)), some (vI (i : Int))] [] σ := by
    intro n
    induction n with
    | zero =>
      intro i hi
      refine r_iload C rfl dX6_count_35 ?_
      refine r_aload_n C rfl dX6_count_37 ?_
      refine r_getI (jz := 0) C 5 0 rfl rfl (by decide) rfl uw_X6 fl_X6_63 rfl dX6_count_38 ?_
      refine r_icmp_ge (tgt := 72) C (by decide) (by omega) (by omega) dX6_count_41 (fun c41 => ?_) (fun c41 => ?_)
      · refine PW_lw [true, true, true, true, false] fin ?_
        rw [show i = (σ 0 0).toNat by omega]
        rfl
      · omega
    | succ n ih =>
      intro i hi
      have h10 : 0 ≤ σ 4 i ∧ σ 4 i ≤ 6 := hI.2.2.2.2.2.2.1 i
      refine r_iload C rfl dX6_count_35 ?_
      refine r_aload_n C rfl dX6_count_37 ?_
      refine r_getI (jz := 0) C 5 0 rfl rfl (by decide) rfl uw_X6 fl_X6_63 rfl dX6_count_38 ?_
      refine r_icmp_ge (tgt := 72) C (by decide) (by omega) (by omega) dX6_count_41 (fun c41 => ?_) (fun c41 => ?_)
      · omega
      · refine r_iload_n C rfl dX6_count_44 ?_
        refine r_aload_n C rfl dX6_count_45 ?_
        refine r_getR C 5 4 rfl rfl (by decide) rfl uw_X6 fl_X6_19 dX6_count_46 ?_
        refine r_iload C rfl dX6_count_49 ?_
        refine r_iaload C rfl (by decide) (by omega) dX6_count_51 ?_
        refine r_aload_n C rfl dX6_count_52 ?_
        refine r_getI (jz := 5) C 5 5 rfl rfl (by decide) rfl uw_X6 fl_X6_22 rfl dX6_count_53 ?_
        refine r_icmp_gt (tgt := 63) C (by decide) (by omega) (by omega) dX6_count_56 (fun c56 => ?_) (fun c56 => ?_)
        · refine r_iconst C dX6_count_63 ?_
          refine r_iadd C dX6_count_64 ?_
          refine r_istore_n (ls' := [_, _, _, _, _]) C (by decide) rfl rfl dX6_count_65 ?_
          refine r_iinc (ls' := [_, _, _, _, _]) C rfl (by decide) rfl rfl dX6_count_66 ?_
          refine r_goto (tgt := 35) C (by decide) dX6_count_69 ?_
          refine PW_ls (ih (i + 1) (by omega)) ?_
          have e : sSum (fun s => zB (decide (vM σ 4 s ≤ vM σ 0 1))) (i + 1) = sSum (fun s => zB (decide (vM σ 4 s ≤ vM σ 0 1))) i + zB (decide (σ 4 i ≤ σ 0 5)) := rfl
          rw [e]
          first | rw [zB_t (by rw [decide_eq_true_eq]; omega)]; rfl | rw [zB_f (by rw [decide_eq_false_iff_not]; omega)]; rfl
        · refine r_iconst C dX6_count_59 ?_
          refine r_goto (tgt := 64) C (by decide) dX6_count_60 ?_
          refine r_iadd C dX6_count_64 ?_
          refine r_istore_n (ls' := [_, _, _, _, _]) C (by decide) rfl rfl dX6_count_65 ?_
          refine r_iinc (ls' := [_, _, _, _, _]) C rfl (by decide) rfl rfl dX6_count_66 ?_
          refine r_goto (tgt := 35) C (by decide) dX6_count_69 ?_
          refine PW_ls (ih (i + 1) (by omega)) ?_
          have e : sSum (fun s => zB (decide (vM σ 4 s ≤ vM σ 0 1))) (i + 1) = sSum (fun s => zB (decide (vM σ 4 s ≤ vM σ 0 1))) i + zB (decide (σ 4 i ≤ σ 0 5)) := rfl
          rw [e]
          first | rw [zB_t (by rw [decide_eq_true_eq]; omega)]; rfl | rw [zB_f (by rw [decide_eq_false_iff_not]; omega)]; rfl
  have loop : ∀ (n i : Nat), i + n = (σ 0 6).toNat → PW X shM G 7 [some (.ref (G.2.1 0)), some (vI w), some (vI (sSum (vM σ 5) i)), some (vI 0), some (vI (i : Int))] [] σ := by
    intro n
    induction n with
    | zero =>
      intro i hi
      refine r_iload C rfl dX6_count_7 ?_
      refine r_aload_n C rfl dX6_count_9 ?_
      refine r_getI (jz := 6) C 5 6 rfl rfl (by decide) rfl uw_X6 fl_X6_66 rfl dX6_count_10 ?_
      refine r_icmp_ge (tgt := 32) C (by decide) (by omega) (by omega) dX6_count_13 (fun c13 => ?_) (fun c13 => ?_)
      · refine r_iconst C dX6_count_32 ?_
        refine r_istore (ls' := [_, _, _, _, _]) C (by decide) rfl rfl dX6_count_33 ?_
        refine PW_ls (loop2 (σ 0 0).toNat 0 (by omega)) ?_
        rw [show i = (σ 0 6).toNat by omega]
        rfl
      · omega
    | succ n ih =>
      intro i hi
      refine r_iload C rfl dX6_count_7 ?_
      refine r_aload_n C rfl dX6_count_9 ?_
      refine r_getI (jz := 6) C 5 6 rfl rfl (by decide) rfl uw_X6 fl_X6_66 rfl dX6_count_10 ?_
      refine r_icmp_ge (tgt := 32) C (by decide) (by omega) (by omega) dX6_count_13 (fun c13 => ?_) (fun c13 => ?_)
      · omega
      · refine r_iload_n C rfl dX6_count_16 ?_
        refine r_aload_n C rfl dX6_count_17 ?_
        refine r_getR C 5 7 rfl rfl (by decide) rfl uw_X6 fl_X6_26 dX6_count_18 ?_
        refine r_iload C rfl dX6_count_21 ?_
        refine r_iaload C rfl (by decide) (by omega) dX6_count_23 ?_
        refine r_iadd C dX6_count_24 ?_
        refine r_istore_n (ls' := [_, _, _, _, _]) C (by decide) rfl rfl dX6_count_25 ?_
        refine r_iinc (ls' := [_, _, _, _, _]) C rfl (by decide) rfl rfl dX6_count_26 ?_
        refine r_goto (tgt := 7) C (by decide) dX6_count_29 ?_
        exact ih (i + 1) (by omega)
  refine r_iconst C dX6_count_0 ?_
  refine r_istore_n (ls' := [_, _, _, _, _]) C (by decide) rfl rfl dX6_count_1 ?_
  refine r_iconst C dX6_count_2 ?_
  refine r_istore_n (ls' := [_, _, _, _, _]) C (by decide) rfl rfl dX6_count_3 ?_
  refine r_iconst C dX6_count_4 ?_
  refine r_istore (ls' := [_, _, _, _, _]) C (by decide) rfl rfl dX6_count_5 ?_
  exact loop (σ 0 6).toNat 0 (by omega)
end
section
/-- found slip and cost, as a rank -/
def Rk (r s c : Int) : Prop := (r = 1048576 ∧ s = -9 ∧ c = 100000) ∨ (0 ≤ r ∧ r ≤ 443 ∧ s = r % 4 ∧ c = r / 4)
/-- what the reference leaves: its cells ks, and what it found -/
def Fm (ks : List Nat) (σ τ : pw_H) : Prop := (∀ k, k ≠ 0 → k ∉ ks → τ k = σ k) ∧ ∀ j, j ≠ 10 → j ≠ 11 → τ 0 j = σ 0 j
theorem Fm.rf {ks : List Nat} {σ : pw_H} : Fm ks σ σ := ⟨fun _ _ _ => rfl, fun _ _ _ => rfl⟩
theorem Fm.tr {k1 k2 ks : List Nat} {σ τ υ : pw_H} (h1 : Fm k1 σ τ) (h2 : Fm k2 τ υ) (s1 : ∀ k ∈ k1, k ∈ ks) (s2 : ∀ k ∈ k2, k ∈ ks) : Fm ks σ υ := ⟨fun k h0 hk => (h2.1 k h0 (fun q => hk (s2 k q))).trans (h1.1 k h0 (fun q => hk (s1 k q))), fun j a b => (h2.2 j a b).trans (h1.2 j a b)⟩
theorem Fm.u {ks : List Nat} {σ : pw_H} {k : Nat} {j v : Int} (h : k ∈ ks) (h0 : k ≠ 0) : Fm ks σ (pw_u σ k j v) := ⟨fun k' _ hk => by
  funext t
  exact pw_u_k (fun q => hk (q ▸ h)), fun j a b => pw_u_k (fun q => h0 q.symm)⟩
theorem Fm.f {ks : List Nat} {σ : pw_H} {j v : Int} (h : j = 10 ∨ j = 11) : Fm ks σ (pw_u σ 0 j v) := ⟨fun k' h0 _ => by
  funext t
  exact pw_u_k h0, fun j' a b => pw_u_j (by omega)⟩
theorem Fm.vM {ks : List Nat} {σ τ : pw_H} (h : Fm ks σ τ) (hk : ∀ k ∈ [1, 2, 3, 4, 5, 6, 7], k ∉ ks) : vM τ = vM σ :=
  Fr_vM (ks := 0 :: ks) (fun k q => h.1 k (fun z => q (z ▸ List.mem_cons_self)) (fun z => q (List.mem_cons_of_mem _ z))) (fun k q z => by
    rcases List.mem_cons.mp z with z | z
    · subst z; exact absurd q (by decide)
    · exact hk k q z) ⟨h.2 0 (by decide) (by decide), h.2 5 (by decide) (by decide), h.2 6 (by decide) (by decide)⟩
theorem Rk_stay {r s x y m f c : Int} (hs : 0 ≤ s ∧ s ≤ 3) (hx : 0 ≤ x) (hy : 0 ≤ y) (hm : 0 ≤ m ∧ m ≤ 50) (hr : Rk r f c) (h : 30 < x ∨ 30 < y ∨ ¬ (x + y + m < c ∨ x + y + m = c ∧ s < f)) : Rk (sLess r s x y m) f c := by
  have e : sLess r s x y m = r := by
    unfold sLess
    by_cases q : 30 < x ∨ 30 < y
    · rw [if_pos q]
    · rw [if_neg q, if_neg]
      rcases hr with ⟨h1, h2, h3⟩ | ⟨h1, h2, h3, h4⟩ <;> omega
  rw [e]; exact hr
theorem Rk_new {r s x y m f c : Int} (hs : 0 ≤ s ∧ s ≤ 3) (hx : 0 ≤ x) (hy : 0 ≤ y) (hm : 0 ≤ m ∧ m ≤ 50) (hr : Rk r f c) (h1 : ¬ 30 < x) (h2 : ¬ 30 < y) (h : x + y + m < c ∨ x + y + m = c ∧ s < f) : Rk (sLess r s x y m) s (x + y + m) := by
  have e : sLess r s x y m = 4 * (x + y + m) + s := by
    unfold sLess
    rw [if_neg (by omega), if_pos]
    rcases hr with ⟨h1, h2, h3⟩ | ⟨h1, h2, h3, h4⟩ <;> omega
  rw [e]
  exact Or.inr (by omega)
set_option maxRecDepth 100000 in
theorem c_X6_tries (l : Launch) (G : pw_G) (σ : pw_H) {r s d e m : Int} (hs : 0 ≤ s ∧ s ≤ 3) (hd : -100000 ≤ d ∧ d ≤ 100000) (he : -100000 ≤ e ∧ e ≤ 100000) (hm : 0 ≤ m ∧ m ≤ 50) (hr : Rk r (σ 0 10) (σ 0 11)) : Ct l shM G mX6_tries [.ref (G.2.1 0), vI s, vI d, vI e, vI m] σ (fun q τ => q = none ∧ Fm [] σ τ ∧ Rk (sLess r s (zabs d) (zabs e) m) (τ 0 10) (τ 0 11)) := by
  have a1 := n_absb hd.1 hd.2
  have a2 := n_absb he.1 he.2
  have hr2 : (-9 ≤ σ 0 10 ∧ σ 0 10 ≤ 3) ∧ 0 ≤ σ 0 11 ∧ σ 0 11 ≤ 100000 := by rcases hr with h | h <;> omega
  refine Ct_of (ls := [some (.ref (G.2.1 0)), some (vI s), some (vI d), some (vI e), some (vI m), none]) (by decide +kernel) (Nat.le_of_ble_eq_true rfl) rfl (fun X C => ?_)
  refine r_iload_n C rfl dX6_tries_0 ?_
  refine r_callS (As := [_]) C (c_X6_size _ _ _ (by omega)) ok_X6_size ln_X6_103 rfl rfl (Nat.le_of_ble_eq_true rfl) (Nat.le_of_ble_eq_true rfl) (Nat.le_of_ble_eq_true rfl) dX6_tries_1 (fun v1 τ1 hq1 => ?_)
  obtain ⟨rfl, rfl⟩ := hq1
  refine r_iload_n C rfl dX6_tries_4 ?_
  refine r_callS (As := [_]) C (c_X6_size _ _ _ (by omega)) ok_X6_size ln_X6_103 rfl rfl (Nat.le_of_ble_eq_true rfl) (Nat.le_of_ble_eq_true rfl) (Nat.le_of_ble_eq_true rfl) dX6_tries_5 (fun v5 τ5 hq5 => ?_)
  obtain ⟨rfl, rfl⟩ := hq5
  refine r_iadd C dX6_tries_8 ?_
  refine r_iload C rfl dX6_tries_9 ?_
  refine r_iadd C dX6_tries_11 ?_
  refine r_istore (ls' := [_, _, _, _, _, _]) C (by decide) rfl rfl dX6_tries_12 ?_
  refine r_iload_n C rfl dX6_tries_14 ?_
  refine r_callS (As := [_]) C (c_X6_size _ _ _ (by omega)) ok_X6_size ln_X6_103 rfl rfl (Nat.le_of_ble_eq_true rfl) (Nat.le_of_ble_eq_true rfl) (Nat.le_of_ble_eq_true rfl) dX6_tries_15 (fun v15 τ15 hq15 => ?_)
  obtain ⟨rfl, rfl⟩ := hq15
  refine r_bipush C (by decide +kernel) dX6_tries_18 ?_
  refine r_icmp_gt (tgt := 69) C (by decide) (by omega) (by omega) dX6_tries_20 (fun c20 => ?_) (fun c20 => ?_)
  · refine r_return C rfl ?_ dX6_tries_69
    first | exact ⟨rfl, Fm.rf, Rk_stay hs a1.1 a2.1 hm hr (by omega)⟩ | exact ⟨rfl, (Fm.f (ks := []) (Or.inl rfl)).tr (ks := []) (Fm.f (ks := []) (Or.inr rfl)) (fun _ q => q) (fun _ q => q), by rw [pw_u_s, pw_u_j (by decide), pw_u_s]; exact Rk_new hs a1.1 a2.1 hm hr (by omega) (by omega) (by omega)⟩
  · refine r_iload_n C rfl dX6_tries_23 ?_
    refine r_callS (As := [_]) C (c_X6_size _ _ _ (by omega)) ok_X6_size ln_X6_103 rfl rfl (Nat.le_of_ble_eq_true rfl) (Nat.le_of_ble_eq_true rfl) (Nat.le_of_ble_eq_true rfl) dX6_tries_24 (fun v24 τ24 hq24 => ?_)
    obtain ⟨rfl, rfl⟩ := hq24
    refine r_bipush C (by decide +kernel) dX6_tries_27 ?_
    refine r_icmp_gt (tgt := 69) C (by decide) (by omega) (by omega) dX6_tries_29 (fun c29 => ?_) (fun c29 => ?_)
    · refine r_return C rfl ?_ dX6_tries_69
      first | exact ⟨rfl, Fm.rf, Rk_stay hs a1.1 a2.1 hm hr (by omega)⟩ | exact ⟨rfl, (Fm.f (ks := []) (Or.inl rfl)).tr (ks := []) (Fm.f (ks := []) (Or.inr rfl)) (fun _ q => q) (fun _ q => q), by rw [pw_u_s, pw_u_j (by decide), pw_u_s]; exact Rk_new hs a1.1 a2.1 hm hr (by omega) (by omega) (by omega)⟩
    · refine r_iload C rfl dX6_tries_32 ?_
      refine r_aload_n C rfl dX6_tries_34 ?_
      refine r_getI (jz := 11) C 5 11 rfl rfl (by decide) rfl uw_X6 fl_X6_106 rfl dX6_tries_35 ?_
      refine r_icmp_lt (tgt := 58) C (by decide) (by omega) (by omega) dX6_tries_38 (fun c38 => ?_) (fun c38 => ?_)
      · refine r_aload_n C rfl dX6_tries_58 ?_
        refine r_iload_n C rfl dX6_tries_59 ?_
        refine r_putI (jz := 10) C 5 10 tyX6 tyX6_ok nmX6 rfl rfl (by decide) rfl uw_X6 fl_X6_109 rfl rfl rfl dX6_tries_60 ?_
        refine r_aload_n C rfl dX6_tries_63 ?_
        refine r_iload C rfl dX6_tries_64 ?_
        refine r_putI (jz := 11) C 5 11 tyX6 tyX6_ok nmX6 rfl rfl (by decide) rfl uw_X6 fl_X6_106 rfl rfl rfl dX6_tries_66 ?_
        refine r_return C rfl ?_ dX6_tries_69
        first | exact ⟨rfl, Fm.rf, Rk_stay hs a1.1 a2.1 hm hr (by omega)⟩ | exact ⟨rfl, (Fm.f (ks := []) (Or.inl rfl)).tr (ks := []) (Fm.f (ks := []) (Or.inr rfl)) (fun _ q => q) (fun _ q => q), by rw [pw_u_s, pw_u_j (by decide), pw_u_s]; exact Rk_new hs a1.1 a2.1 hm hr (by omega) (by omega) (by omega)⟩
      · refine r_iload C rfl dX6_tries_41 ?_
        refine r_aload_n C rfl dX6_tries_43 ?_
        refine r_getI (jz := 11) C 5 11 rfl rfl (by decide) rfl uw_X6 fl_X6_106 rfl dX6_tries_44 ?_
        refine r_icmp_ne (tgt := 69) C (by decide) (by omega) (by omega) dX6_tries_47 (fun c47 => ?_) (fun c47 => ?_)
        · refine r_return C rfl ?_ dX6_tries_69
          first | exact ⟨rfl, Fm.rf, Rk_stay hs a1.1 a2.1 hm hr (by omega)⟩ | exact ⟨rfl, (Fm.f (ks := []) (Or.inl rfl)).tr (ks := []) (Fm.f (ks := []) (Or.inr rfl)) (fun _ q => q) (fun _ q => q), by rw [pw_u_s, pw_u_j (by decide), pw_u_s]; exact Rk_new hs a1.1 a2.1 hm hr (by omega) (by omega) (by omega)⟩
        · refine r_iload_n C rfl dX6_tries_50 ?_
          refine r_aload_n C rfl dX6_tries_51 ?_
          refine r_getI (jz := 10) C 5 10 rfl rfl (by decide) rfl uw_X6 fl_X6_109 rfl dX6_tries_52 ?_
          refine r_icmp_ge (tgt := 69) C (by decide) (by omega) (by omega) dX6_tries_55 (fun c55 => ?_) (fun c55 => ?_)
          · refine r_return C rfl ?_ dX6_tries_69
            first | exact ⟨rfl, Fm.rf, Rk_stay hs a1.1 a2.1 hm hr (by omega)⟩ | exact ⟨rfl, (Fm.f (ks := []) (Or.inl rfl)).tr (ks := []) (Fm.f (ks := []) (Or.inr rfl)) (fun _ q => q) (fun _ q => q), by rw [pw_u_s, pw_u_j (by decide), pw_u_s]; exact Rk_new hs a1.1 a2.1 hm hr (by omega) (by omega) (by omega)⟩
          · refine r_aload_n C rfl dX6_tries_58 ?_
            refine r_iload_n C rfl dX6_tries_59 ?_
            refine r_putI (jz := 10) C 5 10 tyX6 tyX6_ok nmX6 rfl rfl (by decide) rfl uw_X6 fl_X6_109 rfl rfl rfl dX6_tries_60 ?_
            refine r_aload_n C rfl dX6_tries_63 ?_
            refine r_iload C rfl dX6_tries_64 ?_
            refine r_putI (jz := 11) C 5 11 tyX6 tyX6_ok nmX6 rfl rfl (by decide) rfl uw_X6 fl_X6_106 rfl rfl rfl dX6_tries_66 ?_
            refine r_return C rfl ?_ dX6_tries_69
            first | exact ⟨rfl, Fm.rf, Rk_stay hs a1.1 a2.1 hm hr (by omega)⟩ | exact ⟨rfl, (Fm.f (ks := []) (Or.inl rfl)).tr (ks := []) (Fm.f (ks := []) (Or.inr rfl)) (fun _ q => q) (fun _ q => q), by rw [pw_u_s, pw_u_j (by decide), pw_u_s]; exact Rk_new hs a1.1 a2.1 hm hr (by omega) (by omega) (by omega)⟩
theorem n_two {r k d e m z : Int} (hz : 60 < z) : sLess (sLess r k (zabs (d - z)) e m) k (zabs (d + z)) e m = sLess r k (zabs (zabs d - z)) e m := by
  rcases n_abs d with h | h
  · have h1 : 30 < zabs (d + z) := by rcases n_abs (d + z) with q | q <;> omega
    rw [h.2]
    exact if_pos (Or.inl h1)
  · have h1 : 30 < zabs (d - z) := by rcases n_abs (d - z) with q | q <;> omega
    have h2 : zabs (zabs d - z) = zabs (d + z) := by
      rw [h.2]
      rcases n_abs (-d - z) with q | q <;> rcases n_abs (d + z) with q2 | q2 <;> omega
    rw [h2]
    congr 1
    unfold sLess
    rw [if_pos (Or.inl h1)]
theorem n_twoE {r k d e m z : Int} (hz : 60 < z) : sLess (sLess r k d (zabs (e - z)) m) k d (zabs (e + z)) m = sLess r k d (zabs (zabs e - z)) m := by
  rcases n_abs e with h | h
  · have h1 : 30 < zabs (e + z) := by rcases n_abs (e + z) with q | q <;> omega
    rw [h.2]
    exact if_pos (Or.inr h1)
  · have h1 : 30 < zabs (e - z) := by rcases n_abs (e - z) with q | q <;> omega
    have h2 : zabs (zabs e - z) = zabs (e + z) := by
      rw [h.2]
      rcases n_abs (-e - z) with q | q <;> rcases n_abs (e + z) with q2 | q2 <;> omega
    rw [h2]
    congr 1
    unfold sLess
    rw [if_pos (Or.inr h1)]
theorem n_wayr (x t : Int) : sWay (x % 21600) t = sWay x t := by unfold sWay; omega
set_option maxRecDepth 100000 in
set_option maxHeartbeats 4000000 in
theorem c_X6_face (l : Launch) (G : pw_G) (σ : pw_H) {t i s y h : Int} (hI : Inv (vM σ)) (ht : 0 ≤ t ∧ t < 6) (hi : 0 ≤ i ∧ i < 8) (hs : 0 ≤ s ∧ s < 8) (hy : -3000 ≤ y ∧ y ≤ 3000) (hh : -600 ≤ h ∧ h ≤ 600) : Ct l shM G mX6_face [.ref (G.2.1 0), vI t, vI i, vI s, vI y, vI h] σ (fun q τ => q = none ∧ Fm [] σ τ ∧ Rk (sRk (vM σ) t i s y h) (τ 0 10) (τ 0 11)) := by
  have b0 := n_sky (vM σ) s y
  have b1 : 0 ≤ σ 6 (t * 8 + i) ∧ σ 6 (t * 8 + i) ≤ 21599 := hI.2.2.2.2.2.2.2.2.2.1 _
  have b2 : -5400 ≤ σ 7 (t * 8 + i) ∧ σ 7 (t * 8 + i) ≤ 5400 := hI.2.2.2.2.2.2.2.2.2.2 _
  have b3 : -5400 ≤ σ 2 s ∧ σ 2 s ≤ 5400 := hI.2.2.2.2.1 _
  have b4 := n_way (sSky (vM σ) s y + h) (σ 6 (t * 8 + i))
  refine Ct_of (ls := [some (.ref (G.2.1 0)), some (vI t), some (vI i), some (vI s), some (vI y), some (vI h), none, none, none, none]) (by decide +kernel) (Nat.le_of_ble_eq_true rfl) rfl (fun X C => ?_)
  refine r_aload_n C rfl dX6_face_0 ?_
  refine r_iload_n C rfl dX6_face_1 ?_
  refine r_iload C rfl dX6_face_2 ?_
  refine r_callV (As := [_, _]) C (c_X6_skyOf _ _ _ hI (by omega) (by omega)) ok_X6_skyOf ln_X6_93 rfl rfl rfl rfl (Nat.le_of_ble_eq_true rfl) (Nat.le_of_ble_eq_true rfl) (Nat.le_of_ble_eq_true rfl) dX6_face_4 (fun v4 τ4 hq4 => ?_)
  obtain ⟨rfl, rfl⟩ := hq4
  refine r_iload C rfl dX6_face_7 ?_
  refine r_iadd C dX6_face_9 ?_
  refine r_callS (As := [_]) C (c_X6_round _ _ _ (by omega)) ok_X6_round ln_X6_83 rfl rfl (Nat.le_of_ble_eq_true rfl) (Nat.le_of_ble_eq_true rfl) (Nat.le_of_ble_eq_true rfl) dX6_face_10 (fun v10 τ10 hq10 => ?_)
  obtain ⟨rfl, rfl⟩ := hq10
  refine r_istore (ls' := [_, _, _, _, _, _, _, _, _, _]) C (by decide) rfl rfl dX6_face_13 ?_
  refine r_iload C rfl dX6_face_15 ?_
  refine r_aload_n C rfl dX6_face_17 ?_
  refine r_getR C 5 8 rfl rfl (by decide) rfl uw_X6 fl_X6_29 dX6_face_18 ?_
  refine r_bipush C (by decide +kernel) dX6_face_21 ?_
  refine r_iload_n C rfl dX6_face_23 ?_
  refine r_imul C dX6_face_24 ?_
  rw [Int.mul_comm (8 : Int)]
  refine r_iload_n C rfl dX6_face_25 ?_
  refine r_iadd C dX6_face_26 ?_
  refine r_iaload C rfl (by decide) (by omega) dX6_face_27 ?_
  refine r_callS (As := [_, _]) C (c_X6_wayOf _ _ _ (by omega) (by omega)) ok_X6_wayOf ln_X6_96 rfl rfl (Nat.le_of_ble_eq_true rfl) (Nat.le_of_ble_eq_true rfl) (Nat.le_of_ble_eq_true rfl) dX6_face_28 (fun v28 τ28 hq28 => ?_)
  obtain ⟨rfl, rfl⟩ := hq28
  rw [n_wayr]
  refine r_istore (ls' := [_, _, _, _, _, _, _, _, _, _]) C (by decide) rfl rfl dX6_face_31 ?_
  refine r_aload_n C rfl dX6_face_33 ?_
  refine r_getR C 5 9 rfl rfl (by decide) rfl uw_X6 fl_X6_32 dX6_face_34 ?_
  refine r_bipush C (by decide +kernel) dX6_face_37 ?_
  refine r_iload_n C rfl dX6_face_39 ?_
  refine r_imul C dX6_face_40 ?_
  rw [Int.mul_comm (8 : Int)]
  refine r_iload_n C rfl dX6_face_41 ?_
  refine r_iadd C dX6_face_42 ?_
  refine r_iaload C rfl (by decide) (by omega) dX6_face_43 ?_
  refine r_istore (ls' := [_, _, _, _, _, _, _, _, _, _]) C (by decide) rfl rfl dX6_face_44 ?_
  refine r_iload C rfl dX6_face_46 ?_
  refine r_aload_n C rfl dX6_face_48 ?_
  refine r_getR C 5 2 rfl rfl (by decide) rfl uw_X6 fl_X6_13 dX6_face_49 ?_
  refine r_iload_n C rfl dX6_face_52 ?_
  refine r_iaload C rfl (by decide) (by omega) dX6_face_53 ?_
  refine r_isub C dX6_face_54 ?_
  refine r_istore (ls' := [_, _, _, _, _, _, _, _, _, _]) C (by decide) rfl rfl dX6_face_55 ?_
  refine r_aload_n C rfl dX6_face_57 ?_
  refine r_bipush C (by decide +kernel) dX6_face_58 ?_
  refine r_putI (jz := 10) C 5 10 tyX6 tyX6_ok nmX6 rfl rfl (by decide) rfl uw_X6 fl_X6_109 rfl rfl rfl dX6_face_60 ?_
  refine r_aload_n C rfl dX6_face_63 ?_
  refine r_ldc C (z := 100000) cn_X6_112 (by decide +kernel) dX6_face_64 ?_
  refine r_putI (jz := 11) C 5 11 tyX6 tyX6_ok nmX6 rfl rfl (by decide) rfl uw_X6 fl_X6_106 rfl rfl rfl dX6_face_66 ?_
  refine r_aload_n C rfl dX6_face_69 ?_
  refine r_iconst C dX6_face_70 ?_
  refine r_iload C rfl dX6_face_71 ?_
  refine r_iload C rfl dX6_face_73 ?_
  refine r_iconst C dX6_face_75 ?_
  refine r_callV (As := [_, _, _, _]) C (c_X6_tries (r := 1048576) _ _ _ (by omega) (by omega) (by omega) (by omega) (Or.inl ⟨rfl, by rw [pw_u_j (by decide), pw_u_s], by rw [pw_u_s]⟩)) ok_X6_tries ln_X6_113 rfl rfl rfl rfl (Nat.le_of_ble_eq_true rfl) (Nat.le_of_ble_eq_true rfl) (Nat.le_of_ble_eq_true rfl) dX6_face_76 (fun v76 τ76 hq76 => ?_)
  obtain ⟨rfl, hF1, hR1⟩ := hq76
  refine r_aload_n C rfl dX6_face_79 ?_
  refine r_iconst C dX6_face_80 ?_
  refine r_iload C rfl dX6_face_81 ?_
  refine r_iload C rfl dX6_face_83 ?_
  refine r_aload_n C rfl dX6_face_85 ?_
  refine r_getR C 5 2 rfl rfl (by decide) rfl uw_X6 fl_X6_13 dX6_face_86 ?_
  have w2 : τ76 2 s = σ 2 s := (congrFun (hF1.1 2 (by decide) (by decide)) s).trans (by rw [pw_u_k (by decide), pw_u_k (by decide)])
  refine r_iload_n C rfl dX6_face_89 ?_
  refine r_iaload C rfl (by decide) (by omega) dX6_face_90 ?_
  try simp (disch := decide) only [pw_u_k, pw_u_j, pw_u_s]
  rw [w2]
  refine r_iadd C dX6_face_91 ?_
  refine r_bipush C (by decide +kernel) dX6_face_92 ?_
  refine r_callV (As := [_, _, _, _]) C (c_X6_tries _ _ _ (by omega) (by omega) (by omega) (by omega) hR1) ok_X6_tries ln_X6_113 rfl rfl rfl rfl (Nat.le_of_ble_eq_true rfl) (Nat.le_of_ble_eq_true rfl) (Nat.le_of_ble_eq_true rfl) dX6_face_94 (fun v94 τ94 hq94 => ?_)
  obtain ⟨rfl, hF2, hR2⟩ := hq94
  refine r_aload_n C rfl dX6_face_97 ?_
  refine r_iconst C dX6_face_98 ?_
  refine r_iload C rfl dX6_face_99 ?_
  refine r_sipush C (by decide +kernel) dX6_face_101 ?_
  refine r_isub C dX6_face_104 ?_
  refine r_iload C rfl dX6_face_105 ?_
  refine r_bipush C (by decide +kernel) dX6_face_107 ?_
  refine r_callV (As := [_, _, _, _]) C (c_X6_tries _ _ _ (by omega) (by omega) (by omega) (by omega) hR2) ok_X6_tries ln_X6_113 rfl rfl rfl rfl (Nat.le_of_ble_eq_true rfl) (Nat.le_of_ble_eq_true rfl) (Nat.le_of_ble_eq_true rfl) dX6_face_109 (fun v109 τ109 hq109 => ?_)
  obtain ⟨rfl, hF3, hR3⟩ := hq109
  refine r_aload_n C rfl dX6_face_112 ?_
  refine r_iconst C dX6_face_113 ?_
  refine r_iload C rfl dX6_face_114 ?_
  refine r_sipush C (by decide +kernel) dX6_face_116 ?_
  refine r_iadd C dX6_face_119 ?_
  refine r_iload C rfl dX6_face_120 ?_
  refine r_bipush C (by decide +kernel) dX6_face_122 ?_
  refine r_callV (As := [_, _, _, _]) C (c_X6_tries _ _ _ (by omega) (by omega) (by omega) (by omega) hR3) ok_X6_tries ln_X6_113 rfl rfl rfl rfl (Nat.le_of_ble_eq_true rfl) (Nat.le_of_ble_eq_true rfl) (Nat.le_of_ble_eq_true rfl) dX6_face_124 (fun v124 τ124 hq124 => ?_)
  obtain ⟨rfl, hF4, hR4⟩ := hq124
  refine r_aload_n C rfl dX6_face_127 ?_
  refine r_iconst C dX6_face_128 ?_
  refine r_iload C rfl dX6_face_129 ?_
  refine r_sipush C (by decide +kernel) dX6_face_131 ?_
  refine r_isub C dX6_face_134 ?_
  refine r_iload C rfl dX6_face_135 ?_
  refine r_bipush C (by decide +kernel) dX6_face_137 ?_
  refine r_callV (As := [_, _, _, _]) C (c_X6_tries _ _ _ (by omega) (by omega) (by omega) (by omega) hR4) ok_X6_tries ln_X6_113 rfl rfl rfl rfl (Nat.le_of_ble_eq_true rfl) (Nat.le_of_ble_eq_true rfl) (Nat.le_of_ble_eq_true rfl) dX6_face_139 (fun v139 τ139 hq139 => ?_)
  obtain ⟨rfl, hF5, hR5⟩ := hq139
  refine r_aload_n C rfl dX6_face_142 ?_
  refine r_iconst C dX6_face_143 ?_
  refine r_iload C rfl dX6_face_144 ?_
  refine r_sipush C (by decide +kernel) dX6_face_146 ?_
  refine r_iadd C dX6_face_149 ?_
  refine r_iload C rfl dX6_face_150 ?_
  refine r_bipush C (by decide +kernel) dX6_face_152 ?_
  refine r_callV (As := [_, _, _, _]) C (c_X6_tries _ _ _ (by omega) (by omega) (by omega) (by omega) hR5) ok_X6_tries ln_X6_113 rfl rfl rfl rfl (Nat.le_of_ble_eq_true rfl) (Nat.le_of_ble_eq_true rfl) (Nat.le_of_ble_eq_true rfl) dX6_face_154 (fun v154 τ154 hq154 => ?_)
  obtain ⟨rfl, hF6, hR6⟩ := hq154
  refine r_aload_n C rfl dX6_face_157 ?_
  refine r_iconst C dX6_face_158 ?_
  refine r_iload C rfl dX6_face_159 ?_
  refine r_iload C rfl dX6_face_161 ?_
  refine r_sipush C (by decide +kernel) dX6_face_163 ?_
  refine r_isub C dX6_face_166 ?_
  refine r_bipush C (by decide +kernel) dX6_face_167 ?_
  refine r_callV (As := [_, _, _, _]) C (c_X6_tries _ _ _ (by omega) (by omega) (by omega) (by omega) hR6) ok_X6_tries ln_X6_113 rfl rfl rfl rfl (Nat.le_of_ble_eq_true rfl) (Nat.le_of_ble_eq_true rfl) (Nat.le_of_ble_eq_true rfl) dX6_face_169 (fun v169 τ169 hq169 => ?_)
  obtain ⟨rfl, hF7, hR7⟩ := hq169
  refine r_aload_n C rfl dX6_face_172 ?_
  refine r_iconst C dX6_face_173 ?_
  refine r_iload C rfl dX6_face_174 ?_
  refine r_iload C rfl dX6_face_176 ?_
  refine r_sipush C (by decide +kernel) dX6_face_178 ?_
  refine r_iadd C dX6_face_181 ?_
  refine r_bipush C (by decide +kernel) dX6_face_182 ?_
  refine r_callV (As := [_, _, _, _]) C (c_X6_tries _ _ _ (by omega) (by omega) (by omega) (by omega) hR7) ok_X6_tries ln_X6_113 rfl rfl rfl rfl (Nat.le_of_ble_eq_true rfl) (Nat.le_of_ble_eq_true rfl) (Nat.le_of_ble_eq_true rfl) dX6_face_184 (fun v184 τ184 hq184 => ?_)
  obtain ⟨rfl, hF8, hR8⟩ := hq184
  refine r_return C rfl ?_ dX6_face_187
  refine ⟨rfl, ?_, ?_⟩
  · exact ((((((((((Fm.f (ks := []) (Or.inl rfl)).tr (ks := []) (Fm.f (ks := []) (Or.inr rfl)) (fun _ q => q) (fun _ q => q)).tr (ks := []) hF1 (fun _ q => q) (fun _ q => q)).tr (ks := []) hF2 (fun _ q => q) (fun _ q => q)).tr (ks := []) hF3 (fun _ q => q) (fun _ q => q)).tr (ks := []) hF4 (fun _ q => q) (fun _ q => q)).tr (ks := []) hF5 (fun _ q => q) (fun _ q => q)).tr (ks := []) hF6 (fun _ q => q) (fun _ q => q)).tr (ks := []) hF7 (fun _ q => q) (fun _ q => q)).tr (ks := []) hF8 (fun _ q => q) (fun _ q => q))
  · rw [n_two (by decide), n_two (by decide), n_twoE (by decide)] at hR8
    exact hR8
set_option maxRecDepth 100000 in
theorem c_X6_slip (l : Launch) (G : pw_G) (σ : pw_H) {t i s y h : Int} (hI : Inv (vM σ)) (q_t : InI t) (q_i : InI i) (q_s : InI s) (q_y : InI y) (q_h : InI h) : Ct l shM G mX6_slip [.ref (G.2.1 0), vI t, vI i, vI s, vI y, vI h] σ (pM (s_slip (vM σ) t i s y h)) := by
  have h0 : 0 ≤ σ 0 0 ∧ σ 0 0 ≤ 8 := hI.1
  have h5 : 0 ≤ σ 0 5 ∧ σ 0 5 ≤ 6 := hI.2.1
  have h1 : 0 ≤ σ 0 6 ∧ σ 0 6 ≤ 6 := hI.2.2.1
  refine Ct_of (ls := [some (.ref (G.2.1 0)), some (vI t), some (vI i), some (vI s), some (vI y), some (vI h)]) (by decide +kernel) (Nat.le_of_ble_eq_true rfl) rfl (fun X C => ?_)
  refine r_aload_n C rfl dX6_slip_0 ?_
  refine r_iload_n C rfl dX6_slip_1 ?_
  refine r_iload_n C rfl dX6_slip_2 ?_
  refine r_callV (As := [_, _]) C (c_X6_isLine _ _ _ (by omega) (by omega) hI) ok_X6_isLine ln_X6_99 rfl rfl rfl rfl (Nat.le_of_ble_eq_true rfl) (Nat.le_of_ble_eq_true rfl) (Nat.le_of_ble_eq_true rfl) dX6_slip_3 (fun v3 τ3 hq3 => ?_)
  obtain ⟨rfl, rfl⟩ := hq3
  refine r_ifB_eq (tgt := 17) C (by decide) dX6_slip_6 (fun c6 => ?_) (fun c6 => ?_)
  · refine r_iconst C dX6_slip_17 ?_
    refine r_ireturn C rfl ?_ dX6_slip_18
    exact pM_of (by simp [s_slip, *]) rfl
  · have h8 : (0 ≤ t ∧ t ≤ σ 0 6 - 1) ∧ 0 ≤ i ∧ i ≤ σ 5 t - 1 := bLine_t c6
    have h9 : 0 ≤ σ 5 t ∧ σ 5 t ≤ 8 := hI.2.2.2.2.2.2.2.1 t
    refine r_aload_n C rfl dX6_slip_9 ?_
    refine r_iload_n C rfl dX6_slip_10 ?_
    refine r_callV (As := [_]) C (c_X6_isStar _ _ _ (by omega) hI) ok_X6_isStar ln_X6_87 rfl rfl rfl rfl (Nat.le_of_ble_eq_true rfl) (Nat.le_of_ble_eq_true rfl) (Nat.le_of_ble_eq_true rfl) dX6_slip_11 (fun v11 τ11 hq11 => ?_)
    obtain ⟨rfl, rfl⟩ := hq11
    refine r_ifB_ne (tgt := 19) C (by decide) dX6_slip_14 (fun c14 => ?_) (fun c14 => ?_)
    · have h10 : 0 ≤ s ∧ s ≤ σ 0 0 - 1 := bStar_t c14
      refine r_iload C rfl dX6_slip_19 ?_
      refine r_callS (As := [_]) C (c_X6_isYear _ _ _ (by omega)) ok_X6_isYear ln_X6_90 rfl rfl (Nat.le_of_ble_eq_true rfl) (Nat.le_of_ble_eq_true rfl) (Nat.le_of_ble_eq_true rfl) dX6_slip_21 (fun v21 τ21 hq21 => ?_)
      obtain ⟨rfl, rfl⟩ := hq21
      refine r_ifB_eq (tgt := 35) C (by decide) dX6_slip_24 (fun c24 => ?_) (fun c24 => ?_)
      · refine r_bipush C (by decide +kernel) dX6_slip_35 ?_
        refine r_ireturn C rfl ?_ dX6_slip_37
        exact pM_of (by simp [s_slip, bMom, *]) rfl
      · have h11 := bIn_iff.mp c24
        refine r_iload C rfl dX6_slip_27 ?_
        refine r_callS (As := [_]) C (c_X6_isShift _ _ _ (by omega)) ok_X6_isShift ln_X6_117 rfl rfl (Nat.le_of_ble_eq_true rfl) (Nat.le_of_ble_eq_true rfl) (Nat.le_of_ble_eq_true rfl) dX6_slip_29 (fun v29 τ29 hq29 => ?_)
        obtain ⟨rfl, rfl⟩ := hq29
        refine r_ifB_ne (tgt := 38) C (by decide) dX6_slip_32 (fun c32 => ?_) (fun c32 => ?_)
        · have h12 := bIn_iff.mp c32
          refine r_aload_n C rfl dX6_slip_38 ?_
          refine r_iload_n C rfl dX6_slip_39 ?_
          refine r_iload_n C rfl dX6_slip_40 ?_
          refine r_iload_n C rfl dX6_slip_41 ?_
          refine r_iload C rfl dX6_slip_42 ?_
          refine r_iload C rfl dX6_slip_44 ?_
          refine r_callV (As := [_, _, _, _, _]) C (c_X6_face _ _ _ hI (by omega) (by omega) (by omega) (by omega) (by omega)) ok_X6_face ln_X6_120 rfl rfl rfl rfl (Nat.le_of_ble_eq_true rfl) (Nat.le_of_ble_eq_true rfl) (Nat.le_of_ble_eq_true rfl) dX6_slip_46 (fun v46 τ46 hq46 => ?_)
          obtain ⟨rfl, hF, hR⟩ := hq46
          have e2 : vM τ46 = vM σ := hF.vM (by decide)
          have hr2 : -9 ≤ τ46 0 10 ∧ τ46 0 10 ≤ 3 := by rcases hR with h | h <;> omega
          refine r_aload_n C rfl dX6_slip_49 ?_
          refine r_getI (jz := 10) C 5 10 rfl rfl (by decide) rfl uw_X6 fl_X6_109 rfl dX6_slip_50 ?_
          refine r_ireturn C rfl ?_ dX6_slip_53
          refine pM_of (a := vM σ) ?_ e2
          rw [s_slip, if_neg (by simp [*]), if_neg (by simp [bMom, *])]
          rcases hR with ⟨q1, q2, -⟩ | ⟨q1, q2, q3, -⟩
          · rw [if_pos q1, q2]
          · rw [if_neg (by omega), q3]
        · refine r_bipush C (by decide +kernel) dX6_slip_35 ?_
          refine r_ireturn C rfl ?_ dX6_slip_37
          exact pM_of (by simp [s_slip, bMom, *]) rfl
    · refine r_iconst C dX6_slip_17 ?_
      refine r_ireturn C rfl ?_ dX6_slip_18
      exact pM_of (by simp [s_slip, *]) rfl
set_option maxRecDepth 100000 in
theorem c_X6_cost (l : Launch) (G : pw_G) (σ : pw_H) {t i s y h : Int} (hI : Inv (vM σ)) (q_t : InI t) (q_i : InI i) (q_s : InI s) (q_y : InI y) (q_h : InI h) : Ct l shM G mX6_cost [.ref (G.2.1 0), vI t, vI i, vI s, vI y, vI h] σ (pM (s_cost (vM σ) t i s y h)) := by
  have h0 : 0 ≤ σ 0 0 ∧ σ 0 0 ≤ 8 := hI.1
  have h5 : 0 ≤ σ 0 5 ∧ σ 0 5 ≤ 6 := hI.2.1
  have h1 : 0 ≤ σ 0 6 ∧ σ 0 6 ≤ 6 := hI.2.2.1
  refine Ct_of (ls := [some (.ref (G.2.1 0)), some (vI t), some (vI i), some (vI s), some (vI y), some (vI h)]) (by decide +kernel) (Nat.le_of_ble_eq_true rfl) rfl (fun X C => ?_)
  refine r_aload_n C rfl dX6_cost_0 ?_
  refine r_iload_n C rfl dX6_cost_1 ?_
  refine r_iload_n C rfl dX6_cost_2 ?_
  refine r_callV (As := [_, _]) C (c_X6_isLine _ _ _ (by omega) (by omega) hI) ok_X6_isLine ln_X6_99 rfl rfl rfl rfl (Nat.le_of_ble_eq_true rfl) (Nat.le_of_ble_eq_true rfl) (Nat.le_of_ble_eq_true rfl) dX6_cost_3 (fun v3 τ3 hq3 => ?_)
  obtain ⟨rfl, rfl⟩ := hq3
  refine r_ifB_eq (tgt := 17) C (by decide) dX6_cost_6 (fun c6 => ?_) (fun c6 => ?_)
  · refine r_iconst C dX6_cost_17 ?_
    refine r_ireturn C rfl ?_ dX6_cost_18
    exact pM_of (by simp [s_cost, *]) rfl
  · have h8 : (0 ≤ t ∧ t ≤ σ 0 6 - 1) ∧ 0 ≤ i ∧ i ≤ σ 5 t - 1 := bLine_t c6
    have h9 : 0 ≤ σ 5 t ∧ σ 5 t ≤ 8 := hI.2.2.2.2.2.2.2.1 t
    refine r_aload_n C rfl dX6_cost_9 ?_
    refine r_iload_n C rfl dX6_cost_10 ?_
    refine r_callV (As := [_]) C (c_X6_isStar _ _ _ (by omega) hI) ok_X6_isStar ln_X6_87 rfl rfl rfl rfl (Nat.le_of_ble_eq_true rfl) (Nat.le_of_ble_eq_true rfl) (Nat.le_of_ble_eq_true rfl) dX6_cost_11 (fun v11 τ11 hq11 => ?_)
    obtain ⟨rfl, rfl⟩ := hq11
    refine r_ifB_ne (tgt := 19) C (by decide) dX6_cost_14 (fun c14 => ?_) (fun c14 => ?_)
    · have h10 : 0 ≤ s ∧ s ≤ σ 0 0 - 1 := bStar_t c14
      refine r_iload C rfl dX6_cost_19 ?_
      refine r_callS (As := [_]) C (c_X6_isYear _ _ _ (by omega)) ok_X6_isYear ln_X6_90 rfl rfl (Nat.le_of_ble_eq_true rfl) (Nat.le_of_ble_eq_true rfl) (Nat.le_of_ble_eq_true rfl) dX6_cost_21 (fun v21 τ21 hq21 => ?_)
      obtain ⟨rfl, rfl⟩ := hq21
      refine r_ifB_eq (tgt := 35) C (by decide) dX6_cost_24 (fun c24 => ?_) (fun c24 => ?_)
      · refine r_bipush C (by decide +kernel) dX6_cost_35 ?_
        refine r_ireturn C rfl ?_ dX6_cost_37
        exact pM_of (by simp [s_cost, bMom, *]) rfl
      · have h11 := bIn_iff.mp c24
        refine r_iload C rfl dX6_cost_27 ?_
        refine r_callS (As := [_]) C (c_X6_isShift _ _ _ (by omega)) ok_X6_isShift ln_X6_117 rfl rfl (Nat.le_of_ble_eq_true rfl) (Nat.le_of_ble_eq_true rfl) (Nat.le_of_ble_eq_true rfl) dX6_cost_29 (fun v29 τ29 hq29 => ?_)
        obtain ⟨rfl, rfl⟩ := hq29
        refine r_ifB_ne (tgt := 38) C (by decide) dX6_cost_32 (fun c32 => ?_) (fun c32 => ?_)
        · have h12 := bIn_iff.mp c32
          refine r_aload_n C rfl dX6_cost_38 ?_
          refine r_iload_n C rfl dX6_cost_39 ?_
          refine r_iload_n C rfl dX6_cost_40 ?_
          refine r_iload_n C rfl dX6_cost_41 ?_
          refine r_iload C rfl dX6_cost_42 ?_
          refine r_iload C rfl dX6_cost_44 ?_
          refine r_callV (As := [_, _, _, _, _]) C (c_X6_face _ _ _ hI (by omega) (by omega) (by omega) (by omega) (by omega)) ok_X6_face ln_X6_120 rfl rfl rfl rfl (Nat.le_of_ble_eq_true rfl) (Nat.le_of_ble_eq_true rfl) (Nat.le_of_ble_eq_true rfl) dX6_cost_46 (fun v46 τ46 hq46 => ?_)
          obtain ⟨rfl, hF, hR⟩ := hq46
          have e2 : vM τ46 = vM σ := hF.vM (by decide)
          have hr2 : -9 ≤ τ46 0 10 ∧ τ46 0 10 ≤ 3 := by rcases hR with h | h <;> omega
          refine r_aload_n C rfl dX6_cost_49 ?_
          refine r_getI (jz := 10) C 5 10 rfl rfl (by decide) rfl uw_X6 fl_X6_109 rfl dX6_cost_50 ?_
          refine r_bipush C (by decide +kernel) dX6_cost_53 ?_
          refine r_icmp_ne (tgt := 63) C (by decide) (by omega) (by omega) dX6_cost_55 (fun c55 => ?_) (fun c55 => ?_)
          · refine r_aload_n C rfl dX6_cost_63 ?_
            refine r_getI (jz := 11) C 5 11 rfl rfl (by decide) rfl uw_X6 fl_X6_106 rfl dX6_cost_64 ?_
            refine r_ireturn C rfl ?_ dX6_cost_67
            refine pM_of (a := vM σ) ?_ e2
            rw [s_cost, if_neg (by simp [*]), if_neg (by simp [bMom, *])]
            rcases hR with ⟨q1, q2, -⟩ | ⟨q1, q2, q3, q4⟩
            · first | (rw [if_pos q1]; done) | (exfalso; omega)
            · first | (rw [if_neg (by omega), q4]; done) | (exfalso; omega)
          · refine r_bipush C (by decide +kernel) dX6_cost_58 ?_
            refine r_goto (tgt := 67) C (by decide) dX6_cost_60 ?_
            refine r_ireturn C rfl ?_ dX6_cost_67
            refine pM_of (a := vM σ) ?_ e2
            rw [s_cost, if_neg (by simp [*]), if_neg (by simp [bMom, *])]
            rcases hR with ⟨q1, q2, -⟩ | ⟨q1, q2, q3, q4⟩
            · first | (rw [if_pos q1]; done) | (exfalso; omega)
            · first | (rw [if_neg (by omega), q4]; done) | (exfalso; omega)
        · refine r_bipush C (by decide +kernel) dX6_cost_35 ?_
          refine r_ireturn C rfl ?_ dX6_cost_37
          exact pM_of (by simp [s_cost, bMom, *]) rfl
    · refine r_iconst C dX6_cost_17 ?_
      refine r_ireturn C rfl ?_ dX6_cost_18
      exact pM_of (by simp [s_cost, *]) rfl
end
section
theorem g_bit8 : ∀ G : Nat, G < 256 → ∀ s : Nat, s < 8 → (iI (G : Int) >>> (iI (s : Int) &&& 31) = iI ((G / 2 ^ s : Nat) : Int)) ∧ (G / 2 ^ s &&& 1 = 0 ↔ G.testBit s = false) := by decide +kernel
theorem p2_8 : ∀ N : Nat, N ≤ 8 → 2 ^ N ≤ 256 := by decide
theorem g_or {G s N : Nat} (hG : G < 2 ^ N) (hs : s < N) : G ||| 2 ^ s < 2 ^ N := Nat.or_lt_two_pow hG (Nat.pow_lt_pow_right (by decide) hs)
theorem sMin_nn {f : Nat → Int} {b : Int} (hb : 0 ≤ b) (hf : ∀ s, 0 ≤ f s) (k : Nat) : 0 ≤ sMin f k b := by
  rcases sMin_at f b k with h | ⟨s, -, h⟩
  · rw [h]; exact hb
  · rw [h]; exact hf s
theorem sC_le (a : pw_H) (l y h i s : Int) : sC a l y h i s ≤ 100000 := by
  cases e : sF a l y h i s with
  | false => unfold sC; rw [e]; simp
  | true => have := sC_t e; omega
/-- the slip of a pair, -9: they don't match or the star doesn't count -/
def sSl (a : pw_H) (l y h i s : Int) : Int := if sF a l y h i s = true then sRk a l i s y h % 4 else -9
/-- the table of pairs is laid for the first i lines -/
def hPt (σ : pw_H) (a : pw_H) (t y h : Int) (N i : Nat) : Prop := ∀ j : Nat, j < i → ∀ s : Nat, s < N → σ 9 ((j : Int) * 8 + s) = sC a t y h j s ∧ σ 10 ((j : Int) * 8 + s) = sSl a t y h j s
/-- the least costs are laid for the lines from i on -/
def hRt (σ : pw_H) (C : Int → Int → Int) (N n i : Nat) : Prop := ∀ j : Nat, i ≤ j → j ≤ n → ∀ G : Nat, G < 2 ^ N → σ 8 (256 * (j : Int) + G) = sB C N n (n - j) G
set_option maxRecDepth 100000 in
set_option maxHeartbeats 8000000 in
theorem c_X6_lay (l : Launch) (G : pw_G) (σ : pw_H) {t : Nat} {y h : Int} (hI : Inv (vM σ)) (ht : t < 6) (hy : -3000 ≤ y ∧ y ≤ 3000) (hh : -600 ≤ h ∧ h ≤ 600) : Ct l shM G mX6_lay [.ref (G.2.1 0), vI (t : Int), vI y, vI h] σ (fun r τ => r = some (vI (sBest (vM σ) t y h)) ∧ Fm [8, 9, 10] σ τ ∧ hPt τ (vM σ) t y h (σ 0 0).toNat (σ 5 t).toNat ∧ hRt τ (sC (vM σ) t y h) (σ 0 0).toNat (σ 5 t).toNat 0) := by
  have h0 : 0 ≤ σ 0 0 ∧ σ 0 0 ≤ 8 := hI.1
  have h9 : 0 ≤ σ 5 t ∧ σ 5 t ≤ 8 := hI.2.2.2.2.2.2.2.1 t
  have hC := sC_0 (a := vM σ) (l := t) (y := y) (h := h)
  have hCl := sC_le (vM σ) t y h
  obtain ⟨N, hN⟩ : ∃ N : Nat, N = (σ 0 0).toNat := ⟨_, rfl⟩
  obtain ⟨n, hn⟩ : ∃ n : Nat, n = (σ 5 t).toNat := ⟨_, rfl⟩
  have hNi : σ 0 0 = (N : Int) := by omega
  have hni : σ 5 t = (n : Int) := by omega
  have hN8 : N ≤ 8 := by omega
  have hn8 : n ≤ 8 := by omega
  have h2N := p2_8 N hN8
  rw [← hN, ← hn]
  refine Ct_of (ls := [some (.ref (G.2.1 0)), some (vI (t : Int)), some (vI y), some (vI h), none, none, none, none, none, none]) (by decide +kernel) (Nat.le_of_ble_eq_true rfl) rfl (fun X C => ?_)
  -- the costs, from the last line back
  have lp3 : ∀ (k : Nat) (υ : pw_H), k ≤ n → Fm [8, 9, 10] σ υ → hPt υ (vM σ) t y h N n → hRt υ (sC (vM σ) t y h) N n k → PW X shM G 178 [some (.ref (G.2.1 0)), some (vI (t : Int)), some (vI y), some (vI h), some (vI (n : Int)), some (vI ((k : Int) - 1)), none, none, none, none] [] υ := by
    intro k
    induction k with
    | zero =>
      intro υ hk hF hP hR
      have e9 := hR 0 (Nat.le_refl 0) (Nat.zero_le n) 0 (Nat.pow_pos (by decide))
      have e10 : υ 8 0 = sBest (vM σ) t y h := by
        rw [Nat.sub_zero, hN, hn] at e9
        exact e9
      refine r_iload C rfl dX6_lay_178 ?_
      refine r_if_lt (tgt := 336) C (by decide) (by omega) dX6_lay_180 (fun c180 => ?_) (fun c180 => ?_)
      · refine r_aload_n C rfl dX6_lay_336 ?_
        refine r_getR C 5 12 rfl rfl (by decide) rfl uw_X6 fl_X6_35 dX6_lay_337 ?_
        refine r_iconst C dX6_lay_340 ?_
        refine r_iaload C rfl (by decide) (by omega) dX6_lay_341 ?_
        refine r_ireturn C rfl ?_ dX6_lay_342
        exact ⟨by rw [e10], hF, hP, hR⟩
      · omega
    | succ k ih =>
      intro υ hk hF hP hR
      have ek : ((k + 1 : Nat) : Int) - 1 = (k : Int) := by omega
      rw [ek]
      have ekn : n - k = (n - (k + 1)) + 1 := by omega
      have eki : ((n : Int) - ((n - (k + 1) + 1 : Nat) : Int)) = (k : Int) := by omega
      -- one set of stars after another
      have lp4 : ∀ (w g : Nat) (υ : pw_H), g + w = 2 ^ N → Fm [8, 9, 10] σ υ → hPt υ (vM σ) t y h N n → hRt υ (sC (vM σ) t y h) N n (k + 1) → (∀ g' : Nat, g' < g → υ 8 (256 * (k : Int) + g') = sB (sC (vM σ) t y h) N n (n - k) g') → PW X shM G 186 [some (.ref (G.2.1 0)), some (vI (t : Int)), some (vI y), some (vI h), some (vI (n : Int)), some (vI (k : Int)), some (vI (g : Int)), none, none, none] [] υ := by
        intro w
        induction w with
        | zero =>
          intro g υ hg hF hP hR hr
          have e0 : υ 0 0 = (N : Int) := (hF.2 0 (by decide) (by decide)).trans hNi
          have hgi : ((2 ^ N : Nat) : Int) ≤ (g : Int) := by omega
          refine r_iload C rfl dX6_lay_186 ?_
          refine r_iconst C dX6_lay_188 ?_
          refine r_aload_n C rfl dX6_lay_189 ?_
          refine r_getI (jz := 0) C 5 0 rfl rfl (by decide) rfl uw_X6 fl_X6_63 rfl dX6_lay_190 ?_
          rw [e0]
          refine r_ishl C (b_shl8 N (by omega)) dX6_lay_193 ?_
          refine r_icmp_ge (tgt := 330) C (by decide) (by omega) (by omega) dX6_lay_194 (fun c194 => ?_) (fun c194 => ?_)
          · refine r_iinc (ls' := [_, _, _, _, _, _, _, _, _, _]) C rfl (by decide) rfl rfl dX6_lay_330 ?_
            refine r_goto (tgt := 178) C (by decide) dX6_lay_333 ?_
            refine PW_lw [true, true, true, true, true, true, false, false, false, false] (ih υ (by omega) hF hP (fun j j1 j2 G' hG' => ?_)) rfl
            rcases Nat.lt_or_ge k j with q | q
            · exact hR j (by omega) j2 G' hG'
            · have : j = k := by omega
              subst this
              exact hr G' (by omega)
          · omega
        | succ w ihw =>
          intro g υ hg hF hP hR hr
          have e0 : υ 0 0 = (N : Int) := (hF.2 0 (by decide) (by decide)).trans hNi
          have hg2 : g < 2 ^ N := by omega
          have hgi : (g : Int) < ((2 ^ N : Nat) : Int) := by omega
          have hg256 : g < 256 := by omega
          have hB := sB_rng (N := N) (n := n) hC
          have e5 := hR (k + 1) (Nat.le_refl _) (by omega) g hg2
          have hb0 := hB (n - (k + 1)) g
          have ei : 256 * (k : Int) + 256 + (g : Int) = 256 * ((k + 1 : Nat) : Int) + (g : Int) := by omega
          have hf0 : ∀ s : Nat, 0 ≤ (fun s : Nat => if g.testBit s = true then 100000 else sC (vM σ) t y h k s + sB (sC (vM σ) t y h) N n (n - (k + 1)) (g ||| 2 ^ s)) s := by
            intro s
            simp only []
            have := hB (n - (k + 1)) (g ||| 2 ^ s)
            have := hC k s
            split <;> omega
          have es : sB (sC (vM σ) t y h) N n (n - k) g = sMin (fun s : Nat => if g.testBit s = true then 100000 else sC (vM σ) t y h k s + sB (sC (vM σ) t y h) N n (n - (k + 1)) (g ||| 2 ^ s)) N (100 + sB (sC (vM σ) t y h) N n (n - (k + 1)) g) := by
            rw [ekn]
            simp only [sB]
            rw [eki]
          -- one star after another
          have lp5 : ∀ (v s : Nat), s + v = N → PW X shM G 223 [some (.ref (G.2.1 0)), some (vI (t : Int)), some (vI y), some (vI h), some (vI (n : Int)), some (vI (k : Int)), some (vI (g : Int)), some (vI (sMin (fun s : Nat => if g.testBit s = true then 100000 else sC (vM σ) t y h k s + sB (sC (vM σ) t y h) N n (n - (k + 1)) (g ||| 2 ^ s)) s (100 + sB (sC (vM σ) t y h) N n (n - (k + 1)) g))), some (vI (s : Int)), none] [] υ := by
            intro v
            induction v with
            | zero =>
              intro s hs
              have hsN : s = N := by omega
              subst hsN
              refine r_iload C rfl dX6_lay_223 ?_
              refine r_aload_n C rfl dX6_lay_225 ?_
              refine r_getI (jz := 0) C 5 0 rfl rfl (by decide) rfl uw_X6 fl_X6_63 rfl dX6_lay_226 ?_
              refine r_icmp_ge (tgt := 308) C (by decide) (by omega) (by omega) dX6_lay_229 (fun c229 => ?_) (fun c229 => ?_)
              · refine r_aload_n C rfl dX6_lay_308 ?_
                refine r_getR C 5 12 rfl rfl (by decide) rfl uw_X6 fl_X6_35 dX6_lay_309 ?_
                refine r_sipush C (by decide +kernel) dX6_lay_312 ?_
                refine r_iload C rfl dX6_lay_315 ?_
                refine r_imul C dX6_lay_317 ?_
                refine r_iload C rfl dX6_lay_318 ?_
                refine r_iadd C dX6_lay_320 ?_
                refine r_iload C rfl dX6_lay_321 ?_
                refine r_iastore C rfl (by decide) (by omega) dX6_lay_323 ?_
                refine r_iinc (ls' := [_, _, _, _, _, _, _, _, _, _]) C rfl (by decide) rfl rfl dX6_lay_324 ?_
                refine r_goto (tgt := 186) C (by decide) dX6_lay_327 ?_
                refine PW_lw [true, true, true, true, true, true, true, false, false, false] (ihw (g + 1) _ (by omega) (hF.tr (Fm.u (by decide) (by decide)) (fun _ q => q) (fun _ q => q)) (fun j j1 s s1 => by rw [pw_u_k (by decide), pw_u_k (by decide)]; exact hP j j1 s s1) (fun j j1 j2 G' hG' => by rw [pw_u_j (by omega)]; exact hR j j1 j2 G' hG') (fun g' hg' => ?_)) rfl
                by_cases q : g' = g
                · subst q
                  rw [pw_u_s, ← es]
                · rw [pw_u_j (by omega)]; exact hr g' (by omega)
              · omega
            | succ v ihv =>
              intro s hs
              have hs8 : s < 8 := by omega
              obtain ⟨hb1, hb2⟩ := g_bit8 g hg256 s hs8
              have e6 := hP k (by omega) s (by omega)
              have e7 := hR (k + 1) (Nat.le_refl _) (by omega) (g ||| 2 ^ s) (g_or hg2 (by omega))
              have hb3 := hB (n - (k + 1)) (g ||| 2 ^ s)
              have hc0 := hC k s
              have hc1 := hCl k s
              have hor := g_or hg2 (show s < N by omega)
              have ei2 : 256 * (k : Int) + 256 + ((g ||| 2 ^ s : Nat) : Int) = 256 * ((k + 1 : Nat) : Int) + ((g ||| 2 ^ s : Nat) : Int) := by omega
              have hm0 := sMin_nn (show 0 ≤ 100 + sB (sC (vM σ) t y h) N n (n - (k + 1)) g by omega) hf0 s
              have hm1 := sMin_init (fun s : Nat => if g.testBit s = true then 100000 else sC (vM σ) t y h k s + sB (sC (vM σ) t y h) N n (n - (k + 1)) (g ||| 2 ^ s)) (100 + sB (sC (vM σ) t y h) N n (n - (k + 1)) g) s
              have hand : g / 2 ^ s &&& 1 ≤ 1 := Nat.and_le_right
              have estep : ∀ c : Int, c = (if g.testBit s = true then 100000 else sC (vM σ) t y h k s + sB (sC (vM σ) t y h) N n (n - (k + 1)) (g ||| 2 ^ s)) → sMin (fun s : Nat => if g.testBit s = true then 100000 else sC (vM σ) t y h k s + sB (sC (vM σ) t y h) N n (n - (k + 1)) (g ||| 2 ^ s)) (s + 1) (100 + sB (sC (vM σ) t y h) N n (n - (k + 1)) g) = zmin (sMin (fun s : Nat => if g.testBit s = true then 100000 else sC (vM σ) t y h k s + sB (sC (vM σ) t y h) N n (n - (k + 1)) (g ||| 2 ^ s)) s (100 + sB (sC (vM σ) t y h) N n (n - (k + 1)) g)) c := fun c hc => by rw [hc]; rfl
              have fin : ∀ c : Int, 0 ≤ c → c ≤ 1000000 → c = (if g.testBit s = true then 100000 else sC (vM σ) t y h k s + sB (sC (vM σ) t y h) N n (n - (k + 1)) (g ||| 2 ^ s)) → PW X shM G 284 [some (.ref (G.2.1 0)), some (vI (t : Int)), some (vI y), some (vI h), some (vI (n : Int)), some (vI (k : Int)), some (vI (g : Int)), some (vI (sMin (fun s : Nat => if g.testBit s = true then 100000 else sC (vM σ) t y h k s + sB (sC (vM σ) t y h) N n (n - (k + 1)) (g ||| 2 ^ s)) s (100 + sB (sC (vM σ) t y h) N n (n - (k + 1)) g))), some (vI (s : Int)), none] [vI c] υ := by
                intro c c0 c1 hc
                have e8 := estep c hc
                refine r_istore (ls' := [_, _, _, _, _, _, _, _, _, _]) C (by decide) rfl rfl dX6_lay_284 ?_
                refine r_iload C rfl dX6_lay_286 ?_
                refine r_iload C rfl dX6_lay_288 ?_
                refine r_icmp_ge (tgt := 298) C (by decide) (by omega) (by omega) dX6_lay_290 (fun c290 => ?_) (fun c290 => ?_)
                · refine r_iload C rfl dX6_lay_298 ?_
                  refine r_istore (ls' := [_, _, _, _, _, _, _, _, _, _]) C (by decide) rfl rfl dX6_lay_300 ?_
                  refine r_iinc (ls' := [_, _, _, _, _, _, _, _, _, _]) C rfl (by decide) rfl rfl dX6_lay_302 ?_
                  refine r_goto (tgt := 223) C (by decide) dX6_lay_305 ?_
                  refine PW_lw [true, true, true, true, true, true, true, true, true, false] (ihv (s + 1) (by omega)) ?_
                  rw [e8, zmin, if_neg (by omega)]
                  rfl
                · refine r_iload C rfl dX6_lay_293 ?_
                  refine r_goto (tgt := 300) C (by decide) dX6_lay_295 ?_
                  refine r_istore (ls' := [_, _, _, _, _, _, _, _, _, _]) C (by decide) rfl rfl dX6_lay_300 ?_
                  refine r_iinc (ls' := [_, _, _, _, _, _, _, _, _, _]) C rfl (by decide) rfl rfl dX6_lay_302 ?_
                  refine r_goto (tgt := 223) C (by decide) dX6_lay_305 ?_
                  refine PW_lw [true, true, true, true, true, true, true, true, true, false] (ihv (s + 1) (by omega)) ?_
                  rw [e8, zmin, if_pos (by omega)]
                  rfl
              refine r_iload C rfl dX6_lay_223 ?_
              refine r_aload_n C rfl dX6_lay_225 ?_
              refine r_getI (jz := 0) C 5 0 rfl rfl (by decide) rfl uw_X6 fl_X6_63 rfl dX6_lay_226 ?_
              refine r_icmp_ge (tgt := 308) C (by decide) (by omega) (by omega) dX6_lay_229 (fun c229 => ?_) (fun c229 => ?_)
              · omega
              · refine r_iload C rfl dX6_lay_232 ?_
                refine r_iload C rfl dX6_lay_234 ?_
                refine r_ishr C hb1 dX6_lay_236 ?_
                refine r_iconst C dX6_lay_237 ?_
                refine r_iand C (b_and (g / 2 ^ s) 1) dX6_lay_238 ?_
                refine r_if_ne (tgt := 282) C (by decide) (by omega) dX6_lay_239 (fun c239 => ?_) (fun c239 => ?_)
                · refine r_ldc C (z := 100000) cn_X6_112 (by decide +kernel) dX6_lay_282 ?_
                  refine fin 100000 (by decide) (by decide) ?_
                  have hbt : g.testBit s = true := by
                    rcases Bool.eq_false_or_eq_true (g.testBit s) with q | q
                    · exact q
                    · exact absurd (by rw [hb2.mpr q]; rfl) c239
                  rw [if_pos hbt]
                · refine r_aload_n C rfl dX6_lay_242 ?_
                  refine r_getR C 5 13 rfl rfl (by decide) rfl uw_X6 fl_X6_38 dX6_lay_243 ?_
                  refine r_bipush C (by decide +kernel) dX6_lay_246 ?_
                  refine r_iload C rfl dX6_lay_248 ?_
                  refine r_imul C dX6_lay_250 ?_
                  rw [Int.mul_comm (8 : Int)]
                  refine r_iload C rfl dX6_lay_251 ?_
                  refine r_iadd C dX6_lay_253 ?_
                  refine r_iaload C rfl (by decide) (by omega) dX6_lay_254 ?_
                  rw [e6.1]
                  refine r_aload_n C rfl dX6_lay_255 ?_
                  refine r_getR C 5 12 rfl rfl (by decide) rfl uw_X6 fl_X6_35 dX6_lay_256 ?_
                  refine r_sipush C (by decide +kernel) dX6_lay_259 ?_
                  refine r_iload C rfl dX6_lay_262 ?_
                  refine r_imul C dX6_lay_264 ?_
                  refine r_sipush C (by decide +kernel) dX6_lay_265 ?_
                  refine r_iadd C dX6_lay_268 ?_
                  refine r_iload C rfl dX6_lay_269 ?_
                  refine r_iconst C dX6_lay_271 ?_
                  refine r_iload C rfl dX6_lay_272 ?_
                  refine r_ishl C (b_shl8 s (by omega)) dX6_lay_274 ?_
                  refine r_ior C (b_or g (2 ^ s)) dX6_lay_275 ?_
                  refine r_iadd C dX6_lay_276 ?_
                  rw [ei2]
                  refine r_iaload C rfl (by decide) (by omega) dX6_lay_277 ?_
                  rw [e7]
                  refine r_iadd C dX6_lay_278 ?_
                  refine r_goto (tgt := 284) C (by decide) dX6_lay_279 ?_
                  refine fin _ (by omega) (by omega) ?_
                  have hbt : g.testBit s = false := hb2.mp (by omega)
                  rw [hbt]
                  simp
          refine r_iload C rfl dX6_lay_186 ?_
          refine r_iconst C dX6_lay_188 ?_
          refine r_aload_n C rfl dX6_lay_189 ?_
          refine r_getI (jz := 0) C 5 0 rfl rfl (by decide) rfl uw_X6 fl_X6_63 rfl dX6_lay_190 ?_
          rw [e0]
          refine r_ishl C (b_shl8 N (by omega)) dX6_lay_193 ?_
          refine r_icmp_ge (tgt := 330) C (by decide) (by omega) (by omega) dX6_lay_194 (fun c194 => ?_) (fun c194 => ?_)
          · omega
          · refine r_bipush C (by decide +kernel) dX6_lay_197 ?_
            refine r_aload_n C rfl dX6_lay_199 ?_
            refine r_getR C 5 12 rfl rfl (by decide) rfl uw_X6 fl_X6_35 dX6_lay_200 ?_
            refine r_sipush C (by decide +kernel) dX6_lay_203 ?_
            refine r_iload C rfl dX6_lay_206 ?_
            refine r_imul C dX6_lay_208 ?_
            refine r_sipush C (by decide +kernel) dX6_lay_209 ?_
            refine r_iadd C dX6_lay_212 ?_
            refine r_iload C rfl dX6_lay_213 ?_
            refine r_iadd C dX6_lay_215 ?_
            rw [ei]
            refine r_iaload C rfl (by decide) (by omega) dX6_lay_216 ?_
            rw [e5]
            refine r_iadd C dX6_lay_217 ?_
            refine r_istore (ls' := [_, _, _, _, _, _, _, _, _, _]) C (by decide) rfl rfl dX6_lay_218 ?_
            refine r_iconst C dX6_lay_220 ?_
            refine r_istore (ls' := [_, _, _, _, _, _, _, _, _, _]) C (by decide) rfl rfl dX6_lay_221 ?_
            exact lp5 N 0 (by omega)
      refine r_iload C rfl dX6_lay_178 ?_
      refine r_if_lt (tgt := 336) C (by decide) (by omega) dX6_lay_180 (fun c180 => ?_) (fun c180 => ?_)
      · omega
      · refine r_iconst C dX6_lay_183 ?_
        refine r_istore (ls' := [_, _, _, _, _, _, _, _, _, _]) C (by decide) rfl rfl dX6_lay_184 ?_
        exact lp4 (2 ^ N) 0 υ (by omega) hF hP hR (fun g' hg' => by omega)
  -- behind the last line nothing costs anything
  have lp2 : ∀ (w g : Nat) (υ : pw_H), g + w = 2 ^ N → Fm [8, 9, 10] σ υ → hPt υ (vM σ) t y h N n → (∀ g' : Nat, g' < g → υ 8 (256 * (n : Int) + g') = 0) → PW X shM G 140 [some (.ref (G.2.1 0)), some (vI (t : Int)), some (vI y), some (vI h), some (vI (n : Int)), some (vI (g : Int)), none, none, none, none] [] υ := by
    intro w
    induction w with
    | zero =>
      intro g υ hg hF hP hr
      have e0 : υ 0 0 = (N : Int) := (hF.2 0 (by decide) (by decide)).trans hNi
      have hgi : ((2 ^ N : Nat) : Int) ≤ (g : Int) := by omega
      refine r_iload C rfl dX6_lay_140 ?_
      refine r_iconst C dX6_lay_142 ?_
      refine r_aload_n C rfl dX6_lay_143 ?_
      refine r_getI (jz := 0) C 5 0 rfl rfl (by decide) rfl uw_X6 fl_X6_63 rfl dX6_lay_144 ?_
      rw [e0]
      refine r_ishl C (b_shl8 N (by omega)) dX6_lay_147 ?_
      refine r_icmp_ge (tgt := 172) C (by decide) (by omega) (by omega) dX6_lay_148 (fun c148 => ?_) (fun c148 => ?_)
      · refine r_iload C rfl dX6_lay_172 ?_
        refine r_iconst C dX6_lay_174 ?_
        refine r_isub C dX6_lay_175 ?_
        refine r_istore (ls' := [_, _, _, _, _, _, _, _, _, _]) C (by decide) rfl rfl dX6_lay_176 ?_
        refine lp3 n υ (Nat.le_refl n) hF hP (fun j j1 j2 G' hG' => ?_)
        have : j = n := by omega
        subst this
        rw [Nat.sub_self]
        exact hr G' (by omega)
      · omega
    | succ w ihw =>
      intro g υ hg hF hP hr
      have e0 : υ 0 0 = (N : Int) := (hF.2 0 (by decide) (by decide)).trans hNi
      have hgi : (g : Int) < ((2 ^ N : Nat) : Int) := by omega
      refine r_iload C rfl dX6_lay_140 ?_
      refine r_iconst C dX6_lay_142 ?_
      refine r_aload_n C rfl dX6_lay_143 ?_
      refine r_getI (jz := 0) C 5 0 rfl rfl (by decide) rfl uw_X6 fl_X6_63 rfl dX6_lay_144 ?_
      rw [e0]
      refine r_ishl C (b_shl8 N (by omega)) dX6_lay_147 ?_
      refine r_icmp_ge (tgt := 172) C (by decide) (by omega) (by omega) dX6_lay_148 (fun c148 => ?_) (fun c148 => ?_)
      · omega
      · refine r_aload_n C rfl dX6_lay_151 ?_
        refine r_getR C 5 12 rfl rfl (by decide) rfl uw_X6 fl_X6_35 dX6_lay_152 ?_
        refine r_sipush C (by decide +kernel) dX6_lay_155 ?_
        refine r_iload C rfl dX6_lay_158 ?_
        refine r_imul C dX6_lay_160 ?_
        refine r_iload C rfl dX6_lay_161 ?_
        refine r_iadd C dX6_lay_163 ?_
        refine r_iconst C dX6_lay_164 ?_
        refine r_iastore C rfl (by decide) (by omega) dX6_lay_165 ?_
        refine r_iinc (ls' := [_, _, _, _, _, _, _, _, _, _]) C rfl (by decide) rfl rfl dX6_lay_166 ?_
        refine r_goto (tgt := 140) C (by decide) dX6_lay_169 ?_
        refine ihw (g + 1) _ (by omega) (hF.tr (Fm.u (by decide) (by decide)) (fun _ q => q) (fun _ q => q)) (fun j j1 s s1 => by rw [pw_u_k (by decide), pw_u_k (by decide)]; exact hP j j1 s s1) (fun g' hg' => ?_)
        by_cases q : g' = g
        · subst q; rw [pw_u_s]
        · rw [pw_u_j (by omega)]; exact hr g' (by omega)
  -- the table of pairs
  have lp1 : ∀ (w i : Nat) (υ : pw_H), i + w = n → Fm [8, 9, 10] σ υ → hPt υ (vM σ) t y h N i → PW X shM G 11 [some (.ref (G.2.1 0)), some (vI (t : Int)), some (vI y), some (vI h), some (vI (n : Int)), some (vI (i : Int)), none, none, none, none] [] υ := by
    intro w
    induction w with
    | zero =>
      intro i υ hi hF hP
      have ein : i = n := by omega
      subst ein
      refine r_iload C rfl dX6_lay_11 ?_
      refine r_iload C rfl dX6_lay_13 ?_
      refine r_icmp_ge (tgt := 137) C (by decide) (by omega) (by omega) dX6_lay_15 (fun c15 => ?_) (fun c15 => ?_)
      · refine r_iconst C dX6_lay_137 ?_
        refine r_istore (ls' := [_, _, _, _, _, _, _, _, _, _]) C (by decide) rfl rfl dX6_lay_138 ?_
        exact lp2 (2 ^ N) 0 υ (by omega) hF hP (fun g' hg' => by omega)
      · omega
    | succ w ih =>
      intro i υ hi hF hP
      have hi8 : i < 8 := by omega
      have lp0 : ∀ (v s : Nat) (υ : pw_H), s + v = N → Fm [8, 9, 10] σ υ → hPt υ (vM σ) t y h N i → (∀ s' : Nat, s' < s → υ 9 ((i : Int) * 8 + s') = sC (vM σ) t y h i s' ∧ υ 10 ((i : Int) * 8 + s') = sSl (vM σ) t y h i s') → PW X shM G 21 [some (.ref (G.2.1 0)), some (vI (t : Int)), some (vI y), some (vI h), some (vI (n : Int)), some (vI (i : Int)), some (vI (s : Int)), none, none, none] [] υ := by
        intro v
        induction v with
        | zero =>
          intro s υ hs hF hP hrow
          have e0 : υ 0 0 = (N : Int) := (hF.2 0 (by decide) (by decide)).trans hNi
          refine r_iload C rfl dX6_lay_21 ?_
          refine r_aload_n C rfl dX6_lay_23 ?_
          refine r_getI (jz := 0) C 5 0 rfl rfl (by decide) rfl uw_X6 fl_X6_63 rfl dX6_lay_24 ?_
          refine r_icmp_ge (tgt := 131) C (by decide) (by omega) (by omega) dX6_lay_27 (fun c27 => ?_) (fun c27 => ?_)
          · refine r_iinc (ls' := [_, _, _, _, _, _, _, _, _, _]) C rfl (by decide) rfl rfl dX6_lay_131 ?_
            refine r_goto (tgt := 11) C (by decide) dX6_lay_134 ?_
            refine PW_lw [true, true, true, true, true, true, false, false, false, false] (ih (i + 1) υ (by omega) hF (fun j j1 s' s1 => ?_)) rfl
            by_cases q : j = i
            · subst q; exact hrow s' (by omega)
            · exact hP j (by omega) s' s1
          · omega
        | succ v ihv =>
          intro s υ hs hF hP hrow
          have e0 : υ 0 0 = (N : Int) := (hF.2 0 (by decide) (by decide)).trans hNi
          have e2 : vM υ = vM σ := hF.vM (by decide)
          refine r_iload C rfl dX6_lay_21 ?_
          refine r_aload_n C rfl dX6_lay_23 ?_
          refine r_getI (jz := 0) C 5 0 rfl rfl (by decide) rfl uw_X6 fl_X6_63 rfl dX6_lay_24 ?_
          refine r_icmp_ge (tgt := 131) C (by decide) (by omega) (by omega) dX6_lay_27 (fun c27 => ?_) (fun c27 => ?_)
          · omega
          · refine r_aload_n C rfl dX6_lay_30 ?_
            refine r_iload_n C rfl dX6_lay_31 ?_
            refine r_iload C rfl dX6_lay_32 ?_
            refine r_iload C rfl dX6_lay_34 ?_
            refine r_iload_n C rfl dX6_lay_36 ?_
            refine r_iload_n C rfl dX6_lay_37 ?_
            refine r_callV (As := [_, _, _, _, _]) C (c_X6_face _ _ _ (e2 ▸ hI) (by omega) (by omega) (by omega) hy hh) ok_X6_face ln_X6_120 rfl rfl rfl rfl (Nat.le_of_ble_eq_true rfl) (Nat.le_of_ble_eq_true rfl) (Nat.le_of_ble_eq_true rfl) dX6_lay_38 (fun v38 τ38 hq38 => ?_)
            obtain ⟨rfl, hF2, hR⟩ := hq38
            rw [e2] at hR
            have hF3 : Fm [8, 9, 10] σ τ38 := hF.tr hF2 (fun _ q => q) (fun _ q => by cases q)
            have hr2 : (-9 ≤ τ38 0 10 ∧ τ38 0 10 ≤ 3) ∧ 0 ≤ τ38 0 11 ∧ τ38 0 11 ≤ 100000 := by rcases hR with z | z <;> omega
            have e4 : τ38 4 s = σ 4 s := congrFun (hF3.1 4 (by decide) (by decide)) _
            have e5 : τ38 0 5 = σ 0 5 := hF3.2 5 (by decide) (by decide)
            have b4 : 0 ≤ σ 4 s ∧ σ 4 s ≤ 6 := hI.2.2.2.2.2.2.1 _
            have b5 : 0 ≤ σ 0 5 ∧ σ 0 5 ≤ 6 := hI.2.1
            have e9 : τ38 9 = υ 9 := hF2.1 9 (by decide) (by decide)
            have e10 : τ38 10 = υ 10 := hF2.1 10 (by decide) (by decide)
            have mid : ∀ b : Bool, b = sF (vM σ) t y h i s → PW X shM G 69 [some (.ref (G.2.1 0)), some (vI (t : Int)), some (vI y), some (vI h), some (vI (n : Int)), some (vI (i : Int)), some (vI (s : Int)), none, none, none] [vI (zB b)] τ38 := by
              intro b hb
              have hval : (if b = true then τ38 0 11 else 100000) = sC (vM σ) t y h i s ∧ (if b = true then τ38 0 10 else -9) = sSl (vM σ) t y h i s := by
                cases hbb : b with
                | false => rw [hbb] at hb; unfold sC sSl; rw [← hb]; simp
                | true =>
                  rw [hbb] at hb
                  have q1 := sC_t hb.symm
                  unfold sSl
                  rw [← hb, q1.1]
                  simp only [if_true]
                  rcases hR with ⟨z1, z2, z3⟩ | ⟨z1, z2, z3, z4⟩
                  · exfalso; omega
                  · exact ⟨z4, z3⟩
              have next : ∀ c f : Int, c = sC (vM σ) t y h i s → f = sSl (vM σ) t y h i s → PW X shM G 21 [some (.ref (G.2.1 0)), some (vI (t : Int)), some (vI y), some (vI h), some (vI (n : Int)), some (vI (i : Int)), some (vI ((s : Int) + 1)), none, none, none] [] (pw_u (pw_u τ38 9 ((i : Int) * 8 + s) c) 10 ((i : Int) * 8 + s) f) := by
                intro c f hc hf
                refine ihv (s + 1) _ (by omega) ((hF3.tr (Fm.u (ks := [8, 9, 10]) (by decide) (by decide)) (fun _ q => q) (fun _ q => q)).tr (Fm.u (by decide) (by decide)) (fun _ q => q) (fun _ q => q)) (fun j j1 s' s1 => ?_) (fun s' s1 => ?_)
                · have := hP j j1 s' s1
                  rw [pw_u_k (by decide), pw_u_j (by omega), pw_u_j (by omega), pw_u_k (by decide), e9, e10]
                  exact this
                · by_cases q : s' = s
                  · subst q
                    rw [pw_u_k (by decide), pw_u_s, pw_u_s]
                    exact ⟨hc, hf⟩
                  · rw [pw_u_k (by decide), pw_u_j (by omega), pw_u_j (by omega), pw_u_k (by decide), e9, e10]
                    exact hrow s' (by omega)
              refine r_istore (ls' := [_, _, _, _, _, _, _, _, _, _]) C (by decide) rfl rfl dX6_lay_69 ?_
              refine r_aload_n C rfl dX6_lay_71 ?_
              refine r_getR C 5 13 rfl rfl (by decide) rfl uw_X6 fl_X6_38 dX6_lay_72 ?_
              refine r_bipush C (by decide +kernel) dX6_lay_75 ?_
              refine r_iload C rfl dX6_lay_77 ?_
              refine r_imul C dX6_lay_79 ?_
              rw [Int.mul_comm (8 : Int)]
              refine r_iload C rfl dX6_lay_80 ?_
              refine r_iadd C dX6_lay_82 ?_
              refine r_iload C rfl dX6_lay_83 ?_
              refine r_ifB_eq (tgt := 95) C (by decide) dX6_lay_85 (fun c85 => ?_) (fun c85 => ?_)
              · refine r_ldc C (z := 100000) cn_X6_112 (by decide +kernel) dX6_lay_95 ?_
                refine r_iastore C rfl (by decide) (by omega) dX6_lay_97 ?_
                refine r_aload_n C rfl dX6_lay_98 ?_
                refine r_getR C 5 14 rfl rfl (by decide) rfl uw_X6 fl_X6_41 dX6_lay_99 ?_
                refine r_bipush C (by decide +kernel) dX6_lay_102 ?_
                refine r_iload C rfl dX6_lay_104 ?_
                refine r_imul C dX6_lay_106 ?_
                rw [Int.mul_comm (8 : Int)]
                refine r_iload C rfl dX6_lay_107 ?_
                refine r_iadd C dX6_lay_109 ?_
                refine r_iload C rfl dX6_lay_110 ?_
                refine r_ifB_eq (tgt := 122) C (by decide) dX6_lay_112 (fun c112 => ?_) (fun c112 => ?_)
                · refine r_bipush C (by decide +kernel) dX6_lay_122 ?_
                  refine r_iastore C rfl (by decide) (by omega) dX6_lay_124 ?_
                  refine r_iinc (ls' := [_, _, _, _, _, _, _, _, _, _]) C rfl (by decide) rfl rfl dX6_lay_125 ?_
                  refine r_goto (tgt := 21) C (by decide) dX6_lay_128 ?_
                  first | (rw [c85] at c112; cases c112; done) | exact PW_lw [true, true, true, true, true, true, true, false, false, false] (next _ _ (by rw [c85] at hval; exact hval.1) (by rw [c85] at hval; exact hval.2)) rfl
                · refine r_aload_n C rfl dX6_lay_115 ?_
                  refine r_getI (jz := 10) C 5 10 rfl rfl (by decide) rfl uw_X6 fl_X6_109 rfl dX6_lay_116 ?_
                  try simp (disch := decide) only [pw_u_k, pw_u_j, pw_u_s]
                  refine r_goto (tgt := 124) C (by decide) dX6_lay_119 ?_
                  refine r_iastore C rfl (by decide) (by omega) dX6_lay_124 ?_
                  refine r_iinc (ls' := [_, _, _, _, _, _, _, _, _, _]) C rfl (by decide) rfl rfl dX6_lay_125 ?_
                  refine r_goto (tgt := 21) C (by decide) dX6_lay_128 ?_
                  first | (rw [c85] at c112; cases c112; done) | exact PW_lw [true, true, true, true, true, true, true, false, false, false] (next _ _ (by rw [c85] at hval; exact hval.1) (by rw [c85] at hval; exact hval.2)) rfl
              · refine r_aload_n C rfl dX6_lay_88 ?_
                refine r_getI (jz := 11) C 5 11 rfl rfl (by decide) rfl uw_X6 fl_X6_106 rfl dX6_lay_89 ?_
                refine r_goto (tgt := 97) C (by decide) dX6_lay_92 ?_
                refine r_iastore C rfl (by decide) (by omega) dX6_lay_97 ?_
                refine r_aload_n C rfl dX6_lay_98 ?_
                refine r_getR C 5 14 rfl rfl (by decide) rfl uw_X6 fl_X6_41 dX6_lay_99 ?_
                refine r_bipush C (by decide +kernel) dX6_lay_102 ?_
                refine r_iload C rfl dX6_lay_104 ?_
                refine r_imul C dX6_lay_106 ?_
                rw [Int.mul_comm (8 : Int)]
                refine r_iload C rfl dX6_lay_107 ?_
                refine r_iadd C dX6_lay_109 ?_
                refine r_iload C rfl dX6_lay_110 ?_
                refine r_ifB_eq (tgt := 122) C (by decide) dX6_lay_112 (fun c112 => ?_) (fun c112 => ?_)
                · refine r_bipush C (by decide +kernel) dX6_lay_122 ?_
                  refine r_iastore C rfl (by decide) (by omega) dX6_lay_124 ?_
                  refine r_iinc (ls' := [_, _, _, _, _, _, _, _, _, _]) C rfl (by decide) rfl rfl dX6_lay_125 ?_
                  refine r_goto (tgt := 21) C (by decide) dX6_lay_128 ?_
                  first | (rw [c85] at c112; cases c112; done) | exact PW_lw [true, true, true, true, true, true, true, false, false, false] (next _ _ (by rw [c85] at hval; exact hval.1) (by rw [c85] at hval; exact hval.2)) rfl
                · refine r_aload_n C rfl dX6_lay_115 ?_
                  refine r_getI (jz := 10) C 5 10 rfl rfl (by decide) rfl uw_X6 fl_X6_109 rfl dX6_lay_116 ?_
                  try simp (disch := decide) only [pw_u_k, pw_u_j, pw_u_s]
                  refine r_goto (tgt := 124) C (by decide) dX6_lay_119 ?_
                  refine r_iastore C rfl (by decide) (by omega) dX6_lay_124 ?_
                  refine r_iinc (ls' := [_, _, _, _, _, _, _, _, _, _]) C rfl (by decide) rfl rfl dX6_lay_125 ?_
                  refine r_goto (tgt := 21) C (by decide) dX6_lay_128 ?_
                  first | (rw [c85] at c112; cases c112; done) | exact PW_lw [true, true, true, true, true, true, true, false, false, false] (next _ _ (by rw [c85] at hval; exact hval.1) (by rw [c85] at hval; exact hval.2)) rfl
            refine r_aload_n C rfl dX6_lay_41 ?_
            refine r_getI (jz := 10) C 5 10 rfl rfl (by decide) rfl uw_X6 fl_X6_109 rfl dX6_lay_42 ?_
            refine r_bipush C (by decide +kernel) dX6_lay_45 ?_
            refine r_icmp_eq (tgt := 68) C (by decide) (by omega) (by omega) dX6_lay_47 (fun c47 => ?_) (fun c47 => ?_)
            · refine r_iconst C dX6_lay_68 ?_
              refine mid false ?_
              have q : sRk (vM σ) t i s y h = 1048576 := by rcases hR with z | z <;> omega
              unfold sF
              rw [decide_eq_true q]; simp
            · refine r_aload_n C rfl dX6_lay_50 ?_
              refine r_getR C 5 4 rfl rfl (by decide) rfl uw_X6 fl_X6_19 dX6_lay_51 ?_
              refine r_iload C rfl dX6_lay_54 ?_
              refine r_iaload C rfl (by decide) (by omega) dX6_lay_56 ?_
              rw [e4]
              refine r_aload_n C rfl dX6_lay_57 ?_
              refine r_getI (jz := 5) C 5 5 rfl rfl (by decide) rfl uw_X6 fl_X6_22 rfl dX6_lay_58 ?_
              rw [e5]
              refine r_icmp_gt (tgt := 68) C (by decide) (by omega) (by omega) dX6_lay_61 (fun c61 => ?_) (fun c61 => ?_)
              · refine r_iconst C dX6_lay_68 ?_
                refine mid false ?_
                unfold sF
                rw [decide_eq_false (show ¬ vM σ 4 s ≤ vM σ 0 1 from (by omega : ¬ σ 4 s ≤ σ 0 5))]; rfl
              · refine r_iconst C dX6_lay_64 ?_
                refine r_goto (tgt := 69) C (by decide) dX6_lay_65 ?_
                refine mid true ?_
                have q : ¬ sRk (vM σ) t i s y h = 1048576 := by rcases hR with z | z <;> omega
                unfold sF
                rw [decide_eq_true (show vM σ 4 s ≤ vM σ 0 1 from (by omega : σ 4 s ≤ σ 0 5)), decide_eq_false q]; rfl
      refine r_iload C rfl dX6_lay_11 ?_
      refine r_iload C rfl dX6_lay_13 ?_
      refine r_icmp_ge (tgt := 137) C (by decide) (by omega) (by omega) dX6_lay_15 (fun c15 => ?_) (fun c15 => ?_)
      · omega
      · refine r_iconst C dX6_lay_18 ?_
        refine r_istore (ls' := [_, _, _, _, _, _, _, _, _, _]) C (by decide) rfl rfl dX6_lay_19 ?_
        exact lp0 N 0 υ (by omega) hF hP (fun s' s1 => by omega)
  refine r_aload_n C rfl dX6_lay_0 ?_
  refine r_getR C 5 7 rfl rfl (by decide) rfl uw_X6 fl_X6_26 dX6_lay_1 ?_
  refine r_iload_n C rfl dX6_lay_4 ?_
  refine r_iaload C rfl (by decide) (by omega) dX6_lay_5 ?_
  rw [hni]
  refine r_istore (ls' := [_, _, _, _, _, _, _, _, _, _]) C (by decide) rfl rfl dX6_lay_6 ?_
  refine r_iconst C dX6_lay_8 ?_
  refine r_istore (ls' := [_, _, _, _, _, _, _, _, _, _]) C (by decide) rfl rfl dX6_lay_9 ?_
  exact lp1 n 0 σ (by omega) Fm.rf (fun j j1 => by omega)
end
