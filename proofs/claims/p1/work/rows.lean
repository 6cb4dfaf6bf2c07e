section
/-- a private method of a class that the tables say can be made, by its rows of tables_1 -/
def lw_okq (q : MethodName × Nat) : Prop := (q.1.cls ≠ "java/lang/invoke/MethodHandle" ∧ q.1.cls ≠ "java/lang/invoke/VarHandle") ∧ Cond.instantiable q.1.cls q.2 ∈ tables_1 ∧ Cond.privateMethod q.1 ∈ tables_1 ∧ Cond.instanceMethod q.1 ∈ tables_1
theorem lw_p0 : lw_okq (⟨"PaletteHouse", "append", "(I)V"⟩, 15) := ⟨⟨by decide +kernel, by decide +kernel⟩, List.mem_of_getElem? (i := 24) (by decide +kernel), List.mem_of_getElem? (i := 84) (by decide +kernel), List.mem_of_getElem? (i := 85) (by decide +kernel)⟩
theorem lw_p99 : lw_okq (⟨"PaletteHouseModel", "put", "(I)V"⟩, 105) := ⟨⟨by decide +kernel, by decide +kernel⟩, List.mem_of_getElem? (i := 1376) (by decide +kernel), List.mem_of_getElem? (i := 1706) (by decide +kernel), List.mem_of_getElem? (i := 1707) (by decide +kernel)⟩
theorem lw_p1 : lw_okq (⟨"PaletteHouse$Text", "skipBlanks", "(I)I"⟩, 7) := ⟨⟨by decide +kernel, by decide +kernel⟩, List.mem_of_getElem? (i := 96) (by decide +kernel), List.mem_of_getElem? (i := 419) (by decide +kernel), List.mem_of_getElem? (i := 420) (by decide +kernel)⟩
theorem lw_p2 : lw_okq (⟨"PaletteHouse$Text", "byteAt", "(I)I"⟩, 7) := ⟨⟨by decide +kernel, by decide +kernel⟩, List.mem_of_getElem? (i := 96) (by decide +kernel), List.mem_of_getElem? (i := 423) (by decide +kernel), List.mem_of_getElem? (i := 424) (by decide +kernel)⟩
theorem lw_p6 : lw_okq (⟨"PaletteHouse$Text", "keep", "(IIIJ)V"⟩, 7) := ⟨⟨by decide +kernel, by decide +kernel⟩, List.mem_of_getElem? (i := 96) (by decide +kernel), List.mem_of_getElem? (i := 451) (by decide +kernel), List.mem_of_getElem? (i := 452) (by decide +kernel)⟩
theorem lw_p3 : lw_okq (⟨"PaletteHouse$Text", "scanToken", "(I)I"⟩, 7) := ⟨⟨by decide +kernel, by decide +kernel⟩, List.mem_of_getElem? (i := 96) (by decide +kernel), List.mem_of_getElem? (i := 430) (by decide +kernel), List.mem_of_getElem? (i := 431) (by decide +kernel)⟩
theorem lw_p11 : lw_okq (⟨"PaletteHouse$Parser", "refuse", "(I)Z"⟩, 6) := ⟨⟨by decide +kernel, by decide +kernel⟩, List.mem_of_getElem? (i := 199) (by decide +kernel), List.mem_of_getElem? (i := 506) (by decide +kernel), List.mem_of_getElem? (i := 507) (by decide +kernel)⟩
theorem lw_p10 : lw_okq (⟨"PaletteHouse$Parser", "wants", "(I)Z"⟩, 6) := ⟨⟨by decide +kernel, by decide +kernel⟩, List.mem_of_getElem? (i := 199) (by decide +kernel), List.mem_of_getElem? (i := 501) (by decide +kernel), List.mem_of_getElem? (i := 502) (by decide +kernel)⟩
theorem lw_p9 : lw_okq (⟨"PaletteHouse$Parser", "take", "(I)Z"⟩, 6) := ⟨⟨by decide +kernel, by decide +kernel⟩, List.mem_of_getElem? (i := 199) (by decide +kernel), List.mem_of_getElem? (i := 497) (by decide +kernel), List.mem_of_getElem? (i := 498) (by decide +kernel)⟩
theorem lw_p8 : lw_okq (⟨"PaletteHouse$Parser", "takeHead", "()Z"⟩, 6) := ⟨⟨by decide +kernel, by decide +kernel⟩, List.mem_of_getElem? (i := 199) (by decide +kernel), List.mem_of_getElem? (i := 493) (by decide +kernel), List.mem_of_getElem? (i := 494) (by decide +kernel)⟩
theorem lw_p101 : lw_okq (⟨"PaletteHouseModel", "at", "(I)I"⟩, 105) := ⟨⟨by decide +kernel, by decide +kernel⟩, List.mem_of_getElem? (i := 1376) (by decide +kernel), List.mem_of_getElem? (i := 1722) (by decide +kernel), List.mem_of_getElem? (i := 1723) (by decide +kernel)⟩
theorem lw_p102 : lw_okq (⟨"PaletteHouseModel", "token", "(III)V"⟩, 105) := ⟨⟨by decide +kernel, by decide +kernel⟩, List.mem_of_getElem? (i := 1376) (by decide +kernel), List.mem_of_getElem? (i := 1726) (by decide +kernel), List.mem_of_getElem? (i := 1727) (by decide +kernel)⟩
theorem lw_p100 : lw_okq (⟨"PaletteHouseModel", "cut", "()V"⟩, 105) := ⟨⟨by decide +kernel, by decide +kernel⟩, List.mem_of_getElem? (i := 1376) (by decide +kernel), List.mem_of_getElem? (i := 1718) (by decide +kernel), List.mem_of_getElem? (i := 1719) (by decide +kernel)⟩
theorem lw_p108 : lw_okq (⟨"PaletteHouseModel", "is", "(I)Z"⟩, 105) := ⟨⟨by decide +kernel, by decide +kernel⟩, List.mem_of_getElem? (i := 1376) (by decide +kernel), List.mem_of_getElem? (i := 1760) (by decide +kernel), List.mem_of_getElem? (i := 1761) (by decide +kernel)⟩
theorem lw_p110 : lw_okq (⟨"PaletteHouseModel", "fail", "(I)V"⟩, 105) := ⟨⟨by decide +kernel, by decide +kernel⟩, List.mem_of_getElem? (i := 1376) (by decide +kernel), List.mem_of_getElem? (i := 1768) (by decide +kernel), List.mem_of_getElem? (i := 1769) (by decide +kernel)⟩
theorem lw_p107 : lw_okq (⟨"PaletteHouseModel", "must", "(I)V"⟩, 105) := ⟨⟨by decide +kernel, by decide +kernel⟩, List.mem_of_getElem? (i := 1376) (by decide +kernel), List.mem_of_getElem? (i := 1756) (by decide +kernel), List.mem_of_getElem? (i := 1757) (by decide +kernel)⟩
theorem lw_p106 : lw_okq (⟨"PaletteHouseModel", "parse", "()V"⟩, 105) := ⟨⟨by decide +kernel, by decide +kernel⟩, List.mem_of_getElem? (i := 1376) (by decide +kernel), List.mem_of_getElem? (i := 1752) (by decide +kernel), List.mem_of_getElem? (i := 1753) (by decide +kernel)⟩
theorem lw_p136 : lw_okq (⟨"PaletteHouseModel", "insAt", "(II)I"⟩, 105) := ⟨⟨by decide +kernel, by decide +kernel⟩, List.mem_of_getElem? (i := 1376) (by decide +kernel), List.mem_of_getElem? (i := 1888) (by decide +kernel), List.mem_of_getElem? (i := 1889) (by decide +kernel)⟩
theorem lw_p137 : lw_okq (⟨"PaletteHouseModel", "pointAt", "(II)I"⟩, 105) := ⟨⟨by decide +kernel, by decide +kernel⟩, List.mem_of_getElem? (i := 1376) (by decide +kernel), List.mem_of_getElem? (i := 1896) (by decide +kernel), List.mem_of_getElem? (i := 1897) (by decide +kernel)⟩
theorem lw_p138 : lw_okq (⟨"PaletteHouseModel", "isValue", "(I)Z"⟩, 105) := ⟨⟨by decide +kernel, by decide +kernel⟩, List.mem_of_getElem? (i := 1376) (by decide +kernel), List.mem_of_getElem? (i := 1900) (by decide +kernel), List.mem_of_getElem? (i := 1901) (by decide +kernel)⟩
theorem lw_p97 : lw_okq (⟨"PaletteHouse", "countRows", "(I)I"⟩, 15) := ⟨⟨by decide +kernel, by decide +kernel⟩, List.mem_of_getElem? (i := 24) (by decide +kernel), List.mem_of_getElem? (i := 1351) (by decide +kernel), List.mem_of_getElem? (i := 1352) (by decide +kernel)⟩
def lw_privs : List (MethodName × Nat) := [(⟨"PaletteHouse", "append", "(I)V"⟩, 15), (⟨"PaletteHouseModel", "put", "(I)V"⟩, 105), (⟨"PaletteHouse$Text", "skipBlanks", "(I)I"⟩, 7), (⟨"PaletteHouse$Text", "byteAt", "(I)I"⟩, 7), (⟨"PaletteHouse$Text", "keep", "(IIIJ)V"⟩, 7), (⟨"PaletteHouse$Text", "scanToken", "(I)I"⟩, 7), (⟨"PaletteHouse$Parser", "refuse", "(I)Z"⟩, 6), (⟨"PaletteHouse$Parser", "wants", "(I)Z"⟩, 6), (⟨"PaletteHouse$Parser", "take", "(I)Z"⟩, 6), (⟨"PaletteHouse$Parser", "takeHead", "()Z"⟩, 6), (⟨"PaletteHouseModel", "at", "(I)I"⟩, 105), (⟨"PaletteHouseModel", "token", "(III)V"⟩, 105), (⟨"PaletteHouseModel", "cut", "()V"⟩, 105), (⟨"PaletteHouseModel", "is", "(I)Z"⟩, 105), (⟨"PaletteHouseModel", "fail", "(I)V"⟩, 105), (⟨"PaletteHouseModel", "must", "(I)V"⟩, 105), (⟨"PaletteHouseModel", "parse", "()V"⟩, 105), (⟨"PaletteHouseModel", "insAt", "(II)I"⟩, 105), (⟨"PaletteHouseModel", "pointAt", "(II)I"⟩, 105), (⟨"PaletteHouseModel", "isValue", "(I)Z"⟩, 105), (⟨"PaletteHouse", "countRows", "(I)I"⟩, 15)]
def lw_tbl : List Cond := k2_sels lw_privs ++ tables_1
theorem lw_privs_ok : ∀ q ∈ lw_privs, lw_okq q := List.forall_mem_cons.mpr ⟨lw_p0, List.forall_mem_cons.mpr ⟨lw_p99, List.forall_mem_cons.mpr ⟨lw_p1, List.forall_mem_cons.mpr ⟨lw_p2, List.forall_mem_cons.mpr ⟨lw_p6, List.forall_mem_cons.mpr ⟨lw_p3, List.forall_mem_cons.mpr ⟨lw_p11, List.forall_mem_cons.mpr ⟨lw_p10, List.forall_mem_cons.mpr ⟨lw_p9, List.forall_mem_cons.mpr ⟨lw_p8, List.forall_mem_cons.mpr ⟨lw_p101, List.forall_mem_cons.mpr ⟨lw_p102, List.forall_mem_cons.mpr ⟨lw_p100, List.forall_mem_cons.mpr ⟨lw_p108, List.forall_mem_cons.mpr ⟨lw_p110, List.forall_mem_cons.mpr ⟨lw_p107, List.forall_mem_cons.mpr ⟨lw_p106, List.forall_mem_cons.mpr ⟨lw_p136, List.forall_mem_cons.mpr ⟨lw_p137, List.forall_mem_cons.mpr ⟨lw_p138, List.forall_mem_cons.mpr ⟨lw_p97, fun _ h => absurd h List.not_mem_nil⟩⟩⟩⟩⟩⟩⟩⟩⟩⟩⟩⟩⟩⟩⟩⟩⟩⟩⟩⟩⟩
def RX1 : String := "PaletteHouse$Graph"
def TX1 : u_T := fun k => match k with
  | 0 => ("PaletteHouse$Graph", "preds", "[I", true)
  | 1 => ("PaletteHouse$Graph", "doms", "[I", true)
  | 2 => ("PaletteHouse$Graph", "idoms", "[I", true)
  | 3 => ("PaletteHouse$Graph", "order", "[I", true)
  | 4 => ("PaletteHouse$Graph", "ranks", "[I", true)
  | 5 => ("PaletteHouse$Graph", "stack", "[I", true)
  | 6 => ("PaletteHouse$Graph", "size", "I", false)
  | _ => ("PaletteHouse$Graph", "reached", "I", false)
def tyX1 : Nat → FieldType := fun k => match k with
  | 0 => .array .int
  | 1 => .array .int
  | 2 => .array .int
  | 3 => .array .int
  | 4 => .array .int
  | 5 => .array .int
  | 6 => .int
  | _ => .int
abbrev uX1 : List Cond := u_ws RX1 TX1 8
theorem nmX1 : ∀ a, a < 8 → ∀ b, b < 8 → a ≠ b → (TX1 a).2.1 ≠ (TX1 b).2.1 := by decide +kernel
theorem tyX1_ok : ∀ k, k < 8 → parseFieldDescriptor (TX1 k).2.2.1 = some (tyX1 k) := by decide +kernel
theorem dfX1 : ∀ j, j < 8 → defaultValue (tyX1 j) = vp_V [.null, .null, .null, .null, .null, .null, .int 0, .int 0] j := by decide +kernel
def RX2 : String := "PaletteHouse$Judge"
def TX2 : u_T := fun k => match k with
  | 0 => ("PaletteHouse$Judge", "text", "LPaletteHouse$Text;", true)
  | 1 => ("PaletteHouse$Judge", "tokens", "LPaletteHouse$Table;", true)
  | _ => ("PaletteHouse$Judge", "program", "LPaletteHouse$Program;", false)
def tyX2 : Nat → FieldType := fun k => match k with
  | 0 => .object "PaletteHouse$Text"
  | 1 => .object "PaletteHouse$Table"
  | _ => .object "PaletteHouse$Program"
abbrev uX2 : List Cond := u_ws RX2 TX2 3
theorem nmX2 : ∀ a, a < 3 → ∀ b, b < 3 → a ≠ b → (TX2 a).2.1 ≠ (TX2 b).2.1 := by decide +kernel
theorem tyX2_ok : ∀ k, k < 3 → parseFieldDescriptor (TX2 k).2.2.1 = some (tyX2 k) := by decide +kernel
theorem dfX2 : ∀ j, j < 3 → defaultValue (tyX2 j) = vp_V [.null, .null, .null] j := by decide +kernel
def RX3 : String := "PaletteHouse$Life"
def TX3 : u_T := fun k => match k with
  | 0 => ("PaletteHouse$Life", "begins", "[I", true)
  | 1 => ("PaletteHouse$Life", "ends", "[I", true)
  | 2 => ("PaletteHouse$Life", "sets", "[J", true)
  | 3 => ("PaletteHouse$Life", "pressures", "[I", true)
  | 4 => ("PaletteHouse$Life", "current", "[J", true)
  | 5 => ("PaletteHouse$Life", "met", "[J", true)
  | 6 => ("PaletteHouse$Life", "program", "LPaletteHouse$Program;", false)
  | 7 => ("PaletteHouse$Life", "points", "I", false)
  | 8 => ("PaletteHouse$Life", "values", "I", false)
  | 9 => ("PaletteHouse$Life", "maxLive", "I", false)
  | 10 => ("PaletteHouse$Life", "top", "I", false)
  | _ => ("PaletteHouse$Life", "pairs", "I", false)
def tyX3 : Nat → FieldType := fun k => match k with
  | 0 => .array .int
  | 1 => .array .int
  | 2 => .array .long
  | 3 => .array .int
  | 4 => .array .long
  | 5 => .array .long
  | 6 => .object "PaletteHouse$Program"
  | 7 => .int
  | 8 => .int
  | 9 => .int
  | 10 => .int
  | _ => .int
abbrev uX3 : List Cond := u_ws RX3 TX3 12
theorem nmX3 : ∀ a, a < 12 → ∀ b, b < 12 → a ≠ b → (TX3 a).2.1 ≠ (TX3 b).2.1 := by decide +kernel
theorem tyX3_ok : ∀ k, k < 12 → parseFieldDescriptor (TX3 k).2.2.1 = some (tyX3 k) := by decide +kernel
theorem dfX3 : ∀ j, j < 12 → defaultValue (tyX3 j) = vp_V [.null, .null, .null, .null, .null, .null, .null, .int 0, .int 0, .int 0, .int 0, .int 0] j := by decide +kernel
def RX6 : String := "PaletteHouse$Parser"
def TX6 : u_T := fun k => match k with
  | 0 => ("PaletteHouse$Parser", "text", "LPaletteHouse$Text;", true)
  | 1 => ("PaletteHouse$Parser", "tokens", "LPaletteHouse$Table;", true)
  | 2 => ("PaletteHouse$Parser", "program", "LPaletteHouse$Program;", false)
  | 3 => ("PaletteHouse$Parser", "at", "I", false)
  | 4 => ("PaletteHouse$Parser", "items", "I", false)
  | _ => ("PaletteHouse$Parser", "fault", "I", false)
def tyX6 : Nat → FieldType := fun k => match k with
  | 0 => .object "PaletteHouse$Text"
  | 1 => .object "PaletteHouse$Table"
  | 2 => .object "PaletteHouse$Program"
  | 3 => .int
  | 4 => .int
  | _ => .int
abbrev uX6 : List Cond := u_ws RX6 TX6 6
theorem nmX6 : ∀ a, a < 6 → ∀ b, b < 6 → a ≠ b → (TX6 a).2.1 ≠ (TX6 b).2.1 := by decide +kernel
theorem tyX6_ok : ∀ k, k < 6 → parseFieldDescriptor (TX6 k).2.2.1 = some (tyX6 k) := by decide +kernel
theorem dfX6 : ∀ j, j < 6 → defaultValue (tyX6 j) = vp_V [.null, .null, .null, .int 0, .int 0, .int 0] j := by decide +kernel
def RX7 : String := "PaletteHouse$Program"
def TX7 : u_T := fun k => match k with
  | 0 => ("PaletteHouse$Program", "blocks", "LPaletteHouse$Table;", true)
  | 1 => ("PaletteHouse$Program", "ins", "LPaletteHouse$Table;", true)
  | 2 => ("PaletteHouse$Program", "phis", "LPaletteHouse$Table;", true)
  | 3 => ("PaletteHouse$Program", "arms", "LPaletteHouse$Table;", true)
  | 4 => ("PaletteHouse$Program", "values", "LPaletteHouse$Table;", true)
  | 5 => ("PaletteHouse$Program", "graph", "LPaletteHouse$Graph;", true)
  | 6 => ("PaletteHouse$Program", "life", "LPaletteHouse$Life;", true)
  | 7 => ("PaletteHouse$Program", "parameters", "I", false)
  | 8 => ("PaletteHouse$Program", "texted", "I", false)
  | 9 => ("PaletteHouse$Program", "slots", "I", false)
  | _ => ("PaletteHouse$Program", "coloured", "Z", false)
def tyX7 : Nat → FieldType := fun k => match k with
  | 0 => .object "PaletteHouse$Table"
  | 1 => .object "PaletteHouse$Table"
  | 2 => .object "PaletteHouse$Table"
  | 3 => .object "PaletteHouse$Table"
  | 4 => .object "PaletteHouse$Table"
  | 5 => .object "PaletteHouse$Graph"
  | 6 => .object "PaletteHouse$Life"
  | 7 => .int
  | 8 => .int
  | 9 => .int
  | _ => .boolean
abbrev uX7 : List Cond := u_ws RX7 TX7 11
theorem nmX7 : ∀ a, a < 11 → ∀ b, b < 11 → a ≠ b → (TX7 a).2.1 ≠ (TX7 b).2.1 := by decide +kernel
theorem tyX7_ok : ∀ k, k < 11 → parseFieldDescriptor (TX7 k).2.2.1 = some (tyX7 k) := by decide +kernel
theorem dfX7 : ∀ j, j < 11 → defaultValue (tyX7 j) = vp_V [.null, .null, .null, .null, .null, .null, .null, .int 0, .int 0, .int 0, .int 0] j := by decide +kernel
def RX9 : String := "PaletteHouse$Table"
def TX9 : u_T := fun k => match k with
  | 0 => ("PaletteHouse$Table", "width", "I", true)
  | 1 => ("PaletteHouse$Table", "most", "I", true)
  | 2 => ("PaletteHouse$Table", "cells", "[I", true)
  | _ => ("PaletteHouse$Table", "size", "I", false)
def tyX9 : Nat → FieldType := fun k => match k with
  | 0 => .int
  | 1 => .int
  | 2 => .array .int
  | _ => .int
abbrev uX9 : List Cond := u_ws RX9 TX9 4
theorem nmX9 : ∀ a, a < 4 → ∀ b, b < 4 → a ≠ b → (TX9 a).2.1 ≠ (TX9 b).2.1 := by decide +kernel
theorem tyX9_ok : ∀ k, k < 4 → parseFieldDescriptor (TX9 k).2.2.1 = some (tyX9 k) := by decide +kernel
theorem dfX9 : ∀ j, j < 4 → defaultValue (tyX9 j) = vp_V [.int 0, .int 0, .null, .int 0] j := by decide +kernel
def RX10 : String := "PaletteHouse$Text"
def TX10 : u_T := fun k => match k with
  | 0 => ("PaletteHouse$Text", "tokens", "LPaletteHouse$Table;", true)
  | 1 => ("PaletteHouse$Text", "names", "[J", true)
  | 2 => ("PaletteHouse$Text", "words", "[J", true)
  | 3 => ("PaletteHouse$Text", "bytes", "[B", false)
  | 4 => ("PaletteHouse$Text", "length", "I", false)
  | 5 => ("PaletteHouse$Text", "worst", "I", false)
  | _ => ("PaletteHouse$Text", "worstPlace", "I", false)
def tyX10 : Nat → FieldType := fun k => match k with
  | 0 => .object "PaletteHouse$Table"
  | 1 => .array .long
  | 2 => .array .long
  | 3 => .array .byte
  | 4 => .int
  | 5 => .int
  | _ => .int
abbrev uX10 : List Cond := u_ws RX10 TX10 7
theorem nmX10 : ∀ a, a < 7 → ∀ b, b < 7 → a ≠ b → (TX10 a).2.1 ≠ (TX10 b).2.1 := by decide +kernel
theorem tyX10_ok : ∀ k, k < 7 → parseFieldDescriptor (TX10 k).2.2.1 = some (tyX10 k) := by decide +kernel
theorem dfX10 : ∀ j, j < 7 → defaultValue (tyX10 j) = vp_V [.null, .null, .null, .null, .int 0, .int 0, .int 0] j := by decide +kernel
def RX11 : String := "PaletteHouse"
def TX11 : u_T := fun k => match k with
  | 0 => ("PaletteHouse", "tape", "[B", true)
  | 1 => ("PaletteHouse", "length", "I", false)
  | 2 => ("PaletteHouse", "fed", "[I", true)
  | 3 => ("PaletteHouse", "fedCount", "I", false)
  | 4 => ("PaletteHouse", "faultPlace", "I", false)
  | 5 => ("PaletteHouse", "text", "LPaletteHouse$Text;", false)
  | 6 => ("PaletteHouse", "parser", "LPaletteHouse$Parser;", false)
  | 7 => ("PaletteHouse", "judge", "LPaletteHouse$Judge;", false)
  | 8 => ("PaletteHouse", "now", "LPaletteHouse$Program;", false)
  | 9 => ("PaletteHouse", "spare", "LPaletteHouse$Program;", false)
  | 10 => ("PaletteHouse", "painter", "LPaletteHouse$Painter;", false)
  | 11 => ("PaletteHouse", "spiller", "LPaletteHouse$Spiller;", false)
  | 12 => ("PaletteHouse", "rows", "LPaletteHouse$Code;", false)
  | 13 => ("PaletteHouse", "plain", "LPaletteHouse$Machine;", false)
  | _ => ("PaletteHouse", "coded", "LPaletteHouse$Machine;", false)
def tyX11 : Nat → FieldType := fun k => match k with
  | 0 => .array .byte
  | 1 => .int
  | 2 => .array .int
  | 3 => .int
  | 4 => .int
  | 5 => .object "PaletteHouse$Text"
  | 6 => .object "PaletteHouse$Parser"
  | 7 => .object "PaletteHouse$Judge"
  | 8 => .object "PaletteHouse$Program"
  | 9 => .object "PaletteHouse$Program"
  | 10 => .object "PaletteHouse$Painter"
  | 11 => .object "PaletteHouse$Spiller"
  | 12 => .object "PaletteHouse$Code"
  | 13 => .object "PaletteHouse$Machine"
  | _ => .object "PaletteHouse$Machine"
abbrev uX11 : List Cond := u_ws RX11 TX11 15
theorem nmX11 : ∀ a, a < 15 → ∀ b, b < 15 → a ≠ b → (TX11 a).2.1 ≠ (TX11 b).2.1 := by decide +kernel
theorem tyX11_ok : ∀ k, k < 15 → parseFieldDescriptor (TX11 k).2.2.1 = some (tyX11 k) := by decide +kernel
theorem dfX11 : ∀ j, j < 15 → defaultValue (tyX11 j) = vp_V [.null, .int 0, .null, .int 0, .int 0, .null, .null, .null, .null, .null, .null, .null, .null, .null, .null] j := by decide +kernel
def RX12 : String := "PaletteHouseModel"
def TX12 : u_T := fun k => match k with
  | 0 => ("PaletteHouseModel", "thrown", "I", false)
  | 1 => ("PaletteHouseModel", "keys", "[I", true)
  | 2 => ("PaletteHouseModel", "tape", "[B", true)
  | 3 => ("PaletteHouseModel", "taped", "I", false)
  | 4 => ("PaletteHouseModel", "text", "[B", true)
  | 5 => ("PaletteHouseModel", "size", "I", false)
  | 6 => ("PaletteHouseModel", "tKind", "[I", true)
  | 7 => ("PaletteHouseModel", "tPlace", "[I", true)
  | 8 => ("PaletteHouseModel", "tValue", "[I", true)
  | 9 => ("PaletteHouseModel", "letters", "[B", true)
  | 10 => ("PaletteHouseModel", "tokens", "I", false)
  | 11 => ("PaletteHouseModel", "t", "I", false)
  | 12 => ("PaletteHouseModel", "fault", "I", false)
  | 13 => ("PaletteHouseModel", "faultPlace", "I", false)
  | 14 => ("PaletteHouseModel", "place", "I", false)
  | 15 => ("PaletteHouseModel", "blocks", "[I", true)
  | 16 => ("PaletteHouseModel", "values", "[I", true)
  | 17 => ("PaletteHouseModel", "insMany", "[I", true)
  | 18 => ("PaletteHouseModel", "phis", "[I", true)
  | 19 => ("PaletteHouseModel", "arms", "[I", true)
  | 20 => ("PaletteHouseModel", "parameters", "[I", true)
  | 21 => ("PaletteHouseModel", "slots", "[I", true)
  | 22 => ("PaletteHouseModel", "bFirst", "[I", true)
  | 23 => ("PaletteHouseModel", "bEnd", "[I", true)
  | 24 => ("PaletteHouseModel", "bValue", "[I", true)
  | 25 => ("PaletteHouseModel", "bNumber", "[I", true)
  | 26 => ("PaletteHouseModel", "bTo", "[I", true)
  | 27 => ("PaletteHouseModel", "bElse", "[I", true)
  | 28 => ("PaletteHouseModel", "bPhi", "[I", true)
  | 29 => ("PaletteHouseModel", "bPhis", "[I", true)
  | 30 => ("PaletteHouseModel", "vBlock", "[I", true)
  | 31 => ("PaletteHouseModel", "vIns", "[I", true)
  | 32 => ("PaletteHouseModel", "vSlot", "[I", true)
  | 33 => ("PaletteHouseModel", "vLoaded", "[Z", true)
  | 34 => ("PaletteHouseModel", "fResult", "[I", true)
  | 35 => ("PaletteHouseModel", "fBlock", "[I", true)
  | 36 => ("PaletteHouseModel", "fArm", "[I", true)
  | 37 => ("PaletteHouseModel", "fArms", "[I", true)
  | 38 => ("PaletteHouseModel", "mBlock", "[I", true)
  | 39 => ("PaletteHouseModel", "mValue", "[I", true)
  | 40 => ("PaletteHouseModel", "mNumber", "[I", true)
  | 41 => ("PaletteHouseModel", "iOp", "[I", true)
  | 42 => ("PaletteHouseModel", "iResult", "[I", true)
  | 43 => ("PaletteHouseModel", "iValue", "[I", true)
  | 44 => ("PaletteHouseModel", "iNumber", "[I", true)
  | 45 => ("PaletteHouseModel", "iNext", "[I", true)
  | 46 => ("PaletteHouseModel", "hasFunction", "Z", false)
  | 47 => ("PaletteHouseModel", "valueToken", "[I", true)
  | 48 => ("PaletteHouseModel", "blockToken", "[I", true)
  | 49 => ("PaletteHouseModel", "phiToken", "[I", true)
  | 50 => ("PaletteHouseModel", "armToken", "[I", true)
  | 51 => ("PaletteHouseModel", "armValToken", "[I", true)
  | 52 => ("PaletteHouseModel", "insToken", "[I", true)
  | 53 => ("PaletteHouseModel", "endToken", "[I", true)
  | 54 => ("PaletteHouseModel", "toToken", "[I", true)
  | 55 => ("PaletteHouseModel", "elseToken", "[I", true)
  | 56 => ("PaletteHouseModel", "things", "I", false)
  | 57 => ("PaletteHouseModel", "worst", "I", false)
  | 58 => ("PaletteHouseModel", "worstPlace", "I", false)
  | 59 => ("PaletteHouseModel", "leads", "[Z", true)
  | 60 => ("PaletteHouseModel", "dominate", "[I", true)
  | 61 => ("PaletteHouseModel", "index", "[I", true)
  | 62 => ("PaletteHouseModel", "insBlock", "[I", true)
  | 63 => ("PaletteHouseModel", "many", "[I", true)
  | 64 => ("PaletteHouseModel", "idom", "[I", true)
  | 65 => ("PaletteHouseModel", "orderAt", "[I", true)
  | 66 => ("PaletteHouseModel", "order", "[I", true)
  | 67 => ("PaletteHouseModel", "ordered", "I", false)
  | 68 => ("PaletteHouseModel", "pointFrom", "[I", true)
  | 69 => ("PaletteHouseModel", "live", "[Z", true)
  | 70 => ("PaletteHouseModel", "pressure", "[I", true)
  | 71 => ("PaletteHouseModel", "uses", "[I", true)
  | 72 => ("PaletteHouseModel", "maxLive", "I", false)
  | 73 => ("PaletteHouseModel", "maxPoint", "I", false)
  | 74 => ("PaletteHouseModel", "waits", "[I", true)
  | 75 => ("PaletteHouseModel", "hasColours", "Z", false)
  | 76 => ("PaletteHouseModel", "colour", "[I", true)
  | 77 => ("PaletteHouseModel", "wanted", "[I", true)
  | 78 => ("PaletteHouseModel", "taken", "[Z", true)
  | 79 => ("PaletteHouseModel", "hasCode", "Z", false)
  | 80 => ("PaletteHouseModel", "rows", "I", false)
  | 81 => ("PaletteHouseModel", "rOp", "[I", true)
  | 82 => ("PaletteHouseModel", "rTo", "[I", true)
  | 83 => ("PaletteHouseModel", "rRegister", "[I", true)
  | 84 => ("PaletteHouseModel", "rNumber", "[I", true)
  | 85 => ("PaletteHouseModel", "rGo", "[I", true)
  | 86 => ("PaletteHouseModel", "rFree", "[Z", true)
  | 87 => ("PaletteHouseModel", "blockRow", "[I", true)
  | 88 => ("PaletteHouseModel", "endRow", "[I", true)
  | 89 => ("PaletteHouseModel", "mTo", "[I", true)
  | 90 => ("PaletteHouseModel", "mFrom", "[I", true)
  | 91 => ("PaletteHouseModel", "mLeft", "[Z", true)
  | 92 => ("PaletteHouseModel", "given", "[I", true)
  | 93 => ("PaletteHouseModel", "givenMany", "I", false)
  | 94 => ("PaletteHouseModel", "hasRun", "[Z", true)
  | 95 => ("PaletteHouseModel", "stopped", "[I", true)
  | 96 => ("PaletteHouseModel", "stepped", "[I", true)
  | 97 => ("PaletteHouseModel", "told", "[I", true)
  | 98 => ("PaletteHouseModel", "out", "[I", true)
  | 99 => ("PaletteHouseModel", "tookIn", "[I", true)
  | 100 => ("PaletteHouseModel", "outputs", "[I", true)
  | 101 => ("PaletteHouseModel", "memories", "[I", true)
  | 102 => ("PaletteHouseModel", "holds", "[I", true)
  | 103 => ("PaletteHouseModel", "inSlot", "[I", true)
  | _ => ("PaletteHouseModel", "aside", "[I", true)
def tyX12 : Nat → FieldType := fun k => match k with
  | 0 => .int
  | 1 => .array .int
  | 2 => .array .byte
  | 3 => .int
  | 4 => .array .byte
  | 5 => .int
  | 6 => .array .int
  | 7 => .array .int
  | 8 => .array .int
  | 9 => .array .byte
  | 10 => .int
  | 11 => .int
  | 12 => .int
  | 13 => .int
  | 14 => .int
  | 15 => .array .int
  | 16 => .array .int
  | 17 => .array .int
  | 18 => .array .int
  | 19 => .array .int
  | 20 => .array .int
  | 21 => .array .int
  | 22 => .array .int
  | 23 => .array .int
  | 24 => .array .int
  | 25 => .array .int
  | 26 => .array .int
  | 27 => .array .int
  | 28 => .array .int
  | 29 => .array .int
  | 30 => .array .int
  | 31 => .array .int
  | 32 => .array .int
  | 33 => .array .boolean
  | 34 => .array .int
  | 35 => .array .int
  | 36 => .array .int
  | 37 => .array .int
  | 38 => .array .int
  | 39 => .array .int
  | 40 => .array .int
  | 41 => .array .int
  | 42 => .array .int
  | 43 => .array .int
  | 44 => .array .int
  | 45 => .array .int
  | 46 => .boolean
  | 47 => .array .int
  | 48 => .array .int
  | 49 => .array .int
  | 50 => .array .int
  | 51 => .array .int
  | 52 => .array .int
  | 53 => .array .int
  | 54 => .array .int
  | 55 => .array .int
  | 56 => .int
  | 57 => .int
  | 58 => .int
  | 59 => .array .boolean
  | 60 => .array .int
  | 61 => .array .int
  | 62 => .array .int
  | 63 => .array .int
  | 64 => .array .int
  | 65 => .array .int
  | 66 => .array .int
  | 67 => .int
  | 68 => .array .int
  | 69 => .array .boolean
  | 70 => .array .int
  | 71 => .array .int
  | 72 => .int
  | 73 => .int
  | 74 => .array .int
  | 75 => .boolean
  | 76 => .array .int
  | 77 => .array .int
  | 78 => .array .boolean
  | 79 => .boolean
  | 80 => .int
  | 81 => .array .int
  | 82 => .array .int
  | 83 => .array .int
  | 84 => .array .int
  | 85 => .array .int
  | 86 => .array .boolean
  | 87 => .array .int
  | 88 => .array .int
  | 89 => .array .int
  | 90 => .array .int
  | 91 => .array .boolean
  | 92 => .array .int
  | 93 => .int
  | 94 => .array .boolean
  | 95 => .array .int
  | 96 => .array .int
  | 97 => .array .int
  | 98 => .array .int
  | 99 => .array .int
  | 100 => .array .int
  | 101 => .array .int
  | 102 => .array .int
  | 103 => .array .int
  | _ => .array .int
abbrev uX12 : List Cond := u_ws RX12 TX12 105
theorem nmX12 : ∀ a, a < 105 → ∀ b, b < 105 → a ≠ b → (TX12 a).2.1 ≠ (TX12 b).2.1 := by decide +kernel
theorem tyX12_ok : ∀ k, k < 105 → parseFieldDescriptor (TX12 k).2.2.1 = some (tyX12 k) := by decide +kernel
theorem dfX12 : ∀ j, j < 105 → defaultValue (tyX12 j) = vp_V [.int 0, .null, .null, .int 0, .null, .int 0, .null, .null, .null, .null, .int 0, .int 0, .int 0, .int 0, .int 0, .null, .null, .null, .null, .null, .null, .null, .null, .null, .null, .null, .null, .null, .null, .null, .null, .null, .null, .null, .null, .null, .null, .null, .null, .null, .null, .null, .null, .null, .null, .null, .int 0, .null, .null, .null, .null, .null, .null, .null, .null, .null, .int 0, .int 0, .int 0, .null, .null, .null, .null, .null, .null, .null, .null, .int 0, .null, .null, .null, .null, .int 0, .int 0, .null, .int 0, .null, .null, .null, .int 0, .int 0, .null, .null, .null, .null, .null, .null, .null, .null, .null, .null, .null, .null, .int 0, .null, .null, .null, .null, .null, .null, .null, .null, .null, .null, .null] j := by decide +kernel
def RJ9 : String := "java/lang/Math"
def RJ0 : String := "java/lang/String"
def RJ1 : String := "java/lang/StringLatin1"
def RJ7 : String := "java/util/Arrays"
def RJ3 : String := "jdk/internal/util/Preconditions"
def RL : String := "PaletteHouseLaw"
abbrev cJ0_coder_7d493 : ByteArray := prog_18_method_152_code
def yJ0_coder_7d493 : MethodName := ⟨RJ0, "coder", "()B"⟩
theorem hdJ0_coder_7d493 : yJ0_coder_7d493.cls ≠ "java/lang/invoke/MethodHandle" ∧ yJ0_coder_7d493.cls ≠ "java/lang/invoke/VarHandle" ∧ (parseMethodDescriptor yJ0_coder_7d493.desc).map (fun d => d.parameters.length) = some 0 := by decide +kernel
abbrev cJ0_isLatin1_aae02 : ByteArray := prog_18_method_154_code
def yJ0_isLatin1_aae02 : MethodName := ⟨RJ0, "isLatin1", "()Z"⟩
theorem hdJ0_isLatin1_aae02 : yJ0_isLatin1_aae02.cls ≠ "java/lang/invoke/MethodHandle" ∧ yJ0_isLatin1_aae02.cls ≠ "java/lang/invoke/VarHandle" ∧ (parseMethodDescriptor yJ0_isLatin1_aae02.desc).map (fun d => d.parameters.length) = some 0 := by decide +kernel
abbrev cJ0_length_8abf5 : ByteArray := prog_18_method_54_code
def yJ0_length_8abf5 : MethodName := ⟨RJ0, "length", "()I"⟩
theorem hdJ0_length_8abf5 : yJ0_length_8abf5.cls ≠ "java/lang/invoke/MethodHandle" ∧ yJ0_length_8abf5.cls ≠ "java/lang/invoke/VarHandle" ∧ (parseMethodDescriptor yJ0_length_8abf5.desc).map (fun d => d.parameters.length) = some 0 := by decide +kernel
abbrev cJ3_checkIndex_8e157 : ByteArray := prog_23_method_11_code
def yJ3_checkIndex_8e157 : MethodName := ⟨RJ3, "checkIndex", "(IILjava/util/function/BiFunction;)I"⟩
theorem hdJ3_checkIndex_8e157 : yJ3_checkIndex_8e157.cls ≠ "java/lang/invoke/MethodHandle" ∧ yJ3_checkIndex_8e157.cls ≠ "java/lang/invoke/VarHandle" ∧ (parseMethodDescriptor yJ3_checkIndex_8e157.desc).map (fun d => d.parameters.length) = some 3 := by decide +kernel
abbrev cJ0_checkIndex_df160 : ByteArray := prog_18_method_155_code
def yJ0_checkIndex_df160 : MethodName := ⟨RJ0, "checkIndex", "(II)V"⟩
theorem hdJ0_checkIndex_df160 : yJ0_checkIndex_df160.cls ≠ "java/lang/invoke/MethodHandle" ∧ yJ0_checkIndex_df160.cls ≠ "java/lang/invoke/VarHandle" ∧ (parseMethodDescriptor yJ0_checkIndex_df160.desc).map (fun d => d.parameters.length) = some 2 := by decide +kernel
abbrev cJ1_charAt_3b067 : ByteArray := prog_19_method_2_code
def yJ1_charAt_3b067 : MethodName := ⟨RJ1, "charAt", "([BI)C"⟩
theorem hdJ1_charAt_3b067 : yJ1_charAt_3b067.cls ≠ "java/lang/invoke/MethodHandle" ∧ yJ1_charAt_3b067.cls ≠ "java/lang/invoke/VarHandle" ∧ (parseMethodDescriptor yJ1_charAt_3b067.desc).map (fun d => d.parameters.length) = some 2 := by decide +kernel
abbrev cJ0_charAt_5068e : ByteArray := prog_18_method_56_code
def yJ0_charAt_5068e : MethodName := ⟨RJ0, "charAt", "(I)C"⟩
theorem hdJ0_charAt_5068e : yJ0_charAt_5068e.cls ≠ "java/lang/invoke/MethodHandle" ∧ yJ0_charAt_5068e.cls ≠ "java/lang/invoke/VarHandle" ∧ (parseMethodDescriptor yJ0_charAt_5068e.desc).map (fun d => d.parameters.length) = some 1 := by decide +kernel
abbrev cL_law : ByteArray := code
def yL_law : MethodName := ⟨RL, "law", "([I)Z"⟩
theorem hdL_law : yL_law.cls ≠ "java/lang/invoke/MethodHandle" ∧ yL_law.cls ≠ "java/lang/invoke/VarHandle" ∧ (parseMethodDescriptor yL_law.desc).map (fun d => d.parameters.length) = some 1 := by decide +kernel
abbrev cX11_init : ByteArray := prog_1_method_1_code
def yX11_init : MethodName := ⟨RX11, "<init>", "()V"⟩
theorem hdX11_init : yX11_init.cls ≠ "java/lang/invoke/MethodHandle" ∧ yX11_init.cls ≠ "java/lang/invoke/VarHandle" ∧ (parseMethodDescriptor yX11_init.desc).map (fun d => d.parameters.length) = some 0 := by decide +kernel
abbrev cX12_init : ByteArray := prog_14_method_2_code
def yX12_init : MethodName := ⟨RX12, "<init>", "()V"⟩
theorem hdX12_init : yX12_init.cls ≠ "java/lang/invoke/MethodHandle" ∧ yX12_init.cls ≠ "java/lang/invoke/VarHandle" ∧ (parseMethodDescriptor yX12_init.desc).map (fun d => d.parameters.length) = some 0 := by decide +kernel
abbrev cX12_word : ByteArray := prog_14_method_3_code
def yX12_word : MethodName := ⟨RX12, "word", "(IIII)I"⟩
theorem hdX12_word : yX12_word.cls ≠ "java/lang/invoke/MethodHandle" ∧ yX12_word.cls ≠ "java/lang/invoke/VarHandle" ∧ (parseMethodDescriptor yX12_word.desc).map (fun d => d.parameters.length) = some 4 := by decide +kernel
abbrev cX11_feed : ByteArray := prog_1_method_2_code
def yX11_feed : MethodName := ⟨RX11, "feed", "(IIIII)I"⟩
theorem hdX11_feed : yX11_feed.cls ≠ "java/lang/invoke/MethodHandle" ∧ yX11_feed.cls ≠ "java/lang/invoke/VarHandle" ∧ (parseMethodDescriptor yX11_feed.desc).map (fun d => d.parameters.length) = some 5 := by decide +kernel
abbrev cX11_append : ByteArray := prog_1_method_3_code
def yX11_append : MethodName := ⟨RX11, "append", "(I)V"⟩
theorem hdX11_append : yX11_append.cls ≠ "java/lang/invoke/MethodHandle" ∧ yX11_append.cls ≠ "java/lang/invoke/VarHandle" ∧ (parseMethodDescriptor yX11_append.desc).map (fun d => d.parameters.length) = some 1 := by decide +kernel
abbrev cX12_feed : ByteArray := prog_14_method_4_code
def yX12_feed : MethodName := ⟨RX12, "feed", "(IIIII)I"⟩
theorem hdX12_feed : yX12_feed.cls ≠ "java/lang/invoke/MethodHandle" ∧ yX12_feed.cls ≠ "java/lang/invoke/VarHandle" ∧ (parseMethodDescriptor yX12_feed.desc).map (fun d => d.parameters.length) = some 5 := by decide +kernel
abbrev cX12_put : ByteArray := prog_14_method_5_code
def yX12_put : MethodName := ⟨RX12, "put", "(I)V"⟩
theorem hdX12_put : yX12_put.cls ≠ "java/lang/invoke/MethodHandle" ∧ yX12_put.cls ≠ "java/lang/invoke/VarHandle" ∧ (parseMethodDescriptor yX12_put.desc).map (fun d => d.parameters.length) = some 1 := by decide +kernel
abbrev cX11_back : ByteArray := prog_1_method_4_code
def yX11_back : MethodName := ⟨RX11, "back", "(I)I"⟩
theorem hdX11_back : yX11_back.cls ≠ "java/lang/invoke/MethodHandle" ∧ yX11_back.cls ≠ "java/lang/invoke/VarHandle" ∧ (parseMethodDescriptor yX11_back.desc).map (fun d => d.parameters.length) = some 1 := by decide +kernel
abbrev cX12_back : ByteArray := prog_14_method_6_code
def yX12_back : MethodName := ⟨RX12, "back", "(I)I"⟩
theorem hdX12_back : yX12_back.cls ≠ "java/lang/invoke/MethodHandle" ∧ yX12_back.cls ≠ "java/lang/invoke/VarHandle" ∧ (parseMethodDescriptor yX12_back.desc).map (fun d => d.parameters.length) = some 1 := by decide +kernel
abbrev cX11_read : ByteArray := prog_1_method_5_code
def yX11_read : MethodName := ⟨RX11, "read", "()I"⟩
theorem hdX11_read : yX11_read.cls ≠ "java/lang/invoke/MethodHandle" ∧ yX11_read.cls ≠ "java/lang/invoke/VarHandle" ∧ (parseMethodDescriptor yX11_read.desc).map (fun d => d.parameters.length) = some 0 := by decide +kernel
abbrev cX10_init : ByteArray := prog_12_method_1_code
def yX10_init : MethodName := ⟨RX10, "<init>", "()V"⟩
theorem hdX10_init : yX10_init.cls ≠ "java/lang/invoke/MethodHandle" ∧ yX10_init.cls ≠ "java/lang/invoke/VarHandle" ∧ (parseMethodDescriptor yX10_init.desc).map (fun d => d.parameters.length) = some 0 := by decide +kernel
abbrev cX9_init : ByteArray := prog_11_method_1_code
def yX9_init : MethodName := ⟨RX9, "<init>", "(II)V"⟩
theorem hdX9_init : yX9_init.cls ≠ "java/lang/invoke/MethodHandle" ∧ yX9_init.cls ≠ "java/lang/invoke/VarHandle" ∧ (parseMethodDescriptor yX9_init.desc).map (fun d => d.parameters.length) = some 2 := by decide +kernel
abbrev cJ9_max_7cf53 : ByteArray := prog_17_method_65_code
def yJ9_max_7cf53 : MethodName := ⟨RJ9, "max", "(II)I"⟩
theorem hdJ9_max_7cf53 : yJ9_max_7cf53.cls ≠ "java/lang/invoke/MethodHandle" ∧ yJ9_max_7cf53.cls ≠ "java/lang/invoke/VarHandle" ∧ (parseMethodDescriptor yJ9_max_7cf53.desc).map (fun d => d.parameters.length) = some 2 := by decide +kernel
abbrev cX6_init : ByteArray := prog_8_method_1_code
def yX6_init : MethodName := ⟨RX6, "<init>", "(LPaletteHouse$Text;)V"⟩
theorem hdX6_init : yX6_init.cls ≠ "java/lang/invoke/MethodHandle" ∧ yX6_init.cls ≠ "java/lang/invoke/VarHandle" ∧ (parseMethodDescriptor yX6_init.desc).map (fun d => d.parameters.length) = some 1 := by decide +kernel
abbrev cX2_init : ByteArray := prog_4_method_1_code
def yX2_init : MethodName := ⟨RX2, "<init>", "(LPaletteHouse$Text;)V"⟩
theorem hdX2_init : yX2_init.cls ≠ "java/lang/invoke/MethodHandle" ∧ yX2_init.cls ≠ "java/lang/invoke/VarHandle" ∧ (parseMethodDescriptor yX2_init.desc).map (fun d => d.parameters.length) = some 1 := by decide +kernel
abbrev cX7_init : ByteArray := prog_9_method_1_code
def yX7_init : MethodName := ⟨RX7, "<init>", "()V"⟩
theorem hdX7_init : yX7_init.cls ≠ "java/lang/invoke/MethodHandle" ∧ yX7_init.cls ≠ "java/lang/invoke/VarHandle" ∧ (parseMethodDescriptor yX7_init.desc).map (fun d => d.parameters.length) = some 0 := by decide +kernel
abbrev cX1_init : ByteArray := prog_3_method_1_code
def yX1_init : MethodName := ⟨RX1, "<init>", "()V"⟩
theorem hdX1_init : yX1_init.cls ≠ "java/lang/invoke/MethodHandle" ∧ yX1_init.cls ≠ "java/lang/invoke/VarHandle" ∧ (parseMethodDescriptor yX1_init.desc).map (fun d => d.parameters.length) = some 0 := by decide +kernel
abbrev cX3_init : ByteArray := prog_5_method_1_code
def yX3_init : MethodName := ⟨RX3, "<init>", "()V"⟩
theorem hdX3_init : yX3_init.cls ≠ "java/lang/invoke/MethodHandle" ∧ yX3_init.cls ≠ "java/lang/invoke/VarHandle" ∧ (parseMethodDescriptor yX3_init.desc).map (fun d => d.parameters.length) = some 0 := by decide +kernel
abbrev cX10_scan : ByteArray := prog_12_method_6_code
def yX10_scan : MethodName := ⟨RX10, "scan", "([BI)V"⟩
theorem hdX10_scan : yX10_scan.cls ≠ "java/lang/invoke/MethodHandle" ∧ yX10_scan.cls ≠ "java/lang/invoke/VarHandle" ∧ (parseMethodDescriptor yX10_scan.desc).map (fun d => d.parameters.length) = some 2 := by decide +kernel
abbrev cX9_cut : ByteArray := prog_11_method_7_code
def yX9_cut : MethodName := ⟨RX9, "cut", "()V"⟩
theorem hdX9_cut : yX9_cut.cls ≠ "java/lang/invoke/MethodHandle" ∧ yX9_cut.cls ≠ "java/lang/invoke/VarHandle" ∧ (parseMethodDescriptor yX9_cut.desc).map (fun d => d.parameters.length) = some 0 := by decide +kernel
abbrev cX10_skipBlanks : ByteArray := prog_12_method_8_code
def yX10_skipBlanks : MethodName := ⟨RX10, "skipBlanks", "(I)I"⟩
theorem hdX10_skipBlanks : yX10_skipBlanks.cls ≠ "java/lang/invoke/MethodHandle" ∧ yX10_skipBlanks.cls ≠ "java/lang/invoke/VarHandle" ∧ (parseMethodDescriptor yX10_skipBlanks.desc).map (fun d => d.parameters.length) = some 1 := by decide +kernel
abbrev cX10_scanToken : ByteArray := prog_12_method_9_code
def yX10_scanToken : MethodName := ⟨RX10, "scanToken", "(I)I"⟩
theorem hdX10_scanToken : yX10_scanToken.cls ≠ "java/lang/invoke/MethodHandle" ∧ yX10_scanToken.cls ≠ "java/lang/invoke/VarHandle" ∧ (parseMethodDescriptor yX10_scanToken.desc).map (fun d => d.parameters.length) = some 1 := by decide +kernel
abbrev cX10_byteAt : ByteArray := prog_12_method_7_code
def yX10_byteAt : MethodName := ⟨RX10, "byteAt", "(I)I"⟩
theorem hdX10_byteAt : yX10_byteAt.cls ≠ "java/lang/invoke/MethodHandle" ∧ yX10_byteAt.cls ≠ "java/lang/invoke/VarHandle" ∧ (parseMethodDescriptor yX10_byteAt.desc).map (fun d => d.parameters.length) = some 1 := by decide +kernel
abbrev cX10_isLetter : ByteArray := prog_12_method_15_code
def yX10_isLetter : MethodName := ⟨RX10, "isLetter", "(I)Z"⟩
theorem hdX10_isLetter : yX10_isLetter.cls ≠ "java/lang/invoke/MethodHandle" ∧ yX10_isLetter.cls ≠ "java/lang/invoke/VarHandle" ∧ (parseMethodDescriptor yX10_isLetter.desc).map (fun d => d.parameters.length) = some 1 := by decide +kernel
abbrev cX10_isDigit : ByteArray := prog_12_method_16_code
def yX10_isDigit : MethodName := ⟨RX10, "isDigit", "(I)Z"⟩
theorem hdX10_isDigit : yX10_isDigit.cls ≠ "java/lang/invoke/MethodHandle" ∧ yX10_isDigit.cls ≠ "java/lang/invoke/VarHandle" ∧ (parseMethodDescriptor yX10_isDigit.desc).map (fun d => d.parameters.length) = some 1 := by decide +kernel
abbrev cX10_keep : ByteArray := prog_12_method_10_code
def yX10_keep : MethodName := ⟨RX10, "keep", "(IIIJ)V"⟩
theorem hdX10_keep : yX10_keep.cls ≠ "java/lang/invoke/MethodHandle" ∧ yX10_keep.cls ≠ "java/lang/invoke/VarHandle" ∧ (parseMethodDescriptor yX10_keep.desc).map (fun d => d.parameters.length) = some 4 := by decide +kernel
abbrev cX9_add : ByteArray := prog_11_method_8_code
def yX9_add : MethodName := ⟨RX9, "add", "()I"⟩
theorem hdX9_add : yX9_add.cls ≠ "java/lang/invoke/MethodHandle" ∧ yX9_add.cls ≠ "java/lang/invoke/VarHandle" ∧ (parseMethodDescriptor yX9_add.desc).map (fun d => d.parameters.length) = some 0 := by decide +kernel
abbrev cJ7_fill_fda19 : ByteArray := prog_22_method_104_code
def yJ7_fill_fda19 : MethodName := ⟨RJ7, "fill", "([IIII)V"⟩
theorem hdJ7_fill_fda19 : yJ7_fill_fda19.cls ≠ "java/lang/invoke/MethodHandle" ∧ yJ7_fill_fda19.cls ≠ "java/lang/invoke/VarHandle" ∧ (parseMethodDescriptor yJ7_fill_fda19.desc).map (fun d => d.parameters.length) = some 4 := by decide +kernel
abbrev cJ7_rangeCheck_23922 : ByteArray := prog_22_method_30_code
def yJ7_rangeCheck_23922 : MethodName := ⟨RJ7, "rangeCheck", "(III)V"⟩
theorem hdJ7_rangeCheck_23922 : yJ7_rangeCheck_23922.cls ≠ "java/lang/invoke/MethodHandle" ∧ yJ7_rangeCheck_23922.cls ≠ "java/lang/invoke/VarHandle" ∧ (parseMethodDescriptor yJ7_rangeCheck_23922.desc).map (fun d => d.parameters.length) = some 3 := by decide +kernel
abbrev cX9_set : ByteArray := prog_11_method_5_code
def yX9_set : MethodName := ⟨RX9, "set", "(III)V"⟩
theorem hdX9_set : yX9_set.cls ≠ "java/lang/invoke/MethodHandle" ∧ yX9_set.cls ≠ "java/lang/invoke/VarHandle" ∧ (parseMethodDescriptor yX9_set.desc).map (fun d => d.parameters.length) = some 3 := by decide +kernel
abbrev cX9_at : ByteArray := prog_11_method_4_code
def yX9_at : MethodName := ⟨RX9, "at", "(II)I"⟩
theorem hdX9_at : yX9_at.cls ≠ "java/lang/invoke/MethodHandle" ∧ yX9_at.cls ≠ "java/lang/invoke/VarHandle" ∧ (parseMethodDescriptor yX9_at.desc).map (fun d => d.parameters.length) = some 2 := by decide +kernel
abbrev cX6_accepts : ByteArray := prog_8_method_2_code
def yX6_accepts : MethodName := ⟨RX6, "accepts", "(LPaletteHouse$Program;)Z"⟩
theorem hdX6_accepts : yX6_accepts.cls ≠ "java/lang/invoke/MethodHandle" ∧ yX6_accepts.cls ≠ "java/lang/invoke/VarHandle" ∧ (parseMethodDescriptor yX6_accepts.desc).map (fun d => d.parameters.length) = some 1 := by decide +kernel
abbrev cX7_reset : ByteArray := prog_9_method_2_code
def yX7_reset : MethodName := ⟨RX7, "reset", "()V"⟩
theorem hdX7_reset : yX7_reset.cls ≠ "java/lang/invoke/MethodHandle" ∧ yX7_reset.cls ≠ "java/lang/invoke/VarHandle" ∧ (parseMethodDescriptor yX7_reset.desc).map (fun d => d.parameters.length) = some 0 := by decide +kernel
abbrev cX6_takeHead : ByteArray := prog_8_method_6_code
def yX6_takeHead : MethodName := ⟨RX6, "takeHead", "()Z"⟩
theorem hdX6_takeHead : yX6_takeHead.cls ≠ "java/lang/invoke/MethodHandle" ∧ yX6_takeHead.cls ≠ "java/lang/invoke/VarHandle" ∧ (parseMethodDescriptor yX6_takeHead.desc).map (fun d => d.parameters.length) = some 0 := by decide +kernel
abbrev cX6_take : ByteArray := prog_8_method_5_code
def yX6_take : MethodName := ⟨RX6, "take", "(I)Z"⟩
theorem hdX6_take : yX6_take.cls ≠ "java/lang/invoke/MethodHandle" ∧ yX6_take.cls ≠ "java/lang/invoke/VarHandle" ∧ (parseMethodDescriptor yX6_take.desc).map (fun d => d.parameters.length) = some 1 := by decide +kernel
abbrev cX6_wants : ByteArray := prog_8_method_4_code
def yX6_wants : MethodName := ⟨RX6, "wants", "(I)Z"⟩
theorem hdX6_wants : yX6_wants.cls ≠ "java/lang/invoke/MethodHandle" ∧ yX6_wants.cls ≠ "java/lang/invoke/VarHandle" ∧ (parseMethodDescriptor yX6_wants.desc).map (fun d => d.parameters.length) = some 1 := by decide +kernel
abbrev cX6_refuse : ByteArray := prog_8_method_3_code
def yX6_refuse : MethodName := ⟨RX6, "refuse", "(I)Z"⟩
theorem hdX6_refuse : yX6_refuse.cls ≠ "java/lang/invoke/MethodHandle" ∧ yX6_refuse.cls ≠ "java/lang/invoke/VarHandle" ∧ (parseMethodDescriptor yX6_refuse.desc).map (fun d => d.parameters.length) = some 1 := by decide +kernel
abbrev cX10_blame : ByteArray := prog_12_method_4_code
def yX10_blame : MethodName := ⟨RX10, "blame", "(II)V"⟩
theorem hdX10_blame : yX10_blame.cls ≠ "java/lang/invoke/MethodHandle" ∧ yX10_blame.cls ≠ "java/lang/invoke/VarHandle" ∧ (parseMethodDescriptor yX10_blame.desc).map (fun d => d.parameters.length) = some 2 := by decide +kernel
abbrev cX9_size : ByteArray := prog_11_method_2_code
def yX9_size : MethodName := ⟨RX9, "size", "()I"⟩
theorem hdX9_size : yX9_size.cls ≠ "java/lang/invoke/MethodHandle" ∧ yX9_size.cls ≠ "java/lang/invoke/VarHandle" ∧ (parseMethodDescriptor yX9_size.desc).map (fun d => d.parameters.length) = some 0 := by decide +kernel
abbrev cX10_worstPlace : ByteArray := prog_12_method_3_code
def yX10_worstPlace : MethodName := ⟨RX10, "worstPlace", "()I"⟩
theorem hdX10_worstPlace : yX10_worstPlace.cls ≠ "java/lang/invoke/MethodHandle" ∧ yX10_worstPlace.cls ≠ "java/lang/invoke/VarHandle" ∧ (parseMethodDescriptor yX10_worstPlace.desc).map (fun d => d.parameters.length) = some 0 := by decide +kernel
abbrev cX10_worst : ByteArray := prog_12_method_2_code
def yX10_worst : MethodName := ⟨RX10, "worst", "()I"⟩
theorem hdX10_worst : yX10_worst.cls ≠ "java/lang/invoke/MethodHandle" ∧ yX10_worst.cls ≠ "java/lang/invoke/VarHandle" ∧ (parseMethodDescriptor yX10_worst.desc).map (fun d => d.parameters.length) = some 0 := by decide +kernel
abbrev cX12_read : ByteArray := prog_14_method_20_code
def yX12_read : MethodName := ⟨RX12, "read", "()I"⟩
theorem hdX12_read : yX12_read.cls ≠ "java/lang/invoke/MethodHandle" ∧ yX12_read.cls ≠ "java/lang/invoke/VarHandle" ∧ (parseMethodDescriptor yX12_read.desc).map (fun d => d.parameters.length) = some 0 := by decide +kernel
abbrev cX12_cut : ByteArray := prog_14_method_11_code
def yX12_cut : MethodName := ⟨RX12, "cut", "()V"⟩
theorem hdX12_cut : yX12_cut.cls ≠ "java/lang/invoke/MethodHandle" ∧ yX12_cut.cls ≠ "java/lang/invoke/VarHandle" ∧ (parseMethodDescriptor yX12_cut.desc).map (fun d => d.parameters.length) = some 0 := by decide +kernel
abbrev cX12_at : ByteArray := prog_14_method_7_code
def yX12_at : MethodName := ⟨RX12, "at", "(I)I"⟩
theorem hdX12_at : yX12_at.cls ≠ "java/lang/invoke/MethodHandle" ∧ yX12_at.cls ≠ "java/lang/invoke/VarHandle" ∧ (parseMethodDescriptor yX12_at.desc).map (fun d => d.parameters.length) = some 1 := by decide +kernel
abbrev cX12_token : ByteArray := prog_14_method_10_code
def yX12_token : MethodName := ⟨RX12, "token", "(III)V"⟩
theorem hdX12_token : yX12_token.cls ≠ "java/lang/invoke/MethodHandle" ∧ yX12_token.cls ≠ "java/lang/invoke/VarHandle" ∧ (parseMethodDescriptor yX12_token.desc).map (fun d => d.parameters.length) = some 3 := by decide +kernel
abbrev cX12_parse : ByteArray := prog_14_method_22_code
def yX12_parse : MethodName := ⟨RX12, "parse", "()V"⟩
theorem hdX12_parse : yX12_parse.cls ≠ "java/lang/invoke/MethodHandle" ∧ yX12_parse.cls ≠ "java/lang/invoke/VarHandle" ∧ (parseMethodDescriptor yX12_parse.desc).map (fun d => d.parameters.length) = some 0 := by decide +kernel
abbrev cX12_must : ByteArray := prog_14_method_19_code
def yX12_must : MethodName := ⟨RX12, "must", "(I)V"⟩
theorem hdX12_must : yX12_must.cls ≠ "java/lang/invoke/MethodHandle" ∧ yX12_must.cls ≠ "java/lang/invoke/VarHandle" ∧ (parseMethodDescriptor yX12_must.desc).map (fun d => d.parameters.length) = some 1 := by decide +kernel
abbrev cX12_is : ByteArray := prog_14_method_16_code
def yX12_is : MethodName := ⟨RX12, "is", "(I)Z"⟩
theorem hdX12_is : yX12_is.cls ≠ "java/lang/invoke/MethodHandle" ∧ yX12_is.cls ≠ "java/lang/invoke/VarHandle" ∧ (parseMethodDescriptor yX12_is.desc).map (fun d => d.parameters.length) = some 1 := by decide +kernel
abbrev cX12_fail : ByteArray := prog_14_method_17_code
def yX12_fail : MethodName := ⟨RX12, "fail", "(I)V"⟩
theorem hdX12_fail : yX12_fail.cls ≠ "java/lang/invoke/MethodHandle" ∧ yX12_fail.cls ≠ "java/lang/invoke/VarHandle" ∧ (parseMethodDescriptor yX12_fail.desc).map (fun d => d.parameters.length) = some 1 := by decide +kernel
abbrev cX11_place : ByteArray := prog_1_method_9_code
def yX11_place : MethodName := ⟨RX11, "place", "()I"⟩
theorem hdX11_place : yX11_place.cls ≠ "java/lang/invoke/MethodHandle" ∧ yX11_place.cls ≠ "java/lang/invoke/VarHandle" ∧ (parseMethodDescriptor yX11_place.desc).map (fun d => d.parameters.length) = some 0 := by decide +kernel
abbrev cX12_place : ByteArray := prog_14_method_21_code
def yX12_place : MethodName := ⟨RX12, "place", "()I"⟩
theorem hdX12_place : yX12_place.cls ≠ "java/lang/invoke/MethodHandle" ∧ yX12_place.cls ≠ "java/lang/invoke/VarHandle" ∧ (parseMethodDescriptor yX12_place.desc).map (fun d => d.parameters.length) = some 0 := by decide +kernel
abbrev cX11_block : ByteArray := prog_1_method_10_code
def yX11_block : MethodName := ⟨RX11, "block", "(II)I"⟩
theorem hdX11_block : yX11_block.cls ≠ "java/lang/invoke/MethodHandle" ∧ yX11_block.cls ≠ "java/lang/invoke/VarHandle" ∧ (parseMethodDescriptor yX11_block.desc).map (fun d => d.parameters.length) = some 2 := by decide +kernel
abbrev cX12_block_ : ByteArray := prog_14_method_47_code
def yX12_block_ : MethodName := ⟨RX12, "block", "(II)I"⟩
theorem hdX12_block_ : yX12_block_.cls ≠ "java/lang/invoke/MethodHandle" ∧ yX12_block_.cls ≠ "java/lang/invoke/VarHandle" ∧ (parseMethodDescriptor yX12_block_.desc).map (fun d => d.parameters.length) = some 2 := by decide +kernel
abbrev cX11_value : ByteArray := prog_1_method_11_code
def yX11_value : MethodName := ⟨RX11, "value", "(II)I"⟩
theorem hdX11_value : yX11_value.cls ≠ "java/lang/invoke/MethodHandle" ∧ yX11_value.cls ≠ "java/lang/invoke/VarHandle" ∧ (parseMethodDescriptor yX11_value.desc).map (fun d => d.parameters.length) = some 2 := by decide +kernel
abbrev cX12_value : ByteArray := prog_14_method_48_code
def yX12_value : MethodName := ⟨RX12, "value", "(II)I"⟩
theorem hdX12_value : yX12_value.cls ≠ "java/lang/invoke/MethodHandle" ∧ yX12_value.cls ≠ "java/lang/invoke/VarHandle" ∧ (parseMethodDescriptor yX12_value.desc).map (fun d => d.parameters.length) = some 2 := by decide +kernel
abbrev cX11_ins : ByteArray := prog_1_method_12_code
def yX11_ins : MethodName := ⟨RX11, "ins", "(III)I"⟩
theorem hdX11_ins : yX11_ins.cls ≠ "java/lang/invoke/MethodHandle" ∧ yX11_ins.cls ≠ "java/lang/invoke/VarHandle" ∧ (parseMethodDescriptor yX11_ins.desc).map (fun d => d.parameters.length) = some 3 := by decide +kernel
abbrev cX12_ins : ByteArray := prog_14_method_50_code
def yX12_ins : MethodName := ⟨RX12, "ins", "(III)I"⟩
theorem hdX12_ins : yX12_ins.cls ≠ "java/lang/invoke/MethodHandle" ∧ yX12_ins.cls ≠ "java/lang/invoke/VarHandle" ∧ (parseMethodDescriptor yX12_ins.desc).map (fun d => d.parameters.length) = some 3 := by decide +kernel
abbrev cX12_insAt : ByteArray := prog_14_method_49_code
def yX12_insAt : MethodName := ⟨RX12, "insAt", "(II)I"⟩
theorem hdX12_insAt : yX12_insAt.cls ≠ "java/lang/invoke/MethodHandle" ∧ yX12_insAt.cls ≠ "java/lang/invoke/VarHandle" ∧ (parseMethodDescriptor yX12_insAt.desc).map (fun d => d.parameters.length) = some 2 := by decide +kernel
abbrev cX11_live : ByteArray := prog_1_method_13_code
def yX11_live : MethodName := ⟨RX11, "live", "(III)Z"⟩
theorem hdX11_live : yX11_live.cls ≠ "java/lang/invoke/MethodHandle" ∧ yX11_live.cls ≠ "java/lang/invoke/VarHandle" ∧ (parseMethodDescriptor yX11_live.desc).map (fun d => d.parameters.length) = some 3 := by decide +kernel
abbrev cX12_live : ByteArray := prog_14_method_53_code
def yX12_live : MethodName := ⟨RX12, "live", "(III)Z"⟩
theorem hdX12_live : yX12_live.cls ≠ "java/lang/invoke/MethodHandle" ∧ yX12_live.cls ≠ "java/lang/invoke/VarHandle" ∧ (parseMethodDescriptor yX12_live.desc).map (fun d => d.parameters.length) = some 3 := by decide +kernel
abbrev cX12_pointAt : ByteArray := prog_14_method_51_code
def yX12_pointAt : MethodName := ⟨RX12, "pointAt", "(II)I"⟩
theorem hdX12_pointAt : yX12_pointAt.cls ≠ "java/lang/invoke/MethodHandle" ∧ yX12_pointAt.cls ≠ "java/lang/invoke/VarHandle" ∧ (parseMethodDescriptor yX12_pointAt.desc).map (fun d => d.parameters.length) = some 2 := by decide +kernel
abbrev cX11_pressure : ByteArray := prog_1_method_14_code
def yX11_pressure : MethodName := ⟨RX11, "pressure", "(II)I"⟩
theorem hdX11_pressure : yX11_pressure.cls ≠ "java/lang/invoke/MethodHandle" ∧ yX11_pressure.cls ≠ "java/lang/invoke/VarHandle" ∧ (parseMethodDescriptor yX11_pressure.desc).map (fun d => d.parameters.length) = some 2 := by decide +kernel
abbrev cX12_pressure : ByteArray := prog_14_method_54_code
def yX12_pressure : MethodName := ⟨RX12, "pressure", "(II)I"⟩
theorem hdX12_pressure : yX12_pressure.cls ≠ "java/lang/invoke/MethodHandle" ∧ yX12_pressure.cls ≠ "java/lang/invoke/VarHandle" ∧ (parseMethodDescriptor yX12_pressure.desc).map (fun d => d.parameters.length) = some 2 := by decide +kernel
abbrev cX11_clique : ByteArray := prog_1_method_15_code
def yX11_clique : MethodName := ⟨RX11, "clique", "(I)I"⟩
theorem hdX11_clique : yX11_clique.cls ≠ "java/lang/invoke/MethodHandle" ∧ yX11_clique.cls ≠ "java/lang/invoke/VarHandle" ∧ (parseMethodDescriptor yX11_clique.desc).map (fun d => d.parameters.length) = some 1 := by decide +kernel
abbrev cX12_clique : ByteArray := prog_14_method_55_code
def yX12_clique : MethodName := ⟨RX12, "clique", "(I)I"⟩
theorem hdX12_clique : yX12_clique.cls ≠ "java/lang/invoke/MethodHandle" ∧ yX12_clique.cls ≠ "java/lang/invoke/VarHandle" ∧ (parseMethodDescriptor yX12_clique.desc).map (fun d => d.parameters.length) = some 1 := by decide +kernel
abbrev cX11_meet : ByteArray := prog_1_method_16_code
def yX11_meet : MethodName := ⟨RX11, "meet", "(II)Z"⟩
theorem hdX11_meet : yX11_meet.cls ≠ "java/lang/invoke/MethodHandle" ∧ yX11_meet.cls ≠ "java/lang/invoke/VarHandle" ∧ (parseMethodDescriptor yX11_meet.desc).map (fun d => d.parameters.length) = some 2 := by decide +kernel
abbrev cX12_meet : ByteArray := prog_14_method_56_code
def yX12_meet : MethodName := ⟨RX12, "meet", "(II)Z"⟩
theorem hdX12_meet : yX12_meet.cls ≠ "java/lang/invoke/MethodHandle" ∧ yX12_meet.cls ≠ "java/lang/invoke/VarHandle" ∧ (parseMethodDescriptor yX12_meet.desc).map (fun d => d.parameters.length) = some 2 := by decide +kernel
abbrev cX12_isValue : ByteArray := prog_14_method_52_code
def yX12_isValue : MethodName := ⟨RX12, "isValue", "(I)Z"⟩
theorem hdX12_isValue : yX12_isValue.cls ≠ "java/lang/invoke/MethodHandle" ∧ yX12_isValue.cls ≠ "java/lang/invoke/VarHandle" ∧ (parseMethodDescriptor yX12_isValue.desc).map (fun d => d.parameters.length) = some 1 := by decide +kernel
abbrev cX11_fit : ByteArray := prog_1_method_17_code
def yX11_fit : MethodName := ⟨RX11, "fit", "(I)I"⟩
theorem hdX11_fit : yX11_fit.cls ≠ "java/lang/invoke/MethodHandle" ∧ yX11_fit.cls ≠ "java/lang/invoke/VarHandle" ∧ (parseMethodDescriptor yX11_fit.desc).map (fun d => d.parameters.length) = some 1 := by decide +kernel
abbrev cX12_fit : ByteArray := prog_14_method_58_code
def yX12_fit : MethodName := ⟨RX12, "fit", "(I)I"⟩
theorem hdX12_fit : yX12_fit.cls ≠ "java/lang/invoke/MethodHandle" ∧ yX12_fit.cls ≠ "java/lang/invoke/VarHandle" ∧ (parseMethodDescriptor yX12_fit.desc).map (fun d => d.parameters.length) = some 1 := by decide +kernel
abbrev cX11_colour : ByteArray := prog_1_method_18_code
def yX11_colour : MethodName := ⟨RX11, "colour", "(I)I"⟩
theorem hdX11_colour : yX11_colour.cls ≠ "java/lang/invoke/MethodHandle" ∧ yX11_colour.cls ≠ "java/lang/invoke/VarHandle" ∧ (parseMethodDescriptor yX11_colour.desc).map (fun d => d.parameters.length) = some 1 := by decide +kernel
abbrev cX12_colour : ByteArray := prog_14_method_64_code
def yX12_colour : MethodName := ⟨RX12, "colour", "(I)I"⟩
theorem hdX12_colour : yX12_colour.cls ≠ "java/lang/invoke/MethodHandle" ∧ yX12_colour.cls ≠ "java/lang/invoke/VarHandle" ∧ (parseMethodDescriptor yX12_colour.desc).map (fun d => d.parameters.length) = some 1 := by decide +kernel
abbrev cX11_lower : ByteArray := prog_1_method_19_code
def yX11_lower : MethodName := ⟨RX11, "lower", "()I"⟩
theorem hdX11_lower : yX11_lower.cls ≠ "java/lang/invoke/MethodHandle" ∧ yX11_lower.cls ≠ "java/lang/invoke/VarHandle" ∧ (parseMethodDescriptor yX11_lower.desc).map (fun d => d.parameters.length) = some 0 := by decide +kernel
abbrev cX12_lower : ByteArray := prog_14_method_73_code
def yX12_lower : MethodName := ⟨RX12, "lower", "()I"⟩
theorem hdX12_lower : yX12_lower.cls ≠ "java/lang/invoke/MethodHandle" ∧ yX12_lower.cls ≠ "java/lang/invoke/VarHandle" ∧ (parseMethodDescriptor yX12_lower.desc).map (fun d => d.parameters.length) = some 0 := by decide +kernel
abbrev cX11_code : ByteArray := prog_1_method_20_code
def yX11_code : MethodName := ⟨RX11, "code", "(II)I"⟩
theorem hdX11_code : yX11_code.cls ≠ "java/lang/invoke/MethodHandle" ∧ yX11_code.cls ≠ "java/lang/invoke/VarHandle" ∧ (parseMethodDescriptor yX11_code.desc).map (fun d => d.parameters.length) = some 2 := by decide +kernel
abbrev cX12_code : ByteArray := prog_14_method_75_code
def yX12_code : MethodName := ⟨RX12, "code", "(II)I"⟩
theorem hdX12_code : yX12_code.cls ≠ "java/lang/invoke/MethodHandle" ∧ yX12_code.cls ≠ "java/lang/invoke/VarHandle" ∧ (parseMethodDescriptor yX12_code.desc).map (fun d => d.parameters.length) = some 2 := by decide +kernel
abbrev cX11_input : ByteArray := prog_1_method_21_code
def yX11_input : MethodName := ⟨RX11, "input", "(I)I"⟩
theorem hdX11_input : yX11_input.cls ≠ "java/lang/invoke/MethodHandle" ∧ yX11_input.cls ≠ "java/lang/invoke/VarHandle" ∧ (parseMethodDescriptor yX11_input.desc).map (fun d => d.parameters.length) = some 1 := by decide +kernel
abbrev cX12_input : ByteArray := prog_14_method_76_code
def yX12_input : MethodName := ⟨RX12, "input", "(I)I"⟩
theorem hdX12_input : yX12_input.cls ≠ "java/lang/invoke/MethodHandle" ∧ yX12_input.cls ≠ "java/lang/invoke/VarHandle" ∧ (parseMethodDescriptor yX12_input.desc).map (fun d => d.parameters.length) = some 1 := by decide +kernel
abbrev cX11_clear : ByteArray := prog_1_method_22_code
def yX11_clear : MethodName := ⟨RX11, "clear", "()I"⟩
theorem hdX11_clear : yX11_clear.cls ≠ "java/lang/invoke/MethodHandle" ∧ yX11_clear.cls ≠ "java/lang/invoke/VarHandle" ∧ (parseMethodDescriptor yX11_clear.desc).map (fun d => d.parameters.length) = some 0 := by decide +kernel
abbrev cX12_clear : ByteArray := prog_14_method_77_code
def yX12_clear : MethodName := ⟨RX12, "clear", "()I"⟩
theorem hdX12_clear : yX12_clear.cls ≠ "java/lang/invoke/MethodHandle" ∧ yX12_clear.cls ≠ "java/lang/invoke/VarHandle" ∧ (parseMethodDescriptor yX12_clear.desc).map (fun d => d.parameters.length) = some 0 := by decide +kernel
abbrev cX11_run : ByteArray := prog_1_method_23_code
def yX11_run : MethodName := ⟨RX11, "run", "(ZI)I"⟩
theorem hdX11_run : yX11_run.cls ≠ "java/lang/invoke/MethodHandle" ∧ yX11_run.cls ≠ "java/lang/invoke/VarHandle" ∧ (parseMethodDescriptor yX11_run.desc).map (fun d => d.parameters.length) = some 2 := by decide +kernel
abbrev cX12_run : ByteArray := prog_14_method_79_code
def yX12_run : MethodName := ⟨RX12, "run", "(ZI)I"⟩
theorem hdX12_run : yX12_run.cls ≠ "java/lang/invoke/MethodHandle" ∧ yX12_run.cls ≠ "java/lang/invoke/VarHandle" ∧ (parseMethodDescriptor yX12_run.desc).map (fun d => d.parameters.length) = some 2 := by decide +kernel
abbrev cX11_told : ByteArray := prog_1_method_26_code
def yX11_told : MethodName := ⟨RX11, "told", "(ZI)I"⟩
theorem hdX11_told : yX11_told.cls ≠ "java/lang/invoke/MethodHandle" ∧ yX11_told.cls ≠ "java/lang/invoke/VarHandle" ∧ (parseMethodDescriptor yX11_told.desc).map (fun d => d.parameters.length) = some 2 := by decide +kernel
abbrev cX12_told : ByteArray := prog_14_method_84_code
def yX12_told : MethodName := ⟨RX12, "told", "(ZI)I"⟩
theorem hdX12_told : yX12_told.cls ≠ "java/lang/invoke/MethodHandle" ∧ yX12_told.cls ≠ "java/lang/invoke/VarHandle" ∧ (parseMethodDescriptor yX12_told.desc).map (fun d => d.parameters.length) = some 2 := by decide +kernel
abbrev cX11_output : ByteArray := prog_1_method_27_code
def yX11_output : MethodName := ⟨RX11, "output", "(ZI)I"⟩
theorem hdX11_output : yX11_output.cls ≠ "java/lang/invoke/MethodHandle" ∧ yX11_output.cls ≠ "java/lang/invoke/VarHandle" ∧ (parseMethodDescriptor yX11_output.desc).map (fun d => d.parameters.length) = some 2 := by decide +kernel
abbrev cX12_output : ByteArray := prog_14_method_85_code
def yX12_output : MethodName := ⟨RX12, "output", "(ZI)I"⟩
theorem hdX12_output : yX12_output.cls ≠ "java/lang/invoke/MethodHandle" ∧ yX12_output.cls ≠ "java/lang/invoke/VarHandle" ∧ (parseMethodDescriptor yX12_output.desc).map (fun d => d.parameters.length) = some 2 := by decide +kernel
abbrev cX11_memory : ByteArray := prog_1_method_28_code
def yX11_memory : MethodName := ⟨RX11, "memory", "(ZI)I"⟩
theorem hdX11_memory : yX11_memory.cls ≠ "java/lang/invoke/MethodHandle" ∧ yX11_memory.cls ≠ "java/lang/invoke/VarHandle" ∧ (parseMethodDescriptor yX11_memory.desc).map (fun d => d.parameters.length) = some 2 := by decide +kernel
abbrev cX12_memory : ByteArray := prog_14_method_86_code
def yX12_memory : MethodName := ⟨RX12, "memory", "(ZI)I"⟩
theorem hdX12_memory : yX12_memory.cls ≠ "java/lang/invoke/MethodHandle" ∧ yX12_memory.cls ≠ "java/lang/invoke/VarHandle" ∧ (parseMethodDescriptor yX12_memory.desc).map (fun d => d.parameters.length) = some 2 := by decide +kernel
abbrev cX11_count : ByteArray := prog_1_method_29_code
def yX11_count : MethodName := ⟨RX11, "count", "(I)I"⟩
theorem hdX11_count : yX11_count.cls ≠ "java/lang/invoke/MethodHandle" ∧ yX11_count.cls ≠ "java/lang/invoke/VarHandle" ∧ (parseMethodDescriptor yX11_count.desc).map (fun d => d.parameters.length) = some 1 := by decide +kernel
abbrev cX11_countRows : ByteArray := prog_1_method_30_code
def yX11_countRows : MethodName := ⟨RX11, "countRows", "(I)I"⟩
theorem hdX11_countRows : yX11_countRows.cls ≠ "java/lang/invoke/MethodHandle" ∧ yX11_countRows.cls ≠ "java/lang/invoke/VarHandle" ∧ (parseMethodDescriptor yX11_countRows.desc).map (fun d => d.parameters.length) = some 1 := by decide +kernel
abbrev cX12_count : ByteArray := prog_14_method_89_code
def yX12_count : MethodName := ⟨RX12, "count", "(I)I"⟩
theorem hdX12_count : yX12_count.cls ≠ "java/lang/invoke/MethodHandle" ∧ yX12_count.cls ≠ "java/lang/invoke/VarHandle" ∧ (parseMethodDescriptor yX12_count.desc).map (fun d => d.parameters.length) = some 1 := by decide +kernel
abbrev vC : List vw_C := [(RX1, TX1, 8), (RX2, TX2, 3), (RX3, TX3, 12), (RX6, TX6, 6), (RX7, TX7, 11), (RX9, TX9, 4), (RX10, TX10, 7), (RX11, TX11, 15), (RX12, TX12, 105)]
end
section
theorem dJ0_coder_7d493_0 : decode cJ0_coder_7d493 0 = .ok (.getstatic 38, 3) := by decide +kernel
theorem dJ0_coder_7d493_3 : decode cJ0_coder_7d493 3 = .ok (.ifCond .eq 10, 3) := by decide +kernel
theorem dJ0_coder_7d493_6 : decode cJ0_coder_7d493 6 = .ok (.aload_n 0, 1) := by decide +kernel
theorem dJ0_coder_7d493_7 : decode cJ0_coder_7d493 7 = .ok (.getfield 15, 3) := by decide +kernel
theorem dJ0_coder_7d493_10 : decode cJ0_coder_7d493 10 = .ok (.goto 4, 3) := by decide +kernel
theorem dJ0_coder_7d493_14 : decode cJ0_coder_7d493 14 = .ok (.ireturn, 1) := by decide +kernel
theorem dJ0_isLatin1_aae02_0 : decode cJ0_isLatin1_aae02 0 = .ok (.getstatic 38, 3) := by decide +kernel
theorem dJ0_isLatin1_aae02_3 : decode cJ0_isLatin1_aae02 3 = .ok (.ifCond .eq 14, 3) := by decide +kernel
theorem dJ0_isLatin1_aae02_6 : decode cJ0_isLatin1_aae02 6 = .ok (.aload_n 0, 1) := by decide +kernel
theorem dJ0_isLatin1_aae02_7 : decode cJ0_isLatin1_aae02 7 = .ok (.getfield 15, 3) := by decide +kernel
theorem dJ0_isLatin1_aae02_10 : decode cJ0_isLatin1_aae02 10 = .ok (.ifCond .ne 7, 3) := by decide +kernel
theorem dJ0_isLatin1_aae02_13 : decode cJ0_isLatin1_aae02 13 = .ok (.iconst 1, 1) := by decide +kernel
theorem dJ0_isLatin1_aae02_14 : decode cJ0_isLatin1_aae02 14 = .ok (.goto 4, 3) := by decide +kernel
theorem dJ0_isLatin1_aae02_18 : decode cJ0_isLatin1_aae02 18 = .ok (.ireturn, 1) := by decide +kernel
theorem dJ0_length_8abf5_0 : decode cJ0_length_8abf5 0 = .ok (.aload_n 0, 1) := by decide +kernel
theorem dJ0_length_8abf5_1 : decode cJ0_length_8abf5 1 = .ok (.getfield 9, 3) := by decide +kernel
theorem dJ0_length_8abf5_4 : decode cJ0_length_8abf5 4 = .ok (.arraylength, 1) := by decide +kernel
theorem dJ0_length_8abf5_5 : decode cJ0_length_8abf5 5 = .ok (.aload_n 0, 1) := by decide +kernel
theorem dJ0_length_8abf5_6 : decode cJ0_length_8abf5 6 = .ok (.invokevirtual 335, 3) := by decide +kernel
theorem dJ0_length_8abf5_9 : decode cJ0_length_8abf5 9 = .ok (.ishr, 1) := by decide +kernel
theorem dJ0_length_8abf5_10 : decode cJ0_length_8abf5 10 = .ok (.ireturn, 1) := by decide +kernel
theorem dJ3_checkIndex_8e157_0 : decode cJ3_checkIndex_8e157 0 = .ok (.iload_n 0, 1) := by decide +kernel
theorem dJ3_checkIndex_8e157_1 : decode cJ3_checkIndex_8e157 1 = .ok (.ifCond .lt 8, 3) := by decide +kernel
theorem dJ3_checkIndex_8e157_4 : decode cJ3_checkIndex_8e157 4 = .ok (.iload_n 0, 1) := by decide +kernel
theorem dJ3_checkIndex_8e157_5 : decode cJ3_checkIndex_8e157 5 = .ok (.iload_n 1, 1) := by decide +kernel
theorem dJ3_checkIndex_8e157_6 : decode cJ3_checkIndex_8e157 6 = .ok (.if_icmp .lt 10, 3) := by decide +kernel
theorem dJ3_checkIndex_8e157_16 : decode cJ3_checkIndex_8e157 16 = .ok (.iload_n 0, 1) := by decide +kernel
theorem dJ3_checkIndex_8e157_17 : decode cJ3_checkIndex_8e157 17 = .ok (.ireturn, 1) := by decide +kernel
theorem dJ0_checkIndex_df160_0 : decode cJ0_checkIndex_df160 0 = .ok (.iload_n 0, 1) := by decide +kernel
theorem dJ0_checkIndex_df160_1 : decode cJ0_checkIndex_df160 1 = .ok (.iload_n 1, 1) := by decide +kernel
theorem dJ0_checkIndex_df160_2 : decode cJ0_checkIndex_df160 2 = .ok (.getstatic 1053, 3) := by decide +kernel
theorem dJ0_checkIndex_df160_5 : decode cJ0_checkIndex_df160 5 = .ok (.invokestatic 1059, 3) := by decide +kernel
theorem dJ0_checkIndex_df160_8 : decode cJ0_checkIndex_df160 8 = .ok (.pop, 1) := by decide +kernel
theorem dJ0_checkIndex_df160_9 : decode cJ0_checkIndex_df160 9 = .ok (.return_, 1) := by decide +kernel
theorem dJ1_charAt_3b067_0 : decode cJ1_charAt_3b067 0 = .ok (.iload_n 1, 1) := by decide +kernel
theorem dJ1_charAt_3b067_1 : decode cJ1_charAt_3b067 1 = .ok (.aload_n 0, 1) := by decide +kernel
theorem dJ1_charAt_3b067_2 : decode cJ1_charAt_3b067 2 = .ok (.arraylength, 1) := by decide +kernel
theorem dJ1_charAt_3b067_3 : decode cJ1_charAt_3b067 3 = .ok (.invokestatic 9, 3) := by decide +kernel
theorem dJ1_charAt_3b067_6 : decode cJ1_charAt_3b067 6 = .ok (.aload_n 0, 1) := by decide +kernel
theorem dJ1_charAt_3b067_7 : decode cJ1_charAt_3b067 7 = .ok (.iload_n 1, 1) := by decide +kernel
theorem dJ1_charAt_3b067_8 : decode cJ1_charAt_3b067 8 = .ok (.baload, 1) := by decide +kernel
theorem dJ1_charAt_3b067_9 : decode cJ1_charAt_3b067 9 = .ok (.sipush 255, 3) := by decide +kernel
theorem dJ1_charAt_3b067_12 : decode cJ1_charAt_3b067 12 = .ok (.iand, 1) := by decide +kernel
theorem dJ1_charAt_3b067_13 : decode cJ1_charAt_3b067 13 = .ok (.i2c, 1) := by decide +kernel
theorem dJ1_charAt_3b067_14 : decode cJ1_charAt_3b067 14 = .ok (.ireturn, 1) := by decide +kernel
theorem dJ0_charAt_5068e_0 : decode cJ0_charAt_5068e 0 = .ok (.aload_n 0, 1) := by decide +kernel
theorem dJ0_charAt_5068e_1 : decode cJ0_charAt_5068e 1 = .ok (.invokevirtual 492, 3) := by decide +kernel
theorem dJ0_charAt_5068e_4 : decode cJ0_charAt_5068e 4 = .ok (.ifCond .eq 12, 3) := by decide +kernel
theorem dJ0_charAt_5068e_7 : decode cJ0_charAt_5068e 7 = .ok (.aload_n 0, 1) := by decide +kernel
theorem dJ0_charAt_5068e_8 : decode cJ0_charAt_5068e 8 = .ok (.getfield 9, 3) := by decide +kernel
theorem dJ0_charAt_5068e_11 : decode cJ0_charAt_5068e 11 = .ok (.iload_n 1, 1) := by decide +kernel
theorem dJ0_charAt_5068e_12 : decode cJ0_charAt_5068e 12 = .ok (.invokestatic 495, 3) := by decide +kernel
theorem dJ0_charAt_5068e_15 : decode cJ0_charAt_5068e 15 = .ok (.ireturn, 1) := by decide +kernel
theorem dL_law_0 : decode cL_law 0 = .ok (.new 7, 3) := by decide +kernel
theorem dL_law_3 : decode cL_law 3 = .ok (.dup, 1) := by decide +kernel
theorem dL_law_4 : decode cL_law 4 = .ok (.invokespecial 9, 3) := by decide +kernel
theorem dL_law_7 : decode cL_law 7 = .ok (.astore_n 1, 1) := by decide +kernel
theorem dL_law_8 : decode cL_law 8 = .ok (.new 10, 3) := by decide +kernel
theorem dL_law_11 : decode cL_law 11 = .ok (.dup, 1) := by decide +kernel
theorem dL_law_12 : decode cL_law 12 = .ok (.invokespecial 12, 3) := by decide +kernel
theorem dL_law_15 : decode cL_law 15 = .ok (.astore_n 2, 1) := by decide +kernel
theorem dL_law_16 : decode cL_law 16 = .ok (.iconst 0, 1) := by decide +kernel
theorem dL_law_17 : decode cL_law 17 = .ok (.istore_n 3, 1) := by decide +kernel
theorem dL_law_18 : decode cL_law 18 = .ok (.iload_n 3, 1) := by decide +kernel
theorem dL_law_19 : decode cL_law 19 = .ok (.aload_n 0, 1) := by decide +kernel
theorem dL_law_20 : decode cL_law 20 = .ok (.arraylength, 1) := by decide +kernel
theorem dL_law_21 : decode cL_law 21 = .ok (.bipush 6, 2) := by decide +kernel
theorem dL_law_23 : decode cL_law 23 = .ok (.isub, 1) := by decide +kernel
theorem dL_law_24 : decode cL_law 24 = .ok (.if_icmp .gt 818, 3) := by decide +kernel
theorem dL_law_27 : decode cL_law 27 = .ok (.aload_n 0, 1) := by decide +kernel
theorem dL_law_28 : decode cL_law 28 = .ok (.iload_n 3, 1) := by decide +kernel
theorem dL_law_29 : decode cL_law 29 = .ok (.iaload, 1) := by decide +kernel
theorem dL_law_30 : decode cL_law 30 = .ok (.bipush 31, 2) := by decide +kernel
theorem dL_law_32 : decode cL_law 32 = .ok (.iand, 1) := by decide +kernel
theorem dL_law_33 : decode cL_law 33 = .ok (.tableswitch 803 0 21 #[103, 166, 189, 202, 215, 248, 281, 324, 367, 400, 423, 456, 479, 502, 515, 548, 571, 584, 633, 682, 731, 780], 103) := by decide +kernel
theorem dL_law_136 : decode cL_law 136 = .ok (.aload_n 1, 1) := by decide +kernel
theorem dL_law_137 : decode cL_law 137 = .ok (.aload_n 0, 1) := by decide +kernel
theorem dL_law_138 : decode cL_law 138 = .ok (.iload_n 3, 1) := by decide +kernel
theorem dL_law_139 : decode cL_law 139 = .ok (.iconst 1, 1) := by decide +kernel
theorem dL_law_140 : decode cL_law 140 = .ok (.iadd, 1) := by decide +kernel
theorem dL_law_141 : decode cL_law 141 = .ok (.iaload, 1) := by decide +kernel
theorem dL_law_142 : decode cL_law 142 = .ok (.aload_n 0, 1) := by decide +kernel
theorem dL_law_143 : decode cL_law 143 = .ok (.iload_n 3, 1) := by decide +kernel
theorem dL_law_144 : decode cL_law 144 = .ok (.iconst 2, 1) := by decide +kernel
theorem dL_law_145 : decode cL_law 145 = .ok (.iadd, 1) := by decide +kernel
theorem dL_law_146 : decode cL_law 146 = .ok (.iaload, 1) := by decide +kernel
theorem dL_law_147 : decode cL_law 147 = .ok (.aload_n 0, 1) := by decide +kernel
theorem dL_law_148 : decode cL_law 148 = .ok (.iload_n 3, 1) := by decide +kernel
theorem dL_law_149 : decode cL_law 149 = .ok (.iconst 3, 1) := by decide +kernel
theorem dL_law_150 : decode cL_law 150 = .ok (.iadd, 1) := by decide +kernel
theorem dL_law_151 : decode cL_law 151 = .ok (.iaload, 1) := by decide +kernel
theorem dL_law_152 : decode cL_law 152 = .ok (.aload_n 0, 1) := by decide +kernel
theorem dL_law_153 : decode cL_law 153 = .ok (.iload_n 3, 1) := by decide +kernel
theorem dL_law_154 : decode cL_law 154 = .ok (.iconst 4, 1) := by decide +kernel
theorem dL_law_155 : decode cL_law 155 = .ok (.iadd, 1) := by decide +kernel
theorem dL_law_156 : decode cL_law 156 = .ok (.iaload, 1) := by decide +kernel
theorem dL_law_157 : decode cL_law 157 = .ok (.aload_n 0, 1) := by decide +kernel
theorem dL_law_158 : decode cL_law 158 = .ok (.iload_n 3, 1) := by decide +kernel
theorem dL_law_159 : decode cL_law 159 = .ok (.iconst 5, 1) := by decide +kernel
theorem dL_law_160 : decode cL_law 160 = .ok (.iadd, 1) := by decide +kernel
theorem dL_law_161 : decode cL_law 161 = .ok (.iaload, 1) := by decide +kernel
theorem dL_law_162 : decode cL_law 162 = .ok (.invokevirtual 13, 3) := by decide +kernel
theorem dL_law_165 : decode cL_law 165 = .ok (.aload_n 2, 1) := by decide +kernel
theorem dL_law_166 : decode cL_law 166 = .ok (.aload_n 0, 1) := by decide +kernel
theorem dL_law_167 : decode cL_law 167 = .ok (.iload_n 3, 1) := by decide +kernel
theorem dL_law_168 : decode cL_law 168 = .ok (.iconst 1, 1) := by decide +kernel
theorem dL_law_169 : decode cL_law 169 = .ok (.iadd, 1) := by decide +kernel
theorem dL_law_170 : decode cL_law 170 = .ok (.iaload, 1) := by decide +kernel
theorem dL_law_171 : decode cL_law 171 = .ok (.aload_n 0, 1) := by decide +kernel
theorem dL_law_172 : decode cL_law 172 = .ok (.iload_n 3, 1) := by decide +kernel
theorem dL_law_173 : decode cL_law 173 = .ok (.iconst 2, 1) := by decide +kernel
theorem dL_law_174 : decode cL_law 174 = .ok (.iadd, 1) := by decide +kernel
theorem dL_law_175 : decode cL_law 175 = .ok (.iaload, 1) := by decide +kernel
theorem dL_law_176 : decode cL_law 176 = .ok (.aload_n 0, 1) := by decide +kernel
theorem dL_law_177 : decode cL_law 177 = .ok (.iload_n 3, 1) := by decide +kernel
theorem dL_law_178 : decode cL_law 178 = .ok (.iconst 3, 1) := by decide +kernel
theorem dL_law_179 : decode cL_law 179 = .ok (.iadd, 1) := by decide +kernel
theorem dL_law_180 : decode cL_law 180 = .ok (.iaload, 1) := by decide +kernel
theorem dL_law_181 : decode cL_law 181 = .ok (.aload_n 0, 1) := by decide +kernel
theorem dL_law_182 : decode cL_law 182 = .ok (.iload_n 3, 1) := by decide +kernel
theorem dL_law_183 : decode cL_law 183 = .ok (.iconst 4, 1) := by decide +kernel
theorem dL_law_184 : decode cL_law 184 = .ok (.iadd, 1) := by decide +kernel
theorem dL_law_185 : decode cL_law 185 = .ok (.iaload, 1) := by decide +kernel
theorem dL_law_186 : decode cL_law 186 = .ok (.aload_n 0, 1) := by decide +kernel
theorem dL_law_187 : decode cL_law 187 = .ok (.iload_n 3, 1) := by decide +kernel
theorem dL_law_188 : decode cL_law 188 = .ok (.iconst 5, 1) := by decide +kernel
theorem dL_law_189 : decode cL_law 189 = .ok (.iadd, 1) := by decide +kernel
theorem dL_law_190 : decode cL_law 190 = .ok (.iaload, 1) := by decide +kernel
theorem dL_law_191 : decode cL_law 191 = .ok (.invokevirtual 17, 3) := by decide +kernel
theorem dL_law_194 : decode cL_law 194 = .ok (.if_icmp .eq 642, 3) := by decide +kernel
theorem dL_law_199 : decode cL_law 199 = .ok (.aload_n 1, 1) := by decide +kernel
theorem dL_law_200 : decode cL_law 200 = .ok (.aload_n 0, 1) := by decide +kernel
theorem dL_law_201 : decode cL_law 201 = .ok (.iload_n 3, 1) := by decide +kernel
theorem dL_law_202 : decode cL_law 202 = .ok (.iconst 1, 1) := by decide +kernel
theorem dL_law_203 : decode cL_law 203 = .ok (.iadd, 1) := by decide +kernel
theorem dL_law_204 : decode cL_law 204 = .ok (.iaload, 1) := by decide +kernel
theorem dL_law_205 : decode cL_law 205 = .ok (.invokevirtual 18, 3) := by decide +kernel
theorem dL_law_208 : decode cL_law 208 = .ok (.aload_n 2, 1) := by decide +kernel
theorem dL_law_209 : decode cL_law 209 = .ok (.aload_n 0, 1) := by decide +kernel
theorem dL_law_210 : decode cL_law 210 = .ok (.iload_n 3, 1) := by decide +kernel
theorem dL_law_211 : decode cL_law 211 = .ok (.iconst 1, 1) := by decide +kernel
theorem dL_law_212 : decode cL_law 212 = .ok (.iadd, 1) := by decide +kernel
theorem dL_law_213 : decode cL_law 213 = .ok (.iaload, 1) := by decide +kernel
theorem dL_law_214 : decode cL_law 214 = .ok (.invokevirtual 22, 3) := by decide +kernel
theorem dL_law_217 : decode cL_law 217 = .ok (.if_icmp .eq 619, 3) := by decide +kernel
theorem dL_law_222 : decode cL_law 222 = .ok (.aload_n 1, 1) := by decide +kernel
theorem dL_law_223 : decode cL_law 223 = .ok (.invokevirtual 23, 3) := by decide +kernel
theorem dL_law_226 : decode cL_law 226 = .ok (.aload_n 2, 1) := by decide +kernel
theorem dL_law_227 : decode cL_law 227 = .ok (.invokevirtual 27, 3) := by decide +kernel
theorem dL_law_230 : decode cL_law 230 = .ok (.if_icmp .eq 606, 3) := by decide +kernel
theorem dL_law_235 : decode cL_law 235 = .ok (.aload_n 1, 1) := by decide +kernel
theorem dL_law_236 : decode cL_law 236 = .ok (.invokevirtual 28, 3) := by decide +kernel
theorem dL_law_239 : decode cL_law 239 = .ok (.aload_n 2, 1) := by decide +kernel
theorem dL_law_240 : decode cL_law 240 = .ok (.invokevirtual 31, 3) := by decide +kernel
theorem dL_law_243 : decode cL_law 243 = .ok (.if_icmp .eq 593, 3) := by decide +kernel
theorem dL_law_248 : decode cL_law 248 = .ok (.aload_n 1, 1) := by decide +kernel
theorem dL_law_249 : decode cL_law 249 = .ok (.aload_n 0, 1) := by decide +kernel
theorem dL_law_250 : decode cL_law 250 = .ok (.iload_n 3, 1) := by decide +kernel
theorem dL_law_251 : decode cL_law 251 = .ok (.iconst 1, 1) := by decide +kernel
theorem dL_law_252 : decode cL_law 252 = .ok (.iadd, 1) := by decide +kernel
theorem dL_law_253 : decode cL_law 253 = .ok (.iaload, 1) := by decide +kernel
theorem dL_law_254 : decode cL_law 254 = .ok (.aload_n 0, 1) := by decide +kernel
theorem dL_law_255 : decode cL_law 255 = .ok (.iload_n 3, 1) := by decide +kernel
theorem dL_law_256 : decode cL_law 256 = .ok (.iconst 2, 1) := by decide +kernel
theorem dL_law_257 : decode cL_law 257 = .ok (.iadd, 1) := by decide +kernel
theorem dL_law_258 : decode cL_law 258 = .ok (.iaload, 1) := by decide +kernel
theorem dL_law_259 : decode cL_law 259 = .ok (.invokevirtual 32, 3) := by decide +kernel
theorem dL_law_262 : decode cL_law 262 = .ok (.aload_n 2, 1) := by decide +kernel
theorem dL_law_263 : decode cL_law 263 = .ok (.aload_n 0, 1) := by decide +kernel
theorem dL_law_264 : decode cL_law 264 = .ok (.iload_n 3, 1) := by decide +kernel
theorem dL_law_265 : decode cL_law 265 = .ok (.iconst 1, 1) := by decide +kernel
theorem dL_law_266 : decode cL_law 266 = .ok (.iadd, 1) := by decide +kernel
theorem dL_law_267 : decode cL_law 267 = .ok (.iaload, 1) := by decide +kernel
theorem dL_law_268 : decode cL_law 268 = .ok (.aload_n 0, 1) := by decide +kernel
theorem dL_law_269 : decode cL_law 269 = .ok (.iload_n 3, 1) := by decide +kernel
theorem dL_law_270 : decode cL_law 270 = .ok (.iconst 2, 1) := by decide +kernel
theorem dL_law_271 : decode cL_law 271 = .ok (.iadd, 1) := by decide +kernel
theorem dL_law_272 : decode cL_law 272 = .ok (.iaload, 1) := by decide +kernel
theorem dL_law_273 : decode cL_law 273 = .ok (.invokevirtual 36, 3) := by decide +kernel
theorem dL_law_276 : decode cL_law 276 = .ok (.if_icmp .eq 560, 3) := by decide +kernel
theorem dL_law_281 : decode cL_law 281 = .ok (.aload_n 1, 1) := by decide +kernel
theorem dL_law_282 : decode cL_law 282 = .ok (.aload_n 0, 1) := by decide +kernel
theorem dL_law_283 : decode cL_law 283 = .ok (.iload_n 3, 1) := by decide +kernel
theorem dL_law_284 : decode cL_law 284 = .ok (.iconst 1, 1) := by decide +kernel
theorem dL_law_285 : decode cL_law 285 = .ok (.iadd, 1) := by decide +kernel
theorem dL_law_286 : decode cL_law 286 = .ok (.iaload, 1) := by decide +kernel
theorem dL_law_287 : decode cL_law 287 = .ok (.aload_n 0, 1) := by decide +kernel
theorem dL_law_288 : decode cL_law 288 = .ok (.iload_n 3, 1) := by decide +kernel
theorem dL_law_289 : decode cL_law 289 = .ok (.iconst 2, 1) := by decide +kernel
theorem dL_law_290 : decode cL_law 290 = .ok (.iadd, 1) := by decide +kernel
theorem dL_law_291 : decode cL_law 291 = .ok (.iaload, 1) := by decide +kernel
theorem dL_law_292 : decode cL_law 292 = .ok (.invokevirtual 37, 3) := by decide +kernel
theorem dL_law_295 : decode cL_law 295 = .ok (.aload_n 2, 1) := by decide +kernel
theorem dL_law_296 : decode cL_law 296 = .ok (.aload_n 0, 1) := by decide +kernel
theorem dL_law_297 : decode cL_law 297 = .ok (.iload_n 3, 1) := by decide +kernel
theorem dL_law_298 : decode cL_law 298 = .ok (.iconst 1, 1) := by decide +kernel
theorem dL_law_299 : decode cL_law 299 = .ok (.iadd, 1) := by decide +kernel
theorem dL_law_300 : decode cL_law 300 = .ok (.iaload, 1) := by decide +kernel
theorem dL_law_301 : decode cL_law 301 = .ok (.aload_n 0, 1) := by decide +kernel
theorem dL_law_302 : decode cL_law 302 = .ok (.iload_n 3, 1) := by decide +kernel
theorem dL_law_303 : decode cL_law 303 = .ok (.iconst 2, 1) := by decide +kernel
theorem dL_law_304 : decode cL_law 304 = .ok (.iadd, 1) := by decide +kernel
theorem dL_law_305 : decode cL_law 305 = .ok (.iaload, 1) := by decide +kernel
theorem dL_law_306 : decode cL_law 306 = .ok (.invokevirtual 40, 3) := by decide +kernel
theorem dL_law_309 : decode cL_law 309 = .ok (.if_icmp .eq 527, 3) := by decide +kernel
theorem dL_law_314 : decode cL_law 314 = .ok (.aload_n 1, 1) := by decide +kernel
theorem dL_law_315 : decode cL_law 315 = .ok (.aload_n 0, 1) := by decide +kernel
theorem dL_law_316 : decode cL_law 316 = .ok (.iload_n 3, 1) := by decide +kernel
theorem dL_law_317 : decode cL_law 317 = .ok (.iconst 1, 1) := by decide +kernel
theorem dL_law_318 : decode cL_law 318 = .ok (.iadd, 1) := by decide +kernel
theorem dL_law_319 : decode cL_law 319 = .ok (.iaload, 1) := by decide +kernel
theorem dL_law_320 : decode cL_law 320 = .ok (.aload_n 0, 1) := by decide +kernel
theorem dL_law_321 : decode cL_law 321 = .ok (.iload_n 3, 1) := by decide +kernel
theorem dL_law_322 : decode cL_law 322 = .ok (.iconst 2, 1) := by decide +kernel
theorem dL_law_323 : decode cL_law 323 = .ok (.iadd, 1) := by decide +kernel
theorem dL_law_324 : decode cL_law 324 = .ok (.iaload, 1) := by decide +kernel
theorem dL_law_325 : decode cL_law 325 = .ok (.aload_n 0, 1) := by decide +kernel
theorem dL_law_326 : decode cL_law 326 = .ok (.iload_n 3, 1) := by decide +kernel
theorem dL_law_327 : decode cL_law 327 = .ok (.iconst 3, 1) := by decide +kernel
theorem dL_law_328 : decode cL_law 328 = .ok (.iadd, 1) := by decide +kernel
theorem dL_law_329 : decode cL_law 329 = .ok (.iaload, 1) := by decide +kernel
theorem dL_law_330 : decode cL_law 330 = .ok (.invokevirtual 41, 3) := by decide +kernel
theorem dL_law_333 : decode cL_law 333 = .ok (.aload_n 2, 1) := by decide +kernel
theorem dL_law_334 : decode cL_law 334 = .ok (.aload_n 0, 1) := by decide +kernel
theorem dL_law_335 : decode cL_law 335 = .ok (.iload_n 3, 1) := by decide +kernel
theorem dL_law_336 : decode cL_law 336 = .ok (.iconst 1, 1) := by decide +kernel
theorem dL_law_337 : decode cL_law 337 = .ok (.iadd, 1) := by decide +kernel
theorem dL_law_338 : decode cL_law 338 = .ok (.iaload, 1) := by decide +kernel
theorem dL_law_339 : decode cL_law 339 = .ok (.aload_n 0, 1) := by decide +kernel
theorem dL_law_340 : decode cL_law 340 = .ok (.iload_n 3, 1) := by decide +kernel
theorem dL_law_341 : decode cL_law 341 = .ok (.iconst 2, 1) := by decide +kernel
theorem dL_law_342 : decode cL_law 342 = .ok (.iadd, 1) := by decide +kernel
theorem dL_law_343 : decode cL_law 343 = .ok (.iaload, 1) := by decide +kernel
theorem dL_law_344 : decode cL_law 344 = .ok (.aload_n 0, 1) := by decide +kernel
theorem dL_law_345 : decode cL_law 345 = .ok (.iload_n 3, 1) := by decide +kernel
theorem dL_law_346 : decode cL_law 346 = .ok (.iconst 3, 1) := by decide +kernel
theorem dL_law_347 : decode cL_law 347 = .ok (.iadd, 1) := by decide +kernel
theorem dL_law_348 : decode cL_law 348 = .ok (.iaload, 1) := by decide +kernel
theorem dL_law_349 : decode cL_law 349 = .ok (.invokevirtual 45, 3) := by decide +kernel
theorem dL_law_352 : decode cL_law 352 = .ok (.if_icmp .eq 484, 3) := by decide +kernel
theorem dL_law_357 : decode cL_law 357 = .ok (.aload_n 1, 1) := by decide +kernel
theorem dL_law_358 : decode cL_law 358 = .ok (.aload_n 0, 1) := by decide +kernel
theorem dL_law_359 : decode cL_law 359 = .ok (.iload_n 3, 1) := by decide +kernel
theorem dL_law_360 : decode cL_law 360 = .ok (.iconst 1, 1) := by decide +kernel
theorem dL_law_361 : decode cL_law 361 = .ok (.iadd, 1) := by decide +kernel
theorem dL_law_362 : decode cL_law 362 = .ok (.iaload, 1) := by decide +kernel
theorem dL_law_363 : decode cL_law 363 = .ok (.aload_n 0, 1) := by decide +kernel
theorem dL_law_364 : decode cL_law 364 = .ok (.iload_n 3, 1) := by decide +kernel
theorem dL_law_365 : decode cL_law 365 = .ok (.iconst 2, 1) := by decide +kernel
theorem dL_law_366 : decode cL_law 366 = .ok (.iadd, 1) := by decide +kernel
theorem dL_law_367 : decode cL_law 367 = .ok (.iaload, 1) := by decide +kernel
theorem dL_law_368 : decode cL_law 368 = .ok (.aload_n 0, 1) := by decide +kernel
theorem dL_law_369 : decode cL_law 369 = .ok (.iload_n 3, 1) := by decide +kernel
theorem dL_law_370 : decode cL_law 370 = .ok (.iconst 3, 1) := by decide +kernel
theorem dL_law_371 : decode cL_law 371 = .ok (.iadd, 1) := by decide +kernel
theorem dL_law_372 : decode cL_law 372 = .ok (.iaload, 1) := by decide +kernel
theorem dL_law_373 : decode cL_law 373 = .ok (.invokevirtual 46, 3) := by decide +kernel
theorem dL_law_376 : decode cL_law 376 = .ok (.aload_n 2, 1) := by decide +kernel
theorem dL_law_377 : decode cL_law 377 = .ok (.aload_n 0, 1) := by decide +kernel
theorem dL_law_378 : decode cL_law 378 = .ok (.iload_n 3, 1) := by decide +kernel
theorem dL_law_379 : decode cL_law 379 = .ok (.iconst 1, 1) := by decide +kernel
theorem dL_law_380 : decode cL_law 380 = .ok (.iadd, 1) := by decide +kernel
theorem dL_law_381 : decode cL_law 381 = .ok (.iaload, 1) := by decide +kernel
theorem dL_law_382 : decode cL_law 382 = .ok (.aload_n 0, 1) := by decide +kernel
theorem dL_law_383 : decode cL_law 383 = .ok (.iload_n 3, 1) := by decide +kernel
theorem dL_law_384 : decode cL_law 384 = .ok (.iconst 2, 1) := by decide +kernel
theorem dL_law_385 : decode cL_law 385 = .ok (.iadd, 1) := by decide +kernel
theorem dL_law_386 : decode cL_law 386 = .ok (.iaload, 1) := by decide +kernel
theorem dL_law_387 : decode cL_law 387 = .ok (.aload_n 0, 1) := by decide +kernel
theorem dL_law_388 : decode cL_law 388 = .ok (.iload_n 3, 1) := by decide +kernel
theorem dL_law_389 : decode cL_law 389 = .ok (.iconst 3, 1) := by decide +kernel
theorem dL_law_390 : decode cL_law 390 = .ok (.iadd, 1) := by decide +kernel
theorem dL_law_391 : decode cL_law 391 = .ok (.iaload, 1) := by decide +kernel
theorem dL_law_392 : decode cL_law 392 = .ok (.invokevirtual 50, 3) := by decide +kernel
theorem dL_law_395 : decode cL_law 395 = .ok (.if_icmp .eq 441, 3) := by decide +kernel
theorem dL_law_400 : decode cL_law 400 = .ok (.aload_n 1, 1) := by decide +kernel
theorem dL_law_401 : decode cL_law 401 = .ok (.aload_n 0, 1) := by decide +kernel
theorem dL_law_402 : decode cL_law 402 = .ok (.iload_n 3, 1) := by decide +kernel
theorem dL_law_403 : decode cL_law 403 = .ok (.iconst 1, 1) := by decide +kernel
theorem dL_law_404 : decode cL_law 404 = .ok (.iadd, 1) := by decide +kernel
theorem dL_law_405 : decode cL_law 405 = .ok (.iaload, 1) := by decide +kernel
theorem dL_law_406 : decode cL_law 406 = .ok (.aload_n 0, 1) := by decide +kernel
theorem dL_law_407 : decode cL_law 407 = .ok (.iload_n 3, 1) := by decide +kernel
theorem dL_law_408 : decode cL_law 408 = .ok (.iconst 2, 1) := by decide +kernel
theorem dL_law_409 : decode cL_law 409 = .ok (.iadd, 1) := by decide +kernel
theorem dL_law_410 : decode cL_law 410 = .ok (.iaload, 1) := by decide +kernel
theorem dL_law_411 : decode cL_law 411 = .ok (.invokevirtual 51, 3) := by decide +kernel
theorem dL_law_414 : decode cL_law 414 = .ok (.aload_n 2, 1) := by decide +kernel
theorem dL_law_415 : decode cL_law 415 = .ok (.aload_n 0, 1) := by decide +kernel
theorem dL_law_416 : decode cL_law 416 = .ok (.iload_n 3, 1) := by decide +kernel
theorem dL_law_417 : decode cL_law 417 = .ok (.iconst 1, 1) := by decide +kernel
theorem dL_law_418 : decode cL_law 418 = .ok (.iadd, 1) := by decide +kernel
theorem dL_law_419 : decode cL_law 419 = .ok (.iaload, 1) := by decide +kernel
theorem dL_law_420 : decode cL_law 420 = .ok (.aload_n 0, 1) := by decide +kernel
theorem dL_law_421 : decode cL_law 421 = .ok (.iload_n 3, 1) := by decide +kernel
theorem dL_law_422 : decode cL_law 422 = .ok (.iconst 2, 1) := by decide +kernel
theorem dL_law_423 : decode cL_law 423 = .ok (.iadd, 1) := by decide +kernel
theorem dL_law_424 : decode cL_law 424 = .ok (.iaload, 1) := by decide +kernel
theorem dL_law_425 : decode cL_law 425 = .ok (.invokevirtual 54, 3) := by decide +kernel
theorem dL_law_428 : decode cL_law 428 = .ok (.if_icmp .eq 408, 3) := by decide +kernel
theorem dL_law_433 : decode cL_law 433 = .ok (.aload_n 1, 1) := by decide +kernel
theorem dL_law_434 : decode cL_law 434 = .ok (.aload_n 0, 1) := by decide +kernel
theorem dL_law_435 : decode cL_law 435 = .ok (.iload_n 3, 1) := by decide +kernel
theorem dL_law_436 : decode cL_law 436 = .ok (.iconst 1, 1) := by decide +kernel
theorem dL_law_437 : decode cL_law 437 = .ok (.iadd, 1) := by decide +kernel
theorem dL_law_438 : decode cL_law 438 = .ok (.iaload, 1) := by decide +kernel
theorem dL_law_439 : decode cL_law 439 = .ok (.invokevirtual 55, 3) := by decide +kernel
theorem dL_law_442 : decode cL_law 442 = .ok (.aload_n 2, 1) := by decide +kernel
theorem dL_law_443 : decode cL_law 443 = .ok (.aload_n 0, 1) := by decide +kernel
theorem dL_law_444 : decode cL_law 444 = .ok (.iload_n 3, 1) := by decide +kernel
theorem dL_law_445 : decode cL_law 445 = .ok (.iconst 1, 1) := by decide +kernel
theorem dL_law_446 : decode cL_law 446 = .ok (.iadd, 1) := by decide +kernel
theorem dL_law_447 : decode cL_law 447 = .ok (.iaload, 1) := by decide +kernel
theorem dL_law_448 : decode cL_law 448 = .ok (.invokevirtual 58, 3) := by decide +kernel
theorem dL_law_451 : decode cL_law 451 = .ok (.if_icmp .eq 385, 3) := by decide +kernel
theorem dL_law_456 : decode cL_law 456 = .ok (.aload_n 1, 1) := by decide +kernel
theorem dL_law_457 : decode cL_law 457 = .ok (.aload_n 0, 1) := by decide +kernel
theorem dL_law_458 : decode cL_law 458 = .ok (.iload_n 3, 1) := by decide +kernel
theorem dL_law_459 : decode cL_law 459 = .ok (.iconst 1, 1) := by decide +kernel
theorem dL_law_460 : decode cL_law 460 = .ok (.iadd, 1) := by decide +kernel
theorem dL_law_461 : decode cL_law 461 = .ok (.iaload, 1) := by decide +kernel
theorem dL_law_462 : decode cL_law 462 = .ok (.aload_n 0, 1) := by decide +kernel
theorem dL_law_463 : decode cL_law 463 = .ok (.iload_n 3, 1) := by decide +kernel
theorem dL_law_464 : decode cL_law 464 = .ok (.iconst 2, 1) := by decide +kernel
theorem dL_law_465 : decode cL_law 465 = .ok (.iadd, 1) := by decide +kernel
theorem dL_law_466 : decode cL_law 466 = .ok (.iaload, 1) := by decide +kernel
theorem dL_law_467 : decode cL_law 467 = .ok (.invokevirtual 59, 3) := by decide +kernel
theorem dL_law_470 : decode cL_law 470 = .ok (.aload_n 2, 1) := by decide +kernel
theorem dL_law_471 : decode cL_law 471 = .ok (.aload_n 0, 1) := by decide +kernel
theorem dL_law_472 : decode cL_law 472 = .ok (.iload_n 3, 1) := by decide +kernel
theorem dL_law_473 : decode cL_law 473 = .ok (.iconst 1, 1) := by decide +kernel
theorem dL_law_474 : decode cL_law 474 = .ok (.iadd, 1) := by decide +kernel
theorem dL_law_475 : decode cL_law 475 = .ok (.iaload, 1) := by decide +kernel
theorem dL_law_476 : decode cL_law 476 = .ok (.aload_n 0, 1) := by decide +kernel
theorem dL_law_477 : decode cL_law 477 = .ok (.iload_n 3, 1) := by decide +kernel
theorem dL_law_478 : decode cL_law 478 = .ok (.iconst 2, 1) := by decide +kernel
theorem dL_law_479 : decode cL_law 479 = .ok (.iadd, 1) := by decide +kernel
theorem dL_law_480 : decode cL_law 480 = .ok (.iaload, 1) := by decide +kernel
theorem dL_law_481 : decode cL_law 481 = .ok (.invokevirtual 63, 3) := by decide +kernel
theorem dL_law_484 : decode cL_law 484 = .ok (.if_icmp .eq 352, 3) := by decide +kernel
theorem dL_law_489 : decode cL_law 489 = .ok (.aload_n 1, 1) := by decide +kernel
theorem dL_law_490 : decode cL_law 490 = .ok (.aload_n 0, 1) := by decide +kernel
theorem dL_law_491 : decode cL_law 491 = .ok (.iload_n 3, 1) := by decide +kernel
theorem dL_law_492 : decode cL_law 492 = .ok (.iconst 1, 1) := by decide +kernel
theorem dL_law_493 : decode cL_law 493 = .ok (.iadd, 1) := by decide +kernel
theorem dL_law_494 : decode cL_law 494 = .ok (.iaload, 1) := by decide +kernel
theorem dL_law_495 : decode cL_law 495 = .ok (.invokevirtual 64, 3) := by decide +kernel
theorem dL_law_498 : decode cL_law 498 = .ok (.aload_n 2, 1) := by decide +kernel
theorem dL_law_499 : decode cL_law 499 = .ok (.aload_n 0, 1) := by decide +kernel
theorem dL_law_500 : decode cL_law 500 = .ok (.iload_n 3, 1) := by decide +kernel
theorem dL_law_501 : decode cL_law 501 = .ok (.iconst 1, 1) := by decide +kernel
theorem dL_law_502 : decode cL_law 502 = .ok (.iadd, 1) := by decide +kernel
theorem dL_law_503 : decode cL_law 503 = .ok (.iaload, 1) := by decide +kernel
theorem dL_law_504 : decode cL_law 504 = .ok (.invokevirtual 67, 3) := by decide +kernel
theorem dL_law_507 : decode cL_law 507 = .ok (.if_icmp .eq 329, 3) := by decide +kernel
theorem dL_law_512 : decode cL_law 512 = .ok (.aload_n 1, 1) := by decide +kernel
theorem dL_law_513 : decode cL_law 513 = .ok (.aload_n 0, 1) := by decide +kernel
theorem dL_law_514 : decode cL_law 514 = .ok (.iload_n 3, 1) := by decide +kernel
theorem dL_law_515 : decode cL_law 515 = .ok (.iconst 1, 1) := by decide +kernel
theorem dL_law_516 : decode cL_law 516 = .ok (.iadd, 1) := by decide +kernel
theorem dL_law_517 : decode cL_law 517 = .ok (.iaload, 1) := by decide +kernel
theorem dL_law_518 : decode cL_law 518 = .ok (.invokevirtual 68, 3) := by decide +kernel
theorem dL_law_521 : decode cL_law 521 = .ok (.aload_n 2, 1) := by decide +kernel
theorem dL_law_522 : decode cL_law 522 = .ok (.aload_n 0, 1) := by decide +kernel
theorem dL_law_523 : decode cL_law 523 = .ok (.iload_n 3, 1) := by decide +kernel
theorem dL_law_524 : decode cL_law 524 = .ok (.iconst 1, 1) := by decide +kernel
theorem dL_law_525 : decode cL_law 525 = .ok (.iadd, 1) := by decide +kernel
theorem dL_law_526 : decode cL_law 526 = .ok (.iaload, 1) := by decide +kernel
theorem dL_law_527 : decode cL_law 527 = .ok (.invokevirtual 71, 3) := by decide +kernel
theorem dL_law_530 : decode cL_law 530 = .ok (.if_icmp .eq 306, 3) := by decide +kernel
theorem dL_law_535 : decode cL_law 535 = .ok (.aload_n 1, 1) := by decide +kernel
theorem dL_law_536 : decode cL_law 536 = .ok (.invokevirtual 72, 3) := by decide +kernel
theorem dL_law_539 : decode cL_law 539 = .ok (.aload_n 2, 1) := by decide +kernel
theorem dL_law_540 : decode cL_law 540 = .ok (.invokevirtual 75, 3) := by decide +kernel
theorem dL_law_543 : decode cL_law 543 = .ok (.if_icmp .eq 293, 3) := by decide +kernel
theorem dL_law_548 : decode cL_law 548 = .ok (.aload_n 1, 1) := by decide +kernel
theorem dL_law_549 : decode cL_law 549 = .ok (.aload_n 0, 1) := by decide +kernel
theorem dL_law_550 : decode cL_law 550 = .ok (.iload_n 3, 1) := by decide +kernel
theorem dL_law_551 : decode cL_law 551 = .ok (.iconst 1, 1) := by decide +kernel
theorem dL_law_552 : decode cL_law 552 = .ok (.iadd, 1) := by decide +kernel
theorem dL_law_553 : decode cL_law 553 = .ok (.iaload, 1) := by decide +kernel
theorem dL_law_554 : decode cL_law 554 = .ok (.aload_n 0, 1) := by decide +kernel
theorem dL_law_555 : decode cL_law 555 = .ok (.iload_n 3, 1) := by decide +kernel
theorem dL_law_556 : decode cL_law 556 = .ok (.iconst 2, 1) := by decide +kernel
theorem dL_law_557 : decode cL_law 557 = .ok (.iadd, 1) := by decide +kernel
theorem dL_law_558 : decode cL_law 558 = .ok (.iaload, 1) := by decide +kernel
theorem dL_law_559 : decode cL_law 559 = .ok (.invokevirtual 76, 3) := by decide +kernel
theorem dL_law_562 : decode cL_law 562 = .ok (.aload_n 2, 1) := by decide +kernel
theorem dL_law_563 : decode cL_law 563 = .ok (.aload_n 0, 1) := by decide +kernel
theorem dL_law_564 : decode cL_law 564 = .ok (.iload_n 3, 1) := by decide +kernel
theorem dL_law_565 : decode cL_law 565 = .ok (.iconst 1, 1) := by decide +kernel
theorem dL_law_566 : decode cL_law 566 = .ok (.iadd, 1) := by decide +kernel
theorem dL_law_567 : decode cL_law 567 = .ok (.iaload, 1) := by decide +kernel
theorem dL_law_568 : decode cL_law 568 = .ok (.aload_n 0, 1) := by decide +kernel
theorem dL_law_569 : decode cL_law 569 = .ok (.iload_n 3, 1) := by decide +kernel
theorem dL_law_570 : decode cL_law 570 = .ok (.iconst 2, 1) := by decide +kernel
theorem dL_law_571 : decode cL_law 571 = .ok (.iadd, 1) := by decide +kernel
theorem dL_law_572 : decode cL_law 572 = .ok (.iaload, 1) := by decide +kernel
theorem dL_law_573 : decode cL_law 573 = .ok (.invokevirtual 79, 3) := by decide +kernel
theorem dL_law_576 : decode cL_law 576 = .ok (.if_icmp .eq 260, 3) := by decide +kernel
end
section
theorem dL_law_581 : decode cL_law 581 = .ok (.aload_n 1, 1) := by decide +kernel
theorem dL_law_582 : decode cL_law 582 = .ok (.aload_n 0, 1) := by decide +kernel
theorem dL_law_583 : decode cL_law 583 = .ok (.iload_n 3, 1) := by decide +kernel
theorem dL_law_584 : decode cL_law 584 = .ok (.iconst 1, 1) := by decide +kernel
theorem dL_law_585 : decode cL_law 585 = .ok (.iadd, 1) := by decide +kernel
theorem dL_law_586 : decode cL_law 586 = .ok (.iaload, 1) := by decide +kernel
theorem dL_law_587 : decode cL_law 587 = .ok (.invokevirtual 80, 3) := by decide +kernel
theorem dL_law_590 : decode cL_law 590 = .ok (.aload_n 2, 1) := by decide +kernel
theorem dL_law_591 : decode cL_law 591 = .ok (.aload_n 0, 1) := by decide +kernel
theorem dL_law_592 : decode cL_law 592 = .ok (.iload_n 3, 1) := by decide +kernel
theorem dL_law_593 : decode cL_law 593 = .ok (.iconst 1, 1) := by decide +kernel
theorem dL_law_594 : decode cL_law 594 = .ok (.iadd, 1) := by decide +kernel
theorem dL_law_595 : decode cL_law 595 = .ok (.iaload, 1) := by decide +kernel
theorem dL_law_596 : decode cL_law 596 = .ok (.invokevirtual 83, 3) := by decide +kernel
theorem dL_law_599 : decode cL_law 599 = .ok (.if_icmp .eq 237, 3) := by decide +kernel
theorem dL_law_604 : decode cL_law 604 = .ok (.aload_n 1, 1) := by decide +kernel
theorem dL_law_605 : decode cL_law 605 = .ok (.invokevirtual 84, 3) := by decide +kernel
theorem dL_law_608 : decode cL_law 608 = .ok (.aload_n 2, 1) := by decide +kernel
theorem dL_law_609 : decode cL_law 609 = .ok (.invokevirtual 87, 3) := by decide +kernel
theorem dL_law_612 : decode cL_law 612 = .ok (.if_icmp .eq 224, 3) := by decide +kernel
theorem dL_law_617 : decode cL_law 617 = .ok (.aload_n 1, 1) := by decide +kernel
theorem dL_law_618 : decode cL_law 618 = .ok (.aload_n 0, 1) := by decide +kernel
theorem dL_law_619 : decode cL_law 619 = .ok (.iload_n 3, 1) := by decide +kernel
theorem dL_law_620 : decode cL_law 620 = .ok (.iconst 1, 1) := by decide +kernel
theorem dL_law_621 : decode cL_law 621 = .ok (.iadd, 1) := by decide +kernel
theorem dL_law_622 : decode cL_law 622 = .ok (.iaload, 1) := by decide +kernel
theorem dL_law_623 : decode cL_law 623 = .ok (.ifCond .eq 7, 3) := by decide +kernel
theorem dL_law_626 : decode cL_law 626 = .ok (.iconst 1, 1) := by decide +kernel
theorem dL_law_627 : decode cL_law 627 = .ok (.goto 4, 3) := by decide +kernel
theorem dL_law_630 : decode cL_law 630 = .ok (.iconst 0, 1) := by decide +kernel
theorem dL_law_631 : decode cL_law 631 = .ok (.aload_n 0, 1) := by decide +kernel
theorem dL_law_632 : decode cL_law 632 = .ok (.iload_n 3, 1) := by decide +kernel
theorem dL_law_633 : decode cL_law 633 = .ok (.iconst 2, 1) := by decide +kernel
theorem dL_law_634 : decode cL_law 634 = .ok (.iadd, 1) := by decide +kernel
theorem dL_law_635 : decode cL_law 635 = .ok (.iaload, 1) := by decide +kernel
theorem dL_law_636 : decode cL_law 636 = .ok (.invokevirtual 88, 3) := by decide +kernel
theorem dL_law_639 : decode cL_law 639 = .ok (.aload_n 2, 1) := by decide +kernel
theorem dL_law_640 : decode cL_law 640 = .ok (.aload_n 0, 1) := by decide +kernel
theorem dL_law_641 : decode cL_law 641 = .ok (.iload_n 3, 1) := by decide +kernel
theorem dL_law_642 : decode cL_law 642 = .ok (.iconst 1, 1) := by decide +kernel
theorem dL_law_643 : decode cL_law 643 = .ok (.iadd, 1) := by decide +kernel
theorem dL_law_644 : decode cL_law 644 = .ok (.iaload, 1) := by decide +kernel
theorem dL_law_645 : decode cL_law 645 = .ok (.ifCond .eq 7, 3) := by decide +kernel
theorem dL_law_648 : decode cL_law 648 = .ok (.iconst 1, 1) := by decide +kernel
theorem dL_law_649 : decode cL_law 649 = .ok (.goto 4, 3) := by decide +kernel
theorem dL_law_652 : decode cL_law 652 = .ok (.iconst 0, 1) := by decide +kernel
theorem dL_law_653 : decode cL_law 653 = .ok (.aload_n 0, 1) := by decide +kernel
theorem dL_law_654 : decode cL_law 654 = .ok (.iload_n 3, 1) := by decide +kernel
theorem dL_law_655 : decode cL_law 655 = .ok (.iconst 2, 1) := by decide +kernel
theorem dL_law_656 : decode cL_law 656 = .ok (.iadd, 1) := by decide +kernel
theorem dL_law_657 : decode cL_law 657 = .ok (.iaload, 1) := by decide +kernel
theorem dL_law_658 : decode cL_law 658 = .ok (.invokevirtual 92, 3) := by decide +kernel
theorem dL_law_661 : decode cL_law 661 = .ok (.if_icmp .eq 175, 3) := by decide +kernel
theorem dL_law_666 : decode cL_law 666 = .ok (.aload_n 1, 1) := by decide +kernel
theorem dL_law_667 : decode cL_law 667 = .ok (.aload_n 0, 1) := by decide +kernel
theorem dL_law_668 : decode cL_law 668 = .ok (.iload_n 3, 1) := by decide +kernel
theorem dL_law_669 : decode cL_law 669 = .ok (.iconst 1, 1) := by decide +kernel
theorem dL_law_670 : decode cL_law 670 = .ok (.iadd, 1) := by decide +kernel
theorem dL_law_671 : decode cL_law 671 = .ok (.iaload, 1) := by decide +kernel
theorem dL_law_672 : decode cL_law 672 = .ok (.ifCond .eq 7, 3) := by decide +kernel
theorem dL_law_675 : decode cL_law 675 = .ok (.iconst 1, 1) := by decide +kernel
theorem dL_law_676 : decode cL_law 676 = .ok (.goto 4, 3) := by decide +kernel
theorem dL_law_679 : decode cL_law 679 = .ok (.iconst 0, 1) := by decide +kernel
theorem dL_law_680 : decode cL_law 680 = .ok (.aload_n 0, 1) := by decide +kernel
theorem dL_law_681 : decode cL_law 681 = .ok (.iload_n 3, 1) := by decide +kernel
theorem dL_law_682 : decode cL_law 682 = .ok (.iconst 2, 1) := by decide +kernel
theorem dL_law_683 : decode cL_law 683 = .ok (.iadd, 1) := by decide +kernel
theorem dL_law_684 : decode cL_law 684 = .ok (.iaload, 1) := by decide +kernel
theorem dL_law_685 : decode cL_law 685 = .ok (.invokevirtual 93, 3) := by decide +kernel
theorem dL_law_688 : decode cL_law 688 = .ok (.aload_n 2, 1) := by decide +kernel
theorem dL_law_689 : decode cL_law 689 = .ok (.aload_n 0, 1) := by decide +kernel
theorem dL_law_690 : decode cL_law 690 = .ok (.iload_n 3, 1) := by decide +kernel
theorem dL_law_691 : decode cL_law 691 = .ok (.iconst 1, 1) := by decide +kernel
theorem dL_law_692 : decode cL_law 692 = .ok (.iadd, 1) := by decide +kernel
theorem dL_law_693 : decode cL_law 693 = .ok (.iaload, 1) := by decide +kernel
theorem dL_law_694 : decode cL_law 694 = .ok (.ifCond .eq 7, 3) := by decide +kernel
theorem dL_law_697 : decode cL_law 697 = .ok (.iconst 1, 1) := by decide +kernel
theorem dL_law_698 : decode cL_law 698 = .ok (.goto 4, 3) := by decide +kernel
theorem dL_law_701 : decode cL_law 701 = .ok (.iconst 0, 1) := by decide +kernel
theorem dL_law_702 : decode cL_law 702 = .ok (.aload_n 0, 1) := by decide +kernel
theorem dL_law_703 : decode cL_law 703 = .ok (.iload_n 3, 1) := by decide +kernel
theorem dL_law_704 : decode cL_law 704 = .ok (.iconst 2, 1) := by decide +kernel
theorem dL_law_705 : decode cL_law 705 = .ok (.iadd, 1) := by decide +kernel
theorem dL_law_706 : decode cL_law 706 = .ok (.iaload, 1) := by decide +kernel
theorem dL_law_707 : decode cL_law 707 = .ok (.invokevirtual 96, 3) := by decide +kernel
theorem dL_law_710 : decode cL_law 710 = .ok (.if_icmp .eq 126, 3) := by decide +kernel
theorem dL_law_715 : decode cL_law 715 = .ok (.aload_n 1, 1) := by decide +kernel
theorem dL_law_716 : decode cL_law 716 = .ok (.aload_n 0, 1) := by decide +kernel
theorem dL_law_717 : decode cL_law 717 = .ok (.iload_n 3, 1) := by decide +kernel
theorem dL_law_718 : decode cL_law 718 = .ok (.iconst 1, 1) := by decide +kernel
theorem dL_law_719 : decode cL_law 719 = .ok (.iadd, 1) := by decide +kernel
theorem dL_law_720 : decode cL_law 720 = .ok (.iaload, 1) := by decide +kernel
theorem dL_law_721 : decode cL_law 721 = .ok (.ifCond .eq 7, 3) := by decide +kernel
theorem dL_law_724 : decode cL_law 724 = .ok (.iconst 1, 1) := by decide +kernel
theorem dL_law_725 : decode cL_law 725 = .ok (.goto 4, 3) := by decide +kernel
theorem dL_law_728 : decode cL_law 728 = .ok (.iconst 0, 1) := by decide +kernel
theorem dL_law_729 : decode cL_law 729 = .ok (.aload_n 0, 1) := by decide +kernel
theorem dL_law_730 : decode cL_law 730 = .ok (.iload_n 3, 1) := by decide +kernel
theorem dL_law_731 : decode cL_law 731 = .ok (.iconst 2, 1) := by decide +kernel
theorem dL_law_732 : decode cL_law 732 = .ok (.iadd, 1) := by decide +kernel
theorem dL_law_733 : decode cL_law 733 = .ok (.iaload, 1) := by decide +kernel
theorem dL_law_734 : decode cL_law 734 = .ok (.invokevirtual 97, 3) := by decide +kernel
theorem dL_law_737 : decode cL_law 737 = .ok (.aload_n 2, 1) := by decide +kernel
theorem dL_law_738 : decode cL_law 738 = .ok (.aload_n 0, 1) := by decide +kernel
theorem dL_law_739 : decode cL_law 739 = .ok (.iload_n 3, 1) := by decide +kernel
theorem dL_law_740 : decode cL_law 740 = .ok (.iconst 1, 1) := by decide +kernel
theorem dL_law_741 : decode cL_law 741 = .ok (.iadd, 1) := by decide +kernel
theorem dL_law_742 : decode cL_law 742 = .ok (.iaload, 1) := by decide +kernel
theorem dL_law_743 : decode cL_law 743 = .ok (.ifCond .eq 7, 3) := by decide +kernel
theorem dL_law_746 : decode cL_law 746 = .ok (.iconst 1, 1) := by decide +kernel
theorem dL_law_747 : decode cL_law 747 = .ok (.goto 4, 3) := by decide +kernel
theorem dL_law_750 : decode cL_law 750 = .ok (.iconst 0, 1) := by decide +kernel
theorem dL_law_751 : decode cL_law 751 = .ok (.aload_n 0, 1) := by decide +kernel
theorem dL_law_752 : decode cL_law 752 = .ok (.iload_n 3, 1) := by decide +kernel
theorem dL_law_753 : decode cL_law 753 = .ok (.iconst 2, 1) := by decide +kernel
theorem dL_law_754 : decode cL_law 754 = .ok (.iadd, 1) := by decide +kernel
theorem dL_law_755 : decode cL_law 755 = .ok (.iaload, 1) := by decide +kernel
theorem dL_law_756 : decode cL_law 756 = .ok (.invokevirtual 100, 3) := by decide +kernel
theorem dL_law_759 : decode cL_law 759 = .ok (.if_icmp .eq 77, 3) := by decide +kernel
theorem dL_law_764 : decode cL_law 764 = .ok (.aload_n 1, 1) := by decide +kernel
theorem dL_law_765 : decode cL_law 765 = .ok (.aload_n 0, 1) := by decide +kernel
theorem dL_law_766 : decode cL_law 766 = .ok (.iload_n 3, 1) := by decide +kernel
theorem dL_law_767 : decode cL_law 767 = .ok (.iconst 1, 1) := by decide +kernel
theorem dL_law_768 : decode cL_law 768 = .ok (.iadd, 1) := by decide +kernel
theorem dL_law_769 : decode cL_law 769 = .ok (.iaload, 1) := by decide +kernel
theorem dL_law_770 : decode cL_law 770 = .ok (.ifCond .eq 7, 3) := by decide +kernel
theorem dL_law_773 : decode cL_law 773 = .ok (.iconst 1, 1) := by decide +kernel
theorem dL_law_774 : decode cL_law 774 = .ok (.goto 4, 3) := by decide +kernel
theorem dL_law_777 : decode cL_law 777 = .ok (.iconst 0, 1) := by decide +kernel
theorem dL_law_778 : decode cL_law 778 = .ok (.aload_n 0, 1) := by decide +kernel
theorem dL_law_779 : decode cL_law 779 = .ok (.iload_n 3, 1) := by decide +kernel
theorem dL_law_780 : decode cL_law 780 = .ok (.iconst 2, 1) := by decide +kernel
theorem dL_law_781 : decode cL_law 781 = .ok (.iadd, 1) := by decide +kernel
theorem dL_law_782 : decode cL_law 782 = .ok (.iaload, 1) := by decide +kernel
theorem dL_law_783 : decode cL_law 783 = .ok (.invokevirtual 101, 3) := by decide +kernel
theorem dL_law_786 : decode cL_law 786 = .ok (.aload_n 2, 1) := by decide +kernel
theorem dL_law_787 : decode cL_law 787 = .ok (.aload_n 0, 1) := by decide +kernel
theorem dL_law_788 : decode cL_law 788 = .ok (.iload_n 3, 1) := by decide +kernel
theorem dL_law_789 : decode cL_law 789 = .ok (.iconst 1, 1) := by decide +kernel
theorem dL_law_790 : decode cL_law 790 = .ok (.iadd, 1) := by decide +kernel
theorem dL_law_791 : decode cL_law 791 = .ok (.iaload, 1) := by decide +kernel
theorem dL_law_792 : decode cL_law 792 = .ok (.ifCond .eq 7, 3) := by decide +kernel
theorem dL_law_795 : decode cL_law 795 = .ok (.iconst 1, 1) := by decide +kernel
theorem dL_law_796 : decode cL_law 796 = .ok (.goto 4, 3) := by decide +kernel
theorem dL_law_799 : decode cL_law 799 = .ok (.iconst 0, 1) := by decide +kernel
theorem dL_law_800 : decode cL_law 800 = .ok (.aload_n 0, 1) := by decide +kernel
theorem dL_law_801 : decode cL_law 801 = .ok (.iload_n 3, 1) := by decide +kernel
theorem dL_law_802 : decode cL_law 802 = .ok (.iconst 2, 1) := by decide +kernel
theorem dL_law_803 : decode cL_law 803 = .ok (.iadd, 1) := by decide +kernel
theorem dL_law_804 : decode cL_law 804 = .ok (.iaload, 1) := by decide +kernel
theorem dL_law_805 : decode cL_law 805 = .ok (.invokevirtual 104, 3) := by decide +kernel
theorem dL_law_808 : decode cL_law 808 = .ok (.if_icmp .eq 28, 3) := by decide +kernel
theorem dL_law_813 : decode cL_law 813 = .ok (.aload_n 1, 1) := by decide +kernel
theorem dL_law_814 : decode cL_law 814 = .ok (.aload_n 0, 1) := by decide +kernel
theorem dL_law_815 : decode cL_law 815 = .ok (.iload_n 3, 1) := by decide +kernel
theorem dL_law_816 : decode cL_law 816 = .ok (.iconst 1, 1) := by decide +kernel
theorem dL_law_817 : decode cL_law 817 = .ok (.iadd, 1) := by decide +kernel
theorem dL_law_818 : decode cL_law 818 = .ok (.iaload, 1) := by decide +kernel
theorem dL_law_819 : decode cL_law 819 = .ok (.invokevirtual 105, 3) := by decide +kernel
theorem dL_law_822 : decode cL_law 822 = .ok (.aload_n 2, 1) := by decide +kernel
theorem dL_law_823 : decode cL_law 823 = .ok (.aload_n 0, 1) := by decide +kernel
theorem dL_law_824 : decode cL_law 824 = .ok (.iload_n 3, 1) := by decide +kernel
theorem dL_law_825 : decode cL_law 825 = .ok (.iconst 1, 1) := by decide +kernel
theorem dL_law_826 : decode cL_law 826 = .ok (.iadd, 1) := by decide +kernel
theorem dL_law_827 : decode cL_law 827 = .ok (.iaload, 1) := by decide +kernel
theorem dL_law_828 : decode cL_law 828 = .ok (.invokevirtual 108, 3) := by decide +kernel
theorem dL_law_831 : decode cL_law 831 = .ok (.if_icmp .eq 5, 3) := by decide +kernel
theorem dL_law_836 : decode cL_law 836 = .ok (.iinc 3 6, 3) := by decide +kernel
theorem dL_law_839 : decode cL_law 839 = .ok (.goto (-821), 3) := by decide +kernel
theorem dL_law_842 : decode cL_law 842 = .ok (.iconst 1, 1) := by decide +kernel
theorem dL_law_843 : decode cL_law 843 = .ok (.ireturn, 1) := by decide +kernel
theorem dX11_init_0 : decode cX11_init 0 = .ok (.aload_n 0, 1) := by decide +kernel
theorem dX11_init_1 : decode cX11_init 1 = .ok (.invokespecial 3, 3) := by decide +kernel
theorem dX11_init_4 : decode cX11_init 4 = .ok (.aload_n 0, 1) := by decide +kernel
theorem dX11_init_5 : decode cX11_init 5 = .ok (.sipush 4000, 3) := by decide +kernel
theorem dX11_init_8 : decode cX11_init 8 = .ok (.newarray .byte, 2) := by decide +kernel
theorem dX11_init_10 : decode cX11_init 10 = .ok (.putfield 9, 3) := by decide +kernel
theorem dX11_init_13 : decode cX11_init 13 = .ok (.aload_n 0, 1) := by decide +kernel
theorem dX11_init_14 : decode cX11_init 14 = .ok (.bipush 50, 2) := by decide +kernel
theorem dX11_init_16 : decode cX11_init 16 = .ok (.newarray .int, 2) := by decide +kernel
theorem dX11_init_18 : decode cX11_init 18 = .ok (.putfield 13, 3) := by decide +kernel
theorem dX11_init_21 : decode cX11_init 21 = .ok (.aload_n 0, 1) := by decide +kernel
theorem dX11_init_22 : decode cX11_init 22 = .ok (.iconst (-1), 1) := by decide +kernel
theorem dX11_init_23 : decode cX11_init 23 = .ok (.putfield 17, 3) := by decide +kernel
theorem dX11_init_26 : decode cX11_init 26 = .ok (.return_, 1) := by decide +kernel
theorem dX12_init_0 : decode cX12_init 0 = .ok (.aload_n 0, 1) := by decide +kernel
theorem dX12_init_1 : decode cX12_init 1 = .ok (.invokespecial 7, 3) := by decide +kernel
theorem dX12_init_4 : decode cX12_init 4 = .ok (.aload_n 0, 1) := by decide +kernel
theorem dX12_init_5 : decode cX12_init 5 = .ok (.bipush 24, 2) := by decide +kernel
theorem dX12_init_7 : decode cX12_init 7 = .ok (.newarray .int, 2) := by decide +kernel
theorem dX12_init_9 : decode cX12_init 9 = .ok (.putfield 13, 3) := by decide +kernel
theorem dX12_init_12 : decode cX12_init 12 = .ok (.aload_n 0, 1) := by decide +kernel
theorem dX12_init_13 : decode cX12_init 13 = .ok (.sipush 4000, 3) := by decide +kernel
theorem dX12_init_16 : decode cX12_init 16 = .ok (.newarray .byte, 2) := by decide +kernel
theorem dX12_init_18 : decode cX12_init 18 = .ok (.putfield 17, 3) := by decide +kernel
theorem dX12_init_21 : decode cX12_init 21 = .ok (.aload_n 0, 1) := by decide +kernel
theorem dX12_init_22 : decode cX12_init 22 = .ok (.sipush 4000, 3) := by decide +kernel
theorem dX12_init_25 : decode cX12_init 25 = .ok (.newarray .byte, 2) := by decide +kernel
theorem dX12_init_27 : decode cX12_init 27 = .ok (.putfield 21, 3) := by decide +kernel
theorem dX12_init_30 : decode cX12_init 30 = .ok (.aload_n 0, 1) := by decide +kernel
theorem dX12_init_31 : decode cX12_init 31 = .ok (.sipush 1203, 3) := by decide +kernel
theorem dX12_init_34 : decode cX12_init 34 = .ok (.newarray .int, 2) := by decide +kernel
theorem dX12_init_36 : decode cX12_init 36 = .ok (.putfield 24, 3) := by decide +kernel
theorem dX12_init_39 : decode cX12_init 39 = .ok (.aload_n 0, 1) := by decide +kernel
theorem dX12_init_40 : decode cX12_init 40 = .ok (.sipush 1203, 3) := by decide +kernel
theorem dX12_init_43 : decode cX12_init 43 = .ok (.newarray .int, 2) := by decide +kernel
theorem dX12_init_45 : decode cX12_init 45 = .ok (.putfield 27, 3) := by decide +kernel
theorem dX12_init_48 : decode cX12_init 48 = .ok (.aload_n 0, 1) := by decide +kernel
theorem dX12_init_49 : decode cX12_init 49 = .ok (.sipush 1203, 3) := by decide +kernel
theorem dX12_init_52 : decode cX12_init 52 = .ok (.newarray .int, 2) := by decide +kernel
theorem dX12_init_54 : decode cX12_init 54 = .ok (.putfield 30, 3) := by decide +kernel
theorem dX12_init_57 : decode cX12_init 57 = .ok (.aload_n 0, 1) := by decide +kernel
theorem dX12_init_58 : decode cX12_init 58 = .ok (.sipush 9624, 3) := by decide +kernel
theorem dX12_init_61 : decode cX12_init 61 = .ok (.newarray .byte, 2) := by decide +kernel
theorem dX12_init_63 : decode cX12_init 63 = .ok (.putfield 33, 3) := by decide +kernel
theorem dX12_init_66 : decode cX12_init 66 = .ok (.aload_n 0, 1) := by decide +kernel
theorem dX12_init_67 : decode cX12_init 67 = .ok (.iconst (-1), 1) := by decide +kernel
theorem dX12_init_68 : decode cX12_init 68 = .ok (.putfield 36, 3) := by decide +kernel
theorem dX12_init_71 : decode cX12_init 71 = .ok (.aload_n 0, 1) := by decide +kernel
theorem dX12_init_72 : decode cX12_init 72 = .ok (.iconst (-1), 1) := by decide +kernel
theorem dX12_init_73 : decode cX12_init 73 = .ok (.putfield 39, 3) := by decide +kernel
theorem dX12_init_76 : decode cX12_init 76 = .ok (.aload_n 0, 1) := by decide +kernel
theorem dX12_init_77 : decode cX12_init 77 = .ok (.iconst 2, 1) := by decide +kernel
theorem dX12_init_78 : decode cX12_init 78 = .ok (.newarray .int, 2) := by decide +kernel
theorem dX12_init_80 : decode cX12_init 80 = .ok (.putfield 42, 3) := by decide +kernel
theorem dX12_init_83 : decode cX12_init 83 = .ok (.aload_n 0, 1) := by decide +kernel
theorem dX12_init_84 : decode cX12_init 84 = .ok (.iconst 2, 1) := by decide +kernel
theorem dX12_init_85 : decode cX12_init 85 = .ok (.newarray .int, 2) := by decide +kernel
theorem dX12_init_87 : decode cX12_init 87 = .ok (.putfield 45, 3) := by decide +kernel
theorem dX12_init_90 : decode cX12_init 90 = .ok (.aload_n 0, 1) := by decide +kernel
theorem dX12_init_91 : decode cX12_init 91 = .ok (.iconst 2, 1) := by decide +kernel
theorem dX12_init_92 : decode cX12_init 92 = .ok (.newarray .int, 2) := by decide +kernel
theorem dX12_init_94 : decode cX12_init 94 = .ok (.putfield 48, 3) := by decide +kernel
theorem dX12_init_97 : decode cX12_init 97 = .ok (.aload_n 0, 1) := by decide +kernel
theorem dX12_init_98 : decode cX12_init 98 = .ok (.iconst 2, 1) := by decide +kernel
theorem dX12_init_99 : decode cX12_init 99 = .ok (.newarray .int, 2) := by decide +kernel
theorem dX12_init_101 : decode cX12_init 101 = .ok (.putfield 51, 3) := by decide +kernel
theorem dX12_init_104 : decode cX12_init 104 = .ok (.aload_n 0, 1) := by decide +kernel
theorem dX12_init_105 : decode cX12_init 105 = .ok (.iconst 2, 1) := by decide +kernel
theorem dX12_init_106 : decode cX12_init 106 = .ok (.newarray .int, 2) := by decide +kernel
theorem dX12_init_108 : decode cX12_init 108 = .ok (.putfield 54, 3) := by decide +kernel
theorem dX12_init_111 : decode cX12_init 111 = .ok (.aload_n 0, 1) := by decide +kernel
theorem dX12_init_112 : decode cX12_init 112 = .ok (.iconst 2, 1) := by decide +kernel
theorem dX12_init_113 : decode cX12_init 113 = .ok (.newarray .int, 2) := by decide +kernel
theorem dX12_init_115 : decode cX12_init 115 = .ok (.putfield 57, 3) := by decide +kernel
theorem dX12_init_118 : decode cX12_init 118 = .ok (.aload_n 0, 1) := by decide +kernel
theorem dX12_init_119 : decode cX12_init 119 = .ok (.iconst 2, 1) := by decide +kernel
theorem dX12_init_120 : decode cX12_init 120 = .ok (.newarray .int, 2) := by decide +kernel
theorem dX12_init_122 : decode cX12_init 122 = .ok (.putfield 60, 3) := by decide +kernel
theorem dX12_init_125 : decode cX12_init 125 = .ok (.aload_n 0, 1) := by decide +kernel
theorem dX12_init_126 : decode cX12_init 126 = .ok (.bipush 60, 2) := by decide +kernel
theorem dX12_init_128 : decode cX12_init 128 = .ok (.newarray .int, 2) := by decide +kernel
theorem dX12_init_130 : decode cX12_init 130 = .ok (.putfield 63, 3) := by decide +kernel
theorem dX12_init_133 : decode cX12_init 133 = .ok (.aload_n 0, 1) := by decide +kernel
theorem dX12_init_134 : decode cX12_init 134 = .ok (.bipush 60, 2) := by decide +kernel
theorem dX12_init_136 : decode cX12_init 136 = .ok (.newarray .int, 2) := by decide +kernel
theorem dX12_init_138 : decode cX12_init 138 = .ok (.putfield 66, 3) := by decide +kernel
theorem dX12_init_141 : decode cX12_init 141 = .ok (.aload_n 0, 1) := by decide +kernel
theorem dX12_init_142 : decode cX12_init 142 = .ok (.bipush 60, 2) := by decide +kernel
theorem dX12_init_144 : decode cX12_init 144 = .ok (.newarray .int, 2) := by decide +kernel
theorem dX12_init_146 : decode cX12_init 146 = .ok (.putfield 69, 3) := by decide +kernel
theorem dX12_init_149 : decode cX12_init 149 = .ok (.aload_n 0, 1) := by decide +kernel
theorem dX12_init_150 : decode cX12_init 150 = .ok (.bipush 60, 2) := by decide +kernel
theorem dX12_init_152 : decode cX12_init 152 = .ok (.newarray .int, 2) := by decide +kernel
theorem dX12_init_154 : decode cX12_init 154 = .ok (.putfield 72, 3) := by decide +kernel
theorem dX12_init_157 : decode cX12_init 157 = .ok (.aload_n 0, 1) := by decide +kernel
theorem dX12_init_158 : decode cX12_init 158 = .ok (.bipush 60, 2) := by decide +kernel
theorem dX12_init_160 : decode cX12_init 160 = .ok (.newarray .int, 2) := by decide +kernel
theorem dX12_init_162 : decode cX12_init 162 = .ok (.putfield 75, 3) := by decide +kernel
theorem dX12_init_165 : decode cX12_init 165 = .ok (.aload_n 0, 1) := by decide +kernel
theorem dX12_init_166 : decode cX12_init 166 = .ok (.bipush 60, 2) := by decide +kernel
theorem dX12_init_168 : decode cX12_init 168 = .ok (.newarray .int, 2) := by decide +kernel
theorem dX12_init_170 : decode cX12_init 170 = .ok (.putfield 78, 3) := by decide +kernel
theorem dX12_init_173 : decode cX12_init 173 = .ok (.aload_n 0, 1) := by decide +kernel
theorem dX12_init_174 : decode cX12_init 174 = .ok (.bipush 60, 2) := by decide +kernel
theorem dX12_init_176 : decode cX12_init 176 = .ok (.newarray .int, 2) := by decide +kernel
theorem dX12_init_178 : decode cX12_init 178 = .ok (.putfield 81, 3) := by decide +kernel
theorem dX12_init_181 : decode cX12_init 181 = .ok (.aload_n 0, 1) := by decide +kernel
theorem dX12_init_182 : decode cX12_init 182 = .ok (.bipush 60, 2) := by decide +kernel
theorem dX12_init_184 : decode cX12_init 184 = .ok (.newarray .int, 2) := by decide +kernel
theorem dX12_init_186 : decode cX12_init 186 = .ok (.putfield 84, 3) := by decide +kernel
theorem dX12_init_189 : decode cX12_init 189 = .ok (.aload_n 0, 1) := by decide +kernel
theorem dX12_init_190 : decode cX12_init 190 = .ok (.sipush 1004, 3) := by decide +kernel
theorem dX12_init_193 : decode cX12_init 193 = .ok (.newarray .int, 2) := by decide +kernel
theorem dX12_init_195 : decode cX12_init 195 = .ok (.putfield 87, 3) := by decide +kernel
theorem dX12_init_198 : decode cX12_init 198 = .ok (.aload_n 0, 1) := by decide +kernel
theorem dX12_init_199 : decode cX12_init 199 = .ok (.sipush 1004, 3) := by decide +kernel
theorem dX12_init_202 : decode cX12_init 202 = .ok (.newarray .int, 2) := by decide +kernel
theorem dX12_init_204 : decode cX12_init 204 = .ok (.putfield 90, 3) := by decide +kernel
theorem dX12_init_207 : decode cX12_init 207 = .ok (.aload_n 0, 1) := by decide +kernel
theorem dX12_init_208 : decode cX12_init 208 = .ok (.sipush 1004, 3) := by decide +kernel
theorem dX12_init_211 : decode cX12_init 211 = .ok (.newarray .int, 2) := by decide +kernel
theorem dX12_init_213 : decode cX12_init 213 = .ok (.putfield 93, 3) := by decide +kernel
theorem dX12_init_216 : decode cX12_init 216 = .ok (.aload_n 0, 1) := by decide +kernel
theorem dX12_init_217 : decode cX12_init 217 = .ok (.sipush 1004, 3) := by decide +kernel
theorem dX12_init_220 : decode cX12_init 220 = .ok (.newarray .boolean, 2) := by decide +kernel
theorem dX12_init_222 : decode cX12_init 222 = .ok (.putfield 96, 3) := by decide +kernel
theorem dX12_init_225 : decode cX12_init 225 = .ok (.aload_n 0, 1) := by decide +kernel
theorem dX12_init_226 : decode cX12_init 226 = .ok (.sipush 320, 3) := by decide +kernel
theorem dX12_init_229 : decode cX12_init 229 = .ok (.newarray .int, 2) := by decide +kernel
theorem dX12_init_231 : decode cX12_init 231 = .ok (.putfield 100, 3) := by decide +kernel
theorem dX12_init_234 : decode cX12_init 234 = .ok (.aload_n 0, 1) := by decide +kernel
theorem dX12_init_235 : decode cX12_init 235 = .ok (.sipush 320, 3) := by decide +kernel
theorem dX12_init_238 : decode cX12_init 238 = .ok (.newarray .int, 2) := by decide +kernel
theorem dX12_init_240 : decode cX12_init 240 = .ok (.putfield 103, 3) := by decide +kernel
theorem dX12_init_243 : decode cX12_init 243 = .ok (.aload_n 0, 1) := by decide +kernel
theorem dX12_init_244 : decode cX12_init 244 = .ok (.sipush 320, 3) := by decide +kernel
theorem dX12_init_247 : decode cX12_init 247 = .ok (.newarray .int, 2) := by decide +kernel
theorem dX12_init_249 : decode cX12_init 249 = .ok (.putfield 106, 3) := by decide +kernel
theorem dX12_init_252 : decode cX12_init 252 = .ok (.aload_n 0, 1) := by decide +kernel
theorem dX12_init_253 : decode cX12_init 253 = .ok (.sipush 320, 3) := by decide +kernel
theorem dX12_init_256 : decode cX12_init 256 = .ok (.newarray .int, 2) := by decide +kernel
theorem dX12_init_258 : decode cX12_init 258 = .ok (.putfield 109, 3) := by decide +kernel
theorem dX12_init_261 : decode cX12_init 261 = .ok (.aload_n 0, 1) := by decide +kernel
theorem dX12_init_262 : decode cX12_init 262 = .ok (.sipush 1240, 3) := by decide +kernel
theorem dX12_init_265 : decode cX12_init 265 = .ok (.newarray .int, 2) := by decide +kernel
theorem dX12_init_267 : decode cX12_init 267 = .ok (.putfield 112, 3) := by decide +kernel
theorem dX12_init_270 : decode cX12_init 270 = .ok (.aload_n 0, 1) := by decide +kernel
theorem dX12_init_271 : decode cX12_init 271 = .ok (.sipush 1240, 3) := by decide +kernel
theorem dX12_init_274 : decode cX12_init 274 = .ok (.newarray .int, 2) := by decide +kernel
theorem dX12_init_276 : decode cX12_init 276 = .ok (.putfield 115, 3) := by decide +kernel
theorem dX12_init_279 : decode cX12_init 279 = .ok (.aload_n 0, 1) := by decide +kernel
theorem dX12_init_280 : decode cX12_init 280 = .ok (.sipush 1240, 3) := by decide +kernel
theorem dX12_init_283 : decode cX12_init 283 = .ok (.newarray .int, 2) := by decide +kernel
theorem dX12_init_285 : decode cX12_init 285 = .ok (.putfield 118, 3) := by decide +kernel
theorem dX12_init_288 : decode cX12_init 288 = .ok (.aload_n 0, 1) := by decide +kernel
theorem dX12_init_289 : decode cX12_init 289 = .ok (.sipush 2200, 3) := by decide +kernel
theorem dX12_init_292 : decode cX12_init 292 = .ok (.newarray .int, 2) := by decide +kernel
theorem dX12_init_294 : decode cX12_init 294 = .ok (.putfield 121, 3) := by decide +kernel
theorem dX12_init_297 : decode cX12_init 297 = .ok (.aload_n 0, 1) := by decide +kernel
theorem dX12_init_298 : decode cX12_init 298 = .ok (.sipush 2200, 3) := by decide +kernel
theorem dX12_init_301 : decode cX12_init 301 = .ok (.newarray .int, 2) := by decide +kernel
theorem dX12_init_303 : decode cX12_init 303 = .ok (.putfield 124, 3) := by decide +kernel
theorem dX12_init_306 : decode cX12_init 306 = .ok (.aload_n 0, 1) := by decide +kernel
theorem dX12_init_307 : decode cX12_init 307 = .ok (.sipush 4400, 3) := by decide +kernel
theorem dX12_init_310 : decode cX12_init 310 = .ok (.newarray .int, 2) := by decide +kernel
theorem dX12_init_312 : decode cX12_init 312 = .ok (.putfield 127, 3) := by decide +kernel
theorem dX12_init_315 : decode cX12_init 315 = .ok (.aload_n 0, 1) := by decide +kernel
theorem dX12_init_316 : decode cX12_init 316 = .ok (.sipush 4400, 3) := by decide +kernel
theorem dX12_init_319 : decode cX12_init 319 = .ok (.newarray .int, 2) := by decide +kernel
theorem dX12_init_321 : decode cX12_init 321 = .ok (.putfield 130, 3) := by decide +kernel
theorem dX12_init_324 : decode cX12_init 324 = .ok (.aload_n 0, 1) := by decide +kernel
theorem dX12_init_325 : decode cX12_init 325 = .ok (.sipush 2200, 3) := by decide +kernel
theorem dX12_init_328 : decode cX12_init 328 = .ok (.newarray .int, 2) := by decide +kernel
theorem dX12_init_330 : decode cX12_init 330 = .ok (.putfield 133, 3) := by decide +kernel
theorem dX12_init_333 : decode cX12_init 333 = .ok (.aload_n 0, 1) := by decide +kernel
theorem dX12_init_334 : decode cX12_init 334 = .ok (.sipush 500, 3) := by decide +kernel
theorem dX12_init_337 : decode cX12_init 337 = .ok (.newarray .int, 2) := by decide +kernel
theorem dX12_init_339 : decode cX12_init 339 = .ok (.putfield 136, 3) := by decide +kernel
theorem dX12_init_342 : decode cX12_init 342 = .ok (.aload_n 0, 1) := by decide +kernel
theorem dX12_init_343 : decode cX12_init 343 = .ok (.bipush 30, 2) := by decide +kernel
theorem dX12_init_345 : decode cX12_init 345 = .ok (.newarray .int, 2) := by decide +kernel
theorem dX12_init_347 : decode cX12_init 347 = .ok (.putfield 139, 3) := by decide +kernel
theorem dX12_init_350 : decode cX12_init 350 = .ok (.aload_n 0, 1) := by decide +kernel
theorem dX12_init_351 : decode cX12_init 351 = .ok (.sipush 160, 3) := by decide +kernel
theorem dX12_init_354 : decode cX12_init 354 = .ok (.newarray .int, 2) := by decide +kernel
theorem dX12_init_356 : decode cX12_init 356 = .ok (.putfield 142, 3) := by decide +kernel
theorem dX12_init_359 : decode cX12_init 359 = .ok (.aload_n 0, 1) := by decide +kernel
theorem dX12_init_360 : decode cX12_init 360 = .ok (.sipush 620, 3) := by decide +kernel
theorem dX12_init_363 : decode cX12_init 363 = .ok (.newarray .int, 2) := by decide +kernel
theorem dX12_init_365 : decode cX12_init 365 = .ok (.putfield 145, 3) := by decide +kernel
theorem dX12_init_368 : decode cX12_init 368 = .ok (.aload_n 0, 1) := by decide +kernel
theorem dX12_init_369 : decode cX12_init 369 = .ok (.sipush 620, 3) := by decide +kernel
theorem dX12_init_372 : decode cX12_init 372 = .ok (.newarray .int, 2) := by decide +kernel
theorem dX12_init_374 : decode cX12_init 374 = .ok (.putfield 148, 3) := by decide +kernel
theorem dX12_init_377 : decode cX12_init 377 = .ok (.aload_n 0, 1) := by decide +kernel
theorem dX12_init_378 : decode cX12_init 378 = .ok (.sipush 2200, 3) := by decide +kernel
theorem dX12_init_381 : decode cX12_init 381 = .ok (.newarray .int, 2) := by decide +kernel
theorem dX12_init_383 : decode cX12_init 383 = .ok (.putfield 151, 3) := by decide +kernel
theorem dX12_init_386 : decode cX12_init 386 = .ok (.aload_n 0, 1) := by decide +kernel
theorem dX12_init_387 : decode cX12_init 387 = .ok (.bipush 30, 2) := by decide +kernel
theorem dX12_init_389 : decode cX12_init 389 = .ok (.newarray .int, 2) := by decide +kernel
theorem dX12_init_391 : decode cX12_init 391 = .ok (.putfield 154, 3) := by decide +kernel
theorem dX12_init_394 : decode cX12_init 394 = .ok (.aload_n 0, 1) := by decide +kernel
theorem dX12_init_395 : decode cX12_init 395 = .ok (.bipush 30, 2) := by decide +kernel
theorem dX12_init_397 : decode cX12_init 397 = .ok (.newarray .int, 2) := by decide +kernel
theorem dX12_init_399 : decode cX12_init 399 = .ok (.putfield 157, 3) := by decide +kernel
theorem dX12_init_402 : decode cX12_init 402 = .ok (.aload_n 0, 1) := by decide +kernel
theorem dX12_init_403 : decode cX12_init 403 = .ok (.bipush 30, 2) := by decide +kernel
theorem dX12_init_405 : decode cX12_init 405 = .ok (.newarray .int, 2) := by decide +kernel
theorem dX12_init_407 : decode cX12_init 407 = .ok (.putfield 160, 3) := by decide +kernel
theorem dX12_init_410 : decode cX12_init 410 = .ok (.aload_n 0, 1) := by decide +kernel
theorem dX12_init_411 : decode cX12_init 411 = .ok (.sipush 900, 3) := by decide +kernel
theorem dX12_init_414 : decode cX12_init 414 = .ok (.newarray .boolean, 2) := by decide +kernel
theorem dX12_init_416 : decode cX12_init 416 = .ok (.putfield 163, 3) := by decide +kernel
theorem dX12_init_419 : decode cX12_init 419 = .ok (.aload_n 0, 1) := by decide +kernel
theorem dX12_init_420 : decode cX12_init 420 = .ok (.bipush 30, 2) := by decide +kernel
theorem dX12_init_422 : decode cX12_init 422 = .ok (.newarray .int, 2) := by decide +kernel
theorem dX12_init_424 : decode cX12_init 424 = .ok (.putfield 166, 3) := by decide +kernel
theorem dX12_init_427 : decode cX12_init 427 = .ok (.aload_n 0, 1) := by decide +kernel
theorem dX12_init_428 : decode cX12_init 428 = .ok (.sipush 1100, 3) := by decide +kernel
theorem dX12_init_431 : decode cX12_init 431 = .ok (.newarray .int, 2) := by decide +kernel
theorem dX12_init_433 : decode cX12_init 433 = .ok (.putfield 169, 3) := by decide +kernel
theorem dX12_init_436 : decode cX12_init 436 = .ok (.aload_n 0, 1) := by decide +kernel
theorem dX12_init_437 : decode cX12_init 437 = .ok (.sipush 1100, 3) := by decide +kernel
theorem dX12_init_440 : decode cX12_init 440 = .ok (.newarray .int, 2) := by decide +kernel
theorem dX12_init_442 : decode cX12_init 442 = .ok (.putfield 172, 3) := by decide +kernel
theorem dX12_init_445 : decode cX12_init 445 = .ok (.aload_n 0, 1) := by decide +kernel
theorem dX12_init_446 : decode cX12_init 446 = .ok (.bipush 30, 2) := by decide +kernel
theorem dX12_init_448 : decode cX12_init 448 = .ok (.newarray .int, 2) := by decide +kernel
end
section
theorem dX12_init_450 : decode cX12_init 450 = .ok (.putfield 175, 3) := by decide +kernel
theorem dX12_init_453 : decode cX12_init 453 = .ok (.aload_n 0, 1) := by decide +kernel
theorem dX12_init_454 : decode cX12_init 454 = .ok (.bipush 30, 2) := by decide +kernel
theorem dX12_init_456 : decode cX12_init 456 = .ok (.newarray .int, 2) := by decide +kernel
theorem dX12_init_458 : decode cX12_init 458 = .ok (.putfield 178, 3) := by decide +kernel
theorem dX12_init_461 : decode cX12_init 461 = .ok (.aload_n 0, 1) := by decide +kernel
theorem dX12_init_462 : decode cX12_init 462 = .ok (.bipush 30, 2) := by decide +kernel
theorem dX12_init_464 : decode cX12_init 464 = .ok (.newarray .int, 2) := by decide +kernel
theorem dX12_init_466 : decode cX12_init 466 = .ok (.putfield 181, 3) := by decide +kernel
theorem dX12_init_469 : decode cX12_init 469 = .ok (.aload_n 0, 1) := by decide +kernel
theorem dX12_init_470 : decode cX12_init 470 = .ok (.bipush 30, 2) := by decide +kernel
theorem dX12_init_472 : decode cX12_init 472 = .ok (.newarray .int, 2) := by decide +kernel
theorem dX12_init_474 : decode cX12_init 474 = .ok (.putfield 184, 3) := by decide +kernel
theorem dX12_init_477 : decode cX12_init 477 = .ok (.aload_n 0, 1) := by decide +kernel
theorem dX12_init_478 : decode cX12_init 478 = .ok (.bipush 31, 2) := by decide +kernel
theorem dX12_init_480 : decode cX12_init 480 = .ok (.newarray .int, 2) := by decide +kernel
theorem dX12_init_482 : decode cX12_init 482 = .ok (.putfield 187, 3) := by decide +kernel
theorem dX12_init_485 : decode cX12_init 485 = .ok (.aload_n 0, 1) := by decide +kernel
theorem dX12_init_486 : decode cX12_init 486 = .ok (.ldc 190, 2) := by decide +kernel
theorem dX12_init_488 : decode cX12_init 488 = .ok (.newarray .boolean, 2) := by decide +kernel
theorem dX12_init_490 : decode cX12_init 490 = .ok (.putfield 191, 3) := by decide +kernel
theorem dX12_init_493 : decode cX12_init 493 = .ok (.aload_n 0, 1) := by decide +kernel
theorem dX12_init_494 : decode cX12_init 494 = .ok (.sipush 1100, 3) := by decide +kernel
theorem dX12_init_497 : decode cX12_init 497 = .ok (.newarray .int, 2) := by decide +kernel
theorem dX12_init_499 : decode cX12_init 499 = .ok (.putfield 194, 3) := by decide +kernel
theorem dX12_init_502 : decode cX12_init 502 = .ok (.aload_n 0, 1) := by decide +kernel
theorem dX12_init_503 : decode cX12_init 503 = .ok (.sipush 502, 3) := by decide +kernel
theorem dX12_init_506 : decode cX12_init 506 = .ok (.newarray .int, 2) := by decide +kernel
theorem dX12_init_508 : decode cX12_init 508 = .ok (.putfield 197, 3) := by decide +kernel
theorem dX12_init_511 : decode cX12_init 511 = .ok (.aload_n 0, 1) := by decide +kernel
theorem dX12_init_512 : decode cX12_init 512 = .ok (.sipush 908, 3) := by decide +kernel
theorem dX12_init_515 : decode cX12_init 515 = .ok (.newarray .int, 2) := by decide +kernel
theorem dX12_init_517 : decode cX12_init 517 = .ok (.putfield 200, 3) := by decide +kernel
theorem dX12_init_520 : decode cX12_init 520 = .ok (.aload_n 0, 1) := by decide +kernel
theorem dX12_init_521 : decode cX12_init 521 = .ok (.sipush 502, 3) := by decide +kernel
theorem dX12_init_524 : decode cX12_init 524 = .ok (.newarray .int, 2) := by decide +kernel
theorem dX12_init_526 : decode cX12_init 526 = .ok (.putfield 203, 3) := by decide +kernel
theorem dX12_init_529 : decode cX12_init 529 = .ok (.aload_n 0, 1) := by decide +kernel
theorem dX12_init_530 : decode cX12_init 530 = .ok (.sipush 502, 3) := by decide +kernel
theorem dX12_init_533 : decode cX12_init 533 = .ok (.newarray .int, 2) := by decide +kernel
theorem dX12_init_535 : decode cX12_init 535 = .ok (.putfield 206, 3) := by decide +kernel
theorem dX12_init_538 : decode cX12_init 538 = .ok (.aload_n 0, 1) := by decide +kernel
theorem dX12_init_539 : decode cX12_init 539 = .ok (.sipush 502, 3) := by decide +kernel
theorem dX12_init_542 : decode cX12_init 542 = .ok (.newarray .boolean, 2) := by decide +kernel
theorem dX12_init_544 : decode cX12_init 544 = .ok (.putfield 209, 3) := by decide +kernel
theorem dX12_init_547 : decode cX12_init 547 = .ok (.aload_n 0, 1) := by decide +kernel
theorem dX12_init_548 : decode cX12_init 548 = .ok (.sipush 3000, 3) := by decide +kernel
theorem dX12_init_551 : decode cX12_init 551 = .ok (.newarray .int, 2) := by decide +kernel
theorem dX12_init_553 : decode cX12_init 553 = .ok (.putfield 212, 3) := by decide +kernel
theorem dX12_init_556 : decode cX12_init 556 = .ok (.aload_n 0, 1) := by decide +kernel
theorem dX12_init_557 : decode cX12_init 557 = .ok (.sipush 3000, 3) := by decide +kernel
theorem dX12_init_560 : decode cX12_init 560 = .ok (.newarray .int, 2) := by decide +kernel
theorem dX12_init_562 : decode cX12_init 562 = .ok (.putfield 215, 3) := by decide +kernel
theorem dX12_init_565 : decode cX12_init 565 = .ok (.aload_n 0, 1) := by decide +kernel
theorem dX12_init_566 : decode cX12_init 566 = .ok (.sipush 6000, 3) := by decide +kernel
theorem dX12_init_569 : decode cX12_init 569 = .ok (.newarray .int, 2) := by decide +kernel
theorem dX12_init_571 : decode cX12_init 571 = .ok (.putfield 218, 3) := by decide +kernel
theorem dX12_init_574 : decode cX12_init 574 = .ok (.aload_n 0, 1) := by decide +kernel
theorem dX12_init_575 : decode cX12_init 575 = .ok (.sipush 6000, 3) := by decide +kernel
theorem dX12_init_578 : decode cX12_init 578 = .ok (.newarray .int, 2) := by decide +kernel
theorem dX12_init_580 : decode cX12_init 580 = .ok (.putfield 221, 3) := by decide +kernel
theorem dX12_init_583 : decode cX12_init 583 = .ok (.aload_n 0, 1) := by decide +kernel
theorem dX12_init_584 : decode cX12_init 584 = .ok (.sipush 6000, 3) := by decide +kernel
theorem dX12_init_587 : decode cX12_init 587 = .ok (.newarray .int, 2) := by decide +kernel
theorem dX12_init_589 : decode cX12_init 589 = .ok (.putfield 224, 3) := by decide +kernel
theorem dX12_init_592 : decode cX12_init 592 = .ok (.aload_n 0, 1) := by decide +kernel
theorem dX12_init_593 : decode cX12_init 593 = .ok (.sipush 3000, 3) := by decide +kernel
theorem dX12_init_596 : decode cX12_init 596 = .ok (.newarray .boolean, 2) := by decide +kernel
theorem dX12_init_598 : decode cX12_init 598 = .ok (.putfield 227, 3) := by decide +kernel
theorem dX12_init_601 : decode cX12_init 601 = .ok (.aload_n 0, 1) := by decide +kernel
theorem dX12_init_602 : decode cX12_init 602 = .ok (.bipush 30, 2) := by decide +kernel
theorem dX12_init_604 : decode cX12_init 604 = .ok (.newarray .int, 2) := by decide +kernel
theorem dX12_init_606 : decode cX12_init 606 = .ok (.putfield 230, 3) := by decide +kernel
theorem dX12_init_609 : decode cX12_init 609 = .ok (.aload_n 0, 1) := by decide +kernel
theorem dX12_init_610 : decode cX12_init 610 = .ok (.bipush 30, 2) := by decide +kernel
theorem dX12_init_612 : decode cX12_init 612 = .ok (.newarray .int, 2) := by decide +kernel
theorem dX12_init_614 : decode cX12_init 614 = .ok (.putfield 233, 3) := by decide +kernel
theorem dX12_init_617 : decode cX12_init 617 = .ok (.aload_n 0, 1) := by decide +kernel
theorem dX12_init_618 : decode cX12_init 618 = .ok (.sipush 160, 3) := by decide +kernel
theorem dX12_init_621 : decode cX12_init 621 = .ok (.newarray .int, 2) := by decide +kernel
theorem dX12_init_623 : decode cX12_init 623 = .ok (.putfield 236, 3) := by decide +kernel
theorem dX12_init_626 : decode cX12_init 626 = .ok (.aload_n 0, 1) := by decide +kernel
theorem dX12_init_627 : decode cX12_init 627 = .ok (.sipush 160, 3) := by decide +kernel
theorem dX12_init_630 : decode cX12_init 630 = .ok (.newarray .int, 2) := by decide +kernel
theorem dX12_init_632 : decode cX12_init 632 = .ok (.putfield 239, 3) := by decide +kernel
theorem dX12_init_635 : decode cX12_init 635 = .ok (.aload_n 0, 1) := by decide +kernel
theorem dX12_init_636 : decode cX12_init 636 = .ok (.sipush 160, 3) := by decide +kernel
theorem dX12_init_639 : decode cX12_init 639 = .ok (.newarray .boolean, 2) := by decide +kernel
theorem dX12_init_641 : decode cX12_init 641 = .ok (.putfield 242, 3) := by decide +kernel
theorem dX12_init_644 : decode cX12_init 644 = .ok (.aload_n 0, 1) := by decide +kernel
theorem dX12_init_645 : decode cX12_init 645 = .ok (.bipush 50, 2) := by decide +kernel
theorem dX12_init_647 : decode cX12_init 647 = .ok (.newarray .int, 2) := by decide +kernel
theorem dX12_init_649 : decode cX12_init 649 = .ok (.putfield 245, 3) := by decide +kernel
theorem dX12_init_652 : decode cX12_init 652 = .ok (.aload_n 0, 1) := by decide +kernel
theorem dX12_init_653 : decode cX12_init 653 = .ok (.iconst 2, 1) := by decide +kernel
theorem dX12_init_654 : decode cX12_init 654 = .ok (.newarray .boolean, 2) := by decide +kernel
theorem dX12_init_656 : decode cX12_init 656 = .ok (.putfield 248, 3) := by decide +kernel
theorem dX12_init_659 : decode cX12_init 659 = .ok (.aload_n 0, 1) := by decide +kernel
theorem dX12_init_660 : decode cX12_init 660 = .ok (.iconst 2, 1) := by decide +kernel
theorem dX12_init_661 : decode cX12_init 661 = .ok (.newarray .int, 2) := by decide +kernel
theorem dX12_init_663 : decode cX12_init 663 = .ok (.putfield 251, 3) := by decide +kernel
theorem dX12_init_666 : decode cX12_init 666 = .ok (.aload_n 0, 1) := by decide +kernel
theorem dX12_init_667 : decode cX12_init 667 = .ok (.iconst 2, 1) := by decide +kernel
theorem dX12_init_668 : decode cX12_init 668 = .ok (.newarray .int, 2) := by decide +kernel
theorem dX12_init_670 : decode cX12_init 670 = .ok (.putfield 254, 3) := by decide +kernel
theorem dX12_init_673 : decode cX12_init 673 = .ok (.aload_n 0, 1) := by decide +kernel
theorem dX12_init_674 : decode cX12_init 674 = .ok (.iconst 2, 1) := by decide +kernel
theorem dX12_init_675 : decode cX12_init 675 = .ok (.newarray .int, 2) := by decide +kernel
theorem dX12_init_677 : decode cX12_init 677 = .ok (.putfield 257, 3) := by decide +kernel
theorem dX12_init_680 : decode cX12_init 680 = .ok (.aload_n 0, 1) := by decide +kernel
theorem dX12_init_681 : decode cX12_init 681 = .ok (.iconst 2, 1) := by decide +kernel
theorem dX12_init_682 : decode cX12_init 682 = .ok (.newarray .int, 2) := by decide +kernel
theorem dX12_init_684 : decode cX12_init 684 = .ok (.putfield 260, 3) := by decide +kernel
theorem dX12_init_687 : decode cX12_init 687 = .ok (.aload_n 0, 1) := by decide +kernel
theorem dX12_init_688 : decode cX12_init 688 = .ok (.iconst 2, 1) := by decide +kernel
theorem dX12_init_689 : decode cX12_init 689 = .ok (.newarray .int, 2) := by decide +kernel
theorem dX12_init_691 : decode cX12_init 691 = .ok (.putfield 263, 3) := by decide +kernel
theorem dX12_init_694 : decode cX12_init 694 = .ok (.aload_n 0, 1) := by decide +kernel
theorem dX12_init_695 : decode cX12_init 695 = .ok (.sipush 200, 3) := by decide +kernel
theorem dX12_init_698 : decode cX12_init 698 = .ok (.newarray .int, 2) := by decide +kernel
theorem dX12_init_700 : decode cX12_init 700 = .ok (.putfield 266, 3) := by decide +kernel
theorem dX12_init_703 : decode cX12_init 703 = .ok (.aload_n 0, 1) := by decide +kernel
theorem dX12_init_704 : decode cX12_init 704 = .ok (.sipush 128, 3) := by decide +kernel
theorem dX12_init_707 : decode cX12_init 707 = .ok (.newarray .int, 2) := by decide +kernel
theorem dX12_init_709 : decode cX12_init 709 = .ok (.putfield 269, 3) := by decide +kernel
theorem dX12_init_712 : decode cX12_init 712 = .ok (.aload_n 0, 1) := by decide +kernel
theorem dX12_init_713 : decode cX12_init 713 = .ok (.sipush 502, 3) := by decide +kernel
theorem dX12_init_716 : decode cX12_init 716 = .ok (.newarray .int, 2) := by decide +kernel
theorem dX12_init_718 : decode cX12_init 718 = .ok (.putfield 272, 3) := by decide +kernel
theorem dX12_init_721 : decode cX12_init 721 = .ok (.aload_n 0, 1) := by decide +kernel
theorem dX12_init_722 : decode cX12_init 722 = .ok (.sipush 502, 3) := by decide +kernel
theorem dX12_init_725 : decode cX12_init 725 = .ok (.newarray .int, 2) := by decide +kernel
theorem dX12_init_727 : decode cX12_init 727 = .ok (.putfield 275, 3) := by decide +kernel
theorem dX12_init_730 : decode cX12_init 730 = .ok (.aload_n 0, 1) := by decide +kernel
theorem dX12_init_731 : decode cX12_init 731 = .ok (.sipush 160, 3) := by decide +kernel
theorem dX12_init_734 : decode cX12_init 734 = .ok (.newarray .int, 2) := by decide +kernel
theorem dX12_init_736 : decode cX12_init 736 = .ok (.putfield 278, 3) := by decide +kernel
theorem dX12_init_739 : decode cX12_init 739 = .ok (.aload_n 0, 1) := by decide +kernel
theorem dX12_init_740 : decode cX12_init 740 = .ok (.getfield 248, 3) := by decide +kernel
theorem dX12_init_743 : decode cX12_init 743 = .ok (.iconst 0, 1) := by decide +kernel
theorem dX12_init_744 : decode cX12_init 744 = .ok (.iconst 0, 1) := by decide +kernel
theorem dX12_init_745 : decode cX12_init 745 = .ok (.bastore, 1) := by decide +kernel
theorem dX12_init_746 : decode cX12_init 746 = .ok (.aload_n 0, 1) := by decide +kernel
theorem dX12_init_747 : decode cX12_init 747 = .ok (.getfield 13, 3) := by decide +kernel
theorem dX12_init_750 : decode cX12_init 750 = .ok (.iconst 0, 1) := by decide +kernel
theorem dX12_init_751 : decode cX12_init 751 = .ok (.bipush 102, 2) := by decide +kernel
theorem dX12_init_753 : decode cX12_init 753 = .ok (.bipush 117, 2) := by decide +kernel
theorem dX12_init_755 : decode cX12_init 755 = .ok (.bipush 110, 2) := by decide +kernel
theorem dX12_init_757 : decode cX12_init 757 = .ok (.iconst 0, 1) := by decide +kernel
theorem dX12_init_758 : decode cX12_init 758 = .ok (.invokestatic 281, 3) := by decide +kernel
theorem dX12_init_761 : decode cX12_init 761 = .ok (.iastore, 1) := by decide +kernel
theorem dX12_init_762 : decode cX12_init 762 = .ok (.aload_n 0, 1) := by decide +kernel
theorem dX12_init_763 : decode cX12_init 763 = .ok (.getfield 13, 3) := by decide +kernel
theorem dX12_init_766 : decode cX12_init 766 = .ok (.iconst 1, 1) := by decide +kernel
theorem dX12_init_767 : decode cX12_init 767 = .ok (.bipush 112, 2) := by decide +kernel
theorem dX12_init_769 : decode cX12_init 769 = .ok (.bipush 104, 2) := by decide +kernel
theorem dX12_init_771 : decode cX12_init 771 = .ok (.bipush 105, 2) := by decide +kernel
theorem dX12_init_773 : decode cX12_init 773 = .ok (.iconst 0, 1) := by decide +kernel
theorem dX12_init_774 : decode cX12_init 774 = .ok (.invokestatic 281, 3) := by decide +kernel
theorem dX12_init_777 : decode cX12_init 777 = .ok (.iastore, 1) := by decide +kernel
theorem dX12_init_778 : decode cX12_init 778 = .ok (.aload_n 0, 1) := by decide +kernel
theorem dX12_init_779 : decode cX12_init 779 = .ok (.getfield 13, 3) := by decide +kernel
theorem dX12_init_782 : decode cX12_init 782 = .ok (.iconst 2, 1) := by decide +kernel
theorem dX12_init_783 : decode cX12_init 783 = .ok (.bipush 105, 2) := by decide +kernel
theorem dX12_init_785 : decode cX12_init 785 = .ok (.bipush 110, 2) := by decide +kernel
theorem dX12_init_787 : decode cX12_init 787 = .ok (.iconst 0, 1) := by decide +kernel
theorem dX12_init_788 : decode cX12_init 788 = .ok (.iconst 0, 1) := by decide +kernel
theorem dX12_init_789 : decode cX12_init 789 = .ok (.invokestatic 281, 3) := by decide +kernel
theorem dX12_init_792 : decode cX12_init 792 = .ok (.iastore, 1) := by decide +kernel
theorem dX12_init_793 : decode cX12_init 793 = .ok (.aload_n 0, 1) := by decide +kernel
theorem dX12_init_794 : decode cX12_init 794 = .ok (.getfield 13, 3) := by decide +kernel
theorem dX12_init_797 : decode cX12_init 797 = .ok (.iconst 3, 1) := by decide +kernel
theorem dX12_init_798 : decode cX12_init 798 = .ok (.bipush 103, 2) := by decide +kernel
theorem dX12_init_800 : decode cX12_init 800 = .ok (.bipush 101, 2) := by decide +kernel
theorem dX12_init_802 : decode cX12_init 802 = .ok (.bipush 116, 2) := by decide +kernel
theorem dX12_init_804 : decode cX12_init 804 = .ok (.iconst 0, 1) := by decide +kernel
theorem dX12_init_805 : decode cX12_init 805 = .ok (.invokestatic 281, 3) := by decide +kernel
theorem dX12_init_808 : decode cX12_init 808 = .ok (.iastore, 1) := by decide +kernel
theorem dX12_init_809 : decode cX12_init 809 = .ok (.aload_n 0, 1) := by decide +kernel
theorem dX12_init_810 : decode cX12_init 810 = .ok (.getfield 13, 3) := by decide +kernel
theorem dX12_init_813 : decode cX12_init 813 = .ok (.iconst 4, 1) := by decide +kernel
theorem dX12_init_814 : decode cX12_init 814 = .ok (.bipush 99, 2) := by decide +kernel
theorem dX12_init_816 : decode cX12_init 816 = .ok (.bipush 111, 2) := by decide +kernel
theorem dX12_init_818 : decode cX12_init 818 = .ok (.bipush 112, 2) := by decide +kernel
theorem dX12_init_820 : decode cX12_init 820 = .ok (.bipush 121, 2) := by decide +kernel
theorem dX12_init_822 : decode cX12_init 822 = .ok (.invokestatic 281, 3) := by decide +kernel
theorem dX12_init_825 : decode cX12_init 825 = .ok (.iastore, 1) := by decide +kernel
theorem dX12_init_826 : decode cX12_init 826 = .ok (.aload_n 0, 1) := by decide +kernel
theorem dX12_init_827 : decode cX12_init 827 = .ok (.getfield 13, 3) := by decide +kernel
theorem dX12_init_830 : decode cX12_init 830 = .ok (.iconst 5, 1) := by decide +kernel
theorem dX12_init_831 : decode cX12_init 831 = .ok (.bipush 110, 2) := by decide +kernel
theorem dX12_init_833 : decode cX12_init 833 = .ok (.bipush 101, 2) := by decide +kernel
theorem dX12_init_835 : decode cX12_init 835 = .ok (.bipush 103, 2) := by decide +kernel
theorem dX12_init_837 : decode cX12_init 837 = .ok (.iconst 0, 1) := by decide +kernel
theorem dX12_init_838 : decode cX12_init 838 = .ok (.invokestatic 281, 3) := by decide +kernel
theorem dX12_init_841 : decode cX12_init 841 = .ok (.iastore, 1) := by decide +kernel
theorem dX12_init_842 : decode cX12_init 842 = .ok (.aload_n 0, 1) := by decide +kernel
theorem dX12_init_843 : decode cX12_init 843 = .ok (.getfield 13, 3) := by decide +kernel
theorem dX12_init_846 : decode cX12_init 846 = .ok (.bipush 6, 2) := by decide +kernel
theorem dX12_init_848 : decode cX12_init 848 = .ok (.bipush 110, 2) := by decide +kernel
theorem dX12_init_850 : decode cX12_init 850 = .ok (.bipush 111, 2) := by decide +kernel
theorem dX12_init_852 : decode cX12_init 852 = .ok (.bipush 116, 2) := by decide +kernel
theorem dX12_init_854 : decode cX12_init 854 = .ok (.iconst 0, 1) := by decide +kernel
theorem dX12_init_855 : decode cX12_init 855 = .ok (.invokestatic 281, 3) := by decide +kernel
theorem dX12_init_858 : decode cX12_init 858 = .ok (.iastore, 1) := by decide +kernel
theorem dX12_init_859 : decode cX12_init 859 = .ok (.aload_n 0, 1) := by decide +kernel
theorem dX12_init_860 : decode cX12_init 860 = .ok (.getfield 13, 3) := by decide +kernel
theorem dX12_init_863 : decode cX12_init 863 = .ok (.bipush 7, 2) := by decide +kernel
theorem dX12_init_865 : decode cX12_init 865 = .ok (.bipush 97, 2) := by decide +kernel
theorem dX12_init_867 : decode cX12_init 867 = .ok (.bipush 100, 2) := by decide +kernel
theorem dX12_init_869 : decode cX12_init 869 = .ok (.bipush 100, 2) := by decide +kernel
theorem dX12_init_871 : decode cX12_init 871 = .ok (.iconst 0, 1) := by decide +kernel
theorem dX12_init_872 : decode cX12_init 872 = .ok (.invokestatic 281, 3) := by decide +kernel
theorem dX12_init_875 : decode cX12_init 875 = .ok (.iastore, 1) := by decide +kernel
theorem dX12_init_876 : decode cX12_init 876 = .ok (.aload_n 0, 1) := by decide +kernel
theorem dX12_init_877 : decode cX12_init 877 = .ok (.getfield 13, 3) := by decide +kernel
theorem dX12_init_880 : decode cX12_init 880 = .ok (.bipush 8, 2) := by decide +kernel
theorem dX12_init_882 : decode cX12_init 882 = .ok (.bipush 115, 2) := by decide +kernel
theorem dX12_init_884 : decode cX12_init 884 = .ok (.bipush 117, 2) := by decide +kernel
theorem dX12_init_886 : decode cX12_init 886 = .ok (.bipush 98, 2) := by decide +kernel
theorem dX12_init_888 : decode cX12_init 888 = .ok (.iconst 0, 1) := by decide +kernel
theorem dX12_init_889 : decode cX12_init 889 = .ok (.invokestatic 281, 3) := by decide +kernel
theorem dX12_init_892 : decode cX12_init 892 = .ok (.iastore, 1) := by decide +kernel
theorem dX12_init_893 : decode cX12_init 893 = .ok (.aload_n 0, 1) := by decide +kernel
theorem dX12_init_894 : decode cX12_init 894 = .ok (.getfield 13, 3) := by decide +kernel
theorem dX12_init_897 : decode cX12_init 897 = .ok (.bipush 9, 2) := by decide +kernel
theorem dX12_init_899 : decode cX12_init 899 = .ok (.bipush 109, 2) := by decide +kernel
theorem dX12_init_901 : decode cX12_init 901 = .ok (.bipush 117, 2) := by decide +kernel
theorem dX12_init_903 : decode cX12_init 903 = .ok (.bipush 108, 2) := by decide +kernel
theorem dX12_init_905 : decode cX12_init 905 = .ok (.iconst 0, 1) := by decide +kernel
theorem dX12_init_906 : decode cX12_init 906 = .ok (.invokestatic 281, 3) := by decide +kernel
theorem dX12_init_909 : decode cX12_init 909 = .ok (.iastore, 1) := by decide +kernel
theorem dX12_init_910 : decode cX12_init 910 = .ok (.aload_n 0, 1) := by decide +kernel
theorem dX12_init_911 : decode cX12_init 911 = .ok (.getfield 13, 3) := by decide +kernel
theorem dX12_init_914 : decode cX12_init 914 = .ok (.bipush 10, 2) := by decide +kernel
theorem dX12_init_916 : decode cX12_init 916 = .ok (.bipush 100, 2) := by decide +kernel
theorem dX12_init_918 : decode cX12_init 918 = .ok (.bipush 105, 2) := by decide +kernel
theorem dX12_init_920 : decode cX12_init 920 = .ok (.bipush 118, 2) := by decide +kernel
theorem dX12_init_922 : decode cX12_init 922 = .ok (.iconst 0, 1) := by decide +kernel
theorem dX12_init_923 : decode cX12_init 923 = .ok (.invokestatic 281, 3) := by decide +kernel
theorem dX12_init_926 : decode cX12_init 926 = .ok (.iastore, 1) := by decide +kernel
theorem dX12_init_927 : decode cX12_init 927 = .ok (.aload_n 0, 1) := by decide +kernel
theorem dX12_init_928 : decode cX12_init 928 = .ok (.getfield 13, 3) := by decide +kernel
theorem dX12_init_931 : decode cX12_init 931 = .ok (.bipush 11, 2) := by decide +kernel
theorem dX12_init_933 : decode cX12_init 933 = .ok (.bipush 114, 2) := by decide +kernel
theorem dX12_init_935 : decode cX12_init 935 = .ok (.bipush 101, 2) := by decide +kernel
theorem dX12_init_937 : decode cX12_init 937 = .ok (.bipush 109, 2) := by decide +kernel
theorem dX12_init_939 : decode cX12_init 939 = .ok (.iconst 0, 1) := by decide +kernel
theorem dX12_init_940 : decode cX12_init 940 = .ok (.invokestatic 281, 3) := by decide +kernel
theorem dX12_init_943 : decode cX12_init 943 = .ok (.iastore, 1) := by decide +kernel
theorem dX12_init_944 : decode cX12_init 944 = .ok (.aload_n 0, 1) := by decide +kernel
theorem dX12_init_945 : decode cX12_init 945 = .ok (.getfield 13, 3) := by decide +kernel
theorem dX12_init_948 : decode cX12_init 948 = .ok (.bipush 12, 2) := by decide +kernel
theorem dX12_init_950 : decode cX12_init 950 = .ok (.bipush 97, 2) := by decide +kernel
theorem dX12_init_952 : decode cX12_init 952 = .ok (.bipush 110, 2) := by decide +kernel
theorem dX12_init_954 : decode cX12_init 954 = .ok (.bipush 100, 2) := by decide +kernel
theorem dX12_init_956 : decode cX12_init 956 = .ok (.iconst 0, 1) := by decide +kernel
theorem dX12_init_957 : decode cX12_init 957 = .ok (.invokestatic 281, 3) := by decide +kernel
theorem dX12_init_960 : decode cX12_init 960 = .ok (.iastore, 1) := by decide +kernel
theorem dX12_init_961 : decode cX12_init 961 = .ok (.aload_n 0, 1) := by decide +kernel
theorem dX12_init_962 : decode cX12_init 962 = .ok (.getfield 13, 3) := by decide +kernel
theorem dX12_init_965 : decode cX12_init 965 = .ok (.bipush 13, 2) := by decide +kernel
theorem dX12_init_967 : decode cX12_init 967 = .ok (.bipush 111, 2) := by decide +kernel
theorem dX12_init_969 : decode cX12_init 969 = .ok (.bipush 114, 2) := by decide +kernel
theorem dX12_init_971 : decode cX12_init 971 = .ok (.iconst 0, 1) := by decide +kernel
theorem dX12_init_972 : decode cX12_init 972 = .ok (.iconst 0, 1) := by decide +kernel
theorem dX12_init_973 : decode cX12_init 973 = .ok (.invokestatic 281, 3) := by decide +kernel
theorem dX12_init_976 : decode cX12_init 976 = .ok (.iastore, 1) := by decide +kernel
theorem dX12_init_977 : decode cX12_init 977 = .ok (.aload_n 0, 1) := by decide +kernel
theorem dX12_init_978 : decode cX12_init 978 = .ok (.getfield 13, 3) := by decide +kernel
theorem dX12_init_981 : decode cX12_init 981 = .ok (.bipush 14, 2) := by decide +kernel
theorem dX12_init_983 : decode cX12_init 983 = .ok (.bipush 120, 2) := by decide +kernel
theorem dX12_init_985 : decode cX12_init 985 = .ok (.bipush 111, 2) := by decide +kernel
theorem dX12_init_987 : decode cX12_init 987 = .ok (.bipush 114, 2) := by decide +kernel
theorem dX12_init_989 : decode cX12_init 989 = .ok (.iconst 0, 1) := by decide +kernel
theorem dX12_init_990 : decode cX12_init 990 = .ok (.invokestatic 281, 3) := by decide +kernel
theorem dX12_init_993 : decode cX12_init 993 = .ok (.iastore, 1) := by decide +kernel
theorem dX12_init_994 : decode cX12_init 994 = .ok (.aload_n 0, 1) := by decide +kernel
theorem dX12_init_995 : decode cX12_init 995 = .ok (.getfield 13, 3) := by decide +kernel
theorem dX12_init_998 : decode cX12_init 998 = .ok (.bipush 15, 2) := by decide +kernel
theorem dX12_init_1000 : decode cX12_init 1000 = .ok (.bipush 115, 2) := by decide +kernel
theorem dX12_init_1002 : decode cX12_init 1002 = .ok (.bipush 104, 2) := by decide +kernel
theorem dX12_init_1004 : decode cX12_init 1004 = .ok (.bipush 108, 2) := by decide +kernel
theorem dX12_init_1006 : decode cX12_init 1006 = .ok (.iconst 0, 1) := by decide +kernel
theorem dX12_init_1007 : decode cX12_init 1007 = .ok (.invokestatic 281, 3) := by decide +kernel
theorem dX12_init_1010 : decode cX12_init 1010 = .ok (.iastore, 1) := by decide +kernel
theorem dX12_init_1011 : decode cX12_init 1011 = .ok (.aload_n 0, 1) := by decide +kernel
theorem dX12_init_1012 : decode cX12_init 1012 = .ok (.getfield 13, 3) := by decide +kernel
theorem dX12_init_1015 : decode cX12_init 1015 = .ok (.bipush 16, 2) := by decide +kernel
theorem dX12_init_1017 : decode cX12_init 1017 = .ok (.bipush 115, 2) := by decide +kernel
theorem dX12_init_1019 : decode cX12_init 1019 = .ok (.bipush 104, 2) := by decide +kernel
theorem dX12_init_1021 : decode cX12_init 1021 = .ok (.bipush 114, 2) := by decide +kernel
theorem dX12_init_1023 : decode cX12_init 1023 = .ok (.iconst 0, 1) := by decide +kernel
theorem dX12_init_1024 : decode cX12_init 1024 = .ok (.invokestatic 281, 3) := by decide +kernel
theorem dX12_init_1027 : decode cX12_init 1027 = .ok (.iastore, 1) := by decide +kernel
theorem dX12_init_1028 : decode cX12_init 1028 = .ok (.aload_n 0, 1) := by decide +kernel
theorem dX12_init_1029 : decode cX12_init 1029 = .ok (.getfield 13, 3) := by decide +kernel
theorem dX12_init_1032 : decode cX12_init 1032 = .ok (.bipush 17, 2) := by decide +kernel
theorem dX12_init_1034 : decode cX12_init 1034 = .ok (.bipush 108, 2) := by decide +kernel
theorem dX12_init_1036 : decode cX12_init 1036 = .ok (.bipush 116, 2) := by decide +kernel
theorem dX12_init_1038 : decode cX12_init 1038 = .ok (.iconst 0, 1) := by decide +kernel
theorem dX12_init_1039 : decode cX12_init 1039 = .ok (.iconst 0, 1) := by decide +kernel
theorem dX12_init_1040 : decode cX12_init 1040 = .ok (.invokestatic 281, 3) := by decide +kernel
theorem dX12_init_1043 : decode cX12_init 1043 = .ok (.iastore, 1) := by decide +kernel
theorem dX12_init_1044 : decode cX12_init 1044 = .ok (.aload_n 0, 1) := by decide +kernel
theorem dX12_init_1045 : decode cX12_init 1045 = .ok (.getfield 13, 3) := by decide +kernel
theorem dX12_init_1048 : decode cX12_init 1048 = .ok (.bipush 18, 2) := by decide +kernel
theorem dX12_init_1050 : decode cX12_init 1050 = .ok (.bipush 101, 2) := by decide +kernel
theorem dX12_init_1052 : decode cX12_init 1052 = .ok (.bipush 113, 2) := by decide +kernel
theorem dX12_init_1054 : decode cX12_init 1054 = .ok (.iconst 0, 1) := by decide +kernel
theorem dX12_init_1055 : decode cX12_init 1055 = .ok (.iconst 0, 1) := by decide +kernel
theorem dX12_init_1056 : decode cX12_init 1056 = .ok (.invokestatic 281, 3) := by decide +kernel
theorem dX12_init_1059 : decode cX12_init 1059 = .ok (.iastore, 1) := by decide +kernel
theorem dX12_init_1060 : decode cX12_init 1060 = .ok (.aload_n 0, 1) := by decide +kernel
theorem dX12_init_1061 : decode cX12_init 1061 = .ok (.getfield 13, 3) := by decide +kernel
theorem dX12_init_1064 : decode cX12_init 1064 = .ok (.bipush 19, 2) := by decide +kernel
theorem dX12_init_1066 : decode cX12_init 1066 = .ok (.bipush 111, 2) := by decide +kernel
theorem dX12_init_1068 : decode cX12_init 1068 = .ok (.bipush 117, 2) := by decide +kernel
theorem dX12_init_1070 : decode cX12_init 1070 = .ok (.bipush 116, 2) := by decide +kernel
theorem dX12_init_1072 : decode cX12_init 1072 = .ok (.iconst 0, 1) := by decide +kernel
theorem dX12_init_1073 : decode cX12_init 1073 = .ok (.invokestatic 281, 3) := by decide +kernel
theorem dX12_init_1076 : decode cX12_init 1076 = .ok (.iastore, 1) := by decide +kernel
theorem dX12_init_1077 : decode cX12_init 1077 = .ok (.aload_n 0, 1) := by decide +kernel
theorem dX12_init_1078 : decode cX12_init 1078 = .ok (.getfield 13, 3) := by decide +kernel
theorem dX12_init_1081 : decode cX12_init 1081 = .ok (.bipush 20, 2) := by decide +kernel
theorem dX12_init_1083 : decode cX12_init 1083 = .ok (.bipush 112, 2) := by decide +kernel
theorem dX12_init_1085 : decode cX12_init 1085 = .ok (.bipush 117, 2) := by decide +kernel
theorem dX12_init_1087 : decode cX12_init 1087 = .ok (.bipush 116, 2) := by decide +kernel
theorem dX12_init_1089 : decode cX12_init 1089 = .ok (.iconst 0, 1) := by decide +kernel
theorem dX12_init_1090 : decode cX12_init 1090 = .ok (.invokestatic 281, 3) := by decide +kernel
theorem dX12_init_1093 : decode cX12_init 1093 = .ok (.iastore, 1) := by decide +kernel
theorem dX12_init_1094 : decode cX12_init 1094 = .ok (.aload_n 0, 1) := by decide +kernel
theorem dX12_init_1095 : decode cX12_init 1095 = .ok (.getfield 13, 3) := by decide +kernel
theorem dX12_init_1098 : decode cX12_init 1098 = .ok (.bipush 21, 2) := by decide +kernel
theorem dX12_init_1100 : decode cX12_init 1100 = .ok (.bipush 103, 2) := by decide +kernel
theorem dX12_init_1102 : decode cX12_init 1102 = .ok (.bipush 111, 2) := by decide +kernel
theorem dX12_init_1104 : decode cX12_init 1104 = .ok (.iconst 0, 1) := by decide +kernel
theorem dX12_init_1105 : decode cX12_init 1105 = .ok (.iconst 0, 1) := by decide +kernel
theorem dX12_init_1106 : decode cX12_init 1106 = .ok (.invokestatic 281, 3) := by decide +kernel
theorem dX12_init_1109 : decode cX12_init 1109 = .ok (.iastore, 1) := by decide +kernel
theorem dX12_init_1110 : decode cX12_init 1110 = .ok (.aload_n 0, 1) := by decide +kernel
theorem dX12_init_1111 : decode cX12_init 1111 = .ok (.getfield 13, 3) := by decide +kernel
theorem dX12_init_1114 : decode cX12_init 1114 = .ok (.bipush 22, 2) := by decide +kernel
theorem dX12_init_1116 : decode cX12_init 1116 = .ok (.bipush 105, 2) := by decide +kernel
theorem dX12_init_1118 : decode cX12_init 1118 = .ok (.bipush 102, 2) := by decide +kernel
theorem dX12_init_1120 : decode cX12_init 1120 = .ok (.iconst 0, 1) := by decide +kernel
theorem dX12_init_1121 : decode cX12_init 1121 = .ok (.iconst 0, 1) := by decide +kernel
theorem dX12_init_1122 : decode cX12_init 1122 = .ok (.invokestatic 281, 3) := by decide +kernel
theorem dX12_init_1125 : decode cX12_init 1125 = .ok (.iastore, 1) := by decide +kernel
theorem dX12_init_1126 : decode cX12_init 1126 = .ok (.aload_n 0, 1) := by decide +kernel
theorem dX12_init_1127 : decode cX12_init 1127 = .ok (.getfield 13, 3) := by decide +kernel
theorem dX12_init_1130 : decode cX12_init 1130 = .ok (.bipush 23, 2) := by decide +kernel
theorem dX12_init_1132 : decode cX12_init 1132 = .ok (.bipush 114, 2) := by decide +kernel
theorem dX12_init_1134 : decode cX12_init 1134 = .ok (.bipush 101, 2) := by decide +kernel
theorem dX12_init_1136 : decode cX12_init 1136 = .ok (.bipush 116, 2) := by decide +kernel
theorem dX12_init_1138 : decode cX12_init 1138 = .ok (.iconst 0, 1) := by decide +kernel
theorem dX12_init_1139 : decode cX12_init 1139 = .ok (.invokestatic 281, 3) := by decide +kernel
theorem dX12_init_1142 : decode cX12_init 1142 = .ok (.iastore, 1) := by decide +kernel
theorem dX12_init_1143 : decode cX12_init 1143 = .ok (.return_, 1) := by decide +kernel
theorem dX12_word_0 : decode cX12_word 0 = .ok (.iload_n 0, 1) := by decide +kernel
theorem dX12_word_1 : decode cX12_word 1 = .ok (.sipush 128, 3) := by decide +kernel
theorem dX12_word_4 : decode cX12_word 4 = .ok (.imul, 1) := by decide +kernel
theorem dX12_word_5 : decode cX12_word 5 = .ok (.iload_n 1, 1) := by decide +kernel
theorem dX12_word_6 : decode cX12_word 6 = .ok (.iadd, 1) := by decide +kernel
theorem dX12_word_7 : decode cX12_word 7 = .ok (.sipush 128, 3) := by decide +kernel
theorem dX12_word_10 : decode cX12_word 10 = .ok (.imul, 1) := by decide +kernel
theorem dX12_word_11 : decode cX12_word 11 = .ok (.iload_n 2, 1) := by decide +kernel
theorem dX12_word_12 : decode cX12_word 12 = .ok (.iadd, 1) := by decide +kernel
theorem dX12_word_13 : decode cX12_word 13 = .ok (.sipush 128, 3) := by decide +kernel
theorem dX12_word_16 : decode cX12_word 16 = .ok (.imul, 1) := by decide +kernel
theorem dX12_word_17 : decode cX12_word 17 = .ok (.iload_n 3, 1) := by decide +kernel
theorem dX12_word_18 : decode cX12_word 18 = .ok (.iadd, 1) := by decide +kernel
theorem dX12_word_19 : decode cX12_word 19 = .ok (.ireturn, 1) := by decide +kernel
theorem dX11_feed_0 : decode cX11_feed 0 = .ok (.aload_n 0, 1) := by decide +kernel
theorem dX11_feed_1 : decode cX11_feed 1 = .ok (.getfield 21, 3) := by decide +kernel
theorem dX11_feed_4 : decode cX11_feed 4 = .ok (.bipush 20, 2) := by decide +kernel
theorem dX11_feed_6 : decode cX11_feed 6 = .ok (.iadd, 1) := by decide +kernel
theorem dX11_feed_7 : decode cX11_feed 7 = .ok (.sipush 4000, 3) := by decide +kernel
theorem dX11_feed_10 : decode cX11_feed 10 = .ok (.if_icmp .le 5, 3) := by decide +kernel
theorem dX11_feed_15 : decode cX11_feed 15 = .ok (.aload_n 0, 1) := by decide +kernel
theorem dX11_feed_16 : decode cX11_feed 16 = .ok (.iload_n 1, 1) := by decide +kernel
theorem dX11_feed_17 : decode cX11_feed 17 = .ok (.invokevirtual 24, 3) := by decide +kernel
theorem dX11_feed_20 : decode cX11_feed 20 = .ok (.aload_n 0, 1) := by decide +kernel
theorem dX11_feed_21 : decode cX11_feed 21 = .ok (.iload_n 2, 1) := by decide +kernel
theorem dX11_feed_22 : decode cX11_feed 22 = .ok (.invokevirtual 24, 3) := by decide +kernel
theorem dX11_feed_25 : decode cX11_feed 25 = .ok (.aload_n 0, 1) := by decide +kernel
theorem dX11_feed_26 : decode cX11_feed 26 = .ok (.iload_n 3, 1) := by decide +kernel
theorem dX11_feed_27 : decode cX11_feed 27 = .ok (.invokevirtual 24, 3) := by decide +kernel
theorem dX11_feed_30 : decode cX11_feed 30 = .ok (.aload_n 0, 1) := by decide +kernel
theorem dX11_feed_31 : decode cX11_feed 31 = .ok (.iload 4, 2) := by decide +kernel
theorem dX11_feed_33 : decode cX11_feed 33 = .ok (.invokevirtual 24, 3) := by decide +kernel
theorem dX11_feed_36 : decode cX11_feed 36 = .ok (.aload_n 0, 1) := by decide +kernel
theorem dX11_feed_37 : decode cX11_feed 37 = .ok (.iload 5, 2) := by decide +kernel
theorem dX11_feed_39 : decode cX11_feed 39 = .ok (.invokevirtual 24, 3) := by decide +kernel
theorem dX11_feed_42 : decode cX11_feed 42 = .ok (.aload_n 0, 1) := by decide +kernel
theorem dX11_feed_43 : decode cX11_feed 43 = .ok (.getfield 21, 3) := by decide +kernel
theorem dX11_feed_46 : decode cX11_feed 46 = .ok (.ireturn, 1) := by decide +kernel
theorem dX11_append_0 : decode cX11_append 0 = .ok (.bipush 24, 2) := by decide +kernel
theorem dX11_append_2 : decode cX11_append 2 = .ok (.istore_n 2, 1) := by decide +kernel
theorem dX11_append_3 : decode cX11_append 3 = .ok (.iload_n 2, 1) := by decide +kernel
end
section
theorem dX11_append_4 : decode cX11_append 4 = .ok (.ifCond .lt 44, 3) := by decide +kernel
theorem dX11_append_7 : decode cX11_append 7 = .ok (.aload_n 0, 1) := by decide +kernel
theorem dX11_append_8 : decode cX11_append 8 = .ok (.getfield 21, 3) := by decide +kernel
theorem dX11_append_11 : decode cX11_append 11 = .ok (.aload_n 0, 1) := by decide +kernel
theorem dX11_append_12 : decode cX11_append 12 = .ok (.getfield 9, 3) := by decide +kernel
theorem dX11_append_15 : decode cX11_append 15 = .ok (.arraylength, 1) := by decide +kernel
theorem dX11_append_16 : decode cX11_append 16 = .ok (.if_icmp .ge 26, 3) := by decide +kernel
theorem dX11_append_19 : decode cX11_append 19 = .ok (.aload_n 0, 1) := by decide +kernel
theorem dX11_append_20 : decode cX11_append 20 = .ok (.getfield 9, 3) := by decide +kernel
theorem dX11_append_23 : decode cX11_append 23 = .ok (.aload_n 0, 1) := by decide +kernel
theorem dX11_append_24 : decode cX11_append 24 = .ok (.getfield 21, 3) := by decide +kernel
theorem dX11_append_27 : decode cX11_append 27 = .ok (.iload_n 1, 1) := by decide +kernel
theorem dX11_append_28 : decode cX11_append 28 = .ok (.iload_n 2, 1) := by decide +kernel
theorem dX11_append_29 : decode cX11_append 29 = .ok (.ishr, 1) := by decide +kernel
theorem dX11_append_30 : decode cX11_append 30 = .ok (.i2b, 1) := by decide +kernel
theorem dX11_append_31 : decode cX11_append 31 = .ok (.bastore, 1) := by decide +kernel
theorem dX11_append_32 : decode cX11_append 32 = .ok (.aload_n 0, 1) := by decide +kernel
theorem dX11_append_33 : decode cX11_append 33 = .ok (.dup, 1) := by decide +kernel
theorem dX11_append_34 : decode cX11_append 34 = .ok (.getfield 21, 3) := by decide +kernel
theorem dX11_append_37 : decode cX11_append 37 = .ok (.iconst 1, 1) := by decide +kernel
theorem dX11_append_38 : decode cX11_append 38 = .ok (.iadd, 1) := by decide +kernel
theorem dX11_append_39 : decode cX11_append 39 = .ok (.putfield 21, 3) := by decide +kernel
theorem dX11_append_42 : decode cX11_append 42 = .ok (.iinc 2 (-8), 3) := by decide +kernel
theorem dX11_append_45 : decode cX11_append 45 = .ok (.goto (-42), 3) := by decide +kernel
theorem dX11_append_48 : decode cX11_append 48 = .ok (.return_, 1) := by decide +kernel
theorem dX12_feed_0 : decode cX12_feed 0 = .ok (.aload_n 0, 1) := by decide +kernel
theorem dX12_feed_1 : decode cX12_feed 1 = .ok (.getfield 285, 3) := by decide +kernel
theorem dX12_feed_4 : decode cX12_feed 4 = .ok (.bipush 20, 2) := by decide +kernel
theorem dX12_feed_6 : decode cX12_feed 6 = .ok (.iadd, 1) := by decide +kernel
theorem dX12_feed_7 : decode cX12_feed 7 = .ok (.sipush 4000, 3) := by decide +kernel
theorem dX12_feed_10 : decode cX12_feed 10 = .ok (.if_icmp .le 5, 3) := by decide +kernel
theorem dX12_feed_15 : decode cX12_feed 15 = .ok (.aload_n 0, 1) := by decide +kernel
theorem dX12_feed_16 : decode cX12_feed 16 = .ok (.iload_n 1, 1) := by decide +kernel
theorem dX12_feed_17 : decode cX12_feed 17 = .ok (.invokevirtual 288, 3) := by decide +kernel
theorem dX12_feed_20 : decode cX12_feed 20 = .ok (.aload_n 0, 1) := by decide +kernel
theorem dX12_feed_21 : decode cX12_feed 21 = .ok (.iload_n 2, 1) := by decide +kernel
theorem dX12_feed_22 : decode cX12_feed 22 = .ok (.invokevirtual 288, 3) := by decide +kernel
theorem dX12_feed_25 : decode cX12_feed 25 = .ok (.aload_n 0, 1) := by decide +kernel
theorem dX12_feed_26 : decode cX12_feed 26 = .ok (.iload_n 3, 1) := by decide +kernel
theorem dX12_feed_27 : decode cX12_feed 27 = .ok (.invokevirtual 288, 3) := by decide +kernel
theorem dX12_feed_30 : decode cX12_feed 30 = .ok (.aload_n 0, 1) := by decide +kernel
theorem dX12_feed_31 : decode cX12_feed 31 = .ok (.iload 4, 2) := by decide +kernel
theorem dX12_feed_33 : decode cX12_feed 33 = .ok (.invokevirtual 288, 3) := by decide +kernel
theorem dX12_feed_36 : decode cX12_feed 36 = .ok (.aload_n 0, 1) := by decide +kernel
theorem dX12_feed_37 : decode cX12_feed 37 = .ok (.iload 5, 2) := by decide +kernel
theorem dX12_feed_39 : decode cX12_feed 39 = .ok (.invokevirtual 288, 3) := by decide +kernel
theorem dX12_feed_42 : decode cX12_feed 42 = .ok (.aload_n 0, 1) := by decide +kernel
theorem dX12_feed_43 : decode cX12_feed 43 = .ok (.getfield 285, 3) := by decide +kernel
theorem dX12_feed_46 : decode cX12_feed 46 = .ok (.ireturn, 1) := by decide +kernel
theorem dX12_put_0 : decode cX12_put 0 = .ok (.bipush 24, 2) := by decide +kernel
theorem dX12_put_2 : decode cX12_put 2 = .ok (.istore_n 2, 1) := by decide +kernel
theorem dX12_put_3 : decode cX12_put 3 = .ok (.iload_n 2, 1) := by decide +kernel
theorem dX12_put_4 : decode cX12_put 4 = .ok (.ifCond .lt 32, 3) := by decide +kernel
theorem dX12_put_7 : decode cX12_put 7 = .ok (.aload_n 0, 1) := by decide +kernel
theorem dX12_put_8 : decode cX12_put 8 = .ok (.getfield 17, 3) := by decide +kernel
theorem dX12_put_11 : decode cX12_put 11 = .ok (.aload_n 0, 1) := by decide +kernel
theorem dX12_put_12 : decode cX12_put 12 = .ok (.getfield 285, 3) := by decide +kernel
theorem dX12_put_15 : decode cX12_put 15 = .ok (.iload_n 1, 1) := by decide +kernel
theorem dX12_put_16 : decode cX12_put 16 = .ok (.iload_n 2, 1) := by decide +kernel
theorem dX12_put_17 : decode cX12_put 17 = .ok (.ishr, 1) := by decide +kernel
theorem dX12_put_18 : decode cX12_put 18 = .ok (.i2b, 1) := by decide +kernel
theorem dX12_put_19 : decode cX12_put 19 = .ok (.bastore, 1) := by decide +kernel
theorem dX12_put_20 : decode cX12_put 20 = .ok (.aload_n 0, 1) := by decide +kernel
theorem dX12_put_21 : decode cX12_put 21 = .ok (.dup, 1) := by decide +kernel
theorem dX12_put_22 : decode cX12_put 22 = .ok (.getfield 285, 3) := by decide +kernel
theorem dX12_put_25 : decode cX12_put 25 = .ok (.iconst 1, 1) := by decide +kernel
theorem dX12_put_26 : decode cX12_put 26 = .ok (.iadd, 1) := by decide +kernel
theorem dX12_put_27 : decode cX12_put 27 = .ok (.putfield 285, 3) := by decide +kernel
theorem dX12_put_30 : decode cX12_put 30 = .ok (.iinc 2 (-8), 3) := by decide +kernel
theorem dX12_put_33 : decode cX12_put 33 = .ok (.goto (-30), 3) := by decide +kernel
theorem dX12_put_36 : decode cX12_put 36 = .ok (.return_, 1) := by decide +kernel
theorem dX11_back_0 : decode cX11_back 0 = .ok (.iload_n 1, 1) := by decide +kernel
theorem dX11_back_1 : decode cX11_back 1 = .ok (.ifCond .lt 11, 3) := by decide +kernel
theorem dX11_back_4 : decode cX11_back 4 = .ok (.iload_n 1, 1) := by decide +kernel
theorem dX11_back_5 : decode cX11_back 5 = .ok (.aload_n 0, 1) := by decide +kernel
theorem dX11_back_6 : decode cX11_back 6 = .ok (.getfield 21, 3) := by decide +kernel
theorem dX11_back_9 : decode cX11_back 9 = .ok (.if_icmp .le 5, 3) := by decide +kernel
theorem dX11_back_12 : decode cX11_back 12 = .ok (.iconst (-1), 1) := by decide +kernel
theorem dX11_back_13 : decode cX11_back 13 = .ok (.ireturn, 1) := by decide +kernel
theorem dX11_back_14 : decode cX11_back 14 = .ok (.aload_n 0, 1) := by decide +kernel
theorem dX11_back_15 : decode cX11_back 15 = .ok (.dup, 1) := by decide +kernel
theorem dX11_back_16 : decode cX11_back 16 = .ok (.getfield 21, 3) := by decide +kernel
theorem dX11_back_19 : decode cX11_back 19 = .ok (.iload_n 1, 1) := by decide +kernel
theorem dX11_back_20 : decode cX11_back 20 = .ok (.isub, 1) := by decide +kernel
theorem dX11_back_21 : decode cX11_back 21 = .ok (.putfield 21, 3) := by decide +kernel
theorem dX11_back_24 : decode cX11_back 24 = .ok (.aload_n 0, 1) := by decide +kernel
theorem dX11_back_25 : decode cX11_back 25 = .ok (.getfield 21, 3) := by decide +kernel
theorem dX11_back_28 : decode cX11_back 28 = .ok (.ireturn, 1) := by decide +kernel
theorem dX12_back_0 : decode cX12_back 0 = .ok (.iload_n 1, 1) := by decide +kernel
theorem dX12_back_1 : decode cX12_back 1 = .ok (.ifCond .lt 11, 3) := by decide +kernel
theorem dX12_back_4 : decode cX12_back 4 = .ok (.iload_n 1, 1) := by decide +kernel
theorem dX12_back_5 : decode cX12_back 5 = .ok (.aload_n 0, 1) := by decide +kernel
theorem dX12_back_6 : decode cX12_back 6 = .ok (.getfield 285, 3) := by decide +kernel
theorem dX12_back_9 : decode cX12_back 9 = .ok (.if_icmp .le 5, 3) := by decide +kernel
theorem dX12_back_12 : decode cX12_back 12 = .ok (.iconst (-1), 1) := by decide +kernel
theorem dX12_back_13 : decode cX12_back 13 = .ok (.ireturn, 1) := by decide +kernel
theorem dX12_back_14 : decode cX12_back 14 = .ok (.aload_n 0, 1) := by decide +kernel
theorem dX12_back_15 : decode cX12_back 15 = .ok (.dup, 1) := by decide +kernel
theorem dX12_back_16 : decode cX12_back 16 = .ok (.getfield 285, 3) := by decide +kernel
theorem dX12_back_19 : decode cX12_back 19 = .ok (.iload_n 1, 1) := by decide +kernel
theorem dX12_back_20 : decode cX12_back 20 = .ok (.isub, 1) := by decide +kernel
theorem dX12_back_21 : decode cX12_back 21 = .ok (.putfield 285, 3) := by decide +kernel
theorem dX12_back_24 : decode cX12_back 24 = .ok (.aload_n 0, 1) := by decide +kernel
theorem dX12_back_25 : decode cX12_back 25 = .ok (.getfield 285, 3) := by decide +kernel
theorem dX12_back_28 : decode cX12_back 28 = .ok (.ireturn, 1) := by decide +kernel
theorem dX11_read_0 : decode cX11_read 0 = .ok (.aload_n 0, 1) := by decide +kernel
theorem dX11_read_1 : decode cX11_read 1 = .ok (.getfield 28, 3) := by decide +kernel
theorem dX11_read_4 : decode cX11_read 4 = .ok (.ifnonnull 14, 3) := by decide +kernel
theorem dX11_read_7 : decode cX11_read 7 = .ok (.aload_n 0, 1) := by decide +kernel
theorem dX11_read_8 : decode cX11_read 8 = .ok (.new 32, 3) := by decide +kernel
theorem dX11_read_11 : decode cX11_read 11 = .ok (.dup, 1) := by decide +kernel
theorem dX11_read_12 : decode cX11_read 12 = .ok (.invokespecial 34, 3) := by decide +kernel
theorem dX11_read_15 : decode cX11_read 15 = .ok (.putfield 28, 3) := by decide +kernel
theorem dX11_read_18 : decode cX11_read 18 = .ok (.aload_n 0, 1) := by decide +kernel
theorem dX11_read_19 : decode cX11_read 19 = .ok (.getfield 35, 3) := by decide +kernel
theorem dX11_read_22 : decode cX11_read 22 = .ok (.ifnonnull 18, 3) := by decide +kernel
theorem dX11_read_25 : decode cX11_read 25 = .ok (.aload_n 0, 1) := by decide +kernel
theorem dX11_read_26 : decode cX11_read 26 = .ok (.new 39, 3) := by decide +kernel
theorem dX11_read_29 : decode cX11_read 29 = .ok (.dup, 1) := by decide +kernel
theorem dX11_read_30 : decode cX11_read 30 = .ok (.aload_n 0, 1) := by decide +kernel
theorem dX11_read_31 : decode cX11_read 31 = .ok (.getfield 28, 3) := by decide +kernel
theorem dX11_read_34 : decode cX11_read 34 = .ok (.invokespecial 41, 3) := by decide +kernel
theorem dX11_read_37 : decode cX11_read 37 = .ok (.putfield 35, 3) := by decide +kernel
theorem dX11_read_40 : decode cX11_read 40 = .ok (.aload_n 0, 1) := by decide +kernel
theorem dX11_read_41 : decode cX11_read 41 = .ok (.getfield 44, 3) := by decide +kernel
theorem dX11_read_44 : decode cX11_read 44 = .ok (.ifnonnull 18, 3) := by decide +kernel
theorem dX11_read_47 : decode cX11_read 47 = .ok (.aload_n 0, 1) := by decide +kernel
theorem dX11_read_48 : decode cX11_read 48 = .ok (.new 48, 3) := by decide +kernel
theorem dX11_read_51 : decode cX11_read 51 = .ok (.dup, 1) := by decide +kernel
theorem dX11_read_52 : decode cX11_read 52 = .ok (.aload_n 0, 1) := by decide +kernel
theorem dX11_read_53 : decode cX11_read 53 = .ok (.getfield 28, 3) := by decide +kernel
theorem dX11_read_56 : decode cX11_read 56 = .ok (.invokespecial 50, 3) := by decide +kernel
theorem dX11_read_59 : decode cX11_read 59 = .ok (.putfield 44, 3) := by decide +kernel
theorem dX11_read_62 : decode cX11_read 62 = .ok (.aload_n 0, 1) := by decide +kernel
theorem dX11_read_63 : decode cX11_read 63 = .ok (.getfield 51, 3) := by decide +kernel
theorem dX11_read_66 : decode cX11_read 66 = .ok (.ifnonnull 14, 3) := by decide +kernel
theorem dX11_read_69 : decode cX11_read 69 = .ok (.aload_n 0, 1) := by decide +kernel
theorem dX11_read_70 : decode cX11_read 70 = .ok (.new 55, 3) := by decide +kernel
theorem dX11_read_73 : decode cX11_read 73 = .ok (.dup, 1) := by decide +kernel
theorem dX11_read_74 : decode cX11_read 74 = .ok (.invokespecial 57, 3) := by decide +kernel
theorem dX11_read_77 : decode cX11_read 77 = .ok (.putfield 51, 3) := by decide +kernel
theorem dX11_read_80 : decode cX11_read 80 = .ok (.aload_n 0, 1) := by decide +kernel
theorem dX11_read_81 : decode cX11_read 81 = .ok (.getfield 28, 3) := by decide +kernel
theorem dX11_read_84 : decode cX11_read 84 = .ok (.aload_n 0, 1) := by decide +kernel
theorem dX11_read_85 : decode cX11_read 85 = .ok (.getfield 9, 3) := by decide +kernel
theorem dX11_read_88 : decode cX11_read 88 = .ok (.aload_n 0, 1) := by decide +kernel
theorem dX11_read_89 : decode cX11_read 89 = .ok (.getfield 21, 3) := by decide +kernel
theorem dX11_read_92 : decode cX11_read 92 = .ok (.invokevirtual 58, 3) := by decide +kernel
theorem dX11_read_95 : decode cX11_read 95 = .ok (.aload_n 0, 1) := by decide +kernel
theorem dX11_read_96 : decode cX11_read 96 = .ok (.iconst 0, 1) := by decide +kernel
theorem dX11_read_97 : decode cX11_read 97 = .ok (.putfield 21, 3) := by decide +kernel
theorem dX11_read_100 : decode cX11_read 100 = .ok (.aload_n 0, 1) := by decide +kernel
theorem dX11_read_101 : decode cX11_read 101 = .ok (.getfield 35, 3) := by decide +kernel
theorem dX11_read_104 : decode cX11_read 104 = .ok (.aload_n 0, 1) := by decide +kernel
theorem dX11_read_105 : decode cX11_read 105 = .ok (.getfield 51, 3) := by decide +kernel
theorem dX11_read_108 : decode cX11_read 108 = .ok (.invokevirtual 62, 3) := by decide +kernel
theorem dX11_read_111 : decode cX11_read 111 = .ok (.ifCond .eq 14, 3) := by decide +kernel
theorem dX11_read_125 : decode cX11_read 125 = .ok (.aload_n 0, 1) := by decide +kernel
theorem dX11_read_126 : decode cX11_read 126 = .ok (.aload_n 0, 1) := by decide +kernel
theorem dX11_read_127 : decode cX11_read 127 = .ok (.getfield 28, 3) := by decide +kernel
theorem dX11_read_130 : decode cX11_read 130 = .ok (.invokevirtual 70, 3) := by decide +kernel
theorem dX11_read_133 : decode cX11_read 133 = .ok (.putfield 17, 3) := by decide +kernel
theorem dX11_read_136 : decode cX11_read 136 = .ok (.aload_n 0, 1) := by decide +kernel
theorem dX11_read_137 : decode cX11_read 137 = .ok (.getfield 28, 3) := by decide +kernel
theorem dX11_read_140 : decode cX11_read 140 = .ok (.invokevirtual 74, 3) := by decide +kernel
theorem dX11_read_143 : decode cX11_read 143 = .ok (.ifCond .ne 25, 3) := by decide +kernel
theorem dX11_read_168 : decode cX11_read 168 = .ok (.aload_n 0, 1) := by decide +kernel
theorem dX11_read_169 : decode cX11_read 169 = .ok (.getfield 28, 3) := by decide +kernel
theorem dX11_read_172 : decode cX11_read 172 = .ok (.invokevirtual 74, 3) := by decide +kernel
theorem dX11_read_175 : decode cX11_read 175 = .ok (.ireturn, 1) := by decide +kernel
theorem dX10_init_0 : decode cX10_init 0 = .ok (.aload_n 0, 1) := by decide +kernel
theorem dX10_init_1 : decode cX10_init 1 = .ok (.invokespecial 3, 3) := by decide +kernel
theorem dX10_init_4 : decode cX10_init 4 = .ok (.aload_n 0, 1) := by decide +kernel
theorem dX10_init_5 : decode cX10_init 5 = .ok (.new 9, 3) := by decide +kernel
theorem dX10_init_8 : decode cX10_init 8 = .ok (.dup, 1) := by decide +kernel
theorem dX10_init_9 : decode cX10_init 9 = .ok (.iconst 5, 1) := by decide +kernel
theorem dX10_init_10 : decode cX10_init 10 = .ok (.sipush 1201, 3) := by decide +kernel
theorem dX10_init_13 : decode cX10_init 13 = .ok (.invokespecial 11, 3) := by decide +kernel
theorem dX10_init_16 : decode cX10_init 16 = .ok (.putfield 14, 3) := by decide +kernel
theorem dX10_init_19 : decode cX10_init 19 = .ok (.aload_n 0, 1) := by decide +kernel
theorem dX10_init_20 : decode cX10_init 20 = .ok (.sipush 1201, 3) := by decide +kernel
theorem dX10_init_23 : decode cX10_init 23 = .ok (.newarray .long, 2) := by decide +kernel
theorem dX10_init_25 : decode cX10_init 25 = .ok (.putfield 20, 3) := by decide +kernel
theorem dX10_init_28 : decode cX10_init 28 = .ok (.aload_n 0, 1) := by decide +kernel
theorem dX10_init_29 : decode cX10_init 29 = .ok (.bipush 24, 2) := by decide +kernel
theorem dX10_init_31 : decode cX10_init 31 = .ok (.newarray .long, 2) := by decide +kernel
theorem dX10_init_33 : decode cX10_init 33 = .ok (.putfield 24, 3) := by decide +kernel
theorem dX10_init_36 : decode cX10_init 36 = .ok (.aload_n 0, 1) := by decide +kernel
theorem dX10_init_37 : decode cX10_init 37 = .ok (.iconst (-1), 1) := by decide +kernel
theorem dX10_init_38 : decode cX10_init 38 = .ok (.putfield 27, 3) := by decide +kernel
theorem dX10_init_41 : decode cX10_init 41 = .ok (.iconst 0, 1) := by decide +kernel
theorem dX10_init_42 : decode cX10_init 42 = .ok (.istore_n 1, 1) := by decide +kernel
theorem dX10_init_43 : decode cX10_init 43 = .ok (.lconst 0, 1) := by decide +kernel
theorem dX10_init_44 : decode cX10_init 44 = .ok (.lstore_n 2, 1) := by decide +kernel
theorem dX10_init_45 : decode cX10_init 45 = .ok (.iconst 0, 1) := by decide +kernel
theorem dX10_init_46 : decode cX10_init 46 = .ok (.istore 4, 2) := by decide +kernel
theorem dX10_init_48 : decode cX10_init 48 = .ok (.iload 4, 2) := by decide +kernel
theorem dX10_init_50 : decode cX10_init 50 = .ok (.ldc 31, 2) := by decide +kernel
theorem dX10_init_52 : decode cX10_init 52 = .ok (.invokevirtual 33, 3) := by decide +kernel
theorem dX10_init_55 : decode cX10_init 55 = .ok (.if_icmp .ge 64, 3) := by decide +kernel
theorem dX10_init_58 : decode cX10_init 58 = .ok (.ldc 31, 2) := by decide +kernel
theorem dX10_init_60 : decode cX10_init 60 = .ok (.iload 4, 2) := by decide +kernel
theorem dX10_init_62 : decode cX10_init 62 = .ok (.invokevirtual 39, 3) := by decide +kernel
theorem dX10_init_65 : decode cX10_init 65 = .ok (.istore 5, 2) := by decide +kernel
theorem dX10_init_67 : decode cX10_init 67 = .ok (.iload 5, 2) := by decide +kernel
theorem dX10_init_69 : decode cX10_init 69 = .ok (.bipush 32, 2) := by decide +kernel
theorem dX10_init_71 : decode cX10_init 71 = .ok (.if_icmp .eq 21, 3) := by decide +kernel
theorem dX10_init_74 : decode cX10_init 74 = .ok (.lload_n 2, 1) := by decide +kernel
theorem dX10_init_75 : decode cX10_init 75 = .ok (.ldc2_w 43, 3) := by decide +kernel
theorem dX10_init_78 : decode cX10_init 78 = .ok (.lmul, 1) := by decide +kernel
theorem dX10_init_79 : decode cX10_init 79 = .ok (.iload 5, 2) := by decide +kernel
theorem dX10_init_81 : decode cX10_init 81 = .ok (.bipush 97, 2) := by decide +kernel
theorem dX10_init_83 : decode cX10_init 83 = .ok (.isub, 1) := by decide +kernel
theorem dX10_init_84 : decode cX10_init 84 = .ok (.iconst 1, 1) := by decide +kernel
theorem dX10_init_85 : decode cX10_init 85 = .ok (.iadd, 1) := by decide +kernel
theorem dX10_init_86 : decode cX10_init 86 = .ok (.i2l, 1) := by decide +kernel
theorem dX10_init_87 : decode cX10_init 87 = .ok (.ladd, 1) := by decide +kernel
theorem dX10_init_88 : decode cX10_init 88 = .ok (.lstore_n 2, 1) := by decide +kernel
theorem dX10_init_89 : decode cX10_init 89 = .ok (.goto 24, 3) := by decide +kernel
theorem dX10_init_92 : decode cX10_init 92 = .ok (.iload_n 1, 1) := by decide +kernel
theorem dX10_init_93 : decode cX10_init 93 = .ok (.aload_n 0, 1) := by decide +kernel
theorem dX10_init_94 : decode cX10_init 94 = .ok (.getfield 24, 3) := by decide +kernel
theorem dX10_init_97 : decode cX10_init 97 = .ok (.arraylength, 1) := by decide +kernel
theorem dX10_init_98 : decode cX10_init 98 = .ok (.if_icmp .ge 15, 3) := by decide +kernel
theorem dX10_init_101 : decode cX10_init 101 = .ok (.aload_n 0, 1) := by decide +kernel
theorem dX10_init_102 : decode cX10_init 102 = .ok (.getfield 24, 3) := by decide +kernel
theorem dX10_init_105 : decode cX10_init 105 = .ok (.iload_n 1, 1) := by decide +kernel
theorem dX10_init_106 : decode cX10_init 106 = .ok (.lload_n 2, 1) := by decide +kernel
theorem dX10_init_107 : decode cX10_init 107 = .ok (.lastore, 1) := by decide +kernel
theorem dX10_init_108 : decode cX10_init 108 = .ok (.iinc 1 1, 3) := by decide +kernel
theorem dX10_init_111 : decode cX10_init 111 = .ok (.lconst 0, 1) := by decide +kernel
theorem dX10_init_112 : decode cX10_init 112 = .ok (.lstore_n 2, 1) := by decide +kernel
theorem dX10_init_113 : decode cX10_init 113 = .ok (.iinc 4 1, 3) := by decide +kernel
theorem dX10_init_116 : decode cX10_init 116 = .ok (.goto (-68), 3) := by decide +kernel
theorem dX10_init_119 : decode cX10_init 119 = .ok (.return_, 1) := by decide +kernel
theorem dX9_init_0 : decode cX9_init 0 = .ok (.aload_n 0, 1) := by decide +kernel
theorem dX9_init_1 : decode cX9_init 1 = .ok (.invokespecial 3, 3) := by decide +kernel
theorem dX9_init_4 : decode cX9_init 4 = .ok (.aload_n 0, 1) := by decide +kernel
theorem dX9_init_5 : decode cX9_init 5 = .ok (.iconst 1, 1) := by decide +kernel
theorem dX9_init_6 : decode cX9_init 6 = .ok (.iload_n 1, 1) := by decide +kernel
theorem dX9_init_7 : decode cX9_init 7 = .ok (.invokestatic 9, 3) := by decide +kernel
theorem dX9_init_10 : decode cX9_init 10 = .ok (.putfield 15, 3) := by decide +kernel
theorem dX9_init_13 : decode cX9_init 13 = .ok (.aload_n 0, 1) := by decide +kernel
theorem dX9_init_14 : decode cX9_init 14 = .ok (.iconst 0, 1) := by decide +kernel
theorem dX9_init_15 : decode cX9_init 15 = .ok (.iload_n 2, 1) := by decide +kernel
theorem dX9_init_16 : decode cX9_init 16 = .ok (.invokestatic 9, 3) := by decide +kernel
theorem dX9_init_19 : decode cX9_init 19 = .ok (.putfield 21, 3) := by decide +kernel
theorem dX9_init_22 : decode cX9_init 22 = .ok (.aload_n 0, 1) := by decide +kernel
theorem dX9_init_23 : decode cX9_init 23 = .ok (.aload_n 0, 1) := by decide +kernel
theorem dX9_init_24 : decode cX9_init 24 = .ok (.getfield 15, 3) := by decide +kernel
theorem dX9_init_27 : decode cX9_init 27 = .ok (.aload_n 0, 1) := by decide +kernel
theorem dX9_init_28 : decode cX9_init 28 = .ok (.getfield 21, 3) := by decide +kernel
theorem dX9_init_31 : decode cX9_init 31 = .ok (.imul, 1) := by decide +kernel
theorem dX9_init_32 : decode cX9_init 32 = .ok (.newarray .int, 2) := by decide +kernel
theorem dX9_init_34 : decode cX9_init 34 = .ok (.putfield 24, 3) := by decide +kernel
theorem dX9_init_37 : decode cX9_init 37 = .ok (.return_, 1) := by decide +kernel
theorem dJ9_max_7cf53_0 : decode cJ9_max_7cf53 0 = .ok (.iload_n 0, 1) := by decide +kernel
theorem dJ9_max_7cf53_1 : decode cJ9_max_7cf53 1 = .ok (.iload_n 1, 1) := by decide +kernel
theorem dJ9_max_7cf53_2 : decode cJ9_max_7cf53 2 = .ok (.if_icmp .lt 7, 3) := by decide +kernel
theorem dJ9_max_7cf53_9 : decode cJ9_max_7cf53 9 = .ok (.iload_n 1, 1) := by decide +kernel
theorem dJ9_max_7cf53_10 : decode cJ9_max_7cf53 10 = .ok (.ireturn, 1) := by decide +kernel
theorem dX6_init_0 : decode cX6_init 0 = .ok (.aload_n 0, 1) := by decide +kernel
theorem dX6_init_1 : decode cX6_init 1 = .ok (.invokespecial 3, 3) := by decide +kernel
theorem dX6_init_4 : decode cX6_init 4 = .ok (.aload_n 0, 1) := by decide +kernel
theorem dX6_init_5 : decode cX6_init 5 = .ok (.aload_n 1, 1) := by decide +kernel
theorem dX6_init_6 : decode cX6_init 6 = .ok (.putfield 9, 3) := by decide +kernel
theorem dX6_init_9 : decode cX6_init 9 = .ok (.aload_n 0, 1) := by decide +kernel
theorem dX6_init_10 : decode cX6_init 10 = .ok (.aload_n 1, 1) := by decide +kernel
theorem dX6_init_11 : decode cX6_init 11 = .ok (.getfield 15, 3) := by decide +kernel
theorem dX6_init_14 : decode cX6_init 14 = .ok (.putfield 21, 3) := by decide +kernel
theorem dX6_init_17 : decode cX6_init 17 = .ok (.return_, 1) := by decide +kernel
theorem dX2_init_0 : decode cX2_init 0 = .ok (.aload_n 0, 1) := by decide +kernel
theorem dX2_init_1 : decode cX2_init 1 = .ok (.invokespecial 3, 3) := by decide +kernel
theorem dX2_init_4 : decode cX2_init 4 = .ok (.aload_n 0, 1) := by decide +kernel
theorem dX2_init_5 : decode cX2_init 5 = .ok (.aload_n 1, 1) := by decide +kernel
theorem dX2_init_6 : decode cX2_init 6 = .ok (.putfield 9, 3) := by decide +kernel
theorem dX2_init_9 : decode cX2_init 9 = .ok (.aload_n 0, 1) := by decide +kernel
theorem dX2_init_10 : decode cX2_init 10 = .ok (.aload_n 1, 1) := by decide +kernel
theorem dX2_init_11 : decode cX2_init 11 = .ok (.getfield 15, 3) := by decide +kernel
theorem dX2_init_14 : decode cX2_init 14 = .ok (.putfield 21, 3) := by decide +kernel
theorem dX2_init_17 : decode cX2_init 17 = .ok (.return_, 1) := by decide +kernel
theorem dX7_init_0 : decode cX7_init 0 = .ok (.aload_n 0, 1) := by decide +kernel
theorem dX7_init_1 : decode cX7_init 1 = .ok (.invokespecial 3, 3) := by decide +kernel
theorem dX7_init_4 : decode cX7_init 4 = .ok (.aload_n 0, 1) := by decide +kernel
theorem dX7_init_5 : decode cX7_init 5 = .ok (.new 9, 3) := by decide +kernel
theorem dX7_init_8 : decode cX7_init 8 = .ok (.dup, 1) := by decide +kernel
theorem dX7_init_9 : decode cX7_init 9 = .ok (.bipush 12, 2) := by decide +kernel
theorem dX7_init_11 : decode cX7_init 11 = .ok (.bipush 30, 2) := by decide +kernel
theorem dX7_init_13 : decode cX7_init 13 = .ok (.invokespecial 11, 3) := by decide +kernel
theorem dX7_init_16 : decode cX7_init 16 = .ok (.putfield 14, 3) := by decide +kernel
theorem dX7_init_19 : decode cX7_init 19 = .ok (.aload_n 0, 1) := by decide +kernel
theorem dX7_init_20 : decode cX7_init 20 = .ok (.new 9, 3) := by decide +kernel
theorem dX7_init_23 : decode cX7_init 23 = .ok (.dup, 1) := by decide +kernel
theorem dX7_init_24 : decode cX7_init 24 = .ok (.bipush 6, 2) := by decide +kernel
theorem dX7_init_26 : decode cX7_init 26 = .ok (.sipush 1000, 3) := by decide +kernel
theorem dX7_init_29 : decode cX7_init 29 = .ok (.invokespecial 11, 3) := by decide +kernel
theorem dX7_init_32 : decode cX7_init 32 = .ok (.putfield 20, 3) := by decide +kernel
theorem dX7_init_35 : decode cX7_init 35 = .ok (.aload_n 0, 1) := by decide +kernel
theorem dX7_init_36 : decode cX7_init 36 = .ok (.new 9, 3) := by decide +kernel
theorem dX7_init_39 : decode cX7_init 39 = .ok (.dup, 1) := by decide +kernel
theorem dX7_init_40 : decode cX7_init 40 = .ok (.iconst 4, 1) := by decide +kernel
theorem dX7_init_41 : decode cX7_init 41 = .ok (.sipush 150, 3) := by decide +kernel
theorem dX7_init_44 : decode cX7_init 44 = .ok (.invokespecial 11, 3) := by decide +kernel
theorem dX7_init_47 : decode cX7_init 47 = .ok (.putfield 23, 3) := by decide +kernel
theorem dX7_init_50 : decode cX7_init 50 = .ok (.aload_n 0, 1) := by decide +kernel
theorem dX7_init_51 : decode cX7_init 51 = .ok (.new 9, 3) := by decide +kernel
theorem dX7_init_54 : decode cX7_init 54 = .ok (.dup, 1) := by decide +kernel
theorem dX7_init_55 : decode cX7_init 55 = .ok (.iconst 4, 1) := by decide +kernel
theorem dX7_init_56 : decode cX7_init 56 = .ok (.sipush 400, 3) := by decide +kernel
theorem dX7_init_59 : decode cX7_init 59 = .ok (.invokespecial 11, 3) := by decide +kernel
theorem dX7_init_62 : decode cX7_init 62 = .ok (.putfield 26, 3) := by decide +kernel
theorem dX7_init_65 : decode cX7_init 65 = .ok (.aload_n 0, 1) := by decide +kernel
theorem dX7_init_66 : decode cX7_init 66 = .ok (.new 9, 3) := by decide +kernel
theorem dX7_init_69 : decode cX7_init 69 = .ok (.dup, 1) := by decide +kernel
theorem dX7_init_70 : decode cX7_init 70 = .ok (.bipush 6, 2) := by decide +kernel
theorem dX7_init_72 : decode cX7_init 72 = .ok (.sipush 500, 3) := by decide +kernel
theorem dX7_init_75 : decode cX7_init 75 = .ok (.invokespecial 11, 3) := by decide +kernel
theorem dX7_init_78 : decode cX7_init 78 = .ok (.putfield 29, 3) := by decide +kernel
theorem dX7_init_81 : decode cX7_init 81 = .ok (.aload_n 0, 1) := by decide +kernel
theorem dX7_init_82 : decode cX7_init 82 = .ok (.new 32, 3) := by decide +kernel
theorem dX7_init_85 : decode cX7_init 85 = .ok (.dup, 1) := by decide +kernel
theorem dX7_init_86 : decode cX7_init 86 = .ok (.invokespecial 34, 3) := by decide +kernel
theorem dX7_init_89 : decode cX7_init 89 = .ok (.putfield 35, 3) := by decide +kernel
theorem dX7_init_92 : decode cX7_init 92 = .ok (.aload_n 0, 1) := by decide +kernel
theorem dX7_init_93 : decode cX7_init 93 = .ok (.new 39, 3) := by decide +kernel
theorem dX7_init_96 : decode cX7_init 96 = .ok (.dup, 1) := by decide +kernel
theorem dX7_init_97 : decode cX7_init 97 = .ok (.invokespecial 41, 3) := by decide +kernel
theorem dX7_init_100 : decode cX7_init 100 = .ok (.putfield 42, 3) := by decide +kernel
theorem dX7_init_103 : decode cX7_init 103 = .ok (.return_, 1) := by decide +kernel
theorem dX1_init_0 : decode cX1_init 0 = .ok (.aload_n 0, 1) := by decide +kernel
theorem dX1_init_1 : decode cX1_init 1 = .ok (.invokespecial 3, 3) := by decide +kernel
theorem dX1_init_4 : decode cX1_init 4 = .ok (.aload_n 0, 1) := by decide +kernel
theorem dX1_init_5 : decode cX1_init 5 = .ok (.bipush 30, 2) := by decide +kernel
theorem dX1_init_7 : decode cX1_init 7 = .ok (.newarray .int, 2) := by decide +kernel
theorem dX1_init_9 : decode cX1_init 9 = .ok (.putfield 9, 3) := by decide +kernel
theorem dX1_init_12 : decode cX1_init 12 = .ok (.aload_n 0, 1) := by decide +kernel
theorem dX1_init_13 : decode cX1_init 13 = .ok (.bipush 30, 2) := by decide +kernel
theorem dX1_init_15 : decode cX1_init 15 = .ok (.newarray .int, 2) := by decide +kernel
theorem dX1_init_17 : decode cX1_init 17 = .ok (.putfield 15, 3) := by decide +kernel
theorem dX1_init_20 : decode cX1_init 20 = .ok (.aload_n 0, 1) := by decide +kernel
theorem dX1_init_21 : decode cX1_init 21 = .ok (.bipush 30, 2) := by decide +kernel
theorem dX1_init_23 : decode cX1_init 23 = .ok (.newarray .int, 2) := by decide +kernel
theorem dX1_init_25 : decode cX1_init 25 = .ok (.putfield 18, 3) := by decide +kernel
theorem dX1_init_28 : decode cX1_init 28 = .ok (.aload_n 0, 1) := by decide +kernel
theorem dX1_init_29 : decode cX1_init 29 = .ok (.bipush 30, 2) := by decide +kernel
theorem dX1_init_31 : decode cX1_init 31 = .ok (.newarray .int, 2) := by decide +kernel
theorem dX1_init_33 : decode cX1_init 33 = .ok (.putfield 21, 3) := by decide +kernel
theorem dX1_init_36 : decode cX1_init 36 = .ok (.aload_n 0, 1) := by decide +kernel
theorem dX1_init_37 : decode cX1_init 37 = .ok (.bipush 30, 2) := by decide +kernel
theorem dX1_init_39 : decode cX1_init 39 = .ok (.newarray .int, 2) := by decide +kernel
theorem dX1_init_41 : decode cX1_init 41 = .ok (.putfield 24, 3) := by decide +kernel
theorem dX1_init_44 : decode cX1_init 44 = .ok (.aload_n 0, 1) := by decide +kernel
theorem dX1_init_45 : decode cX1_init 45 = .ok (.bipush 30, 2) := by decide +kernel
theorem dX1_init_47 : decode cX1_init 47 = .ok (.newarray .int, 2) := by decide +kernel
theorem dX1_init_49 : decode cX1_init 49 = .ok (.putfield 27, 3) := by decide +kernel
theorem dX1_init_52 : decode cX1_init 52 = .ok (.return_, 1) := by decide +kernel
theorem dX3_init_0 : decode cX3_init 0 = .ok (.aload_n 0, 1) := by decide +kernel
theorem dX3_init_1 : decode cX3_init 1 = .ok (.invokespecial 3, 3) := by decide +kernel
theorem dX3_init_4 : decode cX3_init 4 = .ok (.aload_n 0, 1) := by decide +kernel
theorem dX3_init_5 : decode cX3_init 5 = .ok (.sipush 500, 3) := by decide +kernel
theorem dX3_init_8 : decode cX3_init 8 = .ok (.newarray .int, 2) := by decide +kernel
theorem dX3_init_10 : decode cX3_init 10 = .ok (.putfield 9, 3) := by decide +kernel
theorem dX3_init_13 : decode cX3_init 13 = .ok (.aload_n 0, 1) := by decide +kernel
theorem dX3_init_14 : decode cX3_init 14 = .ok (.sipush 500, 3) := by decide +kernel
theorem dX3_init_17 : decode cX3_init 17 = .ok (.newarray .int, 2) := by decide +kernel
theorem dX3_init_19 : decode cX3_init 19 = .ok (.putfield 15, 3) := by decide +kernel
theorem dX3_init_22 : decode cX3_init 22 = .ok (.aload_n 0, 1) := by decide +kernel
theorem dX3_init_23 : decode cX3_init 23 = .ok (.sipush 8240, 3) := by decide +kernel
theorem dX3_init_26 : decode cX3_init 26 = .ok (.newarray .long, 2) := by decide +kernel
theorem dX3_init_28 : decode cX3_init 28 = .ok (.putfield 18, 3) := by decide +kernel
theorem dX3_init_31 : decode cX3_init 31 = .ok (.aload_n 0, 1) := by decide +kernel
theorem dX3_init_32 : decode cX3_init 32 = .ok (.sipush 1030, 3) := by decide +kernel
theorem dX3_init_35 : decode cX3_init 35 = .ok (.newarray .int, 2) := by decide +kernel
theorem dX3_init_37 : decode cX3_init 37 = .ok (.putfield 22, 3) := by decide +kernel
theorem dX3_init_40 : decode cX3_init 40 = .ok (.aload_n 0, 1) := by decide +kernel
theorem dX3_init_41 : decode cX3_init 41 = .ok (.bipush 8, 2) := by decide +kernel
theorem dX3_init_43 : decode cX3_init 43 = .ok (.newarray .long, 2) := by decide +kernel
theorem dX3_init_45 : decode cX3_init 45 = .ok (.putfield 25, 3) := by decide +kernel
theorem dX3_init_48 : decode cX3_init 48 = .ok (.aload_n 0, 1) := by decide +kernel
theorem dX3_init_49 : decode cX3_init 49 = .ok (.bipush 8, 2) := by decide +kernel
theorem dX3_init_51 : decode cX3_init 51 = .ok (.newarray .long, 2) := by decide +kernel
theorem dX3_init_53 : decode cX3_init 53 = .ok (.putfield 28, 3) := by decide +kernel
theorem dX3_init_56 : decode cX3_init 56 = .ok (.return_, 1) := by decide +kernel
theorem dX10_scan_0 : decode cX10_scan 0 = .ok (.aload_n 0, 1) := by decide +kernel
theorem dX10_scan_1 : decode cX10_scan 1 = .ok (.aload_n 1, 1) := by decide +kernel
theorem dX10_scan_2 : decode cX10_scan 2 = .ok (.putfield 52, 3) := by decide +kernel
theorem dX10_scan_5 : decode cX10_scan 5 = .ok (.aload_n 0, 1) := by decide +kernel
theorem dX10_scan_6 : decode cX10_scan 6 = .ok (.iload_n 2, 1) := by decide +kernel
theorem dX10_scan_7 : decode cX10_scan 7 = .ok (.putfield 56, 3) := by decide +kernel
theorem dX10_scan_10 : decode cX10_scan 10 = .ok (.aload_n 0, 1) := by decide +kernel
theorem dX10_scan_11 : decode cX10_scan 11 = .ok (.iconst 0, 1) := by decide +kernel
theorem dX10_scan_12 : decode cX10_scan 12 = .ok (.putfield 45, 3) := by decide +kernel
theorem dX10_scan_15 : decode cX10_scan 15 = .ok (.aload_n 0, 1) := by decide +kernel
theorem dX10_scan_16 : decode cX10_scan 16 = .ok (.getfield 14, 3) := by decide +kernel
theorem dX10_scan_19 : decode cX10_scan 19 = .ok (.invokevirtual 58, 3) := by decide +kernel
theorem dX10_scan_22 : decode cX10_scan 22 = .ok (.iconst 0, 1) := by decide +kernel
theorem dX10_scan_23 : decode cX10_scan 23 = .ok (.istore_n 3, 1) := by decide +kernel
theorem dX10_scan_24 : decode cX10_scan 24 = .ok (.iconst 1, 1) := by decide +kernel
theorem dX10_scan_25 : decode cX10_scan 25 = .ok (.istore 4, 2) := by decide +kernel
theorem dX10_scan_27 : decode cX10_scan 27 = .ok (.iconst 0, 1) := by decide +kernel
end
section
theorem dX10_scan_28 : decode cX10_scan 28 = .ok (.istore 5, 2) := by decide +kernel
theorem dX10_scan_30 : decode cX10_scan 30 = .ok (.iload 5, 2) := by decide +kernel
theorem dX10_scan_32 : decode cX10_scan 32 = .ok (.sipush 1200, 3) := by decide +kernel
theorem dX10_scan_35 : decode cX10_scan 35 = .ok (.if_icmp .gt 59, 3) := by decide +kernel
theorem dX10_scan_38 : decode cX10_scan 38 = .ok (.iload 4, 2) := by decide +kernel
theorem dX10_scan_40 : decode cX10_scan 40 = .ok (.ifCond .eq 54, 3) := by decide +kernel
theorem dX10_scan_43 : decode cX10_scan 43 = .ok (.aload_n 0, 1) := by decide +kernel
theorem dX10_scan_44 : decode cX10_scan 44 = .ok (.iload_n 3, 1) := by decide +kernel
theorem dX10_scan_45 : decode cX10_scan 45 = .ok (.invokevirtual 61, 3) := by decide +kernel
theorem dX10_scan_48 : decode cX10_scan 48 = .ok (.istore_n 3, 1) := by decide +kernel
theorem dX10_scan_49 : decode cX10_scan 49 = .ok (.aload_n 0, 1) := by decide +kernel
theorem dX10_scan_50 : decode cX10_scan 50 = .ok (.iload_n 3, 1) := by decide +kernel
theorem dX10_scan_51 : decode cX10_scan 51 = .ok (.invokevirtual 65, 3) := by decide +kernel
theorem dX10_scan_54 : decode cX10_scan 54 = .ok (.istore_n 3, 1) := by decide +kernel
theorem dX10_scan_55 : decode cX10_scan 55 = .ok (.aload_n 0, 1) := by decide +kernel
theorem dX10_scan_56 : decode cX10_scan 56 = .ok (.getfield 14, 3) := by decide +kernel
theorem dX10_scan_59 : decode cX10_scan 59 = .ok (.iload 5, 2) := by decide +kernel
theorem dX10_scan_61 : decode cX10_scan 61 = .ok (.iconst 0, 1) := by decide +kernel
theorem dX10_scan_62 : decode cX10_scan 62 = .ok (.invokevirtual 48, 3) := by decide +kernel
theorem dX10_scan_65 : decode cX10_scan 65 = .ok (.istore 6, 2) := by decide +kernel
theorem dX10_scan_67 : decode cX10_scan 67 = .ok (.iload 6, 2) := by decide +kernel
theorem dX10_scan_69 : decode cX10_scan 69 = .ok (.bipush 37, 2) := by decide +kernel
theorem dX10_scan_71 : decode cX10_scan 71 = .ok (.if_icmp .eq 14, 3) := by decide +kernel
theorem dX10_scan_85 : decode cX10_scan 85 = .ok (.iconst 0, 1) := by decide +kernel
theorem dX10_scan_86 : decode cX10_scan 86 = .ok (.istore 4, 2) := by decide +kernel
theorem dX10_scan_88 : decode cX10_scan 88 = .ok (.iinc 5 1, 3) := by decide +kernel
theorem dX10_scan_91 : decode cX10_scan 91 = .ok (.goto (-61), 3) := by decide +kernel
theorem dX10_scan_94 : decode cX10_scan 94 = .ok (.return_, 1) := by decide +kernel
theorem dX9_cut_0 : decode cX9_cut 0 = .ok (.aload_n 0, 1) := by decide +kernel
theorem dX9_cut_1 : decode cX9_cut 1 = .ok (.iconst 0, 1) := by decide +kernel
theorem dX9_cut_2 : decode cX9_cut 2 = .ok (.putfield 28, 3) := by decide +kernel
theorem dX9_cut_5 : decode cX9_cut 5 = .ok (.return_, 1) := by decide +kernel
theorem dX10_skipBlanks_0 : decode cX10_skipBlanks 0 = .ok (.iload_n 1, 1) := by decide +kernel
theorem dX10_skipBlanks_1 : decode cX10_skipBlanks 1 = .ok (.istore_n 2, 1) := by decide +kernel
theorem dX10_skipBlanks_2 : decode cX10_skipBlanks 2 = .ok (.iload_n 2, 1) := by decide +kernel
theorem dX10_skipBlanks_3 : decode cX10_skipBlanks 3 = .ok (.aload_n 0, 1) := by decide +kernel
theorem dX10_skipBlanks_4 : decode cX10_skipBlanks 4 = .ok (.getfield 56, 3) := by decide +kernel
theorem dX10_skipBlanks_7 : decode cX10_skipBlanks 7 = .ok (.if_icmp .ge 20, 3) := by decide +kernel
theorem dX10_skipBlanks_27 : decode cX10_skipBlanks 27 = .ok (.iload_n 2, 1) := by decide +kernel
theorem dX10_skipBlanks_28 : decode cX10_skipBlanks 28 = .ok (.ireturn, 1) := by decide +kernel
theorem dX10_scanToken_0 : decode cX10_scanToken 0 = .ok (.aload_n 0, 1) := by decide +kernel
theorem dX10_scanToken_1 : decode cX10_scanToken 1 = .ok (.iload_n 1, 1) := by decide +kernel
theorem dX10_scanToken_2 : decode cX10_scanToken 2 = .ok (.invokevirtual 68, 3) := by decide +kernel
theorem dX10_scanToken_5 : decode cX10_scanToken 5 = .ok (.istore_n 2, 1) := by decide +kernel
theorem dX10_scanToken_6 : decode cX10_scanToken 6 = .ok (.iload_n 2, 1) := by decide +kernel
theorem dX10_scanToken_7 : decode cX10_scanToken 7 = .ok (.invokestatic 75, 3) := by decide +kernel
theorem dX10_scanToken_10 : decode cX10_scanToken 10 = .ok (.ifCond .eq 9, 3) := by decide +kernel
theorem dX10_scanToken_19 : decode cX10_scanToken 19 = .ok (.iload_n 2, 1) := by decide +kernel
theorem dX10_scanToken_20 : decode cX10_scanToken 20 = .ok (.invokestatic 81, 3) := by decide +kernel
theorem dX10_scanToken_23 : decode cX10_scanToken 23 = .ok (.ifCond .ne 9, 3) := by decide +kernel
theorem dX10_scanToken_26 : decode cX10_scanToken 26 = .ok (.iload_n 2, 1) := by decide +kernel
theorem dX10_scanToken_27 : decode cX10_scanToken 27 = .ok (.bipush 45, 2) := by decide +kernel
theorem dX10_scanToken_29 : decode cX10_scanToken 29 = .ok (.if_icmp .ne 9, 3) := by decide +kernel
theorem dX10_scanToken_38 : decode cX10_scanToken 38 = .ok (.aload_n 0, 1) := by decide +kernel
theorem dX10_scanToken_39 : decode cX10_scanToken 39 = .ok (.iload_n 2, 1) := by decide +kernel
theorem dX10_scanToken_40 : decode cX10_scanToken 40 = .ok (.iconst (-1), 1) := by decide +kernel
theorem dX10_scanToken_41 : decode cX10_scanToken 41 = .ok (.if_icmp .ne 8, 3) := by decide +kernel
theorem dX10_scanToken_44 : decode cX10_scanToken 44 = .ok (.bipush 37, 2) := by decide +kernel
theorem dX10_scanToken_46 : decode cX10_scanToken 46 = .ok (.goto 7, 3) := by decide +kernel
theorem dX10_scanToken_53 : decode cX10_scanToken 53 = .ok (.iload_n 1, 1) := by decide +kernel
theorem dX10_scanToken_54 : decode cX10_scanToken 54 = .ok (.iconst 0, 1) := by decide +kernel
theorem dX10_scanToken_55 : decode cX10_scanToken 55 = .ok (.lconst 0, 1) := by decide +kernel
theorem dX10_scanToken_56 : decode cX10_scanToken 56 = .ok (.invokevirtual 90, 3) := by decide +kernel
theorem dX10_scanToken_59 : decode cX10_scanToken 59 = .ok (.iload_n 1, 1) := by decide +kernel
theorem dX10_scanToken_60 : decode cX10_scanToken 60 = .ok (.iconst 1, 1) := by decide +kernel
theorem dX10_scanToken_61 : decode cX10_scanToken 61 = .ok (.iadd, 1) := by decide +kernel
theorem dX10_scanToken_62 : decode cX10_scanToken 62 = .ok (.ireturn, 1) := by decide +kernel
theorem dX10_byteAt_0 : decode cX10_byteAt 0 = .ok (.aload_n 0, 1) := by decide +kernel
theorem dX10_byteAt_1 : decode cX10_byteAt 1 = .ok (.getfield 52, 3) := by decide +kernel
theorem dX10_byteAt_4 : decode cX10_byteAt 4 = .ok (.ifnull 24, 3) := by decide +kernel
theorem dX10_byteAt_7 : decode cX10_byteAt 7 = .ok (.iload_n 1, 1) := by decide +kernel
theorem dX10_byteAt_8 : decode cX10_byteAt 8 = .ok (.ifCond .lt 20, 3) := by decide +kernel
theorem dX10_byteAt_11 : decode cX10_byteAt 11 = .ok (.iload_n 1, 1) := by decide +kernel
theorem dX10_byteAt_12 : decode cX10_byteAt 12 = .ok (.aload_n 0, 1) := by decide +kernel
theorem dX10_byteAt_13 : decode cX10_byteAt 13 = .ok (.getfield 56, 3) := by decide +kernel
theorem dX10_byteAt_16 : decode cX10_byteAt 16 = .ok (.if_icmp .ge 12, 3) := by decide +kernel
theorem dX10_byteAt_28 : decode cX10_byteAt 28 = .ok (.iconst (-1), 1) := by decide +kernel
theorem dX10_byteAt_29 : decode cX10_byteAt 29 = .ok (.ireturn, 1) := by decide +kernel
theorem dX10_isLetter_0 : decode cX10_isLetter 0 = .ok (.iload_n 0, 1) := by decide +kernel
theorem dX10_isLetter_1 : decode cX10_isLetter 1 = .ok (.bipush 97, 2) := by decide +kernel
theorem dX10_isLetter_3 : decode cX10_isLetter 3 = .ok (.if_icmp .lt 13, 3) := by decide +kernel
theorem dX10_isLetter_16 : decode cX10_isLetter 16 = .ok (.iconst 0, 1) := by decide +kernel
theorem dX10_isLetter_17 : decode cX10_isLetter 17 = .ok (.ireturn, 1) := by decide +kernel
theorem dX10_isDigit_0 : decode cX10_isDigit 0 = .ok (.iload_n 0, 1) := by decide +kernel
theorem dX10_isDigit_1 : decode cX10_isDigit 1 = .ok (.bipush 48, 2) := by decide +kernel
theorem dX10_isDigit_3 : decode cX10_isDigit 3 = .ok (.if_icmp .lt 13, 3) := by decide +kernel
theorem dX10_isDigit_16 : decode cX10_isDigit 16 = .ok (.iconst 0, 1) := by decide +kernel
theorem dX10_isDigit_17 : decode cX10_isDigit 17 = .ok (.ireturn, 1) := by decide +kernel
theorem dX10_keep_0 : decode cX10_keep 0 = .ok (.aload_n 0, 1) := by decide +kernel
theorem dX10_keep_1 : decode cX10_keep 1 = .ok (.getfield 14, 3) := by decide +kernel
theorem dX10_keep_4 : decode cX10_keep 4 = .ok (.invokevirtual 94, 3) := by decide +kernel
theorem dX10_keep_7 : decode cX10_keep 7 = .ok (.istore 6, 2) := by decide +kernel
theorem dX10_keep_9 : decode cX10_keep 9 = .ok (.iload 6, 2) := by decide +kernel
theorem dX10_keep_11 : decode cX10_keep 11 = .ok (.ifCond .lt 55, 3) := by decide +kernel
theorem dX10_keep_14 : decode cX10_keep 14 = .ok (.iload 6, 2) := by decide +kernel
theorem dX10_keep_16 : decode cX10_keep 16 = .ok (.aload_n 0, 1) := by decide +kernel
theorem dX10_keep_17 : decode cX10_keep 17 = .ok (.getfield 20, 3) := by decide +kernel
theorem dX10_keep_20 : decode cX10_keep 20 = .ok (.arraylength, 1) := by decide +kernel
theorem dX10_keep_21 : decode cX10_keep 21 = .ok (.if_icmp .ge 45, 3) := by decide +kernel
theorem dX10_keep_24 : decode cX10_keep 24 = .ok (.aload_n 0, 1) := by decide +kernel
theorem dX10_keep_25 : decode cX10_keep 25 = .ok (.getfield 14, 3) := by decide +kernel
theorem dX10_keep_28 : decode cX10_keep 28 = .ok (.iload 6, 2) := by decide +kernel
theorem dX10_keep_30 : decode cX10_keep 30 = .ok (.iconst 0, 1) := by decide +kernel
theorem dX10_keep_31 : decode cX10_keep 31 = .ok (.iload_n 1, 1) := by decide +kernel
theorem dX10_keep_32 : decode cX10_keep 32 = .ok (.invokevirtual 97, 3) := by decide +kernel
theorem dX10_keep_35 : decode cX10_keep 35 = .ok (.aload_n 0, 1) := by decide +kernel
theorem dX10_keep_36 : decode cX10_keep 36 = .ok (.getfield 14, 3) := by decide +kernel
theorem dX10_keep_39 : decode cX10_keep 39 = .ok (.iload 6, 2) := by decide +kernel
theorem dX10_keep_41 : decode cX10_keep 41 = .ok (.iconst 1, 1) := by decide +kernel
theorem dX10_keep_42 : decode cX10_keep 42 = .ok (.iload_n 2, 1) := by decide +kernel
theorem dX10_keep_43 : decode cX10_keep 43 = .ok (.invokevirtual 97, 3) := by decide +kernel
theorem dX10_keep_46 : decode cX10_keep 46 = .ok (.aload_n 0, 1) := by decide +kernel
theorem dX10_keep_47 : decode cX10_keep 47 = .ok (.getfield 14, 3) := by decide +kernel
theorem dX10_keep_50 : decode cX10_keep 50 = .ok (.iload 6, 2) := by decide +kernel
theorem dX10_keep_52 : decode cX10_keep 52 = .ok (.iconst 2, 1) := by decide +kernel
theorem dX10_keep_53 : decode cX10_keep 53 = .ok (.iload_n 3, 1) := by decide +kernel
theorem dX10_keep_54 : decode cX10_keep 54 = .ok (.invokevirtual 97, 3) := by decide +kernel
theorem dX10_keep_57 : decode cX10_keep 57 = .ok (.aload_n 0, 1) := by decide +kernel
theorem dX10_keep_58 : decode cX10_keep 58 = .ok (.getfield 20, 3) := by decide +kernel
theorem dX10_keep_61 : decode cX10_keep 61 = .ok (.iload 6, 2) := by decide +kernel
theorem dX10_keep_63 : decode cX10_keep 63 = .ok (.lload 4, 2) := by decide +kernel
theorem dX10_keep_65 : decode cX10_keep 65 = .ok (.lastore, 1) := by decide +kernel
theorem dX10_keep_66 : decode cX10_keep 66 = .ok (.return_, 1) := by decide +kernel
theorem dX9_add_0 : decode cX9_add 0 = .ok (.aload_n 0, 1) := by decide +kernel
theorem dX9_add_1 : decode cX9_add 1 = .ok (.getfield 28, 3) := by decide +kernel
theorem dX9_add_4 : decode cX9_add 4 = .ok (.aload_n 0, 1) := by decide +kernel
theorem dX9_add_5 : decode cX9_add 5 = .ok (.getfield 21, 3) := by decide +kernel
theorem dX9_add_8 : decode cX9_add 8 = .ok (.if_icmp .lt 5, 3) := by decide +kernel
theorem dX9_add_13 : decode cX9_add 13 = .ok (.aload_n 0, 1) := by decide +kernel
theorem dX9_add_14 : decode cX9_add 14 = .ok (.getfield 24, 3) := by decide +kernel
theorem dX9_add_17 : decode cX9_add 17 = .ok (.aload_n 0, 1) := by decide +kernel
theorem dX9_add_18 : decode cX9_add 18 = .ok (.getfield 28, 3) := by decide +kernel
theorem dX9_add_21 : decode cX9_add 21 = .ok (.aload_n 0, 1) := by decide +kernel
theorem dX9_add_22 : decode cX9_add 22 = .ok (.getfield 15, 3) := by decide +kernel
theorem dX9_add_25 : decode cX9_add 25 = .ok (.imul, 1) := by decide +kernel
theorem dX9_add_26 : decode cX9_add 26 = .ok (.aload_n 0, 1) := by decide +kernel
theorem dX9_add_27 : decode cX9_add 27 = .ok (.getfield 28, 3) := by decide +kernel
theorem dX9_add_30 : decode cX9_add 30 = .ok (.iconst 1, 1) := by decide +kernel
theorem dX9_add_31 : decode cX9_add 31 = .ok (.iadd, 1) := by decide +kernel
theorem dX9_add_32 : decode cX9_add 32 = .ok (.aload_n 0, 1) := by decide +kernel
theorem dX9_add_33 : decode cX9_add 33 = .ok (.getfield 15, 3) := by decide +kernel
theorem dX9_add_36 : decode cX9_add 36 = .ok (.imul, 1) := by decide +kernel
theorem dX9_add_37 : decode cX9_add 37 = .ok (.iconst (-1), 1) := by decide +kernel
theorem dX9_add_38 : decode cX9_add 38 = .ok (.invokestatic 31, 3) := by decide +kernel
theorem dX9_add_41 : decode cX9_add 41 = .ok (.aload_n 0, 1) := by decide +kernel
theorem dX9_add_42 : decode cX9_add 42 = .ok (.dup, 1) := by decide +kernel
theorem dX9_add_43 : decode cX9_add 43 = .ok (.getfield 28, 3) := by decide +kernel
theorem dX9_add_46 : decode cX9_add 46 = .ok (.iconst 1, 1) := by decide +kernel
theorem dX9_add_47 : decode cX9_add 47 = .ok (.iadd, 1) := by decide +kernel
theorem dX9_add_48 : decode cX9_add 48 = .ok (.putfield 28, 3) := by decide +kernel
theorem dX9_add_51 : decode cX9_add 51 = .ok (.aload_n 0, 1) := by decide +kernel
theorem dX9_add_52 : decode cX9_add 52 = .ok (.getfield 28, 3) := by decide +kernel
theorem dX9_add_55 : decode cX9_add 55 = .ok (.iconst 1, 1) := by decide +kernel
theorem dX9_add_56 : decode cX9_add 56 = .ok (.isub, 1) := by decide +kernel
theorem dX9_add_57 : decode cX9_add 57 = .ok (.ireturn, 1) := by decide +kernel
theorem dJ7_fill_fda19_0 : decode cJ7_fill_fda19 0 = .ok (.aload_n 0, 1) := by decide +kernel
theorem dJ7_fill_fda19_1 : decode cJ7_fill_fda19 1 = .ok (.arraylength, 1) := by decide +kernel
theorem dJ7_fill_fda19_2 : decode cJ7_fill_fda19 2 = .ok (.iload_n 1, 1) := by decide +kernel
theorem dJ7_fill_fda19_3 : decode cJ7_fill_fda19 3 = .ok (.iload_n 2, 1) := by decide +kernel
theorem dJ7_fill_fda19_4 : decode cJ7_fill_fda19 4 = .ok (.invokestatic 13, 3) := by decide +kernel
theorem dJ7_fill_fda19_7 : decode cJ7_fill_fda19 7 = .ok (.iload_n 1, 1) := by decide +kernel
theorem dJ7_fill_fda19_8 : decode cJ7_fill_fda19 8 = .ok (.istore 4, 2) := by decide +kernel
theorem dJ7_fill_fda19_10 : decode cJ7_fill_fda19 10 = .ok (.iload 4, 2) := by decide +kernel
theorem dJ7_fill_fda19_12 : decode cJ7_fill_fda19 12 = .ok (.iload_n 2, 1) := by decide +kernel
theorem dJ7_fill_fda19_13 : decode cJ7_fill_fda19 13 = .ok (.if_icmp .ge 14, 3) := by decide +kernel
theorem dJ7_fill_fda19_16 : decode cJ7_fill_fda19 16 = .ok (.aload_n 0, 1) := by decide +kernel
theorem dJ7_fill_fda19_17 : decode cJ7_fill_fda19 17 = .ok (.iload 4, 2) := by decide +kernel
theorem dJ7_fill_fda19_19 : decode cJ7_fill_fda19 19 = .ok (.iload_n 3, 1) := by decide +kernel
theorem dJ7_fill_fda19_20 : decode cJ7_fill_fda19 20 = .ok (.iastore, 1) := by decide +kernel
theorem dJ7_fill_fda19_21 : decode cJ7_fill_fda19 21 = .ok (.iinc 4 1, 3) := by decide +kernel
theorem dJ7_fill_fda19_24 : decode cJ7_fill_fda19 24 = .ok (.goto (-14), 3) := by decide +kernel
theorem dJ7_fill_fda19_27 : decode cJ7_fill_fda19 27 = .ok (.return_, 1) := by decide +kernel
theorem dJ7_rangeCheck_23922_0 : decode cJ7_rangeCheck_23922 0 = .ok (.iload_n 1, 1) := by decide +kernel
theorem dJ7_rangeCheck_23922_1 : decode cJ7_rangeCheck_23922 1 = .ok (.iload_n 2, 1) := by decide +kernel
theorem dJ7_rangeCheck_23922_2 : decode cJ7_rangeCheck_23922 2 = .ok (.if_icmp .le 44, 3) := by decide +kernel
theorem dJ7_rangeCheck_23922_46 : decode cJ7_rangeCheck_23922 46 = .ok (.iload_n 1, 1) := by decide +kernel
theorem dJ7_rangeCheck_23922_47 : decode cJ7_rangeCheck_23922 47 = .ok (.ifCond .ge 12, 3) := by decide +kernel
theorem dJ7_rangeCheck_23922_59 : decode cJ7_rangeCheck_23922 59 = .ok (.iload_n 2, 1) := by decide +kernel
theorem dJ7_rangeCheck_23922_60 : decode cJ7_rangeCheck_23922 60 = .ok (.iload_n 0, 1) := by decide +kernel
theorem dJ7_rangeCheck_23922_61 : decode cJ7_rangeCheck_23922 61 = .ok (.if_icmp .le 12, 3) := by decide +kernel
theorem dJ7_rangeCheck_23922_73 : decode cJ7_rangeCheck_23922 73 = .ok (.return_, 1) := by decide +kernel
theorem dX9_set_0 : decode cX9_set 0 = .ok (.iload_n 1, 1) := by decide +kernel
theorem dX9_set_1 : decode cX9_set 1 = .ok (.ifCond .lt 37, 3) := by decide +kernel
theorem dX9_set_4 : decode cX9_set 4 = .ok (.iload_n 1, 1) := by decide +kernel
theorem dX9_set_5 : decode cX9_set 5 = .ok (.aload_n 0, 1) := by decide +kernel
theorem dX9_set_6 : decode cX9_set 6 = .ok (.getfield 28, 3) := by decide +kernel
theorem dX9_set_9 : decode cX9_set 9 = .ok (.if_icmp .ge 29, 3) := by decide +kernel
theorem dX9_set_12 : decode cX9_set 12 = .ok (.iload_n 2, 1) := by decide +kernel
theorem dX9_set_13 : decode cX9_set 13 = .ok (.ifCond .lt 25, 3) := by decide +kernel
theorem dX9_set_16 : decode cX9_set 16 = .ok (.iload_n 2, 1) := by decide +kernel
theorem dX9_set_17 : decode cX9_set 17 = .ok (.aload_n 0, 1) := by decide +kernel
theorem dX9_set_18 : decode cX9_set 18 = .ok (.getfield 15, 3) := by decide +kernel
theorem dX9_set_21 : decode cX9_set 21 = .ok (.if_icmp .ge 17, 3) := by decide +kernel
theorem dX9_set_24 : decode cX9_set 24 = .ok (.aload_n 0, 1) := by decide +kernel
theorem dX9_set_25 : decode cX9_set 25 = .ok (.getfield 24, 3) := by decide +kernel
theorem dX9_set_28 : decode cX9_set 28 = .ok (.iload_n 1, 1) := by decide +kernel
theorem dX9_set_29 : decode cX9_set 29 = .ok (.aload_n 0, 1) := by decide +kernel
theorem dX9_set_30 : decode cX9_set 30 = .ok (.getfield 15, 3) := by decide +kernel
theorem dX9_set_33 : decode cX9_set 33 = .ok (.imul, 1) := by decide +kernel
theorem dX9_set_34 : decode cX9_set 34 = .ok (.iload_n 2, 1) := by decide +kernel
theorem dX9_set_35 : decode cX9_set 35 = .ok (.iadd, 1) := by decide +kernel
theorem dX9_set_36 : decode cX9_set 36 = .ok (.iload_n 3, 1) := by decide +kernel
theorem dX9_set_37 : decode cX9_set 37 = .ok (.iastore, 1) := by decide +kernel
theorem dX9_set_38 : decode cX9_set 38 = .ok (.return_, 1) := by decide +kernel
theorem dX9_at_0 : decode cX9_at 0 = .ok (.iload_n 1, 1) := by decide +kernel
theorem dX9_at_1 : decode cX9_at 1 = .ok (.ifCond .lt 23, 3) := by decide +kernel
theorem dX9_at_4 : decode cX9_at 4 = .ok (.iload_n 1, 1) := by decide +kernel
theorem dX9_at_5 : decode cX9_at 5 = .ok (.aload_n 0, 1) := by decide +kernel
theorem dX9_at_6 : decode cX9_at 6 = .ok (.getfield 28, 3) := by decide +kernel
theorem dX9_at_9 : decode cX9_at 9 = .ok (.if_icmp .ge 15, 3) := by decide +kernel
theorem dX9_at_12 : decode cX9_at 12 = .ok (.iload_n 2, 1) := by decide +kernel
theorem dX9_at_13 : decode cX9_at 13 = .ok (.ifCond .lt 11, 3) := by decide +kernel
theorem dX9_at_16 : decode cX9_at 16 = .ok (.iload_n 2, 1) := by decide +kernel
theorem dX9_at_17 : decode cX9_at 17 = .ok (.aload_n 0, 1) := by decide +kernel
theorem dX9_at_18 : decode cX9_at 18 = .ok (.getfield 15, 3) := by decide +kernel
theorem dX9_at_21 : decode cX9_at 21 = .ok (.if_icmp .lt 5, 3) := by decide +kernel
theorem dX9_at_26 : decode cX9_at 26 = .ok (.aload_n 0, 1) := by decide +kernel
theorem dX9_at_27 : decode cX9_at 27 = .ok (.getfield 24, 3) := by decide +kernel
theorem dX9_at_30 : decode cX9_at 30 = .ok (.iload_n 1, 1) := by decide +kernel
theorem dX9_at_31 : decode cX9_at 31 = .ok (.aload_n 0, 1) := by decide +kernel
theorem dX9_at_32 : decode cX9_at 32 = .ok (.getfield 15, 3) := by decide +kernel
theorem dX9_at_35 : decode cX9_at 35 = .ok (.imul, 1) := by decide +kernel
theorem dX9_at_36 : decode cX9_at 36 = .ok (.iload_n 2, 1) := by decide +kernel
theorem dX9_at_37 : decode cX9_at 37 = .ok (.iadd, 1) := by decide +kernel
theorem dX9_at_38 : decode cX9_at 38 = .ok (.iaload, 1) := by decide +kernel
theorem dX9_at_39 : decode cX9_at 39 = .ok (.ireturn, 1) := by decide +kernel
theorem dX6_accepts_0 : decode cX6_accepts 0 = .ok (.aload_n 0, 1) := by decide +kernel
theorem dX6_accepts_1 : decode cX6_accepts 1 = .ok (.aload_n 1, 1) := by decide +kernel
theorem dX6_accepts_2 : decode cX6_accepts 2 = .ok (.putfield 22, 3) := by decide +kernel
theorem dX6_accepts_5 : decode cX6_accepts 5 = .ok (.aload_n 0, 1) := by decide +kernel
theorem dX6_accepts_6 : decode cX6_accepts 6 = .ok (.getfield 22, 3) := by decide +kernel
theorem dX6_accepts_9 : decode cX6_accepts 9 = .ok (.invokevirtual 26, 3) := by decide +kernel
theorem dX6_accepts_12 : decode cX6_accepts 12 = .ok (.aload_n 0, 1) := by decide +kernel
theorem dX6_accepts_13 : decode cX6_accepts 13 = .ok (.iconst 0, 1) := by decide +kernel
theorem dX6_accepts_14 : decode cX6_accepts 14 = .ok (.putfield 31, 3) := by decide +kernel
theorem dX6_accepts_17 : decode cX6_accepts 17 = .ok (.aload_n 0, 1) := by decide +kernel
theorem dX6_accepts_18 : decode cX6_accepts 18 = .ok (.iconst 0, 1) := by decide +kernel
theorem dX6_accepts_19 : decode cX6_accepts 19 = .ok (.putfield 35, 3) := by decide +kernel
theorem dX6_accepts_22 : decode cX6_accepts 22 = .ok (.aload_n 0, 1) := by decide +kernel
theorem dX6_accepts_23 : decode cX6_accepts 23 = .ok (.iconst 0, 1) := by decide +kernel
theorem dX6_accepts_24 : decode cX6_accepts 24 = .ok (.putfield 38, 3) := by decide +kernel
theorem dX6_accepts_27 : decode cX6_accepts 27 = .ok (.aload_n 0, 1) := by decide +kernel
theorem dX6_accepts_28 : decode cX6_accepts 28 = .ok (.invokevirtual 41, 3) := by decide +kernel
theorem dX6_accepts_31 : decode cX6_accepts 31 = .ok (.istore_n 2, 1) := by decide +kernel
theorem dX6_accepts_32 : decode cX6_accepts 32 = .ok (.iload_n 2, 1) := by decide +kernel
theorem dX6_accepts_33 : decode cX6_accepts 33 = .ok (.istore_n 3, 1) := by decide +kernel
theorem dX6_accepts_34 : decode cX6_accepts 34 = .ok (.iconst 0, 1) := by decide +kernel
theorem dX6_accepts_35 : decode cX6_accepts 35 = .ok (.istore 4, 2) := by decide +kernel
theorem dX6_accepts_37 : decode cX6_accepts 37 = .ok (.iload 4, 2) := by decide +kernel
theorem dX6_accepts_39 : decode cX6_accepts 39 = .ok (.bipush 30, 2) := by decide +kernel
theorem dX6_accepts_41 : decode cX6_accepts 41 = .ok (.if_icmp .gt 45, 3) := by decide +kernel
theorem dX6_accepts_44 : decode cX6_accepts 44 = .ok (.iload_n 3, 1) := by decide +kernel
theorem dX6_accepts_45 : decode cX6_accepts 45 = .ok (.ifCond .eq 41, 3) := by decide +kernel
theorem dX6_accepts_86 : decode cX6_accepts 86 = .ok (.iload_n 2, 1) := by decide +kernel
theorem dX6_accepts_87 : decode cX6_accepts 87 = .ok (.ifCond .ne 18, 3) := by decide +kernel
theorem dX6_accepts_90 : decode cX6_accepts 90 = .ok (.aload_n 0, 1) := by decide +kernel
theorem dX6_accepts_91 : decode cX6_accepts 91 = .ok (.getfield 9, 3) := by decide +kernel
theorem dX6_accepts_94 : decode cX6_accepts 94 = .ok (.aload_n 0, 1) := by decide +kernel
theorem dX6_accepts_95 : decode cX6_accepts 95 = .ok (.getfield 38, 3) := by decide +kernel
theorem dX6_accepts_98 : decode cX6_accepts 98 = .ok (.aload_n 0, 1) := by decide +kernel
theorem dX6_accepts_99 : decode cX6_accepts 99 = .ok (.getfield 31, 3) := by decide +kernel
theorem dX6_accepts_102 : decode cX6_accepts 102 = .ok (.invokevirtual 53, 3) := by decide +kernel
theorem dX6_accepts_105 : decode cX6_accepts 105 = .ok (.aload_n 0, 1) := by decide +kernel
theorem dX6_accepts_106 : decode cX6_accepts 106 = .ok (.getfield 22, 3) := by decide +kernel
theorem dX6_accepts_109 : decode cX6_accepts 109 = .ok (.aload_n 0, 1) := by decide +kernel
theorem dX6_accepts_110 : decode cX6_accepts 110 = .ok (.getfield 22, 3) := by decide +kernel
theorem dX6_accepts_113 : decode cX6_accepts 113 = .ok (.getfield 57, 3) := by decide +kernel
theorem dX6_accepts_116 : decode cX6_accepts 116 = .ok (.invokevirtual 60, 3) := by decide +kernel
theorem dX6_accepts_119 : decode cX6_accepts 119 = .ok (.putfield 64, 3) := by decide +kernel
theorem dX6_accepts_122 : decode cX6_accepts 122 = .ok (.iload_n 2, 1) := by decide +kernel
theorem dX6_accepts_123 : decode cX6_accepts 123 = .ok (.ireturn, 1) := by decide +kernel
theorem dX7_reset_0 : decode cX7_reset 0 = .ok (.aload_n 0, 1) := by decide +kernel
theorem dX7_reset_1 : decode cX7_reset 1 = .ok (.getfield 14, 3) := by decide +kernel
theorem dX7_reset_4 : decode cX7_reset 4 = .ok (.invokevirtual 46, 3) := by decide +kernel
theorem dX7_reset_7 : decode cX7_reset 7 = .ok (.aload_n 0, 1) := by decide +kernel
theorem dX7_reset_8 : decode cX7_reset 8 = .ok (.getfield 20, 3) := by decide +kernel
theorem dX7_reset_11 : decode cX7_reset 11 = .ok (.invokevirtual 46, 3) := by decide +kernel
theorem dX7_reset_14 : decode cX7_reset 14 = .ok (.aload_n 0, 1) := by decide +kernel
theorem dX7_reset_15 : decode cX7_reset 15 = .ok (.getfield 23, 3) := by decide +kernel
theorem dX7_reset_18 : decode cX7_reset 18 = .ok (.invokevirtual 46, 3) := by decide +kernel
theorem dX7_reset_21 : decode cX7_reset 21 = .ok (.aload_n 0, 1) := by decide +kernel
theorem dX7_reset_22 : decode cX7_reset 22 = .ok (.getfield 26, 3) := by decide +kernel
theorem dX7_reset_25 : decode cX7_reset 25 = .ok (.invokevirtual 46, 3) := by decide +kernel
theorem dX7_reset_28 : decode cX7_reset 28 = .ok (.aload_n 0, 1) := by decide +kernel
theorem dX7_reset_29 : decode cX7_reset 29 = .ok (.getfield 29, 3) := by decide +kernel
theorem dX7_reset_32 : decode cX7_reset 32 = .ok (.invokevirtual 46, 3) := by decide +kernel
theorem dX7_reset_35 : decode cX7_reset 35 = .ok (.aload_n 0, 1) := by decide +kernel
theorem dX7_reset_36 : decode cX7_reset 36 = .ok (.iconst 0, 1) := by decide +kernel
theorem dX7_reset_37 : decode cX7_reset 37 = .ok (.putfield 49, 3) := by decide +kernel
theorem dX7_reset_40 : decode cX7_reset 40 = .ok (.aload_n 0, 1) := by decide +kernel
theorem dX7_reset_41 : decode cX7_reset 41 = .ok (.iconst 0, 1) := by decide +kernel
theorem dX7_reset_42 : decode cX7_reset 42 = .ok (.putfield 53, 3) := by decide +kernel
theorem dX7_reset_45 : decode cX7_reset 45 = .ok (.aload_n 0, 1) := by decide +kernel
theorem dX7_reset_46 : decode cX7_reset 46 = .ok (.iconst 0, 1) := by decide +kernel
theorem dX7_reset_47 : decode cX7_reset 47 = .ok (.putfield 56, 3) := by decide +kernel
theorem dX7_reset_50 : decode cX7_reset 50 = .ok (.aload_n 0, 1) := by decide +kernel
theorem dX7_reset_51 : decode cX7_reset 51 = .ok (.iconst 0, 1) := by decide +kernel
theorem dX7_reset_52 : decode cX7_reset 52 = .ok (.putfield 59, 3) := by decide +kernel
theorem dX7_reset_55 : decode cX7_reset 55 = .ok (.return_, 1) := by decide +kernel
theorem dX6_takeHead_0 : decode cX6_takeHead 0 = .ok (.aload_n 0, 1) := by decide +kernel
theorem dX6_takeHead_1 : decode cX6_takeHead 1 = .ok (.bipush 22, 2) := by decide +kernel
theorem dX6_takeHead_3 : decode cX6_takeHead 3 = .ok (.invokevirtual 74, 3) := by decide +kernel
theorem dX6_takeHead_6 : decode cX6_takeHead 6 = .ok (.ifCond .eq 12, 3) := by decide +kernel
theorem dX6_takeHead_18 : decode cX6_takeHead 18 = .ok (.iconst 0, 1) := by decide +kernel
theorem dX6_takeHead_19 : decode cX6_takeHead 19 = .ok (.ireturn, 1) := by decide +kernel
theorem dX6_take_0 : decode cX6_take 0 = .ok (.aload_n 0, 1) := by decide +kernel
theorem dX6_take_1 : decode cX6_take 1 = .ok (.iload_n 1, 1) := by decide +kernel
theorem dX6_take_2 : decode cX6_take 2 = .ok (.invokevirtual 71, 3) := by decide +kernel
theorem dX6_take_5 : decode cX6_take 5 = .ok (.istore_n 2, 1) := by decide +kernel
theorem dX6_take_6 : decode cX6_take 6 = .ok (.iload_n 2, 1) := by decide +kernel
theorem dX6_take_7 : decode cX6_take 7 = .ok (.ifCond .eq 13, 3) := by decide +kernel
theorem dX6_take_20 : decode cX6_take 20 = .ok (.iload_n 2, 1) := by decide +kernel
theorem dX6_take_21 : decode cX6_take 21 = .ok (.ireturn, 1) := by decide +kernel
theorem dX6_wants_0 : decode cX6_wants 0 = .ok (.aload_n 0, 1) := by decide +kernel
theorem dX6_wants_1 : decode cX6_wants 1 = .ok (.getfield 21, 3) := by decide +kernel
theorem dX6_wants_4 : decode cX6_wants 4 = .ok (.aload_n 0, 1) := by decide +kernel
theorem dX6_wants_5 : decode cX6_wants 5 = .ok (.getfield 31, 3) := by decide +kernel
theorem dX6_wants_8 : decode cX6_wants 8 = .ok (.iconst 0, 1) := by decide +kernel
theorem dX6_wants_9 : decode cX6_wants 9 = .ok (.invokevirtual 48, 3) := by decide +kernel
theorem dX6_wants_12 : decode cX6_wants 12 = .ok (.iload_n 1, 1) := by decide +kernel
theorem dX6_wants_13 : decode cX6_wants 13 = .ok (.if_icmp .eq 9, 3) := by decide +kernel
theorem dX6_wants_16 : decode cX6_wants 16 = .ok (.aload_n 0, 1) := by decide +kernel
theorem dX6_wants_17 : decode cX6_wants 17 = .ok (.iconst 1, 1) := by decide +kernel
theorem dX6_wants_18 : decode cX6_wants 18 = .ok (.invokevirtual 67, 3) := by decide +kernel
theorem dX6_wants_21 : decode cX6_wants 21 = .ok (.ireturn, 1) := by decide +kernel
theorem dX6_refuse_0 : decode cX6_refuse 0 = .ok (.aload_n 0, 1) := by decide +kernel
theorem dX6_refuse_1 : decode cX6_refuse 1 = .ok (.iload_n 1, 1) := by decide +kernel
theorem dX6_refuse_2 : decode cX6_refuse 2 = .ok (.putfield 38, 3) := by decide +kernel
theorem dX6_refuse_5 : decode cX6_refuse 5 = .ok (.iconst 0, 1) := by decide +kernel
theorem dX6_refuse_6 : decode cX6_refuse 6 = .ok (.ireturn, 1) := by decide +kernel
theorem dX10_blame_0 : decode cX10_blame 0 = .ok (.aload_n 0, 1) := by decide +kernel
theorem dX10_blame_1 : decode cX10_blame 1 = .ok (.getfield 14, 3) := by decide +kernel
theorem dX10_blame_4 : decode cX10_blame 4 = .ok (.iload_n 2, 1) := by decide +kernel
theorem dX10_blame_5 : decode cX10_blame 5 = .ok (.iconst 1, 1) := by decide +kernel
theorem dX10_blame_6 : decode cX10_blame 6 = .ok (.invokevirtual 48, 3) := by decide +kernel
theorem dX10_blame_9 : decode cX10_blame 9 = .ok (.istore_n 3, 1) := by decide +kernel
theorem dX10_blame_10 : decode cX10_blame 10 = .ok (.aload_n 0, 1) := by decide +kernel
theorem dX10_blame_11 : decode cX10_blame 11 = .ok (.getfield 45, 3) := by decide +kernel
theorem dX10_blame_14 : decode cX10_blame 14 = .ok (.ifCond .eq 27, 3) := by decide +kernel
theorem dX10_blame_41 : decode cX10_blame 41 = .ok (.aload_n 0, 1) := by decide +kernel
theorem dX10_blame_42 : decode cX10_blame 42 = .ok (.iload_n 1, 1) := by decide +kernel
theorem dX10_blame_43 : decode cX10_blame 43 = .ok (.putfield 45, 3) := by decide +kernel
theorem dX10_blame_46 : decode cX10_blame 46 = .ok (.aload_n 0, 1) := by decide +kernel
theorem dX10_blame_47 : decode cX10_blame 47 = .ok (.iload_n 3, 1) := by decide +kernel
theorem dX10_blame_48 : decode cX10_blame 48 = .ok (.putfield 27, 3) := by decide +kernel
theorem dX10_blame_51 : decode cX10_blame 51 = .ok (.return_, 1) := by decide +kernel
theorem dX9_size_0 : decode cX9_size 0 = .ok (.aload_n 0, 1) := by decide +kernel
theorem dX9_size_1 : decode cX9_size 1 = .ok (.getfield 28, 3) := by decide +kernel
theorem dX9_size_4 : decode cX9_size 4 = .ok (.ireturn, 1) := by decide +kernel
theorem dX10_worstPlace_0 : decode cX10_worstPlace 0 = .ok (.aload_n 0, 1) := by decide +kernel
theorem dX10_worstPlace_1 : decode cX10_worstPlace 1 = .ok (.getfield 45, 3) := by decide +kernel
theorem dX10_worstPlace_4 : decode cX10_worstPlace 4 = .ok (.ifCond .ne 7, 3) := by decide +kernel
theorem dX10_worstPlace_11 : decode cX10_worstPlace 11 = .ok (.aload_n 0, 1) := by decide +kernel
theorem dX10_worstPlace_12 : decode cX10_worstPlace 12 = .ok (.getfield 27, 3) := by decide +kernel
theorem dX10_worstPlace_15 : decode cX10_worstPlace 15 = .ok (.ireturn, 1) := by decide +kernel
theorem dX10_worst_0 : decode cX10_worst 0 = .ok (.aload_n 0, 1) := by decide +kernel
theorem dX10_worst_1 : decode cX10_worst 1 = .ok (.getfield 45, 3) := by decide +kernel
theorem dX10_worst_4 : decode cX10_worst 4 = .ok (.ireturn, 1) := by decide +kernel
theorem dX12_read_0 : decode cX12_read 0 = .ok (.aload_n 0, 1) := by decide +kernel
theorem dX12_read_1 : decode cX12_read 1 = .ok (.aload_n 0, 1) := by decide +kernel
theorem dX12_read_2 : decode cX12_read 2 = .ok (.getfield 285, 3) := by decide +kernel
theorem dX12_read_5 : decode cX12_read 5 = .ok (.putfield 292, 3) := by decide +kernel
theorem dX12_read_8 : decode cX12_read 8 = .ok (.iconst 0, 1) := by decide +kernel
theorem dX12_read_9 : decode cX12_read 9 = .ok (.istore_n 1, 1) := by decide +kernel
theorem dX12_read_10 : decode cX12_read 10 = .ok (.iload_n 1, 1) := by decide +kernel
theorem dX12_read_11 : decode cX12_read 11 = .ok (.aload_n 0, 1) := by decide +kernel
theorem dX12_read_12 : decode cX12_read 12 = .ok (.getfield 292, 3) := by decide +kernel
theorem dX12_read_15 : decode cX12_read 15 = .ok (.if_icmp .ge 21, 3) := by decide +kernel
theorem dX12_read_36 : decode cX12_read 36 = .ok (.aload_n 0, 1) := by decide +kernel
theorem dX12_read_37 : decode cX12_read 37 = .ok (.iconst 0, 1) := by decide +kernel
theorem dX12_read_38 : decode cX12_read 38 = .ok (.putfield 285, 3) := by decide +kernel
theorem dX12_read_41 : decode cX12_read 41 = .ok (.aload_n 0, 1) := by decide +kernel
theorem dX12_read_42 : decode cX12_read 42 = .ok (.invokevirtual 347, 3) := by decide +kernel
theorem dX12_read_45 : decode cX12_read 45 = .ok (.aload_n 0, 1) := by decide +kernel
theorem dX12_read_46 : decode cX12_read 46 = .ok (.iconst 0, 1) := by decide +kernel
theorem dX12_read_47 : decode cX12_read 47 = .ok (.putfield 335, 3) := by decide +kernel
theorem dX12_read_50 : decode cX12_read 50 = .ok (.aload_n 0, 1) := by decide +kernel
theorem dX12_read_51 : decode cX12_read 51 = .ok (.iconst 0, 1) := by decide +kernel
theorem dX12_read_52 : decode cX12_read 52 = .ok (.putfield 332, 3) := by decide +kernel
theorem dX12_read_55 : decode cX12_read 55 = .ok (.aload_n 0, 1) := by decide +kernel
theorem dX12_read_56 : decode cX12_read 56 = .ok (.iconst (-1), 1) := by decide +kernel
theorem dX12_read_57 : decode cX12_read 57 = .ok (.putfield 36, 3) := by decide +kernel
theorem dX12_read_60 : decode cX12_read 60 = .ok (.aload_n 0, 1) := by decide +kernel
theorem dX12_read_61 : decode cX12_read 61 = .ok (.invokevirtual 350, 3) := by decide +kernel
theorem dX12_read_64 : decode cX12_read 64 = .ok (.aload_n 0, 1) := by decide +kernel
theorem dX12_read_65 : decode cX12_read 65 = .ok (.getfield 332, 3) := by decide +kernel
theorem dX12_read_68 : decode cX12_read 68 = .ok (.ifCond .ne 7, 3) := by decide +kernel
theorem dX12_read_75 : decode cX12_read 75 = .ok (.aload_n 0, 1) := by decide +kernel
theorem dX12_read_76 : decode cX12_read 76 = .ok (.getfield 332, 3) := by decide +kernel
theorem dX12_read_79 : decode cX12_read 79 = .ok (.ifCond .ne 7, 3) := by decide +kernel
theorem dX12_read_86 : decode cX12_read 86 = .ok (.aload_n 0, 1) := by decide +kernel
theorem dX12_read_87 : decode cX12_read 87 = .ok (.aload_n 0, 1) := by decide +kernel
theorem dX12_read_88 : decode cX12_read 88 = .ok (.getfield 36, 3) := by decide +kernel
theorem dX12_read_91 : decode cX12_read 91 = .ok (.putfield 39, 3) := by decide +kernel
theorem dX12_read_94 : decode cX12_read 94 = .ok (.aload_n 0, 1) := by decide +kernel
theorem dX12_read_95 : decode cX12_read 95 = .ok (.getfield 332, 3) := by decide +kernel
theorem dX12_read_98 : decode cX12_read 98 = .ok (.ifCond .le 30, 3) := by decide +kernel
theorem dX12_read_101 : decode cX12_read 101 = .ok (.aload_n 0, 1) := by decide +kernel
theorem dX12_read_102 : decode cX12_read 102 = .ok (.getfield 359, 3) := by decide +kernel
theorem dX12_read_105 : decode cX12_read 105 = .ok (.ifCond .eq 18, 3) := by decide +kernel
end
section
theorem dX12_read_123 : decode cX12_read 123 = .ok (.aload_n 0, 1) := by decide +kernel
theorem dX12_read_124 : decode cX12_read 124 = .ok (.getfield 332, 3) := by decide +kernel
theorem dX12_read_127 : decode cX12_read 127 = .ok (.ireturn, 1) := by decide +kernel
theorem dX12_cut_0 : decode cX12_cut 0 = .ok (.aload_n 0, 1) := by decide +kernel
theorem dX12_cut_1 : decode cX12_cut 1 = .ok (.iconst 0, 1) := by decide +kernel
theorem dX12_cut_2 : decode cX12_cut 2 = .ok (.putfield 295, 3) := by decide +kernel
theorem dX12_cut_5 : decode cX12_cut 5 = .ok (.iconst 0, 1) := by decide +kernel
theorem dX12_cut_6 : decode cX12_cut 6 = .ok (.istore_n 1, 1) := by decide +kernel
theorem dX12_cut_7 : decode cX12_cut 7 = .ok (.aload_n 0, 1) := by decide +kernel
theorem dX12_cut_8 : decode cX12_cut 8 = .ok (.getfield 295, 3) := by decide +kernel
theorem dX12_cut_11 : decode cX12_cut 11 = .ok (.sipush 1200, 3) := by decide +kernel
theorem dX12_cut_14 : decode cX12_cut 14 = .ok (.if_icmp .gt 204, 3) := by decide +kernel
theorem dX12_cut_17 : decode cX12_cut 17 = .ok (.aload_n 0, 1) := by decide +kernel
theorem dX12_cut_18 : decode cX12_cut 18 = .ok (.iload_n 1, 1) := by decide +kernel
theorem dX12_cut_19 : decode cX12_cut 19 = .ok (.invokevirtual 298, 3) := by decide +kernel
theorem dX12_cut_22 : decode cX12_cut 22 = .ok (.istore_n 2, 1) := by decide +kernel
theorem dX12_cut_23 : decode cX12_cut 23 = .ok (.iload_n 1, 1) := by decide +kernel
theorem dX12_cut_24 : decode cX12_cut 24 = .ok (.aload_n 0, 1) := by decide +kernel
theorem dX12_cut_25 : decode cX12_cut 25 = .ok (.getfield 292, 3) := by decide +kernel
theorem dX12_cut_28 : decode cX12_cut 28 = .ok (.if_icmp .lt 14, 3) := by decide +kernel
theorem dX12_cut_31 : decode cX12_cut 31 = .ok (.aload_n 0, 1) := by decide +kernel
theorem dX12_cut_32 : decode cX12_cut 32 = .ok (.iconst 0, 1) := by decide +kernel
theorem dX12_cut_33 : decode cX12_cut 33 = .ok (.aload_n 0, 1) := by decide +kernel
theorem dX12_cut_34 : decode cX12_cut 34 = .ok (.getfield 292, 3) := by decide +kernel
theorem dX12_cut_37 : decode cX12_cut 37 = .ok (.iconst 0, 1) := by decide +kernel
theorem dX12_cut_38 : decode cX12_cut 38 = .ok (.invokevirtual 302, 3) := by decide +kernel
theorem dX12_cut_41 : decode cX12_cut 41 = .ok (.return_, 1) := by decide +kernel
theorem dX12_at_0 : decode cX12_at 0 = .ok (.iload_n 1, 1) := by decide +kernel
theorem dX12_at_1 : decode cX12_at 1 = .ok (.aload_n 0, 1) := by decide +kernel
theorem dX12_at_2 : decode cX12_at 2 = .ok (.getfield 292, 3) := by decide +kernel
theorem dX12_at_5 : decode cX12_at 5 = .ok (.if_icmp .ge 16, 3) := by decide +kernel
theorem dX12_at_21 : decode cX12_at 21 = .ok (.iconst 0, 1) := by decide +kernel
theorem dX12_at_22 : decode cX12_at 22 = .ok (.ireturn, 1) := by decide +kernel
theorem dX12_token_0 : decode cX12_token 0 = .ok (.aload_n 0, 1) := by decide +kernel
theorem dX12_token_1 : decode cX12_token 1 = .ok (.getfield 24, 3) := by decide +kernel
theorem dX12_token_4 : decode cX12_token 4 = .ok (.aload_n 0, 1) := by decide +kernel
theorem dX12_token_5 : decode cX12_token 5 = .ok (.getfield 295, 3) := by decide +kernel
theorem dX12_token_8 : decode cX12_token 8 = .ok (.iload_n 1, 1) := by decide +kernel
theorem dX12_token_9 : decode cX12_token 9 = .ok (.iastore, 1) := by decide +kernel
theorem dX12_token_10 : decode cX12_token 10 = .ok (.aload_n 0, 1) := by decide +kernel
theorem dX12_token_11 : decode cX12_token 11 = .ok (.getfield 27, 3) := by decide +kernel
theorem dX12_token_14 : decode cX12_token 14 = .ok (.aload_n 0, 1) := by decide +kernel
theorem dX12_token_15 : decode cX12_token 15 = .ok (.getfield 295, 3) := by decide +kernel
theorem dX12_token_18 : decode cX12_token 18 = .ok (.iload_n 2, 1) := by decide +kernel
theorem dX12_token_19 : decode cX12_token 19 = .ok (.iastore, 1) := by decide +kernel
theorem dX12_token_20 : decode cX12_token 20 = .ok (.aload_n 0, 1) := by decide +kernel
theorem dX12_token_21 : decode cX12_token 21 = .ok (.getfield 30, 3) := by decide +kernel
theorem dX12_token_24 : decode cX12_token 24 = .ok (.aload_n 0, 1) := by decide +kernel
theorem dX12_token_25 : decode cX12_token 25 = .ok (.getfield 295, 3) := by decide +kernel
theorem dX12_token_28 : decode cX12_token 28 = .ok (.iload_n 3, 1) := by decide +kernel
theorem dX12_token_29 : decode cX12_token 29 = .ok (.iastore, 1) := by decide +kernel
theorem dX12_token_30 : decode cX12_token 30 = .ok (.aload_n 0, 1) := by decide +kernel
theorem dX12_token_31 : decode cX12_token 31 = .ok (.dup, 1) := by decide +kernel
theorem dX12_token_32 : decode cX12_token 32 = .ok (.getfield 295, 3) := by decide +kernel
theorem dX12_token_35 : decode cX12_token 35 = .ok (.iconst 1, 1) := by decide +kernel
theorem dX12_token_36 : decode cX12_token 36 = .ok (.iadd, 1) := by decide +kernel
theorem dX12_token_37 : decode cX12_token 37 = .ok (.putfield 295, 3) := by decide +kernel
theorem dX12_token_40 : decode cX12_token 40 = .ok (.return_, 1) := by decide +kernel
theorem dX12_parse_0 : decode cX12_parse 0 = .ok (.aload_n 0, 1) := by decide +kernel
theorem dX12_parse_1 : decode cX12_parse 1 = .ok (.getfield 42, 3) := by decide +kernel
theorem dX12_parse_4 : decode cX12_parse 4 = .ok (.iconst 1, 1) := by decide +kernel
theorem dX12_parse_5 : decode cX12_parse 5 = .ok (.iconst 0, 1) := by decide +kernel
theorem dX12_parse_6 : decode cX12_parse 6 = .ok (.iastore, 1) := by decide +kernel
theorem dX12_parse_7 : decode cX12_parse 7 = .ok (.aload_n 0, 1) := by decide +kernel
theorem dX12_parse_8 : decode cX12_parse 8 = .ok (.getfield 45, 3) := by decide +kernel
theorem dX12_parse_11 : decode cX12_parse 11 = .ok (.iconst 1, 1) := by decide +kernel
theorem dX12_parse_12 : decode cX12_parse 12 = .ok (.iconst 0, 1) := by decide +kernel
theorem dX12_parse_13 : decode cX12_parse 13 = .ok (.iastore, 1) := by decide +kernel
theorem dX12_parse_14 : decode cX12_parse 14 = .ok (.aload_n 0, 1) := by decide +kernel
theorem dX12_parse_15 : decode cX12_parse 15 = .ok (.getfield 48, 3) := by decide +kernel
theorem dX12_parse_18 : decode cX12_parse 18 = .ok (.iconst 1, 1) := by decide +kernel
theorem dX12_parse_19 : decode cX12_parse 19 = .ok (.iconst 0, 1) := by decide +kernel
theorem dX12_parse_20 : decode cX12_parse 20 = .ok (.iastore, 1) := by decide +kernel
theorem dX12_parse_21 : decode cX12_parse 21 = .ok (.aload_n 0, 1) := by decide +kernel
theorem dX12_parse_22 : decode cX12_parse 22 = .ok (.getfield 51, 3) := by decide +kernel
theorem dX12_parse_25 : decode cX12_parse 25 = .ok (.iconst 1, 1) := by decide +kernel
theorem dX12_parse_26 : decode cX12_parse 26 = .ok (.iconst 0, 1) := by decide +kernel
theorem dX12_parse_27 : decode cX12_parse 27 = .ok (.iastore, 1) := by decide +kernel
theorem dX12_parse_28 : decode cX12_parse 28 = .ok (.aload_n 0, 1) := by decide +kernel
theorem dX12_parse_29 : decode cX12_parse 29 = .ok (.getfield 54, 3) := by decide +kernel
theorem dX12_parse_32 : decode cX12_parse 32 = .ok (.iconst 1, 1) := by decide +kernel
theorem dX12_parse_33 : decode cX12_parse 33 = .ok (.iconst 0, 1) := by decide +kernel
theorem dX12_parse_34 : decode cX12_parse 34 = .ok (.iastore, 1) := by decide +kernel
theorem dX12_parse_35 : decode cX12_parse 35 = .ok (.aload_n 0, 1) := by decide +kernel
theorem dX12_parse_36 : decode cX12_parse 36 = .ok (.getfield 57, 3) := by decide +kernel
theorem dX12_parse_39 : decode cX12_parse 39 = .ok (.iconst 1, 1) := by decide +kernel
theorem dX12_parse_40 : decode cX12_parse 40 = .ok (.iconst 0, 1) := by decide +kernel
theorem dX12_parse_41 : decode cX12_parse 41 = .ok (.iastore, 1) := by decide +kernel
theorem dX12_parse_42 : decode cX12_parse 42 = .ok (.aload_n 0, 1) := by decide +kernel
theorem dX12_parse_43 : decode cX12_parse 43 = .ok (.getfield 60, 3) := by decide +kernel
theorem dX12_parse_46 : decode cX12_parse 46 = .ok (.iconst 1, 1) := by decide +kernel
theorem dX12_parse_47 : decode cX12_parse 47 = .ok (.iconst 0, 1) := by decide +kernel
theorem dX12_parse_48 : decode cX12_parse 48 = .ok (.iastore, 1) := by decide +kernel
theorem dX12_parse_49 : decode cX12_parse 49 = .ok (.aload_n 0, 1) := by decide +kernel
theorem dX12_parse_50 : decode cX12_parse 50 = .ok (.iconst 0, 1) := by decide +kernel
theorem dX12_parse_51 : decode cX12_parse 51 = .ok (.putfield 384, 3) := by decide +kernel
theorem dX12_parse_54 : decode cX12_parse 54 = .ok (.aload_n 0, 1) := by decide +kernel
theorem dX12_parse_55 : decode cX12_parse 55 = .ok (.bipush 10, 2) := by decide +kernel
theorem dX12_parse_57 : decode cX12_parse 57 = .ok (.invokevirtual 387, 3) := by decide +kernel
theorem dX12_parse_60 : decode cX12_parse 60 = .ok (.aload_n 0, 1) := by decide +kernel
theorem dX12_parse_61 : decode cX12_parse 61 = .ok (.iconst 4, 1) := by decide +kernel
theorem dX12_parse_62 : decode cX12_parse 62 = .ok (.invokevirtual 387, 3) := by decide +kernel
theorem dX12_parse_65 : decode cX12_parse 65 = .ok (.aload_n 0, 1) := by decide +kernel
theorem dX12_parse_66 : decode cX12_parse 66 = .ok (.iconst 5, 1) := by decide +kernel
theorem dX12_parse_67 : decode cX12_parse 67 = .ok (.invokevirtual 341, 3) := by decide +kernel
theorem dX12_parse_70 : decode cX12_parse 70 = .ok (.ifCond .ne 94, 3) := by decide +kernel
theorem dX12_parse_73 : decode cX12_parse 73 = .ok (.iconst 1, 1) := by decide +kernel
theorem dX12_parse_74 : decode cX12_parse 74 = .ok (.istore_n 1, 1) := by decide +kernel
theorem dX12_parse_75 : decode cX12_parse 75 = .ok (.iload_n 1, 1) := by decide +kernel
theorem dX12_parse_76 : decode cX12_parse 76 = .ok (.ifCond .eq 88, 3) := by decide +kernel
theorem dX12_parse_79 : decode cX12_parse 79 = .ok (.aload_n 0, 1) := by decide +kernel
theorem dX12_parse_80 : decode cX12_parse 80 = .ok (.getfield 332, 3) := by decide +kernel
theorem dX12_parse_83 : decode cX12_parse 83 = .ok (.ifCond .ne 81, 3) := by decide +kernel
theorem dX12_parse_164 : decode cX12_parse 164 = .ok (.aload_n 0, 1) := by decide +kernel
theorem dX12_parse_165 : decode cX12_parse 165 = .ok (.iconst 5, 1) := by decide +kernel
theorem dX12_parse_166 : decode cX12_parse 166 = .ok (.invokevirtual 387, 3) := by decide +kernel
theorem dX12_parse_169 : decode cX12_parse 169 = .ok (.iconst 1, 1) := by decide +kernel
theorem dX12_parse_170 : decode cX12_parse 170 = .ok (.istore_n 1, 1) := by decide +kernel
theorem dX12_parse_171 : decode cX12_parse 171 = .ok (.iload_n 1, 1) := by decide +kernel
theorem dX12_parse_172 : decode cX12_parse 172 = .ok (.ifCond .eq 38, 3) := by decide +kernel
theorem dX12_parse_175 : decode cX12_parse 175 = .ok (.aload_n 0, 1) := by decide +kernel
theorem dX12_parse_176 : decode cX12_parse 176 = .ok (.getfield 332, 3) := by decide +kernel
theorem dX12_parse_179 : decode cX12_parse 179 = .ok (.ifCond .ne 31, 3) := by decide +kernel
theorem dX12_parse_210 : decode cX12_parse 210 = .ok (.return_, 1) := by decide +kernel
theorem dX12_must_0 : decode cX12_must 0 = .ok (.aload_n 0, 1) := by decide +kernel
theorem dX12_must_1 : decode cX12_must 1 = .ok (.iload_n 1, 1) := by decide +kernel
theorem dX12_must_2 : decode cX12_must 2 = .ok (.invokevirtual 341, 3) := by decide +kernel
theorem dX12_must_5 : decode cX12_must 5 = .ok (.ifCond .eq 10, 3) := by decide +kernel
theorem dX12_must_15 : decode cX12_must 15 = .ok (.aload_n 0, 1) := by decide +kernel
theorem dX12_must_16 : decode cX12_must 16 = .ok (.iconst 1, 1) := by decide +kernel
theorem dX12_must_17 : decode cX12_must 17 = .ok (.invokevirtual 338, 3) := by decide +kernel
theorem dX12_must_20 : decode cX12_must 20 = .ok (.return_, 1) := by decide +kernel
theorem dX12_is_0 : decode cX12_is 0 = .ok (.aload_n 0, 1) := by decide +kernel
theorem dX12_is_1 : decode cX12_is 1 = .ok (.getfield 332, 3) := by decide +kernel
theorem dX12_is_4 : decode cX12_is 4 = .ok (.ifCond .ne 20, 3) := by decide +kernel
theorem dX12_is_7 : decode cX12_is 7 = .ok (.aload_n 0, 1) := by decide +kernel
theorem dX12_is_8 : decode cX12_is 8 = .ok (.getfield 24, 3) := by decide +kernel
theorem dX12_is_11 : decode cX12_is 11 = .ok (.aload_n 0, 1) := by decide +kernel
theorem dX12_is_12 : decode cX12_is 12 = .ok (.getfield 335, 3) := by decide +kernel
theorem dX12_is_15 : decode cX12_is 15 = .ok (.iaload, 1) := by decide +kernel
theorem dX12_is_16 : decode cX12_is 16 = .ok (.iload_n 1, 1) := by decide +kernel
theorem dX12_is_17 : decode cX12_is 17 = .ok (.if_icmp .ne 7, 3) := by decide +kernel
theorem dX12_is_24 : decode cX12_is 24 = .ok (.iconst 0, 1) := by decide +kernel
theorem dX12_is_25 : decode cX12_is 25 = .ok (.ireturn, 1) := by decide +kernel
theorem dX12_fail_0 : decode cX12_fail 0 = .ok (.aload_n 0, 1) := by decide +kernel
theorem dX12_fail_1 : decode cX12_fail 1 = .ok (.getfield 332, 3) := by decide +kernel
theorem dX12_fail_4 : decode cX12_fail 4 = .ok (.ifCond .le 4, 3) := by decide +kernel
theorem dX12_fail_7 : decode cX12_fail 7 = .ok (.return_, 1) := by decide +kernel
theorem dX12_fail_8 : decode cX12_fail 8 = .ok (.aload_n 0, 1) := by decide +kernel
theorem dX12_fail_9 : decode cX12_fail 9 = .ok (.iload_n 1, 1) := by decide +kernel
theorem dX12_fail_10 : decode cX12_fail 10 = .ok (.putfield 332, 3) := by decide +kernel
theorem dX12_fail_13 : decode cX12_fail 13 = .ok (.aload_n 0, 1) := by decide +kernel
theorem dX12_fail_14 : decode cX12_fail 14 = .ok (.aload_n 0, 1) := by decide +kernel
theorem dX12_fail_15 : decode cX12_fail 15 = .ok (.getfield 27, 3) := by decide +kernel
theorem dX12_fail_18 : decode cX12_fail 18 = .ok (.aload_n 0, 1) := by decide +kernel
theorem dX12_fail_19 : decode cX12_fail 19 = .ok (.getfield 335, 3) := by decide +kernel
theorem dX12_fail_22 : decode cX12_fail 22 = .ok (.iaload, 1) := by decide +kernel
theorem dX12_fail_23 : decode cX12_fail 23 = .ok (.putfield 36, 3) := by decide +kernel
theorem dX12_fail_26 : decode cX12_fail 26 = .ok (.return_, 1) := by decide +kernel
theorem dX11_place_0 : decode cX11_place 0 = .ok (.aload_n 0, 1) := by decide +kernel
theorem dX11_place_1 : decode cX11_place 1 = .ok (.getfield 17, 3) := by decide +kernel
theorem dX11_place_4 : decode cX11_place 4 = .ok (.ireturn, 1) := by decide +kernel
theorem dX12_place_0 : decode cX12_place 0 = .ok (.aload_n 0, 1) := by decide +kernel
theorem dX12_place_1 : decode cX12_place 1 = .ok (.getfield 39, 3) := by decide +kernel
theorem dX12_place_4 : decode cX12_place 4 = .ok (.ireturn, 1) := by decide +kernel
theorem dX11_block_0 : decode cX11_block 0 = .ok (.aload_n 0, 1) := by decide +kernel
theorem dX11_block_1 : decode cX11_block 1 = .ok (.getfield 92, 3) := by decide +kernel
theorem dX11_block_4 : decode cX11_block 4 = .ok (.ifnull 17, 3) := by decide +kernel
theorem dX11_block_21 : decode cX11_block 21 = .ok (.iconst (-1), 1) := by decide +kernel
theorem dX11_block_22 : decode cX11_block 22 = .ok (.ireturn, 1) := by decide +kernel
theorem dX12_block__0 : decode cX12_block_ 0 = .ok (.aload_n 0, 1) := by decide +kernel
theorem dX12_block__1 : decode cX12_block_ 1 = .ok (.getfield 359, 3) := by decide +kernel
theorem dX12_block__4 : decode cX12_block_ 4 = .ok (.ifCond .eq 17, 3) := by decide +kernel
theorem dX12_block__21 : decode cX12_block_ 21 = .ok (.iconst (-1), 1) := by decide +kernel
theorem dX12_block__22 : decode cX12_block_ 22 = .ok (.ireturn, 1) := by decide +kernel
theorem dX11_value_0 : decode cX11_value 0 = .ok (.aload_n 0, 1) := by decide +kernel
theorem dX11_value_1 : decode cX11_value 1 = .ok (.getfield 92, 3) := by decide +kernel
theorem dX11_value_4 : decode cX11_value 4 = .ok (.ifnull 26, 3) := by decide +kernel
theorem dX11_value_30 : decode cX11_value 30 = .ok (.iconst (-1), 1) := by decide +kernel
theorem dX11_value_31 : decode cX11_value 31 = .ok (.ireturn, 1) := by decide +kernel
theorem dX12_value_0 : decode cX12_value 0 = .ok (.aload_n 0, 1) := by decide +kernel
theorem dX12_value_1 : decode cX12_value 1 = .ok (.getfield 359, 3) := by decide +kernel
theorem dX12_value_4 : decode cX12_value 4 = .ok (.ifCond .eq 17, 3) := by decide +kernel
theorem dX12_value_21 : decode cX12_value 21 = .ok (.iconst (-1), 1) := by decide +kernel
theorem dX12_value_22 : decode cX12_value 22 = .ok (.ireturn, 1) := by decide +kernel
theorem dX11_ins_0 : decode cX11_ins 0 = .ok (.aload_n 0, 1) := by decide +kernel
theorem dX11_ins_1 : decode cX11_ins 1 = .ok (.getfield 92, 3) := by decide +kernel
theorem dX11_ins_4 : decode cX11_ins 4 = .ok (.ifnull 24, 3) := by decide +kernel
theorem dX11_ins_28 : decode cX11_ins 28 = .ok (.iconst (-1), 1) := by decide +kernel
theorem dX11_ins_29 : decode cX11_ins 29 = .ok (.ireturn, 1) := by decide +kernel
theorem dX12_ins_0 : decode cX12_ins 0 = .ok (.aload_n 0, 1) := by decide +kernel
theorem dX12_ins_1 : decode cX12_ins 1 = .ok (.iload_n 1, 1) := by decide +kernel
theorem dX12_ins_2 : decode cX12_ins 2 = .ok (.iload_n 2, 1) := by decide +kernel
theorem dX12_ins_3 : decode cX12_ins 3 = .ok (.invokevirtual 464, 3) := by decide +kernel
theorem dX12_ins_6 : decode cX12_ins 6 = .ok (.istore 4, 2) := by decide +kernel
theorem dX12_ins_8 : decode cX12_ins 8 = .ok (.iload 4, 2) := by decide +kernel
theorem dX12_ins_10 : decode cX12_ins 10 = .ok (.iconst (-1), 1) := by decide +kernel
theorem dX12_ins_11 : decode cX12_ins 11 = .ok (.if_icmp .ne 5, 3) := by decide +kernel
theorem dX12_ins_14 : decode cX12_ins 14 = .ok (.iconst (-1), 1) := by decide +kernel
theorem dX12_ins_15 : decode cX12_ins 15 = .ok (.ireturn, 1) := by decide +kernel
theorem dX12_insAt_0 : decode cX12_insAt 0 = .ok (.aload_n 0, 1) := by decide +kernel
theorem dX12_insAt_1 : decode cX12_insAt 1 = .ok (.getfield 359, 3) := by decide +kernel
theorem dX12_insAt_4 : decode cX12_insAt 4 = .ok (.ifCond .eq 32, 3) := by decide +kernel
theorem dX12_insAt_36 : decode cX12_insAt 36 = .ok (.iconst (-1), 1) := by decide +kernel
theorem dX12_insAt_37 : decode cX12_insAt 37 = .ok (.ireturn, 1) := by decide +kernel
theorem dX11_live_0 : decode cX11_live 0 = .ok (.aload_n 0, 1) := by decide +kernel
theorem dX11_live_1 : decode cX11_live 1 = .ok (.getfield 92, 3) := by decide +kernel
theorem dX11_live_4 : decode cX11_live 4 = .ok (.ifnull 30, 3) := by decide +kernel
theorem dX11_live_34 : decode cX11_live 34 = .ok (.iconst 0, 1) := by decide +kernel
theorem dX11_live_35 : decode cX11_live 35 = .ok (.ireturn, 1) := by decide +kernel
theorem dX12_live_0 : decode cX12_live 0 = .ok (.aload_n 0, 1) := by decide +kernel
theorem dX12_live_1 : decode cX12_live 1 = .ok (.iload_n 1, 1) := by decide +kernel
theorem dX12_live_2 : decode cX12_live 2 = .ok (.iload_n 2, 1) := by decide +kernel
theorem dX12_live_3 : decode cX12_live 3 = .ok (.invokevirtual 467, 3) := by decide +kernel
theorem dX12_live_6 : decode cX12_live 6 = .ok (.istore 4, 2) := by decide +kernel
theorem dX12_live_8 : decode cX12_live 8 = .ok (.iload 4, 2) := by decide +kernel
theorem dX12_live_10 : decode cX12_live 10 = .ok (.iconst (-1), 1) := by decide +kernel
theorem dX12_live_11 : decode cX12_live 11 = .ok (.if_icmp .eq 31, 3) := by decide +kernel
theorem dX12_live_42 : decode cX12_live 42 = .ok (.iconst 0, 1) := by decide +kernel
theorem dX12_live_43 : decode cX12_live 43 = .ok (.ireturn, 1) := by decide +kernel
theorem dX12_pointAt_0 : decode cX12_pointAt 0 = .ok (.aload_n 0, 1) := by decide +kernel
theorem dX12_pointAt_1 : decode cX12_pointAt 1 = .ok (.getfield 359, 3) := by decide +kernel
theorem dX12_pointAt_4 : decode cX12_pointAt 4 = .ok (.ifCond .eq 42, 3) := by decide +kernel
theorem dX12_pointAt_46 : decode cX12_pointAt 46 = .ok (.iconst (-1), 1) := by decide +kernel
theorem dX12_pointAt_47 : decode cX12_pointAt 47 = .ok (.ireturn, 1) := by decide +kernel
theorem dX11_pressure_0 : decode cX11_pressure 0 = .ok (.aload_n 0, 1) := by decide +kernel
theorem dX11_pressure_1 : decode cX11_pressure 1 = .ok (.getfield 92, 3) := by decide +kernel
theorem dX11_pressure_4 : decode cX11_pressure 4 = .ok (.ifnonnull 7, 3) := by decide +kernel
theorem dX11_pressure_7 : decode cX11_pressure 7 = .ok (.iconst (-1), 1) := by decide +kernel
theorem dX11_pressure_8 : decode cX11_pressure 8 = .ok (.goto 22, 3) := by decide +kernel
theorem dX11_pressure_30 : decode cX11_pressure 30 = .ok (.ireturn, 1) := by decide +kernel
theorem dX12_pressure_0 : decode cX12_pressure 0 = .ok (.aload_n 0, 1) := by decide +kernel
theorem dX12_pressure_1 : decode cX12_pressure 1 = .ok (.iload_n 1, 1) := by decide +kernel
theorem dX12_pressure_2 : decode cX12_pressure 2 = .ok (.iload_n 2, 1) := by decide +kernel
theorem dX12_pressure_3 : decode cX12_pressure 3 = .ok (.invokevirtual 467, 3) := by decide +kernel
theorem dX12_pressure_6 : decode cX12_pressure 6 = .ok (.istore_n 3, 1) := by decide +kernel
theorem dX12_pressure_7 : decode cX12_pressure 7 = .ok (.iload_n 3, 1) := by decide +kernel
theorem dX12_pressure_8 : decode cX12_pressure 8 = .ok (.iconst (-1), 1) := by decide +kernel
theorem dX12_pressure_9 : decode cX12_pressure 9 = .ok (.if_icmp .ne 7, 3) := by decide +kernel
theorem dX12_pressure_12 : decode cX12_pressure 12 = .ok (.iconst (-1), 1) := by decide +kernel
theorem dX12_pressure_13 : decode cX12_pressure 13 = .ok (.goto 9, 3) := by decide +kernel
theorem dX12_pressure_22 : decode cX12_pressure 22 = .ok (.ireturn, 1) := by decide +kernel
theorem dX11_clique_0 : decode cX11_clique 0 = .ok (.aload_n 0, 1) := by decide +kernel
theorem dX11_clique_1 : decode cX11_clique 1 = .ok (.getfield 92, 3) := by decide +kernel
theorem dX11_clique_4 : decode cX11_clique 4 = .ok (.ifnonnull 7, 3) := by decide +kernel
theorem dX11_clique_7 : decode cX11_clique 7 = .ok (.iconst (-1), 1) := by decide +kernel
theorem dX11_clique_8 : decode cX11_clique 8 = .ok (.goto 14, 3) := by decide +kernel
theorem dX11_clique_22 : decode cX11_clique 22 = .ok (.ireturn, 1) := by decide +kernel
theorem dX12_clique_0 : decode cX12_clique 0 = .ok (.aload_n 0, 1) := by decide +kernel
theorem dX12_clique_1 : decode cX12_clique 1 = .ok (.getfield 359, 3) := by decide +kernel
theorem dX12_clique_4 : decode cX12_clique 4 = .ok (.ifCond .eq 15, 3) := by decide +kernel
theorem dX12_clique_19 : decode cX12_clique 19 = .ok (.iconst (-1), 1) := by decide +kernel
theorem dX12_clique_20 : decode cX12_clique 20 = .ok (.ireturn, 1) := by decide +kernel
theorem dX11_meet_0 : decode cX11_meet 0 = .ok (.aload_n 0, 1) := by decide +kernel
theorem dX11_meet_1 : decode cX11_meet 1 = .ok (.getfield 92, 3) := by decide +kernel
theorem dX11_meet_4 : decode cX11_meet 4 = .ok (.ifnull 27, 3) := by decide +kernel
theorem dX11_meet_31 : decode cX11_meet 31 = .ok (.iconst 0, 1) := by decide +kernel
theorem dX11_meet_32 : decode cX11_meet 32 = .ok (.ireturn, 1) := by decide +kernel
theorem dX12_meet_0 : decode cX12_meet 0 = .ok (.aload_n 0, 1) := by decide +kernel
theorem dX12_meet_1 : decode cX12_meet 1 = .ok (.iload_n 1, 1) := by decide +kernel
theorem dX12_meet_2 : decode cX12_meet 2 = .ok (.invokevirtual 470, 3) := by decide +kernel
theorem dX12_meet_5 : decode cX12_meet 5 = .ok (.ifCond .eq 16, 3) := by decide +kernel
theorem dX12_meet_21 : decode cX12_meet 21 = .ok (.iconst 0, 1) := by decide +kernel
theorem dX12_meet_22 : decode cX12_meet 22 = .ok (.ireturn, 1) := by decide +kernel
theorem dX12_isValue_0 : decode cX12_isValue 0 = .ok (.aload_n 0, 1) := by decide +kernel
theorem dX12_isValue_1 : decode cX12_isValue 1 = .ok (.getfield 359, 3) := by decide +kernel
theorem dX12_isValue_4 : decode cX12_isValue 4 = .ok (.ifCond .eq 21, 3) := by decide +kernel
theorem dX12_isValue_25 : decode cX12_isValue 25 = .ok (.iconst 0, 1) := by decide +kernel
theorem dX12_isValue_26 : decode cX12_isValue 26 = .ok (.ireturn, 1) := by decide +kernel
theorem dX11_fit_0 : decode cX11_fit 0 = .ok (.aload_n 0, 1) := by decide +kernel
theorem dX11_fit_1 : decode cX11_fit 1 = .ok (.getfield 92, 3) := by decide +kernel
theorem dX11_fit_4 : decode cX11_fit 4 = .ok (.ifnull 15, 3) := by decide +kernel
theorem dX11_fit_19 : decode cX11_fit 19 = .ok (.iconst (-1), 1) := by decide +kernel
theorem dX11_fit_20 : decode cX11_fit 20 = .ok (.ireturn, 1) := by decide +kernel
theorem dX12_fit_0 : decode cX12_fit 0 = .ok (.aload_n 0, 1) := by decide +kernel
theorem dX12_fit_1 : decode cX12_fit 1 = .ok (.getfield 359, 3) := by decide +kernel
theorem dX12_fit_4 : decode cX12_fit 4 = .ok (.ifCond .eq 15, 3) := by decide +kernel
theorem dX12_fit_19 : decode cX12_fit 19 = .ok (.iconst (-1), 1) := by decide +kernel
theorem dX12_fit_20 : decode cX12_fit 20 = .ok (.ireturn, 1) := by decide +kernel
theorem dX11_colour_0 : decode cX11_colour 0 = .ok (.aload_n 0, 1) := by decide +kernel
theorem dX11_colour_1 : decode cX11_colour 1 = .ok (.getfield 92, 3) := by decide +kernel
theorem dX11_colour_4 : decode cX11_colour 4 = .ok (.ifnull 12, 3) := by decide +kernel
theorem dX11_colour_16 : decode cX11_colour 16 = .ok (.iconst (-1), 1) := by decide +kernel
theorem dX11_colour_17 : decode cX11_colour 17 = .ok (.ireturn, 1) := by decide +kernel
theorem dX12_colour_0 : decode cX12_colour 0 = .ok (.aload_n 0, 1) := by decide +kernel
theorem dX12_colour_1 : decode cX12_colour 1 = .ok (.getfield 359, 3) := by decide +kernel
theorem dX12_colour_4 : decode cX12_colour 4 = .ok (.ifCond .eq 12, 3) := by decide +kernel
theorem dX12_colour_16 : decode cX12_colour 16 = .ok (.iconst (-1), 1) := by decide +kernel
theorem dX12_colour_17 : decode cX12_colour 17 = .ok (.ireturn, 1) := by decide +kernel
theorem dX11_lower_0 : decode cX11_lower 0 = .ok (.aload_n 0, 1) := by decide +kernel
theorem dX11_lower_1 : decode cX11_lower 1 = .ok (.getfield 92, 3) := by decide +kernel
theorem dX11_lower_4 : decode cX11_lower 4 = .ok (.ifnull 13, 3) := by decide +kernel
theorem dX11_lower_17 : decode cX11_lower 17 = .ok (.iconst (-1), 1) := by decide +kernel
theorem dX11_lower_18 : decode cX11_lower 18 = .ok (.ireturn, 1) := by decide +kernel
theorem dX12_lower_0 : decode cX12_lower 0 = .ok (.aload_n 0, 1) := by decide +kernel
theorem dX12_lower_1 : decode cX12_lower 1 = .ok (.getfield 375, 3) := by decide +kernel
theorem dX12_lower_4 : decode cX12_lower 4 = .ok (.ifCond .ne 5, 3) := by decide +kernel
theorem dX12_lower_7 : decode cX12_lower 7 = .ok (.iconst (-1), 1) := by decide +kernel
theorem dX12_lower_8 : decode cX12_lower 8 = .ok (.ireturn, 1) := by decide +kernel
theorem dX11_code_0 : decode cX11_code 0 = .ok (.aload_n 0, 1) := by decide +kernel
theorem dX11_code_1 : decode cX11_code 1 = .ok (.getfield 98, 3) := by decide +kernel
theorem dX11_code_4 : decode cX11_code 4 = .ok (.ifnonnull 7, 3) := by decide +kernel
theorem dX11_code_7 : decode cX11_code 7 = .ok (.iconst (-1), 1) := by decide +kernel
theorem dX11_code_8 : decode cX11_code 8 = .ok (.goto 12, 3) := by decide +kernel
theorem dX11_code_20 : decode cX11_code 20 = .ok (.ireturn, 1) := by decide +kernel
theorem dX12_code_0 : decode cX12_code 0 = .ok (.aload_n 0, 1) := by decide +kernel
theorem dX12_code_1 : decode cX12_code 1 = .ok (.getfield 378, 3) := by decide +kernel
theorem dX12_code_4 : decode cX12_code 4 = .ok (.ifCond .eq 15, 3) := by decide +kernel
theorem dX12_code_19 : decode cX12_code 19 = .ok (.iconst (-1), 1) := by decide +kernel
theorem dX12_code_20 : decode cX12_code 20 = .ok (.ireturn, 1) := by decide +kernel
theorem dX11_input_0 : decode cX11_input 0 = .ok (.aload_n 0, 1) := by decide +kernel
theorem dX11_input_1 : decode cX11_input 1 = .ok (.getfield 216, 3) := by decide +kernel
theorem dX11_input_4 : decode cX11_input 4 = .ok (.ifCond .lt 15, 3) := by decide +kernel
theorem dX11_input_7 : decode cX11_input 7 = .ok (.aload_n 0, 1) := by decide +kernel
theorem dX11_input_8 : decode cX11_input 8 = .ok (.getfield 216, 3) := by decide +kernel
theorem dX11_input_11 : decode cX11_input 11 = .ok (.aload_n 0, 1) := by decide +kernel
theorem dX11_input_12 : decode cX11_input 12 = .ok (.getfield 13, 3) := by decide +kernel
theorem dX11_input_15 : decode cX11_input 15 = .ok (.arraylength, 1) := by decide +kernel
theorem dX11_input_16 : decode cX11_input 16 = .ok (.if_icmp .lt 5, 3) := by decide +kernel
theorem dX11_input_21 : decode cX11_input 21 = .ok (.aload_n 0, 1) := by decide +kernel
theorem dX11_input_22 : decode cX11_input 22 = .ok (.getfield 13, 3) := by decide +kernel
theorem dX11_input_25 : decode cX11_input 25 = .ok (.aload_n 0, 1) := by decide +kernel
theorem dX11_input_26 : decode cX11_input 26 = .ok (.getfield 216, 3) := by decide +kernel
theorem dX11_input_29 : decode cX11_input 29 = .ok (.iload_n 1, 1) := by decide +kernel
theorem dX11_input_30 : decode cX11_input 30 = .ok (.iastore, 1) := by decide +kernel
theorem dX11_input_31 : decode cX11_input 31 = .ok (.aload_n 0, 1) := by decide +kernel
theorem dX11_input_32 : decode cX11_input 32 = .ok (.dup, 1) := by decide +kernel
theorem dX11_input_33 : decode cX11_input 33 = .ok (.getfield 216, 3) := by decide +kernel
theorem dX11_input_36 : decode cX11_input 36 = .ok (.iconst 1, 1) := by decide +kernel
theorem dX11_input_37 : decode cX11_input 37 = .ok (.iadd, 1) := by decide +kernel
theorem dX11_input_38 : decode cX11_input 38 = .ok (.putfield 216, 3) := by decide +kernel
theorem dX11_input_41 : decode cX11_input 41 = .ok (.aload_n 0, 1) := by decide +kernel
theorem dX11_input_42 : decode cX11_input 42 = .ok (.getfield 216, 3) := by decide +kernel
theorem dX11_input_45 : decode cX11_input 45 = .ok (.ireturn, 1) := by decide +kernel
theorem dX12_input_0 : decode cX12_input 0 = .ok (.aload_n 0, 1) := by decide +kernel
theorem dX12_input_1 : decode cX12_input 1 = .ok (.getfield 519, 3) := by decide +kernel
theorem dX12_input_4 : decode cX12_input 4 = .ok (.bipush 50, 2) := by decide +kernel
theorem dX12_input_6 : decode cX12_input 6 = .ok (.if_icmp .ne 5, 3) := by decide +kernel
theorem dX12_input_11 : decode cX12_input 11 = .ok (.aload_n 0, 1) := by decide +kernel
theorem dX12_input_12 : decode cX12_input 12 = .ok (.getfield 245, 3) := by decide +kernel
theorem dX12_input_15 : decode cX12_input 15 = .ok (.aload_n 0, 1) := by decide +kernel
theorem dX12_input_16 : decode cX12_input 16 = .ok (.getfield 519, 3) := by decide +kernel
theorem dX12_input_19 : decode cX12_input 19 = .ok (.iload_n 1, 1) := by decide +kernel
theorem dX12_input_20 : decode cX12_input 20 = .ok (.iastore, 1) := by decide +kernel
theorem dX12_input_21 : decode cX12_input 21 = .ok (.aload_n 0, 1) := by decide +kernel
theorem dX12_input_22 : decode cX12_input 22 = .ok (.dup, 1) := by decide +kernel
theorem dX12_input_23 : decode cX12_input 23 = .ok (.getfield 519, 3) := by decide +kernel
theorem dX12_input_26 : decode cX12_input 26 = .ok (.iconst 1, 1) := by decide +kernel
theorem dX12_input_27 : decode cX12_input 27 = .ok (.iadd, 1) := by decide +kernel
theorem dX12_input_28 : decode cX12_input 28 = .ok (.putfield 519, 3) := by decide +kernel
theorem dX12_input_31 : decode cX12_input 31 = .ok (.aload_n 0, 1) := by decide +kernel
theorem dX12_input_32 : decode cX12_input 32 = .ok (.getfield 519, 3) := by decide +kernel
theorem dX12_input_35 : decode cX12_input 35 = .ok (.ireturn, 1) := by decide +kernel
theorem dX11_clear_0 : decode cX11_clear 0 = .ok (.aload_n 0, 1) := by decide +kernel
theorem dX11_clear_1 : decode cX11_clear 1 = .ok (.getfield 216, 3) := by decide +kernel
theorem dX11_clear_4 : decode cX11_clear 4 = .ok (.istore_n 1, 1) := by decide +kernel
theorem dX11_clear_5 : decode cX11_clear 5 = .ok (.aload_n 0, 1) := by decide +kernel
theorem dX11_clear_6 : decode cX11_clear 6 = .ok (.iconst 0, 1) := by decide +kernel
theorem dX11_clear_7 : decode cX11_clear 7 = .ok (.putfield 216, 3) := by decide +kernel
theorem dX11_clear_10 : decode cX11_clear 10 = .ok (.iload_n 1, 1) := by decide +kernel
theorem dX11_clear_11 : decode cX11_clear 11 = .ok (.ireturn, 1) := by decide +kernel
theorem dX12_clear_0 : decode cX12_clear 0 = .ok (.aload_n 0, 1) := by decide +kernel
theorem dX12_clear_1 : decode cX12_clear 1 = .ok (.getfield 519, 3) := by decide +kernel
theorem dX12_clear_4 : decode cX12_clear 4 = .ok (.istore_n 1, 1) := by decide +kernel
theorem dX12_clear_5 : decode cX12_clear 5 = .ok (.aload_n 0, 1) := by decide +kernel
theorem dX12_clear_6 : decode cX12_clear 6 = .ok (.iconst 0, 1) := by decide +kernel
theorem dX12_clear_7 : decode cX12_clear 7 = .ok (.putfield 519, 3) := by decide +kernel
theorem dX12_clear_10 : decode cX12_clear 10 = .ok (.iload_n 1, 1) := by decide +kernel
theorem dX12_clear_11 : decode cX12_clear 11 = .ok (.ireturn, 1) := by decide +kernel
theorem dX11_run_0 : decode cX11_run 0 = .ok (.aload_n 0, 1) := by decide +kernel
theorem dX11_run_1 : decode cX11_run 1 = .ok (.getfield 92, 3) := by decide +kernel
theorem dX11_run_4 : decode cX11_run 4 = .ok (.ifnull 15, 3) := by decide +kernel
theorem dX11_run_19 : decode cX11_run 19 = .ok (.iconst (-1), 1) := by decide +kernel
theorem dX11_run_20 : decode cX11_run 20 = .ok (.ireturn, 1) := by decide +kernel
theorem dX12_run_0 : decode cX12_run 0 = .ok (.iload_n 2, 1) := by decide +kernel
theorem dX12_run_1 : decode cX12_run 1 = .ok (.iconst 1, 1) := by decide +kernel
theorem dX12_run_2 : decode cX12_run 2 = .ok (.if_icmp .lt 31, 3) := by decide +kernel
theorem dX12_run_5 : decode cX12_run 5 = .ok (.iload_n 2, 1) := by decide +kernel
theorem dX12_run_6 : decode cX12_run 6 = .ok (.sipush 5000, 3) := by decide +kernel
theorem dX12_run_9 : decode cX12_run 9 = .ok (.if_icmp .gt 24, 3) := by decide +kernel
theorem dX12_run_12 : decode cX12_run 12 = .ok (.iload_n 1, 1) := by decide +kernel
theorem dX12_run_13 : decode cX12_run 13 = .ok (.ifCond .eq 13, 3) := by decide +kernel
theorem dX12_run_16 : decode cX12_run 16 = .ok (.aload_n 0, 1) := by decide +kernel
theorem dX12_run_17 : decode cX12_run 17 = .ok (.getfield 378, 3) := by decide +kernel
theorem dX12_run_20 : decode cX12_run 20 = .ok (.ifCond .eq 13, 3) := by decide +kernel
theorem dX12_run_26 : decode cX12_run 26 = .ok (.aload_n 0, 1) := by decide +kernel
theorem dX12_run_27 : decode cX12_run 27 = .ok (.getfield 359, 3) := by decide +kernel
theorem dX12_run_30 : decode cX12_run 30 = .ok (.ifCond .ne 5, 3) := by decide +kernel
theorem dX12_run_33 : decode cX12_run 33 = .ok (.iconst (-1), 1) := by decide +kernel
theorem dX12_run_34 : decode cX12_run 34 = .ok (.ireturn, 1) := by decide +kernel
theorem dX11_told_0 : decode cX11_told 0 = .ok (.iload_n 1, 1) := by decide +kernel
theorem dX11_told_1 : decode cX11_told 1 = .ok (.ifCond .eq 10, 3) := by decide +kernel
theorem dX11_told_4 : decode cX11_told 4 = .ok (.aload_n 0, 1) := by decide +kernel
theorem dX11_told_5 : decode cX11_told 5 = .ok (.getfield 116, 3) := by decide +kernel
theorem dX11_told_8 : decode cX11_told 8 = .ok (.goto 7, 3) := by decide +kernel
theorem dX11_told_11 : decode cX11_told 11 = .ok (.aload_n 0, 1) := by decide +kernel
theorem dX11_told_12 : decode cX11_told 12 = .ok (.getfield 107, 3) := by decide +kernel
theorem dX11_told_15 : decode cX11_told 15 = .ok (.astore_n 3, 1) := by decide +kernel
theorem dX11_told_16 : decode cX11_told 16 = .ok (.aload_n 3, 1) := by decide +kernel
theorem dX11_told_17 : decode cX11_told 17 = .ok (.ifnonnull 7, 3) := by decide +kernel
end
section
theorem dX11_told_20 : decode cX11_told 20 = .ok (.iconst (-1), 1) := by decide +kernel
theorem dX11_told_21 : decode cX11_told 21 = .ok (.goto 8, 3) := by decide +kernel
theorem dX11_told_29 : decode cX11_told 29 = .ok (.ireturn, 1) := by decide +kernel
theorem dX12_told_0 : decode cX12_told 0 = .ok (.iload_n 1, 1) := by decide +kernel
theorem dX12_told_1 : decode cX12_told 1 = .ok (.ifCond .eq 7, 3) := by decide +kernel
theorem dX12_told_4 : decode cX12_told 4 = .ok (.iconst 1, 1) := by decide +kernel
theorem dX12_told_5 : decode cX12_told 5 = .ok (.goto 4, 3) := by decide +kernel
theorem dX12_told_8 : decode cX12_told 8 = .ok (.iconst 0, 1) := by decide +kernel
theorem dX12_told_9 : decode cX12_told 9 = .ok (.istore_n 3, 1) := by decide +kernel
theorem dX12_told_10 : decode cX12_told 10 = .ok (.aload_n 0, 1) := by decide +kernel
theorem dX12_told_11 : decode cX12_told 11 = .ok (.getfield 248, 3) := by decide +kernel
theorem dX12_told_14 : decode cX12_told 14 = .ok (.iload_n 3, 1) := by decide +kernel
theorem dX12_told_15 : decode cX12_told 15 = .ok (.baload, 1) := by decide +kernel
theorem dX12_told_16 : decode cX12_told 16 = .ok (.ifCond .ne 5, 3) := by decide +kernel
theorem dX12_told_19 : decode cX12_told 19 = .ok (.iconst (-1), 1) := by decide +kernel
theorem dX12_told_20 : decode cX12_told 20 = .ok (.ireturn, 1) := by decide +kernel
theorem dX11_output_0 : decode cX11_output 0 = .ok (.iload_n 1, 1) := by decide +kernel
theorem dX11_output_1 : decode cX11_output 1 = .ok (.ifCond .eq 10, 3) := by decide +kernel
theorem dX11_output_4 : decode cX11_output 4 = .ok (.aload_n 0, 1) := by decide +kernel
theorem dX11_output_5 : decode cX11_output 5 = .ok (.getfield 116, 3) := by decide +kernel
theorem dX11_output_8 : decode cX11_output 8 = .ok (.goto 7, 3) := by decide +kernel
theorem dX11_output_11 : decode cX11_output 11 = .ok (.aload_n 0, 1) := by decide +kernel
theorem dX11_output_12 : decode cX11_output 12 = .ok (.getfield 107, 3) := by decide +kernel
theorem dX11_output_15 : decode cX11_output 15 = .ok (.astore_n 3, 1) := by decide +kernel
theorem dX11_output_16 : decode cX11_output 16 = .ok (.aload_n 3, 1) := by decide +kernel
theorem dX11_output_17 : decode cX11_output 17 = .ok (.ifnonnull 7, 3) := by decide +kernel
theorem dX11_output_20 : decode cX11_output 20 = .ok (.iconst 0, 1) := by decide +kernel
theorem dX11_output_21 : decode cX11_output 21 = .ok (.goto 8, 3) := by decide +kernel
theorem dX11_output_29 : decode cX11_output 29 = .ok (.ireturn, 1) := by decide +kernel
theorem dX12_output_0 : decode cX12_output 0 = .ok (.iload_n 1, 1) := by decide +kernel
theorem dX12_output_1 : decode cX12_output 1 = .ok (.ifCond .eq 7, 3) := by decide +kernel
theorem dX12_output_4 : decode cX12_output 4 = .ok (.iconst 1, 1) := by decide +kernel
theorem dX12_output_5 : decode cX12_output 5 = .ok (.goto 4, 3) := by decide +kernel
theorem dX12_output_8 : decode cX12_output 8 = .ok (.iconst 0, 1) := by decide +kernel
theorem dX12_output_9 : decode cX12_output 9 = .ok (.istore_n 3, 1) := by decide +kernel
theorem dX12_output_10 : decode cX12_output 10 = .ok (.aload_n 0, 1) := by decide +kernel
theorem dX12_output_11 : decode cX12_output 11 = .ok (.getfield 248, 3) := by decide +kernel
theorem dX12_output_14 : decode cX12_output 14 = .ok (.iload_n 3, 1) := by decide +kernel
theorem dX12_output_15 : decode cX12_output 15 = .ok (.baload, 1) := by decide +kernel
theorem dX12_output_16 : decode cX12_output 16 = .ok (.ifCond .eq 37, 3) := by decide +kernel
theorem dX12_output_53 : decode cX12_output 53 = .ok (.iconst 0, 1) := by decide +kernel
theorem dX12_output_54 : decode cX12_output 54 = .ok (.ireturn, 1) := by decide +kernel
theorem dX11_memory_0 : decode cX11_memory 0 = .ok (.iload_n 1, 1) := by decide +kernel
theorem dX11_memory_1 : decode cX11_memory 1 = .ok (.ifCond .eq 10, 3) := by decide +kernel
theorem dX11_memory_4 : decode cX11_memory 4 = .ok (.aload_n 0, 1) := by decide +kernel
theorem dX11_memory_5 : decode cX11_memory 5 = .ok (.getfield 116, 3) := by decide +kernel
theorem dX11_memory_8 : decode cX11_memory 8 = .ok (.goto 7, 3) := by decide +kernel
theorem dX11_memory_11 : decode cX11_memory 11 = .ok (.aload_n 0, 1) := by decide +kernel
theorem dX11_memory_12 : decode cX11_memory 12 = .ok (.getfield 107, 3) := by decide +kernel
theorem dX11_memory_15 : decode cX11_memory 15 = .ok (.astore_n 3, 1) := by decide +kernel
theorem dX11_memory_16 : decode cX11_memory 16 = .ok (.aload_n 3, 1) := by decide +kernel
theorem dX11_memory_17 : decode cX11_memory 17 = .ok (.ifnonnull 7, 3) := by decide +kernel
theorem dX11_memory_20 : decode cX11_memory 20 = .ok (.iconst 0, 1) := by decide +kernel
theorem dX11_memory_21 : decode cX11_memory 21 = .ok (.goto 8, 3) := by decide +kernel
theorem dX11_memory_29 : decode cX11_memory 29 = .ok (.ireturn, 1) := by decide +kernel
theorem dX12_memory_0 : decode cX12_memory 0 = .ok (.iload_n 1, 1) := by decide +kernel
theorem dX12_memory_1 : decode cX12_memory 1 = .ok (.ifCond .eq 7, 3) := by decide +kernel
theorem dX12_memory_4 : decode cX12_memory 4 = .ok (.iconst 1, 1) := by decide +kernel
theorem dX12_memory_5 : decode cX12_memory 5 = .ok (.goto 4, 3) := by decide +kernel
theorem dX12_memory_8 : decode cX12_memory 8 = .ok (.iconst 0, 1) := by decide +kernel
theorem dX12_memory_9 : decode cX12_memory 9 = .ok (.istore_n 3, 1) := by decide +kernel
theorem dX12_memory_10 : decode cX12_memory 10 = .ok (.aload_n 0, 1) := by decide +kernel
theorem dX12_memory_11 : decode cX12_memory 11 = .ok (.getfield 248, 3) := by decide +kernel
theorem dX12_memory_14 : decode cX12_memory 14 = .ok (.iload_n 3, 1) := by decide +kernel
theorem dX12_memory_15 : decode cX12_memory 15 = .ok (.baload, 1) := by decide +kernel
theorem dX12_memory_16 : decode cX12_memory 16 = .ok (.ifCond .eq 27, 3) := by decide +kernel
theorem dX12_memory_43 : decode cX12_memory 43 = .ok (.iconst 0, 1) := by decide +kernel
theorem dX12_memory_44 : decode cX12_memory 44 = .ok (.ireturn, 1) := by decide +kernel
theorem dX11_count_0 : decode cX11_count 0 = .ok (.iload_n 1, 1) := by decide +kernel
theorem dX11_count_1 : decode cX11_count 1 = .ok (.ifCond .lt 9, 3) := by decide +kernel
theorem dX11_count_4 : decode cX11_count 4 = .ok (.iload_n 1, 1) := by decide +kernel
theorem dX11_count_5 : decode cX11_count 5 = .ok (.bipush 12, 2) := by decide +kernel
theorem dX11_count_7 : decode cX11_count 7 = .ok (.if_icmp .le 5, 3) := by decide +kernel
theorem dX11_count_10 : decode cX11_count 10 = .ok (.iconst (-1), 1) := by decide +kernel
theorem dX11_count_11 : decode cX11_count 11 = .ok (.ireturn, 1) := by decide +kernel
theorem dX11_count_12 : decode cX11_count 12 = .ok (.iload_n 1, 1) := by decide +kernel
theorem dX11_count_13 : decode cX11_count 13 = .ok (.bipush 12, 2) := by decide +kernel
theorem dX11_count_15 : decode cX11_count 15 = .ok (.if_icmp .ne 8, 3) := by decide +kernel
theorem dX11_count_18 : decode cX11_count 18 = .ok (.aload_n 0, 1) := by decide +kernel
theorem dX11_count_19 : decode cX11_count 19 = .ok (.getfield 21, 3) := by decide +kernel
theorem dX11_count_22 : decode cX11_count 22 = .ok (.ireturn, 1) := by decide +kernel
theorem dX11_count_23 : decode cX11_count 23 = .ok (.iload_n 1, 1) := by decide +kernel
theorem dX11_count_24 : decode cX11_count 24 = .ok (.bipush 7, 2) := by decide +kernel
theorem dX11_count_26 : decode cX11_count 26 = .ok (.if_icmp .lt 15, 3) := by decide +kernel
theorem dX11_count_29 : decode cX11_count 29 = .ok (.iload_n 1, 1) := by decide +kernel
theorem dX11_count_30 : decode cX11_count 30 = .ok (.bipush 10, 2) := by decide +kernel
theorem dX11_count_32 : decode cX11_count 32 = .ok (.if_icmp .gt 9, 3) := by decide +kernel
theorem dX11_count_35 : decode cX11_count 35 = .ok (.aload_n 0, 1) := by decide +kernel
theorem dX11_count_36 : decode cX11_count 36 = .ok (.iload_n 1, 1) := by decide +kernel
theorem dX11_count_37 : decode cX11_count 37 = .ok (.invokevirtual 251, 3) := by decide +kernel
theorem dX11_count_40 : decode cX11_count 40 = .ok (.ireturn, 1) := by decide +kernel
theorem dX11_count_41 : decode cX11_count 41 = .ok (.aload_n 0, 1) := by decide +kernel
theorem dX11_count_42 : decode cX11_count 42 = .ok (.getfield 92, 3) := by decide +kernel
theorem dX11_count_45 : decode cX11_count 45 = .ok (.ifnonnull 7, 3) := by decide +kernel
theorem dX11_count_48 : decode cX11_count 48 = .ok (.iconst 0, 1) := by decide +kernel
theorem dX11_count_49 : decode cX11_count 49 = .ok (.goto 11, 3) := by decide +kernel
theorem dX11_count_60 : decode cX11_count 60 = .ok (.ireturn, 1) := by decide +kernel
theorem dX11_countRows_0 : decode cX11_countRows 0 = .ok (.aload_n 0, 1) := by decide +kernel
theorem dX11_countRows_1 : decode cX11_countRows 1 = .ok (.getfield 98, 3) := by decide +kernel
theorem dX11_countRows_4 : decode cX11_countRows 4 = .ok (.ifnonnull 5, 3) := by decide +kernel
theorem dX11_countRows_7 : decode cX11_countRows 7 = .ok (.iconst 0, 1) := by decide +kernel
theorem dX11_countRows_8 : decode cX11_countRows 8 = .ok (.ireturn, 1) := by decide +kernel
theorem dX12_count_0 : decode cX12_count 0 = .ok (.iload_n 1, 1) := by decide +kernel
theorem dX12_count_1 : decode cX12_count 1 = .ok (.ifCond .lt 9, 3) := by decide +kernel
theorem dX12_count_4 : decode cX12_count 4 = .ok (.iload_n 1, 1) := by decide +kernel
theorem dX12_count_5 : decode cX12_count 5 = .ok (.bipush 12, 2) := by decide +kernel
theorem dX12_count_7 : decode cX12_count 7 = .ok (.if_icmp .le 5, 3) := by decide +kernel
theorem dX12_count_10 : decode cX12_count 10 = .ok (.iconst (-1), 1) := by decide +kernel
theorem dX12_count_11 : decode cX12_count 11 = .ok (.ireturn, 1) := by decide +kernel
theorem dX12_count_12 : decode cX12_count 12 = .ok (.iload_n 1, 1) := by decide +kernel
theorem dX12_count_13 : decode cX12_count 13 = .ok (.bipush 12, 2) := by decide +kernel
theorem dX12_count_15 : decode cX12_count 15 = .ok (.if_icmp .ne 8, 3) := by decide +kernel
theorem dX12_count_18 : decode cX12_count 18 = .ok (.aload_n 0, 1) := by decide +kernel
theorem dX12_count_19 : decode cX12_count 19 = .ok (.getfield 285, 3) := by decide +kernel
theorem dX12_count_22 : decode cX12_count 22 = .ok (.ireturn, 1) := by decide +kernel
theorem dX12_count_23 : decode cX12_count 23 = .ok (.aload_n 0, 1) := by decide +kernel
theorem dX12_count_24 : decode cX12_count 24 = .ok (.getfield 359, 3) := by decide +kernel
theorem dX12_count_27 : decode cX12_count 27 = .ok (.ifCond .ne 5, 3) := by decide +kernel
theorem dX12_count_30 : decode cX12_count 30 = .ok (.iconst 0, 1) := by decide +kernel
theorem dX12_count_31 : decode cX12_count 31 = .ok (.ireturn, 1) := by decide +kernel
end
section
def wP_0 : List Cond := [Cond.fieldLink RJ0 38 "java/lang/String" "COMPACT_STRINGS" "Z", Cond.fieldLink RJ0 15 "java/lang/String" "coder" "B", Cond.fieldLink RJ0 9 "java/lang/String" "value" "[B", Cond.initialized RJ0, Cond.code yJ0_coder_7d493 cJ0_coder_7d493 1 (some .byte), Cond.methodLink RJ0 335 yJ0_coder_7d493, Cond.instanceMethod yJ0_coder_7d493, Cond.selects RJ0 yJ0_coder_7d493 yJ0_coder_7d493, Cond.fieldLink RJ0 1053 "jdk/internal/util/Preconditions" "SIOOBE_FORMATTER" "Ljava/util/function/BiFunction;", Cond.initialized RJ3, Cond.code yJ3_checkIndex_8e157 cJ3_checkIndex_8e157 3 (some .int), Cond.methodLink RJ0 1059 yJ3_checkIndex_8e157, Cond.static yJ3_checkIndex_8e157, Cond.code yJ0_checkIndex_df160 cJ0_checkIndex_df160 2 none, Cond.methodLink RJ1 9 yJ0_checkIndex_df160, Cond.static yJ0_checkIndex_df160, Cond.code yJ0_isLatin1_aae02 cJ0_isLatin1_aae02 1 (some .boolean), Cond.methodLink RJ0 492 yJ0_isLatin1_aae02, Cond.instanceMethod yJ0_isLatin1_aae02, Cond.selects RJ0 yJ0_isLatin1_aae02 yJ0_isLatin1_aae02, Cond.initialized RJ1, Cond.code yJ1_charAt_3b067 cJ1_charAt_3b067 2 (some .char), Cond.methodLink RJ0 495 yJ1_charAt_3b067, Cond.static yJ1_charAt_3b067, Cond.classLink RL 7 RX11, Cond.instantiable RX11 15, Cond.initialized RX11, Cond.methodLink RX11 3 objectInit, Cond.instanceMethod objectInit, Cond.code objectInit ⟨#[0xb1]⟩ 1 none]
def wP_1 : List Cond := [Cond.arrayClass .byte, Cond.fieldLink RX11 9 "PaletteHouse" "tape" "[B", Cond.arrayClass .int, Cond.fieldLink RX11 13 "PaletteHouse" "fed" "[I", Cond.fieldLink RX11 17 "PaletteHouse" "faultPlace" "I", Cond.code yX11_init cX11_init 1 none, Cond.methodLink RL 9 yX11_init, Cond.instanceMethod yX11_init, Cond.classLink RL 10 RX12, Cond.instantiable RX12 105, Cond.initialized RX12, Cond.methodLink RX12 7 objectInit, Cond.fieldLink RX12 13 "PaletteHouseModel" "keys" "[I", Cond.fieldLink RX12 17 "PaletteHouseModel" "tape" "[B", Cond.fieldLink RX12 21 "PaletteHouseModel" "text" "[B", Cond.fieldLink RX12 24 "PaletteHouseModel" "tKind" "[I", Cond.fieldLink RX12 27 "PaletteHouseModel" "tPlace" "[I", Cond.fieldLink RX12 30 "PaletteHouseModel" "tValue" "[I", Cond.fieldLink RX12 33 "PaletteHouseModel" "letters" "[B", Cond.fieldLink RX12 36 "PaletteHouseModel" "faultPlace" "I", Cond.fieldLink RX12 39 "PaletteHouseModel" "place" "I", Cond.fieldLink RX12 42 "PaletteHouseModel" "blocks" "[I", Cond.fieldLink RX12 45 "PaletteHouseModel" "values" "[I", Cond.fieldLink RX12 48 "PaletteHouseModel" "insMany" "[I", Cond.fieldLink RX12 51 "PaletteHouseModel" "phis" "[I", Cond.fieldLink RX12 54 "PaletteHouseModel" "arms" "[I", Cond.fieldLink RX12 57 "PaletteHouseModel" "parameters" "[I", Cond.fieldLink RX12 60 "PaletteHouseModel" "slots" "[I", Cond.fieldLink RX12 63 "PaletteHouseModel" "bFirst" "[I", Cond.fieldLink RX12 66 "PaletteHouseModel" "bEnd" "[I"]
def wP_2 : List Cond := [Cond.fieldLink RX12 69 "PaletteHouseModel" "bValue" "[I", Cond.fieldLink RX12 72 "PaletteHouseModel" "bNumber" "[I", Cond.fieldLink RX12 75 "PaletteHouseModel" "bTo" "[I", Cond.fieldLink RX12 78 "PaletteHouseModel" "bElse" "[I", Cond.fieldLink RX12 81 "PaletteHouseModel" "bPhi" "[I", Cond.fieldLink RX12 84 "PaletteHouseModel" "bPhis" "[I", Cond.fieldLink RX12 87 "PaletteHouseModel" "vBlock" "[I", Cond.fieldLink RX12 90 "PaletteHouseModel" "vIns" "[I", Cond.fieldLink RX12 93 "PaletteHouseModel" "vSlot" "[I", Cond.arrayClass .boolean, Cond.fieldLink RX12 96 "PaletteHouseModel" "vLoaded" "[Z", Cond.fieldLink RX12 100 "PaletteHouseModel" "fResult" "[I", Cond.fieldLink RX12 103 "PaletteHouseModel" "fBlock" "[I", Cond.fieldLink RX12 106 "PaletteHouseModel" "fArm" "[I", Cond.fieldLink RX12 109 "PaletteHouseModel" "fArms" "[I", Cond.fieldLink RX12 112 "PaletteHouseModel" "mBlock" "[I", Cond.fieldLink RX12 115 "PaletteHouseModel" "mValue" "[I", Cond.fieldLink RX12 118 "PaletteHouseModel" "mNumber" "[I", Cond.fieldLink RX12 121 "PaletteHouseModel" "iOp" "[I", Cond.fieldLink RX12 124 "PaletteHouseModel" "iResult" "[I", Cond.fieldLink RX12 127 "PaletteHouseModel" "iValue" "[I", Cond.fieldLink RX12 130 "PaletteHouseModel" "iNumber" "[I", Cond.fieldLink RX12 133 "PaletteHouseModel" "iNext" "[I", Cond.fieldLink RX12 136 "PaletteHouseModel" "valueToken" "[I", Cond.fieldLink RX12 139 "PaletteHouseModel" "blockToken" "[I", Cond.fieldLink RX12 142 "PaletteHouseModel" "phiToken" "[I", Cond.fieldLink RX12 145 "PaletteHouseModel" "armToken" "[I", Cond.fieldLink RX12 148 "PaletteHouseModel" "armValToken" "[I", Cond.fieldLink RX12 151 "PaletteHouseModel" "insToken" "[I", Cond.fieldLink RX12 154 "PaletteHouseModel" "endToken" "[I"]
def wP_3 : List Cond := [Cond.fieldLink RX12 157 "PaletteHouseModel" "toToken" "[I", Cond.fieldLink RX12 160 "PaletteHouseModel" "elseToken" "[I", Cond.fieldLink RX12 163 "PaletteHouseModel" "leads" "[Z", Cond.fieldLink RX12 166 "PaletteHouseModel" "dominate" "[I", Cond.fieldLink RX12 169 "PaletteHouseModel" "index" "[I", Cond.fieldLink RX12 172 "PaletteHouseModel" "insBlock" "[I", Cond.fieldLink RX12 175 "PaletteHouseModel" "many" "[I", Cond.fieldLink RX12 178 "PaletteHouseModel" "idom" "[I", Cond.fieldLink RX12 181 "PaletteHouseModel" "orderAt" "[I", Cond.fieldLink RX12 184 "PaletteHouseModel" "order" "[I", Cond.fieldLink RX12 187 "PaletteHouseModel" "pointFrom" "[I", Cond.constant RX12 190 (552200), Cond.fieldLink RX12 191 "PaletteHouseModel" "live" "[Z", Cond.fieldLink RX12 194 "PaletteHouseModel" "pressure" "[I", Cond.fieldLink RX12 197 "PaletteHouseModel" "uses" "[I", Cond.fieldLink RX12 200 "PaletteHouseModel" "waits" "[I", Cond.fieldLink RX12 203 "PaletteHouseModel" "colour" "[I", Cond.fieldLink RX12 206 "PaletteHouseModel" "wanted" "[I", Cond.fieldLink RX12 209 "PaletteHouseModel" "taken" "[Z", Cond.fieldLink RX12 212 "PaletteHouseModel" "rOp" "[I", Cond.fieldLink RX12 215 "PaletteHouseModel" "rTo" "[I", Cond.fieldLink RX12 218 "PaletteHouseModel" "rRegister" "[I", Cond.fieldLink RX12 221 "PaletteHouseModel" "rNumber" "[I", Cond.fieldLink RX12 224 "PaletteHouseModel" "rGo" "[I", Cond.fieldLink RX12 227 "PaletteHouseModel" "rFree" "[Z", Cond.fieldLink RX12 230 "PaletteHouseModel" "blockRow" "[I", Cond.fieldLink RX12 233 "PaletteHouseModel" "endRow" "[I", Cond.fieldLink RX12 236 "PaletteHouseModel" "mTo" "[I", Cond.fieldLink RX12 239 "PaletteHouseModel" "mFrom" "[I", Cond.fieldLink RX12 242 "PaletteHouseModel" "mLeft" "[Z"]
def wP_4 : List Cond := [Cond.fieldLink RX12 245 "PaletteHouseModel" "given" "[I", Cond.fieldLink RX12 248 "PaletteHouseModel" "hasRun" "[Z", Cond.fieldLink RX12 251 "PaletteHouseModel" "stopped" "[I", Cond.fieldLink RX12 254 "PaletteHouseModel" "stepped" "[I", Cond.fieldLink RX12 257 "PaletteHouseModel" "told" "[I", Cond.fieldLink RX12 260 "PaletteHouseModel" "out" "[I", Cond.fieldLink RX12 263 "PaletteHouseModel" "tookIn" "[I", Cond.fieldLink RX12 266 "PaletteHouseModel" "outputs" "[I", Cond.fieldLink RX12 269 "PaletteHouseModel" "memories" "[I", Cond.fieldLink RX12 272 "PaletteHouseModel" "holds" "[I", Cond.fieldLink RX12 275 "PaletteHouseModel" "inSlot" "[I", Cond.fieldLink RX12 278 "PaletteHouseModel" "aside" "[I", Cond.code yX12_word cX12_word 4 (some .int), Cond.methodLink RX12 281 yX12_word, Cond.static yX12_word, Cond.code yX12_init cX12_init 1 none, Cond.methodLink RL 12 yX12_init, Cond.instanceMethod yX12_init, Cond.fieldLink RX11 21 "PaletteHouse" "length" "I", Cond.code yX11_append cX11_append 3 none, Cond.methodLink RX11 24 yX11_append, Cond.instanceMethod yX11_append, Cond.selects RX11 yX11_append yX11_append, Cond.code yX11_feed cX11_feed 6 (some .int), Cond.methodLink RL 13 yX11_feed, Cond.instanceMethod yX11_feed, Cond.selects RX11 yX11_feed yX11_feed, Cond.fieldLink RX12 285 "PaletteHouseModel" "taped" "I", Cond.code yX12_put cX12_put 3 none, Cond.methodLink RX12 288 yX12_put]
def wP_5 : List Cond := [Cond.instanceMethod yX12_put, Cond.selects RX12 yX12_put yX12_put, Cond.code yX12_feed cX12_feed 6 (some .int), Cond.methodLink RL 17 yX12_feed, Cond.instanceMethod yX12_feed, Cond.selects RX12 yX12_feed yX12_feed, Cond.code yX11_back cX11_back 2 (some .int), Cond.methodLink RL 18 yX11_back, Cond.instanceMethod yX11_back, Cond.selects RX11 yX11_back yX11_back, Cond.code yX12_back cX12_back 2 (some .int), Cond.methodLink RL 22 yX12_back, Cond.instanceMethod yX12_back, Cond.selects RX12 yX12_back yX12_back, Cond.fieldLink RX11 28 "PaletteHouse" "text" "LPaletteHouse$Text;", Cond.classLink RX11 32 RX10, Cond.instantiable RX10 7, Cond.initialized RX10, Cond.methodLink RX10 3 objectInit, Cond.classLink RX10 9 RX9, Cond.instantiable RX9 4, Cond.initialized RX9, Cond.methodLink RX9 3 objectInit, Cond.initialized RJ9, Cond.code yJ9_max_7cf53 cJ9_max_7cf53 2 (some .int), Cond.methodLink RX9 9 yJ9_max_7cf53, Cond.static yJ9_max_7cf53, Cond.fieldLink RX9 15 "PaletteHouse$Table" "width" "I", Cond.fieldLink RX9 21 "PaletteHouse$Table" "most" "I", Cond.fieldLink RX9 24 "PaletteHouse$Table" "cells" "[I"]
def wP_6 : List Cond := [Cond.code yX9_init cX9_init 3 none, Cond.methodLink RX10 11 yX9_init, Cond.instanceMethod yX9_init, Cond.fieldLink RX10 14 "PaletteHouse$Text" "tokens" "LPaletteHouse$Table;", Cond.arrayClass .long, Cond.fieldLink RX10 20 "PaletteHouse$Text" "names" "[J", Cond.fieldLink RX10 24 "PaletteHouse$Text" "words" "[J", Cond.fieldLink RX10 27 "PaletteHouse$Text" "worstPlace" "I", Cond.code yJ0_length_8abf5 cJ0_length_8abf5 1 (some .int), Cond.methodLink RX10 33 yJ0_length_8abf5, Cond.instanceMethod yJ0_length_8abf5, Cond.selects RJ0 yJ0_length_8abf5 yJ0_length_8abf5, Cond.code yJ0_charAt_5068e cJ0_charAt_5068e 2 (some .char), Cond.methodLink RX10 39 yJ0_charAt_5068e, Cond.instanceMethod yJ0_charAt_5068e, Cond.selects RJ0 yJ0_charAt_5068e yJ0_charAt_5068e, Cond.constantLong RX10 43 (37), Cond.code yX10_init cX10_init 6 none, Cond.methodLink RX11 34 yX10_init, Cond.instanceMethod yX10_init, Cond.fieldLink RX11 35 "PaletteHouse" "parser" "LPaletteHouse$Parser;", Cond.classLink RX11 39 RX6, Cond.instantiable RX6 6, Cond.initialized RX6, Cond.methodLink RX6 3 objectInit, Cond.fieldLink RX6 9 "PaletteHouse$Parser" "text" "LPaletteHouse$Text;", Cond.fieldLink RX6 21 "PaletteHouse$Parser" "tokens" "LPaletteHouse$Table;", Cond.code yX6_init cX6_init 2 none, Cond.methodLink RX11 41 yX6_init, Cond.instanceMethod yX6_init]
def wP_7 : List Cond := [Cond.fieldLink RX11 44 "PaletteHouse" "judge" "LPaletteHouse$Judge;", Cond.classLink RX11 48 RX2, Cond.instantiable RX2 3, Cond.initialized RX2, Cond.methodLink RX2 3 objectInit, Cond.fieldLink RX2 9 "PaletteHouse$Judge" "text" "LPaletteHouse$Text;", Cond.fieldLink RX2 21 "PaletteHouse$Judge" "tokens" "LPaletteHouse$Table;", Cond.code yX2_init cX2_init 2 none, Cond.methodLink RX11 50 yX2_init, Cond.instanceMethod yX2_init, Cond.fieldLink RX11 51 "PaletteHouse" "spare" "LPaletteHouse$Program;", Cond.classLink RX11 55 RX7, Cond.instantiable RX7 11, Cond.initialized RX7, Cond.methodLink RX7 3 objectInit, Cond.classLink RX7 9 RX9, Cond.methodLink RX7 11 yX9_init, Cond.fieldLink RX7 14 "PaletteHouse$Program" "blocks" "LPaletteHouse$Table;", Cond.fieldLink RX7 20 "PaletteHouse$Program" "ins" "LPaletteHouse$Table;", Cond.fieldLink RX7 23 "PaletteHouse$Program" "phis" "LPaletteHouse$Table;", Cond.fieldLink RX7 26 "PaletteHouse$Program" "arms" "LPaletteHouse$Table;", Cond.fieldLink RX7 29 "PaletteHouse$Program" "values" "LPaletteHouse$Table;", Cond.classLink RX7 32 RX1, Cond.instantiable RX1 8, Cond.initialized RX1, Cond.methodLink RX1 3 objectInit, Cond.fieldLink RX1 9 "PaletteHouse$Graph" "preds" "[I", Cond.fieldLink RX1 15 "PaletteHouse$Graph" "doms" "[I", Cond.fieldLink RX1 18 "PaletteHouse$Graph" "idoms" "[I", Cond.fieldLink RX1 21 "PaletteHouse$Graph" "order" "[I"]
def wP_8 : List Cond := [Cond.fieldLink RX1 24 "PaletteHouse$Graph" "ranks" "[I", Cond.fieldLink RX1 27 "PaletteHouse$Graph" "stack" "[I", Cond.code yX1_init cX1_init 1 none, Cond.instanceMethod yX1_init, Cond.fieldLink RX7 35 "PaletteHouse$Program" "graph" "LPaletteHouse$Graph;", Cond.classLink RX7 39 RX3, Cond.instantiable RX3 12, Cond.initialized RX3, Cond.methodLink RX3 3 objectInit, Cond.fieldLink RX3 9 "PaletteHouse$Life" "begins" "[I", Cond.fieldLink RX3 15 "PaletteHouse$Life" "ends" "[I", Cond.fieldLink RX3 18 "PaletteHouse$Life" "sets" "[J", Cond.fieldLink RX3 22 "PaletteHouse$Life" "pressures" "[I", Cond.fieldLink RX3 25 "PaletteHouse$Life" "current" "[J", Cond.fieldLink RX3 28 "PaletteHouse$Life" "met" "[J", Cond.code yX3_init cX3_init 1 none, Cond.instanceMethod yX3_init, Cond.fieldLink RX7 42 "PaletteHouse$Program" "life" "LPaletteHouse$Life;", Cond.code yX7_init cX7_init 1 none, Cond.instanceMethod yX7_init, Cond.fieldLink RX10 52 "PaletteHouse$Text" "bytes" "[B", Cond.fieldLink RX10 56 "PaletteHouse$Text" "length" "I", Cond.fieldLink RX10 45 "PaletteHouse$Text" "worst" "I", Cond.fieldLink RX9 28 "PaletteHouse$Table" "size" "I", Cond.code yX9_cut cX9_cut 1 none, Cond.methodLink RX10 58 yX9_cut, Cond.instanceMethod yX9_cut, Cond.selects RX9 yX9_cut yX9_cut, Cond.code yX10_skipBlanks cX10_skipBlanks 3 (some .int), Cond.methodLink RX10 61 yX10_skipBlanks]
def wP_9 : List Cond := [Cond.instanceMethod yX10_skipBlanks, Cond.selects RX10 yX10_skipBlanks yX10_skipBlanks, Cond.code yX10_byteAt cX10_byteAt 2 (some .int), Cond.methodLink RX10 68 yX10_byteAt, Cond.instanceMethod yX10_byteAt, Cond.selects RX10 yX10_byteAt yX10_byteAt, Cond.code yX10_isLetter cX10_isLetter 1 (some .boolean), Cond.methodLink RX10 75 yX10_isLetter, Cond.static yX10_isLetter, Cond.code yX10_isDigit cX10_isDigit 1 (some .boolean), Cond.methodLink RX10 81 yX10_isDigit, Cond.static yX10_isDigit, Cond.initialized RJ7, Cond.code yJ7_rangeCheck_23922 cJ7_rangeCheck_23922 3 none, Cond.methodLink RJ7 13 yJ7_rangeCheck_23922, Cond.static yJ7_rangeCheck_23922, Cond.code yJ7_fill_fda19 cJ7_fill_fda19 5 none, Cond.methodLink RX9 31 yJ7_fill_fda19, Cond.static yJ7_fill_fda19, Cond.code yX9_add cX9_add 1 (some .int), Cond.methodLink RX10 94 yX9_add, Cond.instanceMethod yX9_add, Cond.selects RX9 yX9_add yX9_add, Cond.code yX9_set cX9_set 4 none, Cond.methodLink RX10 97 yX9_set, Cond.instanceMethod yX9_set, Cond.selects RX9 yX9_set yX9_set, Cond.code yX10_keep cX10_keep 7 none, Cond.methodLink RX10 90 yX10_keep, Cond.instanceMethod yX10_keep]
def wP_10 : List Cond := [Cond.selects RX10 yX10_keep yX10_keep, Cond.code yX10_scanToken cX10_scanToken 3 (some .int), Cond.methodLink RX10 65 yX10_scanToken, Cond.instanceMethod yX10_scanToken, Cond.selects RX10 yX10_scanToken yX10_scanToken, Cond.code yX9_at cX9_at 3 (some .int), Cond.methodLink RX10 48 yX9_at, Cond.instanceMethod yX9_at, Cond.selects RX9 yX9_at yX9_at, Cond.code yX10_scan cX10_scan 7 none, Cond.methodLink RX11 58 yX10_scan, Cond.instanceMethod yX10_scan, Cond.selects RX10 yX10_scan yX10_scan, Cond.fieldLink RX6 22 "PaletteHouse$Parser" "program" "LPaletteHouse$Program;", Cond.methodLink RX7 46 yX9_cut, Cond.fieldLink RX7 49 "PaletteHouse$Program" "parameters" "I", Cond.fieldLink RX7 53 "PaletteHouse$Program" "texted" "I", Cond.fieldLink RX7 56 "PaletteHouse$Program" "slots" "I", Cond.fieldLink RX7 59 "PaletteHouse$Program" "coloured" "Z", Cond.code yX7_reset cX7_reset 1 none, Cond.methodLink RX6 26 yX7_reset, Cond.instanceMethod yX7_reset, Cond.selects RX7 yX7_reset yX7_reset, Cond.fieldLink RX6 31 "PaletteHouse$Parser" "at" "I", Cond.fieldLink RX6 35 "PaletteHouse$Parser" "items" "I", Cond.fieldLink RX6 38 "PaletteHouse$Parser" "fault" "I", Cond.methodLink RX6 48 yX9_at, Cond.code yX6_refuse cX6_refuse 2 (some .boolean), Cond.methodLink RX6 67 yX6_refuse, Cond.instanceMethod yX6_refuse]
def wP_11 : List Cond := [Cond.selects RX6 yX6_refuse yX6_refuse, Cond.code yX6_wants cX6_wants 2 (some .boolean), Cond.methodLink RX6 71 yX6_wants, Cond.instanceMethod yX6_wants, Cond.selects RX6 yX6_wants yX6_wants, Cond.code yX6_take cX6_take 3 (some .boolean), Cond.methodLink RX6 74 yX6_take, Cond.instanceMethod yX6_take, Cond.selects RX6 yX6_take yX6_take, Cond.code yX6_takeHead cX6_takeHead 3 (some .boolean), Cond.methodLink RX6 41 yX6_takeHead, Cond.instanceMethod yX6_takeHead, Cond.selects RX6 yX6_takeHead yX6_takeHead, Cond.code yX10_blame cX10_blame 4 none, Cond.methodLink RX6 53 yX10_blame, Cond.instanceMethod yX10_blame, Cond.selects RX10 yX10_blame yX10_blame, Cond.fieldLink RX6 57 "PaletteHouse$Program" "values" "LPaletteHouse$Table;", Cond.code yX9_size cX9_size 1 (some .int), Cond.methodLink RX6 60 yX9_size, Cond.instanceMethod yX9_size, Cond.selects RX9 yX9_size yX9_size, Cond.fieldLink RX6 64 "PaletteHouse$Program" "texted" "I", Cond.code yX6_accepts cX6_accepts 5 (some .boolean), Cond.methodLink RX11 62 yX6_accepts, Cond.instanceMethod yX6_accepts, Cond.selects RX6 yX6_accepts yX6_accepts, Cond.code yX10_worstPlace cX10_worstPlace 1 (some .int), Cond.methodLink RX11 70 yX10_worstPlace, Cond.instanceMethod yX10_worstPlace]
def wP_12 : List Cond := [Cond.selects RX10 yX10_worstPlace yX10_worstPlace, Cond.code yX10_worst cX10_worst 1 (some .int), Cond.methodLink RX11 74 yX10_worst, Cond.instanceMethod yX10_worst, Cond.selects RX10 yX10_worst yX10_worst, Cond.code yX11_read cX11_read 1 (some .int), Cond.methodLink RL 23 yX11_read, Cond.instanceMethod yX11_read, Cond.selects RX11 yX11_read yX11_read, Cond.fieldLink RX12 292 "PaletteHouseModel" "size" "I", Cond.fieldLink RX12 295 "PaletteHouseModel" "tokens" "I", Cond.code yX12_at cX12_at 2 (some .int), Cond.methodLink RX12 298 yX12_at, Cond.instanceMethod yX12_at, Cond.selects RX12 yX12_at yX12_at, Cond.code yX12_token cX12_token 4 none, Cond.methodLink RX12 302 yX12_token, Cond.instanceMethod yX12_token, Cond.selects RX12 yX12_token yX12_token, Cond.code yX12_cut cX12_cut 4 none, Cond.methodLink RX12 347 yX12_cut, Cond.instanceMethod yX12_cut, Cond.selects RX12 yX12_cut yX12_cut, Cond.fieldLink RX12 335 "PaletteHouseModel" "t" "I", Cond.fieldLink RX12 332 "PaletteHouseModel" "fault" "I", Cond.fieldLink RX12 384 "PaletteHouseModel" "things" "I", Cond.code yX12_is cX12_is 2 (some .boolean), Cond.methodLink RX12 341 yX12_is, Cond.instanceMethod yX12_is, Cond.selects RX12 yX12_is yX12_is]
def wP_13 : List Cond := [Cond.code yX12_fail cX12_fail 2 none, Cond.methodLink RX12 338 yX12_fail, Cond.instanceMethod yX12_fail, Cond.selects RX12 yX12_fail yX12_fail, Cond.code yX12_must cX12_must 2 none, Cond.methodLink RX12 387 yX12_must, Cond.instanceMethod yX12_must, Cond.selects RX12 yX12_must yX12_must, Cond.code yX12_parse cX12_parse 3 none, Cond.methodLink RX12 350 yX12_parse, Cond.instanceMethod yX12_parse, Cond.selects RX12 yX12_parse yX12_parse, Cond.fieldLink RX12 359 "PaletteHouseModel" "hasFunction" "Z", Cond.code yX12_read cX12_read 2 (some .int), Cond.methodLink RL 27 yX12_read, Cond.instanceMethod yX12_read, Cond.selects RX12 yX12_read yX12_read, Cond.code yX11_place cX11_place 1 (some .int), Cond.methodLink RL 28 yX11_place, Cond.instanceMethod yX11_place, Cond.selects RX11 yX11_place yX11_place, Cond.code yX12_place cX12_place 1 (some .int), Cond.methodLink RL 31 yX12_place, Cond.instanceMethod yX12_place, Cond.selects RX12 yX12_place yX12_place, Cond.fieldLink RX11 92 "PaletteHouse" "now" "LPaletteHouse$Program;", Cond.code yX11_block cX11_block 3 (some .int), Cond.methodLink RL 32 yX11_block, Cond.instanceMethod yX11_block, Cond.selects RX11 yX11_block yX11_block]
def wP_14 : List Cond := [Cond.code yX12_block_ cX12_block_ 5 (some .int), Cond.methodLink RL 36 yX12_block_, Cond.instanceMethod yX12_block_, Cond.selects RX12 yX12_block_ yX12_block_, Cond.code yX11_value cX11_value 3 (some .int), Cond.methodLink RL 37 yX11_value, Cond.instanceMethod yX11_value, Cond.selects RX11 yX11_value yX11_value, Cond.code yX12_value cX12_value 5 (some .int), Cond.methodLink RL 40 yX12_value, Cond.instanceMethod yX12_value, Cond.selects RX12 yX12_value yX12_value, Cond.code yX11_ins cX11_ins 4 (some .int), Cond.methodLink RL 41 yX11_ins, Cond.instanceMethod yX11_ins, Cond.selects RX11 yX11_ins yX11_ins, Cond.code yX12_insAt cX12_insAt 5 (some .int), Cond.methodLink RX12 464 yX12_insAt, Cond.instanceMethod yX12_insAt, Cond.selects RX12 yX12_insAt yX12_insAt, Cond.code yX12_ins cX12_ins 5 (some .int), Cond.methodLink RL 45 yX12_ins, Cond.instanceMethod yX12_ins, Cond.selects RX12 yX12_ins yX12_ins, Cond.code yX11_live cX11_live 4 (some .boolean), Cond.methodLink RL 46 yX11_live, Cond.instanceMethod yX11_live, Cond.selects RX11 yX11_live yX11_live, Cond.code yX12_pointAt cX12_pointAt 3 (some .int), Cond.methodLink RX12 467 yX12_pointAt]
def wP_15 : List Cond := [Cond.instanceMethod yX12_pointAt, Cond.selects RX12 yX12_pointAt yX12_pointAt, Cond.code yX12_live cX12_live 5 (some .boolean), Cond.methodLink RL 50 yX12_live, Cond.instanceMethod yX12_live, Cond.selects RX12 yX12_live yX12_live, Cond.code yX11_pressure cX11_pressure 3 (some .int), Cond.methodLink RL 51 yX11_pressure, Cond.instanceMethod yX11_pressure, Cond.selects RX11 yX11_pressure yX11_pressure, Cond.code yX12_pressure cX12_pressure 4 (some .int), Cond.methodLink RL 54 yX12_pressure, Cond.instanceMethod yX12_pressure, Cond.selects RX12 yX12_pressure yX12_pressure, Cond.code yX11_clique cX11_clique 2 (some .int), Cond.methodLink RL 55 yX11_clique, Cond.instanceMethod yX11_clique, Cond.selects RX11 yX11_clique yX11_clique, Cond.code yX12_clique cX12_clique 4 (some .int), Cond.methodLink RL 58 yX12_clique, Cond.instanceMethod yX12_clique, Cond.selects RX12 yX12_clique yX12_clique, Cond.code yX11_meet cX11_meet 3 (some .boolean), Cond.methodLink RL 59 yX11_meet, Cond.instanceMethod yX11_meet, Cond.selects RX11 yX11_meet yX11_meet, Cond.code yX12_isValue cX12_isValue 2 (some .boolean), Cond.methodLink RX12 470 yX12_isValue, Cond.instanceMethod yX12_isValue, Cond.selects RX12 yX12_isValue yX12_isValue]
def wP_16 : List Cond := [Cond.code yX12_meet cX12_meet 4 (some .boolean), Cond.methodLink RL 63 yX12_meet, Cond.instanceMethod yX12_meet, Cond.selects RX12 yX12_meet yX12_meet, Cond.code yX11_fit cX11_fit 3 (some .int), Cond.methodLink RL 64 yX11_fit, Cond.instanceMethod yX11_fit, Cond.selects RX11 yX11_fit yX11_fit, Cond.code yX12_fit cX12_fit 6 (some .int), Cond.methodLink RL 67 yX12_fit, Cond.instanceMethod yX12_fit, Cond.selects RX12 yX12_fit yX12_fit, Cond.code yX11_colour cX11_colour 2 (some .int), Cond.methodLink RL 68 yX11_colour, Cond.instanceMethod yX11_colour, Cond.selects RX11 yX11_colour yX11_colour, Cond.code yX12_colour cX12_colour 6 (some .int), Cond.methodLink RL 71 yX12_colour, Cond.instanceMethod yX12_colour, Cond.selects RX12 yX12_colour yX12_colour, Cond.code yX11_lower cX11_lower 1 (some .int), Cond.methodLink RL 72 yX11_lower, Cond.instanceMethod yX11_lower, Cond.selects RX11 yX11_lower yX11_lower, Cond.fieldLink RX12 375 "PaletteHouseModel" "hasColours" "Z", Cond.code yX12_lower cX12_lower 4 (some .int), Cond.methodLink RL 75 yX12_lower, Cond.instanceMethod yX12_lower, Cond.selects RX12 yX12_lower yX12_lower, Cond.fieldLink RX11 98 "PaletteHouse" "rows" "LPaletteHouse$Code;"]
def wP_17 : List Cond := [Cond.code yX11_code cX11_code 3 (some .int), Cond.methodLink RL 76 yX11_code, Cond.instanceMethod yX11_code, Cond.selects RX11 yX11_code yX11_code, Cond.fieldLink RX12 378 "PaletteHouseModel" "hasCode" "Z", Cond.code yX12_code cX12_code 3 (some .int), Cond.methodLink RL 79 yX12_code, Cond.instanceMethod yX12_code, Cond.selects RX12 yX12_code yX12_code, Cond.fieldLink RX11 216 "PaletteHouse" "fedCount" "I", Cond.code yX11_input cX11_input 2 (some .int), Cond.methodLink RL 80 yX11_input, Cond.instanceMethod yX11_input, Cond.selects RX11 yX11_input yX11_input, Cond.fieldLink RX12 519 "PaletteHouseModel" "givenMany" "I", Cond.code yX12_input cX12_input 2 (some .int), Cond.methodLink RL 83 yX12_input, Cond.instanceMethod yX12_input, Cond.selects RX12 yX12_input yX12_input, Cond.code yX11_clear cX11_clear 2 (some .int), Cond.methodLink RL 84 yX11_clear, Cond.instanceMethod yX11_clear, Cond.selects RX11 yX11_clear yX11_clear, Cond.code yX12_clear cX12_clear 2 (some .int), Cond.methodLink RL 87 yX12_clear, Cond.instanceMethod yX12_clear, Cond.selects RX12 yX12_clear yX12_clear, Cond.code yX11_run cX11_run 3 (some .int), Cond.methodLink RL 88 yX11_run, Cond.instanceMethod yX11_run]
def wP_18 : List Cond := [Cond.selects RX11 yX11_run yX11_run, Cond.code yX12_run cX12_run 5 (some .int), Cond.methodLink RL 92 yX12_run, Cond.instanceMethod yX12_run, Cond.selects RX12 yX12_run yX12_run, Cond.fieldLink RX11 107 "PaletteHouse" "plain" "LPaletteHouse$Machine;", Cond.code yX11_told cX11_told 4 (some .int), Cond.methodLink RL 93 yX11_told, Cond.instanceMethod yX11_told, Cond.selects RX11 yX11_told yX11_told, Cond.code yX12_told cX12_told 4 (some .int), Cond.methodLink RL 96 yX12_told, Cond.instanceMethod yX12_told, Cond.selects RX12 yX12_told yX12_told, Cond.fieldLink RX11 116 "PaletteHouse" "coded" "LPaletteHouse$Machine;", Cond.code yX11_output cX11_output 4 (some .int), Cond.methodLink RL 97 yX11_output, Cond.instanceMethod yX11_output, Cond.selects RX11 yX11_output yX11_output, Cond.code yX12_output cX12_output 4 (some .int), Cond.methodLink RL 100 yX12_output, Cond.instanceMethod yX12_output, Cond.selects RX12 yX12_output yX12_output, Cond.code yX11_memory cX11_memory 4 (some .int), Cond.methodLink RL 101 yX11_memory, Cond.instanceMethod yX11_memory, Cond.selects RX11 yX11_memory yX11_memory, Cond.code yX12_memory cX12_memory 4 (some .int), Cond.methodLink RL 104 yX12_memory, Cond.instanceMethod yX12_memory]
def wP_19 : List Cond := [Cond.selects RX12 yX12_memory yX12_memory, Cond.code yX11_countRows cX11_countRows 2 (some .int), Cond.methodLink RX11 251 yX11_countRows, Cond.instanceMethod yX11_countRows, Cond.selects RX11 yX11_countRows yX11_countRows, Cond.code yX11_count cX11_count 2 (some .int), Cond.methodLink RL 105 yX11_count, Cond.instanceMethod yX11_count, Cond.selects RX11 yX11_count yX11_count, Cond.code yX12_count cX12_count 2 (some .int), Cond.methodLink RL 108 yX12_count, Cond.instanceMethod yX12_count, Cond.selects RX12 yX12_count yX12_count]
def wP : List Cond := wP_0 ++ (wP_1 ++ (wP_2 ++ (wP_3 ++ (wP_4 ++ (wP_5 ++ (wP_6 ++ (wP_7 ++ (wP_8 ++ (wP_9 ++ (wP_10 ++ (wP_11 ++ (wP_12 ++ (wP_13 ++ (wP_14 ++ (wP_15 ++ (wP_16 ++ (wP_17 ++ (wP_18 ++ (wP_19 ++ (uX1 ++ (uX2 ++ (uX3 ++ (uX6 ++ (uX7 ++ (uX9 ++ (uX10 ++ (uX11 ++ (uX12))))))))))))))))))))))))))))
theorem wP_0_in : ∀ w ∈ wP_0, w ∈ wP := fun _ h => List.mem_append_left _ h
theorem wP_1_in : ∀ w ∈ wP_1, w ∈ wP := fun _ h => List.mem_append_right _ (List.mem_append_left _ h)
theorem wP_2_in : ∀ w ∈ wP_2, w ∈ wP := fun _ h => List.mem_append_right _ (List.mem_append_right _ (List.mem_append_left _ h))
theorem wP_3_in : ∀ w ∈ wP_3, w ∈ wP := fun _ h => List.mem_append_right _ (List.mem_append_right _ (List.mem_append_right _ (List.mem_append_left _ h)))
theorem wP_4_in : ∀ w ∈ wP_4, w ∈ wP := fun _ h => List.mem_append_right _ (List.mem_append_right _ (List.mem_append_right _ (List.mem_append_right _ (List.mem_append_left _ h))))
theorem wP_5_in : ∀ w ∈ wP_5, w ∈ wP := fun _ h => List.mem_append_right _ (List.mem_append_right _ (List.mem_append_right _ (List.mem_append_right _ (List.mem_append_right _ (List.mem_append_left _ h)))))
theorem wP_6_in : ∀ w ∈ wP_6, w ∈ wP := fun _ h => List.mem_append_right _ (List.mem_append_right _ (List.mem_append_right _ (List.mem_append_right _ (List.mem_append_right _ (List.mem_append_right _ (List.mem_append_left _ h))))))
theorem wP_7_in : ∀ w ∈ wP_7, w ∈ wP := fun _ h => List.mem_append_right _ (List.mem_append_right _ (List.mem_append_right _ (List.mem_append_right _ (List.mem_append_right _ (List.mem_append_right _ (List.mem_append_right _ (List.mem_append_left _ h)))))))
theorem wP_8_in : ∀ w ∈ wP_8, w ∈ wP := fun _ h => List.mem_append_right _ (List.mem_append_right _ (List.mem_append_right _ (List.mem_append_right _ (List.mem_append_right _ (List.mem_append_right _ (List.mem_append_right _ (List.mem_append_right _ (List.mem_append_left _ h))))))))
theorem wP_9_in : ∀ w ∈ wP_9, w ∈ wP := fun _ h => List.mem_append_right _ (List.mem_append_right _ (List.mem_append_right _ (List.mem_append_right _ (List.mem_append_right _ (List.mem_append_right _ (List.mem_append_right _ (List.mem_append_right _ (List.mem_append_right _ (List.mem_append_left _ h)))))))))
theorem wP_10_in : ∀ w ∈ wP_10, w ∈ wP := fun _ h => List.mem_append_right _ (List.mem_append_right _ (List.mem_append_right _ (List.mem_append_right _ (List.mem_append_right _ (List.mem_append_right _ (List.mem_append_right _ (List.mem_append_right _ (List.mem_append_right _ (List.mem_append_right _ (List.mem_append_left _ h))))))))))
theorem wP_11_in : ∀ w ∈ wP_11, w ∈ wP := fun _ h => List.mem_append_right _ (List.mem_append_right _ (List.mem_append_right _ (List.mem_append_right _ (List.mem_append_right _ (List.mem_append_right _ (List.mem_append_right _ (List.mem_append_right _ (List.mem_append_right _ (List.mem_append_right _ (List.mem_append_right _ (List.mem_append_left _ h)))))))))))
theorem wP_12_in : ∀ w ∈ wP_12, w ∈ wP := fun _ h => List.mem_append_right _ (List.mem_append_right _ (List.mem_append_right _ (List.mem_append_right _ (List.mem_append_right _ (List.mem_append_right _ (List.mem_append_right _ (List.mem_append_right _ (List.mem_append_right _ (List.mem_append_right _ (List.mem_append_right _ (List.mem_append_right _ (List.mem_append_left _ h))))))))))))
theorem wP_13_in : ∀ w ∈ wP_13, w ∈ wP := fun _ h => List.mem_append_right _ (List.mem_append_right _ (List.mem_append_right _ (List.mem_append_right _ (List.mem_append_right _ (List.mem_append_right _ (List.mem_append_right _ (List.mem_append_right _ (List.mem_append_right _ (List.mem_append_right _ (List.mem_append_right _ (List.mem_append_right _ (List.mem_append_right _ (List.mem_append_left _ h)))))))))))))
theorem wP_14_in : ∀ w ∈ wP_14, w ∈ wP := fun _ h => List.mem_append_right _ (List.mem_append_right _ (List.mem_append_right _ (List.mem_append_right _ (List.mem_append_right _ (List.mem_append_right _ (List.mem_append_right _ (List.mem_append_right _ (List.mem_append_right _ (List.mem_append_right _ (List.mem_append_right _ (List.mem_append_right _ (List.mem_append_right _ (List.mem_append_right _ (List.mem_append_left _ h))))))))))))))
theorem wP_15_in : ∀ w ∈ wP_15, w ∈ wP := fun _ h => List.mem_append_right _ (List.mem_append_right _ (List.mem_append_right _ (List.mem_append_right _ (List.mem_append_right _ (List.mem_append_right _ (List.mem_append_right _ (List.mem_append_right _ (List.mem_append_right _ (List.mem_append_right _ (List.mem_append_right _ (List.mem_append_right _ (List.mem_append_right _ (List.mem_append_right _ (List.mem_append_right _ (List.mem_append_left _ h)))))))))))))))
theorem wP_16_in : ∀ w ∈ wP_16, w ∈ wP := fun _ h => List.mem_append_right _ (List.mem_append_right _ (List.mem_append_right _ (List.mem_append_right _ (List.mem_append_right _ (List.mem_append_right _ (List.mem_append_right _ (List.mem_append_right _ (List.mem_append_right _ (List.mem_append_right _ (List.mem_append_right _ (List.mem_append_right _ (List.mem_append_right _ (List.mem_append_right _ (List.mem_append_right _ (List.mem_append_right _ (List.mem_append_left _ h))))))))))))))))
theorem wP_17_in : ∀ w ∈ wP_17, w ∈ wP := fun _ h => List.mem_append_right _ (List.mem_append_right _ (List.mem_append_right _ (List.mem_append_right _ (List.mem_append_right _ (List.mem_append_right _ (List.mem_append_right _ (List.mem_append_right _ (List.mem_append_right _ (List.mem_append_right _ (List.mem_append_right _ (List.mem_append_right _ (List.mem_append_right _ (List.mem_append_right _ (List.mem_append_right _ (List.mem_append_right _ (List.mem_append_right _ (List.mem_append_left _ h)))))))))))))))))
theorem wP_18_in : ∀ w ∈ wP_18, w ∈ wP := fun _ h => List.mem_append_right _ (List.mem_append_right _ (List.mem_append_right _ (List.mem_append_right _ (List.mem_append_right _ (List.mem_append_right _ (List.mem_append_right _ (List.mem_append_right _ (List.mem_append_right _ (List.mem_append_right _ (List.mem_append_right _ (List.mem_append_right _ (List.mem_append_right _ (List.mem_append_right _ (List.mem_append_right _ (List.mem_append_right _ (List.mem_append_right _ (List.mem_append_right _ (List.mem_append_left _ h))))))))))))))))))
theorem wP_19_in : ∀ w ∈ wP_19, w ∈ wP := fun _ h => List.mem_append_right _ (List.mem_append_right _ (List.mem_append_right _ (List.mem_append_right _ (List.mem_append_right _ (List.mem_append_right _ (List.mem_append_right _ (List.mem_append_right _ (List.mem_append_right _ (List.mem_append_right _ (List.mem_append_right _ (List.mem_append_right _ (List.mem_append_right _ (List.mem_append_right _ (List.mem_append_right _ (List.mem_append_right _ (List.mem_append_right _ (List.mem_append_right _ (List.mem_append_right _ (List.mem_append_left _ h)))))))))))))))))))
theorem inX1 : ∀ w ∈ u_ws RX1 TX1 8, w ∈ wP := fun _ h => List.mem_append_right _ (List.mem_append_right _ (List.mem_append_right _ (List.mem_append_right _ (List.mem_append_right _ (List.mem_append_right _ (List.mem_append_right _ (List.mem_append_right _ (List.mem_append_right _ (List.mem_append_right _ (List.mem_append_right _ (List.mem_append_right _ (List.mem_append_right _ (List.mem_append_right _ (List.mem_append_right _ (List.mem_append_right _ (List.mem_append_right _ (List.mem_append_right _ (List.mem_append_right _ (List.mem_append_right _ (List.mem_append_left _ h))))))))))))))))))))
theorem inX2 : ∀ w ∈ u_ws RX2 TX2 3, w ∈ wP := fun _ h => List.mem_append_right _ (List.mem_append_right _ (List.mem_append_right _ (List.mem_append_right _ (List.mem_append_right _ (List.mem_append_right _ (List.mem_append_right _ (List.mem_append_right _ (List.mem_append_right _ (List.mem_append_right _ (List.mem_append_right _ (List.mem_append_right _ (List.mem_append_right _ (List.mem_append_right _ (List.mem_append_right _ (List.mem_append_right _ (List.mem_append_right _ (List.mem_append_right _ (List.mem_append_right _ (List.mem_append_right _ (List.mem_append_right _ (List.mem_append_left _ h)))))))))))))))))))))
theorem inX3 : ∀ w ∈ u_ws RX3 TX3 12, w ∈ wP := fun _ h => List.mem_append_right _ (List.mem_append_right _ (List.mem_append_right _ (List.mem_append_right _ (List.mem_append_right _ (List.mem_append_right _ (List.mem_append_right _ (List.mem_append_right _ (List.mem_append_right _ (List.mem_append_right _ (List.mem_append_right _ (List.mem_append_right _ (List.mem_append_right _ (List.mem_append_right _ (List.mem_append_right _ (List.mem_append_right _ (List.mem_append_right _ (List.mem_append_right _ (List.mem_append_right _ (List.mem_append_right _ (List.mem_append_right _ (List.mem_append_right _ (List.mem_append_left _ h))))))))))))))))))))))
theorem inX6 : ∀ w ∈ u_ws RX6 TX6 6, w ∈ wP := fun _ h => List.mem_append_right _ (List.mem_append_right _ (List.mem_append_right _ (List.mem_append_right _ (List.mem_append_right _ (List.mem_append_right _ (List.mem_append_right _ (List.mem_append_right _ (List.mem_append_right _ (List.mem_append_right _ (List.mem_append_right _ (List.mem_append_right _ (List.mem_append_right _ (List.mem_append_right _ (List.mem_append_right _ (List.mem_append_right _ (List.mem_append_right _ (List.mem_append_right _ (List.mem_append_right _ (List.mem_append_right _ (List.mem_append_right _ (List.mem_append_right _ (List.mem_append_right _ (List.mem_append_left _ h)))))))))))))))))))))))
theorem inX7 : ∀ w ∈ u_ws RX7 TX7 11, w ∈ wP := fun _ h => List.mem_append_right _ (List.mem_append_right _ (List.mem_append_right _ (List.mem_append_right _ (List.mem_append_right _ (List.mem_append_right _ (List.mem_append_right _ (List.mem_append_right _ (List.mem_append_right _ (List.mem_append_right _ (List.mem_append_right _ (List.mem_append_right _ (List.mem_append_right _ (List.mem_append_right _ (List.mem_append_right _ (List.mem_append_right _ (List.mem_append_right _ (List.mem_append_right _ (List.mem_append_right _ (List.mem_append_right _ (List.mem_append_right _ (List.mem_append_right _ (List.mem_append_right _ (List.mem_append_right _ (List.mem_append_left _ h))))))))))))))))))))))))
theorem inX9 : ∀ w ∈ u_ws RX9 TX9 4, w ∈ wP := fun _ h => List.mem_append_right _ (List.mem_append_right _ (List.mem_append_right _ (List.mem_append_right _ (List.mem_append_right _ (List.mem_append_right _ (List.mem_append_right _ (List.mem_append_right _ (List.mem_append_right _ (List.mem_append_right _ (List.mem_append_right _ (List.mem_append_right _ (List.mem_append_right _ (List.mem_append_right _ (List.mem_append_right _ (List.mem_append_right _ (List.mem_append_right _ (List.mem_append_right _ (List.mem_append_right _ (List.mem_append_right _ (List.mem_append_right _ (List.mem_append_right _ (List.mem_append_right _ (List.mem_append_right _ (List.mem_append_right _ (List.mem_append_left _ h)))))))))))))))))))))))))
theorem inX10 : ∀ w ∈ u_ws RX10 TX10 7, w ∈ wP := fun _ h => List.mem_append_right _ (List.mem_append_right _ (List.mem_append_right _ (List.mem_append_right _ (List.mem_append_right _ (List.mem_append_right _ (List.mem_append_right _ (List.mem_append_right _ (List.mem_append_right _ (List.mem_append_right _ (List.mem_append_right _ (List.mem_append_right _ (List.mem_append_right _ (List.mem_append_right _ (List.mem_append_right _ (List.mem_append_right _ (List.mem_append_right _ (List.mem_append_right _ (List.mem_append_right _ (List.mem_append_right _ (List.mem_append_right _ (List.mem_append_right _ (List.mem_append_right _ (List.mem_append_right _ (List.mem_append_right _ (List.mem_append_right _ (List.mem_append_left _ h))))))))))))))))))))))))))
theorem inX11 : ∀ w ∈ u_ws RX11 TX11 15, w ∈ wP := fun _ h => List.mem_append_right _ (List.mem_append_right _ (List.mem_append_right _ (List.mem_append_right _ (List.mem_append_right _ (List.mem_append_right _ (List.mem_append_right _ (List.mem_append_right _ (List.mem_append_right _ (List.mem_append_right _ (List.mem_append_right _ (List.mem_append_right _ (List.mem_append_right _ (List.mem_append_right _ (List.mem_append_right _ (List.mem_append_right _ (List.mem_append_right _ (List.mem_append_right _ (List.mem_append_right _ (List.mem_append_right _ (List.mem_append_right _ (List.mem_append_right _ (List.mem_append_right _ (List.mem_append_right _ (List.mem_append_right _ (List.mem_append_right _ (List.mem_append_right _ (List.mem_append_left _ h)))))))))))))))))))))))))))
theorem inX12 : ∀ w ∈ u_ws RX12 TX12 105, w ∈ wP := fun _ h => List.mem_append_right _ (List.mem_append_right _ (List.mem_append_right _ (List.mem_append_right _ (List.mem_append_right _ (List.mem_append_right _ (List.mem_append_right _ (List.mem_append_right _ (List.mem_append_right _ (List.mem_append_right _ (List.mem_append_right _ (List.mem_append_right _ (List.mem_append_right _ (List.mem_append_right _ (List.mem_append_right _ (List.mem_append_right _ (List.mem_append_right _ (List.mem_append_right _ (List.mem_append_right _ (List.mem_append_right _ (List.mem_append_right _ (List.mem_append_right _ (List.mem_append_right _ (List.mem_append_right _ (List.mem_append_right _ (List.mem_append_right _ (List.mem_append_right _ (List.mem_append_right _ (h))))))))))))))))))))))))))))
theorem mP_0 : Cond.fieldLink RJ0 38 "java/lang/String" "COMPACT_STRINGS" "Z" ∈ wP := wP_0_in _ (List.mem_of_getElem? (i := 0) rfl)
theorem mP_1 : Cond.fieldLink RJ0 15 "java/lang/String" "coder" "B" ∈ wP := wP_0_in _ (List.mem_of_getElem? (i := 1) rfl)
theorem mP_2 : Cond.fieldLink RJ0 9 "java/lang/String" "value" "[B" ∈ wP := wP_0_in _ (List.mem_of_getElem? (i := 2) rfl)
theorem mP_3 : Cond.initialized RJ0 ∈ wP := wP_0_in _ (List.mem_of_getElem? (i := 3) rfl)
theorem mP_4 : Cond.code yJ0_coder_7d493 cJ0_coder_7d493 1 (some .byte) ∈ wP := wP_0_in _ (List.mem_of_getElem? (i := 4) rfl)
theorem mP_5 : Cond.methodLink RJ0 335 yJ0_coder_7d493 ∈ wP := wP_0_in _ (List.mem_of_getElem? (i := 5) rfl)
theorem mP_6 : Cond.instanceMethod yJ0_coder_7d493 ∈ wP := wP_0_in _ (List.mem_of_getElem? (i := 6) rfl)
theorem mP_7 : Cond.selects RJ0 yJ0_coder_7d493 yJ0_coder_7d493 ∈ wP := wP_0_in _ (List.mem_of_getElem? (i := 7) rfl)
theorem mP_8 : Cond.fieldLink RJ0 1053 "jdk/internal/util/Preconditions" "SIOOBE_FORMATTER" "Ljava/util/function/BiFunction;" ∈ wP := wP_0_in _ (List.mem_of_getElem? (i := 8) rfl)
theorem mP_9 : Cond.initialized RJ3 ∈ wP := wP_0_in _ (List.mem_of_getElem? (i := 9) rfl)
theorem mP_10 : Cond.code yJ3_checkIndex_8e157 cJ3_checkIndex_8e157 3 (some .int) ∈ wP := wP_0_in _ (List.mem_of_getElem? (i := 10) rfl)
theorem mP_11 : Cond.methodLink RJ0 1059 yJ3_checkIndex_8e157 ∈ wP := wP_0_in _ (List.mem_of_getElem? (i := 11) rfl)
theorem mP_12 : Cond.static yJ3_checkIndex_8e157 ∈ wP := wP_0_in _ (List.mem_of_getElem? (i := 12) rfl)
theorem mP_13 : Cond.code yJ0_checkIndex_df160 cJ0_checkIndex_df160 2 none ∈ wP := wP_0_in _ (List.mem_of_getElem? (i := 13) rfl)
theorem mP_14 : Cond.methodLink RJ1 9 yJ0_checkIndex_df160 ∈ wP := wP_0_in _ (List.mem_of_getElem? (i := 14) rfl)
theorem mP_15 : Cond.static yJ0_checkIndex_df160 ∈ wP := wP_0_in _ (List.mem_of_getElem? (i := 15) rfl)
theorem mP_16 : Cond.code yJ0_isLatin1_aae02 cJ0_isLatin1_aae02 1 (some .boolean) ∈ wP := wP_0_in _ (List.mem_of_getElem? (i := 16) rfl)
theorem mP_17 : Cond.methodLink RJ0 492 yJ0_isLatin1_aae02 ∈ wP := wP_0_in _ (List.mem_of_getElem? (i := 17) rfl)
theorem mP_18 : Cond.instanceMethod yJ0_isLatin1_aae02 ∈ wP := wP_0_in _ (List.mem_of_getElem? (i := 18) rfl)
theorem mP_19 : Cond.selects RJ0 yJ0_isLatin1_aae02 yJ0_isLatin1_aae02 ∈ wP := wP_0_in _ (List.mem_of_getElem? (i := 19) rfl)
theorem mP_20 : Cond.initialized RJ1 ∈ wP := wP_0_in _ (List.mem_of_getElem? (i := 20) rfl)
theorem mP_21 : Cond.code yJ1_charAt_3b067 cJ1_charAt_3b067 2 (some .char) ∈ wP := wP_0_in _ (List.mem_of_getElem? (i := 21) rfl)
theorem mP_22 : Cond.methodLink RJ0 495 yJ1_charAt_3b067 ∈ wP := wP_0_in _ (List.mem_of_getElem? (i := 22) rfl)
theorem mP_23 : Cond.static yJ1_charAt_3b067 ∈ wP := wP_0_in _ (List.mem_of_getElem? (i := 23) rfl)
theorem mP_24 : Cond.classLink RL 7 RX11 ∈ wP := wP_0_in _ (List.mem_of_getElem? (i := 24) rfl)
theorem mP_25 : Cond.instantiable RX11 15 ∈ wP := wP_0_in _ (List.mem_of_getElem? (i := 25) rfl)
theorem mP_26 : Cond.initialized RX11 ∈ wP := wP_0_in _ (List.mem_of_getElem? (i := 26) rfl)
theorem mP_27 : Cond.methodLink RX11 3 objectInit ∈ wP := wP_0_in _ (List.mem_of_getElem? (i := 27) rfl)
theorem mP_28 : Cond.instanceMethod objectInit ∈ wP := wP_0_in _ (List.mem_of_getElem? (i := 28) rfl)
theorem mP_29 : Cond.code objectInit ⟨#[0xb1]⟩ 1 none ∈ wP := wP_0_in _ (List.mem_of_getElem? (i := 29) rfl)
theorem mP_30 : Cond.arrayClass .byte ∈ wP := wP_1_in _ (List.mem_of_getElem? (i := 0) rfl)
theorem mP_31 : Cond.fieldLink RX11 9 "PaletteHouse" "tape" "[B" ∈ wP := wP_1_in _ (List.mem_of_getElem? (i := 1) rfl)
theorem mP_32 : Cond.arrayClass .int ∈ wP := wP_1_in _ (List.mem_of_getElem? (i := 2) rfl)
theorem mP_33 : Cond.fieldLink RX11 13 "PaletteHouse" "fed" "[I" ∈ wP := wP_1_in _ (List.mem_of_getElem? (i := 3) rfl)
theorem mP_34 : Cond.fieldLink RX11 17 "PaletteHouse" "faultPlace" "I" ∈ wP := wP_1_in _ (List.mem_of_getElem? (i := 4) rfl)
theorem mP_35 : Cond.code yX11_init cX11_init 1 none ∈ wP := wP_1_in _ (List.mem_of_getElem? (i := 5) rfl)
theorem mP_36 : Cond.methodLink RL 9 yX11_init ∈ wP := wP_1_in _ (List.mem_of_getElem? (i := 6) rfl)
theorem mP_37 : Cond.instanceMethod yX11_init ∈ wP := wP_1_in _ (List.mem_of_getElem? (i := 7) rfl)
theorem mP_38 : Cond.classLink RL 10 RX12 ∈ wP := wP_1_in _ (List.mem_of_getElem? (i := 8) rfl)
theorem mP_39 : Cond.instantiable RX12 105 ∈ wP := wP_1_in _ (List.mem_of_getElem? (i := 9) rfl)
theorem mP_40 : Cond.initialized RX12 ∈ wP := wP_1_in _ (List.mem_of_getElem? (i := 10) rfl)
theorem mP_41 : Cond.methodLink RX12 7 objectInit ∈ wP := wP_1_in _ (List.mem_of_getElem? (i := 11) rfl)
theorem mP_42 : Cond.fieldLink RX12 13 "PaletteHouseModel" "keys" "[I" ∈ wP := wP_1_in _ (List.mem_of_getElem? (i := 12) rfl)
theorem mP_43 : Cond.fieldLink RX12 17 "PaletteHouseModel" "tape" "[B" ∈ wP := wP_1_in _ (List.mem_of_getElem? (i := 13) rfl)
theorem mP_44 : Cond.fieldLink RX12 21 "PaletteHouseModel" "text" "[B" ∈ wP := wP_1_in _ (List.mem_of_getElem? (i := 14) rfl)
theorem mP_45 : Cond.fieldLink RX12 24 "PaletteHouseModel" "tKind" "[I" ∈ wP := wP_1_in _ (List.mem_of_getElem? (i := 15) rfl)
theorem mP_46 : Cond.fieldLink RX12 27 "PaletteHouseModel" "tPlace" "[I" ∈ wP := wP_1_in _ (List.mem_of_getElem? (i := 16) rfl)
theorem mP_47 : Cond.fieldLink RX12 30 "PaletteHouseModel" "tValue" "[I" ∈ wP := wP_1_in _ (List.mem_of_getElem? (i := 17) rfl)
theorem mP_48 : Cond.fieldLink RX12 33 "PaletteHouseModel" "letters" "[B" ∈ wP := wP_1_in _ (List.mem_of_getElem? (i := 18) rfl)
theorem mP_49 : Cond.fieldLink RX12 36 "PaletteHouseModel" "faultPlace" "I" ∈ wP := wP_1_in _ (List.mem_of_getElem? (i := 19) rfl)
theorem mP_50 : Cond.fieldLink RX12 39 "PaletteHouseModel" "place" "I" ∈ wP := wP_1_in _ (List.mem_of_getElem? (i := 20) rfl)
theorem mP_51 : Cond.fieldLink RX12 42 "PaletteHouseModel" "blocks" "[I" ∈ wP := wP_1_in _ (List.mem_of_getElem? (i := 21) rfl)
theorem mP_52 : Cond.fieldLink RX12 45 "PaletteHouseModel" "values" "[I" ∈ wP := wP_1_in _ (List.mem_of_getElem? (i := 22) rfl)
theorem mP_53 : Cond.fieldLink RX12 48 "PaletteHouseModel" "insMany" "[I" ∈ wP := wP_1_in _ (List.mem_of_getElem? (i := 23) rfl)
theorem mP_54 : Cond.fieldLink RX12 51 "PaletteHouseModel" "phis" "[I" ∈ wP := wP_1_in _ (List.mem_of_getElem? (i := 24) rfl)
theorem mP_55 : Cond.fieldLink RX12 54 "PaletteHouseModel" "arms" "[I" ∈ wP := wP_1_in _ (List.mem_of_getElem? (i := 25) rfl)
theorem mP_56 : Cond.fieldLink RX12 57 "PaletteHouseModel" "parameters" "[I" ∈ wP := wP_1_in _ (List.mem_of_getElem? (i := 26) rfl)
theorem mP_57 : Cond.fieldLink RX12 60 "PaletteHouseModel" "slots" "[I" ∈ wP := wP_1_in _ (List.mem_of_getElem? (i := 27) rfl)
theorem mP_58 : Cond.fieldLink RX12 63 "PaletteHouseModel" "bFirst" "[I" ∈ wP := wP_1_in _ (List.mem_of_getElem? (i := 28) rfl)
theorem mP_59 : Cond.fieldLink RX12 66 "PaletteHouseModel" "bEnd" "[I" ∈ wP := wP_1_in _ (List.mem_of_getElem? (i := 29) rfl)
theorem mP_60 : Cond.fieldLink RX12 69 "PaletteHouseModel" "bValue" "[I" ∈ wP := wP_2_in _ (List.mem_of_getElem? (i := 0) rfl)
theorem mP_61 : Cond.fieldLink RX12 72 "PaletteHouseModel" "bNumber" "[I" ∈ wP := wP_2_in _ (List.mem_of_getElem? (i := 1) rfl)
theorem mP_62 : Cond.fieldLink RX12 75 "PaletteHouseModel" "bTo" "[I" ∈ wP := wP_2_in _ (List.mem_of_getElem? (i := 2) rfl)
theorem mP_63 : Cond.fieldLink RX12 78 "PaletteHouseModel" "bElse" "[I" ∈ wP := wP_2_in _ (List.mem_of_getElem? (i := 3) rfl)
theorem mP_64 : Cond.fieldLink RX12 81 "PaletteHouseModel" "bPhi" "[I" ∈ wP := wP_2_in _ (List.mem_of_getElem? (i := 4) rfl)
theorem mP_65 : Cond.fieldLink RX12 84 "PaletteHouseModel" "bPhis" "[I" ∈ wP := wP_2_in _ (List.mem_of_getElem? (i := 5) rfl)
theorem mP_66 : Cond.fieldLink RX12 87 "PaletteHouseModel" "vBlock" "[I" ∈ wP := wP_2_in _ (List.mem_of_getElem? (i := 6) rfl)
theorem mP_67 : Cond.fieldLink RX12 90 "PaletteHouseModel" "vIns" "[I" ∈ wP := wP_2_in _ (List.mem_of_getElem? (i := 7) rfl)
theorem mP_68 : Cond.fieldLink RX12 93 "PaletteHouseModel" "vSlot" "[I" ∈ wP := wP_2_in _ (List.mem_of_getElem? (i := 8) rfl)
theorem mP_69 : Cond.arrayClass .boolean ∈ wP := wP_2_in _ (List.mem_of_getElem? (i := 9) rfl)
theorem mP_70 : Cond.fieldLink RX12 96 "PaletteHouseModel" "vLoaded" "[Z" ∈ wP := wP_2_in _ (List.mem_of_getElem? (i := 10) rfl)
theorem mP_71 : Cond.fieldLink RX12 100 "PaletteHouseModel" "fResult" "[I" ∈ wP := wP_2_in _ (List.mem_of_getElem? (i := 11) rfl)
theorem mP_72 : Cond.fieldLink RX12 103 "PaletteHouseModel" "fBlock" "[I" ∈ wP := wP_2_in _ (List.mem_of_getElem? (i := 12) rfl)
theorem mP_73 : Cond.fieldLink RX12 106 "PaletteHouseModel" "fArm" "[I" ∈ wP := wP_2_in _ (List.mem_of_getElem? (i := 13) rfl)
theorem mP_74 : Cond.fieldLink RX12 109 "PaletteHouseModel" "fArms" "[I" ∈ wP := wP_2_in _ (List.mem_of_getElem? (i := 14) rfl)
theorem mP_75 : Cond.fieldLink RX12 112 "PaletteHouseModel" "mBlock" "[I" ∈ wP := wP_2_in _ (List.mem_of_getElem? (i := 15) rfl)
theorem mP_76 : Cond.fieldLink RX12 115 "PaletteHouseModel" "mValue" "[I" ∈ wP := wP_2_in _ (List.mem_of_getElem? (i := 16) rfl)
theorem mP_77 : Cond.fieldLink RX12 118 "PaletteHouseModel" "mNumber" "[I" ∈ wP := wP_2_in _ (List.mem_of_getElem? (i := 17) rfl)
theorem mP_78 : Cond.fieldLink RX12 121 "PaletteHouseModel" "iOp" "[I" ∈ wP := wP_2_in _ (List.mem_of_getElem? (i := 18) rfl)
theorem mP_79 : Cond.fieldLink RX12 124 "PaletteHouseModel" "iResult" "[I" ∈ wP := wP_2_in _ (List.mem_of_getElem? (i := 19) rfl)
theorem mP_80 : Cond.fieldLink RX12 127 "PaletteHouseModel" "iValue" "[I" ∈ wP := wP_2_in _ (List.mem_of_getElem? (i := 20) rfl)
theorem mP_81 : Cond.fieldLink RX12 130 "PaletteHouseModel" "iNumber" "[I" ∈ wP := wP_2_in _ (List.mem_of_getElem? (i := 21) rfl)
theorem mP_82 : Cond.fieldLink RX12 133 "PaletteHouseModel" "iNext" "[I" ∈ wP := wP_2_in _ (List.mem_of_getElem? (i := 22) rfl)
theorem mP_83 : Cond.fieldLink RX12 136 "PaletteHouseModel" "valueToken" "[I" ∈ wP := wP_2_in _ (List.mem_of_getElem? (i := 23) rfl)
theorem mP_84 : Cond.fieldLink RX12 139 "PaletteHouseModel" "blockToken" "[I" ∈ wP := wP_2_in _ (List.mem_of_getElem? (i := 24) rfl)
theorem mP_85 : Cond.fieldLink RX12 142 "PaletteHouseModel" "phiToken" "[I" ∈ wP := wP_2_in _ (List.mem_of_getElem? (i := 25) rfl)
theorem mP_86 : Cond.fieldLink RX12 145 "PaletteHouseModel" "armToken" "[I" ∈ wP := wP_2_in _ (List.mem_of_getElem? (i := 26) rfl)
theorem mP_87 : Cond.fieldLink RX12 148 "PaletteHouseModel" "armValToken" "[I" ∈ wP := wP_2_in _ (List.mem_of_getElem? (i := 27) rfl)
theorem mP_88 : Cond.fieldLink RX12 151 "PaletteHouseModel" "insToken" "[I" ∈ wP := wP_2_in _ (List.mem_of_getElem? (i := 28) rfl)
theorem mP_89 : Cond.fieldLink RX12 154 "PaletteHouseModel" "endToken" "[I" ∈ wP := wP_2_in _ (List.mem_of_getElem? (i := 29) rfl)
theorem mP_90 : Cond.fieldLink RX12 157 "PaletteHouseModel" "toToken" "[I" ∈ wP := wP_3_in _ (List.mem_of_getElem? (i := 0) rfl)
theorem mP_91 : Cond.fieldLink RX12 160 "PaletteHouseModel" "elseToken" "[I" ∈ wP := wP_3_in _ (List.mem_of_getElem? (i := 1) rfl)
theorem mP_92 : Cond.fieldLink RX12 163 "PaletteHouseModel" "leads" "[Z" ∈ wP := wP_3_in _ (List.mem_of_getElem? (i := 2) rfl)
theorem mP_93 : Cond.fieldLink RX12 166 "PaletteHouseModel" "dominate" "[I" ∈ wP := wP_3_in _ (List.mem_of_getElem? (i := 3) rfl)
theorem mP_94 : Cond.fieldLink RX12 169 "PaletteHouseModel" "index" "[I" ∈ wP := wP_3_in _ (List.mem_of_getElem? (i := 4) rfl)
theorem mP_95 : Cond.fieldLink RX12 172 "PaletteHouseModel" "insBlock" "[I" ∈ wP := wP_3_in _ (List.mem_of_getElem? (i := 5) rfl)
theorem mP_96 : Cond.fieldLink RX12 175 "PaletteHouseModel" "many" "[I" ∈ wP := wP_3_in _ (List.mem_of_getElem? (i := 6) rfl)
theorem mP_97 : Cond.fieldLink RX12 178 "PaletteHouseModel" "idom" "[I" ∈ wP := wP_3_in _ (List.mem_of_getElem? (i := 7) rfl)
theorem mP_98 : Cond.fieldLink RX12 181 "PaletteHouseModel" "orderAt" "[I" ∈ wP := wP_3_in _ (List.mem_of_getElem? (i := 8) rfl)
theorem mP_99 : Cond.fieldLink RX12 184 "PaletteHouseModel" "order" "[I" ∈ wP := wP_3_in _ (List.mem_of_getElem? (i := 9) rfl)
theorem mP_100 : Cond.fieldLink RX12 187 "PaletteHouseModel" "pointFrom" "[I" ∈ wP := wP_3_in _ (List.mem_of_getElem? (i := 10) rfl)
theorem mP_101 : Cond.constant RX12 190 (552200) ∈ wP := wP_3_in _ (List.mem_of_getElem? (i := 11) rfl)
theorem mP_102 : Cond.fieldLink RX12 191 "PaletteHouseModel" "live" "[Z" ∈ wP := wP_3_in _ (List.mem_of_getElem? (i := 12) rfl)
theorem mP_103 : Cond.fieldLink RX12 194 "PaletteHouseModel" "pressure" "[I" ∈ wP := wP_3_in _ (List.mem_of_getElem? (i := 13) rfl)
theorem mP_104 : Cond.fieldLink RX12 197 "PaletteHouseModel" "uses" "[I" ∈ wP := wP_3_in _ (List.mem_of_getElem? (i := 14) rfl)
theorem mP_105 : Cond.fieldLink RX12 200 "PaletteHouseModel" "waits" "[I" ∈ wP := wP_3_in _ (List.mem_of_getElem? (i := 15) rfl)
theorem mP_106 : Cond.fieldLink RX12 203 "PaletteHouseModel" "colour" "[I" ∈ wP := wP_3_in _ (List.mem_of_getElem? (i := 16) rfl)
theorem mP_107 : Cond.fieldLink RX12 206 "PaletteHouseModel" "wanted" "[I" ∈ wP := wP_3_in _ (List.mem_of_getElem? (i := 17) rfl)
theorem mP_108 : Cond.fieldLink RX12 209 "PaletteHouseModel" "taken" "[Z" ∈ wP := wP_3_in _ (List.mem_of_getElem? (i := 18) rfl)
theorem mP_109 : Cond.fieldLink RX12 212 "PaletteHouseModel" "rOp" "[I" ∈ wP := wP_3_in _ (List.mem_of_getElem? (i := 19) rfl)
theorem mP_110 : Cond.fieldLink RX12 215 "PaletteHouseModel" "rTo" "[I" ∈ wP := wP_3_in _ (List.mem_of_getElem? (i := 20) rfl)
theorem mP_111 : Cond.fieldLink RX12 218 "PaletteHouseModel" "rRegister" "[I" ∈ wP := wP_3_in _ (List.mem_of_getElem? (i := 21) rfl)
theorem mP_112 : Cond.fieldLink RX12 221 "PaletteHouseModel" "rNumber" "[I" ∈ wP := wP_3_in _ (List.mem_of_getElem? (i := 22) rfl)
theorem mP_113 : Cond.fieldLink RX12 224 "PaletteHouseModel" "rGo" "[I" ∈ wP := wP_3_in _ (List.mem_of_getElem? (i := 23) rfl)
theorem mP_114 : Cond.fieldLink RX12 227 "PaletteHouseModel" "rFree" "[Z" ∈ wP := wP_3_in _ (List.mem_of_getElem? (i := 24) rfl)
theorem mP_115 : Cond.fieldLink RX12 230 "PaletteHouseModel" "blockRow" "[I" ∈ wP := wP_3_in _ (List.mem_of_getElem? (i := 25) rfl)
theorem mP_116 : Cond.fieldLink RX12 233 "PaletteHouseModel" "endRow" "[I" ∈ wP := wP_3_in _ (List.mem_of_getElem? (i := 26) rfl)
theorem mP_117 : Cond.fieldLink RX12 236 "PaletteHouseModel" "mTo" "[I" ∈ wP := wP_3_in _ (List.mem_of_getElem? (i := 27) rfl)
theorem mP_118 : Cond.fieldLink RX12 239 "PaletteHouseModel" "mFrom" "[I" ∈ wP := wP_3_in _ (List.mem_of_getElem? (i := 28) rfl)
theorem mP_119 : Cond.fieldLink RX12 242 "PaletteHouseModel" "mLeft" "[Z" ∈ wP := wP_3_in _ (List.mem_of_getElem? (i := 29) rfl)
theorem mP_120 : Cond.fieldLink RX12 245 "PaletteHouseModel" "given" "[I" ∈ wP := wP_4_in _ (List.mem_of_getElem? (i := 0) rfl)
theorem mP_121 : Cond.fieldLink RX12 248 "PaletteHouseModel" "hasRun" "[Z" ∈ wP := wP_4_in _ (List.mem_of_getElem? (i := 1) rfl)
theorem mP_122 : Cond.fieldLink RX12 251 "PaletteHouseModel" "stopped" "[I" ∈ wP := wP_4_in _ (List.mem_of_getElem? (i := 2) rfl)
theorem mP_123 : Cond.fieldLink RX12 254 "PaletteHouseModel" "stepped" "[I" ∈ wP := wP_4_in _ (List.mem_of_getElem? (i := 3) rfl)
theorem mP_124 : Cond.fieldLink RX12 257 "PaletteHouseModel" "told" "[I" ∈ wP := wP_4_in _ (List.mem_of_getElem? (i := 4) rfl)
theorem mP_125 : Cond.fieldLink RX12 260 "PaletteHouseModel" "out" "[I" ∈ wP := wP_4_in _ (List.mem_of_getElem? (i := 5) rfl)
theorem mP_126 : Cond.fieldLink RX12 263 "PaletteHouseModel" "tookIn" "[I" ∈ wP := wP_4_in _ (List.mem_of_getElem? (i := 6) rfl)
theorem mP_127 : Cond.fieldLink RX12 266 "PaletteHouseModel" "outputs" "[I" ∈ wP := wP_4_in _ (List.mem_of_getElem? (i := 7) rfl)
theorem mP_128 : Cond.fieldLink RX12 269 "PaletteHouseModel" "memories" "[I" ∈ wP := wP_4_in _ (List.mem_of_getElem? (i := 8) rfl)
theorem mP_129 : Cond.fieldLink RX12 272 "PaletteHouseModel" "holds" "[I" ∈ wP := wP_4_in _ (List.mem_of_getElem? (i := 9) rfl)
theorem mP_130 : Cond.fieldLink RX12 275 "PaletteHouseModel" "inSlot" "[I" ∈ wP := wP_4_in _ (List.mem_of_getElem? (i := 10) rfl)
theorem mP_131 : Cond.fieldLink RX12 278 "PaletteHouseModel" "aside" "[I" ∈ wP := wP_4_in _ (List.mem_of_getElem? (i := 11) rfl)
theorem mP_132 : Cond.code yX12_word cX12_word 4 (some .int) ∈ wP := wP_4_in _ (List.mem_of_getElem? (i := 12) rfl)
theorem mP_133 : Cond.methodLink RX12 281 yX12_word ∈ wP := wP_4_in _ (List.mem_of_getElem? (i := 13) rfl)
theorem mP_134 : Cond.static yX12_word ∈ wP := wP_4_in _ (List.mem_of_getElem? (i := 14) rfl)
theorem mP_135 : Cond.code yX12_init cX12_init 1 none ∈ wP := wP_4_in _ (List.mem_of_getElem? (i := 15) rfl)
theorem mP_136 : Cond.methodLink RL 12 yX12_init ∈ wP := wP_4_in _ (List.mem_of_getElem? (i := 16) rfl)
theorem mP_137 : Cond.instanceMethod yX12_init ∈ wP := wP_4_in _ (List.mem_of_getElem? (i := 17) rfl)
theorem mP_138 : Cond.fieldLink RX11 21 "PaletteHouse" "length" "I" ∈ wP := wP_4_in _ (List.mem_of_getElem? (i := 18) rfl)
theorem mP_139 : Cond.code yX11_append cX11_append 3 none ∈ wP := wP_4_in _ (List.mem_of_getElem? (i := 19) rfl)
theorem mP_140 : Cond.methodLink RX11 24 yX11_append ∈ wP := wP_4_in _ (List.mem_of_getElem? (i := 20) rfl)
theorem mP_141 : Cond.instanceMethod yX11_append ∈ wP := wP_4_in _ (List.mem_of_getElem? (i := 21) rfl)
theorem mP_142 : Cond.selects RX11 yX11_append yX11_append ∈ wP := wP_4_in _ (List.mem_of_getElem? (i := 22) rfl)
theorem mP_143 : Cond.code yX11_feed cX11_feed 6 (some .int) ∈ wP := wP_4_in _ (List.mem_of_getElem? (i := 23) rfl)
theorem mP_144 : Cond.methodLink RL 13 yX11_feed ∈ wP := wP_4_in _ (List.mem_of_getElem? (i := 24) rfl)
theorem mP_145 : Cond.instanceMethod yX11_feed ∈ wP := wP_4_in _ (List.mem_of_getElem? (i := 25) rfl)
theorem mP_146 : Cond.selects RX11 yX11_feed yX11_feed ∈ wP := wP_4_in _ (List.mem_of_getElem? (i := 26) rfl)
theorem mP_147 : Cond.fieldLink RX12 285 "PaletteHouseModel" "taped" "I" ∈ wP := wP_4_in _ (List.mem_of_getElem? (i := 27) rfl)
theorem mP_148 : Cond.code yX12_put cX12_put 3 none ∈ wP := wP_4_in _ (List.mem_of_getElem? (i := 28) rfl)
theorem mP_149 : Cond.methodLink RX12 288 yX12_put ∈ wP := wP_4_in _ (List.mem_of_getElem? (i := 29) rfl)
theorem mP_150 : Cond.instanceMethod yX12_put ∈ wP := wP_5_in _ (List.mem_of_getElem? (i := 0) rfl)
theorem mP_151 : Cond.selects RX12 yX12_put yX12_put ∈ wP := wP_5_in _ (List.mem_of_getElem? (i := 1) rfl)
theorem mP_152 : Cond.code yX12_feed cX12_feed 6 (some .int) ∈ wP := wP_5_in _ (List.mem_of_getElem? (i := 2) rfl)
theorem mP_153 : Cond.methodLink RL 17 yX12_feed ∈ wP := wP_5_in _ (List.mem_of_getElem? (i := 3) rfl)
theorem mP_154 : Cond.instanceMethod yX12_feed ∈ wP := wP_5_in _ (List.mem_of_getElem? (i := 4) rfl)
theorem mP_155 : Cond.selects RX12 yX12_feed yX12_feed ∈ wP := wP_5_in _ (List.mem_of_getElem? (i := 5) rfl)
theorem mP_156 : Cond.code yX11_back cX11_back 2 (some .int) ∈ wP := wP_5_in _ (List.mem_of_getElem? (i := 6) rfl)
theorem mP_157 : Cond.methodLink RL 18 yX11_back ∈ wP := wP_5_in _ (List.mem_of_getElem? (i := 7) rfl)
theorem mP_158 : Cond.instanceMethod yX11_back ∈ wP := wP_5_in _ (List.mem_of_getElem? (i := 8) rfl)
theorem mP_159 : Cond.selects RX11 yX11_back yX11_back ∈ wP := wP_5_in _ (List.mem_of_getElem? (i := 9) rfl)
theorem mP_160 : Cond.code yX12_back cX12_back 2 (some .int) ∈ wP := wP_5_in _ (List.mem_of_getElem? (i := 10) rfl)
theorem mP_161 : Cond.methodLink RL 22 yX12_back ∈ wP := wP_5_in _ (List.mem_of_getElem? (i := 11) rfl)
theorem mP_162 : Cond.instanceMethod yX12_back ∈ wP := wP_5_in _ (List.mem_of_getElem? (i := 12) rfl)
theorem mP_163 : Cond.selects RX12 yX12_back yX12_back ∈ wP := wP_5_in _ (List.mem_of_getElem? (i := 13) rfl)
theorem mP_164 : Cond.fieldLink RX11 28 "PaletteHouse" "text" "LPaletteHouse$Text;" ∈ wP := wP_5_in _ (List.mem_of_getElem? (i := 14) rfl)
theorem mP_165 : Cond.classLink RX11 32 RX10 ∈ wP := wP_5_in _ (List.mem_of_getElem? (i := 15) rfl)
theorem mP_166 : Cond.instantiable RX10 7 ∈ wP := wP_5_in _ (List.mem_of_getElem? (i := 16) rfl)
theorem mP_167 : Cond.initialized RX10 ∈ wP := wP_5_in _ (List.mem_of_getElem? (i := 17) rfl)
theorem mP_168 : Cond.methodLink RX10 3 objectInit ∈ wP := wP_5_in _ (List.mem_of_getElem? (i := 18) rfl)
theorem mP_169 : Cond.classLink RX10 9 RX9 ∈ wP := wP_5_in _ (List.mem_of_getElem? (i := 19) rfl)
theorem mP_170 : Cond.instantiable RX9 4 ∈ wP := wP_5_in _ (List.mem_of_getElem? (i := 20) rfl)
theorem mP_171 : Cond.initialized RX9 ∈ wP := wP_5_in _ (List.mem_of_getElem? (i := 21) rfl)
theorem mP_172 : Cond.methodLink RX9 3 objectInit ∈ wP := wP_5_in _ (List.mem_of_getElem? (i := 22) rfl)
theorem mP_173 : Cond.initialized RJ9 ∈ wP := wP_5_in _ (List.mem_of_getElem? (i := 23) rfl)
theorem mP_174 : Cond.code yJ9_max_7cf53 cJ9_max_7cf53 2 (some .int) ∈ wP := wP_5_in _ (List.mem_of_getElem? (i := 24) rfl)
theorem mP_175 : Cond.methodLink RX9 9 yJ9_max_7cf53 ∈ wP := wP_5_in _ (List.mem_of_getElem? (i := 25) rfl)
theorem mP_176 : Cond.static yJ9_max_7cf53 ∈ wP := wP_5_in _ (List.mem_of_getElem? (i := 26) rfl)
theorem mP_177 : Cond.fieldLink RX9 15 "PaletteHouse$Table" "width" "I" ∈ wP := wP_5_in _ (List.mem_of_getElem? (i := 27) rfl)
theorem mP_178 : Cond.fieldLink RX9 21 "PaletteHouse$Table" "most" "I" ∈ wP := wP_5_in _ (List.mem_of_getElem? (i := 28) rfl)
theorem mP_179 : Cond.fieldLink RX9 24 "PaletteHouse$Table" "cells" "[I" ∈ wP := wP_5_in _ (List.mem_of_getElem? (i := 29) rfl)
theorem mP_180 : Cond.code yX9_init cX9_init 3 none ∈ wP := wP_6_in _ (List.mem_of_getElem? (i := 0) rfl)
theorem mP_181 : Cond.methodLink RX10 11 yX9_init ∈ wP := wP_6_in _ (List.mem_of_getElem? (i := 1) rfl)
theorem mP_182 : Cond.instanceMethod yX9_init ∈ wP := wP_6_in _ (List.mem_of_getElem? (i := 2) rfl)
theorem mP_183 : Cond.fieldLink RX10 14 "PaletteHouse$Text" "tokens" "LPaletteHouse$Table;" ∈ wP := wP_6_in _ (List.mem_of_getElem? (i := 3) rfl)
theorem mP_184 : Cond.arrayClass .long ∈ wP := wP_6_in _ (List.mem_of_getElem? (i := 4) rfl)
theorem mP_185 : Cond.fieldLink RX10 20 "PaletteHouse$Text" "names" "[J" ∈ wP := wP_6_in _ (List.mem_of_getElem? (i := 5) rfl)
theorem mP_186 : Cond.fieldLink RX10 24 "PaletteHouse$Text" "words" "[J" ∈ wP := wP_6_in _ (List.mem_of_getElem? (i := 6) rfl)
theorem mP_187 : Cond.fieldLink RX10 27 "PaletteHouse$Text" "worstPlace" "I" ∈ wP := wP_6_in _ (List.mem_of_getElem? (i := 7) rfl)
theorem mP_188 : Cond.code yJ0_length_8abf5 cJ0_length_8abf5 1 (some .int) ∈ wP := wP_6_in _ (List.mem_of_getElem? (i := 8) rfl)
theorem mP_189 : Cond.methodLink RX10 33 yJ0_length_8abf5 ∈ wP := wP_6_in _ (List.mem_of_getElem? (i := 9) rfl)
theorem mP_190 : Cond.instanceMethod yJ0_length_8abf5 ∈ wP := wP_6_in _ (List.mem_of_getElem? (i := 10) rfl)
theorem mP_191 : Cond.selects RJ0 yJ0_length_8abf5 yJ0_length_8abf5 ∈ wP := wP_6_in _ (List.mem_of_getElem? (i := 11) rfl)
theorem mP_192 : Cond.code yJ0_charAt_5068e cJ0_charAt_5068e 2 (some .char) ∈ wP := wP_6_in _ (List.mem_of_getElem? (i := 12) rfl)
theorem mP_193 : Cond.methodLink RX10 39 yJ0_charAt_5068e ∈ wP := wP_6_in _ (List.mem_of_getElem? (i := 13) rfl)
theorem mP_194 : Cond.instanceMethod yJ0_charAt_5068e ∈ wP := wP_6_in _ (List.mem_of_getElem? (i := 14) rfl)
theorem mP_195 : Cond.selects RJ0 yJ0_charAt_5068e yJ0_charAt_5068e ∈ wP := wP_6_in _ (List.mem_of_getElem? (i := 15) rfl)
theorem mP_196 : Cond.constantLong RX10 43 (37) ∈ wP := wP_6_in _ (List.mem_of_getElem? (i := 16) rfl)
theorem mP_197 : Cond.code yX10_init cX10_init 6 none ∈ wP := wP_6_in _ (List.mem_of_getElem? (i := 17) rfl)
theorem mP_198 : Cond.methodLink RX11 34 yX10_init ∈ wP := wP_6_in _ (List.mem_of_getElem? (i := 18) rfl)
theorem mP_199 : Cond.instanceMethod yX10_init ∈ wP := wP_6_in _ (List.mem_of_getElem? (i := 19) rfl)
theorem mP_200 : Cond.fieldLink RX11 35 "PaletteHouse" "parser" "LPaletteHouse$Parser;" ∈ wP := wP_6_in _ (List.mem_of_getElem? (i := 20) rfl)
theorem mP_201 : Cond.classLink RX11 39 RX6 ∈ wP := wP_6_in _ (List.mem_of_getElem? (i := 21) rfl)
theorem mP_202 : Cond.instantiable RX6 6 ∈ wP := wP_6_in _ (List.mem_of_getElem? (i := 22) rfl)
theorem mP_203 : Cond.initialized RX6 ∈ wP := wP_6_in _ (List.mem_of_getElem? (i := 23) rfl)
theorem mP_204 : Cond.methodLink RX6 3 objectInit ∈ wP := wP_6_in _ (List.mem_of_getElem? (i := 24) rfl)
theorem mP_205 : Cond.fieldLink RX6 9 "PaletteHouse$Parser" "text" "LPaletteHouse$Text;" ∈ wP := wP_6_in _ (List.mem_of_getElem? (i := 25) rfl)
theorem mP_206 : Cond.fieldLink RX6 21 "PaletteHouse$Parser" "tokens" "LPaletteHouse$Table;" ∈ wP := wP_6_in _ (List.mem_of_getElem? (i := 26) rfl)
theorem mP_207 : Cond.code yX6_init cX6_init 2 none ∈ wP := wP_6_in _ (List.mem_of_getElem? (i := 27) rfl)
theorem mP_208 : Cond.methodLink RX11 41 yX6_init ∈ wP := wP_6_in _ (List.mem_of_getElem? (i := 28) rfl)
theorem mP_209 : Cond.instanceMethod yX6_init ∈ wP := wP_6_in _ (List.mem_of_getElem? (i := 29) rfl)
theorem mP_210 : Cond.fieldLink RX11 44 "PaletteHouse" "judge" "LPaletteHouse$Judge;" ∈ wP := wP_7_in _ (List.mem_of_getElem? (i := 0) rfl)
theorem mP_211 : Cond.classLink RX11 48 RX2 ∈ wP := wP_7_in _ (List.mem_of_getElem? (i := 1) rfl)
theorem mP_212 : Cond.instantiable RX2 3 ∈ wP := wP_7_in _ (List.mem_of_getElem? (i := 2) rfl)
theorem mP_213 : Cond.initialized RX2 ∈ wP := wP_7_in _ (List.mem_of_getElem? (i := 3) rfl)
theorem mP_214 : Cond.methodLink RX2 3 objectInit ∈ wP := wP_7_in _ (List.mem_of_getElem? (i := 4) rfl)
theorem mP_215 : Cond.fieldLink RX2 9 "PaletteHouse$Judge" "text" "LPaletteHouse$Text;" ∈ wP := wP_7_in _ (List.mem_of_getElem? (i := 5) rfl)
theorem mP_216 : Cond.fieldLink RX2 21 "PaletteHouse$Judge" "tokens" "LPaletteHouse$Table;" ∈ wP := wP_7_in _ (List.mem_of_getElem? (i := 6) rfl)
theorem mP_217 : Cond.code yX2_init cX2_init 2 none ∈ wP := wP_7_in _ (List.mem_of_getElem? (i := 7) rfl)
theorem mP_218 : Cond.methodLink RX11 50 yX2_init ∈ wP := wP_7_in _ (List.mem_of_getElem? (i := 8) rfl)
theorem mP_219 : Cond.instanceMethod yX2_init ∈ wP := wP_7_in _ (List.mem_of_getElem? (i := 9) rfl)
theorem mP_220 : Cond.fieldLink RX11 51 "PaletteHouse" "spare" "LPaletteHouse$Program;" ∈ wP := wP_7_in _ (List.mem_of_getElem? (i := 10) rfl)
theorem mP_221 : Cond.classLink RX11 55 RX7 ∈ wP := wP_7_in _ (List.mem_of_getElem? (i := 11) rfl)
theorem mP_222 : Cond.instantiable RX7 11 ∈ wP := wP_7_in _ (List.mem_of_getElem? (i := 12) rfl)
theorem mP_223 : Cond.initialized RX7 ∈ wP := wP_7_in _ (List.mem_of_getElem? (i := 13) rfl)
theorem mP_224 : Cond.methodLink RX7 3 objectInit ∈ wP := wP_7_in _ (List.mem_of_getElem? (i := 14) rfl)
theorem mP_225 : Cond.classLink RX7 9 RX9 ∈ wP := wP_7_in _ (List.mem_of_getElem? (i := 15) rfl)
theorem mP_226 : Cond.methodLink RX7 11 yX9_init ∈ wP := wP_7_in _ (List.mem_of_getElem? (i := 16) rfl)
theorem mP_227 : Cond.fieldLink RX7 14 "PaletteHouse$Program" "blocks" "LPaletteHouse$Table;" ∈ wP := wP_7_in _ (List.mem_of_getElem? (i := 17) rfl)
theorem mP_228 : Cond.fieldLink RX7 20 "PaletteHouse$Program" "ins" "LPaletteHouse$Table;" ∈ wP := wP_7_in _ (List.mem_of_getElem? (i := 18) rfl)
theorem mP_229 : Cond.fieldLink RX7 23 "PaletteHouse$Program" "phis" "LPaletteHouse$Table;" ∈ wP := wP_7_in _ (List.mem_of_getElem? (i := 19) rfl)
theorem mP_230 : Cond.fieldLink RX7 26 "PaletteHouse$Program" "arms" "LPaletteHouse$Table;" ∈ wP := wP_7_in _ (List.mem_of_getElem? (i := 20) rfl)
theorem mP_231 : Cond.fieldLink RX7 29 "PaletteHouse$Program" "values" "LPaletteHouse$Table;" ∈ wP := wP_7_in _ (List.mem_of_getElem? (i := 21) rfl)
theorem mP_232 : Cond.classLink RX7 32 RX1 ∈ wP := wP_7_in _ (List.mem_of_getElem? (i := 22) rfl)
theorem mP_233 : Cond.instantiable RX1 8 ∈ wP := wP_7_in _ (List.mem_of_getElem? (i := 23) rfl)
theorem mP_234 : Cond.initialized RX1 ∈ wP := wP_7_in _ (List.mem_of_getElem? (i := 24) rfl)
theorem mP_235 : Cond.methodLink RX1 3 objectInit ∈ wP := wP_7_in _ (List.mem_of_getElem? (i := 25) rfl)
theorem mP_236 : Cond.fieldLink RX1 9 "PaletteHouse$Graph" "preds" "[I" ∈ wP := wP_7_in _ (List.mem_of_getElem? (i := 26) rfl)
theorem mP_237 : Cond.fieldLink RX1 15 "PaletteHouse$Graph" "doms" "[I" ∈ wP := wP_7_in _ (List.mem_of_getElem? (i := 27) rfl)
theorem mP_238 : Cond.fieldLink RX1 18 "PaletteHouse$Graph" "idoms" "[I" ∈ wP := wP_7_in _ (List.mem_of_getElem? (i := 28) rfl)
theorem mP_239 : Cond.fieldLink RX1 21 "PaletteHouse$Graph" "order" "[I" ∈ wP := wP_7_in _ (List.mem_of_getElem? (i := 29) rfl)
theorem mP_240 : Cond.fieldLink RX1 24 "PaletteHouse$Graph" "ranks" "[I" ∈ wP := wP_8_in _ (List.mem_of_getElem? (i := 0) rfl)
theorem mP_241 : Cond.fieldLink RX1 27 "PaletteHouse$Graph" "stack" "[I" ∈ wP := wP_8_in _ (List.mem_of_getElem? (i := 1) rfl)
theorem mP_242 : Cond.code yX1_init cX1_init 1 none ∈ wP := wP_8_in _ (List.mem_of_getElem? (i := 2) rfl)
theorem mP_243 : Cond.instanceMethod yX1_init ∈ wP := wP_8_in _ (List.mem_of_getElem? (i := 3) rfl)
theorem mP_244 : Cond.fieldLink RX7 35 "PaletteHouse$Program" "graph" "LPaletteHouse$Graph;" ∈ wP := wP_8_in _ (List.mem_of_getElem? (i := 4) rfl)
theorem mP_245 : Cond.classLink RX7 39 RX3 ∈ wP := wP_8_in _ (List.mem_of_getElem? (i := 5) rfl)
theorem mP_246 : Cond.instantiable RX3 12 ∈ wP := wP_8_in _ (List.mem_of_getElem? (i := 6) rfl)
theorem mP_247 : Cond.initialized RX3 ∈ wP := wP_8_in _ (List.mem_of_getElem? (i := 7) rfl)
theorem mP_248 : Cond.methodLink RX3 3 objectInit ∈ wP := wP_8_in _ (List.mem_of_getElem? (i := 8) rfl)
theorem mP_249 : Cond.fieldLink RX3 9 "PaletteHouse$Life" "begins" "[I" ∈ wP := wP_8_in _ (List.mem_of_getElem? (i := 9) rfl)
theorem mP_250 : Cond.fieldLink RX3 15 "PaletteHouse$Life" "ends" "[I" ∈ wP := wP_8_in _ (List.mem_of_getElem? (i := 10) rfl)
theorem mP_251 : Cond.fieldLink RX3 18 "PaletteHouse$Life" "sets" "[J" ∈ wP := wP_8_in _ (List.mem_of_getElem? (i := 11) rfl)
theorem mP_252 : Cond.fieldLink RX3 22 "PaletteHouse$Life" "pressures" "[I" ∈ wP := wP_8_in _ (List.mem_of_getElem? (i := 12) rfl)
theorem mP_253 : Cond.fieldLink RX3 25 "PaletteHouse$Life" "current" "[J" ∈ wP := wP_8_in _ (List.mem_of_getElem? (i := 13) rfl)
theorem mP_254 : Cond.fieldLink RX3 28 "PaletteHouse$Life" "met" "[J" ∈ wP := wP_8_in _ (List.mem_of_getElem? (i := 14) rfl)
theorem mP_255 : Cond.code yX3_init cX3_init 1 none ∈ wP := wP_8_in _ (List.mem_of_getElem? (i := 15) rfl)
theorem mP_256 : Cond.instanceMethod yX3_init ∈ wP := wP_8_in _ (List.mem_of_getElem? (i := 16) rfl)
theorem mP_257 : Cond.fieldLink RX7 42 "PaletteHouse$Program" "life" "LPaletteHouse$Life;" ∈ wP := wP_8_in _ (List.mem_of_getElem? (i := 17) rfl)
theorem mP_258 : Cond.code yX7_init cX7_init 1 none ∈ wP := wP_8_in _ (List.mem_of_getElem? (i := 18) rfl)
theorem mP_259 : Cond.instanceMethod yX7_init ∈ wP := wP_8_in _ (List.mem_of_getElem? (i := 19) rfl)
theorem mP_260 : Cond.fieldLink RX10 52 "PaletteHouse$Text" "bytes" "[B" ∈ wP := wP_8_in _ (List.mem_of_getElem? (i := 20) rfl)
theorem mP_261 : Cond.fieldLink RX10 56 "PaletteHouse$Text" "length" "I" ∈ wP := wP_8_in _ (List.mem_of_getElem? (i := 21) rfl)
theorem mP_262 : Cond.fieldLink RX10 45 "PaletteHouse$Text" "worst" "I" ∈ wP := wP_8_in _ (List.mem_of_getElem? (i := 22) rfl)
theorem mP_263 : Cond.fieldLink RX9 28 "PaletteHouse$Table" "size" "I" ∈ wP := wP_8_in _ (List.mem_of_getElem? (i := 23) rfl)
theorem mP_264 : Cond.code yX9_cut cX9_cut 1 none ∈ wP := wP_8_in _ (List.mem_of_getElem? (i := 24) rfl)
theorem mP_265 : Cond.methodLink RX10 58 yX9_cut ∈ wP := wP_8_in _ (List.mem_of_getElem? (i := 25) rfl)
theorem mP_266 : Cond.instanceMethod yX9_cut ∈ wP := wP_8_in _ (List.mem_of_getElem? (i := 26) rfl)
theorem mP_267 : Cond.selects RX9 yX9_cut yX9_cut ∈ wP := wP_8_in _ (List.mem_of_getElem? (i := 27) rfl)
theorem mP_268 : Cond.code yX10_skipBlanks cX10_skipBlanks 3 (some .int) ∈ wP := wP_8_in _ (List.mem_of_getElem? (i := 28) rfl)
theorem mP_269 : Cond.methodLink RX10 61 yX10_skipBlanks ∈ wP := wP_8_in _ (List.mem_of_getElem? (i := 29) rfl)
theorem mP_270 : Cond.instanceMethod yX10_skipBlanks ∈ wP := wP_9_in _ (List.mem_of_getElem? (i := 0) rfl)
theorem mP_271 : Cond.selects RX10 yX10_skipBlanks yX10_skipBlanks ∈ wP := wP_9_in _ (List.mem_of_getElem? (i := 1) rfl)
theorem mP_272 : Cond.code yX10_byteAt cX10_byteAt 2 (some .int) ∈ wP := wP_9_in _ (List.mem_of_getElem? (i := 2) rfl)
theorem mP_273 : Cond.methodLink RX10 68 yX10_byteAt ∈ wP := wP_9_in _ (List.mem_of_getElem? (i := 3) rfl)
theorem mP_274 : Cond.instanceMethod yX10_byteAt ∈ wP := wP_9_in _ (List.mem_of_getElem? (i := 4) rfl)
theorem mP_275 : Cond.selects RX10 yX10_byteAt yX10_byteAt ∈ wP := wP_9_in _ (List.mem_of_getElem? (i := 5) rfl)
theorem mP_276 : Cond.code yX10_isLetter cX10_isLetter 1 (some .boolean) ∈ wP := wP_9_in _ (List.mem_of_getElem? (i := 6) rfl)
theorem mP_277 : Cond.methodLink RX10 75 yX10_isLetter ∈ wP := wP_9_in _ (List.mem_of_getElem? (i := 7) rfl)
theorem mP_278 : Cond.static yX10_isLetter ∈ wP := wP_9_in _ (List.mem_of_getElem? (i := 8) rfl)
theorem mP_279 : Cond.code yX10_isDigit cX10_isDigit 1 (some .boolean) ∈ wP := wP_9_in _ (List.mem_of_getElem? (i := 9) rfl)
theorem mP_280 : Cond.methodLink RX10 81 yX10_isDigit ∈ wP := wP_9_in _ (List.mem_of_getElem? (i := 10) rfl)
theorem mP_281 : Cond.static yX10_isDigit ∈ wP := wP_9_in _ (List.mem_of_getElem? (i := 11) rfl)
theorem mP_282 : Cond.initialized RJ7 ∈ wP := wP_9_in _ (List.mem_of_getElem? (i := 12) rfl)
theorem mP_283 : Cond.code yJ7_rangeCheck_23922 cJ7_rangeCheck_23922 3 none ∈ wP := wP_9_in _ (List.mem_of_getElem? (i := 13) rfl)
theorem mP_284 : Cond.methodLink RJ7 13 yJ7_rangeCheck_23922 ∈ wP := wP_9_in _ (List.mem_of_getElem? (i := 14) rfl)
theorem mP_285 : Cond.static yJ7_rangeCheck_23922 ∈ wP := wP_9_in _ (List.mem_of_getElem? (i := 15) rfl)
theorem mP_286 : Cond.code yJ7_fill_fda19 cJ7_fill_fda19 5 none ∈ wP := wP_9_in _ (List.mem_of_getElem? (i := 16) rfl)
theorem mP_287 : Cond.methodLink RX9 31 yJ7_fill_fda19 ∈ wP := wP_9_in _ (List.mem_of_getElem? (i := 17) rfl)
theorem mP_288 : Cond.static yJ7_fill_fda19 ∈ wP := wP_9_in _ (List.mem_of_getElem? (i := 18) rfl)
theorem mP_289 : Cond.code yX9_add cX9_add 1 (some .int) ∈ wP := wP_9_in _ (List.mem_of_getElem? (i := 19) rfl)
theorem mP_290 : Cond.methodLink RX10 94 yX9_add ∈ wP := wP_9_in _ (List.mem_of_getElem? (i := 20) rfl)
theorem mP_291 : Cond.instanceMethod yX9_add ∈ wP := wP_9_in _ (List.mem_of_getElem? (i := 21) rfl)
theorem mP_292 : Cond.selects RX9 yX9_add yX9_add ∈ wP := wP_9_in _ (List.mem_of_getElem? (i := 22) rfl)
theorem mP_293 : Cond.code yX9_set cX9_set 4 none ∈ wP := wP_9_in _ (List.mem_of_getElem? (i := 23) rfl)
theorem mP_294 : Cond.methodLink RX10 97 yX9_set ∈ wP := wP_9_in _ (List.mem_of_getElem? (i := 24) rfl)
theorem mP_295 : Cond.instanceMethod yX9_set ∈ wP := wP_9_in _ (List.mem_of_getElem? (i := 25) rfl)
theorem mP_296 : Cond.selects RX9 yX9_set yX9_set ∈ wP := wP_9_in _ (List.mem_of_getElem? (i := 26) rfl)
theorem mP_297 : Cond.code yX10_keep cX10_keep 7 none ∈ wP := wP_9_in _ (List.mem_of_getElem? (i := 27) rfl)
theorem mP_298 : Cond.methodLink RX10 90 yX10_keep ∈ wP := wP_9_in _ (List.mem_of_getElem? (i := 28) rfl)
theorem mP_299 : Cond.instanceMethod yX10_keep ∈ wP := wP_9_in _ (List.mem_of_getElem? (i := 29) rfl)
theorem mP_300 : Cond.selects RX10 yX10_keep yX10_keep ∈ wP := wP_10_in _ (List.mem_of_getElem? (i := 0) rfl)
theorem mP_301 : Cond.code yX10_scanToken cX10_scanToken 3 (some .int) ∈ wP := wP_10_in _ (List.mem_of_getElem? (i := 1) rfl)
theorem mP_302 : Cond.methodLink RX10 65 yX10_scanToken ∈ wP := wP_10_in _ (List.mem_of_getElem? (i := 2) rfl)
theorem mP_303 : Cond.instanceMethod yX10_scanToken ∈ wP := wP_10_in _ (List.mem_of_getElem? (i := 3) rfl)
theorem mP_304 : Cond.selects RX10 yX10_scanToken yX10_scanToken ∈ wP := wP_10_in _ (List.mem_of_getElem? (i := 4) rfl)
theorem mP_305 : Cond.code yX9_at cX9_at 3 (some .int) ∈ wP := wP_10_in _ (List.mem_of_getElem? (i := 5) rfl)
theorem mP_306 : Cond.methodLink RX10 48 yX9_at ∈ wP := wP_10_in _ (List.mem_of_getElem? (i := 6) rfl)
theorem mP_307 : Cond.instanceMethod yX9_at ∈ wP := wP_10_in _ (List.mem_of_getElem? (i := 7) rfl)
theorem mP_308 : Cond.selects RX9 yX9_at yX9_at ∈ wP := wP_10_in _ (List.mem_of_getElem? (i := 8) rfl)
theorem mP_309 : Cond.code yX10_scan cX10_scan 7 none ∈ wP := wP_10_in _ (List.mem_of_getElem? (i := 9) rfl)
theorem mP_310 : Cond.methodLink RX11 58 yX10_scan ∈ wP := wP_10_in _ (List.mem_of_getElem? (i := 10) rfl)
theorem mP_311 : Cond.instanceMethod yX10_scan ∈ wP := wP_10_in _ (List.mem_of_getElem? (i := 11) rfl)
theorem mP_312 : Cond.selects RX10 yX10_scan yX10_scan ∈ wP := wP_10_in _ (List.mem_of_getElem? (i := 12) rfl)
theorem mP_313 : Cond.fieldLink RX6 22 "PaletteHouse$Parser" "program" "LPaletteHouse$Program;" ∈ wP := wP_10_in _ (List.mem_of_getElem? (i := 13) rfl)
theorem mP_314 : Cond.methodLink RX7 46 yX9_cut ∈ wP := wP_10_in _ (List.mem_of_getElem? (i := 14) rfl)
theorem mP_315 : Cond.fieldLink RX7 49 "PaletteHouse$Program" "parameters" "I" ∈ wP := wP_10_in _ (List.mem_of_getElem? (i := 15) rfl)
theorem mP_316 : Cond.fieldLink RX7 53 "PaletteHouse$Program" "texted" "I" ∈ wP := wP_10_in _ (List.mem_of_getElem? (i := 16) rfl)
theorem mP_317 : Cond.fieldLink RX7 56 "PaletteHouse$Program" "slots" "I" ∈ wP := wP_10_in _ (List.mem_of_getElem? (i := 17) rfl)
theorem mP_318 : Cond.fieldLink RX7 59 "PaletteHouse$Program" "coloured" "Z" ∈ wP := wP_10_in _ (List.mem_of_getElem? (i := 18) rfl)
theorem mP_319 : Cond.code yX7_reset cX7_reset 1 none ∈ wP := wP_10_in _ (List.mem_of_getElem? (i := 19) rfl)
theorem mP_320 : Cond.methodLink RX6 26 yX7_reset ∈ wP := wP_10_in _ (List.mem_of_getElem? (i := 20) rfl)
theorem mP_321 : Cond.instanceMethod yX7_reset ∈ wP := wP_10_in _ (List.mem_of_getElem? (i := 21) rfl)
theorem mP_322 : Cond.selects RX7 yX7_reset yX7_reset ∈ wP := wP_10_in _ (List.mem_of_getElem? (i := 22) rfl)
theorem mP_323 : Cond.fieldLink RX6 31 "PaletteHouse$Parser" "at" "I" ∈ wP := wP_10_in _ (List.mem_of_getElem? (i := 23) rfl)
theorem mP_324 : Cond.fieldLink RX6 35 "PaletteHouse$Parser" "items" "I" ∈ wP := wP_10_in _ (List.mem_of_getElem? (i := 24) rfl)
theorem mP_325 : Cond.fieldLink RX6 38 "PaletteHouse$Parser" "fault" "I" ∈ wP := wP_10_in _ (List.mem_of_getElem? (i := 25) rfl)
theorem mP_326 : Cond.methodLink RX6 48 yX9_at ∈ wP := wP_10_in _ (List.mem_of_getElem? (i := 26) rfl)
theorem mP_327 : Cond.code yX6_refuse cX6_refuse 2 (some .boolean) ∈ wP := wP_10_in _ (List.mem_of_getElem? (i := 27) rfl)
theorem mP_328 : Cond.methodLink RX6 67 yX6_refuse ∈ wP := wP_10_in _ (List.mem_of_getElem? (i := 28) rfl)
theorem mP_329 : Cond.instanceMethod yX6_refuse ∈ wP := wP_10_in _ (List.mem_of_getElem? (i := 29) rfl)
theorem mP_330 : Cond.selects RX6 yX6_refuse yX6_refuse ∈ wP := wP_11_in _ (List.mem_of_getElem? (i := 0) rfl)
theorem mP_331 : Cond.code yX6_wants cX6_wants 2 (some .boolean) ∈ wP := wP_11_in _ (List.mem_of_getElem? (i := 1) rfl)
theorem mP_332 : Cond.methodLink RX6 71 yX6_wants ∈ wP := wP_11_in _ (List.mem_of_getElem? (i := 2) rfl)
theorem mP_333 : Cond.instanceMethod yX6_wants ∈ wP := wP_11_in _ (List.mem_of_getElem? (i := 3) rfl)
theorem mP_334 : Cond.selects RX6 yX6_wants yX6_wants ∈ wP := wP_11_in _ (List.mem_of_getElem? (i := 4) rfl)
theorem mP_335 : Cond.code yX6_take cX6_take 3 (some .boolean) ∈ wP := wP_11_in _ (List.mem_of_getElem? (i := 5) rfl)
theorem mP_336 : Cond.methodLink RX6 74 yX6_take ∈ wP := wP_11_in _ (List.mem_of_getElem? (i := 6) rfl)
theorem mP_337 : Cond.instanceMethod yX6_take ∈ wP := wP_11_in _ (List.mem_of_getElem? (i := 7) rfl)
theorem mP_338 : Cond.selects RX6 yX6_take yX6_take ∈ wP := wP_11_in _ (List.mem_of_getElem? (i := 8) rfl)
theorem mP_339 : Cond.code yX6_takeHead cX6_takeHead 3 (some .boolean) ∈ wP := wP_11_in _ (List.mem_of_getElem? (i := 9) rfl)
theorem mP_340 : Cond.methodLink RX6 41 yX6_takeHead ∈ wP := wP_11_in _ (List.mem_of_getElem? (i := 10) rfl)
theorem mP_341 : Cond.instanceMethod yX6_takeHead ∈ wP := wP_11_in _ (List.mem_of_getElem? (i := 11) rfl)
theorem mP_342 : Cond.selects RX6 yX6_takeHead yX6_takeHead ∈ wP := wP_11_in _ (List.mem_of_getElem? (i := 12) rfl)
theorem mP_343 : Cond.code yX10_blame cX10_blame 4 none ∈ wP := wP_11_in _ (List.mem_of_getElem? (i := 13) rfl)
theorem mP_344 : Cond.methodLink RX6 53 yX10_blame ∈ wP := wP_11_in _ (List.mem_of_getElem? (i := 14) rfl)
theorem mP_345 : Cond.instanceMethod yX10_blame ∈ wP := wP_11_in _ (List.mem_of_getElem? (i := 15) rfl)
theorem mP_346 : Cond.selects RX10 yX10_blame yX10_blame ∈ wP := wP_11_in _ (List.mem_of_getElem? (i := 16) rfl)
theorem mP_347 : Cond.fieldLink RX6 57 "PaletteHouse$Program" "values" "LPaletteHouse$Table;" ∈ wP := wP_11_in _ (List.mem_of_getElem? (i := 17) rfl)
theorem mP_348 : Cond.code yX9_size cX9_size 1 (some .int) ∈ wP := wP_11_in _ (List.mem_of_getElem? (i := 18) rfl)
theorem mP_349 : Cond.methodLink RX6 60 yX9_size ∈ wP := wP_11_in _ (List.mem_of_getElem? (i := 19) rfl)
theorem mP_350 : Cond.instanceMethod yX9_size ∈ wP := wP_11_in _ (List.mem_of_getElem? (i := 20) rfl)
theorem mP_351 : Cond.selects RX9 yX9_size yX9_size ∈ wP := wP_11_in _ (List.mem_of_getElem? (i := 21) rfl)
theorem mP_352 : Cond.fieldLink RX6 64 "PaletteHouse$Program" "texted" "I" ∈ wP := wP_11_in _ (List.mem_of_getElem? (i := 22) rfl)
theorem mP_353 : Cond.code yX6_accepts cX6_accepts 5 (some .boolean) ∈ wP := wP_11_in _ (List.mem_of_getElem? (i := 23) rfl)
theorem mP_354 : Cond.methodLink RX11 62 yX6_accepts ∈ wP := wP_11_in _ (List.mem_of_getElem? (i := 24) rfl)
theorem mP_355 : Cond.instanceMethod yX6_accepts ∈ wP := wP_11_in _ (List.mem_of_getElem? (i := 25) rfl)
theorem mP_356 : Cond.selects RX6 yX6_accepts yX6_accepts ∈ wP := wP_11_in _ (List.mem_of_getElem? (i := 26) rfl)
theorem mP_357 : Cond.code yX10_worstPlace cX10_worstPlace 1 (some .int) ∈ wP := wP_11_in _ (List.mem_of_getElem? (i := 27) rfl)
theorem mP_358 : Cond.methodLink RX11 70 yX10_worstPlace ∈ wP := wP_11_in _ (List.mem_of_getElem? (i := 28) rfl)
theorem mP_359 : Cond.instanceMethod yX10_worstPlace ∈ wP := wP_11_in _ (List.mem_of_getElem? (i := 29) rfl)
theorem mP_360 : Cond.selects RX10 yX10_worstPlace yX10_worstPlace ∈ wP := wP_12_in _ (List.mem_of_getElem? (i := 0) rfl)
theorem mP_361 : Cond.code yX10_worst cX10_worst 1 (some .int) ∈ wP := wP_12_in _ (List.mem_of_getElem? (i := 1) rfl)
theorem mP_362 : Cond.methodLink RX11 74 yX10_worst ∈ wP := wP_12_in _ (List.mem_of_getElem? (i := 2) rfl)
theorem mP_363 : Cond.instanceMethod yX10_worst ∈ wP := wP_12_in _ (List.mem_of_getElem? (i := 3) rfl)
theorem mP_364 : Cond.selects RX10 yX10_worst yX10_worst ∈ wP := wP_12_in _ (List.mem_of_getElem? (i := 4) rfl)
theorem mP_365 : Cond.code yX11_read cX11_read 1 (some .int) ∈ wP := wP_12_in _ (List.mem_of_getElem? (i := 5) rfl)
theorem mP_366 : Cond.methodLink RL 23 yX11_read ∈ wP := wP_12_in _ (List.mem_of_getElem? (i := 6) rfl)
theorem mP_367 : Cond.instanceMethod yX11_read ∈ wP := wP_12_in _ (List.mem_of_getElem? (i := 7) rfl)
theorem mP_368 : Cond.selects RX11 yX11_read yX11_read ∈ wP := wP_12_in _ (List.mem_of_getElem? (i := 8) rfl)
theorem mP_369 : Cond.fieldLink RX12 292 "PaletteHouseModel" "size" "I" ∈ wP := wP_12_in _ (List.mem_of_getElem? (i := 9) rfl)
theorem mP_370 : Cond.fieldLink RX12 295 "PaletteHouseModel" "tokens" "I" ∈ wP := wP_12_in _ (List.mem_of_getElem? (i := 10) rfl)
theorem mP_371 : Cond.code yX12_at cX12_at 2 (some .int) ∈ wP := wP_12_in _ (List.mem_of_getElem? (i := 11) rfl)
theorem mP_372 : Cond.methodLink RX12 298 yX12_at ∈ wP := wP_12_in _ (List.mem_of_getElem? (i := 12) rfl)
theorem mP_373 : Cond.instanceMethod yX12_at ∈ wP := wP_12_in _ (List.mem_of_getElem? (i := 13) rfl)
theorem mP_374 : Cond.selects RX12 yX12_at yX12_at ∈ wP := wP_12_in _ (List.mem_of_getElem? (i := 14) rfl)
theorem mP_375 : Cond.code yX12_token cX12_token 4 none ∈ wP := wP_12_in _ (List.mem_of_getElem? (i := 15) rfl)
theorem mP_376 : Cond.methodLink RX12 302 yX12_token ∈ wP := wP_12_in _ (List.mem_of_getElem? (i := 16) rfl)
theorem mP_377 : Cond.instanceMethod yX12_token ∈ wP := wP_12_in _ (List.mem_of_getElem? (i := 17) rfl)
theorem mP_378 : Cond.selects RX12 yX12_token yX12_token ∈ wP := wP_12_in _ (List.mem_of_getElem? (i := 18) rfl)
theorem mP_379 : Cond.code yX12_cut cX12_cut 4 none ∈ wP := wP_12_in _ (List.mem_of_getElem? (i := 19) rfl)
theorem mP_380 : Cond.methodLink RX12 347 yX12_cut ∈ wP := wP_12_in _ (List.mem_of_getElem? (i := 20) rfl)
theorem mP_381 : Cond.instanceMethod yX12_cut ∈ wP := wP_12_in _ (List.mem_of_getElem? (i := 21) rfl)
theorem mP_382 : Cond.selects RX12 yX12_cut yX12_cut ∈ wP := wP_12_in _ (List.mem_of_getElem? (i := 22) rfl)
theorem mP_383 : Cond.fieldLink RX12 335 "PaletteHouseModel" "t" "I" ∈ wP := wP_12_in _ (List.mem_of_getElem? (i := 23) rfl)
theorem mP_384 : Cond.fieldLink RX12 332 "PaletteHouseModel" "fault" "I" ∈ wP := wP_12_in _ (List.mem_of_getElem? (i := 24) rfl)
theorem mP_385 : Cond.fieldLink RX12 384 "PaletteHouseModel" "things" "I" ∈ wP := wP_12_in _ (List.mem_of_getElem? (i := 25) rfl)
theorem mP_386 : Cond.code yX12_is cX12_is 2 (some .boolean) ∈ wP := wP_12_in _ (List.mem_of_getElem? (i := 26) rfl)
theorem mP_387 : Cond.methodLink RX12 341 yX12_is ∈ wP := wP_12_in _ (List.mem_of_getElem? (i := 27) rfl)
theorem mP_388 : Cond.instanceMethod yX12_is ∈ wP := wP_12_in _ (List.mem_of_getElem? (i := 28) rfl)
theorem mP_389 : Cond.selects RX12 yX12_is yX12_is ∈ wP := wP_12_in _ (List.mem_of_getElem? (i := 29) rfl)
theorem mP_390 : Cond.code yX12_fail cX12_fail 2 none ∈ wP := wP_13_in _ (List.mem_of_getElem? (i := 0) rfl)
theorem mP_391 : Cond.methodLink RX12 338 yX12_fail ∈ wP := wP_13_in _ (List.mem_of_getElem? (i := 1) rfl)
theorem mP_392 : Cond.instanceMethod yX12_fail ∈ wP := wP_13_in _ (List.mem_of_getElem? (i := 2) rfl)
theorem mP_393 : Cond.selects RX12 yX12_fail yX12_fail ∈ wP := wP_13_in _ (List.mem_of_getElem? (i := 3) rfl)
theorem mP_394 : Cond.code yX12_must cX12_must 2 none ∈ wP := wP_13_in _ (List.mem_of_getElem? (i := 4) rfl)
theorem mP_395 : Cond.methodLink RX12 387 yX12_must ∈ wP := wP_13_in _ (List.mem_of_getElem? (i := 5) rfl)
theorem mP_396 : Cond.instanceMethod yX12_must ∈ wP := wP_13_in _ (List.mem_of_getElem? (i := 6) rfl)
theorem mP_397 : Cond.selects RX12 yX12_must yX12_must ∈ wP := wP_13_in _ (List.mem_of_getElem? (i := 7) rfl)
theorem mP_398 : Cond.code yX12_parse cX12_parse 3 none ∈ wP := wP_13_in _ (List.mem_of_getElem? (i := 8) rfl)
theorem mP_399 : Cond.methodLink RX12 350 yX12_parse ∈ wP := wP_13_in _ (List.mem_of_getElem? (i := 9) rfl)
theorem mP_400 : Cond.instanceMethod yX12_parse ∈ wP := wP_13_in _ (List.mem_of_getElem? (i := 10) rfl)
theorem mP_401 : Cond.selects RX12 yX12_parse yX12_parse ∈ wP := wP_13_in _ (List.mem_of_getElem? (i := 11) rfl)
theorem mP_402 : Cond.fieldLink RX12 359 "PaletteHouseModel" "hasFunction" "Z" ∈ wP := wP_13_in _ (List.mem_of_getElem? (i := 12) rfl)
theorem mP_403 : Cond.code yX12_read cX12_read 2 (some .int) ∈ wP := wP_13_in _ (List.mem_of_getElem? (i := 13) rfl)
theorem mP_404 : Cond.methodLink RL 27 yX12_read ∈ wP := wP_13_in _ (List.mem_of_getElem? (i := 14) rfl)
theorem mP_405 : Cond.instanceMethod yX12_read ∈ wP := wP_13_in _ (List.mem_of_getElem? (i := 15) rfl)
theorem mP_406 : Cond.selects RX12 yX12_read yX12_read ∈ wP := wP_13_in _ (List.mem_of_getElem? (i := 16) rfl)
theorem mP_407 : Cond.code yX11_place cX11_place 1 (some .int) ∈ wP := wP_13_in _ (List.mem_of_getElem? (i := 17) rfl)
theorem mP_408 : Cond.methodLink RL 28 yX11_place ∈ wP := wP_13_in _ (List.mem_of_getElem? (i := 18) rfl)
theorem mP_409 : Cond.instanceMethod yX11_place ∈ wP := wP_13_in _ (List.mem_of_getElem? (i := 19) rfl)
theorem mP_410 : Cond.selects RX11 yX11_place yX11_place ∈ wP := wP_13_in _ (List.mem_of_getElem? (i := 20) rfl)
theorem mP_411 : Cond.code yX12_place cX12_place 1 (some .int) ∈ wP := wP_13_in _ (List.mem_of_getElem? (i := 21) rfl)
theorem mP_412 : Cond.methodLink RL 31 yX12_place ∈ wP := wP_13_in _ (List.mem_of_getElem? (i := 22) rfl)
theorem mP_413 : Cond.instanceMethod yX12_place ∈ wP := wP_13_in _ (List.mem_of_getElem? (i := 23) rfl)
theorem mP_414 : Cond.selects RX12 yX12_place yX12_place ∈ wP := wP_13_in _ (List.mem_of_getElem? (i := 24) rfl)
theorem mP_415 : Cond.fieldLink RX11 92 "PaletteHouse" "now" "LPaletteHouse$Program;" ∈ wP := wP_13_in _ (List.mem_of_getElem? (i := 25) rfl)
theorem mP_416 : Cond.code yX11_block cX11_block 3 (some .int) ∈ wP := wP_13_in _ (List.mem_of_getElem? (i := 26) rfl)
theorem mP_417 : Cond.methodLink RL 32 yX11_block ∈ wP := wP_13_in _ (List.mem_of_getElem? (i := 27) rfl)
theorem mP_418 : Cond.instanceMethod yX11_block ∈ wP := wP_13_in _ (List.mem_of_getElem? (i := 28) rfl)
theorem mP_419 : Cond.selects RX11 yX11_block yX11_block ∈ wP := wP_13_in _ (List.mem_of_getElem? (i := 29) rfl)
theorem mP_420 : Cond.code yX12_block_ cX12_block_ 5 (some .int) ∈ wP := wP_14_in _ (List.mem_of_getElem? (i := 0) rfl)
theorem mP_421 : Cond.methodLink RL 36 yX12_block_ ∈ wP := wP_14_in _ (List.mem_of_getElem? (i := 1) rfl)
theorem mP_422 : Cond.instanceMethod yX12_block_ ∈ wP := wP_14_in _ (List.mem_of_getElem? (i := 2) rfl)
theorem mP_423 : Cond.selects RX12 yX12_block_ yX12_block_ ∈ wP := wP_14_in _ (List.mem_of_getElem? (i := 3) rfl)
theorem mP_424 : Cond.code yX11_value cX11_value 3 (some .int) ∈ wP := wP_14_in _ (List.mem_of_getElem? (i := 4) rfl)
theorem mP_425 : Cond.methodLink RL 37 yX11_value ∈ wP := wP_14_in _ (List.mem_of_getElem? (i := 5) rfl)
theorem mP_426 : Cond.instanceMethod yX11_value ∈ wP := wP_14_in _ (List.mem_of_getElem? (i := 6) rfl)
theorem mP_427 : Cond.selects RX11 yX11_value yX11_value ∈ wP := wP_14_in _ (List.mem_of_getElem? (i := 7) rfl)
theorem mP_428 : Cond.code yX12_value cX12_value 5 (some .int) ∈ wP := wP_14_in _ (List.mem_of_getElem? (i := 8) rfl)
theorem mP_429 : Cond.methodLink RL 40 yX12_value ∈ wP := wP_14_in _ (List.mem_of_getElem? (i := 9) rfl)
theorem mP_430 : Cond.instanceMethod yX12_value ∈ wP := wP_14_in _ (List.mem_of_getElem? (i := 10) rfl)
theorem mP_431 : Cond.selects RX12 yX12_value yX12_value ∈ wP := wP_14_in _ (List.mem_of_getElem? (i := 11) rfl)
theorem mP_432 : Cond.code yX11_ins cX11_ins 4 (some .int) ∈ wP := wP_14_in _ (List.mem_of_getElem? (i := 12) rfl)
theorem mP_433 : Cond.methodLink RL 41 yX11_ins ∈ wP := wP_14_in _ (List.mem_of_getElem? (i := 13) rfl)
theorem mP_434 : Cond.instanceMethod yX11_ins ∈ wP := wP_14_in _ (List.mem_of_getElem? (i := 14) rfl)
theorem mP_435 : Cond.selects RX11 yX11_ins yX11_ins ∈ wP := wP_14_in _ (List.mem_of_getElem? (i := 15) rfl)
theorem mP_436 : Cond.code yX12_insAt cX12_insAt 5 (some .int) ∈ wP := wP_14_in _ (List.mem_of_getElem? (i := 16) rfl)
theorem mP_437 : Cond.methodLink RX12 464 yX12_insAt ∈ wP := wP_14_in _ (List.mem_of_getElem? (i := 17) rfl)
theorem mP_438 : Cond.instanceMethod yX12_insAt ∈ wP := wP_14_in _ (List.mem_of_getElem? (i := 18) rfl)
theorem mP_439 : Cond.selects RX12 yX12_insAt yX12_insAt ∈ wP := wP_14_in _ (List.mem_of_getElem? (i := 19) rfl)
theorem mP_440 : Cond.code yX12_ins cX12_ins 5 (some .int) ∈ wP := wP_14_in _ (List.mem_of_getElem? (i := 20) rfl)
theorem mP_441 : Cond.methodLink RL 45 yX12_ins ∈ wP := wP_14_in _ (List.mem_of_getElem? (i := 21) rfl)
theorem mP_442 : Cond.instanceMethod yX12_ins ∈ wP := wP_14_in _ (List.mem_of_getElem? (i := 22) rfl)
theorem mP_443 : Cond.selects RX12 yX12_ins yX12_ins ∈ wP := wP_14_in _ (List.mem_of_getElem? (i := 23) rfl)
theorem mP_444 : Cond.code yX11_live cX11_live 4 (some .boolean) ∈ wP := wP_14_in _ (List.mem_of_getElem? (i := 24) rfl)
theorem mP_445 : Cond.methodLink RL 46 yX11_live ∈ wP := wP_14_in _ (List.mem_of_getElem? (i := 25) rfl)
theorem mP_446 : Cond.instanceMethod yX11_live ∈ wP := wP_14_in _ (List.mem_of_getElem? (i := 26) rfl)
theorem mP_447 : Cond.selects RX11 yX11_live yX11_live ∈ wP := wP_14_in _ (List.mem_of_getElem? (i := 27) rfl)
theorem mP_448 : Cond.code yX12_pointAt cX12_pointAt 3 (some .int) ∈ wP := wP_14_in _ (List.mem_of_getElem? (i := 28) rfl)
theorem mP_449 : Cond.methodLink RX12 467 yX12_pointAt ∈ wP := wP_14_in _ (List.mem_of_getElem? (i := 29) rfl)
theorem mP_450 : Cond.instanceMethod yX12_pointAt ∈ wP := wP_15_in _ (List.mem_of_getElem? (i := 0) rfl)
theorem mP_451 : Cond.selects RX12 yX12_pointAt yX12_pointAt ∈ wP := wP_15_in _ (List.mem_of_getElem? (i := 1) rfl)
theorem mP_452 : Cond.code yX12_live cX12_live 5 (some .boolean) ∈ wP := wP_15_in _ (List.mem_of_getElem? (i := 2) rfl)
theorem mP_453 : Cond.methodLink RL 50 yX12_live ∈ wP := wP_15_in _ (List.mem_of_getElem? (i := 3) rfl)
theorem mP_454 : Cond.instanceMethod yX12_live ∈ wP := wP_15_in _ (List.mem_of_getElem? (i := 4) rfl)
theorem mP_455 : Cond.selects RX12 yX12_live yX12_live ∈ wP := wP_15_in _ (List.mem_of_getElem? (i := 5) rfl)
theorem mP_456 : Cond.code yX11_pressure cX11_pressure 3 (some .int) ∈ wP := wP_15_in _ (List.mem_of_getElem? (i := 6) rfl)
theorem mP_457 : Cond.methodLink RL 51 yX11_pressure ∈ wP := wP_15_in _ (List.mem_of_getElem? (i := 7) rfl)
theorem mP_458 : Cond.instanceMethod yX11_pressure ∈ wP := wP_15_in _ (List.mem_of_getElem? (i := 8) rfl)
theorem mP_459 : Cond.selects RX11 yX11_pressure yX11_pressure ∈ wP := wP_15_in _ (List.mem_of_getElem? (i := 9) rfl)
theorem mP_460 : Cond.code yX12_pressure cX12_pressure 4 (some .int) ∈ wP := wP_15_in _ (List.mem_of_getElem? (i := 10) rfl)
theorem mP_461 : Cond.methodLink RL 54 yX12_pressure ∈ wP := wP_15_in _ (List.mem_of_getElem? (i := 11) rfl)
theorem mP_462 : Cond.instanceMethod yX12_pressure ∈ wP := wP_15_in _ (List.mem_of_getElem? (i := 12) rfl)
theorem mP_463 : Cond.selects RX12 yX12_pressure yX12_pressure ∈ wP := wP_15_in _ (List.mem_of_getElem? (i := 13) rfl)
theorem mP_464 : Cond.code yX11_clique cX11_clique 2 (some .int) ∈ wP := wP_15_in _ (List.mem_of_getElem? (i := 14) rfl)
theorem mP_465 : Cond.methodLink RL 55 yX11_clique ∈ wP := wP_15_in _ (List.mem_of_getElem? (i := 15) rfl)
theorem mP_466 : Cond.instanceMethod yX11_clique ∈ wP := wP_15_in _ (List.mem_of_getElem? (i := 16) rfl)
theorem mP_467 : Cond.selects RX11 yX11_clique yX11_clique ∈ wP := wP_15_in _ (List.mem_of_getElem? (i := 17) rfl)
theorem mP_468 : Cond.code yX12_clique cX12_clique 4 (some .int) ∈ wP := wP_15_in _ (List.mem_of_getElem? (i := 18) rfl)
theorem mP_469 : Cond.methodLink RL 58 yX12_clique ∈ wP := wP_15_in _ (List.mem_of_getElem? (i := 19) rfl)
theorem mP_470 : Cond.instanceMethod yX12_clique ∈ wP := wP_15_in _ (List.mem_of_getElem? (i := 20) rfl)
theorem mP_471 : Cond.selects RX12 yX12_clique yX12_clique ∈ wP := wP_15_in _ (List.mem_of_getElem? (i := 21) rfl)
theorem mP_472 : Cond.code yX11_meet cX11_meet 3 (some .boolean) ∈ wP := wP_15_in _ (List.mem_of_getElem? (i := 22) rfl)
theorem mP_473 : Cond.methodLink RL 59 yX11_meet ∈ wP := wP_15_in _ (List.mem_of_getElem? (i := 23) rfl)
theorem mP_474 : Cond.instanceMethod yX11_meet ∈ wP := wP_15_in _ (List.mem_of_getElem? (i := 24) rfl)
theorem mP_475 : Cond.selects RX11 yX11_meet yX11_meet ∈ wP := wP_15_in _ (List.mem_of_getElem? (i := 25) rfl)
theorem mP_476 : Cond.code yX12_isValue cX12_isValue 2 (some .boolean) ∈ wP := wP_15_in _ (List.mem_of_getElem? (i := 26) rfl)
theorem mP_477 : Cond.methodLink RX12 470 yX12_isValue ∈ wP := wP_15_in _ (List.mem_of_getElem? (i := 27) rfl)
theorem mP_478 : Cond.instanceMethod yX12_isValue ∈ wP := wP_15_in _ (List.mem_of_getElem? (i := 28) rfl)
theorem mP_479 : Cond.selects RX12 yX12_isValue yX12_isValue ∈ wP := wP_15_in _ (List.mem_of_getElem? (i := 29) rfl)
theorem mP_480 : Cond.code yX12_meet cX12_meet 4 (some .boolean) ∈ wP := wP_16_in _ (List.mem_of_getElem? (i := 0) rfl)
theorem mP_481 : Cond.methodLink RL 63 yX12_meet ∈ wP := wP_16_in _ (List.mem_of_getElem? (i := 1) rfl)
theorem mP_482 : Cond.instanceMethod yX12_meet ∈ wP := wP_16_in _ (List.mem_of_getElem? (i := 2) rfl)
theorem mP_483 : Cond.selects RX12 yX12_meet yX12_meet ∈ wP := wP_16_in _ (List.mem_of_getElem? (i := 3) rfl)
theorem mP_484 : Cond.code yX11_fit cX11_fit 3 (some .int) ∈ wP := wP_16_in _ (List.mem_of_getElem? (i := 4) rfl)
theorem mP_485 : Cond.methodLink RL 64 yX11_fit ∈ wP := wP_16_in _ (List.mem_of_getElem? (i := 5) rfl)
theorem mP_486 : Cond.instanceMethod yX11_fit ∈ wP := wP_16_in _ (List.mem_of_getElem? (i := 6) rfl)
theorem mP_487 : Cond.selects RX11 yX11_fit yX11_fit ∈ wP := wP_16_in _ (List.mem_of_getElem? (i := 7) rfl)
theorem mP_488 : Cond.code yX12_fit cX12_fit 6 (some .int) ∈ wP := wP_16_in _ (List.mem_of_getElem? (i := 8) rfl)
theorem mP_489 : Cond.methodLink RL 67 yX12_fit ∈ wP := wP_16_in _ (List.mem_of_getElem? (i := 9) rfl)
theorem mP_490 : Cond.instanceMethod yX12_fit ∈ wP := wP_16_in _ (List.mem_of_getElem? (i := 10) rfl)
theorem mP_491 : Cond.selects RX12 yX12_fit yX12_fit ∈ wP := wP_16_in _ (List.mem_of_getElem? (i := 11) rfl)
theorem mP_492 : Cond.code yX11_colour cX11_colour 2 (some .int) ∈ wP := wP_16_in _ (List.mem_of_getElem? (i := 12) rfl)
theorem mP_493 : Cond.methodLink RL 68 yX11_colour ∈ wP := wP_16_in _ (List.mem_of_getElem? (i := 13) rfl)
theorem mP_494 : Cond.instanceMethod yX11_colour ∈ wP := wP_16_in _ (List.mem_of_getElem? (i := 14) rfl)
theorem mP_495 : Cond.selects RX11 yX11_colour yX11_colour ∈ wP := wP_16_in _ (List.mem_of_getElem? (i := 15) rfl)
theorem mP_496 : Cond.code yX12_colour cX12_colour 6 (some .int) ∈ wP := wP_16_in _ (List.mem_of_getElem? (i := 16) rfl)
theorem mP_497 : Cond.methodLink RL 71 yX12_colour ∈ wP := wP_16_in _ (List.mem_of_getElem? (i := 17) rfl)
theorem mP_498 : Cond.instanceMethod yX12_colour ∈ wP := wP_16_in _ (List.mem_of_getElem? (i := 18) rfl)
theorem mP_499 : Cond.selects RX12 yX12_colour yX12_colour ∈ wP := wP_16_in _ (List.mem_of_getElem? (i := 19) rfl)
theorem mP_500 : Cond.code yX11_lower cX11_lower 1 (some .int) ∈ wP := wP_16_in _ (List.mem_of_getElem? (i := 20) rfl)
theorem mP_501 : Cond.methodLink RL 72 yX11_lower ∈ wP := wP_16_in _ (List.mem_of_getElem? (i := 21) rfl)
theorem mP_502 : Cond.instanceMethod yX11_lower ∈ wP := wP_16_in _ (List.mem_of_getElem? (i := 22) rfl)
theorem mP_503 : Cond.selects RX11 yX11_lower yX11_lower ∈ wP := wP_16_in _ (List.mem_of_getElem? (i := 23) rfl)
theorem mP_504 : Cond.fieldLink RX12 375 "PaletteHouseModel" "hasColours" "Z" ∈ wP := wP_16_in _ (List.mem_of_getElem? (i := 24) rfl)
theorem mP_505 : Cond.code yX12_lower cX12_lower 4 (some .int) ∈ wP := wP_16_in _ (List.mem_of_getElem? (i := 25) rfl)
theorem mP_506 : Cond.methodLink RL 75 yX12_lower ∈ wP := wP_16_in _ (List.mem_of_getElem? (i := 26) rfl)
theorem mP_507 : Cond.instanceMethod yX12_lower ∈ wP := wP_16_in _ (List.mem_of_getElem? (i := 27) rfl)
theorem mP_508 : Cond.selects RX12 yX12_lower yX12_lower ∈ wP := wP_16_in _ (List.mem_of_getElem? (i := 28) rfl)
theorem mP_509 : Cond.fieldLink RX11 98 "PaletteHouse" "rows" "LPaletteHouse$Code;" ∈ wP := wP_16_in _ (List.mem_of_getElem? (i := 29) rfl)
theorem mP_510 : Cond.code yX11_code cX11_code 3 (some .int) ∈ wP := wP_17_in _ (List.mem_of_getElem? (i := 0) rfl)
theorem mP_511 : Cond.methodLink RL 76 yX11_code ∈ wP := wP_17_in _ (List.mem_of_getElem? (i := 1) rfl)
theorem mP_512 : Cond.instanceMethod yX11_code ∈ wP := wP_17_in _ (List.mem_of_getElem? (i := 2) rfl)
theorem mP_513 : Cond.selects RX11 yX11_code yX11_code ∈ wP := wP_17_in _ (List.mem_of_getElem? (i := 3) rfl)
theorem mP_514 : Cond.fieldLink RX12 378 "PaletteHouseModel" "hasCode" "Z" ∈ wP := wP_17_in _ (List.mem_of_getElem? (i := 4) rfl)
theorem mP_515 : Cond.code yX12_code cX12_code 3 (some .int) ∈ wP := wP_17_in _ (List.mem_of_getElem? (i := 5) rfl)
theorem mP_516 : Cond.methodLink RL 79 yX12_code ∈ wP := wP_17_in _ (List.mem_of_getElem? (i := 6) rfl)
theorem mP_517 : Cond.instanceMethod yX12_code ∈ wP := wP_17_in _ (List.mem_of_getElem? (i := 7) rfl)
theorem mP_518 : Cond.selects RX12 yX12_code yX12_code ∈ wP := wP_17_in _ (List.mem_of_getElem? (i := 8) rfl)
theorem mP_519 : Cond.fieldLink RX11 216 "PaletteHouse" "fedCount" "I" ∈ wP := wP_17_in _ (List.mem_of_getElem? (i := 9) rfl)
theorem mP_520 : Cond.code yX11_input cX11_input 2 (some .int) ∈ wP := wP_17_in _ (List.mem_of_getElem? (i := 10) rfl)
theorem mP_521 : Cond.methodLink RL 80 yX11_input ∈ wP := wP_17_in _ (List.mem_of_getElem? (i := 11) rfl)
theorem mP_522 : Cond.instanceMethod yX11_input ∈ wP := wP_17_in _ (List.mem_of_getElem? (i := 12) rfl)
theorem mP_523 : Cond.selects RX11 yX11_input yX11_input ∈ wP := wP_17_in _ (List.mem_of_getElem? (i := 13) rfl)
theorem mP_524 : Cond.fieldLink RX12 519 "PaletteHouseModel" "givenMany" "I" ∈ wP := wP_17_in _ (List.mem_of_getElem? (i := 14) rfl)
theorem mP_525 : Cond.code yX12_input cX12_input 2 (some .int) ∈ wP := wP_17_in _ (List.mem_of_getElem? (i := 15) rfl)
theorem mP_526 : Cond.methodLink RL 83 yX12_input ∈ wP := wP_17_in _ (List.mem_of_getElem? (i := 16) rfl)
theorem mP_527 : Cond.instanceMethod yX12_input ∈ wP := wP_17_in _ (List.mem_of_getElem? (i := 17) rfl)
theorem mP_528 : Cond.selects RX12 yX12_input yX12_input ∈ wP := wP_17_in _ (List.mem_of_getElem? (i := 18) rfl)
theorem mP_529 : Cond.code yX11_clear cX11_clear 2 (some .int) ∈ wP := wP_17_in _ (List.mem_of_getElem? (i := 19) rfl)
theorem mP_530 : Cond.methodLink RL 84 yX11_clear ∈ wP := wP_17_in _ (List.mem_of_getElem? (i := 20) rfl)
theorem mP_531 : Cond.instanceMethod yX11_clear ∈ wP := wP_17_in _ (List.mem_of_getElem? (i := 21) rfl)
theorem mP_532 : Cond.selects RX11 yX11_clear yX11_clear ∈ wP := wP_17_in _ (List.mem_of_getElem? (i := 22) rfl)
theorem mP_533 : Cond.code yX12_clear cX12_clear 2 (some .int) ∈ wP := wP_17_in _ (List.mem_of_getElem? (i := 23) rfl)
theorem mP_534 : Cond.methodLink RL 87 yX12_clear ∈ wP := wP_17_in _ (List.mem_of_getElem? (i := 24) rfl)
theorem mP_535 : Cond.instanceMethod yX12_clear ∈ wP := wP_17_in _ (List.mem_of_getElem? (i := 25) rfl)
theorem mP_536 : Cond.selects RX12 yX12_clear yX12_clear ∈ wP := wP_17_in _ (List.mem_of_getElem? (i := 26) rfl)
theorem mP_537 : Cond.code yX11_run cX11_run 3 (some .int) ∈ wP := wP_17_in _ (List.mem_of_getElem? (i := 27) rfl)
theorem mP_538 : Cond.methodLink RL 88 yX11_run ∈ wP := wP_17_in _ (List.mem_of_getElem? (i := 28) rfl)
theorem mP_539 : Cond.instanceMethod yX11_run ∈ wP := wP_17_in _ (List.mem_of_getElem? (i := 29) rfl)
theorem mP_540 : Cond.selects RX11 yX11_run yX11_run ∈ wP := wP_18_in _ (List.mem_of_getElem? (i := 0) rfl)
theorem mP_541 : Cond.code yX12_run cX12_run 5 (some .int) ∈ wP := wP_18_in _ (List.mem_of_getElem? (i := 1) rfl)
theorem mP_542 : Cond.methodLink RL 92 yX12_run ∈ wP := wP_18_in _ (List.mem_of_getElem? (i := 2) rfl)
theorem mP_543 : Cond.instanceMethod yX12_run ∈ wP := wP_18_in _ (List.mem_of_getElem? (i := 3) rfl)
theorem mP_544 : Cond.selects RX12 yX12_run yX12_run ∈ wP := wP_18_in _ (List.mem_of_getElem? (i := 4) rfl)
theorem mP_545 : Cond.fieldLink RX11 107 "PaletteHouse" "plain" "LPaletteHouse$Machine;" ∈ wP := wP_18_in _ (List.mem_of_getElem? (i := 5) rfl)
theorem mP_546 : Cond.code yX11_told cX11_told 4 (some .int) ∈ wP := wP_18_in _ (List.mem_of_getElem? (i := 6) rfl)
theorem mP_547 : Cond.methodLink RL 93 yX11_told ∈ wP := wP_18_in _ (List.mem_of_getElem? (i := 7) rfl)
theorem mP_548 : Cond.instanceMethod yX11_told ∈ wP := wP_18_in _ (List.mem_of_getElem? (i := 8) rfl)
theorem mP_549 : Cond.selects RX11 yX11_told yX11_told ∈ wP := wP_18_in _ (List.mem_of_getElem? (i := 9) rfl)
theorem mP_550 : Cond.code yX12_told cX12_told 4 (some .int) ∈ wP := wP_18_in _ (List.mem_of_getElem? (i := 10) rfl)
theorem mP_551 : Cond.methodLink RL 96 yX12_told ∈ wP := wP_18_in _ (List.mem_of_getElem? (i := 11) rfl)
theorem mP_552 : Cond.instanceMethod yX12_told ∈ wP := wP_18_in _ (List.mem_of_getElem? (i := 12) rfl)
theorem mP_553 : Cond.selects RX12 yX12_told yX12_told ∈ wP := wP_18_in _ (List.mem_of_getElem? (i := 13) rfl)
theorem mP_554 : Cond.fieldLink RX11 116 "PaletteHouse" "coded" "LPaletteHouse$Machine;" ∈ wP := wP_18_in _ (List.mem_of_getElem? (i := 14) rfl)
theorem mP_555 : Cond.code yX11_output cX11_output 4 (some .int) ∈ wP := wP_18_in _ (List.mem_of_getElem? (i := 15) rfl)
theorem mP_556 : Cond.methodLink RL 97 yX11_output ∈ wP := wP_18_in _ (List.mem_of_getElem? (i := 16) rfl)
theorem mP_557 : Cond.instanceMethod yX11_output ∈ wP := wP_18_in _ (List.mem_of_getElem? (i := 17) rfl)
theorem mP_558 : Cond.selects RX11 yX11_output yX11_output ∈ wP := wP_18_in _ (List.mem_of_getElem? (i := 18) rfl)
theorem mP_559 : Cond.code yX12_output cX12_output 4 (some .int) ∈ wP := wP_18_in _ (List.mem_of_getElem? (i := 19) rfl)
theorem mP_560 : Cond.methodLink RL 100 yX12_output ∈ wP := wP_18_in _ (List.mem_of_getElem? (i := 20) rfl)
theorem mP_561 : Cond.instanceMethod yX12_output ∈ wP := wP_18_in _ (List.mem_of_getElem? (i := 21) rfl)
theorem mP_562 : Cond.selects RX12 yX12_output yX12_output ∈ wP := wP_18_in _ (List.mem_of_getElem? (i := 22) rfl)
theorem mP_563 : Cond.code yX11_memory cX11_memory 4 (some .int) ∈ wP := wP_18_in _ (List.mem_of_getElem? (i := 23) rfl)
theorem mP_564 : Cond.methodLink RL 101 yX11_memory ∈ wP := wP_18_in _ (List.mem_of_getElem? (i := 24) rfl)
theorem mP_565 : Cond.instanceMethod yX11_memory ∈ wP := wP_18_in _ (List.mem_of_getElem? (i := 25) rfl)
theorem mP_566 : Cond.selects RX11 yX11_memory yX11_memory ∈ wP := wP_18_in _ (List.mem_of_getElem? (i := 26) rfl)
theorem mP_567 : Cond.code yX12_memory cX12_memory 4 (some .int) ∈ wP := wP_18_in _ (List.mem_of_getElem? (i := 27) rfl)
theorem mP_568 : Cond.methodLink RL 104 yX12_memory ∈ wP := wP_18_in _ (List.mem_of_getElem? (i := 28) rfl)
theorem mP_569 : Cond.instanceMethod yX12_memory ∈ wP := wP_18_in _ (List.mem_of_getElem? (i := 29) rfl)
theorem mP_570 : Cond.selects RX12 yX12_memory yX12_memory ∈ wP := wP_19_in _ (List.mem_of_getElem? (i := 0) rfl)
theorem mP_571 : Cond.code yX11_countRows cX11_countRows 2 (some .int) ∈ wP := wP_19_in _ (List.mem_of_getElem? (i := 1) rfl)
theorem mP_572 : Cond.methodLink RX11 251 yX11_countRows ∈ wP := wP_19_in _ (List.mem_of_getElem? (i := 2) rfl)
theorem mP_573 : Cond.instanceMethod yX11_countRows ∈ wP := wP_19_in _ (List.mem_of_getElem? (i := 3) rfl)
theorem mP_574 : Cond.selects RX11 yX11_countRows yX11_countRows ∈ wP := wP_19_in _ (List.mem_of_getElem? (i := 4) rfl)
theorem mP_575 : Cond.code yX11_count cX11_count 2 (some .int) ∈ wP := wP_19_in _ (List.mem_of_getElem? (i := 5) rfl)
theorem mP_576 : Cond.methodLink RL 105 yX11_count ∈ wP := wP_19_in _ (List.mem_of_getElem? (i := 6) rfl)
theorem mP_577 : Cond.instanceMethod yX11_count ∈ wP := wP_19_in _ (List.mem_of_getElem? (i := 7) rfl)
theorem mP_578 : Cond.selects RX11 yX11_count yX11_count ∈ wP := wP_19_in _ (List.mem_of_getElem? (i := 8) rfl)
theorem mP_579 : Cond.code yX12_count cX12_count 2 (some .int) ∈ wP := wP_19_in _ (List.mem_of_getElem? (i := 9) rfl)
theorem mP_580 : Cond.methodLink RL 108 yX12_count ∈ wP := wP_19_in _ (List.mem_of_getElem? (i := 10) rfl)
theorem mP_581 : Cond.instanceMethod yX12_count ∈ wP := wP_19_in _ (List.mem_of_getElem? (i := 11) rfl)
theorem mP_582 : Cond.selects RX12 yX12_count yX12_count ∈ wP := wP_19_in _ (List.mem_of_getElem? (i := 12) rfl)
set_option maxRecDepth 100000 in
theorem goodP_all : wP.all goodWord = true := by decide +kernel
theorem goodP : ∀ w ∈ wP, (w.onTables && w.keeps) = true ∨ ∃ ty, w = .arrayClass ty := fun w h => good_of_word (List.all_eq_true.mp goodP_all w h)
theorem gd {y : MethodName} {b : ByteArray} {n : Nat} {r : Option FieldType} (h : Cond.code y b n r ∈ wP) : GoodIn wP (.code y b n r :: wP) := fun w hw => (List.mem_cons.mp hw).elim (fun q => by rw [q]; exact ⟨h, goodP _ h⟩) (fun q => ⟨q, goodP _ q⟩)
end
section
theorem tb_1 : ∀ w ∈ tables_1_1, w ∈ lw_tbl := fun _ h => List.mem_append_right _ (List.mem_append_left _ h)
theorem tb_2 : ∀ w ∈ tables_1_2, w ∈ lw_tbl := fun _ h => List.mem_append_right _ (List.mem_append_right _ (List.mem_append_left _ h))
theorem tb_3 : ∀ w ∈ tables_1_3, w ∈ lw_tbl := fun _ h => List.mem_append_right _ (List.mem_append_right _ (List.mem_append_right _ (List.mem_append_left _ h)))
theorem tb_4 : ∀ w ∈ tables_1_4, w ∈ lw_tbl := fun _ h => List.mem_append_right _ (List.mem_append_right _ (List.mem_append_right _ (List.mem_append_right _ (List.mem_append_left _ h))))
theorem tb_5 : ∀ w ∈ tables_1_5, w ∈ lw_tbl := fun _ h => List.mem_append_right _ (List.mem_append_right _ (List.mem_append_right _ (List.mem_append_right _ (List.mem_append_right _ (List.mem_append_left _ h)))))
theorem tb_6 : ∀ w ∈ tables_1_6, w ∈ lw_tbl := fun _ h => List.mem_append_right _ (List.mem_append_right _ (List.mem_append_right _ (List.mem_append_right _ (List.mem_append_right _ (List.mem_append_right _ (List.mem_append_left _ h))))))
theorem tb_7 : ∀ w ∈ tables_1_7, w ∈ lw_tbl := fun _ h => List.mem_append_right _ (List.mem_append_right _ (List.mem_append_right _ (List.mem_append_right _ (List.mem_append_right _ (List.mem_append_right _ (List.mem_append_right _ (List.mem_append_left _ h)))))))
theorem tb_8 : ∀ w ∈ tables_1_8, w ∈ lw_tbl := fun _ h => List.mem_append_right _ (List.mem_append_right _ (List.mem_append_right _ (List.mem_append_right _ (List.mem_append_right _ (List.mem_append_right _ (List.mem_append_right _ (List.mem_append_right _ (List.mem_append_left _ h))))))))
theorem tb_9 : ∀ w ∈ tables_1_9, w ∈ lw_tbl := fun _ h => List.mem_append_right _ (List.mem_append_right _ (List.mem_append_right _ (List.mem_append_right _ (List.mem_append_right _ (List.mem_append_right _ (List.mem_append_right _ (List.mem_append_right _ (List.mem_append_right _ (h)))))))))
theorem mT_0 : Cond.fieldLink RJ0 38 "java/lang/String" "COMPACT_STRINGS" "Z" ∈ lw_tbl := tb_1 _ (List.mem_of_getElem? (i := 132) rfl)
theorem mT_1 : Cond.fieldLink RJ0 15 "java/lang/String" "coder" "B" ∈ lw_tbl := tb_9 _ (List.mem_of_getElem? (i := 129) rfl)
theorem mT_2 : Cond.fieldLink RJ0 9 "java/lang/String" "value" "[B" ∈ lw_tbl := tb_9 _ (List.mem_of_getElem? (i := 128) rfl)
theorem mT_3 : Cond.initialized RJ0 ∈ lw_tbl := tb_1 _ (List.mem_of_getElem? (i := 6) rfl)
theorem mT_4 : Cond.code yJ0_coder_7d493 cJ0_coder_7d493 1 (some .byte) ∈ lw_tbl := tb_1 _ (List.mem_of_getElem? (i := 131) rfl)
theorem mT_5 : Cond.methodLink RJ0 335 yJ0_coder_7d493 ∈ lw_tbl := tb_1 _ (List.mem_of_getElem? (i := 128) rfl)
theorem mT_6 : Cond.instanceMethod yJ0_coder_7d493 ∈ lw_tbl := tb_1 _ (List.mem_of_getElem? (i := 129) rfl)
theorem mT_7 : Cond.selects RJ0 yJ0_coder_7d493 yJ0_coder_7d493 ∈ lw_tbl := tb_1 _ (List.mem_of_getElem? (i := 130) rfl)
theorem mT_8 : Cond.fieldLink RJ0 1053 "jdk/internal/util/Preconditions" "SIOOBE_FORMATTER" "Ljava/util/function/BiFunction;" ∈ lw_tbl := tb_1 _ (List.mem_of_getElem? (i := 148) rfl)
theorem mT_9 : Cond.initialized RJ3 ∈ lw_tbl := tb_1 _ (List.mem_of_getElem? (i := 8) rfl)
theorem mT_10 : Cond.code yJ3_checkIndex_8e157 cJ3_checkIndex_8e157 3 (some .int) ∈ lw_tbl := tb_1 _ (List.mem_of_getElem? (i := 152) rfl)
theorem mT_11 : Cond.methodLink RJ0 1059 yJ3_checkIndex_8e157 ∈ lw_tbl := tb_1 _ (List.mem_of_getElem? (i := 150) rfl)
theorem mT_12 : Cond.static yJ3_checkIndex_8e157 ∈ lw_tbl := tb_1 _ (List.mem_of_getElem? (i := 151) rfl)
theorem mT_13 : Cond.code yJ0_checkIndex_df160 cJ0_checkIndex_df160 2 none ∈ lw_tbl := tb_1 _ (List.mem_of_getElem? (i := 147) rfl)
theorem mT_14 : Cond.methodLink RJ1 9 yJ0_checkIndex_df160 ∈ lw_tbl := tb_1 _ (List.mem_of_getElem? (i := 145) rfl)
theorem mT_15 : Cond.static yJ0_checkIndex_df160 ∈ lw_tbl := tb_1 _ (List.mem_of_getElem? (i := 146) rfl)
theorem mT_16 : Cond.code yJ0_isLatin1_aae02 cJ0_isLatin1_aae02 1 (some .boolean) ∈ lw_tbl := tb_1 _ (List.mem_of_getElem? (i := 141) rfl)
theorem mT_17 : Cond.methodLink RJ0 492 yJ0_isLatin1_aae02 ∈ lw_tbl := tb_1 _ (List.mem_of_getElem? (i := 138) rfl)
theorem mT_18 : Cond.instanceMethod yJ0_isLatin1_aae02 ∈ lw_tbl := tb_1 _ (List.mem_of_getElem? (i := 139) rfl)
theorem mT_19 : Cond.selects RJ0 yJ0_isLatin1_aae02 yJ0_isLatin1_aae02 ∈ lw_tbl := tb_1 _ (List.mem_of_getElem? (i := 140) rfl)
theorem mT_20 : Cond.initialized RJ1 ∈ lw_tbl := tb_1 _ (List.mem_of_getElem? (i := 7) rfl)
theorem mT_21 : Cond.code yJ1_charAt_3b067 cJ1_charAt_3b067 2 (some .char) ∈ lw_tbl := tb_1 _ (List.mem_of_getElem? (i := 144) rfl)
theorem mT_22 : Cond.methodLink RJ0 495 yJ1_charAt_3b067 ∈ lw_tbl := tb_1 _ (List.mem_of_getElem? (i := 142) rfl)
theorem mT_23 : Cond.static yJ1_charAt_3b067 ∈ lw_tbl := tb_1 _ (List.mem_of_getElem? (i := 143) rfl)
theorem mT_24 : Cond.classLink RL 7 RX11 ∈ lw_tbl := tb_1 _ (List.mem_of_getElem? (i := 23) rfl)
theorem mT_25 : Cond.instantiable RX11 15 ∈ lw_tbl := tb_1 _ (List.mem_of_getElem? (i := 24) rfl)
theorem mT_26 : Cond.initialized RX11 ∈ lw_tbl := tb_1 _ (List.mem_of_getElem? (i := 1) rfl)
theorem mT_27 : Cond.methodLink RX11 3 objectInit ∈ lw_tbl := tb_1 _ (List.mem_of_getElem? (i := 28) rfl)
theorem mT_28 : Cond.instanceMethod objectInit ∈ lw_tbl := tb_1 _ (List.mem_of_getElem? (i := 29) rfl)
theorem mT_29 : Cond.code objectInit ⟨#[0xb1]⟩ 1 none ∈ lw_tbl := tb_1 _ (List.mem_of_getElem? (i := 30) rfl)
theorem mT_30 : Cond.arrayClass .byte ∈ lw_tbl := tb_1 _ (List.mem_of_getElem? (i := 77) rfl)
theorem mT_31 : Cond.fieldLink RX11 9 "PaletteHouse" "tape" "[B" ∈ lw_tbl := tb_1 _ (List.mem_of_getElem? (i := 31) rfl)
theorem mT_32 : Cond.arrayClass .int ∈ lw_tbl := tb_1 _ (List.mem_of_getElem? (i := 78) rfl)
theorem mT_33 : Cond.fieldLink RX11 13 "PaletteHouse" "fed" "[I" ∈ lw_tbl := tb_1 _ (List.mem_of_getElem? (i := 33) rfl)
theorem mT_34 : Cond.fieldLink RX11 17 "PaletteHouse" "faultPlace" "I" ∈ lw_tbl := tb_1 _ (List.mem_of_getElem? (i := 35) rfl)
theorem mT_35 : Cond.code yX11_init cX11_init 1 none ∈ lw_tbl := tb_1 _ (List.mem_of_getElem? (i := 27) rfl)
theorem mT_36 : Cond.methodLink RL 9 yX11_init ∈ lw_tbl := tb_1 _ (List.mem_of_getElem? (i := 25) rfl)
theorem mT_37 : Cond.instanceMethod yX11_init ∈ lw_tbl := tb_1 _ (List.mem_of_getElem? (i := 26) rfl)
theorem mT_38 : Cond.classLink RL 10 RX12 ∈ lw_tbl := tb_6 _ (List.mem_of_getElem? (i := 175) rfl)
theorem mT_39 : Cond.instantiable RX12 105 ∈ lw_tbl := tb_6 _ (List.mem_of_getElem? (i := 176) rfl)
theorem mT_40 : Cond.initialized RX12 ∈ lw_tbl := tb_1 _ (List.mem_of_getElem? (i := 2) rfl)
theorem mT_41 : Cond.methodLink RX12 7 objectInit ∈ lw_tbl := tb_6 _ (List.mem_of_getElem? (i := 180) rfl)
theorem mT_42 : Cond.fieldLink RX12 13 "PaletteHouseModel" "keys" "[I" ∈ lw_tbl := tb_6 _ (List.mem_of_getElem? (i := 185) rfl)
theorem mT_43 : Cond.fieldLink RX12 17 "PaletteHouseModel" "tape" "[B" ∈ lw_tbl := tb_6 _ (List.mem_of_getElem? (i := 186) rfl)
theorem mT_44 : Cond.fieldLink RX12 21 "PaletteHouseModel" "text" "[B" ∈ lw_tbl := tb_6 _ (List.mem_of_getElem? (i := 188) rfl)
theorem mT_45 : Cond.fieldLink RX12 24 "PaletteHouseModel" "tKind" "[I" ∈ lw_tbl := tb_6 _ (List.mem_of_getElem? (i := 190) rfl)
theorem mT_46 : Cond.fieldLink RX12 27 "PaletteHouseModel" "tPlace" "[I" ∈ lw_tbl := tb_6 _ (List.mem_of_getElem? (i := 191) rfl)
theorem mT_47 : Cond.fieldLink RX12 30 "PaletteHouseModel" "tValue" "[I" ∈ lw_tbl := tb_6 _ (List.mem_of_getElem? (i := 192) rfl)
theorem mT_48 : Cond.fieldLink RX12 33 "PaletteHouseModel" "letters" "[B" ∈ lw_tbl := tb_6 _ (List.mem_of_getElem? (i := 193) rfl)
theorem mT_49 : Cond.fieldLink RX12 36 "PaletteHouseModel" "faultPlace" "I" ∈ lw_tbl := tb_6 _ (List.mem_of_getElem? (i := 197) rfl)
theorem mT_50 : Cond.fieldLink RX12 39 "PaletteHouseModel" "place" "I" ∈ lw_tbl := tb_6 _ (List.mem_of_getElem? (i := 198) rfl)
theorem mT_51 : Cond.fieldLink RX12 42 "PaletteHouseModel" "blocks" "[I" ∈ lw_tbl := tb_6 _ (List.mem_of_getElem? (i := 199) rfl)
theorem mT_52 : Cond.fieldLink RX12 45 "PaletteHouseModel" "values" "[I" ∈ lw_tbl := tb_6 _ (List.mem_of_getElem? (i := 200) rfl)
theorem mT_53 : Cond.fieldLink RX12 48 "PaletteHouseModel" "insMany" "[I" ∈ lw_tbl := tb_6 _ (List.mem_of_getElem? (i := 201) rfl)
theorem mT_54 : Cond.fieldLink RX12 51 "PaletteHouseModel" "phis" "[I" ∈ lw_tbl := tb_6 _ (List.mem_of_getElem? (i := 202) rfl)
theorem mT_55 : Cond.fieldLink RX12 54 "PaletteHouseModel" "arms" "[I" ∈ lw_tbl := tb_6 _ (List.mem_of_getElem? (i := 203) rfl)
theorem mT_56 : Cond.fieldLink RX12 57 "PaletteHouseModel" "parameters" "[I" ∈ lw_tbl := tb_6 _ (List.mem_of_getElem? (i := 204) rfl)
theorem mT_57 : Cond.fieldLink RX12 60 "PaletteHouseModel" "slots" "[I" ∈ lw_tbl := tb_6 _ (List.mem_of_getElem? (i := 205) rfl)
theorem mT_58 : Cond.fieldLink RX12 63 "PaletteHouseModel" "bFirst" "[I" ∈ lw_tbl := tb_6 _ (List.mem_of_getElem? (i := 206) rfl)
theorem mT_59 : Cond.fieldLink RX12 66 "PaletteHouseModel" "bEnd" "[I" ∈ lw_tbl := tb_6 _ (List.mem_of_getElem? (i := 207) rfl)
theorem mT_60 : Cond.fieldLink RX12 69 "PaletteHouseModel" "bValue" "[I" ∈ lw_tbl := tb_6 _ (List.mem_of_getElem? (i := 208) rfl)
theorem mT_61 : Cond.fieldLink RX12 72 "PaletteHouseModel" "bNumber" "[I" ∈ lw_tbl := tb_6 _ (List.mem_of_getElem? (i := 209) rfl)
theorem mT_62 : Cond.fieldLink RX12 75 "PaletteHouseModel" "bTo" "[I" ∈ lw_tbl := tb_6 _ (List.mem_of_getElem? (i := 210) rfl)
theorem mT_63 : Cond.fieldLink RX12 78 "PaletteHouseModel" "bElse" "[I" ∈ lw_tbl := tb_6 _ (List.mem_of_getElem? (i := 211) rfl)
theorem mT_64 : Cond.fieldLink RX12 81 "PaletteHouseModel" "bPhi" "[I" ∈ lw_tbl := tb_6 _ (List.mem_of_getElem? (i := 212) rfl)
theorem mT_65 : Cond.fieldLink RX12 84 "PaletteHouseModel" "bPhis" "[I" ∈ lw_tbl := tb_6 _ (List.mem_of_getElem? (i := 213) rfl)
theorem mT_66 : Cond.fieldLink RX12 87 "PaletteHouseModel" "vBlock" "[I" ∈ lw_tbl := tb_6 _ (List.mem_of_getElem? (i := 214) rfl)
theorem mT_67 : Cond.fieldLink RX12 90 "PaletteHouseModel" "vIns" "[I" ∈ lw_tbl := tb_6 _ (List.mem_of_getElem? (i := 215) rfl)
theorem mT_68 : Cond.fieldLink RX12 93 "PaletteHouseModel" "vSlot" "[I" ∈ lw_tbl := tb_6 _ (List.mem_of_getElem? (i := 216) rfl)
theorem mT_69 : Cond.arrayClass .boolean ∈ lw_tbl := tb_8 _ (List.mem_of_getElem? (i := 20) rfl)
theorem mT_70 : Cond.fieldLink RX12 96 "PaletteHouseModel" "vLoaded" "[Z" ∈ lw_tbl := tb_6 _ (List.mem_of_getElem? (i := 217) rfl)
theorem mT_71 : Cond.fieldLink RX12 100 "PaletteHouseModel" "fResult" "[I" ∈ lw_tbl := tb_6 _ (List.mem_of_getElem? (i := 218) rfl)
theorem mT_72 : Cond.fieldLink RX12 103 "PaletteHouseModel" "fBlock" "[I" ∈ lw_tbl := tb_6 _ (List.mem_of_getElem? (i := 219) rfl)
theorem mT_73 : Cond.fieldLink RX12 106 "PaletteHouseModel" "fArm" "[I" ∈ lw_tbl := tb_6 _ (List.mem_of_getElem? (i := 220) rfl)
theorem mT_74 : Cond.fieldLink RX12 109 "PaletteHouseModel" "fArms" "[I" ∈ lw_tbl := tb_6 _ (List.mem_of_getElem? (i := 221) rfl)
theorem mT_75 : Cond.fieldLink RX12 112 "PaletteHouseModel" "mBlock" "[I" ∈ lw_tbl := tb_6 _ (List.mem_of_getElem? (i := 222) rfl)
theorem mT_76 : Cond.fieldLink RX12 115 "PaletteHouseModel" "mValue" "[I" ∈ lw_tbl := tb_6 _ (List.mem_of_getElem? (i := 223) rfl)
theorem mT_77 : Cond.fieldLink RX12 118 "PaletteHouseModel" "mNumber" "[I" ∈ lw_tbl := tb_6 _ (List.mem_of_getElem? (i := 224) rfl)
theorem mT_78 : Cond.fieldLink RX12 121 "PaletteHouseModel" "iOp" "[I" ∈ lw_tbl := tb_6 _ (List.mem_of_getElem? (i := 225) rfl)
theorem mT_79 : Cond.fieldLink RX12 124 "PaletteHouseModel" "iResult" "[I" ∈ lw_tbl := tb_6 _ (List.mem_of_getElem? (i := 226) rfl)
theorem mT_80 : Cond.fieldLink RX12 127 "PaletteHouseModel" "iValue" "[I" ∈ lw_tbl := tb_6 _ (List.mem_of_getElem? (i := 227) rfl)
theorem mT_81 : Cond.fieldLink RX12 130 "PaletteHouseModel" "iNumber" "[I" ∈ lw_tbl := tb_6 _ (List.mem_of_getElem? (i := 228) rfl)
theorem mT_82 : Cond.fieldLink RX12 133 "PaletteHouseModel" "iNext" "[I" ∈ lw_tbl := tb_6 _ (List.mem_of_getElem? (i := 229) rfl)
theorem mT_83 : Cond.fieldLink RX12 136 "PaletteHouseModel" "valueToken" "[I" ∈ lw_tbl := tb_6 _ (List.mem_of_getElem? (i := 231) rfl)
theorem mT_84 : Cond.fieldLink RX12 139 "PaletteHouseModel" "blockToken" "[I" ∈ lw_tbl := tb_6 _ (List.mem_of_getElem? (i := 232) rfl)
theorem mT_85 : Cond.fieldLink RX12 142 "PaletteHouseModel" "phiToken" "[I" ∈ lw_tbl := tb_6 _ (List.mem_of_getElem? (i := 233) rfl)
theorem mT_86 : Cond.fieldLink RX12 145 "PaletteHouseModel" "armToken" "[I" ∈ lw_tbl := tb_6 _ (List.mem_of_getElem? (i := 234) rfl)
theorem mT_87 : Cond.fieldLink RX12 148 "PaletteHouseModel" "armValToken" "[I" ∈ lw_tbl := tb_6 _ (List.mem_of_getElem? (i := 235) rfl)
theorem mT_88 : Cond.fieldLink RX12 151 "PaletteHouseModel" "insToken" "[I" ∈ lw_tbl := tb_6 _ (List.mem_of_getElem? (i := 236) rfl)
theorem mT_89 : Cond.fieldLink RX12 154 "PaletteHouseModel" "endToken" "[I" ∈ lw_tbl := tb_6 _ (List.mem_of_getElem? (i := 237) rfl)
theorem mT_90 : Cond.fieldLink RX12 157 "PaletteHouseModel" "toToken" "[I" ∈ lw_tbl := tb_6 _ (List.mem_of_getElem? (i := 238) rfl)
theorem mT_91 : Cond.fieldLink RX12 160 "PaletteHouseModel" "elseToken" "[I" ∈ lw_tbl := tb_6 _ (List.mem_of_getElem? (i := 239) rfl)
theorem mT_92 : Cond.fieldLink RX12 163 "PaletteHouseModel" "leads" "[Z" ∈ lw_tbl := tb_7 _ (List.mem_of_getElem? (i := 3) rfl)
theorem mT_93 : Cond.fieldLink RX12 166 "PaletteHouseModel" "dominate" "[I" ∈ lw_tbl := tb_7 _ (List.mem_of_getElem? (i := 4) rfl)
theorem mT_94 : Cond.fieldLink RX12 169 "PaletteHouseModel" "index" "[I" ∈ lw_tbl := tb_7 _ (List.mem_of_getElem? (i := 5) rfl)
theorem mT_95 : Cond.fieldLink RX12 172 "PaletteHouseModel" "insBlock" "[I" ∈ lw_tbl := tb_7 _ (List.mem_of_getElem? (i := 6) rfl)
theorem mT_96 : Cond.fieldLink RX12 175 "PaletteHouseModel" "many" "[I" ∈ lw_tbl := tb_7 _ (List.mem_of_getElem? (i := 7) rfl)
theorem mT_97 : Cond.fieldLink RX12 178 "PaletteHouseModel" "idom" "[I" ∈ lw_tbl := tb_7 _ (List.mem_of_getElem? (i := 8) rfl)
theorem mT_98 : Cond.fieldLink RX12 181 "PaletteHouseModel" "orderAt" "[I" ∈ lw_tbl := tb_7 _ (List.mem_of_getElem? (i := 9) rfl)
theorem mT_99 : Cond.fieldLink RX12 184 "PaletteHouseModel" "order" "[I" ∈ lw_tbl := tb_7 _ (List.mem_of_getElem? (i := 10) rfl)
theorem mT_100 : Cond.fieldLink RX12 187 "PaletteHouseModel" "pointFrom" "[I" ∈ lw_tbl := tb_7 _ (List.mem_of_getElem? (i := 12) rfl)
theorem mT_101 : Cond.constant RX12 190 (552200) ∈ lw_tbl := tb_6 _ (List.mem_of_getElem? (i := 181) rfl)
theorem mT_102 : Cond.fieldLink RX12 191 "PaletteHouseModel" "live" "[Z" ∈ lw_tbl := tb_7 _ (List.mem_of_getElem? (i := 13) rfl)
theorem mT_103 : Cond.fieldLink RX12 194 "PaletteHouseModel" "pressure" "[I" ∈ lw_tbl := tb_7 _ (List.mem_of_getElem? (i := 14) rfl)
theorem mT_104 : Cond.fieldLink RX12 197 "PaletteHouseModel" "uses" "[I" ∈ lw_tbl := tb_7 _ (List.mem_of_getElem? (i := 15) rfl)
theorem mT_105 : Cond.fieldLink RX12 200 "PaletteHouseModel" "waits" "[I" ∈ lw_tbl := tb_7 _ (List.mem_of_getElem? (i := 18) rfl)
theorem mT_106 : Cond.fieldLink RX12 203 "PaletteHouseModel" "colour" "[I" ∈ lw_tbl := tb_7 _ (List.mem_of_getElem? (i := 20) rfl)
theorem mT_107 : Cond.fieldLink RX12 206 "PaletteHouseModel" "wanted" "[I" ∈ lw_tbl := tb_7 _ (List.mem_of_getElem? (i := 21) rfl)
theorem mT_108 : Cond.fieldLink RX12 209 "PaletteHouseModel" "taken" "[Z" ∈ lw_tbl := tb_7 _ (List.mem_of_getElem? (i := 22) rfl)
theorem mT_109 : Cond.fieldLink RX12 212 "PaletteHouseModel" "rOp" "[I" ∈ lw_tbl := tb_7 _ (List.mem_of_getElem? (i := 25) rfl)
theorem mT_110 : Cond.fieldLink RX12 215 "PaletteHouseModel" "rTo" "[I" ∈ lw_tbl := tb_7 _ (List.mem_of_getElem? (i := 26) rfl)
theorem mT_111 : Cond.fieldLink RX12 218 "PaletteHouseModel" "rRegister" "[I" ∈ lw_tbl := tb_7 _ (List.mem_of_getElem? (i := 27) rfl)
theorem mT_112 : Cond.fieldLink RX12 221 "PaletteHouseModel" "rNumber" "[I" ∈ lw_tbl := tb_7 _ (List.mem_of_getElem? (i := 28) rfl)
theorem mT_113 : Cond.fieldLink RX12 224 "PaletteHouseModel" "rGo" "[I" ∈ lw_tbl := tb_7 _ (List.mem_of_getElem? (i := 29) rfl)
theorem mT_114 : Cond.fieldLink RX12 227 "PaletteHouseModel" "rFree" "[Z" ∈ lw_tbl := tb_7 _ (List.mem_of_getElem? (i := 30) rfl)
theorem mT_115 : Cond.fieldLink RX12 230 "PaletteHouseModel" "blockRow" "[I" ∈ lw_tbl := tb_7 _ (List.mem_of_getElem? (i := 31) rfl)
theorem mT_116 : Cond.fieldLink RX12 233 "PaletteHouseModel" "endRow" "[I" ∈ lw_tbl := tb_7 _ (List.mem_of_getElem? (i := 32) rfl)
theorem mT_117 : Cond.fieldLink RX12 236 "PaletteHouseModel" "mTo" "[I" ∈ lw_tbl := tb_7 _ (List.mem_of_getElem? (i := 33) rfl)
theorem mT_118 : Cond.fieldLink RX12 239 "PaletteHouseModel" "mFrom" "[I" ∈ lw_tbl := tb_7 _ (List.mem_of_getElem? (i := 34) rfl)
theorem mT_119 : Cond.fieldLink RX12 242 "PaletteHouseModel" "mLeft" "[Z" ∈ lw_tbl := tb_7 _ (List.mem_of_getElem? (i := 35) rfl)
theorem mT_120 : Cond.fieldLink RX12 245 "PaletteHouseModel" "given" "[I" ∈ lw_tbl := tb_7 _ (List.mem_of_getElem? (i := 36) rfl)
theorem mT_121 : Cond.fieldLink RX12 248 "PaletteHouseModel" "hasRun" "[Z" ∈ lw_tbl := tb_7 _ (List.mem_of_getElem? (i := 38) rfl)
theorem mT_122 : Cond.fieldLink RX12 251 "PaletteHouseModel" "stopped" "[I" ∈ lw_tbl := tb_7 _ (List.mem_of_getElem? (i := 39) rfl)
theorem mT_123 : Cond.fieldLink RX12 254 "PaletteHouseModel" "stepped" "[I" ∈ lw_tbl := tb_7 _ (List.mem_of_getElem? (i := 40) rfl)
theorem mT_124 : Cond.fieldLink RX12 257 "PaletteHouseModel" "told" "[I" ∈ lw_tbl := tb_7 _ (List.mem_of_getElem? (i := 41) rfl)
theorem mT_125 : Cond.fieldLink RX12 260 "PaletteHouseModel" "out" "[I" ∈ lw_tbl := tb_7 _ (List.mem_of_getElem? (i := 42) rfl)
theorem mT_126 : Cond.fieldLink RX12 263 "PaletteHouseModel" "tookIn" "[I" ∈ lw_tbl := tb_7 _ (List.mem_of_getElem? (i := 43) rfl)
theorem mT_127 : Cond.fieldLink RX12 266 "PaletteHouseModel" "outputs" "[I" ∈ lw_tbl := tb_7 _ (List.mem_of_getElem? (i := 44) rfl)
theorem mT_128 : Cond.fieldLink RX12 269 "PaletteHouseModel" "memories" "[I" ∈ lw_tbl := tb_7 _ (List.mem_of_getElem? (i := 45) rfl)
theorem mT_129 : Cond.fieldLink RX12 272 "PaletteHouseModel" "holds" "[I" ∈ lw_tbl := tb_7 _ (List.mem_of_getElem? (i := 46) rfl)
theorem mT_130 : Cond.fieldLink RX12 275 "PaletteHouseModel" "inSlot" "[I" ∈ lw_tbl := tb_7 _ (List.mem_of_getElem? (i := 47) rfl)
theorem mT_131 : Cond.fieldLink RX12 278 "PaletteHouseModel" "aside" "[I" ∈ lw_tbl := tb_7 _ (List.mem_of_getElem? (i := 48) rfl)
theorem mT_132 : Cond.code yX12_word cX12_word 4 (some .int) ∈ lw_tbl := tb_6 _ (List.mem_of_getElem? (i := 184) rfl)
theorem mT_133 : Cond.methodLink RX12 281 yX12_word ∈ lw_tbl := tb_6 _ (List.mem_of_getElem? (i := 182) rfl)
theorem mT_134 : Cond.static yX12_word ∈ lw_tbl := tb_6 _ (List.mem_of_getElem? (i := 183) rfl)
theorem mT_135 : Cond.code yX12_init cX12_init 1 none ∈ lw_tbl := tb_6 _ (List.mem_of_getElem? (i := 179) rfl)
theorem mT_136 : Cond.methodLink RL 12 yX12_init ∈ lw_tbl := tb_6 _ (List.mem_of_getElem? (i := 177) rfl)
theorem mT_137 : Cond.instanceMethod yX12_init ∈ lw_tbl := tb_6 _ (List.mem_of_getElem? (i := 178) rfl)
theorem mT_138 : Cond.fieldLink RX11 21 "PaletteHouse" "length" "I" ∈ lw_tbl := tb_1 _ (List.mem_of_getElem? (i := 32) rfl)
theorem mT_139 : Cond.code yX11_append cX11_append 3 none ∈ lw_tbl := tb_1 _ (List.mem_of_getElem? (i := 86) rfl)
theorem mT_140 : Cond.methodLink RX11 24 yX11_append ∈ lw_tbl := tb_1 _ (List.mem_of_getElem? (i := 83) rfl)
theorem mT_141 : Cond.instanceMethod yX11_append ∈ lw_tbl := tb_1 _ (List.mem_of_getElem? (i := 85) rfl)
theorem mT_142 : Cond.selects RX11 yX11_append yX11_append ∈ lw_tbl := List.mem_append_left _ (List.mem_of_getElem? (i := 0) rfl)
theorem mT_143 : Cond.code yX11_feed cX11_feed 6 (some .int) ∈ lw_tbl := tb_1 _ (List.mem_of_getElem? (i := 82) rfl)
theorem mT_144 : Cond.methodLink RL 13 yX11_feed ∈ lw_tbl := tb_1 _ (List.mem_of_getElem? (i := 79) rfl)
theorem mT_145 : Cond.instanceMethod yX11_feed ∈ lw_tbl := tb_1 _ (List.mem_of_getElem? (i := 80) rfl)
theorem mT_146 : Cond.selects RX11 yX11_feed yX11_feed ∈ lw_tbl := tb_1 _ (List.mem_of_getElem? (i := 81) rfl)
theorem mT_147 : Cond.fieldLink RX12 285 "PaletteHouseModel" "taped" "I" ∈ lw_tbl := tb_6 _ (List.mem_of_getElem? (i := 187) rfl)
theorem mT_148 : Cond.code yX12_put cX12_put 3 none ∈ lw_tbl := tb_8 _ (List.mem_of_getElem? (i := 28) rfl)
theorem mT_149 : Cond.methodLink RX12 288 yX12_put ∈ lw_tbl := tb_8 _ (List.mem_of_getElem? (i := 25) rfl)
theorem mT_150 : Cond.instanceMethod yX12_put ∈ lw_tbl := tb_8 _ (List.mem_of_getElem? (i := 27) rfl)
theorem mT_151 : Cond.selects RX12 yX12_put yX12_put ∈ lw_tbl := List.mem_append_left _ (List.mem_of_getElem? (i := 1) rfl)
theorem mT_152 : Cond.code yX12_feed cX12_feed 6 (some .int) ∈ lw_tbl := tb_8 _ (List.mem_of_getElem? (i := 24) rfl)
theorem mT_153 : Cond.methodLink RL 17 yX12_feed ∈ lw_tbl := tb_8 _ (List.mem_of_getElem? (i := 21) rfl)
theorem mT_154 : Cond.instanceMethod yX12_feed ∈ lw_tbl := tb_8 _ (List.mem_of_getElem? (i := 22) rfl)
theorem mT_155 : Cond.selects RX12 yX12_feed yX12_feed ∈ lw_tbl := tb_8 _ (List.mem_of_getElem? (i := 23) rfl)
theorem mT_156 : Cond.code yX11_back cX11_back 2 (some .int) ∈ lw_tbl := tb_1 _ (List.mem_of_getElem? (i := 90) rfl)
theorem mT_157 : Cond.methodLink RL 18 yX11_back ∈ lw_tbl := tb_1 _ (List.mem_of_getElem? (i := 87) rfl)
theorem mT_158 : Cond.instanceMethod yX11_back ∈ lw_tbl := tb_1 _ (List.mem_of_getElem? (i := 88) rfl)
theorem mT_159 : Cond.selects RX11 yX11_back yX11_back ∈ lw_tbl := tb_1 _ (List.mem_of_getElem? (i := 89) rfl)
theorem mT_160 : Cond.code yX12_back cX12_back 2 (some .int) ∈ lw_tbl := tb_8 _ (List.mem_of_getElem? (i := 32) rfl)
theorem mT_161 : Cond.methodLink RL 22 yX12_back ∈ lw_tbl := tb_8 _ (List.mem_of_getElem? (i := 29) rfl)
theorem mT_162 : Cond.instanceMethod yX12_back ∈ lw_tbl := tb_8 _ (List.mem_of_getElem? (i := 30) rfl)
theorem mT_163 : Cond.selects RX12 yX12_back yX12_back ∈ lw_tbl := tb_8 _ (List.mem_of_getElem? (i := 31) rfl)
theorem mT_164 : Cond.fieldLink RX11 28 "PaletteHouse" "text" "LPaletteHouse$Text;" ∈ lw_tbl := tb_1 _ (List.mem_of_getElem? (i := 36) rfl)
theorem mT_165 : Cond.classLink RX11 32 RX10 ∈ lw_tbl := tb_1 _ (List.mem_of_getElem? (i := 95) rfl)
theorem mT_166 : Cond.instantiable RX10 7 ∈ lw_tbl := tb_1 _ (List.mem_of_getElem? (i := 96) rfl)
theorem mT_167 : Cond.initialized RX10 ∈ lw_tbl := tb_1 _ (List.mem_of_getElem? (i := 3) rfl)
theorem mT_168 : Cond.methodLink RX10 3 objectInit ∈ lw_tbl := tb_1 _ (List.mem_of_getElem? (i := 100) rfl)
theorem mT_169 : Cond.classLink RX10 9 RX9 ∈ lw_tbl := tb_1 _ (List.mem_of_getElem? (i := 101) rfl)
theorem mT_170 : Cond.instantiable RX9 4 ∈ lw_tbl := tb_1 _ (List.mem_of_getElem? (i := 102) rfl)
theorem mT_171 : Cond.initialized RX9 ∈ lw_tbl := tb_1 _ (List.mem_of_getElem? (i := 4) rfl)
theorem mT_172 : Cond.methodLink RX9 3 objectInit ∈ lw_tbl := tb_1 _ (List.mem_of_getElem? (i := 106) rfl)
theorem mT_173 : Cond.initialized RJ9 ∈ lw_tbl := tb_1 _ (List.mem_of_getElem? (i := 5) rfl)
theorem mT_174 : Cond.code yJ9_max_7cf53 cJ9_max_7cf53 2 (some .int) ∈ lw_tbl := tb_1 _ (List.mem_of_getElem? (i := 109) rfl)
theorem mT_175 : Cond.methodLink RX9 9 yJ9_max_7cf53 ∈ lw_tbl := tb_1 _ (List.mem_of_getElem? (i := 107) rfl)
theorem mT_176 : Cond.static yJ9_max_7cf53 ∈ lw_tbl := tb_1 _ (List.mem_of_getElem? (i := 108) rfl)
theorem mT_177 : Cond.fieldLink RX9 15 "PaletteHouse$Table" "width" "I" ∈ lw_tbl := tb_1 _ (List.mem_of_getElem? (i := 110) rfl)
theorem mT_178 : Cond.fieldLink RX9 21 "PaletteHouse$Table" "most" "I" ∈ lw_tbl := tb_1 _ (List.mem_of_getElem? (i := 111) rfl)
theorem mT_179 : Cond.fieldLink RX9 24 "PaletteHouse$Table" "cells" "[I" ∈ lw_tbl := tb_1 _ (List.mem_of_getElem? (i := 112) rfl)
theorem mT_180 : Cond.code yX9_init cX9_init 3 none ∈ lw_tbl := tb_1 _ (List.mem_of_getElem? (i := 105) rfl)
theorem mT_181 : Cond.methodLink RX10 11 yX9_init ∈ lw_tbl := tb_1 _ (List.mem_of_getElem? (i := 103) rfl)
theorem mT_182 : Cond.instanceMethod yX9_init ∈ lw_tbl := tb_1 _ (List.mem_of_getElem? (i := 104) rfl)
theorem mT_183 : Cond.fieldLink RX10 14 "PaletteHouse$Text" "tokens" "LPaletteHouse$Table;" ∈ lw_tbl := tb_1 _ (List.mem_of_getElem? (i := 175) rfl)
theorem mT_184 : Cond.arrayClass .long ∈ lw_tbl := tb_1 _ (List.mem_of_getElem? (i := 197) rfl)
theorem mT_185 : Cond.fieldLink RX10 20 "PaletteHouse$Text" "names" "[J" ∈ lw_tbl := tb_1 _ (List.mem_of_getElem? (i := 176) rfl)
theorem mT_186 : Cond.fieldLink RX10 24 "PaletteHouse$Text" "words" "[J" ∈ lw_tbl := tb_1 _ (List.mem_of_getElem? (i := 177) rfl)
theorem mT_187 : Cond.fieldLink RX10 27 "PaletteHouse$Text" "worstPlace" "I" ∈ lw_tbl := tb_1 _ (List.mem_of_getElem? (i := 181) rfl)
theorem mT_188 : Cond.code yJ0_length_8abf5 cJ0_length_8abf5 1 (some .int) ∈ lw_tbl := tb_1 _ (List.mem_of_getElem? (i := 127) rfl)
theorem mT_189 : Cond.methodLink RX10 33 yJ0_length_8abf5 ∈ lw_tbl := tb_1 _ (List.mem_of_getElem? (i := 124) rfl)
theorem mT_190 : Cond.instanceMethod yJ0_length_8abf5 ∈ lw_tbl := tb_1 _ (List.mem_of_getElem? (i := 125) rfl)
theorem mT_191 : Cond.selects RJ0 yJ0_length_8abf5 yJ0_length_8abf5 ∈ lw_tbl := tb_1 _ (List.mem_of_getElem? (i := 126) rfl)
theorem mT_192 : Cond.code yJ0_charAt_5068e cJ0_charAt_5068e 2 (some .char) ∈ lw_tbl := tb_1 _ (List.mem_of_getElem? (i := 137) rfl)
theorem mT_193 : Cond.methodLink RX10 39 yJ0_charAt_5068e ∈ lw_tbl := tb_1 _ (List.mem_of_getElem? (i := 134) rfl)
theorem mT_194 : Cond.instanceMethod yJ0_charAt_5068e ∈ lw_tbl := tb_1 _ (List.mem_of_getElem? (i := 135) rfl)
theorem mT_195 : Cond.selects RJ0 yJ0_charAt_5068e yJ0_charAt_5068e ∈ lw_tbl := tb_1 _ (List.mem_of_getElem? (i := 136) rfl)
theorem mT_196 : Cond.constantLong RX10 43 (37) ∈ lw_tbl := tb_1 _ (List.mem_of_getElem? (i := 172) rfl)
theorem mT_197 : Cond.code yX10_init cX10_init 6 none ∈ lw_tbl := tb_1 _ (List.mem_of_getElem? (i := 99) rfl)
theorem mT_198 : Cond.methodLink RX11 34 yX10_init ∈ lw_tbl := tb_1 _ (List.mem_of_getElem? (i := 97) rfl)
theorem mT_199 : Cond.instanceMethod yX10_init ∈ lw_tbl := tb_1 _ (List.mem_of_getElem? (i := 98) rfl)
theorem mT_200 : Cond.fieldLink RX11 35 "PaletteHouse" "parser" "LPaletteHouse$Parser;" ∈ lw_tbl := tb_1 _ (List.mem_of_getElem? (i := 37) rfl)
theorem mT_201 : Cond.classLink RX11 39 RX6 ∈ lw_tbl := tb_1 _ (List.mem_of_getElem? (i := 198) rfl)
theorem mT_202 : Cond.instantiable RX6 6 ∈ lw_tbl := tb_1 _ (List.mem_of_getElem? (i := 199) rfl)
theorem mT_203 : Cond.initialized RX6 ∈ lw_tbl := tb_1 _ (List.mem_of_getElem? (i := 10) rfl)
theorem mT_204 : Cond.methodLink RX6 3 objectInit ∈ lw_tbl := tb_1 _ (List.mem_of_getElem? (i := 203) rfl)
theorem mT_205 : Cond.fieldLink RX6 9 "PaletteHouse$Parser" "text" "LPaletteHouse$Text;" ∈ lw_tbl := tb_1 _ (List.mem_of_getElem? (i := 204) rfl)
theorem mT_206 : Cond.fieldLink RX6 21 "PaletteHouse$Parser" "tokens" "LPaletteHouse$Table;" ∈ lw_tbl := tb_1 _ (List.mem_of_getElem? (i := 205) rfl)
theorem mT_207 : Cond.code yX6_init cX6_init 2 none ∈ lw_tbl := tb_1 _ (List.mem_of_getElem? (i := 202) rfl)
theorem mT_208 : Cond.methodLink RX11 41 yX6_init ∈ lw_tbl := tb_1 _ (List.mem_of_getElem? (i := 200) rfl)
theorem mT_209 : Cond.instanceMethod yX6_init ∈ lw_tbl := tb_1 _ (List.mem_of_getElem? (i := 201) rfl)
theorem mT_210 : Cond.fieldLink RX11 44 "PaletteHouse" "judge" "LPaletteHouse$Judge;" ∈ lw_tbl := tb_1 _ (List.mem_of_getElem? (i := 38) rfl)
theorem mT_211 : Cond.classLink RX11 48 RX2 ∈ lw_tbl := tb_1 _ (List.mem_of_getElem? (i := 223) rfl)
theorem mT_212 : Cond.instantiable RX2 3 ∈ lw_tbl := tb_1 _ (List.mem_of_getElem? (i := 224) rfl)
theorem mT_213 : Cond.initialized RX2 ∈ lw_tbl := tb_1 _ (List.mem_of_getElem? (i := 11) rfl)
theorem mT_214 : Cond.methodLink RX2 3 objectInit ∈ lw_tbl := tb_1 _ (List.mem_of_getElem? (i := 228) rfl)
theorem mT_215 : Cond.fieldLink RX2 9 "PaletteHouse$Judge" "text" "LPaletteHouse$Text;" ∈ lw_tbl := tb_1 _ (List.mem_of_getElem? (i := 229) rfl)
theorem mT_216 : Cond.fieldLink RX2 21 "PaletteHouse$Judge" "tokens" "LPaletteHouse$Table;" ∈ lw_tbl := tb_1 _ (List.mem_of_getElem? (i := 230) rfl)
theorem mT_217 : Cond.code yX2_init cX2_init 2 none ∈ lw_tbl := tb_1 _ (List.mem_of_getElem? (i := 227) rfl)
theorem mT_218 : Cond.methodLink RX11 50 yX2_init ∈ lw_tbl := tb_1 _ (List.mem_of_getElem? (i := 225) rfl)
theorem mT_219 : Cond.instanceMethod yX2_init ∈ lw_tbl := tb_1 _ (List.mem_of_getElem? (i := 226) rfl)
theorem mT_220 : Cond.fieldLink RX11 51 "PaletteHouse" "spare" "LPaletteHouse$Program;" ∈ lw_tbl := tb_1 _ (List.mem_of_getElem? (i := 40) rfl)
theorem mT_221 : Cond.classLink RX11 55 RX7 ∈ lw_tbl := tb_1 _ (List.mem_of_getElem? (i := 239) rfl)
theorem mT_222 : Cond.instantiable RX7 11 ∈ lw_tbl := tb_2 _ (List.mem_of_getElem? (i := 0) rfl)
theorem mT_223 : Cond.initialized RX7 ∈ lw_tbl := tb_1 _ (List.mem_of_getElem? (i := 12) rfl)
theorem mT_224 : Cond.methodLink RX7 3 objectInit ∈ lw_tbl := tb_2 _ (List.mem_of_getElem? (i := 4) rfl)
theorem mT_225 : Cond.classLink RX7 9 RX9 ∈ lw_tbl := tb_2 _ (List.mem_of_getElem? (i := 5) rfl)
theorem mT_226 : Cond.methodLink RX7 11 yX9_init ∈ lw_tbl := tb_2 _ (List.mem_of_getElem? (i := 6) rfl)
theorem mT_227 : Cond.fieldLink RX7 14 "PaletteHouse$Program" "blocks" "LPaletteHouse$Table;" ∈ lw_tbl := tb_2 _ (List.mem_of_getElem? (i := 81) rfl)
theorem mT_228 : Cond.fieldLink RX7 20 "PaletteHouse$Program" "ins" "LPaletteHouse$Table;" ∈ lw_tbl := tb_2 _ (List.mem_of_getElem? (i := 90) rfl)
theorem mT_229 : Cond.fieldLink RX7 23 "PaletteHouse$Program" "phis" "LPaletteHouse$Table;" ∈ lw_tbl := tb_2 _ (List.mem_of_getElem? (i := 99) rfl)
theorem mT_230 : Cond.fieldLink RX7 26 "PaletteHouse$Program" "arms" "LPaletteHouse$Table;" ∈ lw_tbl := tb_2 _ (List.mem_of_getElem? (i := 106) rfl)
theorem mT_231 : Cond.fieldLink RX7 29 "PaletteHouse$Program" "values" "LPaletteHouse$Table;" ∈ lw_tbl := tb_2 _ (List.mem_of_getElem? (i := 114) rfl)
theorem mT_232 : Cond.classLink RX7 32 RX1 ∈ lw_tbl := tb_2 _ (List.mem_of_getElem? (i := 7) rfl)
theorem mT_233 : Cond.instantiable RX1 8 ∈ lw_tbl := tb_2 _ (List.mem_of_getElem? (i := 8) rfl)
theorem mT_234 : Cond.initialized RX1 ∈ lw_tbl := tb_1 _ (List.mem_of_getElem? (i := 13) rfl)
theorem mT_235 : Cond.methodLink RX1 3 objectInit ∈ lw_tbl := tb_2 _ (List.mem_of_getElem? (i := 12) rfl)
theorem mT_236 : Cond.fieldLink RX1 9 "PaletteHouse$Graph" "preds" "[I" ∈ lw_tbl := tb_2 _ (List.mem_of_getElem? (i := 13) rfl)
theorem mT_237 : Cond.fieldLink RX1 15 "PaletteHouse$Graph" "doms" "[I" ∈ lw_tbl := tb_2 _ (List.mem_of_getElem? (i := 14) rfl)
theorem mT_238 : Cond.fieldLink RX1 18 "PaletteHouse$Graph" "idoms" "[I" ∈ lw_tbl := tb_2 _ (List.mem_of_getElem? (i := 15) rfl)
theorem mT_239 : Cond.fieldLink RX1 21 "PaletteHouse$Graph" "order" "[I" ∈ lw_tbl := tb_2 _ (List.mem_of_getElem? (i := 16) rfl)
theorem mT_240 : Cond.fieldLink RX1 24 "PaletteHouse$Graph" "ranks" "[I" ∈ lw_tbl := tb_2 _ (List.mem_of_getElem? (i := 17) rfl)
theorem mT_241 : Cond.fieldLink RX1 27 "PaletteHouse$Graph" "stack" "[I" ∈ lw_tbl := tb_2 _ (List.mem_of_getElem? (i := 18) rfl)
theorem mT_242 : Cond.code yX1_init cX1_init 1 none ∈ lw_tbl := tb_2 _ (List.mem_of_getElem? (i := 11) rfl)
theorem mT_243 : Cond.instanceMethod yX1_init ∈ lw_tbl := tb_2 _ (List.mem_of_getElem? (i := 10) rfl)
theorem mT_244 : Cond.fieldLink RX7 35 "PaletteHouse$Program" "graph" "LPaletteHouse$Graph;" ∈ lw_tbl := tb_2 _ (List.mem_of_getElem? (i := 123) rfl)
theorem mT_245 : Cond.classLink RX7 39 RX3 ∈ lw_tbl := tb_2 _ (List.mem_of_getElem? (i := 38) rfl)
theorem mT_246 : Cond.instantiable RX3 12 ∈ lw_tbl := tb_2 _ (List.mem_of_getElem? (i := 39) rfl)
theorem mT_247 : Cond.initialized RX3 ∈ lw_tbl := tb_1 _ (List.mem_of_getElem? (i := 14) rfl)
theorem mT_248 : Cond.methodLink RX3 3 objectInit ∈ lw_tbl := tb_2 _ (List.mem_of_getElem? (i := 43) rfl)
theorem mT_249 : Cond.fieldLink RX3 9 "PaletteHouse$Life" "begins" "[I" ∈ lw_tbl := tb_2 _ (List.mem_of_getElem? (i := 44) rfl)
theorem mT_250 : Cond.fieldLink RX3 15 "PaletteHouse$Life" "ends" "[I" ∈ lw_tbl := tb_2 _ (List.mem_of_getElem? (i := 45) rfl)
theorem mT_251 : Cond.fieldLink RX3 18 "PaletteHouse$Life" "sets" "[J" ∈ lw_tbl := tb_2 _ (List.mem_of_getElem? (i := 46) rfl)
theorem mT_252 : Cond.fieldLink RX3 22 "PaletteHouse$Life" "pressures" "[I" ∈ lw_tbl := tb_2 _ (List.mem_of_getElem? (i := 47) rfl)
theorem mT_253 : Cond.fieldLink RX3 25 "PaletteHouse$Life" "current" "[J" ∈ lw_tbl := tb_2 _ (List.mem_of_getElem? (i := 48) rfl)
theorem mT_254 : Cond.fieldLink RX3 28 "PaletteHouse$Life" "met" "[J" ∈ lw_tbl := tb_2 _ (List.mem_of_getElem? (i := 49) rfl)
theorem mT_255 : Cond.code yX3_init cX3_init 1 none ∈ lw_tbl := tb_2 _ (List.mem_of_getElem? (i := 42) rfl)
theorem mT_256 : Cond.instanceMethod yX3_init ∈ lw_tbl := tb_2 _ (List.mem_of_getElem? (i := 41) rfl)
theorem mT_257 : Cond.fieldLink RX7 42 "PaletteHouse$Program" "life" "LPaletteHouse$Life;" ∈ lw_tbl := tb_2 _ (List.mem_of_getElem? (i := 129) rfl)
theorem mT_258 : Cond.code yX7_init cX7_init 1 none ∈ lw_tbl := tb_2 _ (List.mem_of_getElem? (i := 3) rfl)
theorem mT_259 : Cond.instanceMethod yX7_init ∈ lw_tbl := tb_2 _ (List.mem_of_getElem? (i := 2) rfl)
theorem mT_260 : Cond.fieldLink RX10 52 "PaletteHouse$Text" "bytes" "[B" ∈ lw_tbl := tb_1 _ (List.mem_of_getElem? (i := 178) rfl)
theorem mT_261 : Cond.fieldLink RX10 56 "PaletteHouse$Text" "length" "I" ∈ lw_tbl := tb_1 _ (List.mem_of_getElem? (i := 179) rfl)
theorem mT_262 : Cond.fieldLink RX10 45 "PaletteHouse$Text" "worst" "I" ∈ lw_tbl := tb_1 _ (List.mem_of_getElem? (i := 180) rfl)
theorem mT_263 : Cond.fieldLink RX9 28 "PaletteHouse$Table" "size" "I" ∈ lw_tbl := tb_1 _ (List.mem_of_getElem? (i := 113) rfl)
theorem mT_264 : Cond.code yX9_cut cX9_cut 1 none ∈ lw_tbl := tb_2 _ (List.mem_of_getElem? (i := 177) rfl)
theorem mT_265 : Cond.methodLink RX10 58 yX9_cut ∈ lw_tbl := tb_2 _ (List.mem_of_getElem? (i := 174) rfl)
theorem mT_266 : Cond.instanceMethod yX9_cut ∈ lw_tbl := tb_2 _ (List.mem_of_getElem? (i := 175) rfl)
theorem mT_267 : Cond.selects RX9 yX9_cut yX9_cut ∈ lw_tbl := tb_2 _ (List.mem_of_getElem? (i := 176) rfl)
theorem mT_268 : Cond.code yX10_skipBlanks cX10_skipBlanks 3 (some .int) ∈ lw_tbl := tb_2 _ (List.mem_of_getElem? (i := 181) rfl)
theorem mT_269 : Cond.methodLink RX10 61 yX10_skipBlanks ∈ lw_tbl := tb_2 _ (List.mem_of_getElem? (i := 178) rfl)
theorem mT_270 : Cond.instanceMethod yX10_skipBlanks ∈ lw_tbl := tb_2 _ (List.mem_of_getElem? (i := 180) rfl)
theorem mT_271 : Cond.selects RX10 yX10_skipBlanks yX10_skipBlanks ∈ lw_tbl := List.mem_append_left _ (List.mem_of_getElem? (i := 2) rfl)
theorem mT_272 : Cond.code yX10_byteAt cX10_byteAt 2 (some .int) ∈ lw_tbl := tb_2 _ (List.mem_of_getElem? (i := 185) rfl)
theorem mT_273 : Cond.methodLink RX10 68 yX10_byteAt ∈ lw_tbl := tb_2 _ (List.mem_of_getElem? (i := 182) rfl)
theorem mT_274 : Cond.instanceMethod yX10_byteAt ∈ lw_tbl := tb_2 _ (List.mem_of_getElem? (i := 184) rfl)
theorem mT_275 : Cond.selects RX10 yX10_byteAt yX10_byteAt ∈ lw_tbl := List.mem_append_left _ (List.mem_of_getElem? (i := 3) rfl)
theorem mT_276 : Cond.code yX10_isLetter cX10_isLetter 1 (some .boolean) ∈ lw_tbl := tb_2 _ (List.mem_of_getElem? (i := 195) rfl)
theorem mT_277 : Cond.methodLink RX10 75 yX10_isLetter ∈ lw_tbl := tb_2 _ (List.mem_of_getElem? (i := 193) rfl)
theorem mT_278 : Cond.static yX10_isLetter ∈ lw_tbl := tb_2 _ (List.mem_of_getElem? (i := 194) rfl)
theorem mT_279 : Cond.code yX10_isDigit cX10_isDigit 1 (some .boolean) ∈ lw_tbl := tb_2 _ (List.mem_of_getElem? (i := 230) rfl)
theorem mT_280 : Cond.methodLink RX10 81 yX10_isDigit ∈ lw_tbl := tb_2 _ (List.mem_of_getElem? (i := 228) rfl)
theorem mT_281 : Cond.static yX10_isDigit ∈ lw_tbl := tb_2 _ (List.mem_of_getElem? (i := 229) rfl)
theorem mT_282 : Cond.initialized RJ7 ∈ lw_tbl := tb_1 _ (List.mem_of_getElem? (i := 15) rfl)
theorem mT_283 : Cond.code yJ7_rangeCheck_23922 cJ7_rangeCheck_23922 3 none ∈ lw_tbl := tb_2 _ (List.mem_of_getElem? (i := 223) rfl)
theorem mT_284 : Cond.methodLink RJ7 13 yJ7_rangeCheck_23922 ∈ lw_tbl := tb_2 _ (List.mem_of_getElem? (i := 221) rfl)
theorem mT_285 : Cond.static yJ7_rangeCheck_23922 ∈ lw_tbl := tb_2 _ (List.mem_of_getElem? (i := 222) rfl)
theorem mT_286 : Cond.code yJ7_fill_fda19 cJ7_fill_fda19 5 none ∈ lw_tbl := tb_2 _ (List.mem_of_getElem? (i := 220) rfl)
theorem mT_287 : Cond.methodLink RX9 31 yJ7_fill_fda19 ∈ lw_tbl := tb_2 _ (List.mem_of_getElem? (i := 218) rfl)
theorem mT_288 : Cond.static yJ7_fill_fda19 ∈ lw_tbl := tb_2 _ (List.mem_of_getElem? (i := 219) rfl)
theorem mT_289 : Cond.code yX9_add cX9_add 1 (some .int) ∈ lw_tbl := tb_2 _ (List.mem_of_getElem? (i := 217) rfl)
theorem mT_290 : Cond.methodLink RX10 94 yX9_add ∈ lw_tbl := tb_2 _ (List.mem_of_getElem? (i := 214) rfl)
theorem mT_291 : Cond.instanceMethod yX9_add ∈ lw_tbl := tb_2 _ (List.mem_of_getElem? (i := 215) rfl)
theorem mT_292 : Cond.selects RX9 yX9_add yX9_add ∈ lw_tbl := tb_2 _ (List.mem_of_getElem? (i := 216) rfl)
theorem mT_293 : Cond.code yX9_set cX9_set 4 none ∈ lw_tbl := tb_2 _ (List.mem_of_getElem? (i := 227) rfl)
theorem mT_294 : Cond.methodLink RX10 97 yX9_set ∈ lw_tbl := tb_2 _ (List.mem_of_getElem? (i := 224) rfl)
theorem mT_295 : Cond.instanceMethod yX9_set ∈ lw_tbl := tb_2 _ (List.mem_of_getElem? (i := 225) rfl)
theorem mT_296 : Cond.selects RX9 yX9_set yX9_set ∈ lw_tbl := tb_2 _ (List.mem_of_getElem? (i := 226) rfl)
theorem mT_297 : Cond.code yX10_keep cX10_keep 7 none ∈ lw_tbl := tb_2 _ (List.mem_of_getElem? (i := 213) rfl)
theorem mT_298 : Cond.methodLink RX10 90 yX10_keep ∈ lw_tbl := tb_2 _ (List.mem_of_getElem? (i := 210) rfl)
theorem mT_299 : Cond.instanceMethod yX10_keep ∈ lw_tbl := tb_2 _ (List.mem_of_getElem? (i := 212) rfl)
theorem mT_300 : Cond.selects RX10 yX10_keep yX10_keep ∈ lw_tbl := List.mem_append_left _ (List.mem_of_getElem? (i := 4) rfl)
theorem mT_301 : Cond.code yX10_scanToken cX10_scanToken 3 (some .int) ∈ lw_tbl := tb_2 _ (List.mem_of_getElem? (i := 192) rfl)
theorem mT_302 : Cond.methodLink RX10 65 yX10_scanToken ∈ lw_tbl := tb_2 _ (List.mem_of_getElem? (i := 189) rfl)
theorem mT_303 : Cond.instanceMethod yX10_scanToken ∈ lw_tbl := tb_2 _ (List.mem_of_getElem? (i := 191) rfl)
theorem mT_304 : Cond.selects RX10 yX10_scanToken yX10_scanToken ∈ lw_tbl := List.mem_append_left _ (List.mem_of_getElem? (i := 5) rfl)
theorem mT_305 : Cond.code yX9_at cX9_at 3 (some .int) ∈ lw_tbl := tb_3 _ (List.mem_of_getElem? (i := 2) rfl)
theorem mT_306 : Cond.methodLink RX10 48 yX9_at ∈ lw_tbl := tb_2 _ (List.mem_of_getElem? (i := 239) rfl)
theorem mT_307 : Cond.instanceMethod yX9_at ∈ lw_tbl := tb_3 _ (List.mem_of_getElem? (i := 0) rfl)
theorem mT_308 : Cond.selects RX9 yX9_at yX9_at ∈ lw_tbl := tb_3 _ (List.mem_of_getElem? (i := 1) rfl)
theorem mT_309 : Cond.code yX10_scan cX10_scan 7 none ∈ lw_tbl := tb_2 _ (List.mem_of_getElem? (i := 173) rfl)
theorem mT_310 : Cond.methodLink RX11 58 yX10_scan ∈ lw_tbl := tb_2 _ (List.mem_of_getElem? (i := 170) rfl)
theorem mT_311 : Cond.instanceMethod yX10_scan ∈ lw_tbl := tb_2 _ (List.mem_of_getElem? (i := 171) rfl)
theorem mT_312 : Cond.selects RX10 yX10_scan yX10_scan ∈ lw_tbl := tb_2 _ (List.mem_of_getElem? (i := 172) rfl)
theorem mT_313 : Cond.fieldLink RX6 22 "PaletteHouse$Parser" "program" "LPaletteHouse$Program;" ∈ lw_tbl := tb_1 _ (List.mem_of_getElem? (i := 206) rfl)
theorem mT_314 : Cond.methodLink RX7 46 yX9_cut ∈ lw_tbl := tb_3 _ (List.mem_of_getElem? (i := 11) rfl)
theorem mT_315 : Cond.fieldLink RX7 49 "PaletteHouse$Program" "parameters" "I" ∈ lw_tbl := tb_2 _ (List.mem_of_getElem? (i := 133) rfl)
theorem mT_316 : Cond.fieldLink RX7 53 "PaletteHouse$Program" "texted" "I" ∈ lw_tbl := tb_2 _ (List.mem_of_getElem? (i := 138) rfl)
theorem mT_317 : Cond.fieldLink RX7 56 "PaletteHouse$Program" "slots" "I" ∈ lw_tbl := tb_2 _ (List.mem_of_getElem? (i := 141) rfl)
theorem mT_318 : Cond.fieldLink RX7 59 "PaletteHouse$Program" "coloured" "Z" ∈ lw_tbl := tb_2 _ (List.mem_of_getElem? (i := 144) rfl)
theorem mT_319 : Cond.code yX7_reset cX7_reset 1 none ∈ lw_tbl := tb_3 _ (List.mem_of_getElem? (i := 10) rfl)
theorem mT_320 : Cond.methodLink RX6 26 yX7_reset ∈ lw_tbl := tb_3 _ (List.mem_of_getElem? (i := 7) rfl)
theorem mT_321 : Cond.instanceMethod yX7_reset ∈ lw_tbl := tb_3 _ (List.mem_of_getElem? (i := 8) rfl)
theorem mT_322 : Cond.selects RX7 yX7_reset yX7_reset ∈ lw_tbl := tb_3 _ (List.mem_of_getElem? (i := 9) rfl)
theorem mT_323 : Cond.fieldLink RX6 31 "PaletteHouse$Parser" "at" "I" ∈ lw_tbl := tb_1 _ (List.mem_of_getElem? (i := 207) rfl)
theorem mT_324 : Cond.fieldLink RX6 35 "PaletteHouse$Parser" "items" "I" ∈ lw_tbl := tb_1 _ (List.mem_of_getElem? (i := 208) rfl)
theorem mT_325 : Cond.fieldLink RX6 38 "PaletteHouse$Parser" "fault" "I" ∈ lw_tbl := tb_1 _ (List.mem_of_getElem? (i := 209) rfl)
theorem mT_326 : Cond.methodLink RX6 48 yX9_at ∈ lw_tbl := tb_3 _ (List.mem_of_getElem? (i := 24) rfl)
theorem mT_327 : Cond.code yX6_refuse cX6_refuse 2 (some .boolean) ∈ lw_tbl := tb_3 _ (List.mem_of_getElem? (i := 28) rfl)
theorem mT_328 : Cond.methodLink RX6 67 yX6_refuse ∈ lw_tbl := tb_3 _ (List.mem_of_getElem? (i := 25) rfl)
theorem mT_329 : Cond.instanceMethod yX6_refuse ∈ lw_tbl := tb_3 _ (List.mem_of_getElem? (i := 27) rfl)
theorem mT_330 : Cond.selects RX6 yX6_refuse yX6_refuse ∈ lw_tbl := List.mem_append_left _ (List.mem_of_getElem? (i := 6) rfl)
theorem mT_331 : Cond.code yX6_wants cX6_wants 2 (some .boolean) ∈ lw_tbl := tb_3 _ (List.mem_of_getElem? (i := 23) rfl)
theorem mT_332 : Cond.methodLink RX6 71 yX6_wants ∈ lw_tbl := tb_3 _ (List.mem_of_getElem? (i := 20) rfl)
theorem mT_333 : Cond.instanceMethod yX6_wants ∈ lw_tbl := tb_3 _ (List.mem_of_getElem? (i := 22) rfl)
theorem mT_334 : Cond.selects RX6 yX6_wants yX6_wants ∈ lw_tbl := List.mem_append_left _ (List.mem_of_getElem? (i := 7) rfl)
theorem mT_335 : Cond.code yX6_take cX6_take 3 (some .boolean) ∈ lw_tbl := tb_3 _ (List.mem_of_getElem? (i := 19) rfl)
theorem mT_336 : Cond.methodLink RX6 74 yX6_take ∈ lw_tbl := tb_3 _ (List.mem_of_getElem? (i := 16) rfl)
theorem mT_337 : Cond.instanceMethod yX6_take ∈ lw_tbl := tb_3 _ (List.mem_of_getElem? (i := 18) rfl)
theorem mT_338 : Cond.selects RX6 yX6_take yX6_take ∈ lw_tbl := List.mem_append_left _ (List.mem_of_getElem? (i := 8) rfl)
theorem mT_339 : Cond.code yX6_takeHead cX6_takeHead 3 (some .boolean) ∈ lw_tbl := tb_3 _ (List.mem_of_getElem? (i := 15) rfl)
theorem mT_340 : Cond.methodLink RX6 41 yX6_takeHead ∈ lw_tbl := tb_3 _ (List.mem_of_getElem? (i := 12) rfl)
theorem mT_341 : Cond.instanceMethod yX6_takeHead ∈ lw_tbl := tb_3 _ (List.mem_of_getElem? (i := 14) rfl)
theorem mT_342 : Cond.selects RX6 yX6_takeHead yX6_takeHead ∈ lw_tbl := List.mem_append_left _ (List.mem_of_getElem? (i := 9) rfl)
theorem mT_343 : Cond.code yX10_blame cX10_blame 4 none ∈ lw_tbl := tb_3 _ (List.mem_of_getElem? (i := 108) rfl)
theorem mT_344 : Cond.methodLink RX6 53 yX10_blame ∈ lw_tbl := tb_3 _ (List.mem_of_getElem? (i := 105) rfl)
theorem mT_345 : Cond.instanceMethod yX10_blame ∈ lw_tbl := tb_3 _ (List.mem_of_getElem? (i := 106) rfl)
theorem mT_346 : Cond.selects RX10 yX10_blame yX10_blame ∈ lw_tbl := tb_3 _ (List.mem_of_getElem? (i := 107) rfl)
theorem mT_347 : Cond.fieldLink RX6 57 "PaletteHouse$Program" "values" "LPaletteHouse$Table;" ∈ lw_tbl := tb_2 _ (List.mem_of_getElem? (i := 117) rfl)
theorem mT_348 : Cond.code yX9_size cX9_size 1 (some .int) ∈ lw_tbl := tb_3 _ (List.mem_of_getElem? (i := 50) rfl)
theorem mT_349 : Cond.methodLink RX6 60 yX9_size ∈ lw_tbl := tb_3 _ (List.mem_of_getElem? (i := 84) rfl)
theorem mT_350 : Cond.instanceMethod yX9_size ∈ lw_tbl := tb_3 _ (List.mem_of_getElem? (i := 48) rfl)
theorem mT_351 : Cond.selects RX9 yX9_size yX9_size ∈ lw_tbl := tb_3 _ (List.mem_of_getElem? (i := 49) rfl)
theorem mT_352 : Cond.fieldLink RX6 64 "PaletteHouse$Program" "texted" "I" ∈ lw_tbl := tb_2 _ (List.mem_of_getElem? (i := 139) rfl)
theorem mT_353 : Cond.code yX6_accepts cX6_accepts 5 (some .boolean) ∈ lw_tbl := tb_3 _ (List.mem_of_getElem? (i := 6) rfl)
theorem mT_354 : Cond.methodLink RX11 62 yX6_accepts ∈ lw_tbl := tb_3 _ (List.mem_of_getElem? (i := 3) rfl)
theorem mT_355 : Cond.instanceMethod yX6_accepts ∈ lw_tbl := tb_3 _ (List.mem_of_getElem? (i := 4) rfl)
theorem mT_356 : Cond.selects RX6 yX6_accepts yX6_accepts ∈ lw_tbl := tb_3 _ (List.mem_of_getElem? (i := 5) rfl)
theorem mT_357 : Cond.code yX10_worstPlace cX10_worstPlace 1 (some .int) ∈ lw_tbl := tb_3 _ (List.mem_of_getElem? (i := 227) rfl)
theorem mT_358 : Cond.methodLink RX11 70 yX10_worstPlace ∈ lw_tbl := tb_3 _ (List.mem_of_getElem? (i := 224) rfl)
theorem mT_359 : Cond.instanceMethod yX10_worstPlace ∈ lw_tbl := tb_3 _ (List.mem_of_getElem? (i := 225) rfl)
theorem mT_360 : Cond.selects RX10 yX10_worstPlace yX10_worstPlace ∈ lw_tbl := tb_3 _ (List.mem_of_getElem? (i := 226) rfl)
theorem mT_361 : Cond.code yX10_worst cX10_worst 1 (some .int) ∈ lw_tbl := tb_3 _ (List.mem_of_getElem? (i := 180) rfl)
theorem mT_362 : Cond.methodLink RX11 74 yX10_worst ∈ lw_tbl := tb_3 _ (List.mem_of_getElem? (i := 228) rfl)
theorem mT_363 : Cond.instanceMethod yX10_worst ∈ lw_tbl := tb_3 _ (List.mem_of_getElem? (i := 178) rfl)
theorem mT_364 : Cond.selects RX10 yX10_worst yX10_worst ∈ lw_tbl := tb_3 _ (List.mem_of_getElem? (i := 179) rfl)
theorem mT_365 : Cond.code yX11_read cX11_read 1 (some .int) ∈ lw_tbl := tb_1 _ (List.mem_of_getElem? (i := 94) rfl)
theorem mT_366 : Cond.methodLink RL 23 yX11_read ∈ lw_tbl := tb_1 _ (List.mem_of_getElem? (i := 91) rfl)
theorem mT_367 : Cond.instanceMethod yX11_read ∈ lw_tbl := tb_1 _ (List.mem_of_getElem? (i := 92) rfl)
theorem mT_368 : Cond.selects RX11 yX11_read yX11_read ∈ lw_tbl := tb_1 _ (List.mem_of_getElem? (i := 93) rfl)
theorem mT_369 : Cond.fieldLink RX12 292 "PaletteHouseModel" "size" "I" ∈ lw_tbl := tb_6 _ (List.mem_of_getElem? (i := 189) rfl)
theorem mT_370 : Cond.fieldLink RX12 295 "PaletteHouseModel" "tokens" "I" ∈ lw_tbl := tb_6 _ (List.mem_of_getElem? (i := 194) rfl)
theorem mT_371 : Cond.code yX12_at cX12_at 2 (some .int) ∈ lw_tbl := tb_8 _ (List.mem_of_getElem? (i := 44) rfl)
theorem mT_372 : Cond.methodLink RX12 298 yX12_at ∈ lw_tbl := tb_8 _ (List.mem_of_getElem? (i := 41) rfl)
theorem mT_373 : Cond.instanceMethod yX12_at ∈ lw_tbl := tb_8 _ (List.mem_of_getElem? (i := 43) rfl)
theorem mT_374 : Cond.selects RX12 yX12_at yX12_at ∈ lw_tbl := List.mem_append_left _ (List.mem_of_getElem? (i := 10) rfl)
theorem mT_375 : Cond.code yX12_token cX12_token 4 none ∈ lw_tbl := tb_8 _ (List.mem_of_getElem? (i := 48) rfl)
theorem mT_376 : Cond.methodLink RX12 302 yX12_token ∈ lw_tbl := tb_8 _ (List.mem_of_getElem? (i := 45) rfl)
theorem mT_377 : Cond.instanceMethod yX12_token ∈ lw_tbl := tb_8 _ (List.mem_of_getElem? (i := 47) rfl)
theorem mT_378 : Cond.selects RX12 yX12_token yX12_token ∈ lw_tbl := List.mem_append_left _ (List.mem_of_getElem? (i := 11) rfl)
theorem mT_379 : Cond.code yX12_cut cX12_cut 4 none ∈ lw_tbl := tb_8 _ (List.mem_of_getElem? (i := 40) rfl)
theorem mT_380 : Cond.methodLink RX12 347 yX12_cut ∈ lw_tbl := tb_8 _ (List.mem_of_getElem? (i := 37) rfl)
theorem mT_381 : Cond.instanceMethod yX12_cut ∈ lw_tbl := tb_8 _ (List.mem_of_getElem? (i := 39) rfl)
theorem mT_382 : Cond.selects RX12 yX12_cut yX12_cut ∈ lw_tbl := List.mem_append_left _ (List.mem_of_getElem? (i := 12) rfl)
theorem mT_383 : Cond.fieldLink RX12 335 "PaletteHouseModel" "t" "I" ∈ lw_tbl := tb_6 _ (List.mem_of_getElem? (i := 195) rfl)
theorem mT_384 : Cond.fieldLink RX12 332 "PaletteHouseModel" "fault" "I" ∈ lw_tbl := tb_6 _ (List.mem_of_getElem? (i := 196) rfl)
theorem mT_385 : Cond.fieldLink RX12 384 "PaletteHouseModel" "things" "I" ∈ lw_tbl := tb_7 _ (List.mem_of_getElem? (i := 0) rfl)
theorem mT_386 : Cond.code yX12_is cX12_is 2 (some .boolean) ∈ lw_tbl := tb_8 _ (List.mem_of_getElem? (i := 82) rfl)
theorem mT_387 : Cond.methodLink RX12 341 yX12_is ∈ lw_tbl := tb_8 _ (List.mem_of_getElem? (i := 79) rfl)
theorem mT_388 : Cond.instanceMethod yX12_is ∈ lw_tbl := tb_8 _ (List.mem_of_getElem? (i := 81) rfl)
theorem mT_389 : Cond.selects RX12 yX12_is yX12_is ∈ lw_tbl := List.mem_append_left _ (List.mem_of_getElem? (i := 13) rfl)
theorem mT_390 : Cond.code yX12_fail cX12_fail 2 none ∈ lw_tbl := tb_8 _ (List.mem_of_getElem? (i := 90) rfl)
theorem mT_391 : Cond.methodLink RX12 338 yX12_fail ∈ lw_tbl := tb_8 _ (List.mem_of_getElem? (i := 87) rfl)
theorem mT_392 : Cond.instanceMethod yX12_fail ∈ lw_tbl := tb_8 _ (List.mem_of_getElem? (i := 89) rfl)
theorem mT_393 : Cond.selects RX12 yX12_fail yX12_fail ∈ lw_tbl := List.mem_append_left _ (List.mem_of_getElem? (i := 14) rfl)
theorem mT_394 : Cond.code yX12_must cX12_must 2 none ∈ lw_tbl := tb_8 _ (List.mem_of_getElem? (i := 78) rfl)
theorem mT_395 : Cond.methodLink RX12 387 yX12_must ∈ lw_tbl := tb_8 _ (List.mem_of_getElem? (i := 75) rfl)
theorem mT_396 : Cond.instanceMethod yX12_must ∈ lw_tbl := tb_8 _ (List.mem_of_getElem? (i := 77) rfl)
theorem mT_397 : Cond.selects RX12 yX12_must yX12_must ∈ lw_tbl := List.mem_append_left _ (List.mem_of_getElem? (i := 15) rfl)
theorem mT_398 : Cond.code yX12_parse cX12_parse 3 none ∈ lw_tbl := tb_8 _ (List.mem_of_getElem? (i := 74) rfl)
theorem mT_399 : Cond.methodLink RX12 350 yX12_parse ∈ lw_tbl := tb_8 _ (List.mem_of_getElem? (i := 71) rfl)
theorem mT_400 : Cond.instanceMethod yX12_parse ∈ lw_tbl := tb_8 _ (List.mem_of_getElem? (i := 73) rfl)
theorem mT_401 : Cond.selects RX12 yX12_parse yX12_parse ∈ lw_tbl := List.mem_append_left _ (List.mem_of_getElem? (i := 16) rfl)
theorem mT_402 : Cond.fieldLink RX12 359 "PaletteHouseModel" "hasFunction" "Z" ∈ lw_tbl := tb_6 _ (List.mem_of_getElem? (i := 230) rfl)
theorem mT_403 : Cond.code yX12_read cX12_read 2 (some .int) ∈ lw_tbl := tb_8 _ (List.mem_of_getElem? (i := 36) rfl)
theorem mT_404 : Cond.methodLink RL 27 yX12_read ∈ lw_tbl := tb_8 _ (List.mem_of_getElem? (i := 33) rfl)
theorem mT_405 : Cond.instanceMethod yX12_read ∈ lw_tbl := tb_8 _ (List.mem_of_getElem? (i := 34) rfl)
theorem mT_406 : Cond.selects RX12 yX12_read yX12_read ∈ lw_tbl := tb_8 _ (List.mem_of_getElem? (i := 35) rfl)
theorem mT_407 : Cond.code yX11_place cX11_place 1 (some .int) ∈ lw_tbl := tb_4 _ (List.mem_of_getElem? (i := 68) rfl)
theorem mT_408 : Cond.methodLink RL 28 yX11_place ∈ lw_tbl := tb_4 _ (List.mem_of_getElem? (i := 65) rfl)
theorem mT_409 : Cond.instanceMethod yX11_place ∈ lw_tbl := tb_4 _ (List.mem_of_getElem? (i := 66) rfl)
theorem mT_410 : Cond.selects RX11 yX11_place yX11_place ∈ lw_tbl := tb_4 _ (List.mem_of_getElem? (i := 67) rfl)
theorem mT_411 : Cond.code yX12_place cX12_place 1 (some .int) ∈ lw_tbl := tb_8 _ (List.mem_of_getElem? (i := 194) rfl)
theorem mT_412 : Cond.methodLink RL 31 yX12_place ∈ lw_tbl := tb_8 _ (List.mem_of_getElem? (i := 191) rfl)
theorem mT_413 : Cond.instanceMethod yX12_place ∈ lw_tbl := tb_8 _ (List.mem_of_getElem? (i := 192) rfl)
theorem mT_414 : Cond.selects RX12 yX12_place yX12_place ∈ lw_tbl := tb_8 _ (List.mem_of_getElem? (i := 193) rfl)
theorem mT_415 : Cond.fieldLink RX11 92 "PaletteHouse" "now" "LPaletteHouse$Program;" ∈ lw_tbl := tb_1 _ (List.mem_of_getElem? (i := 39) rfl)
theorem mT_416 : Cond.code yX11_block cX11_block 3 (some .int) ∈ lw_tbl := tb_4 _ (List.mem_of_getElem? (i := 72) rfl)
theorem mT_417 : Cond.methodLink RL 32 yX11_block ∈ lw_tbl := tb_4 _ (List.mem_of_getElem? (i := 69) rfl)
theorem mT_418 : Cond.instanceMethod yX11_block ∈ lw_tbl := tb_4 _ (List.mem_of_getElem? (i := 70) rfl)
theorem mT_419 : Cond.selects RX11 yX11_block yX11_block ∈ lw_tbl := tb_4 _ (List.mem_of_getElem? (i := 71) rfl)
theorem mT_420 : Cond.code yX12_block_ cX12_block_ 5 (some .int) ∈ lw_tbl := tb_8 _ (List.mem_of_getElem? (i := 198) rfl)
theorem mT_421 : Cond.methodLink RL 36 yX12_block_ ∈ lw_tbl := tb_8 _ (List.mem_of_getElem? (i := 195) rfl)
theorem mT_422 : Cond.instanceMethod yX12_block_ ∈ lw_tbl := tb_8 _ (List.mem_of_getElem? (i := 196) rfl)
theorem mT_423 : Cond.selects RX12 yX12_block_ yX12_block_ ∈ lw_tbl := tb_8 _ (List.mem_of_getElem? (i := 197) rfl)
theorem mT_424 : Cond.code yX11_value cX11_value 3 (some .int) ∈ lw_tbl := tb_4 _ (List.mem_of_getElem? (i := 91) rfl)
theorem mT_425 : Cond.methodLink RL 37 yX11_value ∈ lw_tbl := tb_4 _ (List.mem_of_getElem? (i := 88) rfl)
theorem mT_426 : Cond.instanceMethod yX11_value ∈ lw_tbl := tb_4 _ (List.mem_of_getElem? (i := 89) rfl)
theorem mT_427 : Cond.selects RX11 yX11_value yX11_value ∈ lw_tbl := tb_4 _ (List.mem_of_getElem? (i := 90) rfl)
theorem mT_428 : Cond.code yX12_value cX12_value 5 (some .int) ∈ lw_tbl := tb_8 _ (List.mem_of_getElem? (i := 202) rfl)
theorem mT_429 : Cond.methodLink RL 40 yX12_value ∈ lw_tbl := tb_8 _ (List.mem_of_getElem? (i := 199) rfl)
theorem mT_430 : Cond.instanceMethod yX12_value ∈ lw_tbl := tb_8 _ (List.mem_of_getElem? (i := 200) rfl)
theorem mT_431 : Cond.selects RX12 yX12_value yX12_value ∈ lw_tbl := tb_8 _ (List.mem_of_getElem? (i := 201) rfl)
theorem mT_432 : Cond.code yX11_ins cX11_ins 4 (some .int) ∈ lw_tbl := tb_4 _ (List.mem_of_getElem? (i := 103) rfl)
theorem mT_433 : Cond.methodLink RL 41 yX11_ins ∈ lw_tbl := tb_4 _ (List.mem_of_getElem? (i := 100) rfl)
theorem mT_434 : Cond.instanceMethod yX11_ins ∈ lw_tbl := tb_4 _ (List.mem_of_getElem? (i := 101) rfl)
theorem mT_435 : Cond.selects RX11 yX11_ins yX11_ins ∈ lw_tbl := tb_4 _ (List.mem_of_getElem? (i := 102) rfl)
theorem mT_436 : Cond.code yX12_insAt cX12_insAt 5 (some .int) ∈ lw_tbl := tb_8 _ (List.mem_of_getElem? (i := 210) rfl)
theorem mT_437 : Cond.methodLink RX12 464 yX12_insAt ∈ lw_tbl := tb_8 _ (List.mem_of_getElem? (i := 207) rfl)
theorem mT_438 : Cond.instanceMethod yX12_insAt ∈ lw_tbl := tb_8 _ (List.mem_of_getElem? (i := 209) rfl)
theorem mT_439 : Cond.selects RX12 yX12_insAt yX12_insAt ∈ lw_tbl := List.mem_append_left _ (List.mem_of_getElem? (i := 17) rfl)
theorem mT_440 : Cond.code yX12_ins cX12_ins 5 (some .int) ∈ lw_tbl := tb_8 _ (List.mem_of_getElem? (i := 206) rfl)
theorem mT_441 : Cond.methodLink RL 45 yX12_ins ∈ lw_tbl := tb_8 _ (List.mem_of_getElem? (i := 203) rfl)
theorem mT_442 : Cond.instanceMethod yX12_ins ∈ lw_tbl := tb_8 _ (List.mem_of_getElem? (i := 204) rfl)
theorem mT_443 : Cond.selects RX12 yX12_ins yX12_ins ∈ lw_tbl := tb_8 _ (List.mem_of_getElem? (i := 205) rfl)
theorem mT_444 : Cond.code yX11_live cX11_live 4 (some .boolean) ∈ lw_tbl := tb_4 _ (List.mem_of_getElem? (i := 107) rfl)
theorem mT_445 : Cond.methodLink RL 46 yX11_live ∈ lw_tbl := tb_4 _ (List.mem_of_getElem? (i := 104) rfl)
theorem mT_446 : Cond.instanceMethod yX11_live ∈ lw_tbl := tb_4 _ (List.mem_of_getElem? (i := 105) rfl)
theorem mT_447 : Cond.selects RX11 yX11_live yX11_live ∈ lw_tbl := tb_4 _ (List.mem_of_getElem? (i := 106) rfl)
theorem mT_448 : Cond.code yX12_pointAt cX12_pointAt 3 (some .int) ∈ lw_tbl := tb_8 _ (List.mem_of_getElem? (i := 218) rfl)
theorem mT_449 : Cond.methodLink RX12 467 yX12_pointAt ∈ lw_tbl := tb_8 _ (List.mem_of_getElem? (i := 215) rfl)
theorem mT_450 : Cond.instanceMethod yX12_pointAt ∈ lw_tbl := tb_8 _ (List.mem_of_getElem? (i := 217) rfl)
theorem mT_451 : Cond.selects RX12 yX12_pointAt yX12_pointAt ∈ lw_tbl := List.mem_append_left _ (List.mem_of_getElem? (i := 18) rfl)
theorem mT_452 : Cond.code yX12_live cX12_live 5 (some .boolean) ∈ lw_tbl := tb_8 _ (List.mem_of_getElem? (i := 214) rfl)
theorem mT_453 : Cond.methodLink RL 50 yX12_live ∈ lw_tbl := tb_8 _ (List.mem_of_getElem? (i := 211) rfl)
theorem mT_454 : Cond.instanceMethod yX12_live ∈ lw_tbl := tb_8 _ (List.mem_of_getElem? (i := 212) rfl)
theorem mT_455 : Cond.selects RX12 yX12_live yX12_live ∈ lw_tbl := tb_8 _ (List.mem_of_getElem? (i := 213) rfl)
theorem mT_456 : Cond.code yX11_pressure cX11_pressure 3 (some .int) ∈ lw_tbl := tb_4 _ (List.mem_of_getElem? (i := 117) rfl)
theorem mT_457 : Cond.methodLink RL 51 yX11_pressure ∈ lw_tbl := tb_4 _ (List.mem_of_getElem? (i := 114) rfl)
theorem mT_458 : Cond.instanceMethod yX11_pressure ∈ lw_tbl := tb_4 _ (List.mem_of_getElem? (i := 115) rfl)
theorem mT_459 : Cond.selects RX11 yX11_pressure yX11_pressure ∈ lw_tbl := tb_4 _ (List.mem_of_getElem? (i := 116) rfl)
theorem mT_460 : Cond.code yX12_pressure cX12_pressure 4 (some .int) ∈ lw_tbl := tb_8 _ (List.mem_of_getElem? (i := 226) rfl)
theorem mT_461 : Cond.methodLink RL 54 yX12_pressure ∈ lw_tbl := tb_8 _ (List.mem_of_getElem? (i := 223) rfl)
theorem mT_462 : Cond.instanceMethod yX12_pressure ∈ lw_tbl := tb_8 _ (List.mem_of_getElem? (i := 224) rfl)
theorem mT_463 : Cond.selects RX12 yX12_pressure yX12_pressure ∈ lw_tbl := tb_8 _ (List.mem_of_getElem? (i := 225) rfl)
theorem mT_464 : Cond.code yX11_clique cX11_clique 2 (some .int) ∈ lw_tbl := tb_4 _ (List.mem_of_getElem? (i := 125) rfl)
theorem mT_465 : Cond.methodLink RL 55 yX11_clique ∈ lw_tbl := tb_4 _ (List.mem_of_getElem? (i := 122) rfl)
theorem mT_466 : Cond.instanceMethod yX11_clique ∈ lw_tbl := tb_4 _ (List.mem_of_getElem? (i := 123) rfl)
theorem mT_467 : Cond.selects RX11 yX11_clique yX11_clique ∈ lw_tbl := tb_4 _ (List.mem_of_getElem? (i := 124) rfl)
theorem mT_468 : Cond.code yX12_clique cX12_clique 4 (some .int) ∈ lw_tbl := tb_8 _ (List.mem_of_getElem? (i := 230) rfl)
theorem mT_469 : Cond.methodLink RL 58 yX12_clique ∈ lw_tbl := tb_8 _ (List.mem_of_getElem? (i := 227) rfl)
theorem mT_470 : Cond.instanceMethod yX12_clique ∈ lw_tbl := tb_8 _ (List.mem_of_getElem? (i := 228) rfl)
theorem mT_471 : Cond.selects RX12 yX12_clique yX12_clique ∈ lw_tbl := tb_8 _ (List.mem_of_getElem? (i := 229) rfl)
theorem mT_472 : Cond.code yX11_meet cX11_meet 3 (some .boolean) ∈ lw_tbl := tb_4 _ (List.mem_of_getElem? (i := 133) rfl)
theorem mT_473 : Cond.methodLink RL 59 yX11_meet ∈ lw_tbl := tb_4 _ (List.mem_of_getElem? (i := 130) rfl)
theorem mT_474 : Cond.instanceMethod yX11_meet ∈ lw_tbl := tb_4 _ (List.mem_of_getElem? (i := 131) rfl)
theorem mT_475 : Cond.selects RX11 yX11_meet yX11_meet ∈ lw_tbl := tb_4 _ (List.mem_of_getElem? (i := 132) rfl)
theorem mT_476 : Cond.code yX12_isValue cX12_isValue 2 (some .boolean) ∈ lw_tbl := tb_8 _ (List.mem_of_getElem? (i := 222) rfl)
theorem mT_477 : Cond.methodLink RX12 470 yX12_isValue ∈ lw_tbl := tb_8 _ (List.mem_of_getElem? (i := 219) rfl)
theorem mT_478 : Cond.instanceMethod yX12_isValue ∈ lw_tbl := tb_8 _ (List.mem_of_getElem? (i := 221) rfl)
theorem mT_479 : Cond.selects RX12 yX12_isValue yX12_isValue ∈ lw_tbl := List.mem_append_left _ (List.mem_of_getElem? (i := 19) rfl)
theorem mT_480 : Cond.code yX12_meet cX12_meet 4 (some .boolean) ∈ lw_tbl := tb_8 _ (List.mem_of_getElem? (i := 234) rfl)
theorem mT_481 : Cond.methodLink RL 63 yX12_meet ∈ lw_tbl := tb_8 _ (List.mem_of_getElem? (i := 231) rfl)
theorem mT_482 : Cond.instanceMethod yX12_meet ∈ lw_tbl := tb_8 _ (List.mem_of_getElem? (i := 232) rfl)
theorem mT_483 : Cond.selects RX12 yX12_meet yX12_meet ∈ lw_tbl := tb_8 _ (List.mem_of_getElem? (i := 233) rfl)
theorem mT_484 : Cond.code yX11_fit cX11_fit 3 (some .int) ∈ lw_tbl := tb_4 _ (List.mem_of_getElem? (i := 141) rfl)
theorem mT_485 : Cond.methodLink RL 64 yX11_fit ∈ lw_tbl := tb_4 _ (List.mem_of_getElem? (i := 138) rfl)
theorem mT_486 : Cond.instanceMethod yX11_fit ∈ lw_tbl := tb_4 _ (List.mem_of_getElem? (i := 139) rfl)
theorem mT_487 : Cond.selects RX11 yX11_fit yX11_fit ∈ lw_tbl := tb_4 _ (List.mem_of_getElem? (i := 140) rfl)
theorem mT_488 : Cond.code yX12_fit cX12_fit 6 (some .int) ∈ lw_tbl := tb_8 _ (List.mem_of_getElem? (i := 238) rfl)
theorem mT_489 : Cond.methodLink RL 67 yX12_fit ∈ lw_tbl := tb_8 _ (List.mem_of_getElem? (i := 235) rfl)
theorem mT_490 : Cond.instanceMethod yX12_fit ∈ lw_tbl := tb_8 _ (List.mem_of_getElem? (i := 236) rfl)
theorem mT_491 : Cond.selects RX12 yX12_fit yX12_fit ∈ lw_tbl := tb_8 _ (List.mem_of_getElem? (i := 237) rfl)
theorem mT_492 : Cond.code yX11_colour cX11_colour 2 (some .int) ∈ lw_tbl := tb_5 _ (List.mem_of_getElem? (i := 1) rfl)
theorem mT_493 : Cond.methodLink RL 68 yX11_colour ∈ lw_tbl := tb_4 _ (List.mem_of_getElem? (i := 238) rfl)
theorem mT_494 : Cond.instanceMethod yX11_colour ∈ lw_tbl := tb_4 _ (List.mem_of_getElem? (i := 239) rfl)
theorem mT_495 : Cond.selects RX11 yX11_colour yX11_colour ∈ lw_tbl := tb_5 _ (List.mem_of_getElem? (i := 0) rfl)
theorem mT_496 : Cond.code yX12_colour cX12_colour 6 (some .int) ∈ lw_tbl := tb_9 _ (List.mem_of_getElem? (i := 26) rfl)
theorem mT_497 : Cond.methodLink RL 71 yX12_colour ∈ lw_tbl := tb_9 _ (List.mem_of_getElem? (i := 23) rfl)
theorem mT_498 : Cond.instanceMethod yX12_colour ∈ lw_tbl := tb_9 _ (List.mem_of_getElem? (i := 24) rfl)
theorem mT_499 : Cond.selects RX12 yX12_colour yX12_colour ∈ lw_tbl := tb_9 _ (List.mem_of_getElem? (i := 25) rfl)
theorem mT_500 : Cond.code yX11_lower cX11_lower 1 (some .int) ∈ lw_tbl := tb_5 _ (List.mem_of_getElem? (i := 76) rfl)
theorem mT_501 : Cond.methodLink RL 72 yX11_lower ∈ lw_tbl := tb_5 _ (List.mem_of_getElem? (i := 73) rfl)
theorem mT_502 : Cond.instanceMethod yX11_lower ∈ lw_tbl := tb_5 _ (List.mem_of_getElem? (i := 74) rfl)
theorem mT_503 : Cond.selects RX11 yX11_lower yX11_lower ∈ lw_tbl := tb_5 _ (List.mem_of_getElem? (i := 75) rfl)
theorem mT_504 : Cond.fieldLink RX12 375 "PaletteHouseModel" "hasColours" "Z" ∈ lw_tbl := tb_7 _ (List.mem_of_getElem? (i := 19) rfl)
theorem mT_505 : Cond.code yX12_lower cX12_lower 4 (some .int) ∈ lw_tbl := tb_9 _ (List.mem_of_getElem? (i := 42) rfl)
theorem mT_506 : Cond.methodLink RL 75 yX12_lower ∈ lw_tbl := tb_9 _ (List.mem_of_getElem? (i := 39) rfl)
theorem mT_507 : Cond.instanceMethod yX12_lower ∈ lw_tbl := tb_9 _ (List.mem_of_getElem? (i := 40) rfl)
theorem mT_508 : Cond.selects RX12 yX12_lower yX12_lower ∈ lw_tbl := tb_9 _ (List.mem_of_getElem? (i := 41) rfl)
theorem mT_509 : Cond.fieldLink RX11 98 "PaletteHouse" "rows" "LPaletteHouse$Code;" ∈ lw_tbl := tb_1 _ (List.mem_of_getElem? (i := 43) rfl)
theorem mT_510 : Cond.code yX11_code cX11_code 3 (some .int) ∈ lw_tbl := tb_5 _ (List.mem_of_getElem? (i := 201) rfl)
theorem mT_511 : Cond.methodLink RL 76 yX11_code ∈ lw_tbl := tb_5 _ (List.mem_of_getElem? (i := 198) rfl)
theorem mT_512 : Cond.instanceMethod yX11_code ∈ lw_tbl := tb_5 _ (List.mem_of_getElem? (i := 199) rfl)
theorem mT_513 : Cond.selects RX11 yX11_code yX11_code ∈ lw_tbl := tb_5 _ (List.mem_of_getElem? (i := 200) rfl)
theorem mT_514 : Cond.fieldLink RX12 378 "PaletteHouseModel" "hasCode" "Z" ∈ lw_tbl := tb_7 _ (List.mem_of_getElem? (i := 23) rfl)
theorem mT_515 : Cond.code yX12_code cX12_code 3 (some .int) ∈ lw_tbl := tb_9 _ (List.mem_of_getElem? (i := 70) rfl)
theorem mT_516 : Cond.methodLink RL 79 yX12_code ∈ lw_tbl := tb_9 _ (List.mem_of_getElem? (i := 67) rfl)
theorem mT_517 : Cond.instanceMethod yX12_code ∈ lw_tbl := tb_9 _ (List.mem_of_getElem? (i := 68) rfl)
theorem mT_518 : Cond.selects RX12 yX12_code yX12_code ∈ lw_tbl := tb_9 _ (List.mem_of_getElem? (i := 69) rfl)
theorem mT_519 : Cond.fieldLink RX11 216 "PaletteHouse" "fedCount" "I" ∈ lw_tbl := tb_1 _ (List.mem_of_getElem? (i := 34) rfl)
theorem mT_520 : Cond.code yX11_input cX11_input 2 (some .int) ∈ lw_tbl := tb_5 _ (List.mem_of_getElem? (i := 209) rfl)
theorem mT_521 : Cond.methodLink RL 80 yX11_input ∈ lw_tbl := tb_5 _ (List.mem_of_getElem? (i := 206) rfl)
theorem mT_522 : Cond.instanceMethod yX11_input ∈ lw_tbl := tb_5 _ (List.mem_of_getElem? (i := 207) rfl)
theorem mT_523 : Cond.selects RX11 yX11_input yX11_input ∈ lw_tbl := tb_5 _ (List.mem_of_getElem? (i := 208) rfl)
theorem mT_524 : Cond.fieldLink RX12 519 "PaletteHouseModel" "givenMany" "I" ∈ lw_tbl := tb_7 _ (List.mem_of_getElem? (i := 37) rfl)
theorem mT_525 : Cond.code yX12_input cX12_input 2 (some .int) ∈ lw_tbl := tb_9 _ (List.mem_of_getElem? (i := 74) rfl)
theorem mT_526 : Cond.methodLink RL 83 yX12_input ∈ lw_tbl := tb_9 _ (List.mem_of_getElem? (i := 71) rfl)
theorem mT_527 : Cond.instanceMethod yX12_input ∈ lw_tbl := tb_9 _ (List.mem_of_getElem? (i := 72) rfl)
theorem mT_528 : Cond.selects RX12 yX12_input yX12_input ∈ lw_tbl := tb_9 _ (List.mem_of_getElem? (i := 73) rfl)
theorem mT_529 : Cond.code yX11_clear cX11_clear 2 (some .int) ∈ lw_tbl := tb_5 _ (List.mem_of_getElem? (i := 213) rfl)
theorem mT_530 : Cond.methodLink RL 84 yX11_clear ∈ lw_tbl := tb_5 _ (List.mem_of_getElem? (i := 210) rfl)
theorem mT_531 : Cond.instanceMethod yX11_clear ∈ lw_tbl := tb_5 _ (List.mem_of_getElem? (i := 211) rfl)
theorem mT_532 : Cond.selects RX11 yX11_clear yX11_clear ∈ lw_tbl := tb_5 _ (List.mem_of_getElem? (i := 212) rfl)
theorem mT_533 : Cond.code yX12_clear cX12_clear 2 (some .int) ∈ lw_tbl := tb_9 _ (List.mem_of_getElem? (i := 78) rfl)
theorem mT_534 : Cond.methodLink RL 87 yX12_clear ∈ lw_tbl := tb_9 _ (List.mem_of_getElem? (i := 75) rfl)
theorem mT_535 : Cond.instanceMethod yX12_clear ∈ lw_tbl := tb_9 _ (List.mem_of_getElem? (i := 76) rfl)
theorem mT_536 : Cond.selects RX12 yX12_clear yX12_clear ∈ lw_tbl := tb_9 _ (List.mem_of_getElem? (i := 77) rfl)
theorem mT_537 : Cond.code yX11_run cX11_run 3 (some .int) ∈ lw_tbl := tb_5 _ (List.mem_of_getElem? (i := 217) rfl)
theorem mT_538 : Cond.methodLink RL 88 yX11_run ∈ lw_tbl := tb_5 _ (List.mem_of_getElem? (i := 214) rfl)
theorem mT_539 : Cond.instanceMethod yX11_run ∈ lw_tbl := tb_5 _ (List.mem_of_getElem? (i := 215) rfl)
theorem mT_540 : Cond.selects RX11 yX11_run yX11_run ∈ lw_tbl := tb_5 _ (List.mem_of_getElem? (i := 216) rfl)
theorem mT_541 : Cond.code yX12_run cX12_run 5 (some .int) ∈ lw_tbl := tb_9 _ (List.mem_of_getElem? (i := 82) rfl)
theorem mT_542 : Cond.methodLink RL 92 yX12_run ∈ lw_tbl := tb_9 _ (List.mem_of_getElem? (i := 79) rfl)
theorem mT_543 : Cond.instanceMethod yX12_run ∈ lw_tbl := tb_9 _ (List.mem_of_getElem? (i := 80) rfl)
theorem mT_544 : Cond.selects RX12 yX12_run yX12_run ∈ lw_tbl := tb_9 _ (List.mem_of_getElem? (i := 81) rfl)
theorem mT_545 : Cond.fieldLink RX11 107 "PaletteHouse" "plain" "LPaletteHouse$Machine;" ∈ lw_tbl := tb_1 _ (List.mem_of_getElem? (i := 44) rfl)
theorem mT_546 : Cond.code yX11_told cX11_told 4 (some .int) ∈ lw_tbl := tb_6 _ (List.mem_of_getElem? (i := 125) rfl)
theorem mT_547 : Cond.methodLink RL 93 yX11_told ∈ lw_tbl := tb_6 _ (List.mem_of_getElem? (i := 122) rfl)
theorem mT_548 : Cond.instanceMethod yX11_told ∈ lw_tbl := tb_6 _ (List.mem_of_getElem? (i := 123) rfl)
theorem mT_549 : Cond.selects RX11 yX11_told yX11_told ∈ lw_tbl := tb_6 _ (List.mem_of_getElem? (i := 124) rfl)
theorem mT_550 : Cond.code yX12_told cX12_told 4 (some .int) ∈ lw_tbl := tb_9 _ (List.mem_of_getElem? (i := 106) rfl)
theorem mT_551 : Cond.methodLink RL 96 yX12_told ∈ lw_tbl := tb_9 _ (List.mem_of_getElem? (i := 103) rfl)
theorem mT_552 : Cond.instanceMethod yX12_told ∈ lw_tbl := tb_9 _ (List.mem_of_getElem? (i := 104) rfl)
theorem mT_553 : Cond.selects RX12 yX12_told yX12_told ∈ lw_tbl := tb_9 _ (List.mem_of_getElem? (i := 105) rfl)
theorem mT_554 : Cond.fieldLink RX11 116 "PaletteHouse" "coded" "LPaletteHouse$Machine;" ∈ lw_tbl := tb_1 _ (List.mem_of_getElem? (i := 45) rfl)
theorem mT_555 : Cond.code yX11_output cX11_output 4 (some .int) ∈ lw_tbl := tb_6 _ (List.mem_of_getElem? (i := 133) rfl)
theorem mT_556 : Cond.methodLink RL 97 yX11_output ∈ lw_tbl := tb_6 _ (List.mem_of_getElem? (i := 130) rfl)
theorem mT_557 : Cond.instanceMethod yX11_output ∈ lw_tbl := tb_6 _ (List.mem_of_getElem? (i := 131) rfl)
theorem mT_558 : Cond.selects RX11 yX11_output yX11_output ∈ lw_tbl := tb_6 _ (List.mem_of_getElem? (i := 132) rfl)
theorem mT_559 : Cond.code yX12_output cX12_output 4 (some .int) ∈ lw_tbl := tb_9 _ (List.mem_of_getElem? (i := 110) rfl)
theorem mT_560 : Cond.methodLink RL 100 yX12_output ∈ lw_tbl := tb_9 _ (List.mem_of_getElem? (i := 107) rfl)
theorem mT_561 : Cond.instanceMethod yX12_output ∈ lw_tbl := tb_9 _ (List.mem_of_getElem? (i := 108) rfl)
theorem mT_562 : Cond.selects RX12 yX12_output yX12_output ∈ lw_tbl := tb_9 _ (List.mem_of_getElem? (i := 109) rfl)
theorem mT_563 : Cond.code yX11_memory cX11_memory 4 (some .int) ∈ lw_tbl := tb_6 _ (List.mem_of_getElem? (i := 141) rfl)
theorem mT_564 : Cond.methodLink RL 101 yX11_memory ∈ lw_tbl := tb_6 _ (List.mem_of_getElem? (i := 138) rfl)
theorem mT_565 : Cond.instanceMethod yX11_memory ∈ lw_tbl := tb_6 _ (List.mem_of_getElem? (i := 139) rfl)
theorem mT_566 : Cond.selects RX11 yX11_memory yX11_memory ∈ lw_tbl := tb_6 _ (List.mem_of_getElem? (i := 140) rfl)
theorem mT_567 : Cond.code yX12_memory cX12_memory 4 (some .int) ∈ lw_tbl := tb_9 _ (List.mem_of_getElem? (i := 114) rfl)
theorem mT_568 : Cond.methodLink RL 104 yX12_memory ∈ lw_tbl := tb_9 _ (List.mem_of_getElem? (i := 111) rfl)
theorem mT_569 : Cond.instanceMethod yX12_memory ∈ lw_tbl := tb_9 _ (List.mem_of_getElem? (i := 112) rfl)
theorem mT_570 : Cond.selects RX12 yX12_memory yX12_memory ∈ lw_tbl := tb_9 _ (List.mem_of_getElem? (i := 113) rfl)
theorem mT_571 : Cond.code yX11_countRows cX11_countRows 2 (some .int) ∈ lw_tbl := tb_6 _ (List.mem_of_getElem? (i := 153) rfl)
theorem mT_572 : Cond.methodLink RX11 251 yX11_countRows ∈ lw_tbl := tb_6 _ (List.mem_of_getElem? (i := 150) rfl)
theorem mT_573 : Cond.instanceMethod yX11_countRows ∈ lw_tbl := tb_6 _ (List.mem_of_getElem? (i := 152) rfl)
theorem mT_574 : Cond.selects RX11 yX11_countRows yX11_countRows ∈ lw_tbl := List.mem_append_left _ (List.mem_of_getElem? (i := 20) rfl)
theorem mT_575 : Cond.code yX11_count cX11_count 2 (some .int) ∈ lw_tbl := tb_6 _ (List.mem_of_getElem? (i := 149) rfl)
theorem mT_576 : Cond.methodLink RL 105 yX11_count ∈ lw_tbl := tb_6 _ (List.mem_of_getElem? (i := 146) rfl)
theorem mT_577 : Cond.instanceMethod yX11_count ∈ lw_tbl := tb_6 _ (List.mem_of_getElem? (i := 147) rfl)
theorem mT_578 : Cond.selects RX11 yX11_count yX11_count ∈ lw_tbl := tb_6 _ (List.mem_of_getElem? (i := 148) rfl)
theorem mT_579 : Cond.code yX12_count cX12_count 2 (some .int) ∈ lw_tbl := tb_9 _ (List.mem_of_getElem? (i := 118) rfl)
theorem mT_580 : Cond.methodLink RL 108 yX12_count ∈ lw_tbl := tb_9 _ (List.mem_of_getElem? (i := 115) rfl)
theorem mT_581 : Cond.instanceMethod yX12_count ∈ lw_tbl := tb_9 _ (List.mem_of_getElem? (i := 116) rfl)
theorem mT_582 : Cond.selects RX12 yX12_count yX12_count ∈ lw_tbl := tb_9 _ (List.mem_of_getElem? (i := 117) rfl)
theorem wT_0 : ∀ w ∈ wP_0, w ∈ lw_tbl := List.forall_mem_cons.mpr ⟨mT_0, List.forall_mem_cons.mpr ⟨mT_1, List.forall_mem_cons.mpr ⟨mT_2, List.forall_mem_cons.mpr ⟨mT_3, List.forall_mem_cons.mpr ⟨mT_4, List.forall_mem_cons.mpr ⟨mT_5, List.forall_mem_cons.mpr ⟨mT_6, List.forall_mem_cons.mpr ⟨mT_7, List.forall_mem_cons.mpr ⟨mT_8, List.forall_mem_cons.mpr ⟨mT_9, List.forall_mem_cons.mpr ⟨mT_10, List.forall_mem_cons.mpr ⟨mT_11, List.forall_mem_cons.mpr ⟨mT_12, List.forall_mem_cons.mpr ⟨mT_13, List.forall_mem_cons.mpr ⟨mT_14, List.forall_mem_cons.mpr ⟨mT_15, List.forall_mem_cons.mpr ⟨mT_16, List.forall_mem_cons.mpr ⟨mT_17, List.forall_mem_cons.mpr ⟨mT_18, List.forall_mem_cons.mpr ⟨mT_19, List.forall_mem_cons.mpr ⟨mT_20, List.forall_mem_cons.mpr ⟨mT_21, List.forall_mem_cons.mpr ⟨mT_22, List.forall_mem_cons.mpr ⟨mT_23, List.forall_mem_cons.mpr ⟨mT_24, List.forall_mem_cons.mpr ⟨mT_25, List.forall_mem_cons.mpr ⟨mT_26, List.forall_mem_cons.mpr ⟨mT_27, List.forall_mem_cons.mpr ⟨mT_28, List.forall_mem_cons.mpr ⟨mT_29, fun _ h => absurd h List.not_mem_nil⟩⟩⟩⟩⟩⟩⟩⟩⟩⟩⟩⟩⟩⟩⟩⟩⟩⟩⟩⟩⟩⟩⟩⟩⟩⟩⟩⟩⟩⟩
theorem wT_1 : ∀ w ∈ wP_1, w ∈ lw_tbl := List.forall_mem_cons.mpr ⟨mT_30, List.forall_mem_cons.mpr ⟨mT_31, List.forall_mem_cons.mpr ⟨mT_32, List.forall_mem_cons.mpr ⟨mT_33, List.forall_mem_cons.mpr ⟨mT_34, List.forall_mem_cons.mpr ⟨mT_35, List.forall_mem_cons.mpr ⟨mT_36, List.forall_mem_cons.mpr ⟨mT_37, List.forall_mem_cons.mpr ⟨mT_38, List.forall_mem_cons.mpr ⟨mT_39, List.forall_mem_cons.mpr ⟨mT_40, List.forall_mem_cons.mpr ⟨mT_41, List.forall_mem_cons.mpr ⟨mT_42, List.forall_mem_cons.mpr ⟨mT_43, List.forall_mem_cons.mpr ⟨mT_44, List.forall_mem_cons.mpr ⟨mT_45, List.forall_mem_cons.mpr ⟨mT_46, List.forall_mem_cons.mpr ⟨mT_47, List.forall_mem_cons.mpr ⟨mT_48, List.forall_mem_cons.mpr ⟨mT_49, List.forall_mem_cons.mpr ⟨mT_50, List.forall_mem_cons.mpr ⟨mT_51, List.forall_mem_cons.mpr ⟨mT_52, List.forall_mem_cons.mpr ⟨mT_53, List.forall_mem_cons.mpr ⟨mT_54, List.forall_mem_cons.mpr ⟨mT_55, List.forall_mem_cons.mpr ⟨mT_56, List.forall_mem_cons.mpr ⟨mT_57, List.forall_mem_cons.mpr ⟨mT_58, List.forall_mem_cons.mpr ⟨mT_59, fun _ h => absurd h List.not_mem_nil⟩⟩⟩⟩⟩⟩⟩⟩⟩⟩⟩⟩⟩⟩⟩⟩⟩⟩⟩⟩⟩⟩⟩⟩⟩⟩⟩⟩⟩⟩
theorem wT_2 : ∀ w ∈ wP_2, w ∈ lw_tbl := List.forall_mem_cons.mpr ⟨mT_60, List.forall_mem_cons.mpr ⟨mT_61, List.forall_mem_cons.mpr ⟨mT_62, List.forall_mem_cons.mpr ⟨mT_63, List.forall_mem_cons.mpr ⟨mT_64, List.forall_mem_cons.mpr ⟨mT_65, List.forall_mem_cons.mpr ⟨mT_66, List.forall_mem_cons.mpr ⟨mT_67, List.forall_mem_cons.mpr ⟨mT_68, List.forall_mem_cons.mpr ⟨mT_69, List.forall_mem_cons.mpr ⟨mT_70, List.forall_mem_cons.mpr ⟨mT_71, List.forall_mem_cons.mpr ⟨mT_72, List.forall_mem_cons.mpr ⟨mT_73, List.forall_mem_cons.mpr ⟨mT_74, List.forall_mem_cons.mpr ⟨mT_75, List.forall_mem_cons.mpr ⟨mT_76, List.forall_mem_cons.mpr ⟨mT_77, List.forall_mem_cons.mpr ⟨mT_78, List.forall_mem_cons.mpr ⟨mT_79, List.forall_mem_cons.mpr ⟨mT_80, List.forall_mem_cons.mpr ⟨mT_81, List.forall_mem_cons.mpr ⟨mT_82, List.forall_mem_cons.mpr ⟨mT_83, List.forall_mem_cons.mpr ⟨mT_84, List.forall_mem_cons.mpr ⟨mT_85, List.forall_mem_cons.mpr ⟨mT_86, List.forall_mem_cons.mpr ⟨mT_87, List.forall_mem_cons.mpr ⟨mT_88, List.forall_mem_cons.mpr ⟨mT_89, fun _ h => absurd h List.not_mem_nil⟩⟩⟩⟩⟩⟩⟩⟩⟩⟩⟩⟩⟩⟩⟩⟩⟩⟩⟩⟩⟩⟩⟩⟩⟩⟩⟩⟩⟩⟩
theorem wT_3 : ∀ w ∈ wP_3, w ∈ lw_tbl := List.forall_mem_cons.mpr ⟨mT_90, List.forall_mem_cons.mpr ⟨mT_91, List.forall_mem_cons.mpr ⟨mT_92, List.forall_mem_cons.mpr ⟨mT_93, List.forall_mem_cons.mpr ⟨mT_94, List.forall_mem_cons.mpr ⟨mT_95, List.forall_mem_cons.mpr ⟨mT_96, List.forall_mem_cons.mpr ⟨mT_97, List.forall_mem_cons.mpr ⟨mT_98, List.forall_mem_cons.mpr ⟨mT_99, List.forall_mem_cons.mpr ⟨mT_100, List.forall_mem_cons.mpr ⟨mT_101, List.forall_mem_cons.mpr ⟨mT_102, List.forall_mem_cons.mpr ⟨mT_103, List.forall_mem_cons.mpr ⟨mT_104, List.forall_mem_cons.mpr ⟨mT_105, List.forall_mem_cons.mpr ⟨mT_106, List.forall_mem_cons.mpr ⟨mT_107, List.forall_mem_cons.mpr ⟨mT_108, List.forall_mem_cons.mpr ⟨mT_109, List.forall_mem_cons.mpr ⟨mT_110, List.forall_mem_cons.mpr ⟨mT_111, List.forall_mem_cons.mpr ⟨mT_112, List.forall_mem_cons.mpr ⟨mT_113, List.forall_mem_cons.mpr ⟨mT_114, List.forall_mem_cons.mpr ⟨mT_115, List.forall_mem_cons.mpr ⟨mT_116, List.forall_mem_cons.mpr ⟨mT_117, List.forall_mem_cons.mpr ⟨mT_118, List.forall_mem_cons.mpr ⟨mT_119, fun _ h => absurd h List.not_mem_nil⟩⟩⟩⟩⟩⟩⟩⟩⟩⟩⟩⟩⟩⟩⟩⟩⟩⟩⟩⟩⟩⟩⟩⟩⟩⟩⟩⟩⟩⟩
theorem wT_4 : ∀ w ∈ wP_4, w ∈ lw_tbl := List.forall_mem_cons.mpr ⟨mT_120, List.forall_mem_cons.mpr ⟨mT_121, List.forall_mem_cons.mpr ⟨mT_122, List.forall_mem_cons.mpr ⟨mT_123, List.forall_mem_cons.mpr ⟨mT_124, List.forall_mem_cons.mpr ⟨mT_125, List.forall_mem_cons.mpr ⟨mT_126, List.forall_mem_cons.mpr ⟨mT_127, List.forall_mem_cons.mpr ⟨mT_128, List.forall_mem_cons.mpr ⟨mT_129, List.forall_mem_cons.mpr ⟨mT_130, List.forall_mem_cons.mpr ⟨mT_131, List.forall_mem_cons.mpr ⟨mT_132, List.forall_mem_cons.mpr ⟨mT_133, List.forall_mem_cons.mpr ⟨mT_134, List.forall_mem_cons.mpr ⟨mT_135, List.forall_mem_cons.mpr ⟨mT_136, List.forall_mem_cons.mpr ⟨mT_137, List.forall_mem_cons.mpr ⟨mT_138, List.forall_mem_cons.mpr ⟨mT_139, List.forall_mem_cons.mpr ⟨mT_140, List.forall_mem_cons.mpr ⟨mT_141, List.forall_mem_cons.mpr ⟨mT_142, List.forall_mem_cons.mpr ⟨mT_143, List.forall_mem_cons.mpr ⟨mT_144, List.forall_mem_cons.mpr ⟨mT_145, List.forall_mem_cons.mpr ⟨mT_146, List.forall_mem_cons.mpr ⟨mT_147, List.forall_mem_cons.mpr ⟨mT_148, List.forall_mem_cons.mpr ⟨mT_149, fun _ h => absurd h List.not_mem_nil⟩⟩⟩⟩⟩⟩⟩⟩⟩⟩⟩⟩⟩⟩⟩⟩⟩⟩⟩⟩⟩⟩⟩⟩⟩⟩⟩⟩⟩⟩
theorem wT_5 : ∀ w ∈ wP_5, w ∈ lw_tbl := List.forall_mem_cons.mpr ⟨mT_150, List.forall_mem_cons.mpr ⟨mT_151, List.forall_mem_cons.mpr ⟨mT_152, List.forall_mem_cons.mpr ⟨mT_153, List.forall_mem_cons.mpr ⟨mT_154, List.forall_mem_cons.mpr ⟨mT_155, List.forall_mem_cons.mpr ⟨mT_156, List.forall_mem_cons.mpr ⟨mT_157, List.forall_mem_cons.mpr ⟨mT_158, List.forall_mem_cons.mpr ⟨mT_159, List.forall_mem_cons.mpr ⟨mT_160, List.forall_mem_cons.mpr ⟨mT_161, List.forall_mem_cons.mpr ⟨mT_162, List.forall_mem_cons.mpr ⟨mT_163, List.forall_mem_cons.mpr ⟨mT_164, List.forall_mem_cons.mpr ⟨mT_165, List.forall_mem_cons.mpr ⟨mT_166, List.forall_mem_cons.mpr ⟨mT_167, List.forall_mem_cons.mpr ⟨mT_168, List.forall_mem_cons.mpr ⟨mT_169, List.forall_mem_cons.mpr ⟨mT_170, List.forall_mem_cons.mpr ⟨mT_171, List.forall_mem_cons.mpr ⟨mT_172, List.forall_mem_cons.mpr ⟨mT_173, List.forall_mem_cons.mpr ⟨mT_174, List.forall_mem_cons.mpr ⟨mT_175, List.forall_mem_cons.mpr ⟨mT_176, List.forall_mem_cons.mpr ⟨mT_177, List.forall_mem_cons.mpr ⟨mT_178, List.forall_mem_cons.mpr ⟨mT_179, fun _ h => absurd h List.not_mem_nil⟩⟩⟩⟩⟩⟩⟩⟩⟩⟩⟩⟩⟩⟩⟩⟩⟩⟩⟩⟩⟩⟩⟩⟩⟩⟩⟩⟩⟩⟩
theorem wT_6 : ∀ w ∈ wP_6, w ∈ lw_tbl := List.forall_mem_cons.mpr ⟨mT_180, List.forall_mem_cons.mpr ⟨mT_181, List.forall_mem_cons.mpr ⟨mT_182, List.forall_mem_cons.mpr ⟨mT_183, List.forall_mem_cons.mpr ⟨mT_184, List.forall_mem_cons.mpr ⟨mT_185, List.forall_mem_cons.mpr ⟨mT_186, List.forall_mem_cons.mpr ⟨mT_187, List.forall_mem_cons.mpr ⟨mT_188, List.forall_mem_cons.mpr ⟨mT_189, List.forall_mem_cons.mpr ⟨mT_190, List.forall_mem_cons.mpr ⟨mT_191, List.forall_mem_cons.mpr ⟨mT_192, List.forall_mem_cons.mpr ⟨mT_193, List.forall_mem_cons.mpr ⟨mT_194, List.forall_mem_cons.mpr ⟨mT_195, List.forall_mem_cons.mpr ⟨mT_196, List.forall_mem_cons.mpr ⟨mT_197, List.forall_mem_cons.mpr ⟨mT_198, List.forall_mem_cons.mpr ⟨mT_199, List.forall_mem_cons.mpr ⟨mT_200, List.forall_mem_cons.mpr ⟨mT_201, List.forall_mem_cons.mpr ⟨mT_202, List.forall_mem_cons.mpr ⟨mT_203, List.forall_mem_cons.mpr ⟨mT_204, List.forall_mem_cons.mpr ⟨mT_205, List.forall_mem_cons.mpr ⟨mT_206, List.forall_mem_cons.mpr ⟨mT_207, List.forall_mem_cons.mpr ⟨mT_208, List.forall_mem_cons.mpr ⟨mT_209, fun _ h => absurd h List.not_mem_nil⟩⟩⟩⟩⟩⟩⟩⟩⟩⟩⟩⟩⟩⟩⟩⟩⟩⟩⟩⟩⟩⟩⟩⟩⟩⟩⟩⟩⟩⟩
theorem wT_7 : ∀ w ∈ wP_7, w ∈ lw_tbl := List.forall_mem_cons.mpr ⟨mT_210, List.forall_mem_cons.mpr ⟨mT_211, List.forall_mem_cons.mpr ⟨mT_212, List.forall_mem_cons.mpr ⟨mT_213, List.forall_mem_cons.mpr ⟨mT_214, List.forall_mem_cons.mpr ⟨mT_215, List.forall_mem_cons.mpr ⟨mT_216, List.forall_mem_cons.mpr ⟨mT_217, List.forall_mem_cons.mpr ⟨mT_218, List.forall_mem_cons.mpr ⟨mT_219, List.forall_mem_cons.mpr ⟨mT_220, List.forall_mem_cons.mpr ⟨mT_221, List.forall_mem_cons.mpr ⟨mT_222, List.forall_mem_cons.mpr ⟨mT_223, List.forall_mem_cons.mpr ⟨mT_224, List.forall_mem_cons.mpr ⟨mT_225, List.forall_mem_cons.mpr ⟨mT_226, List.forall_mem_cons.mpr ⟨mT_227, List.forall_mem_cons.mpr ⟨mT_228, List.forall_mem_cons.mpr ⟨mT_229, List.forall_mem_cons.mpr ⟨mT_230, List.forall_mem_cons.mpr ⟨mT_231, List.forall_mem_cons.mpr ⟨mT_232, List.forall_mem_cons.mpr ⟨mT_233, List.forall_mem_cons.mpr ⟨mT_234, List.forall_mem_cons.mpr ⟨mT_235, List.forall_mem_cons.mpr ⟨mT_236, List.forall_mem_cons.mpr ⟨mT_237, List.forall_mem_cons.mpr ⟨mT_238, List.forall_mem_cons.mpr ⟨mT_239, fun _ h => absurd h List.not_mem_nil⟩⟩⟩⟩⟩⟩⟩⟩⟩⟩⟩⟩⟩⟩⟩⟩⟩⟩⟩⟩⟩⟩⟩⟩⟩⟩⟩⟩⟩⟩
theorem wT_8 : ∀ w ∈ wP_8, w ∈ lw_tbl := List.forall_mem_cons.mpr ⟨mT_240, List.forall_mem_cons.mpr ⟨mT_241, List.forall_mem_cons.mpr ⟨mT_242, List.forall_mem_cons.mpr ⟨mT_243, List.forall_mem_cons.mpr ⟨mT_244, List.forall_mem_cons.mpr ⟨mT_245, List.forall_mem_cons.mpr ⟨mT_246, List.forall_mem_cons.mpr ⟨mT_247, List.forall_mem_cons.mpr ⟨mT_248, List.forall_mem_cons.mpr ⟨mT_249, List.forall_mem_cons.mpr ⟨mT_250, List.forall_mem_cons.mpr ⟨mT_251, List.forall_mem_cons.mpr ⟨mT_252, List.forall_mem_cons.mpr ⟨mT_253, List.forall_mem_cons.mpr ⟨mT_254, List.forall_mem_cons.mpr ⟨mT_255, List.forall_mem_cons.mpr ⟨mT_256, List.forall_mem_cons.mpr ⟨mT_257, List.forall_mem_cons.mpr ⟨mT_258, List.forall_mem_cons.mpr ⟨mT_259, List.forall_mem_cons.mpr ⟨mT_260, List.forall_mem_cons.mpr ⟨mT_261, List.forall_mem_cons.mpr ⟨mT_262, List.forall_mem_cons.mpr ⟨mT_263, List.forall_mem_cons.mpr ⟨mT_264, List.forall_mem_cons.mpr ⟨mT_265, List.forall_mem_cons.mpr ⟨mT_266, List.forall_mem_cons.mpr ⟨mT_267, List.forall_mem_cons.mpr ⟨mT_268, List.forall_mem_cons.mpr ⟨mT_269, fun _ h => absurd h List.not_mem_nil⟩⟩⟩⟩⟩⟩⟩⟩⟩⟩⟩⟩⟩⟩⟩⟩⟩⟩⟩⟩⟩⟩⟩⟩⟩⟩⟩⟩⟩⟩
theorem wT_9 : ∀ w ∈ wP_9, w ∈ lw_tbl := List.forall_mem_cons.mpr ⟨mT_270, List.forall_mem_cons.mpr ⟨mT_271, List.forall_mem_cons.mpr ⟨mT_272, List.forall_mem_cons.mpr ⟨mT_273, List.forall_mem_cons.mpr ⟨mT_274, List.forall_mem_cons.mpr ⟨mT_275, List.forall_mem_cons.mpr ⟨mT_276, List.forall_mem_cons.mpr ⟨mT_277, List.forall_mem_cons.mpr ⟨mT_278, List.forall_mem_cons.mpr ⟨mT_279, List.forall_mem_cons.mpr ⟨mT_280, List.forall_mem_cons.mpr ⟨mT_281, List.forall_mem_cons.mpr ⟨mT_282, List.forall_mem_cons.mpr ⟨mT_283, List.forall_mem_cons.mpr ⟨mT_284, List.forall_mem_cons.mpr ⟨mT_285, List.forall_mem_cons.mpr ⟨mT_286, List.forall_mem_cons.mpr ⟨mT_287, List.forall_mem_cons.mpr ⟨mT_288, List.forall_mem_cons.mpr ⟨mT_289, List.forall_mem_cons.mpr ⟨mT_290, List.forall_mem_cons.mpr ⟨mT_291, List.forall_mem_cons.mpr ⟨mT_292, List.forall_mem_cons.mpr ⟨mT_293, List.forall_mem_cons.mpr ⟨mT_294, List.forall_mem_cons.mpr ⟨mT_295, List.forall_mem_cons.mpr ⟨mT_296, List.forall_mem_cons.mpr ⟨mT_297, List.forall_mem_cons.mpr ⟨mT_298, List.forall_mem_cons.mpr ⟨mT_299, fun _ h => absurd h List.not_mem_nil⟩⟩⟩⟩⟩⟩⟩⟩⟩⟩⟩⟩⟩⟩⟩⟩⟩⟩⟩⟩⟩⟩⟩⟩⟩⟩⟩⟩⟩⟩
theorem wT_10 : ∀ w ∈ wP_10, w ∈ lw_tbl := List.forall_mem_cons.mpr ⟨mT_300, List.forall_mem_cons.mpr ⟨mT_301, List.forall_mem_cons.mpr ⟨mT_302, List.forall_mem_cons.mpr ⟨mT_303, List.forall_mem_cons.mpr ⟨mT_304, List.forall_mem_cons.mpr ⟨mT_305, List.forall_mem_cons.mpr ⟨mT_306, List.forall_mem_cons.mpr ⟨mT_307, List.forall_mem_cons.mpr ⟨mT_308, List.forall_mem_cons.mpr ⟨mT_309, List.forall_mem_cons.mpr ⟨mT_310, List.forall_mem_cons.mpr ⟨mT_311, List.forall_mem_cons.mpr ⟨mT_312, List.forall_mem_cons.mpr ⟨mT_313, List.forall_mem_cons.mpr ⟨mT_314, List.forall_mem_cons.mpr ⟨mT_315, List.forall_mem_cons.mpr ⟨mT_316, List.forall_mem_cons.mpr ⟨mT_317, List.forall_mem_cons.mpr ⟨mT_318, List.forall_mem_cons.mpr ⟨mT_319, List.forall_mem_cons.mpr ⟨mT_320, List.forall_mem_cons.mpr ⟨mT_321, List.forall_mem_cons.mpr ⟨mT_322, List.forall_mem_cons.mpr ⟨mT_323, List.forall_mem_cons.mpr ⟨mT_324, List.forall_mem_cons.mpr ⟨mT_325, List.forall_mem_cons.mpr ⟨mT_326, List.forall_mem_cons.mpr ⟨mT_327, List.forall_mem_cons.mpr ⟨mT_328, List.forall_mem_cons.mpr ⟨mT_329, fun _ h => absurd h List.not_mem_nil⟩⟩⟩⟩⟩⟩⟩⟩⟩⟩⟩⟩⟩⟩⟩⟩⟩⟩⟩⟩⟩⟩⟩⟩⟩⟩⟩⟩⟩⟩
theorem wT_11 : ∀ w ∈ wP_11, w ∈ lw_tbl := List.forall_mem_cons.mpr ⟨mT_330, List.forall_mem_cons.mpr ⟨mT_331, List.forall_mem_cons.mpr ⟨mT_332, List.forall_mem_cons.mpr ⟨mT_333, List.forall_mem_cons.mpr ⟨mT_334, List.forall_mem_cons.mpr ⟨mT_335, List.forall_mem_cons.mpr ⟨mT_336, List.forall_mem_cons.mpr ⟨mT_337, List.forall_mem_cons.mpr ⟨mT_338, List.forall_mem_cons.mpr ⟨mT_339, List.forall_mem_cons.mpr ⟨mT_340, List.forall_mem_cons.mpr ⟨mT_341, List.forall_mem_cons.mpr ⟨mT_342, List.forall_mem_cons.mpr ⟨mT_343, List.forall_mem_cons.mpr ⟨mT_344, List.forall_mem_cons.mpr ⟨mT_345, List.forall_mem_cons.mpr ⟨mT_346, List.forall_mem_cons.mpr ⟨mT_347, List.forall_mem_cons.mpr ⟨mT_348, List.forall_mem_cons.mpr ⟨mT_349, List.forall_mem_cons.mpr ⟨mT_350, List.forall_mem_cons.mpr ⟨mT_351, List.forall_mem_cons.mpr ⟨mT_352, List.forall_mem_cons.mpr ⟨mT_353, List.forall_mem_cons.mpr ⟨mT_354, List.forall_mem_cons.mpr ⟨mT_355, List.forall_mem_cons.mpr ⟨mT_356, List.forall_mem_cons.mpr ⟨mT_357, List.forall_mem_cons.mpr ⟨mT_358, List.forall_mem_cons.mpr ⟨mT_359, fun _ h => absurd h List.not_mem_nil⟩⟩⟩⟩⟩⟩⟩⟩⟩⟩⟩⟩⟩⟩⟩⟩⟩⟩⟩⟩⟩⟩⟩⟩⟩⟩⟩⟩⟩⟩
theorem wT_12 : ∀ w ∈ wP_12, w ∈ lw_tbl := List.forall_mem_cons.mpr ⟨mT_360, List.forall_mem_cons.mpr ⟨mT_361, List.forall_mem_cons.mpr ⟨mT_362, List.forall_mem_cons.mpr ⟨mT_363, List.forall_mem_cons.mpr ⟨mT_364, List.forall_mem_cons.mpr ⟨mT_365, List.forall_mem_cons.mpr ⟨mT_366, List.forall_mem_cons.mpr ⟨mT_367, List.forall_mem_cons.mpr ⟨mT_368, List.forall_mem_cons.mpr ⟨mT_369, List.forall_mem_cons.mpr ⟨mT_370, List.forall_mem_cons.mpr ⟨mT_371, List.forall_mem_cons.mpr ⟨mT_372, List.forall_mem_cons.mpr ⟨mT_373, List.forall_mem_cons.mpr ⟨mT_374, List.forall_mem_cons.mpr ⟨mT_375, List.forall_mem_cons.mpr ⟨mT_376, List.forall_mem_cons.mpr ⟨mT_377, List.forall_mem_cons.mpr ⟨mT_378, List.forall_mem_cons.mpr ⟨mT_379, List.forall_mem_cons.mpr ⟨mT_380, List.forall_mem_cons.mpr ⟨mT_381, List.forall_mem_cons.mpr ⟨mT_382, List.forall_mem_cons.mpr ⟨mT_383, List.forall_mem_cons.mpr ⟨mT_384, List.forall_mem_cons.mpr ⟨mT_385, List.forall_mem_cons.mpr ⟨mT_386, List.forall_mem_cons.mpr ⟨mT_387, List.forall_mem_cons.mpr ⟨mT_388, List.forall_mem_cons.mpr ⟨mT_389, fun _ h => absurd h List.not_mem_nil⟩⟩⟩⟩⟩⟩⟩⟩⟩⟩⟩⟩⟩⟩⟩⟩⟩⟩⟩⟩⟩⟩⟩⟩⟩⟩⟩⟩⟩⟩
theorem wT_13 : ∀ w ∈ wP_13, w ∈ lw_tbl := List.forall_mem_cons.mpr ⟨mT_390, List.forall_mem_cons.mpr ⟨mT_391, List.forall_mem_cons.mpr ⟨mT_392, List.forall_mem_cons.mpr ⟨mT_393, List.forall_mem_cons.mpr ⟨mT_394, List.forall_mem_cons.mpr ⟨mT_395, List.forall_mem_cons.mpr ⟨mT_396, List.forall_mem_cons.mpr ⟨mT_397, List.forall_mem_cons.mpr ⟨mT_398, List.forall_mem_cons.mpr ⟨mT_399, List.forall_mem_cons.mpr ⟨mT_400, List.forall_mem_cons.mpr ⟨mT_401, List.forall_mem_cons.mpr ⟨mT_402, List.forall_mem_cons.mpr ⟨mT_403, List.forall_mem_cons.mpr ⟨mT_404, List.forall_mem_cons.mpr ⟨mT_405, List.forall_mem_cons.mpr ⟨mT_406, List.forall_mem_cons.mpr ⟨mT_407, List.forall_mem_cons.mpr ⟨mT_408, List.forall_mem_cons.mpr ⟨mT_409, List.forall_mem_cons.mpr ⟨mT_410, List.forall_mem_cons.mpr ⟨mT_411, List.forall_mem_cons.mpr ⟨mT_412, List.forall_mem_cons.mpr ⟨mT_413, List.forall_mem_cons.mpr ⟨mT_414, List.forall_mem_cons.mpr ⟨mT_415, List.forall_mem_cons.mpr ⟨mT_416, List.forall_mem_cons.mpr ⟨mT_417, List.forall_mem_cons.mpr ⟨mT_418, List.forall_mem_cons.mpr ⟨mT_419, fun _ h => absurd h List.not_mem_nil⟩⟩⟩⟩⟩⟩⟩⟩⟩⟩⟩⟩⟩⟩⟩⟩⟩⟩⟩⟩⟩⟩⟩⟩⟩⟩⟩⟩⟩⟩
theorem wT_14 : ∀ w ∈ wP_14, w ∈ lw_tbl := List.forall_mem_cons.mpr ⟨mT_420, List.forall_mem_cons.mpr ⟨mT_421, List.forall_mem_cons.mpr ⟨mT_422, List.forall_mem_cons.mpr ⟨mT_423, List.forall_mem_cons.mpr ⟨mT_424, List.forall_mem_cons.mpr ⟨mT_425, List.forall_mem_cons.mpr ⟨mT_426, List.forall_mem_cons.mpr ⟨mT_427, List.forall_mem_cons.mpr ⟨mT_428, List.forall_mem_cons.mpr ⟨mT_429, List.forall_mem_cons.mpr ⟨mT_430, List.forall_mem_cons.mpr ⟨mT_431, List.forall_mem_cons.mpr ⟨mT_432, List.forall_mem_cons.mpr ⟨mT_433, List.forall_mem_cons.mpr ⟨mT_434, List.forall_mem_cons.mpr ⟨mT_435, List.forall_mem_cons.mpr ⟨mT_436, List.forall_mem_cons.mpr ⟨mT_437, List.forall_mem_cons.mpr ⟨mT_438, List.forall_mem_cons.mpr ⟨mT_439, List.forall_mem_cons.mpr ⟨mT_440, List.forall_mem_cons.mpr ⟨mT_441, List.forall_mem_cons.mpr ⟨mT_442, List.forall_mem_cons.mpr ⟨mT_443, List.forall_mem_cons.mpr ⟨mT_444, List.forall_mem_cons.mpr ⟨mT_445, List.forall_mem_cons.mpr ⟨mT_446, List.forall_mem_cons.mpr ⟨mT_447, List.forall_mem_cons.mpr ⟨mT_448, List.forall_mem_cons.mpr ⟨mT_449, fun _ h => absurd h List.not_mem_nil⟩⟩⟩⟩⟩⟩⟩⟩⟩⟩⟩⟩⟩⟩⟩⟩⟩⟩⟩⟩⟩⟩⟩⟩⟩⟩⟩⟩⟩⟩
theorem wT_15 : ∀ w ∈ wP_15, w ∈ lw_tbl := List.forall_mem_cons.mpr ⟨mT_450, List.forall_mem_cons.mpr ⟨mT_451, List.forall_mem_cons.mpr ⟨mT_452, List.forall_mem_cons.mpr ⟨mT_453, List.forall_mem_cons.mpr ⟨mT_454, List.forall_mem_cons.mpr ⟨mT_455, List.forall_mem_cons.mpr ⟨mT_456, List.forall_mem_cons.mpr ⟨mT_457, List.forall_mem_cons.mpr ⟨mT_458, List.forall_mem_cons.mpr ⟨mT_459, List.forall_mem_cons.mpr ⟨mT_460, List.forall_mem_cons.mpr ⟨mT_461, List.forall_mem_cons.mpr ⟨mT_462, List.forall_mem_cons.mpr ⟨mT_463, List.forall_mem_cons.mpr ⟨mT_464, List.forall_mem_cons.mpr ⟨mT_465, List.forall_mem_cons.mpr ⟨mT_466, List.forall_mem_cons.mpr ⟨mT_467, List.forall_mem_cons.mpr ⟨mT_468, List.forall_mem_cons.mpr ⟨mT_469, List.forall_mem_cons.mpr ⟨mT_470, List.forall_mem_cons.mpr ⟨mT_471, List.forall_mem_cons.mpr ⟨mT_472, List.forall_mem_cons.mpr ⟨mT_473, List.forall_mem_cons.mpr ⟨mT_474, List.forall_mem_cons.mpr ⟨mT_475, List.forall_mem_cons.mpr ⟨mT_476, List.forall_mem_cons.mpr ⟨mT_477, List.forall_mem_cons.mpr ⟨mT_478, List.forall_mem_cons.mpr ⟨mT_479, fun _ h => absurd h List.not_mem_nil⟩⟩⟩⟩⟩⟩⟩⟩⟩⟩⟩⟩⟩⟩⟩⟩⟩⟩⟩⟩⟩⟩⟩⟩⟩⟩⟩⟩⟩⟩
theorem wT_16 : ∀ w ∈ wP_16, w ∈ lw_tbl := List.forall_mem_cons.mpr ⟨mT_480, List.forall_mem_cons.mpr ⟨mT_481, List.forall_mem_cons.mpr ⟨mT_482, List.forall_mem_cons.mpr ⟨mT_483, List.forall_mem_cons.mpr ⟨mT_484, List.forall_mem_cons.mpr ⟨mT_485, List.forall_mem_cons.mpr ⟨mT_486, List.forall_mem_cons.mpr ⟨mT_487, List.forall_mem_cons.mpr ⟨mT_488, List.forall_mem_cons.mpr ⟨mT_489, List.forall_mem_cons.mpr ⟨mT_490, List.forall_mem_cons.mpr ⟨mT_491, List.forall_mem_cons.mpr ⟨mT_492, List.forall_mem_cons.mpr ⟨mT_493, List.forall_mem_cons.mpr ⟨mT_494, List.forall_mem_cons.mpr ⟨mT_495, List.forall_mem_cons.mpr ⟨mT_496, List.forall_mem_cons.mpr ⟨mT_497, List.forall_mem_cons.mpr ⟨mT_498, List.forall_mem_cons.mpr ⟨mT_499, List.forall_mem_cons.mpr ⟨mT_500, List.forall_mem_cons.mpr ⟨mT_501, List.forall_mem_cons.mpr ⟨mT_502, List.forall_mem_cons.mpr ⟨mT_503, List.forall_mem_cons.mpr ⟨mT_504, List.forall_mem_cons.mpr ⟨mT_505, List.forall_mem_cons.mpr ⟨mT_506, List.forall_mem_cons.mpr ⟨mT_507, List.forall_mem_cons.mpr ⟨mT_508, List.forall_mem_cons.mpr ⟨mT_509, fun _ h => absurd h List.not_mem_nil⟩⟩⟩⟩⟩⟩⟩⟩⟩⟩⟩⟩⟩⟩⟩⟩⟩⟩⟩⟩⟩⟩⟩⟩⟩⟩⟩⟩⟩⟩
theorem wT_17 : ∀ w ∈ wP_17, w ∈ lw_tbl := List.forall_mem_cons.mpr ⟨mT_510, List.forall_mem_cons.mpr ⟨mT_511, List.forall_mem_cons.mpr ⟨mT_512, List.forall_mem_cons.mpr ⟨mT_513, List.forall_mem_cons.mpr ⟨mT_514, List.forall_mem_cons.mpr ⟨mT_515, List.forall_mem_cons.mpr ⟨mT_516, List.forall_mem_cons.mpr ⟨mT_517, List.forall_mem_cons.mpr ⟨mT_518, List.forall_mem_cons.mpr ⟨mT_519, List.forall_mem_cons.mpr ⟨mT_520, List.forall_mem_cons.mpr ⟨mT_521, List.forall_mem_cons.mpr ⟨mT_522, List.forall_mem_cons.mpr ⟨mT_523, List.forall_mem_cons.mpr ⟨mT_524, List.forall_mem_cons.mpr ⟨mT_525, List.forall_mem_cons.mpr ⟨mT_526, List.forall_mem_cons.mpr ⟨mT_527, List.forall_mem_cons.mpr ⟨mT_528, List.forall_mem_cons.mpr ⟨mT_529, List.forall_mem_cons.mpr ⟨mT_530, List.forall_mem_cons.mpr ⟨mT_531, List.forall_mem_cons.mpr ⟨mT_532, List.forall_mem_cons.mpr ⟨mT_533, List.forall_mem_cons.mpr ⟨mT_534, List.forall_mem_cons.mpr ⟨mT_535, List.forall_mem_cons.mpr ⟨mT_536, List.forall_mem_cons.mpr ⟨mT_537, List.forall_mem_cons.mpr ⟨mT_538, List.forall_mem_cons.mpr ⟨mT_539, fun _ h => absurd h List.not_mem_nil⟩⟩⟩⟩⟩⟩⟩⟩⟩⟩⟩⟩⟩⟩⟩⟩⟩⟩⟩⟩⟩⟩⟩⟩⟩⟩⟩⟩⟩⟩
theorem wT_18 : ∀ w ∈ wP_18, w ∈ lw_tbl := List.forall_mem_cons.mpr ⟨mT_540, List.forall_mem_cons.mpr ⟨mT_541, List.forall_mem_cons.mpr ⟨mT_542, List.forall_mem_cons.mpr ⟨mT_543, List.forall_mem_cons.mpr ⟨mT_544, List.forall_mem_cons.mpr ⟨mT_545, List.forall_mem_cons.mpr ⟨mT_546, List.forall_mem_cons.mpr ⟨mT_547, List.forall_mem_cons.mpr ⟨mT_548, List.forall_mem_cons.mpr ⟨mT_549, List.forall_mem_cons.mpr ⟨mT_550, List.forall_mem_cons.mpr ⟨mT_551, List.forall_mem_cons.mpr ⟨mT_552, List.forall_mem_cons.mpr ⟨mT_553, List.forall_mem_cons.mpr ⟨mT_554, List.forall_mem_cons.mpr ⟨mT_555, List.forall_mem_cons.mpr ⟨mT_556, List.forall_mem_cons.mpr ⟨mT_557, List.forall_mem_cons.mpr ⟨mT_558, List.forall_mem_cons.mpr ⟨mT_559, List.forall_mem_cons.mpr ⟨mT_560, List.forall_mem_cons.mpr ⟨mT_561, List.forall_mem_cons.mpr ⟨mT_562, List.forall_mem_cons.mpr ⟨mT_563, List.forall_mem_cons.mpr ⟨mT_564, List.forall_mem_cons.mpr ⟨mT_565, List.forall_mem_cons.mpr ⟨mT_566, List.forall_mem_cons.mpr ⟨mT_567, List.forall_mem_cons.mpr ⟨mT_568, List.forall_mem_cons.mpr ⟨mT_569, fun _ h => absurd h List.not_mem_nil⟩⟩⟩⟩⟩⟩⟩⟩⟩⟩⟩⟩⟩⟩⟩⟩⟩⟩⟩⟩⟩⟩⟩⟩⟩⟩⟩⟩⟩⟩
theorem wT_19 : ∀ w ∈ wP_19, w ∈ lw_tbl := List.forall_mem_cons.mpr ⟨mT_570, List.forall_mem_cons.mpr ⟨mT_571, List.forall_mem_cons.mpr ⟨mT_572, List.forall_mem_cons.mpr ⟨mT_573, List.forall_mem_cons.mpr ⟨mT_574, List.forall_mem_cons.mpr ⟨mT_575, List.forall_mem_cons.mpr ⟨mT_576, List.forall_mem_cons.mpr ⟨mT_577, List.forall_mem_cons.mpr ⟨mT_578, List.forall_mem_cons.mpr ⟨mT_579, List.forall_mem_cons.mpr ⟨mT_580, List.forall_mem_cons.mpr ⟨mT_581, List.forall_mem_cons.mpr ⟨mT_582, fun _ h => absurd h List.not_mem_nil⟩⟩⟩⟩⟩⟩⟩⟩⟩⟩⟩⟩⟩
set_option maxRecDepth 100000 in
theorem uT_X1 : ∀ w ∈ uX1, w ∈ lw_tbl := by decide +kernel
set_option maxRecDepth 100000 in
theorem uT_X2 : ∀ w ∈ uX2, w ∈ lw_tbl := by decide +kernel
set_option maxRecDepth 100000 in
theorem uT_X3 : ∀ w ∈ uX3, w ∈ lw_tbl := by decide +kernel
set_option maxRecDepth 100000 in
theorem uT_X6 : ∀ w ∈ uX6, w ∈ lw_tbl := by decide +kernel
set_option maxRecDepth 100000 in
theorem uT_X7 : ∀ w ∈ uX7, w ∈ lw_tbl := by decide +kernel
set_option maxRecDepth 100000 in
theorem uT_X9 : ∀ w ∈ uX9, w ∈ lw_tbl := by decide +kernel
set_option maxRecDepth 100000 in
theorem uT_X10 : ∀ w ∈ uX10, w ∈ lw_tbl := by decide +kernel
set_option maxRecDepth 100000 in
theorem uT_X11 : ∀ w ∈ uX11, w ∈ lw_tbl := by decide +kernel
set_option maxRecDepth 100000 in
theorem uT_X12 : ∀ w ∈ uX12, w ∈ lw_tbl := by decide +kernel
theorem wP_in : ∀ w ∈ wP, w ∈ lw_tbl := fun w h => (List.mem_append.mp h).elim (wT_0 w) (fun h => (List.mem_append.mp h).elim (wT_1 w) (fun h => (List.mem_append.mp h).elim (wT_2 w) (fun h => (List.mem_append.mp h).elim (wT_3 w) (fun h => (List.mem_append.mp h).elim (wT_4 w) (fun h => (List.mem_append.mp h).elim (wT_5 w) (fun h => (List.mem_append.mp h).elim (wT_6 w) (fun h => (List.mem_append.mp h).elim (wT_7 w) (fun h => (List.mem_append.mp h).elim (wT_8 w) (fun h => (List.mem_append.mp h).elim (wT_9 w) (fun h => (List.mem_append.mp h).elim (wT_10 w) (fun h => (List.mem_append.mp h).elim (wT_11 w) (fun h => (List.mem_append.mp h).elim (wT_12 w) (fun h => (List.mem_append.mp h).elim (wT_13 w) (fun h => (List.mem_append.mp h).elim (wT_14 w) (fun h => (List.mem_append.mp h).elim (wT_15 w) (fun h => (List.mem_append.mp h).elim (wT_16 w) (fun h => (List.mem_append.mp h).elim (wT_17 w) (fun h => (List.mem_append.mp h).elim (wT_18 w) (fun h => (List.mem_append.mp h).elim (wT_19 w) (fun h => (List.mem_append.mp h).elim (uT_X1 w) (fun h => (List.mem_append.mp h).elim (uT_X2 w) (fun h => (List.mem_append.mp h).elim (uT_X3 w) (fun h => (List.mem_append.mp h).elim (uT_X6 w) (fun h => (List.mem_append.mp h).elim (uT_X7 w) (fun h => (List.mem_append.mp h).elim (uT_X9 w) (fun h => (List.mem_append.mp h).elim (uT_X10 w) (fun h => (List.mem_append.mp h).elim (uT_X11 w) (fun h => uT_X12 w h))))))))))))))))))))))))))))
end
section
section
variable {p : Program} {l : Launch} {e : Env} {R : Room} {s : State} {m : MethodId} {args : Array Value} {below : List Frame} {meth : Method} {c : Code} {H : Heap} {locs : List Loc} {cells slots : Nat} {Q : State → Prop} {pc : Nat} {ls : Array Slot} {rest : List Value}
theorem lv_nmi {x y : Int32} (h : x = y) (k : W p l e R s m args below meth c H locs cells slots Q (F0 m pc ls (.int y :: rest))) : W p l e R s m args below meth c H locs cells slots Q (F0 m pc ls (.int x :: rest)) := h ▸ k
end
theorem vin {i : Int32} {n : Nat} (h : (decide (i < 0) || decide (n ≤ i.toNatClampNeg)) = false) : vp_in i n := by
  intro q
  rcases q with q | q
  · rw [decide_eq_true q] at h; cases h
  · rw [decide_eq_true q, Bool.or_true] at h; cases h
def btl : List Int32 := [99, 111, 112, 121, 32, 110, 101, 103, 32, 110, 111, 116, 32, 97, 100, 100, 32, 115, 117, 98, 32, 109, 117, 108, 32, 100, 105, 118, 32, 114, 101, 109, 32, 97, 110, 100, 32, 111, 114, 32, 120, 111, 114, 32, 115, 104, 108, 32, 115, 104, 114, 32, 108, 116, 32, 101, 113, 32, 105, 110, 32, 103, 101, 116, 32, 111, 117, 116, 32, 112, 117, 116, 32, 103, 111, 32, 105, 102, 32, 114, 101, 116, 32, 102, 117, 110, 32, 112, 104, 105, 32]
def bt (j : Nat) : Int32 := btl.getD j 0
theorem vin91 {x : Int32} (h0 : ¬ x < 0) (h1 : x < 91) : vp_in x 91 := by
  rintro (q | q)
  · exact h0 q
  · have h2 := Int32.lt_iff_toInt_lt.mp h1
    have h3 : (91 : Int32).toInt = 91 := by decide +kernel
    rw [h3] at h2
    have h4 : 91 ≤ x.toInt.toNat := q
    omega
theorem ch_nar (x : Int32) : narrow .char (.int ((x.toUInt32 % 65536).toInt32)) = .int ((x.toUInt32 % 65536).toInt32) := by
  show Value.int _ = Value.int _
  congr 1
  have h : ∀ y : UInt32, y % 65536 % 65536 = y % 65536 := fun y => UInt32.toNat_inj.mp (by simp)
  simp [UInt32.toUInt32_toUInt16, h]
theorem lt91 {i : Nat} (hi : i ≤ 91) (h : ¬ (91 : Int32) ≤ nI i) : i < 91 := by
  rcases Nat.lt_or_ge i 91 with q | q
  · exact q
  · have e : i = 91 := by omega
    subst e
    exact absurd (by decide +kernel) h
theorem lt24 {i : Nat} (hi : i ≤ 24) (h : ¬ (24 : Int32) ≤ nI i) : i + 1 ≤ 24 := by
  rcases Nat.lt_or_ge i 24 with q | q
  · exact q
  · have e : i = 24 := by omega
    subst e
    exact absurd (by decide +kernel) h
theorem hc0 {i : Nat} (h : i < 91) : ¬ nI i < 0 := by
  intro q
  rw [Int32.lt_iff_toInt_lt, nI_toInt (by omega), Int32.toInt_zero] at q
  omega
theorem hc1 {i : Nat} (h : i < 91) : nI i < 91 := by
  have e : (91 : Int32) = nI 91 := by decide +kernel
  rw [e]
  exact nI_lt h (by omega)
def fBack (x : Int32) : Int32 := if x < 0 then -1 else if x ≤ 0 then 0 - x else -1
def fCount (x : Int32) : Int32 := if x < 0 then -1 else if x ≤ 12 then 0 else -1
theorem va_nilP {D : va_G} {cl : List vw_C} {H : Heap} : va_P D cl [] H := fun k q h => by simp at h
theorem va_nilD {A : Nat → Prop} : va_D A [] := ⟨fun i j p q h => by simp at h, fun k q h => by simp at h⟩
def Pz (dC : Nat → ClassId) (dI : Nat → Nat → Nat) (av : List Value) (sz : Nat) (ws : va_W) (tys : List (ClassId × FieldType)) : Array Value → State → Prop := va_Pc av (fun U => U.heap.size = sz ∧ va_P (dC, dI) vC ws U.heap ∧ va_K (dC, dI) vC tys U ∧ va_D (fun _ => True) ws)
theorem fbz {dC : Nat → ClassId} {dI : Nat → Nat → Nat} {av : List Value} {sz : Nat} {ws : va_W} {tys : List (ClassId × FieldType)} : FrameBlind (Pz dC dI av sz ws tys) := fun a U g mk q => by
  obtain ⟨q0, q1, qP, qK, qD⟩ := q
  exact ⟨q0, q1, qP, va_K.moved (u := U) (U := U.calling g mk a) (Vm.Alike.refl U.vm) qK, qD⟩
theorem prz {dC : Nat → ClassId} {dI : Nat → Nat → Nat} {av : List Value} {s : State} {H : Heap} {A : Nat → Prop} {ws : va_W} {tys : List (ClassId × FieldType)} (hPc : va_P (dC, dI) vC ws H) (hKc : va_K (dC, dI) vC tys s) (hDc : va_D A ws) : ∀ U : State, U.heap = H → s.WarmedH U.vm → Pz dC dI av H.size ws tys av.toArray U := fun U hU hW => ⟨rfl, by rw [hU], by rw [hU]; exact hPc, va_K.moved hW.alike hKc, hDc.weaken (fun _ _ _ _ => trivial)⟩
/-- what rides along on the road of read: private members of nest mates, the words' literal, the two statics that String reads -/
def Xt (kK kV : Nat) (A : Nat → Prop) (U : State) (H : Heap) : Prop :=
  (va_Nw (.fieldLinkNest RX6 15 "PaletteHouse$Text" "tokens" "LPaletteHouse$Table;" "PaletteHouse") U ∧ va_Nw (.fieldLinkNest RX2 15 "PaletteHouse$Text" "tokens" "LPaletteHouse$Table;" "PaletteHouse") U ∧ va_Nw (.methodLinkNest RX11 57 yX7_init "PaletteHouse") U ∧ va_Nw (.methodLinkNest RX7 34 yX1_init "PaletteHouse") U ∧ va_Nw (.methodLinkNest RX7 41 yX3_init "PaletteHouse") U) ∧ vk_R RX10 31 "copy neg not add sub mul div rem and or xor shl shr lt eq in get out put go if ret fun phi " kK U ∧ va_O "java/lang/String" kK A U H ∧ va_OF "java/lang/String" "coder" "B" (.int 0) kK A U H ∧ va_OF "java/lang/String" "value" "[B" (.ref kV) kK A U H ∧ va_T .byte kV 91 (fun j => .int (bt j)) A U H ∧ va_Z "java/lang/String" "COMPACT_STRINGS" "Z" (.int 1) A U H ∧ va_Zq "jdk/internal/util/Preconditions" "SIOOBE_FORMATTER" "Ljava/util/function/BiFunction;" A U H
section
variable {kK kV : Nat} {A B : Nat → Prop} {s U : State} {H : Heap}
theorem Xt.nX615 (h : Xt kK kV A U H) : va_Nw (.fieldLinkNest RX6 15 "PaletteHouse$Text" "tokens" "LPaletteHouse$Table;" "PaletteHouse") U := h.1.1
theorem Xt.nX215 (h : Xt kK kV A U H) : va_Nw (.fieldLinkNest RX2 15 "PaletteHouse$Text" "tokens" "LPaletteHouse$Table;" "PaletteHouse") U := h.1.2.1
theorem Xt.nX1157 (h : Xt kK kV A U H) : va_Nw (.methodLinkNest RX11 57 yX7_init "PaletteHouse") U := h.1.2.2.1
theorem Xt.nX734 (h : Xt kK kV A U H) : va_Nw (.methodLinkNest RX7 34 yX1_init "PaletteHouse") U := h.1.2.2.2.1
theorem Xt.nX741 (h : Xt kK kV A U H) : va_Nw (.methodLinkNest RX7 41 yX3_init "PaletteHouse") U := h.1.2.2.2.2
theorem Xt.rf (h : Xt kK kV A U H) : vk_R RX10 31 "copy neg not add sub mul div rem and or xor shl shr lt eq in get out put go if ret fun phi " kK U := h.2.1
theorem Xt.ob (h : Xt kK kV A U H) : va_O "java/lang/String" kK A U H := h.2.2.1
theorem Xt.co (h : Xt kK kV A U H) : va_OF "java/lang/String" "coder" "B" (.int 0) kK A U H := h.2.2.2.1
theorem Xt.vl (h : Xt kK kV A U H) : va_OF "java/lang/String" "value" "[B" (.ref kV) kK A U H := h.2.2.2.2.1
theorem Xt.tx (h : Xt kK kV A U H) : va_T .byte kV 91 (fun j => .int (bt j)) A U H := h.2.2.2.2.2.1
theorem Xt.cs (h : Xt kK kV A U H) : va_Z "java/lang/String" "COMPACT_STRINGS" "Z" (.int 1) A U H := h.2.2.2.2.2.2.1
theorem Xt.fm (h : Xt kK kV A U H) : va_Z "jdk/internal/util/Preconditions" "SIOOBE_FORMATTER" "Ljava/util/function/BiFunction;" .null A U H ∨ ∃ t : Nat, va_Z "jdk/internal/util/Preconditions" "SIOOBE_FORMATTER" "Ljava/util/function/BiFunction;" (.ref t) A U H := h.2.2.2.2.2.2.2
theorem Xt.rc {locs : List Loc} (h : Xt kK kV A s s.heap) (hS : va_S A s.heap H locs) : ∃ cell : Cell, H[kK]? = some cell ∧ cell.vm.isStatics = false ∧ s.vm.findClass RJ0 = some cell.cls := by
  obtain ⟨cell, h1, h2, h3, -⟩ := h.ob.kept hS.2.1
  exact ⟨cell, h1, h2, h3⟩
theorem Xt.calls (h : Xt kK kV A U U.heap) {g : JFrame} {mk : MethodId} {a : Array Value} : Xt kK kV A (U.calling g mk a) (U.calling g mk a).heap := by
  obtain ⟨⟨n1, n2, n3, n4, n5⟩, r, o, c1, v1, t1, z1, q1⟩ := h
  have hA : U.vm.Alike (U.calling g mk a).vm := Vm.Alike.refl U.vm
  exact ⟨⟨va_Nw.same rfl rfl n1, va_Nw.same rfl rfl n2, va_Nw.same rfl rfl n3, va_Nw.same rfl rfl n4, va_Nw.same rfl rfl n5⟩, vk_R.same rfl r, va_O.moved hA o, va_OF.moved hA c1, va_OF.moved hA v1, va_T.moved hA t1, va_Z.moved hA z1, va_Zq.moved hA q1⟩
theorem Xt.warm (h : Xt kK kV A s s.heap) (hW : s.WarmedH U.vm) (hAB : ∀ q, B q → A q) (hq : ∀ q : Nat, q < s.heap.size → ¬ A q → H[q]? = s.heap[q]?) : Xt kK kV B U H := by
  obtain ⟨⟨n1, n2, n3, n4, n5⟩, r, o, c1, v1, t1, z1, q1⟩ := h
  have hA := hW.alike
  exact ⟨⟨va_Nw.warmF hW n1, va_Nw.warmF hW n2, va_Nw.warmM hW n3, va_Nw.warmM hW n4, va_Nw.warmM hW n5⟩, vk_R.warm hW r, va_O.moved hA ((o.kept hq).narrow hAB), va_OF.moved hA ((c1.kept hq).narrow hAB), va_OF.moved hA ((v1.kept hq).narrow hAB), va_T.moved hA ((t1.kept hq).narrow hAB), va_Z.moved hA ((z1.kept hq).narrow hAB), va_Zq.moved hA ((q1.kept hq).narrow hAB)⟩
end
def Pe (dC : Nat → ClassId) (dI : Nat → Nat → Nat) (av : List Value) (sz : Nat) (ws : va_W) (tys : List (ClassId × FieldType)) (kK kV : Nat) : Array Value → State → Prop := va_Pc av (fun U => U.heap.size = sz ∧ va_P (dC, dI) vC ws U.heap ∧ va_K (dC, dI) vC tys U ∧ va_D (fun _ => True) ws ∧ Xt kK kV (va_A ws sz) U U.heap)
theorem fbe {dC : Nat → ClassId} {dI : Nat → Nat → Nat} {av : List Value} {sz : Nat} {ws : va_W} {tys : List (ClassId × FieldType)} {kK kV : Nat} : FrameBlind (Pe dC dI av sz ws tys kK kV) := fun a U g mk q => by
  obtain ⟨q0, q1, qP, qK, qD, qX⟩ := q
  exact ⟨q0, q1, qP, va_K.moved (u := U) (U := U.calling g mk a) (Vm.Alike.refl U.vm) qK, qD, qX.calls⟩
theorem pre {dC : Nat → ClassId} {dI : Nat → Nat → Nat} {av : List Value} {s : State} {H : Heap} {A : Nat → Prop} {ws : va_W} {tys : List (ClassId × FieldType)} {kK kV : Nat} {locs : List Loc} (hPc : va_P (dC, dI) vC ws H) (hKc : va_K (dC, dI) vC tys s) (hDc : va_D A ws) (hX : Xt kK kV A s s.heap) (hF : ∀ q, va_A ws H.size q → A q) (hS : va_S A s.heap H locs) : ∀ U : State, U.heap = H → s.WarmedH U.vm → Pe dC dI av H.size ws tys kK kV av.toArray U := fun U hU hW => ⟨rfl, by rw [hU], by rw [hU]; exact hPc, va_K.moved hW.alike hKc, hDc.weaken (fun _ _ _ _ => trivial), by rw [hU]; exact hX.warm hW hF hS.2.1⟩
end
section
set_option maxHeartbeats 4000000 in
set_option maxRecDepth 100000 in
theorem tJ0_coder_7d493 (l : Launch) (dC : Nat → ClassId) (dI : Nat → Nat → Nat) (sz : Nat) (kK kV : Nat) : Met l yJ0_coder_7d493 (.code yJ0_coder_7d493 cJ0_coder_7d493 1 (some .byte) :: wP) ({ frames := 0, cells := 0, slots := 0, locals := 0 }) (Pe dC dI [.ref kK] sz [] [] kK kV) (va_Qi (fun (r : Int32) (_ : Unit) => r = 0) (fun (_ : Unit) (_ : State) => True) (va_A [] sz)) 0 0 (va_A [] sz) := by
  refine Met.ofW (cc := cJ0_coder_7d493) (maxL := 1) (ret := (some .byte)) (by decide) rfl ?_
  intro p e s m args below meth c s₁ B hml hv
  obtain ⟨rfl, hsz, hP, hK, hD0, hX0⟩ := hv
  have hx := B.exec
  have hb := B.bytes
  have hr := B.returns
  have hts := atoms_spec (ws := .code yJ0_coder_7d493 cJ0_coder_7d493 1 (some .byte) :: wP) B.pre
  have hw : ∀ w ∈ wP, w.before _ s = true := fun w h => hts w (List.mem_cons_of_mem _ h)
  have hown : s.vm.findClass RJ0 = some m.cls := findClass_of_methodNamed B.named
  have hlocks := B.notSynchronized
  subst hsz
  have hD := hD0.self (sz := s.heap.size)
  generalize hAe : va_A [] s.heap.size = A at hD hX0 ⊢
  have hX := hX0
  have hA : ∀ q : Nat, s.heap.size ≤ q → A q := fun q h => by rw [← hAe]; exact Or.inr h
  have hS : va_S A s.heap s.heap [] := va_S.rf
  have hP : va_P (dC, dI) vC [] s.heap := hP
  have hl := lv_entry ([.ref kK]) (n := 1) (Nat.le_of_ble_eq_true rfl)
  rw [lg_entry_eq]
  generalize (lg_sl ([.ref kK]) ++ List.replicate (1 - (lg_sl ([.ref kK])).length) Slot.unset).toArray = ls at hl ⊢
  have hl : lv_has ls 1 [(0, .ref kK)] := hl
  refine va_gets hx hb hX.cs hS hown (hw _ mP_0) (fun _ h9 => h9) dJ0_coder_7d493_0 ?_
  refine lv_if_eq (tgt := 13) hx hb dJ0_coder_7d493_3 (by decide) (fun c => absurd c (by decide +kernel)) (fun _ => ?_)
  refine lv_aload_n hx hb dJ0_coder_7d493_6 rfl (lv_at hl 0 rfl) ?_
  refine vk_getf hx hb hX.co hS hown (hw _ mP_1) (fun _ h9 => h9) dJ0_coder_7d493_7 ?_
  refine lv_goto (tgt := 14) hx hb dJ0_coder_7d493_10 (by decide) ?_
  refine W.widen (k := 0) (n := 0) (Nat.le_of_ble_eq_true rfl) (Nat.le_of_ble_eq_true rfl) ?_
  exact W.zret (v := 0) hx hb hr rfl (fun t ht hW => ⟨⟨0, (), rfl, rfl, trivial⟩, hS.F ht⟩) hS.2.2 dJ0_coder_7d493_14
set_option maxHeartbeats 4000000 in
set_option maxRecDepth 100000 in
theorem tJ0_isLatin1_aae02 (l : Launch) (dC : Nat → ClassId) (dI : Nat → Nat → Nat) (sz : Nat) (kK kV : Nat) : Met l yJ0_isLatin1_aae02 (.code yJ0_isLatin1_aae02 cJ0_isLatin1_aae02 1 (some .boolean) :: wP) ({ frames := 0, cells := 0, slots := 0, locals := 0 }) (Pe dC dI [.ref kK] sz [] [] kK kV) (va_Qi (fun (r : Int32) (_ : Unit) => r = 1) (fun (_ : Unit) (_ : State) => True) (va_A [] sz)) 0 0 (va_A [] sz) := by
  refine Met.ofW (cc := cJ0_isLatin1_aae02) (maxL := 1) (ret := (some .boolean)) (by decide) rfl ?_
  intro p e s m args below meth c s₁ B hml hv
  obtain ⟨rfl, hsz, hP, hK, hD0, hX0⟩ := hv
  have hx := B.exec
  have hb := B.bytes
  have hr := B.returns
  have hts := atoms_spec (ws := .code yJ0_isLatin1_aae02 cJ0_isLatin1_aae02 1 (some .boolean) :: wP) B.pre
  have hw : ∀ w ∈ wP, w.before _ s = true := fun w h => hts w (List.mem_cons_of_mem _ h)
  have hown : s.vm.findClass RJ0 = some m.cls := findClass_of_methodNamed B.named
  have hlocks := B.notSynchronized
  subst hsz
  have hD := hD0.self (sz := s.heap.size)
  generalize hAe : va_A [] s.heap.size = A at hD hX0 ⊢
  have hX := hX0
  have hA : ∀ q : Nat, s.heap.size ≤ q → A q := fun q h => by rw [← hAe]; exact Or.inr h
  have hS : va_S A s.heap s.heap [] := va_S.rf
  have hP : va_P (dC, dI) vC [] s.heap := hP
  have hl := lv_entry ([.ref kK]) (n := 1) (Nat.le_of_ble_eq_true rfl)
  rw [lg_entry_eq]
  generalize (lg_sl ([.ref kK]) ++ List.replicate (1 - (lg_sl ([.ref kK])).length) Slot.unset).toArray = ls at hl ⊢
  have hl : lv_has ls 1 [(0, .ref kK)] := hl
  refine va_gets hx hb hX.cs hS hown (hw _ mP_0) (fun _ h9 => h9) dJ0_isLatin1_aae02_0 ?_
  refine lv_if_eq (tgt := 17) hx hb dJ0_isLatin1_aae02_3 (by decide) (fun c => absurd c (by decide +kernel)) (fun _ => ?_)
  refine lv_aload_n hx hb dJ0_isLatin1_aae02_6 rfl (lv_at hl 0 rfl) ?_
  refine vk_getf hx hb hX.co hS hown (hw _ mP_1) (fun _ h9 => h9) dJ0_isLatin1_aae02_7 ?_
  refine lv_if_ne (tgt := 17) hx hb dJ0_isLatin1_aae02_10 (by decide) (fun c => absurd (by decide +kernel) c) (fun _ => ?_)
  refine lv_iconst (v := 1) hx hb dJ0_isLatin1_aae02_13 (by decide) ?_
  refine lv_goto (tgt := 18) hx hb dJ0_isLatin1_aae02_14 (by decide) ?_
  refine W.widen (k := 0) (n := 0) (Nat.le_of_ble_eq_true rfl) (Nat.le_of_ble_eq_true rfl) ?_
  exact W.zret (v := 1) hx hb hr rfl (fun t ht hW => ⟨⟨1, (), rfl, rfl, trivial⟩, hS.F ht⟩) hS.2.2 dJ0_isLatin1_aae02_18
set_option maxHeartbeats 4000000 in
set_option maxRecDepth 100000 in
theorem tJ0_length_8abf5 (l : Launch) (dC : Nat → ClassId) (dI : Nat → Nat → Nat) (sz : Nat) (kK kV : Nat) : Met l yJ0_length_8abf5 (.code yJ0_length_8abf5 cJ0_length_8abf5 1 (some .int) :: wP) ({ frames := 1, cells := 0, slots := 0, locals := 20 }) (Pe dC dI [.ref kK] sz [] [] kK kV) (va_Qi (fun (r : Int32) (_ : Unit) => r = 91) (fun (_ : Unit) (_ : State) => True) (va_A [] sz)) 0 0 (va_A [] sz) := by
  refine Met.ofW (cc := cJ0_length_8abf5) (maxL := 1) (ret := (some .int)) (by decide) rfl ?_
  intro p e s m args below meth c s₁ B hml hv
  obtain ⟨rfl, hsz, hP, hK, hD0, hX0⟩ := hv
  have hx := B.exec
  have hb := B.bytes
  have hr := B.returns
  have hts := atoms_spec (ws := .code yJ0_length_8abf5 cJ0_length_8abf5 1 (some .int) :: wP) B.pre
  have hw : ∀ w ∈ wP, w.before _ s = true := fun w h => hts w (List.mem_cons_of_mem _ h)
  have hown : s.vm.findClass RJ0 = some m.cls := findClass_of_methodNamed B.named
  have hlocks := B.notSynchronized
  subst hsz
  have hD := hD0.self (sz := s.heap.size)
  generalize hAe : va_A [] s.heap.size = A at hD hX0 ⊢
  have hX := hX0
  have hA : ∀ q : Nat, s.heap.size ≤ q → A q := fun q h => by rw [← hAe]; exact Or.inr h
  have hS : va_S A s.heap s.heap [] := va_S.rf
  have hP : va_P (dC, dI) vC [] s.heap := hP
  have hl := lv_entry ([.ref kK]) (n := 1) (Nat.le_of_ble_eq_true rfl)
  rw [lg_entry_eq]
  generalize (lg_sl ([.ref kK]) ++ List.replicate (1 - (lg_sl ([.ref kK])).length) Slot.unset).toArray = ls at hl ⊢
  have hl : lv_has ls 1 [(0, .ref kK)] := hl
  refine lv_aload_n hx hb dJ0_length_8abf5_0 rfl (lv_at hl 0 rfl) ?_
  refine vk_getf hx hb hX.vl hS hown (hw _ mP_2) (fun _ h9 => h9) dJ0_length_8abf5_1 ?_
  refine va_tlen (v := 91) hx hb hX.tx hS (by decide +kernel) dJ0_length_8abf5_4 ?_
  refine lv_aload_n hx hb dJ0_length_8abf5_5 rfl (lv_at hl 0 rfl) ?_
  have hPc := hP.sub (ws' := []) [] rfl
  have hDc := hD.sub (ws' := []) [] (by decide) rfl
  have hKc := hK.sub (tys' := []) [] rfl
  have hFc := va_free (wc := []) hD hS hA [] rfl
  refine va_calli (va_runV (As := []) (rest := [.int 91]) ⟨hx, hb, hml, hown, hw⟩ (tJ0_coder_7d493 l dC dI s.heap.size kK kV) ⟨callB_of 0 hw (gd mP_4) rfl rfl rfl (hw _ mP_3) (hw _ mP_5) hdJ0_coder_7d493 ⟨Nat.le_of_ble_eq_true rfl, Nat.le_of_ble_eq_true rfl⟩, (hw _ mP_6), (hw _ mP_7)⟩ ⟨fbe, hX.rc hS, pre hPc hKc hDc hX hFc hS⟩ rfl rfl hl.1 rfl (lv_room (Nat.le_of_ble_eq_true rfl)) dJ0_length_8abf5_6 ⟨Nat.le_of_ble_eq_true rfl, Nat.le_of_ble_eq_true rfl⟩) hS (fun q _ h => hFc q h) hFc (fun r1 u1 t H1 locs ht hvm hpo hB hz1 hk1 hS => ?_)
  have hP1 : va_P (dC, dI) vC [] H1 := va_nilP
  have hD1 : va_D (va_A [] s.heap.size) [] := va_nilD
  obtain ⟨hP, hD⟩ := va_join (wr := []) (w1 := []) hP hD [] [] rfl rfl (by decide) (by decide) hk1 hFc hP1 hD1
  have hK := hK.sub (tys' := []) [] rfl
  generalize H1 = H at hP hS ⊢
  have hP : va_P (dC, dI) vC [] H := hP
  have hD : va_D A [] := hD
  have hK : va_K (dC, dI) vC [] s := hK
  have hpo : r1 = 0 := hpo
  subst hpo
  refine lv_ishr hx hb dJ0_length_8abf5_9 ?_
  refine lv_nmi (y := 91) (by decide +kernel) ?_
  refine W.widen (k := 0) (n := 0) (Nat.le_of_ble_eq_true rfl) (Nat.le_of_ble_eq_true rfl) ?_
  exact W.iret (v := 91) hx hb hr (fun t ht hW => ⟨⟨91, (), rfl, rfl, trivial⟩, hS.F ht⟩) hS.2.2 dJ0_length_8abf5_10
set_option maxHeartbeats 4000000 in
set_option maxRecDepth 100000 in
theorem tJ3_checkIndex_8e157_n (l : Launch) (dC : Nat → ClassId) (dI : Nat → Nat → Nat) (sz : Nat) (x0 : Int32) (hi0 : ¬ x0 < 0) (hi1 : x0 < 91) (kK kV : Nat) : Met l yJ3_checkIndex_8e157 (.code yJ3_checkIndex_8e157 cJ3_checkIndex_8e157 3 (some .int) :: wP) ({ frames := 0, cells := 0, slots := 0, locals := 0 }) (Pe dC dI [.int x0, .int 91, .null] sz [] [] kK kV) (va_Qi (fun (r : Int32) (_ : Unit) => True) (fun (_ : Unit) (_ : State) => True) (va_A [] sz)) 0 0 (va_A [] sz) := by
  refine Met.ofW (cc := cJ3_checkIndex_8e157) (maxL := 3) (ret := (some .int)) (by decide) rfl ?_
  intro p e s m args below meth c s₁ B hml hv
  obtain ⟨rfl, hsz, hP, hK, hD0, hX0⟩ := hv
  have hx := B.exec
  have hb := B.bytes
  have hr := B.returns
  have hts := atoms_spec (ws := .code yJ3_checkIndex_8e157 cJ3_checkIndex_8e157 3 (some .int) :: wP) B.pre
  have hw : ∀ w ∈ wP, w.before _ s = true := fun w h => hts w (List.mem_cons_of_mem _ h)
  have hown : s.vm.findClass RJ3 = some m.cls := findClass_of_methodNamed B.named
  have hlocks := B.notSynchronized
  subst hsz
  have hD := hD0.self (sz := s.heap.size)
  generalize hAe : va_A [] s.heap.size = A at hD hX0 ⊢
  have hX := hX0
  have hA : ∀ q : Nat, s.heap.size ≤ q → A q := fun q h => by rw [← hAe]; exact Or.inr h
  have hS : va_S A s.heap s.heap [] := va_S.rf
  have hP : va_P (dC, dI) vC [] s.heap := hP
  have hl := lv_entry ([.int x0, .int 91, .null]) (n := 3) (Nat.le_of_ble_eq_true rfl)
  rw [lg_entry_eq]
  generalize (lg_sl ([.int x0, .int 91, .null]) ++ List.replicate (3 - (lg_sl ([.int x0, .int 91, .null])).length) Slot.unset).toArray = ls at hl ⊢
  have hl : lv_has ls 3 [(0, .int x0), (1, .int 91), (2, .null)] := hl
  refine lv_iload_n hx hb dJ3_checkIndex_8e157_0 rfl (lv_at hl 0 rfl) ?_
  refine lv_if_lt (tgt := 9) hx hb dJ3_checkIndex_8e157_1 (by decide) (fun c => absurd c hi0) (fun _ => ?_)
  refine lv_iload_n hx hb dJ3_checkIndex_8e157_4 rfl (lv_at hl 0 rfl) ?_
  refine lv_iload_n hx hb dJ3_checkIndex_8e157_5 rfl (lv_at hl 1 rfl) ?_
  refine lv_icmp_lt (tgt := 16) hx hb dJ3_checkIndex_8e157_6 (by decide) (fun _ => ?_) (fun c => absurd hi1 c)
  refine lv_iload_n hx hb dJ3_checkIndex_8e157_16 rfl (lv_at hl 0 rfl) ?_
  refine W.widen (k := 0) (n := 0) (Nat.le_of_ble_eq_true rfl) (Nat.le_of_ble_eq_true rfl) ?_
  exact W.iret (v := x0) hx hb hr (fun t ht hW => ⟨⟨x0, (), rfl, trivial, trivial⟩, hS.F ht⟩) hS.2.2 dJ3_checkIndex_8e157_17
set_option maxHeartbeats 4000000 in
set_option maxRecDepth 100000 in
theorem tJ3_checkIndex_8e157_r (l : Launch) (dC : Nat → ClassId) (dI : Nat → Nat → Nat) (j0 : Nat) (sz : Nat) (x0 : Int32) (hi0 : ¬ x0 < 0) (hi1 : x0 < 91) (kK kV : Nat) : Met l yJ3_checkIndex_8e157 (.code yJ3_checkIndex_8e157 cJ3_checkIndex_8e157 3 (some .int) :: wP) ({ frames := 0, cells := 0, slots := 0, locals := 0 }) (Pe dC dI [.int x0, .int 91, .ref j0] sz [] [] kK kV) (va_Qi (fun (r : Int32) (_ : Unit) => True) (fun (_ : Unit) (_ : State) => True) (va_A [] sz)) 0 0 (va_A [] sz) := by
  refine Met.ofW (cc := cJ3_checkIndex_8e157) (maxL := 3) (ret := (some .int)) (by decide) rfl ?_
  intro p e s m args below meth c s₁ B hml hv
  obtain ⟨rfl, hsz, hP, hK, hD0, hX0⟩ := hv
  have hx := B.exec
  have hb := B.bytes
  have hr := B.returns
  have hts := atoms_spec (ws := .code yJ3_checkIndex_8e157 cJ3_checkIndex_8e157 3 (some .int) :: wP) B.pre
  have hw : ∀ w ∈ wP, w.before _ s = true := fun w h => hts w (List.mem_cons_of_mem _ h)
  have hown : s.vm.findClass RJ3 = some m.cls := findClass_of_methodNamed B.named
  have hlocks := B.notSynchronized
  subst hsz
  have hD := hD0.self (sz := s.heap.size)
  generalize hAe : va_A [] s.heap.size = A at hD hX0 ⊢
  have hX := hX0
  have hA : ∀ q : Nat, s.heap.size ≤ q → A q := fun q h => by rw [← hAe]; exact Or.inr h
  have hS : va_S A s.heap s.heap [] := va_S.rf
  have hP : va_P (dC, dI) vC [] s.heap := hP
  have hl := lv_entry ([.int x0, .int 91, .ref j0]) (n := 3) (Nat.le_of_ble_eq_true rfl)
  rw [lg_entry_eq]
  generalize (lg_sl ([.int x0, .int 91, .ref j0]) ++ List.replicate (3 - (lg_sl ([.int x0, .int 91, .ref j0])).length) Slot.unset).toArray = ls at hl ⊢
  have hl : lv_has ls 3 [(0, .int x0), (1, .int 91), (2, .ref j0)] := hl
  refine lv_iload_n hx hb dJ3_checkIndex_8e157_0 rfl (lv_at hl 0 rfl) ?_
  refine lv_if_lt (tgt := 9) hx hb dJ3_checkIndex_8e157_1 (by decide) (fun c => absurd c hi0) (fun _ => ?_)
  refine lv_iload_n hx hb dJ3_checkIndex_8e157_4 rfl (lv_at hl 0 rfl) ?_
  refine lv_iload_n hx hb dJ3_checkIndex_8e157_5 rfl (lv_at hl 1 rfl) ?_
  refine lv_icmp_lt (tgt := 16) hx hb dJ3_checkIndex_8e157_6 (by decide) (fun _ => ?_) (fun c => absurd hi1 c)
  refine lv_iload_n hx hb dJ3_checkIndex_8e157_16 rfl (lv_at hl 0 rfl) ?_
  refine W.widen (k := 0) (n := 0) (Nat.le_of_ble_eq_true rfl) (Nat.le_of_ble_eq_true rfl) ?_
  exact W.iret (v := x0) hx hb hr (fun t ht hW => ⟨⟨x0, (), rfl, trivial, trivial⟩, hS.F ht⟩) hS.2.2 dJ3_checkIndex_8e157_17
set_option maxHeartbeats 4000000 in
set_option maxRecDepth 100000 in
theorem tJ0_checkIndex_df160 (l : Launch) (dC : Nat → ClassId) (dI : Nat → Nat → Nat) (sz : Nat) (x0 : Int32) (hi0 : ¬ x0 < 0) (hi1 : x0 < 91) (kK kV : Nat) : Met l yJ0_checkIndex_df160 (.code yJ0_checkIndex_df160 cJ0_checkIndex_df160 2 none :: wP) ({ frames := 1, cells := 0, slots := 0, locals := 22 }) (Pe dC dI [.int x0, .int 91] sz [] [] kK kV) (va_Qv (fun (_ : Unit) => True) (fun (_ : Unit) (_ : State) => True) (va_A [] sz)) 0 0 (va_A [] sz) := by
  refine Met.ofW (cc := cJ0_checkIndex_df160) (maxL := 2) (ret := none) (by decide) rfl ?_
  intro p e s m args below meth c s₁ B hml hv
  obtain ⟨rfl, hsz, hP, hK, hD0, hX0⟩ := hv
  have hx := B.exec
  have hb := B.bytes
  have hr := B.returns
  have hts := atoms_spec (ws := .code yJ0_checkIndex_df160 cJ0_checkIndex_df160 2 none :: wP) B.pre
  have hw : ∀ w ∈ wP, w.before _ s = true := fun w h => hts w (List.mem_cons_of_mem _ h)
  have hown : s.vm.findClass RJ0 = some m.cls := findClass_of_methodNamed B.named
  have hlocks := B.notSynchronized
  subst hsz
  have hD := hD0.self (sz := s.heap.size)
  generalize hAe : va_A [] s.heap.size = A at hD hX0 ⊢
  have hX := hX0
  have hA : ∀ q : Nat, s.heap.size ≤ q → A q := fun q h => by rw [← hAe]; exact Or.inr h
  have hS : va_S A s.heap s.heap [] := va_S.rf
  have hP : va_P (dC, dI) vC [] s.heap := hP
  have hl := lv_entry ([.int x0, .int 91]) (n := 2) (Nat.le_of_ble_eq_true rfl)
  rw [lg_entry_eq]
  generalize (lg_sl ([.int x0, .int 91]) ++ List.replicate (2 - (lg_sl ([.int x0, .int 91])).length) Slot.unset).toArray = ls at hl ⊢
  have hl : lv_has ls 2 [(0, .int x0), (1, .int 91)] := hl
  refine lv_iload_n hx hb dJ0_checkIndex_df160_0 rfl (lv_at hl 0 rfl) ?_
  refine lv_iload_n hx hb dJ0_checkIndex_df160_1 rfl (lv_at hl 1 rfl) ?_
  rcases hX.fm with hZ | ⟨j0, hZ⟩
  · refine va_gets hx hb hZ hS hown (hw _ mP_8) (fun _ h9 => h9) dJ0_checkIndex_df160_2 ?_
    have hPc := hP.sub (ws' := []) [] rfl
    have hDc := hD.sub (ws' := []) [] (by decide) rfl
    have hKc := hK.sub (tys' := []) [] rfl
    have hFc := va_free (wc := []) hD hS hA [] rfl
    refine va_calli (va_runS (As := [.int x0, .int 91, .null]) (rest := []) ⟨hx, hb, hml, hown, hw⟩ (tJ3_checkIndex_8e157_n l dC dI s.heap.size x0 hi0 hi1 kK kV) ⟨callB_of 3 hw (gd mP_10) rfl rfl rfl (hw _ mP_9) (hw _ mP_11) hdJ3_checkIndex_8e157 ⟨Nat.le_of_ble_eq_true rfl, Nat.le_of_ble_eq_true rfl⟩, (hw _ mP_12)⟩ ⟨fbe, pre hPc hKc hDc hX hFc hS⟩ rfl rfl hl.1 rfl (lv_room (Nat.le_of_ble_eq_true rfl)) dJ0_checkIndex_df160_5 ⟨Nat.le_of_ble_eq_true rfl, Nat.le_of_ble_eq_true rfl⟩) hS (fun q _ h => hFc q h) hFc (fun r1 u1 t H1 locs ht hvm hpo hB hz1 hk1 hS => ?_)
    have hP1 : va_P (dC, dI) vC [] H1 := va_nilP
    have hD1 : va_D (va_A [] s.heap.size) [] := va_nilD
    obtain ⟨hP, hD⟩ := va_join (wr := []) (w1 := []) hP hD [] [] rfl rfl (by decide) (by decide) hk1 hFc hP1 hD1
    have hK := hK.sub (tys' := []) [] rfl
    generalize H1 = H at hP hS ⊢
    have hP : va_P (dC, dI) vC [] H := hP
    have hD : va_D A [] := hD
    have hK : va_K (dC, dI) vC [] s := hK
    have ho1 : True := hpo
    refine lv_pop hx hb dJ0_checkIndex_df160_8 rfl ?_
    refine W.widen (k := 0) (n := 0) (Nat.le_of_ble_eq_true rfl) (Nat.le_of_ble_eq_true rfl) ?_
    exact W.vret hx hb hr (fun t ht hW => ⟨⟨(), rfl, trivial, trivial⟩, hS.F ht⟩) hS.2.2 dJ0_checkIndex_df160_9
  · refine va_gets hx hb hZ hS hown (hw _ mP_8) (fun _ h9 => h9) dJ0_checkIndex_df160_2 ?_
    have hPc := hP.sub (ws' := []) [] rfl
    have hDc := hD.sub (ws' := []) [] (by decide) rfl
    have hKc := hK.sub (tys' := []) [] rfl
    have hFc := va_free (wc := []) hD hS hA [] rfl
    refine va_calli (va_runS (As := [.int x0, .int 91, .ref j0]) (rest := []) ⟨hx, hb, hml, hown, hw⟩ (tJ3_checkIndex_8e157_r l dC dI j0 s.heap.size x0 hi0 hi1 kK kV) ⟨callB_of 3 hw (gd mP_10) rfl rfl rfl (hw _ mP_9) (hw _ mP_11) hdJ3_checkIndex_8e157 ⟨Nat.le_of_ble_eq_true rfl, Nat.le_of_ble_eq_true rfl⟩, (hw _ mP_12)⟩ ⟨fbe, pre hPc hKc hDc hX hFc hS⟩ rfl rfl hl.1 rfl (lv_room (Nat.le_of_ble_eq_true rfl)) dJ0_checkIndex_df160_5 ⟨Nat.le_of_ble_eq_true rfl, Nat.le_of_ble_eq_true rfl⟩) hS (fun q _ h => hFc q h) hFc (fun r2 u2 t H1 locs ht hvm hpo hB hz1 hk1 hS => ?_)
    have hP1 : va_P (dC, dI) vC [] H1 := va_nilP
    have hD1 : va_D (va_A [] s.heap.size) [] := va_nilD
    obtain ⟨hP, hD⟩ := va_join (wr := []) (w1 := []) hP hD [] [] rfl rfl (by decide) (by decide) hk1 hFc hP1 hD1
    have hK := hK.sub (tys' := []) [] rfl
    generalize H1 = H at hP hS ⊢
    have hP : va_P (dC, dI) vC [] H := hP
    have hD : va_D A [] := hD
    have hK : va_K (dC, dI) vC [] s := hK
    have ho2 : True := hpo
    refine lv_pop hx hb dJ0_checkIndex_df160_8 rfl ?_
    refine W.widen (k := 0) (n := 0) (Nat.le_of_ble_eq_true rfl) (Nat.le_of_ble_eq_true rfl) ?_
    exact W.vret hx hb hr (fun t ht hW => ⟨⟨(), rfl, trivial, trivial⟩, hS.F ht⟩) hS.2.2 dJ0_checkIndex_df160_9
set_option maxHeartbeats 4000000 in
set_option maxRecDepth 100000 in
theorem tJ1_charAt_3b067 (l : Launch) (dC : Nat → ClassId) (dI : Nat → Nat → Nat) (sz : Nat) (x0 : Int32) (hi0 : ¬ x0 < 0) (hi1 : x0 < 91) (kK kV : Nat) : Met l yJ1_charAt_3b067 (.code yJ1_charAt_3b067 cJ1_charAt_3b067 2 (some .char) :: wP) ({ frames := 2, cells := 0, slots := 0, locals := 43 }) (Pe dC dI [.ref kV, .int x0] sz [] [] kK kV) (va_Qi (fun (r : Int32) (_ : Unit) => narrow .char (.int r) = .int r) (fun (_ : Unit) (_ : State) => True) (va_A [] sz)) 0 0 (va_A [] sz) := by
  refine Met.ofW (cc := cJ1_charAt_3b067) (maxL := 2) (ret := (some .char)) (by decide) rfl ?_
  intro p e s m args below meth c s₁ B hml hv
  obtain ⟨rfl, hsz, hP, hK, hD0, hX0⟩ := hv
  have hx := B.exec
  have hb := B.bytes
  have hr := B.returns
  have hts := atoms_spec (ws := .code yJ1_charAt_3b067 cJ1_charAt_3b067 2 (some .char) :: wP) B.pre
  have hw : ∀ w ∈ wP, w.before _ s = true := fun w h => hts w (List.mem_cons_of_mem _ h)
  have hown : s.vm.findClass RJ1 = some m.cls := findClass_of_methodNamed B.named
  have hlocks := B.notSynchronized
  subst hsz
  have hD := hD0.self (sz := s.heap.size)
  generalize hAe : va_A [] s.heap.size = A at hD hX0 ⊢
  have hX := hX0
  have hA : ∀ q : Nat, s.heap.size ≤ q → A q := fun q h => by rw [← hAe]; exact Or.inr h
  have hS : va_S A s.heap s.heap [] := va_S.rf
  have hP : va_P (dC, dI) vC [] s.heap := hP
  have hl := lv_entry ([.ref kV, .int x0]) (n := 2) (Nat.le_of_ble_eq_true rfl)
  rw [lg_entry_eq]
  generalize (lg_sl ([.ref kV, .int x0]) ++ List.replicate (2 - (lg_sl ([.ref kV, .int x0])).length) Slot.unset).toArray = ls at hl ⊢
  have hl : lv_has ls 2 [(0, .ref kV), (1, .int x0)] := hl
  refine lv_iload_n hx hb dJ1_charAt_3b067_0 rfl (lv_at hl 1 rfl) ?_
  refine lv_aload_n hx hb dJ1_charAt_3b067_1 rfl (lv_at hl 0 rfl) ?_
  refine va_tlen (v := 91) hx hb hX.tx hS (by decide +kernel) dJ1_charAt_3b067_2 ?_
  have hPc := hP.sub (ws' := []) [] rfl
  have hDc := hD.sub (ws' := []) [] (by decide) rfl
  have hKc := hK.sub (tys' := []) [] rfl
  have hFc := va_free (wc := []) hD hS hA [] rfl
  refine va_callv (va_runS (As := [.int x0, .int 91]) (rest := []) ⟨hx, hb, hml, hown, hw⟩ (tJ0_checkIndex_df160 l dC dI s.heap.size x0 hi0 hi1 kK kV) ⟨callB_of 2 hw (gd mP_13) rfl rfl rfl (hw _ mP_3) (hw _ mP_14) hdJ0_checkIndex_df160 ⟨Nat.le_of_ble_eq_true rfl, Nat.le_of_ble_eq_true rfl⟩, (hw _ mP_15)⟩ ⟨fbe, pre hPc hKc hDc hX hFc hS⟩ rfl rfl hl.1 rfl (lv_room (Nat.le_of_ble_eq_true rfl)) dJ1_charAt_3b067_3 ⟨Nat.le_of_ble_eq_true rfl, Nat.le_of_ble_eq_true rfl⟩) hS (fun q _ h => hFc q h) hFc (fun u1 t H1 locs ht hvm hpo hB hz1 hk1 hS => ?_)
  have hP1 : va_P (dC, dI) vC [] H1 := va_nilP
  have hD1 : va_D (va_A [] s.heap.size) [] := va_nilD
  obtain ⟨hP, hD⟩ := va_join (wr := []) (w1 := []) hP hD [] [] rfl rfl (by decide) (by decide) hk1 hFc hP1 hD1
  have hK := hK.sub (tys' := []) [] rfl
  generalize H1 = H at hP hS ⊢
  have hP : va_P (dC, dI) vC [] H := hP
  have hD : va_D A [] := hD
  have hK : va_K (dC, dI) vC [] s := hK
  refine lv_aload_n hx hb dJ1_charAt_3b067_6 rfl (lv_at hl 0 rfl) ?_
  refine lv_iload_n hx hb dJ1_charAt_3b067_7 rfl (lv_at hl 1 rfl) ?_
  refine va_tb (v := .int (bt (x0).toNatClampNeg)) hx hb hX.tx hS (vin91 hi0 hi1) rfl dJ1_charAt_3b067_8 ?_
  refine lv_sipush (v := 255) hx hb dJ1_charAt_3b067_9 (by decide) ?_
  refine lv_iand hx hb dJ1_charAt_3b067_12 ?_
  refine lv_topi (fun z2 ez2 => ?_)
  refine lv_i2c hx hb dJ1_charAt_3b067_13 rfl ?_
  refine W.widen (k := 0) (n := 0) (Nat.le_of_ble_eq_true rfl) (Nat.le_of_ble_eq_true rfl) ?_
  exact W.zret (v := ((z2).toUInt32 % 65536).toInt32) hx hb hr (ch_nar _) (fun t ht hW => ⟨⟨((z2).toUInt32 % 65536).toInt32, (), rfl, (ch_nar _), trivial⟩, hS.F ht⟩) hS.2.2 dJ1_charAt_3b067_14
set_option maxHeartbeats 4000000 in
set_option maxRecDepth 100000 in
theorem tJ0_charAt_5068e (l : Launch) (dC : Nat → ClassId) (dI : Nat → Nat → Nat) (sz : Nat) (x0 : Int32) (hi0 : ¬ x0 < 0) (hi1 : x0 < 91) (kK kV : Nat) : Met l yJ0_charAt_5068e (.code yJ0_charAt_5068e cJ0_charAt_5068e 2 (some .char) :: wP) ({ frames := 3, cells := 0, slots := 0, locals := 64 }) (Pe dC dI [.ref kK, .int x0] sz [] [] kK kV) (va_Qi (fun (r : Int32) (_ : Unit) => narrow .char (.int r) = .int r) (fun (_ : Unit) (_ : State) => True) (va_A [] sz)) 0 0 (va_A [] sz) := by
  refine Met.ofW (cc := cJ0_charAt_5068e) (maxL := 2) (ret := (some .char)) (by decide) rfl ?_
  intro p e s m args below meth c s₁ B hml hv
  obtain ⟨rfl, hsz, hP, hK, hD0, hX0⟩ := hv
  have hx := B.exec
  have hb := B.bytes
  have hr := B.returns
  have hts := atoms_spec (ws := .code yJ0_charAt_5068e cJ0_charAt_5068e 2 (some .char) :: wP) B.pre
  have hw : ∀ w ∈ wP, w.before _ s = true := fun w h => hts w (List.mem_cons_of_mem _ h)
  have hown : s.vm.findClass RJ0 = some m.cls := findClass_of_methodNamed B.named
  have hlocks := B.notSynchronized
  subst hsz
  have hD := hD0.self (sz := s.heap.size)
  generalize hAe : va_A [] s.heap.size = A at hD hX0 ⊢
  have hX := hX0
  have hA : ∀ q : Nat, s.heap.size ≤ q → A q := fun q h => by rw [← hAe]; exact Or.inr h
  have hS : va_S A s.heap s.heap [] := va_S.rf
  have hP : va_P (dC, dI) vC [] s.heap := hP
  have hl := lv_entry ([.ref kK, .int x0]) (n := 2) (Nat.le_of_ble_eq_true rfl)
  rw [lg_entry_eq]
  generalize (lg_sl ([.ref kK, .int x0]) ++ List.replicate (2 - (lg_sl ([.ref kK, .int x0])).length) Slot.unset).toArray = ls at hl ⊢
  have hl : lv_has ls 2 [(0, .ref kK), (1, .int x0)] := hl
  refine lv_aload_n hx hb dJ0_charAt_5068e_0 rfl (lv_at hl 0 rfl) ?_
  have hPc := hP.sub (ws' := []) [] rfl
  have hDc := hD.sub (ws' := []) [] (by decide) rfl
  have hKc := hK.sub (tys' := []) [] rfl
  have hFc := va_free (wc := []) hD hS hA [] rfl
  refine va_calli (va_runV (As := []) (rest := []) ⟨hx, hb, hml, hown, hw⟩ (tJ0_isLatin1_aae02 l dC dI s.heap.size kK kV) ⟨callB_of 0 hw (gd mP_16) rfl rfl rfl (hw _ mP_3) (hw _ mP_17) hdJ0_isLatin1_aae02 ⟨Nat.le_of_ble_eq_true rfl, Nat.le_of_ble_eq_true rfl⟩, (hw _ mP_18), (hw _ mP_19)⟩ ⟨fbe, hX.rc hS, pre hPc hKc hDc hX hFc hS⟩ rfl rfl hl.1 rfl (lv_room (Nat.le_of_ble_eq_true rfl)) dJ0_charAt_5068e_1 ⟨Nat.le_of_ble_eq_true rfl, Nat.le_of_ble_eq_true rfl⟩) hS (fun q _ h => hFc q h) hFc (fun r1 u1 t H1 locs ht hvm hpo hB hz1 hk1 hS => ?_)
  have hP1 : va_P (dC, dI) vC [] H1 := va_nilP
  have hD1 : va_D (va_A [] s.heap.size) [] := va_nilD
  obtain ⟨hP, hD⟩ := va_join (wr := []) (w1 := []) hP hD [] [] rfl rfl (by decide) (by decide) hk1 hFc hP1 hD1
  have hK := hK.sub (tys' := []) [] rfl
  generalize H1 = H at hP hS ⊢
  have hP : va_P (dC, dI) vC [] H := hP
  have hD : va_D A [] := hD
  have hK : va_K (dC, dI) vC [] s := hK
  have hpo : r1 = 1 := hpo
  subst hpo
  refine lv_if_eq (tgt := 16) hx hb dJ0_charAt_5068e_4 (by decide) (fun c => absurd c (by decide +kernel)) (fun _ => ?_)
  refine lv_aload_n hx hb dJ0_charAt_5068e_7 rfl (lv_at hl 0 rfl) ?_
  refine vk_getf hx hb hX.vl hS hown (hw _ mP_2) (fun _ h9 => h9) dJ0_charAt_5068e_8 ?_
  refine lv_iload_n hx hb dJ0_charAt_5068e_11 rfl (lv_at hl 1 rfl) ?_
  have hPc := hP.sub (ws' := []) [] rfl
  have hDc := hD.sub (ws' := []) [] (by decide) rfl
  have hKc := hK.sub (tys' := []) [] rfl
  have hFc := va_free (wc := []) hD hS hA [] rfl
  refine va_calli (va_runS (As := [.ref kV, .int x0]) (rest := []) ⟨hx, hb, hml, hown, hw⟩ (tJ1_charAt_3b067 l dC dI H.size x0 hi0 hi1 kK kV) ⟨callB_of 2 hw (gd mP_21) rfl rfl rfl (hw _ mP_20) (hw _ mP_22) hdJ1_charAt_3b067 ⟨Nat.le_of_ble_eq_true rfl, Nat.le_of_ble_eq_true rfl⟩, (hw _ mP_23)⟩ ⟨fbe, pre hPc hKc hDc hX hFc hS⟩ rfl rfl hl.1 rfl (lv_room (Nat.le_of_ble_eq_true rfl)) dJ0_charAt_5068e_12 ⟨Nat.le_of_ble_eq_true rfl, Nat.le_of_ble_eq_true rfl⟩) hS (fun q _ h => hFc q h) hFc (fun r2 u2 t H1 locs ht hvm hpo hB hz1 hk1 hS => ?_)
  have hP1 : va_P (dC, dI) vC [] H1 := va_nilP
  have hD1 : va_D (va_A [] H.size) [] := va_nilD
  obtain ⟨hP, hD⟩ := va_join (wr := []) (w1 := []) hP hD [] [] rfl rfl (by decide) (by decide) hk1 hFc hP1 hD1
  have hK := hK.sub (tys' := []) [] rfl
  generalize H1 = H at hP hS ⊢
  have hP : va_P (dC, dI) vC [] H := hP
  have hD : va_D A [] := hD
  have hK : va_K (dC, dI) vC [] s := hK
  have ho2 : narrow .char (.int r2) = .int r2 := hpo
  refine W.widen (k := 0) (n := 0) (Nat.le_of_ble_eq_true rfl) (Nat.le_of_ble_eq_true rfl) ?_
  exact W.zret (v := r2) hx hb hr ho2 (fun t ht hW => ⟨⟨r2, (), rfl, ho2, trivial⟩, hS.F ht⟩) hS.2.2 dJ0_charAt_5068e_15
end
