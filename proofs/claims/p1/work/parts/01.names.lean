/-- a private method of a class that the tables say can be made, by its rows of tables_1 -/
def lw_okq (q : MethodName × Nat) : Prop := (q.1.cls ≠ "java/lang/invoke/MethodHandle" ∧ q.1.cls ≠ "java/lang/invoke/VarHandle") ∧ Cond.instantiable q.1.cls q.2 ∈ tables_1 ∧ Cond.privateMethod q.1 ∈ tables_1 ∧ Cond.instanceMethod q.1 ∈ tables_1
theorem lw_p0 : lw_okq (⟨"PaletteHouse", "append", "(I)V"⟩, 15) := ⟨⟨by decide +kernel, by decide +kernel⟩, List.mem_of_getElem? (i := 24) (by decide +kernel), List.mem_of_getElem? (i := 84) (by decide +kernel), List.mem_of_getElem? (i := 85) (by decide +kernel)⟩
theorem lw_p99 : lw_okq (⟨"PaletteHouseModel", "put", "(I)V"⟩, 105) := ⟨⟨by decide +kernel, by decide +kernel⟩, List.mem_of_getElem? (i := 1376) (by decide +kernel), List.mem_of_getElem? (i := 1706) (by decide +kernel), List.mem_of_getElem? (i := 1707) (by decide +kernel)⟩
theorem lw_p1 : lw_okq (⟨"PaletteHouse$Text", "skipBlanks", "(I)I"⟩, 7) := ⟨⟨by decide +kernel, by decide +kernel⟩, List.mem_of_getElem? (i := 96) (by decide +kernel), List.mem_of_getElem? (i := 419) (by decide +kernel), List.mem_of_getElem? (i := 420) (by decide +kernel)⟩
theorem lw_p2 : lw_okq (⟨"PaletteHouse$Text", "byteAt", "(I)I"⟩, 7) := ⟨⟨by decide +kernel, by decide +kernel⟩, List.mem_of_getElem? (i := 96) (by decide +kernel), List.mem_of_getElem? (i := 423) (by decide +kernel), List.mem_of_getElem? (i := 424) (by decide +kernel)⟩
theorem lw_p6 : lw_okq (⟨"PaletteHouse$Text", "keep", "(IIIJ)V"⟩, 7) := ⟨⟨by decide +kernel, by decide +kernel⟩, List.mem_of_getElem? (i := 96) (by decide +kernel), List.mem_of_getElem? (i := 451) (by decide +kernel), List.mem_of_getElem? (i := 452) (by decide +kernel)⟩
theorem lw_p3 : lw_okq (⟨"PaletteHouse$Text", "scanToken", "(I)I"⟩, 7) := ⟨⟨by decide +kernel, by decide +kernel⟩, List.mem_of_getElem? (i := 96) (by decide +kernel), List.mem_of_getElem? (i := 430) (by decide +kernel), List.mem_of_getElem? (i := 431) (by decide +kernel)⟩
theorem lw_p11 : lw_okq (⟨"PaletteHouse$Parser", "refuse", "(I)Z"⟩, 6) := ⟨⟨by decide +kernel, by decide +kernel⟩, List.mem_of_getElem? (i := 199) (by decide +kernel), List.mem_of_getElem? (i := 506) (by decide +kernel), List.mem_of_getElem? (i := 507) (by decide +kernel)⟩
theorem lw_p10 : lw_okq (⟨"PaletteHouse$Parser", "wants", "(I)Z"⟩, 6) := ⟨⟨by decide +kernel, by decide +kernel⟩, List.mem_of_getElem? (i := 199) (by decide +kernel), List.mem_of_getElem? (i := 501) (by decide +kernel), List.mem_of_getElem? (i := 502) (by decide +kernel)⟩
theorem lw_p9 : lw_okq (⟨"PaletteHouse$Parser", "take", "(I)Z"⟩, 6) := ⟨⟨by decide +kernel, by decide +kernel⟩, List.mem_of_getElem? (i := 199) (by decide +kernel), List.mem_of_getElem? (i := 497) (by decide +kernel), List.mem_of_getElem? (i := 498) (by decide +kernel)⟩
theorem lw_p8 : lw_okq (⟨"PaletteHouse$Parser", "takeHead", "()Z"⟩, 6) := ⟨⟨by decide +kernel, by decide +kernel⟩, List.mem_of_getElem? (i := 199) (by decide +kernel), List.mem_of_getElem? (i := 493) (by decide +kernel), List.mem_of_getElem? (i := 494) (by decide +kernel)⟩
theorem lw_p101 : lw_okq (⟨"PaletteHouseModel", "at", "(I)I"⟩, 105) := ⟨⟨by decide +kernel, by decide +kernel⟩, List.mem_of_getElem? (i := 1376) (by decide +kernel), List.mem_of_getElem? (i := 1722) (by decide +kernel), List.mem_of_getElem? (i := 1723) (by decide +kernel)⟩
theorem lw_p102 : lw_okq (⟨"PaletteHouseModel", "token", "(III)V"⟩, 105) := ⟨⟨by decide +kernel, by decide +kernel⟩, List.mem_of_getElem? (i := 1376) (by decide +kernel), List.mem_of_getElem? (i := 1726) (by decide +kernel), List.mem_of_getElem? (i := 1727) (by decide +kernel)⟩
theorem lw_p100 : lw_okq (⟨"PaletteHouseModel", "cut", "()V"⟩, 105) := ⟨⟨by decide +kernel, by decide +kernel⟩, List.mem_of_getElem? (i := 1376) (by decide +kernel), List.mem_of_getElem? (i := 1718) (by decide +kernel), List.mem_of_getElem? (i := 1719) (by decide +kernel)⟩
theorem lw_p108 : lw_okq (⟨"PaletteHouseModel", "is", "(I)Z"⟩, 105) := ⟨⟨by decide +kernel, by decide +kernel⟩, List.mem_of_getElem? (i := 1376) (by decide +kernel), List.mem_of_getElem? (i := 1760) (by decide +kernel), List.mem_of_getElem? (i := 1761) (by decide +kernel)⟩
theorem lw_p110 : lw_okq (⟨"PaletteHouseModel", "fail", "(I)V"⟩, 105) := ⟨⟨by decide +kernel, by decide +kernel⟩, List.mem_of_getElem? (i := 1376) (by decide +kernel), List.mem_of_getElem? (i := 1768) (by decide +kernel), List.mem_of_getElem? (i := 1769) (by decide +kernel)⟩
theorem lw_p107 : lw_okq (⟨"PaletteHouseModel", "must", "(I)V"⟩, 105) := ⟨⟨by decide +kernel, by decide +kernel⟩, List.mem_of_getElem? (i := 1376) (by decide +kernel), List.mem_of_getElem? (i := 1756) (by decide +kernel), List.mem_of_getElem? (i := 1757) (by decide +kernel)⟩
theorem lw_p106 : lw_okq (⟨"PaletteHouseModel", "parse", "()V"⟩, 105) := ⟨⟨by decide +kernel, by decide +kernel⟩, List.mem_of_getElem? (i := 1376) (by decide +kernel), List.mem_of_getElem? (i := 1752) (by decide +kernel), List.mem_of_getElem? (i := 1753) (by decide +kernel)⟩
theorem lw_p136 : lw_okq (⟨"PaletteHouseModel", "insAt", "(II)I"⟩, 105) := ⟨⟨by decide +kernel, by decide +kernel⟩, List.mem_of_getElem? (i := 1376) (by decide +kernel), List.mem_of_getElem? (i := 1888) (by decide +kernel), List.mem_of_getElem? (i := 1889) (by decide +kernel)⟩
theorem lw_p137 : lw_okq (⟨"PaletteHouseModel", "pointAt", "(II)I"⟩, 105) := ⟨⟨by decide +kernel, by decide +kernel⟩, List.mem_of_getElem? (i := 1376) (by decide +kernel), List.mem_of_getElem? (i := 1896) (by decide +kernel), List.mem_of_getElem? (i := 1897) (by decide +kernel)⟩
theorem lw_p138 : lw_okq (⟨"PaletteHouseModel", "isValue", "(I)Z"⟩, 105) := ⟨⟨by decide +kernel, by decide +kernel⟩, List.mem_of_getElem? (i := 1376) (by decide +kernel), List.mem_of_getElem? (i := 1900) (by decide +kernel), List.mem_of_getElem? (i := 1901) (by decide +kernel)⟩
theorem lw_p97 : lw_okq (⟨"PaletteHouse", "countRows", "(I)I"⟩, 15) := ⟨⟨by decide +kernel, by decide +kernel⟩, List.mem_of_getElem? (i := 24) (by decide +kernel), List.mem_of_getElem? (i := 1351) (by decide +kernel), List.mem_of_getElem? (i := 1352) (by decide +kernel)⟩
def lw_privs : List (MethodName × Nat) := [(⟨"PaletteHouse", "append", "(I)V"⟩, 15), (⟨"PaletteHouseModel", "put", "(I)V"⟩, 105), (⟨"PaletteHouse$Text", "skipBlanks", "(I)I"⟩, 7), (⟨"PaletteHouse$Text", "byteAt", "(I)I"⟩, 7), (⟨"PaletteHouse$Text", "keep", "(IIIJ)V"⟩, 7), (⟨"PaletteHouse$Text", "scanToken", "(I)I"⟩, 7), (⟨"PaletteHouse$Parser", "refuse", "(I)Z"⟩, 6), (⟨"PaletteHouse$Parser", "wants", "(I)Z"⟩, 6), (⟨"PaletteHouse$Parser", "take", "(I)Z"⟩, 6), (⟨"PaletteHouse$Parser", "takeHead", "()Z"⟩, 6), (⟨"PaletteHouseModel", "at", "(I)I"⟩, 105), (⟨"PaletteHouseModel", "token", "(III)V"⟩, 105), (⟨"PaletteHouseModel", "cut", "()V"⟩, 105), (⟨"PaletteHouseModel", "is", "(I)Z"⟩, 105), (⟨"PaletteHouseModel", "fail", "(I)V"⟩, 105), (⟨"PaletteHouseModel", "must", "(I)V"⟩, 105), (⟨"PaletteHouseModel", "parse", "()V"⟩, 105), (⟨"PaletteHouseModel", "insAt", "(II)I"⟩, 105), (⟨"PaletteHouseModel", "pointAt", "(II)I"⟩, 105), (⟨"PaletteHouseModel", "isValue", "(I)Z"⟩, 105), (⟨"PaletteHouse", "countRows", "(I)I"⟩, 15)]
def lw_tbl : List Cond := k2_sels lw_privs ++ tables_1
theorem lw_privs_ok : ∀ q ∈ lw_privs, lw_okq q := List.forall_mem_cons.mpr ⟨lw_p0, List.forall_mem_cons.mpr ⟨lw_p99, List.forall_mem_cons.mpr ⟨lw_p1, List.forall_mem_cons.mpr ⟨lw_p2, List.forall_mem_cons.mpr ⟨lw_p6, List.forall_mem_cons.mpr ⟨lw_p3, List.forall_mem_cons.mpr ⟨lw_p11, List.forall_mem_cons.mpr ⟨lw_p10, List.forall_mem_cons.mpr ⟨lw_p9, List.forall_mem_cons.mpr ⟨lw_p8, List.forall_mem_cons.mpr ⟨lw_p101, List.forall_mem_cons.mpr ⟨lw_p102, List.forall_mem_cons.mpr ⟨lw_p100, List.forall_mem_cons.mpr ⟨lw_p108, List.forall_mem_cons.mpr ⟨lw_p110, List.forall_mem_cons.mpr ⟨lw_p107, List.forall_mem_cons.mpr ⟨lw_p106, List.forall_mem_cons.mpr ⟨lw_p136, List.forall_mem_cons.mpr ⟨lw_p137, List.forall_mem_cons.mpr ⟨lw_p138, List.forall_mem_cons.mpr ⟨lw_p97, fun _ h => absurd h List.not_mem_nil⟩⟩⟩⟩⟩⟩⟩⟩⟩⟩⟩⟩⟩⟩⟩⟩⟩⟩⟩⟩⟩
def RX1 : String := "PaletteHouse$Graph"
def TX1 : u_T := fun k => match k with
  | 0 => ("PaletteHouse$Graph", "preds", "[I", true)
  | 1 => ("PaletteHouse$Graph", "doms", "[I", true)
  | 2 => ("PaletteHouse$Graph", "idoms", "[I", true)
  | 3 => ("PaletteHouse$Graph", "order", "[I", true)
  | 4 => ("PaletteHouse$Graph", "ranks", "[I", true)
  | 5 => ("PaletteHouse$Graph", "stack", "[I", true)
  | 6 => ("PaletteHouse$Graph", "size", "I", false)
  | _ => ("PaletteHouse$Graph", "reached", "I", false)
def tyX1 : Nat → FieldType := fun k => match k with
  | 0 => .array .int
  | 1 => .array .int
  | 2 => .array .int
  | 3 => .array .int
  | 4 => .array .int
  | 5 => .array .int
  | 6 => .int
  | _ => .int
abbrev uX1 : List Cond := u_ws RX1 TX1 8
theorem nmX1 : ∀ a, a < 8 → ∀ b, b < 8 → a ≠ b → (TX1 a).2.1 ≠ (TX1 b).2.1 := by decide +kernel
theorem tyX1_ok : ∀ k, k < 8 → parseFieldDescriptor (TX1 k).2.2.1 = some (tyX1 k) := by decide +kernel
theorem dfX1 : ∀ j, j < 8 → defaultValue (tyX1 j) = vp_V [.null, .null, .null, .null, .null, .null, .int 0, .int 0] j := by decide +kernel
def RX2 : String := "PaletteHouse$Judge"
def TX2 : u_T := fun k => match k with
  | 0 => ("PaletteHouse$Judge", "text", "LPaletteHouse$Text;", true)
  | 1 => ("PaletteHouse$Judge", "tokens", "LPaletteHouse$Table;", true)
  | _ => ("PaletteHouse$Judge", "program", "LPaletteHouse$Program;", false)
def tyX2 : Nat → FieldType := fun k => match k with
  | 0 => .object "PaletteHouse$Text"
  | 1 => .object "PaletteHouse$Table"
  | _ => .object "PaletteHouse$Program"
abbrev uX2 : List Cond := u_ws RX2 TX2 3
theorem nmX2 : ∀ a, a < 3 → ∀ b, b < 3 → a ≠ b → (TX2 a).2.1 ≠ (TX2 b).2.1 := by decide +kernel
theorem tyX2_ok : ∀ k, k < 3 → parseFieldDescriptor (TX2 k).2.2.1 = some (tyX2 k) := by decide +kernel
theorem dfX2 : ∀ j, j < 3 → defaultValue (tyX2 j) = vp_V [.null, .null, .null] j := by decide +kernel
def RX3 : String := "PaletteHouse$Life"
def TX3 : u_T := fun k => match k with
  | 0 => ("PaletteHouse$Life", "begins", "[I", true)
  | 1 => ("PaletteHouse$Life", "ends", "[I", true)
  | 2 => ("PaletteHouse$Life", "sets", "[J", true)
  | 3 => ("PaletteHouse$Life", "pressures", "[I", true)
  | 4 => ("PaletteHouse$Life", "current", "[J", true)
  | 5 => ("PaletteHouse$Life", "met", "[J", true)
  | 6 => ("PaletteHouse$Life", "program", "LPaletteHouse$Program;", false)
  | 7 => ("PaletteHouse$Life", "points", "I", false)
  | 8 => ("PaletteHouse$Life", "values", "I", false)
  | 9 => ("PaletteHouse$Life", "maxLive", "I", false)
  | 10 => ("PaletteHouse$Life", "top", "I", false)
  | _ => ("PaletteHouse$Life", "pairs", "I", false)
def tyX3 : Nat → FieldType := fun k => match k with
  | 0 => .array .int
  | 1 => .array .int
  | 2 => .array .long
  | 3 => .array .int
  | 4 => .array .long
  | 5 => .array .long
  | 6 => .object "PaletteHouse$Program"
  | 7 => .int
  | 8 => .int
  | 9 => .int
  | 10 => .int
  | _ => .int
abbrev uX3 : List Cond := u_ws RX3 TX3 12
theorem nmX3 : ∀ a, a < 12 → ∀ b, b < 12 → a ≠ b → (TX3 a).2.1 ≠ (TX3 b).2.1 := by decide +kernel
theorem tyX3_ok : ∀ k, k < 12 → parseFieldDescriptor (TX3 k).2.2.1 = some (tyX3 k) := by decide +kernel
theorem dfX3 : ∀ j, j < 12 → defaultValue (tyX3 j) = vp_V [.null, .null, .null, .null, .null, .null, .null, .int 0, .int 0, .int 0, .int 0, .int 0] j := by decide +kernel
def RX6 : String := "PaletteHouse$Parser"
def TX6 : u_T := fun k => match k with
  | 0 => ("PaletteHouse$Parser", "text", "LPaletteHouse$Text;", true)
  | 1 => ("PaletteHouse$Parser", "tokens", "LPaletteHouse$Table;", true)
  | 2 => ("PaletteHouse$Parser", "program", "LPaletteHouse$Program;", false)
  | 3 => ("PaletteHouse$Parser", "at", "I", false)
  | 4 => ("PaletteHouse$Parser", "items", "I", false)
  | _ => ("PaletteHouse$Parser", "fault", "I", false)
def tyX6 : Nat → FieldType := fun k => match k with
  | 0 => .object "PaletteHouse$Text"
  | 1 => .object "PaletteHouse$Table"
  | 2 => .object "PaletteHouse$Program"
  | 3 => .int
  | 4 => .int
  | _ => .int
abbrev uX6 : List Cond := u_ws RX6 TX6 6
theorem nmX6 : ∀ a, a < 6 → ∀ b, b < 6 → a ≠ b → (TX6 a).2.1 ≠ (TX6 b).2.1 := by decide +kernel
theorem tyX6_ok : ∀ k, k < 6 → parseFieldDescriptor (TX6 k).2.2.1 = some (tyX6 k) := by decide +kernel
theorem dfX6 : ∀ j, j < 6 → defaultValue (tyX6 j) = vp_V [.null, .null, .null, .int 0, .int 0, .int 0] j := by decide +kernel
def RX7 : String := "PaletteHouse$Program"
def TX7 : u_T := fun k => match k with
  | 0 => ("PaletteHouse$Program", "blocks", "LPaletteHouse$Table;", true)
  | 1 => ("PaletteHouse$Program", "ins", "LPaletteHouse$Table;", true)
  | 2 => ("PaletteHouse$Program", "phis", "LPaletteHouse$Table;", true)
  | 3 => ("PaletteHouse$Program", "arms", "LPaletteHouse$Table;", true)
  | 4 => ("PaletteHouse$Program", "values", "LPaletteHouse$Table;", true)
  | 5 => ("PaletteHouse$Program", "graph", "LPaletteHouse$Graph;", true)
  | 6 => ("PaletteHouse$Program", "life", "LPaletteHouse$Life;", true)
  | 7 => ("PaletteHouse$Program", "parameters", "I", false)
  | 8 => ("PaletteHouse$Program", "texted", "I", false)
  | 9 => ("PaletteHouse$Program", "slots", "I", false)
  | _ => ("PaletteHouse$Program", "coloured", "Z", false)
def tyX7 : Nat → FieldType := fun k => match k with
  | 0 => .object "PaletteHouse$Table"
  | 1 => .object "PaletteHouse$Table"
  | 2 => .object "PaletteHouse$Table"
  | 3 => .object "PaletteHouse$Table"
  | 4 => .object "PaletteHouse$Table"
  | 5 => .object "PaletteHouse$Graph"
  | 6 => .object "PaletteHouse$Life"
  | 7 => .int
  | 8 => .int
  | 9 => .int
  | _ => .boolean
abbrev uX7 : List Cond := u_ws RX7 TX7 11
theorem nmX7 : ∀ a, a < 11 → ∀ b, b < 11 → a ≠ b → (TX7 a).2.1 ≠ (TX7 b).2.1 := by decide +kernel
theorem tyX7_ok : ∀ k, k < 11 → parseFieldDescriptor (TX7 k).2.2.1 = some (tyX7 k) := by decide +kernel
theorem dfX7 : ∀ j, j < 11 → defaultValue (tyX7 j) = vp_V [.null, .null, .null, .null, .null, .null, .null, .int 0, .int 0, .int 0, .int 0] j := by decide +kernel
def RX9 : String := "PaletteHouse$Table"
def TX9 : u_T := fun k => match k with
  | 0 => ("PaletteHouse$Table", "width", "I", true)
  | 1 => ("PaletteHouse$Table", "most", "I", true)
  | 2 => ("PaletteHouse$Table", "cells", "[I", true)
  | _ => ("PaletteHouse$Table", "size", "I", false)
def tyX9 : Nat → FieldType := fun k => match k with
  | 0 => .int
  | 1 => .int
  | 2 => .array .int
  | _ => .int
abbrev uX9 : List Cond := u_ws RX9 TX9 4
theorem nmX9 : ∀ a, a < 4 → ∀ b, b < 4 → a ≠ b → (TX9 a).2.1 ≠ (TX9 b).2.1 := by decide +kernel
theorem tyX9_ok : ∀ k, k < 4 → parseFieldDescriptor (TX9 k).2.2.1 = some (tyX9 k) := by decide +kernel
theorem dfX9 : ∀ j, j < 4 → defaultValue (tyX9 j) = vp_V [.int 0, .int 0, .null, .int 0] j := by decide +kernel
def RX10 : String := "PaletteHouse$Text"
def TX10 : u_T := fun k => match k with
  | 0 => ("PaletteHouse$Text", "tokens", "LPaletteHouse$Table;", true)
  | 1 => ("PaletteHouse$Text", "names", "[J", true)
  | 2 => ("PaletteHouse$Text", "words", "[J", true)
  | 3 => ("PaletteHouse$Text", "bytes", "[B", false)
  | 4 => ("PaletteHouse$Text", "length", "I", false)
  | 5 => ("PaletteHouse$Text", "worst", "I", false)
  | _ => ("PaletteHouse$Text", "worstPlace", "I", false)
def tyX10 : Nat → FieldType := fun k => match k with
  | 0 => .object "PaletteHouse$Table"
  | 1 => .array .long
  | 2 => .array .long
  | 3 => .array .byte
  | 4 => .int
  | 5 => .int
  | _ => .int
abbrev uX10 : List Cond := u_ws RX10 TX10 7
theorem nmX10 : ∀ a, a < 7 → ∀ b, b < 7 → a ≠ b → (TX10 a).2.1 ≠ (TX10 b).2.1 := by decide +kernel
theorem tyX10_ok : ∀ k, k < 7 → parseFieldDescriptor (TX10 k).2.2.1 = some (tyX10 k) := by decide +kernel
theorem dfX10 : ∀ j, j < 7 → defaultValue (tyX10 j) = vp_V [.null, .null, .null, .null, .int 0, .int 0, .int 0] j := by decide +kernel
def RX11 : String := "PaletteHouse"
def TX11 : u_T := fun k => match k with
  | 0 => ("PaletteHouse", "tape", "[B", true)
  | 1 => ("PaletteHouse", "length", "I", false)
  | 2 => ("PaletteHouse", "fed", "[I", true)
  | 3 => ("PaletteHouse", "fedCount", "I", false)
  | 4 => ("PaletteHouse", "faultPlace", "I", false)
  | 5 => ("PaletteHouse", "text", "LPaletteHouse$Text;", false)
  | 6 => ("PaletteHouse", "parser", "LPaletteHouse$Parser;", false)
  | 7 => ("PaletteHouse", "judge", "LPaletteHouse$Judge;", false)
  | 8 => ("PaletteHouse", "now", "LPaletteHouse$Program;", false)
  | 9 => ("PaletteHouse", "spare", "LPaletteHouse$Program;", false)
  | 10 => ("PaletteHouse", "painter", "LPaletteHouse$Painter;", false)
  | 11 => ("PaletteHouse", "spiller", "LPaletteHouse$Spiller;", false)
  | 12 => ("PaletteHouse", "rows", "LPaletteHouse$Code;", false)
  | 13 => ("PaletteHouse", "plain", "LPaletteHouse$Machine;", false)
  | _ => ("PaletteHouse", "coded", "LPaletteHouse$Machine;", false)
def tyX11 : Nat → FieldType := fun k => match k with
  | 0 => .array .byte
  | 1 => .int
  | 2 => .array .int
  | 3 => .int
  | 4 => .int
  | 5 => .object "PaletteHouse$Text"
  | 6 => .object "PaletteHouse$Parser"
  | 7 => .object "PaletteHouse$Judge"
  | 8 => .object "PaletteHouse$Program"
  | 9 => .object "PaletteHouse$Program"
  | 10 => .object "PaletteHouse$Painter"
  | 11 => .object "PaletteHouse$Spiller"
  | 12 => .object "PaletteHouse$Code"
  | 13 => .object "PaletteHouse$Machine"
  | _ => .object "PaletteHouse$Machine"
abbrev uX11 : List Cond := u_ws RX11 TX11 15
theorem nmX11 : ∀ a, a < 15 → ∀ b, b < 15 → a ≠ b → (TX11 a).2.1 ≠ (TX11 b).2.1 := by decide +kernel
theorem tyX11_ok : ∀ k, k < 15 → parseFieldDescriptor (TX11 k).2.2.1 = some (tyX11 k) := by decide +kernel
theorem dfX11 : ∀ j, j < 15 → defaultValue (tyX11 j) = vp_V [.null, .int 0, .null, .int 0, .int 0, .null, .null, .null, .null, .null, .null, .null, .null, .null, .null] j := by decide +kernel
def RX12 : String := "PaletteHouseModel"
def TX12 : u_T := fun k => match k with
  | 0 => ("PaletteHouseModel", "thrown", "I", false)
  | 1 => ("PaletteHouseModel", "keys", "[I", true)
  | 2 => ("PaletteHouseModel", "tape", "[B", true)
  | 3 => ("PaletteHouseModel", "taped", "I", false)
  | 4 => ("PaletteHouseModel", "text", "[B", true)
  | 5 => ("PaletteHouseModel", "size", "I", false)
  | 6 => ("PaletteHouseModel", "tKind", "[I", true)
  | 7 => ("PaletteHouseModel", "tPlace", "[I", true)
  | 8 => ("PaletteHouseModel", "tValue", "[I", true)
  | 9 => ("PaletteHouseModel", "letters", "[B", true)
  | 10 => ("PaletteHouseModel", "tokens", "I", false)
  | 11 => ("PaletteHouseModel", "t", "I", false)
  | 12 => ("PaletteHouseModel", "fault", "I", false)
  | 13 => ("PaletteHouseModel", "faultPlace", "I", false)
  | 14 => ("PaletteHouseModel", "place", "I", false)
  | 15 => ("PaletteHouseModel", "blocks", "[I", true)
  | 16 => ("PaletteHouseModel", "values", "[I", true)
  | 17 => ("PaletteHouseModel", "insMany", "[I", true)
  | 18 => ("PaletteHouseModel", "phis", "[I", true)
  | 19 => ("PaletteHouseModel", "arms", "[I", true)
  | 20 => ("PaletteHouseModel", "parameters", "[I", true)
  | 21 => ("PaletteHouseModel", "slots", "[I", true)
  | 22 => ("PaletteHouseModel", "bFirst", "[I", true)
  | 23 => ("PaletteHouseModel", "bEnd", "[I", true)
  | 24 => ("PaletteHouseModel", "bValue", "[I", true)
  | 25 => ("PaletteHouseModel", "bNumber", "[I", true)
  | 26 => ("PaletteHouseModel", "bTo", "[I", true)
  | 27 => ("PaletteHouseModel", "bElse", "[I", true)
  | 28 => ("PaletteHouseModel", "bPhi", "[I", true)
  | 29 => ("PaletteHouseModel", "bPhis", "[I", true)
  | 30 => ("PaletteHouseModel", "vBlock", "[I", true)
  | 31 => ("PaletteHouseModel", "vIns", "[I", true)
  | 32 => ("PaletteHouseModel", "vSlot", "[I", true)
  | 33 => ("PaletteHouseModel", "vLoaded", "[Z", true)
  | 34 => ("PaletteHouseModel", "fResult", "[I", true)
  | 35 => ("PaletteHouseModel", "fBlock", "[I", true)
  | 36 => ("PaletteHouseModel", "fArm", "[I", true)
  | 37 => ("PaletteHouseModel", "fArms", "[I", true)
  | 38 => ("PaletteHouseModel", "mBlock", "[I", true)
  | 39 => ("PaletteHouseModel", "mValue", "[I", true)
  | 40 => ("PaletteHouseModel", "mNumber", "[I", true)
  | 41 => ("PaletteHouseModel", "iOp", "[I", true)
  | 42 => ("PaletteHouseModel", "iResult", "[I", true)
  | 43 => ("PaletteHouseModel", "iValue", "[I", true)
  | 44 => ("PaletteHouseModel", "iNumber", "[I", true)
  | 45 => ("PaletteHouseModel", "iNext", "[I", true)
  | 46 => ("PaletteHouseModel", "hasFunction", "Z", false)
  | 47 => ("PaletteHouseModel", "valueToken", "[I", true)
  | 48 => ("PaletteHouseModel", "blockToken", "[I", true)
  | 49 => ("PaletteHouseModel", "phiToken", "[I", true)
  | 50 => ("PaletteHouseModel", "armToken", "[I", true)
  | 51 => ("PaletteHouseModel", "armValToken", "[I", true)
  | 52 => ("PaletteHouseModel", "insToken", "[I", true)
  | 53 => ("PaletteHouseModel", "endToken", "[I", true)
  | 54 => ("PaletteHouseModel", "toToken", "[I", true)
  | 55 => ("PaletteHouseModel", "elseToken", "[I", true)
  | 56 => ("PaletteHouseModel", "things", "I", false)
  | 57 => ("PaletteHouseModel", "worst", "I", false)
  | 58 => ("PaletteHouseModel", "worstPlace", "I", false)
  | 59 => ("PaletteHouseModel", "leads", "[Z", true)
  | 60 => ("PaletteHouseModel", "dominate", "[I", true)
  | 61 => ("PaletteHouseModel", "index", "[I", true)
  | 62 => ("PaletteHouseModel", "insBlock", "[I", true)
  | 63 => ("PaletteHouseModel", "many", "[I", true)
  | 64 => ("PaletteHouseModel", "idom", "[I", true)
  | 65 => ("PaletteHouseModel", "orderAt", "[I", true)
  | 66 => ("PaletteHouseModel", "order", "[I", true)
  | 67 => ("PaletteHouseModel", "ordered", "I", false)
  | 68 => ("PaletteHouseModel", "pointFrom", "[I", true)
  | 69 => ("PaletteHouseModel", "live", "[Z", true)
  | 70 => ("PaletteHouseModel", "pressure", "[I", true)
  | 71 => ("PaletteHouseModel", "uses", "[I", true)
  | 72 => ("PaletteHouseModel", "maxLive", "I", false)
  | 73 => ("PaletteHouseModel", "maxPoint", "I", false)
  | 74 => ("PaletteHouseModel", "waits", "[I", true)
  | 75 => ("PaletteHouseModel", "hasColours", "Z", false)
  | 76 => ("PaletteHouseModel", "colour", "[I", true)
  | 77 => ("PaletteHouseModel", "wanted", "[I", true)
  | 78 => ("PaletteHouseModel", "taken", "[Z", true)
  | 79 => ("PaletteHouseModel", "hasCode", "Z", false)
  | 80 => ("PaletteHouseModel", "rows", "I", false)
  | 81 => ("PaletteHouseModel", "rOp", "[I", true)
  | 82 => ("PaletteHouseModel", "rTo", "[I", true)
  | 83 => ("PaletteHouseModel", "rRegister", "[I", true)
  | 84 => ("PaletteHouseModel", "rNumber", "[I", true)
  | 85 => ("PaletteHouseModel", "rGo", "[I", true)
  | 86 => ("PaletteHouseModel", "rFree", "[Z", true)
  | 87 => ("PaletteHouseModel", "blockRow", "[I", true)
  | 88 => ("PaletteHouseModel", "endRow", "[I", true)
  | 89 => ("PaletteHouseModel", "mTo", "[I", true)
  | 90 => ("PaletteHouseModel", "mFrom", "[I", true)
  | 91 => ("PaletteHouseModel", "mLeft", "[Z", true)
  | 92 => ("PaletteHouseModel", "given", "[I", true)
  | 93 => ("PaletteHouseModel", "givenMany", "I", false)
  | 94 => ("PaletteHouseModel", "hasRun", "[Z", true)
  | 95 => ("PaletteHouseModel", "stopped", "[I", true)
  | 96 => ("PaletteHouseModel", "stepped", "[I", true)
  | 97 => ("PaletteHouseModel", "told", "[I", true)
  | 98 => ("PaletteHouseModel", "out", "[I", true)
  | 99 => ("PaletteHouseModel", "tookIn", "[I", true)
  | 100 => ("PaletteHouseModel", "outputs", "[I", true)
  | 101 => ("PaletteHouseModel", "memories", "[I", true)
  | 102 => ("PaletteHouseModel", "holds", "[I", true)
  | 103 => ("PaletteHouseModel", "inSlot", "[I", true)
  | _ => ("PaletteHouseModel", "aside", "[I", true)
def tyX12 : Nat → FieldType := fun k => match k with
  | 0 => .int
  | 1 => .array .int
  | 2 => .array .byte
  | 3 => .int
  | 4 => .array .byte
  | 5 => .int
  | 6 => .array .int
  | 7 => .array .int
  | 8 => .array .int
  | 9 => .array .byte
  | 10 => .int
  | 11 => .int
  | 12 => .int
  | 13 => .int
  | 14 => .int
  | 15 => .array .int
  | 16 => .array .int
  | 17 => .array .int
  | 18 => .array .int
  | 19 => .array .int
  | 20 => .array .int
  | 21 => .array .int
  | 22 => .array .int
  | 23 => .array .int
  | 24 => .array .int
  | 25 => .array .int
  | 26 => .array .int
  | 27 => .array .int
  | 28 => .array .int
  | 29 => .array .int
  | 30 => .array .int
  | 31 => .array .int
  | 32 => .array .int
  | 33 => .array .boolean
  | 34 => .array .int
  | 35 => .array .int
  | 36 => .array .int
  | 37 => .array .int
  | 38 => .array .int
  | 39 => .array .int
  | 40 => .array .int
  | 41 => .array .int
  | 42 => .array .int
  | 43 => .array .int
  | 44 => .array .int
  | 45 => .array .int
  | 46 => .boolean
  | 47 => .array .int
  | 48 => .array .int
  | 49 => .array .int
  | 50 => .array .int
  | 51 => .array .int
  | 52 => .array .int
  | 53 => .array .int
  | 54 => .array .int
  | 55 => .array .int
  | 56 => .int
  | 57 => .int
  | 58 => .int
  | 59 => .array .boolean
  | 60 => .array .int
  | 61 => .array .int
  | 62 => .array .int
  | 63 => .array .int
  | 64 => .array .int
  | 65 => .array .int
  | 66 => .array .int
  | 67 => .int
  | 68 => .array .int
  | 69 => .array .boolean
  | 70 => .array .int
  | 71 => .array .int
  | 72 => .int
  | 73 => .int
  | 74 => .array .int
  | 75 => .boolean
  | 76 => .array .int
  | 77 => .array .int
  | 78 => .array .boolean
  | 79 => .boolean
  | 80 => .int
  | 81 => .array .int
  | 82 => .array .int
  | 83 => .array .int
  | 84 => .array .int
  | 85 => .array .int
  | 86 => .array .boolean
  | 87 => .array .int
  | 88 => .array .int
  | 89 => .array .int
  | 90 => .array .int
  | 91 => .array .boolean
  | 92 => .array .int
  | 93 => .int
  | 94 => .array .boolean
  | 95 => .array .int
  | 96 => .array .int
  | 97 => .array .int
  | 98 => .array .int
  | 99 => .array .int
  | 100 => .array .int
  | 101 => .array .int
  | 102 => .array .int
  | 103 => .array .int
  | _ => .array .int
abbrev uX12 : List Cond := u_ws RX12 TX12 105
theorem nmX12 : ∀ a, a < 105 → ∀ b, b < 105 → a ≠ b → (TX12 a).2.1 ≠ (TX12 b).2.1 := by decide +kernel
theorem tyX12_ok : ∀ k, k < 105 → parseFieldDescriptor (TX12 k).2.2.1 = some (tyX12 k) := by decide +kernel
theorem dfX12 : ∀ j, j < 105 → defaultValue (tyX12 j) = vp_V [.int 0, .null, .null, .int 0, .null, .int 0, .null, .null, .null, .null, .int 0, .int 0, .int 0, .int 0, .int 0, .null, .null, .null, .null, .null, .null, .null, .null, .null, .null, .null, .null, .null, .null, .null, .null, .null, .null, .null, .null, .null, .null, .null, .null, .null, .null, .null, .null, .null, .null, .null, .int 0, .null, .null, .null, .null, .null, .null, .null, .null, .null, .int 0, .int 0, .int 0, .null, .null, .null, .null, .null, .null, .null, .null, .int 0, .null, .null, .null, .null, .int 0, .int 0, .null, .int 0, .null, .null, .null, .int 0, .int 0, .null, .null, .null, .null, .null, .null, .null, .null, .null, .null, .null, .null, .int 0, .null, .null, .null, .null, .null, .null, .null, .null, .null, .null, .null] j := by decide +kernel
def RJ9 : String := "java/lang/Math"
def RJ0 : String := "java/lang/String"
def RJ1 : String := "java/lang/StringLatin1"
def RJ7 : String := "java/util/Arrays"
def RJ3 : String := "jdk/internal/util/Preconditions"
def RL : String := "PaletteHouseLaw"
abbrev cJ0_coder_7d493 : ByteArray := prog_18_method_152_code
def yJ0_coder_7d493 : MethodName := ⟨RJ0, "coder", "()B"⟩
theorem hdJ0_coder_7d493 : yJ0_coder_7d493.cls ≠ "java/lang/invoke/MethodHandle" ∧ yJ0_coder_7d493.cls ≠ "java/lang/invoke/VarHandle" ∧ (parseMethodDescriptor yJ0_coder_7d493.desc).map (fun d => d.parameters.length) = some 0 := by decide +kernel
abbrev cJ0_isLatin1_aae02 : ByteArray := prog_18_method_154_code
def yJ0_isLatin1_aae02 : MethodName := ⟨RJ0, "isLatin1", "()Z"⟩
theorem hdJ0_isLatin1_aae02 : yJ0_isLatin1_aae02.cls ≠ "java/lang/invoke/MethodHandle" ∧ yJ0_isLatin1_aae02.cls ≠ "java/lang/invoke/VarHandle" ∧ (parseMethodDescriptor yJ0_isLatin1_aae02.desc).map (fun d => d.parameters.length) = some 0 := by decide +kernel
abbrev cJ0_length_8abf5 : ByteArray := prog_18_method_54_code
def yJ0_length_8abf5 : MethodName := ⟨RJ0, "length", "()I"⟩
theorem hdJ0_length_8abf5 : yJ0_length_8abf5.cls ≠ "java/lang/invoke/MethodHandle" ∧ yJ0_length_8abf5.cls ≠ "java/lang/invoke/VarHandle" ∧ (parseMethodDescriptor yJ0_length_8abf5.desc).map (fun d => d.parameters.length) = some 0 := by decide +kernel
abbrev cJ3_checkIndex_8e157 : ByteArray := prog_23_method_11_code
def yJ3_checkIndex_8e157 : MethodName := ⟨RJ3, "checkIndex", "(IILjava/util/function/BiFunction;)I"⟩
theorem hdJ3_checkIndex_8e157 : yJ3_checkIndex_8e157.cls ≠ "java/lang/invoke/MethodHandle" ∧ yJ3_checkIndex_8e157.cls ≠ "java/lang/invoke/VarHandle" ∧ (parseMethodDescriptor yJ3_checkIndex_8e157.desc).map (fun d => d.parameters.length) = some 3 := by decide +kernel
abbrev cJ0_checkIndex_df160 : ByteArray := prog_18_method_155_code
def yJ0_checkIndex_df160 : MethodName := ⟨RJ0, "checkIndex", "(II)V"⟩
theorem hdJ0_checkIndex_df160 : yJ0_checkIndex_df160.cls ≠ "java/lang/invoke/MethodHandle" ∧ yJ0_checkIndex_df160.cls ≠ "java/lang/invoke/VarHandle" ∧ (parseMethodDescriptor yJ0_checkIndex_df160.desc).map (fun d => d.parameters.length) = some 2 := by decide +kernel
abbrev cJ1_charAt_3b067 : ByteArray := prog_19_method_2_code
def yJ1_charAt_3b067 : MethodName := ⟨RJ1, "charAt", "([BI)C"⟩
theorem hdJ1_charAt_3b067 : yJ1_charAt_3b067.cls ≠ "java/lang/invoke/MethodHandle" ∧ yJ1_charAt_3b067.cls ≠ "java/lang/invoke/VarHandle" ∧ (parseMethodDescriptor yJ1_charAt_3b067.desc).map (fun d => d.parameters.length) = some 2 := by decide +kernel
abbrev cJ0_charAt_5068e : ByteArray := prog_18_method_56_code
def yJ0_charAt_5068e : MethodName := ⟨RJ0, "charAt", "(I)C"⟩
theorem hdJ0_charAt_5068e : yJ0_charAt_5068e.cls ≠ "java/lang/invoke/MethodHandle" ∧ yJ0_charAt_5068e.cls ≠ "java/lang/invoke/VarHandle" ∧ (parseMethodDescriptor yJ0_charAt_5068e.desc).map (fun d => d.parameters.length) = some 1 := by decide +kernel
abbrev cL_law : ByteArray := code
def yL_law : MethodName := ⟨RL, "law", "([I)Z"⟩
theorem hdL_law : yL_law.cls ≠ "java/lang/invoke/MethodHandle" ∧ yL_law.cls ≠ "java/lang/invoke/VarHandle" ∧ (parseMethodDescriptor yL_law.desc).map (fun d => d.parameters.length) = some 1 := by decide +kernel
abbrev cX11_init : ByteArray := prog_1_method_1_code
def yX11_init : MethodName := ⟨RX11, "<init>", "()V"⟩
theorem hdX11_init : yX11_init.cls ≠ "java/lang/invoke/MethodHandle" ∧ yX11_init.cls ≠ "java/lang/invoke/VarHandle" ∧ (parseMethodDescriptor yX11_init.desc).map (fun d => d.parameters.length) = some 0 := by decide +kernel
abbrev cX12_init : ByteArray := prog_14_method_2_code
def yX12_init : MethodName := ⟨RX12, "<init>", "()V"⟩
theorem hdX12_init : yX12_init.cls ≠ "java/lang/invoke/MethodHandle" ∧ yX12_init.cls ≠ "java/lang/invoke/VarHandle" ∧ (parseMethodDescriptor yX12_init.desc).map (fun d => d.parameters.length) = some 0 := by decide +kernel
abbrev cX12_word : ByteArray := prog_14_method_3_code
def yX12_word : MethodName := ⟨RX12, "word", "(IIII)I"⟩
theorem hdX12_word : yX12_word.cls ≠ "java/lang/invoke/MethodHandle" ∧ yX12_word.cls ≠ "java/lang/invoke/VarHandle" ∧ (parseMethodDescriptor yX12_word.desc).map (fun d => d.parameters.length) = some 4 := by decide +kernel
abbrev cX11_feed : ByteArray := prog_1_method_2_code
def yX11_feed : MethodName := ⟨RX11, "feed", "(IIIII)I"⟩
theorem hdX11_feed : yX11_feed.cls ≠ "java/lang/invoke/MethodHandle" ∧ yX11_feed.cls ≠ "java/lang/invoke/VarHandle" ∧ (parseMethodDescriptor yX11_feed.desc).map (fun d => d.parameters.length) = some 5 := by decide +kernel
abbrev cX11_append : ByteArray := prog_1_method_3_code
def yX11_append : MethodName := ⟨RX11, "append", "(I)V"⟩
theorem hdX11_append : yX11_append.cls ≠ "java/lang/invoke/MethodHandle" ∧ yX11_append.cls ≠ "java/lang/invoke/VarHandle" ∧ (parseMethodDescriptor yX11_append.desc).map (fun d => d.parameters.length) = some 1 := by decide +kernel
abbrev cX12_feed : ByteArray := prog_14_method_4_code
def yX12_feed : MethodName := ⟨RX12, "feed", "(IIIII)I"⟩
theorem hdX12_feed : yX12_feed.cls ≠ "java/lang/invoke/MethodHandle" ∧ yX12_feed.cls ≠ "java/lang/invoke/VarHandle" ∧ (parseMethodDescriptor yX12_feed.desc).map (fun d => d.parameters.length) = some 5 := by decide +kernel
abbrev cX12_put : ByteArray := prog_14_method_5_code
def yX12_put : MethodName := ⟨RX12, "put", "(I)V"⟩
theorem hdX12_put : yX12_put.cls ≠ "java/lang/invoke/MethodHandle" ∧ yX12_put.cls ≠ "java/lang/invoke/VarHandle" ∧ (parseMethodDescriptor yX12_put.desc).map (fun d => d.parameters.length) = some 1 := by decide +kernel
abbrev cX11_back : ByteArray := prog_1_method_4_code
def yX11_back : MethodName := ⟨RX11, "back", "(I)I"⟩
theorem hdX11_back : yX11_back.cls ≠ "java/lang/invoke/MethodHandle" ∧ yX11_back.cls ≠ "java/lang/invoke/VarHandle" ∧ (parseMethodDescriptor yX11_back.desc).map (fun d => d.parameters.length) = some 1 := by decide +kernel
abbrev cX12_back : ByteArray := prog_14_method_6_code
def yX12_back : MethodName := ⟨RX12, "back", "(I)I"⟩
theorem hdX12_back : yX12_back.cls ≠ "java/lang/invoke/MethodHandle" ∧ yX12_back.cls ≠ "java/lang/invoke/VarHandle" ∧ (parseMethodDescriptor yX12_back.desc).map (fun d => d.parameters.length) = some 1 := by decide +kernel
abbrev cX11_read : ByteArray := prog_1_method_5_code
def yX11_read : MethodName := ⟨RX11, "read", "()I"⟩
theorem hdX11_read : yX11_read.cls ≠ "java/lang/invoke/MethodHandle" ∧ yX11_read.cls ≠ "java/lang/invoke/VarHandle" ∧ (parseMethodDescriptor yX11_read.desc).map (fun d => d.parameters.length) = some 0 := by decide +kernel
abbrev cX10_init : ByteArray := prog_12_method_1_code
def yX10_init : MethodName := ⟨RX10, "<init>", "()V"⟩
theorem hdX10_init : yX10_init.cls ≠ "java/lang/invoke/MethodHandle" ∧ yX10_init.cls ≠ "java/lang/invoke/VarHandle" ∧ (parseMethodDescriptor yX10_init.desc).map (fun d => d.parameters.length) = some 0 := by decide +kernel
abbrev cX9_init : ByteArray := prog_11_method_1_code
def yX9_init : MethodName := ⟨RX9, "<init>", "(II)V"⟩
theorem hdX9_init : yX9_init.cls ≠ "java/lang/invoke/MethodHandle" ∧ yX9_init.cls ≠ "java/lang/invoke/VarHandle" ∧ (parseMethodDescriptor yX9_init.desc).map (fun d => d.parameters.length) = some 2 := by decide +kernel
abbrev cJ9_max_7cf53 : ByteArray := prog_17_method_65_code
def yJ9_max_7cf53 : MethodName := ⟨RJ9, "max", "(II)I"⟩
theorem hdJ9_max_7cf53 : yJ9_max_7cf53.cls ≠ "java/lang/invoke/MethodHandle" ∧ yJ9_max_7cf53.cls ≠ "java/lang/invoke/VarHandle" ∧ (parseMethodDescriptor yJ9_max_7cf53.desc).map (fun d => d.parameters.length) = some 2 := by decide +kernel
abbrev cX6_init : ByteArray := prog_8_method_1_code
def yX6_init : MethodName := ⟨RX6, "<init>", "(LPaletteHouse$Text;)V"⟩
theorem hdX6_init : yX6_init.cls ≠ "java/lang/invoke/MethodHandle" ∧ yX6_init.cls ≠ "java/lang/invoke/VarHandle" ∧ (parseMethodDescriptor yX6_init.desc).map (fun d => d.parameters.length) = some 1 := by decide +kernel
abbrev cX2_init : ByteArray := prog_4_method_1_code
def yX2_init : MethodName := ⟨RX2, "<init>", "(LPaletteHouse$Text;)V"⟩
theorem hdX2_init : yX2_init.cls ≠ "java/lang/invoke/MethodHandle" ∧ yX2_init.cls ≠ "java/lang/invoke/VarHandle" ∧ (parseMethodDescriptor yX2_init.desc).map (fun d => d.parameters.length) = some 1 := by decide +kernel
abbrev cX7_init : ByteArray := prog_9_method_1_code
def yX7_init : MethodName := ⟨RX7, "<init>", "()V"⟩
theorem hdX7_init : yX7_init.cls ≠ "java/lang/invoke/MethodHandle" ∧ yX7_init.cls ≠ "java/lang/invoke/VarHandle" ∧ (parseMethodDescriptor yX7_init.desc).map (fun d => d.parameters.length) = some 0 := by decide +kernel
abbrev cX1_init : ByteArray := prog_3_method_1_code
def yX1_init : MethodName := ⟨RX1, "<init>", "()V"⟩
theorem hdX1_init : yX1_init.cls ≠ "java/lang/invoke/MethodHandle" ∧ yX1_init.cls ≠ "java/lang/invoke/VarHandle" ∧ (parseMethodDescriptor yX1_init.desc).map (fun d => d.parameters.length) = some 0 := by decide +kernel
abbrev cX3_init : ByteArray := prog_5_method_1_code
def yX3_init : MethodName := ⟨RX3, "<init>", "()V"⟩
theorem hdX3_init : yX3_init.cls ≠ "java/lang/invoke/MethodHandle" ∧ yX3_init.cls ≠ "java/lang/invoke/VarHandle" ∧ (parseMethodDescriptor yX3_init.desc).map (fun d => d.parameters.length) = some 0 := by decide +kernel
abbrev cX10_scan : ByteArray := prog_12_method_6_code
def yX10_scan : MethodName := ⟨RX10, "scan", "([BI)V"⟩
theorem hdX10_scan : yX10_scan.cls ≠ "java/lang/invoke/MethodHandle" ∧ yX10_scan.cls ≠ "java/lang/invoke/VarHandle" ∧ (parseMethodDescriptor yX10_scan.desc).map (fun d => d.parameters.length) = some 2 := by decide +kernel
abbrev cX9_cut : ByteArray := prog_11_method_7_code
def yX9_cut : MethodName := ⟨RX9, "cut", "()V"⟩
theorem hdX9_cut : yX9_cut.cls ≠ "java/lang/invoke/MethodHandle" ∧ yX9_cut.cls ≠ "java/lang/invoke/VarHandle" ∧ (parseMethodDescriptor yX9_cut.desc).map (fun d => d.parameters.length) = some 0 := by decide +kernel
abbrev cX10_skipBlanks : ByteArray := prog_12_method_8_code
def yX10_skipBlanks : MethodName := ⟨RX10, "skipBlanks", "(I)I"⟩
theorem hdX10_skipBlanks : yX10_skipBlanks.cls ≠ "java/lang/invoke/MethodHandle" ∧ yX10_skipBlanks.cls ≠ "java/lang/invoke/VarHandle" ∧ (parseMethodDescriptor yX10_skipBlanks.desc).map (fun d => d.parameters.length) = some 1 := by decide +kernel
abbrev cX10_scanToken : ByteArray := prog_12_method_9_code
def yX10_scanToken : MethodName := ⟨RX10, "scanToken", "(I)I"⟩
theorem hdX10_scanToken : yX10_scanToken.cls ≠ "java/lang/invoke/MethodHandle" ∧ yX10_scanToken.cls ≠ "java/lang/invoke/VarHandle" ∧ (parseMethodDescriptor yX10_scanToken.desc).map (fun d => d.parameters.length) = some 1 := by decide +kernel
abbrev cX10_byteAt : ByteArray := prog_12_method_7_code
def yX10_byteAt : MethodName := ⟨RX10, "byteAt", "(I)I"⟩
theorem hdX10_byteAt : yX10_byteAt.cls ≠ "java/lang/invoke/MethodHandle" ∧ yX10_byteAt.cls ≠ "java/lang/invoke/VarHandle" ∧ (parseMethodDescriptor yX10_byteAt.desc).map (fun d => d.parameters.length) = some 1 := by decide +kernel
abbrev cX10_isLetter : ByteArray := prog_12_method_15_code
def yX10_isLetter : MethodName := ⟨RX10, "isLetter", "(I)Z"⟩
theorem hdX10_isLetter : yX10_isLetter.cls ≠ "java/lang/invoke/MethodHandle" ∧ yX10_isLetter.cls ≠ "java/lang/invoke/VarHandle" ∧ (parseMethodDescriptor yX10_isLetter.desc).map (fun d => d.parameters.length) = some 1 := by decide +kernel
abbrev cX10_isDigit : ByteArray := prog_12_method_16_code
def yX10_isDigit : MethodName := ⟨RX10, "isDigit", "(I)Z"⟩
theorem hdX10_isDigit : yX10_isDigit.cls ≠ "java/lang/invoke/MethodHandle" ∧ yX10_isDigit.cls ≠ "java/lang/invoke/VarHandle" ∧ (parseMethodDescriptor yX10_isDigit.desc).map (fun d => d.parameters.length) = some 1 := by decide +kernel
abbrev cX10_keep : ByteArray := prog_12_method_10_code
def yX10_keep : MethodName := ⟨RX10, "keep", "(IIIJ)V"⟩
theorem hdX10_keep : yX10_keep.cls ≠ "java/lang/invoke/MethodHandle" ∧ yX10_keep.cls ≠ "java/lang/invoke/VarHandle" ∧ (parseMethodDescriptor yX10_keep.desc).map (fun d => d.parameters.length) = some 4 := by decide +kernel
abbrev cX9_add : ByteArray := prog_11_method_8_code
def yX9_add : MethodName := ⟨RX9, "add", "()I"⟩
theorem hdX9_add : yX9_add.cls ≠ "java/lang/invoke/MethodHandle" ∧ yX9_add.cls ≠ "java/lang/invoke/VarHandle" ∧ (parseMethodDescriptor yX9_add.desc).map (fun d => d.parameters.length) = some 0 := by decide +kernel
abbrev cJ7_fill_fda19 : ByteArray := prog_22_method_104_code
def yJ7_fill_fda19 : MethodName := ⟨RJ7, "fill", "([IIII)V"⟩
theorem hdJ7_fill_fda19 : yJ7_fill_fda19.cls ≠ "java/lang/invoke/MethodHandle" ∧ yJ7_fill_fda19.cls ≠ "java/lang/invoke/VarHandle" ∧ (parseMethodDescriptor yJ7_fill_fda19.desc).map (fun d => d.parameters.length) = some 4 := by decide +kernel
abbrev cJ7_rangeCheck_23922 : ByteArray := prog_22_method_30_code
def yJ7_rangeCheck_23922 : MethodName := ⟨RJ7, "rangeCheck", "(III)V"⟩
theorem hdJ7_rangeCheck_23922 : yJ7_rangeCheck_23922.cls ≠ "java/lang/invoke/MethodHandle" ∧ yJ7_rangeCheck_23922.cls ≠ "java/lang/invoke/VarHandle" ∧ (parseMethodDescriptor yJ7_rangeCheck_23922.desc).map (fun d => d.parameters.length) = some 3 := by decide +kernel
abbrev cX9_set : ByteArray := prog_11_method_5_code
def yX9_set : MethodName := ⟨RX9, "set", "(III)V"⟩
theorem hdX9_set : yX9_set.cls ≠ "java/lang/invoke/MethodHandle" ∧ yX9_set.cls ≠ "java/lang/invoke/VarHandle" ∧ (parseMethodDescriptor yX9_set.desc).map (fun d => d.parameters.length) = some 3 := by decide +kernel
abbrev cX9_at : ByteArray := prog_11_method_4_code
def yX9_at : MethodName := ⟨RX9, "at", "(II)I"⟩
theorem hdX9_at : yX9_at.cls ≠ "java/lang/invoke/MethodHandle" ∧ yX9_at.cls ≠ "java/lang/invoke/VarHandle" ∧ (parseMethodDescriptor yX9_at.desc).map (fun d => d.parameters.length) = some 2 := by decide +kernel
abbrev cX6_accepts : ByteArray := prog_8_method_2_code
def yX6_accepts : MethodName := ⟨RX6, "accepts", "(LPaletteHouse$Program;)Z"⟩
theorem hdX6_accepts : yX6_accepts.cls ≠ "java/lang/invoke/MethodHandle" ∧ yX6_accepts.cls ≠ "java/lang/invoke/VarHandle" ∧ (parseMethodDescriptor yX6_accepts.desc).map (fun d => d.parameters.length) = some 1 := by decide +kernel
abbrev cX7_reset : ByteArray := prog_9_method_2_code
def yX7_reset : MethodName := ⟨RX7, "reset", "()V"⟩
theorem hdX7_reset : yX7_reset.cls ≠ "java/lang/invoke/MethodHandle" ∧ yX7_reset.cls ≠ "java/lang/invoke/VarHandle" ∧ (parseMethodDescriptor yX7_reset.desc).map (fun d => d.parameters.length) = some 0 := by decide +kernel
abbrev cX6_takeHead : ByteArray := prog_8_method_6_code
def yX6_takeHead : MethodName := ⟨RX6, "takeHead", "()Z"⟩
theorem hdX6_takeHead : yX6_takeHead.cls ≠ "java/lang/invoke/MethodHandle" ∧ yX6_takeHead.cls ≠ "java/lang/invoke/VarHandle" ∧ (parseMethodDescriptor yX6_takeHead.desc).map (fun d => d.parameters.length) = some 0 := by decide +kernel
abbrev cX6_take : ByteArray := prog_8_method_5_code
def yX6_take : MethodName := ⟨RX6, "take", "(I)Z"⟩
theorem hdX6_take : yX6_take.cls ≠ "java/lang/invoke/MethodHandle" ∧ yX6_take.cls ≠ "java/lang/invoke/VarHandle" ∧ (parseMethodDescriptor yX6_take.desc).map (fun d => d.parameters.length) = some 1 := by decide +kernel
abbrev cX6_wants : ByteArray := prog_8_method_4_code
def yX6_wants : MethodName := ⟨RX6, "wants", "(I)Z"⟩
theorem hdX6_wants : yX6_wants.cls ≠ "java/lang/invoke/MethodHandle" ∧ yX6_wants.cls ≠ "java/lang/invoke/VarHandle" ∧ (parseMethodDescriptor yX6_wants.desc).map (fun d => d.parameters.length) = some 1 := by decide +kernel
abbrev cX6_refuse : ByteArray := prog_8_method_3_code
def yX6_refuse : MethodName := ⟨RX6, "refuse", "(I)Z"⟩
theorem hdX6_refuse : yX6_refuse.cls ≠ "java/lang/invoke/MethodHandle" ∧ yX6_refuse.cls ≠ "java/lang/invoke/VarHandle" ∧ (parseMethodDescriptor yX6_refuse.desc).map (fun d => d.parameters.length) = some 1 := by decide +kernel
abbrev cX10_blame : ByteArray := prog_12_method_4_code
def yX10_blame : MethodName := ⟨RX10, "blame", "(II)V"⟩
theorem hdX10_blame : yX10_blame.cls ≠ "java/lang/invoke/MethodHandle" ∧ yX10_blame.cls ≠ "java/lang/invoke/VarHandle" ∧ (parseMethodDescriptor yX10_blame.desc).map (fun d => d.parameters.length) = some 2 := by decide +kernel
abbrev cX9_size : ByteArray := prog_11_method_2_code
def yX9_size : MethodName := ⟨RX9, "size", "()I"⟩
theorem hdX9_size : yX9_size.cls ≠ "java/lang/invoke/MethodHandle" ∧ yX9_size.cls ≠ "java/lang/invoke/VarHandle" ∧ (parseMethodDescriptor yX9_size.desc).map (fun d => d.parameters.length) = some 0 := by decide +kernel
abbrev cX10_worstPlace : ByteArray := prog_12_method_3_code
def yX10_worstPlace : MethodName := ⟨RX10, "worstPlace", "()I"⟩
theorem hdX10_worstPlace : yX10_worstPlace.cls ≠ "java/lang/invoke/MethodHandle" ∧ yX10_worstPlace.cls ≠ "java/lang/invoke/VarHandle" ∧ (parseMethodDescriptor yX10_worstPlace.desc).map (fun d => d.parameters.length) = some 0 := by decide +kernel
abbrev cX10_worst : ByteArray := prog_12_method_2_code
def yX10_worst : MethodName := ⟨RX10, "worst", "()I"⟩
theorem hdX10_worst : yX10_worst.cls ≠ "java/lang/invoke/MethodHandle" ∧ yX10_worst.cls ≠ "java/lang/invoke/VarHandle" ∧ (parseMethodDescriptor yX10_worst.desc).map (fun d => d.parameters.length) = some 0 := by decide +kernel
abbrev cX12_read : ByteArray := prog_14_method_20_code
def yX12_read : MethodName := ⟨RX12, "read", "()I"⟩
theorem hdX12_read : yX12_read.cls ≠ "java/lang/invoke/MethodHandle" ∧ yX12_read.cls ≠ "java/lang/invoke/VarHandle" ∧ (parseMethodDescriptor yX12_read.desc).map (fun d => d.parameters.length) = some 0 := by decide +kernel
abbrev cX12_cut : ByteArray := prog_14_method_11_code
def yX12_cut : MethodName := ⟨RX12, "cut", "()V"⟩
theorem hdX12_cut : yX12_cut.cls ≠ "java/lang/invoke/MethodHandle" ∧ yX12_cut.cls ≠ "java/lang/invoke/VarHandle" ∧ (parseMethodDescriptor yX12_cut.desc).map (fun d => d.parameters.length) = some 0 := by decide +kernel
abbrev cX12_at : ByteArray := prog_14_method_7_code
def yX12_at : MethodName := ⟨RX12, "at", "(I)I"⟩
theorem hdX12_at : yX12_at.cls ≠ "java/lang/invoke/MethodHandle" ∧ yX12_at.cls ≠ "java/lang/invoke/VarHandle" ∧ (parseMethodDescriptor yX12_at.desc).map (fun d => d.parameters.length) = some 1 := by decide +kernel
abbrev cX12_token : ByteArray := prog_14_method_10_code
def yX12_token : MethodName := ⟨RX12, "token", "(III)V"⟩
theorem hdX12_token : yX12_token.cls ≠ "java/lang/invoke/MethodHandle" ∧ yX12_token.cls ≠ "java/lang/invoke/VarHandle" ∧ (parseMethodDescriptor yX12_token.desc).map (fun d => d.parameters.length) = some 3 := by decide +kernel
abbrev cX12_parse : ByteArray := prog_14_method_22_code
def yX12_parse : MethodName := ⟨RX12, "parse", "()V"⟩
theorem hdX12_parse : yX12_parse.cls ≠ "java/lang/invoke/MethodHandle" ∧ yX12_parse.cls ≠ "java/lang/invoke/VarHandle" ∧ (parseMethodDescriptor yX12_parse.desc).map (fun d => d.parameters.length) = some 0 := by decide +kernel
abbrev cX12_must : ByteArray := prog_14_method_19_code
def yX12_must : MethodName := ⟨RX12, "must", "(I)V"⟩
theorem hdX12_must : yX12_must.cls ≠ "java/lang/invoke/MethodHandle" ∧ yX12_must.cls ≠ "java/lang/invoke/VarHandle" ∧ (parseMethodDescriptor yX12_must.desc).map (fun d => d.parameters.length) = some 1 := by decide +kernel
abbrev cX12_is : ByteArray := prog_14_method_16_code
def yX12_is : MethodName := ⟨RX12, "is", "(I)Z"⟩
theorem hdX12_is : yX12_is.cls ≠ "java/lang/invoke/MethodHandle" ∧ yX12_is.cls ≠ "java/lang/invoke/VarHandle" ∧ (parseMethodDescriptor yX12_is.desc).map (fun d => d.parameters.length) = some 1 := by decide +kernel
abbrev cX12_fail : ByteArray := prog_14_method_17_code
def yX12_fail : MethodName := ⟨RX12, "fail", "(I)V"⟩
theorem hdX12_fail : yX12_fail.cls ≠ "java/lang/invoke/MethodHandle" ∧ yX12_fail.cls ≠ "java/lang/invoke/VarHandle" ∧ (parseMethodDescriptor yX12_fail.desc).map (fun d => d.parameters.length) = some 1 := by decide +kernel
abbrev cX11_place : ByteArray := prog_1_method_9_code
def yX11_place : MethodName := ⟨RX11, "place", "()I"⟩
theorem hdX11_place : yX11_place.cls ≠ "java/lang/invoke/MethodHandle" ∧ yX11_place.cls ≠ "java/lang/invoke/VarHandle" ∧ (parseMethodDescriptor yX11_place.desc).map (fun d => d.parameters.length) = some 0 := by decide +kernel
abbrev cX12_place : ByteArray := prog_14_method_21_code
def yX12_place : MethodName := ⟨RX12, "place", "()I"⟩
theorem hdX12_place : yX12_place.cls ≠ "java/lang/invoke/MethodHandle" ∧ yX12_place.cls ≠ "java/lang/invoke/VarHandle" ∧ (parseMethodDescriptor yX12_place.desc).map (fun d => d.parameters.length) = some 0 := by decide +kernel
abbrev cX11_block : ByteArray := prog_1_method_10_code
def yX11_block : MethodName := ⟨RX11, "block", "(II)I"⟩
theorem hdX11_block : yX11_block.cls ≠ "java/lang/invoke/MethodHandle" ∧ yX11_block.cls ≠ "java/lang/invoke/VarHandle" ∧ (parseMethodDescriptor yX11_block.desc).map (fun d => d.parameters.length) = some 2 := by decide +kernel
abbrev cX12_block_ : ByteArray := prog_14_method_47_code
def yX12_block_ : MethodName := ⟨RX12, "block", "(II)I"⟩
theorem hdX12_block_ : yX12_block_.cls ≠ "java/lang/invoke/MethodHandle" ∧ yX12_block_.cls ≠ "java/lang/invoke/VarHandle" ∧ (parseMethodDescriptor yX12_block_.desc).map (fun d => d.parameters.length) = some 2 := by decide +kernel
abbrev cX11_value : ByteArray := prog_1_method_11_code
def yX11_value : MethodName := ⟨RX11, "value", "(II)I"⟩
theorem hdX11_value : yX11_value.cls ≠ "java/lang/invoke/MethodHandle" ∧ yX11_value.cls ≠ "java/lang/invoke/VarHandle" ∧ (parseMethodDescriptor yX11_value.desc).map (fun d => d.parameters.length) = some 2 := by decide +kernel
abbrev cX12_value : ByteArray := prog_14_method_48_code
def yX12_value : MethodName := ⟨RX12, "value", "(II)I"⟩
theorem hdX12_value : yX12_value.cls ≠ "java/lang/invoke/MethodHandle" ∧ yX12_value.cls ≠ "java/lang/invoke/VarHandle" ∧ (parseMethodDescriptor yX12_value.desc).map (fun d => d.parameters.length) = some 2 := by decide +kernel
abbrev cX11_ins : ByteArray := prog_1_method_12_code
def yX11_ins : MethodName := ⟨RX11, "ins", "(III)I"⟩
theorem hdX11_ins : yX11_ins.cls ≠ "java/lang/invoke/MethodHandle" ∧ yX11_ins.cls ≠ "java/lang/invoke/VarHandle" ∧ (parseMethodDescriptor yX11_ins.desc).map (fun d => d.parameters.length) = some 3 := by decide +kernel
abbrev cX12_ins : ByteArray := prog_14_method_50_code
def yX12_ins : MethodName := ⟨RX12, "ins", "(III)I"⟩
theorem hdX12_ins : yX12_ins.cls ≠ "java/lang/invoke/MethodHandle" ∧ yX12_ins.cls ≠ "java/lang/invoke/VarHandle" ∧ (parseMethodDescriptor yX12_ins.desc).map (fun d => d.parameters.length) = some 3 := by decide +kernel
abbrev cX12_insAt : ByteArray := prog_14_method_49_code
def yX12_insAt : MethodName := ⟨RX12, "insAt", "(II)I"⟩
theorem hdX12_insAt : yX12_insAt.cls ≠ "java/lang/invoke/MethodHandle" ∧ yX12_insAt.cls ≠ "java/lang/invoke/VarHandle" ∧ (parseMethodDescriptor yX12_insAt.desc).map (fun d => d.parameters.length) = some 2 := by decide +kernel
abbrev cX11_live : ByteArray := prog_1_method_13_code
def yX11_live : MethodName := ⟨RX11, "live", "(III)Z"⟩
theorem hdX11_live : yX11_live.cls ≠ "java/lang/invoke/MethodHandle" ∧ yX11_live.cls ≠ "java/lang/invoke/VarHandle" ∧ (parseMethodDescriptor yX11_live.desc).map (fun d => d.parameters.length) = some 3 := by decide +kernel
abbrev cX12_live : ByteArray := prog_14_method_53_code
def yX12_live : MethodName := ⟨RX12, "live", "(III)Z"⟩
theorem hdX12_live : yX12_live.cls ≠ "java/lang/invoke/MethodHandle" ∧ yX12_live.cls ≠ "java/lang/invoke/VarHandle" ∧ (parseMethodDescriptor yX12_live.desc).map (fun d => d.parameters.length) = some 3 := by decide +kernel
abbrev cX12_pointAt : ByteArray := prog_14_method_51_code
def yX12_pointAt : MethodName := ⟨RX12, "pointAt", "(II)I"⟩
theorem hdX12_pointAt : yX12_pointAt.cls ≠ "java/lang/invoke/MethodHandle" ∧ yX12_pointAt.cls ≠ "java/lang/invoke/VarHandle" ∧ (parseMethodDescriptor yX12_pointAt.desc).map (fun d => d.parameters.length) = some 2 := by decide +kernel
abbrev cX11_pressure : ByteArray := prog_1_method_14_code
def yX11_pressure : MethodName := ⟨RX11, "pressure", "(II)I"⟩
theorem hdX11_pressure : yX11_pressure.cls ≠ "java/lang/invoke/MethodHandle" ∧ yX11_pressure.cls ≠ "java/lang/invoke/VarHandle" ∧ (parseMethodDescriptor yX11_pressure.desc).map (fun d => d.parameters.length) = some 2 := by decide +kernel
abbrev cX12_pressure : ByteArray := prog_14_method_54_code
def yX12_pressure : MethodName := ⟨RX12, "pressure", "(II)I"⟩
theorem hdX12_pressure : yX12_pressure.cls ≠ "java/lang/invoke/MethodHandle" ∧ yX12_pressure.cls ≠ "java/lang/invoke/VarHandle" ∧ (parseMethodDescriptor yX12_pressure.desc).map (fun d => d.parameters.length) = some 2 := by decide +kernel
abbrev cX11_clique : ByteArray := prog_1_method_15_code
def yX11_clique : MethodName := ⟨RX11, "clique", "(I)I"⟩
theorem hdX11_clique : yX11_clique.cls ≠ "java/lang/invoke/MethodHandle" ∧ yX11_clique.cls ≠ "java/lang/invoke/VarHandle" ∧ (parseMethodDescriptor yX11_clique.desc).map (fun d => d.parameters.length) = some 1 := by decide +kernel
abbrev cX12_clique : ByteArray := prog_14_method_55_code
def yX12_clique : MethodName := ⟨RX12, "clique", "(I)I"⟩
theorem hdX12_clique : yX12_clique.cls ≠ "java/lang/invoke/MethodHandle" ∧ yX12_clique.cls ≠ "java/lang/invoke/VarHandle" ∧ (parseMethodDescriptor yX12_clique.desc).map (fun d => d.parameters.length) = some 1 := by decide +kernel
abbrev cX11_meet : ByteArray := prog_1_method_16_code
def yX11_meet : MethodName := ⟨RX11, "meet", "(II)Z"⟩
theorem hdX11_meet : yX11_meet.cls ≠ "java/lang/invoke/MethodHandle" ∧ yX11_meet.cls ≠ "java/lang/invoke/VarHandle" ∧ (parseMethodDescriptor yX11_meet.desc).map (fun d => d.parameters.length) = some 2 := by decide +kernel
abbrev cX12_meet : ByteArray := prog_14_method_56_code
def yX12_meet : MethodName := ⟨RX12, "meet", "(II)Z"⟩
theorem hdX12_meet : yX12_meet.cls ≠ "java/lang/invoke/MethodHandle" ∧ yX12_meet.cls ≠ "java/lang/invoke/VarHandle" ∧ (parseMethodDescriptor yX12_meet.desc).map (fun d => d.parameters.length) = some 2 := by decide +kernel
abbrev cX12_isValue : ByteArray := prog_14_method_52_code
def yX12_isValue : MethodName := ⟨RX12, "isValue", "(I)Z"⟩
theorem hdX12_isValue : yX12_isValue.cls ≠ "java/lang/invoke/MethodHandle" ∧ yX12_isValue.cls ≠ "java/lang/invoke/VarHandle" ∧ (parseMethodDescriptor yX12_isValue.desc).map (fun d => d.parameters.length) = some 1 := by decide +kernel
abbrev cX11_fit : ByteArray := prog_1_method_17_code
def yX11_fit : MethodName := ⟨RX11, "fit", "(I)I"⟩
theorem hdX11_fit : yX11_fit.cls ≠ "java/lang/invoke/MethodHandle" ∧ yX11_fit.cls ≠ "java/lang/invoke/VarHandle" ∧ (parseMethodDescriptor yX11_fit.desc).map (fun d => d.parameters.length) = some 1 := by decide +kernel
abbrev cX12_fit : ByteArray := prog_14_method_58_code
def yX12_fit : MethodName := ⟨RX12, "fit", "(I)I"⟩
theorem hdX12_fit : yX12_fit.cls ≠ "java/lang/invoke/MethodHandle" ∧ yX12_fit.cls ≠ "java/lang/invoke/VarHandle" ∧ (parseMethodDescriptor yX12_fit.desc).map (fun d => d.parameters.length) = some 1 := by decide +kernel
abbrev cX11_colour : ByteArray := prog_1_method_18_code
def yX11_colour : MethodName := ⟨RX11, "colour", "(I)I"⟩
theorem hdX11_colour : yX11_colour.cls ≠ "java/lang/invoke/MethodHandle" ∧ yX11_colour.cls ≠ "java/lang/invoke/VarHandle" ∧ (parseMethodDescriptor yX11_colour.desc).map (fun d => d.parameters.length) = some 1 := by decide +kernel
abbrev cX12_colour : ByteArray := prog_14_method_64_code
def yX12_colour : MethodName := ⟨RX12, "colour", "(I)I"⟩
theorem hdX12_colour : yX12_colour.cls ≠ "java/lang/invoke/MethodHandle" ∧ yX12_colour.cls ≠ "java/lang/invoke/VarHandle" ∧ (parseMethodDescriptor yX12_colour.desc).map (fun d => d.parameters.length) = some 1 := by decide +kernel
abbrev cX11_lower : ByteArray := prog_1_method_19_code
def yX11_lower : MethodName := ⟨RX11, "lower", "()I"⟩
theorem hdX11_lower : yX11_lower.cls ≠ "java/lang/invoke/MethodHandle" ∧ yX11_lower.cls ≠ "java/lang/invoke/VarHandle" ∧ (parseMethodDescriptor yX11_lower.desc).map (fun d => d.parameters.length) = some 0 := by decide +kernel
abbrev cX12_lower : ByteArray := prog_14_method_73_code
def yX12_lower : MethodName := ⟨RX12, "lower", "()I"⟩
theorem hdX12_lower : yX12_lower.cls ≠ "java/lang/invoke/MethodHandle" ∧ yX12_lower.cls ≠ "java/lang/invoke/VarHandle" ∧ (parseMethodDescriptor yX12_lower.desc).map (fun d => d.parameters.length) = some 0 := by decide +kernel
abbrev cX11_code : ByteArray := prog_1_method_20_code
def yX11_code : MethodName := ⟨RX11, "code", "(II)I"⟩
theorem hdX11_code : yX11_code.cls ≠ "java/lang/invoke/MethodHandle" ∧ yX11_code.cls ≠ "java/lang/invoke/VarHandle" ∧ (parseMethodDescriptor yX11_code.desc).map (fun d => d.parameters.length) = some 2 := by decide +kernel
abbrev cX12_code : ByteArray := prog_14_method_75_code
def yX12_code : MethodName := ⟨RX12, "code", "(II)I"⟩
theorem hdX12_code : yX12_code.cls ≠ "java/lang/invoke/MethodHandle" ∧ yX12_code.cls ≠ "java/lang/invoke/VarHandle" ∧ (parseMethodDescriptor yX12_code.desc).map (fun d => d.parameters.length) = some 2 := by decide +kernel
abbrev cX11_input : ByteArray := prog_1_method_21_code
def yX11_input : MethodName := ⟨RX11, "input", "(I)I"⟩
theorem hdX11_input : yX11_input.cls ≠ "java/lang/invoke/MethodHandle" ∧ yX11_input.cls ≠ "java/lang/invoke/VarHandle" ∧ (parseMethodDescriptor yX11_input.desc).map (fun d => d.parameters.length) = some 1 := by decide +kernel
abbrev cX12_input : ByteArray := prog_14_method_76_code
def yX12_input : MethodName := ⟨RX12, "input", "(I)I"⟩
theorem hdX12_input : yX12_input.cls ≠ "java/lang/invoke/MethodHandle" ∧ yX12_input.cls ≠ "java/lang/invoke/VarHandle" ∧ (parseMethodDescriptor yX12_input.desc).map (fun d => d.parameters.length) = some 1 := by decide +kernel
abbrev cX11_clear : ByteArray := prog_1_method_22_code
def yX11_clear : MethodName := ⟨RX11, "clear", "()I"⟩
theorem hdX11_clear : yX11_clear.cls ≠ "java/lang/invoke/MethodHandle" ∧ yX11_clear.cls ≠ "java/lang/invoke/VarHandle" ∧ (parseMethodDescriptor yX11_clear.desc).map (fun d => d.parameters.length) = some 0 := by decide +kernel
abbrev cX12_clear : ByteArray := prog_14_method_77_code
def yX12_clear : MethodName := ⟨RX12, "clear", "()I"⟩
theorem hdX12_clear : yX12_clear.cls ≠ "java/lang/invoke/MethodHandle" ∧ yX12_clear.cls ≠ "java/lang/invoke/VarHandle" ∧ (parseMethodDescriptor yX12_clear.desc).map (fun d => d.parameters.length) = some 0 := by decide +kernel
abbrev cX11_run : ByteArray := prog_1_method_23_code
def yX11_run : MethodName := ⟨RX11, "run", "(ZI)I"⟩
theorem hdX11_run : yX11_run.cls ≠ "java/lang/invoke/MethodHandle" ∧ yX11_run.cls ≠ "java/lang/invoke/VarHandle" ∧ (parseMethodDescriptor yX11_run.desc).map (fun d => d.parameters.length) = some 2 := by decide +kernel
abbrev cX12_run : ByteArray := prog_14_method_79_code
def yX12_run : MethodName := ⟨RX12, "run", "(ZI)I"⟩
theorem hdX12_run : yX12_run.cls ≠ "java/lang/invoke/MethodHandle" ∧ yX12_run.cls ≠ "java/lang/invoke/VarHandle" ∧ (parseMethodDescriptor yX12_run.desc).map (fun d => d.parameters.length) = some 2 := by decide +kernel
abbrev cX11_told : ByteArray := prog_1_method_26_code
def yX11_told : MethodName := ⟨RX11, "told", "(ZI)I"⟩
theorem hdX11_told : yX11_told.cls ≠ "java/lang/invoke/MethodHandle" ∧ yX11_told.cls ≠ "java/lang/invoke/VarHandle" ∧ (parseMethodDescriptor yX11_told.desc).map (fun d => d.parameters.length) = some 2 := by decide +kernel
abbrev cX12_told : ByteArray := prog_14_method_84_code
def yX12_told : MethodName := ⟨RX12, "told", "(ZI)I"⟩
theorem hdX12_told : yX12_told.cls ≠ "java/lang/invoke/MethodHandle" ∧ yX12_told.cls ≠ "java/lang/invoke/VarHandle" ∧ (parseMethodDescriptor yX12_told.desc).map (fun d => d.parameters.length) = some 2 := by decide +kernel
abbrev cX11_output : ByteArray := prog_1_method_27_code
def yX11_output : MethodName := ⟨RX11, "output", "(ZI)I"⟩
theorem hdX11_output : yX11_output.cls ≠ "java/lang/invoke/MethodHandle" ∧ yX11_output.cls ≠ "java/lang/invoke/VarHandle" ∧ (parseMethodDescriptor yX11_output.desc).map (fun d => d.parameters.length) = some 2 := by decide +kernel
abbrev cX12_output : ByteArray := prog_14_method_85_code
def yX12_output : MethodName := ⟨RX12, "output", "(ZI)I"⟩
theorem hdX12_output : yX12_output.cls ≠ "java/lang/invoke/MethodHandle" ∧ yX12_output.cls ≠ "java/lang/invoke/VarHandle" ∧ (parseMethodDescriptor yX12_output.desc).map (fun d => d.parameters.length) = some 2 := by decide +kernel
abbrev cX11_memory : ByteArray := prog_1_method_28_code
def yX11_memory : MethodName := ⟨RX11, "memory", "(ZI)I"⟩
theorem hdX11_memory : yX11_memory.cls ≠ "java/lang/invoke/MethodHandle" ∧ yX11_memory.cls ≠ "java/lang/invoke/VarHandle" ∧ (parseMethodDescriptor yX11_memory.desc).map (fun d => d.parameters.length) = some 2 := by decide +kernel
abbrev cX12_memory : ByteArray := prog_14_method_86_code
def yX12_memory : MethodName := ⟨RX12, "memory", "(ZI)I"⟩
theorem hdX12_memory : yX12_memory.cls ≠ "java/lang/invoke/MethodHandle" ∧ yX12_memory.cls ≠ "java/lang/invoke/VarHandle" ∧ (parseMethodDescriptor yX12_memory.desc).map (fun d => d.parameters.length) = some 2 := by decide +kernel
abbrev cX11_count : ByteArray := prog_1_method_29_code
def yX11_count : MethodName := ⟨RX11, "count", "(I)I"⟩
theorem hdX11_count : yX11_count.cls ≠ "java/lang/invoke/MethodHandle" ∧ yX11_count.cls ≠ "java/lang/invoke/VarHandle" ∧ (parseMethodDescriptor yX11_count.desc).map (fun d => d.parameters.length) = some 1 := by decide +kernel
abbrev cX11_countRows : ByteArray := prog_1_method_30_code
def yX11_countRows : MethodName := ⟨RX11, "countRows", "(I)I"⟩
theorem hdX11_countRows : yX11_countRows.cls ≠ "java/lang/invoke/MethodHandle" ∧ yX11_countRows.cls ≠ "java/lang/invoke/VarHandle" ∧ (parseMethodDescriptor yX11_countRows.desc).map (fun d => d.parameters.length) = some 1 := by decide +kernel
abbrev cX12_count : ByteArray := prog_14_method_89_code
def yX12_count : MethodName := ⟨RX12, "count", "(I)I"⟩
theorem hdX12_count : yX12_count.cls ≠ "java/lang/invoke/MethodHandle" ∧ yX12_count.cls ≠ "java/lang/invoke/VarHandle" ∧ (parseMethodDescriptor yX12_count.desc).map (fun d => d.parameters.length) = some 1 := by decide +kernel
abbrev vC : List vw_C := [(RX1, TX1, 8), (RX2, TX2, 3), (RX3, TX3, 12), (RX6, TX6, 6), (RX7, TX7, 11), (RX9, TX9, 4), (RX10, TX10, 7), (RX11, TX11, 15), (RX12, TX12, 105)]
