def RX0 : String := "TicketGate$Bytes"
def TX0 : u_T := fun k => match k with
  | 0 => ("TicketGate$Bytes", "cells", "[I", true)
  | _ => ("TicketGate$Bytes", "count", "I", false)
def tyX0 : Nat → FieldType := fun k => match k with
  | 0 => .array .int
  | _ => .int
theorem nmX0 : ∀ a, a < 2 → ∀ b, b < 2 → a ≠ b → (TX0 a).2.1 ≠ (TX0 b).2.1 := by decide +kernel
theorem tyX0_ok : ∀ k, k < 2 → parseFieldDescriptor (TX0 k).2.2.1 = some (tyX0 k) := by decide +kernel
abbrev cX0_init : ByteArray := prog_2_method_1_code
def yX0_init : MethodName := ⟨RX0, "<init>", "(I)V"⟩
abbrev cX0_size : ByteArray := prog_2_method_2_code
def yX0_size : MethodName := ⟨RX0, "size", "()I"⟩
abbrev cX0_at : ByteArray := prog_2_method_3_code
def yX0_at : MethodName := ⟨RX0, "at", "(I)I"⟩
abbrev cX0_cut : ByteArray := prog_2_method_4_code
def yX0_cut : MethodName := ⟨RX0, "cut", "(I)V"⟩
abbrev cX0_add : ByteArray := prog_2_method_5_code
def yX0_add : MethodName := ⟨RX0, "add", "(I)V"⟩
abbrev cX0_addFour : ByteArray := prog_2_method_6_code
def yX0_addFour : MethodName := ⟨RX0, "addFour", "(I)V"⟩
abbrev cX0_addText : ByteArray := prog_2_method_7_code
def yX0_addText : MethodName := ⟨RX0, "addText", "(Ljava/lang/String;)V"⟩
abbrev cX0_endOfRun : ByteArray := prog_2_method_10_code
def yX0_endOfRun : MethodName := ⟨RX0, "endOfRun", "(III)I"⟩
abbrev cX0_endOfBlanks : ByteArray := prog_2_method_11_code
def yX0_endOfBlanks : MethodName := ⟨RX0, "endOfBlanks", "(I)I"⟩
abbrev cX0_nameBetween : ByteArray := prog_2_method_12_code
def yX0_nameBetween : MethodName := ⟨RX0, "nameBetween", "(II)I"⟩
abbrev cX0_numberBetween : ByteArray := prog_2_method_13_code
def yX0_numberBetween : MethodName := ⟨RX0, "numberBetween", "(II)I"⟩
abbrev cX0_isText : ByteArray := prog_2_method_14_code
def yX0_isText : MethodName := ⟨RX0, "isText", "(IILjava/lang/String;)Z"⟩
def RX1 : String := "TicketGate$Parser"
def TX1 : u_T := fun k => match k with
  | 0 => ("TicketGate$Parser", "text", "LTicketGate$Bytes;", true)
  | 1 => ("TicketGate$Parser", "draft", "LTicketGate$State;", true)
  | 2 => ("TicketGate$Parser", "start", "I", false)
  | 3 => ("TicketGate$Parser", "end", "I", false)
  | 4 => ("TicketGate$Parser", "kind", "I", false)
  | 5 => ("TicketGate$Parser", "value", "I", false)
  | 6 => ("TicketGate$Parser", "error", "I", false)
  | _ => ("TicketGate$Parser", "errorAt", "I", false)
def tyX1 : Nat → FieldType := fun k => match k with
  | 0 => .object "TicketGate$Bytes"
  | 1 => .object "TicketGate$State"
  | 2 => .int
  | 3 => .int
  | 4 => .int
  | 5 => .int
  | 6 => .int
  | _ => .int
theorem nmX1 : ∀ a, a < 8 → ∀ b, b < 8 → a ≠ b → (TX1 a).2.1 ≠ (TX1 b).2.1 := by decide +kernel
theorem tyX1_ok : ∀ k, k < 8 → parseFieldDescriptor (TX1 k).2.2.1 = some (tyX1 k) := by decide +kernel
abbrev cX1_init : ByteArray := prog_3_method_1_code
def yX1_init : MethodName := ⟨RX1, "<init>", "(LTicketGate$Bytes;)V"⟩
abbrev cX1_run : ByteArray := prog_3_method_2_code
def yX1_run : MethodName := ⟨RX1, "run", "()Z"⟩
abbrev cX1_readStatement : ByteArray := prog_3_method_3_code
def yX1_readStatement : MethodName := ⟨RX1, "readStatement", "()V"⟩
abbrev cX1_readGate : ByteArray := prog_3_method_4_code
def yX1_readGate : MethodName := ⟨RX1, "readGate", "()V"⟩
abbrev cX1_readRealm : ByteArray := prog_3_method_5_code
def yX1_readRealm : MethodName := ⟨RX1, "readRealm", "()V"⟩
abbrev cX1_readTrust : ByteArray := prog_3_method_6_code
def yX1_readTrust : MethodName := ⟨RX1, "readTrust", "()V"⟩
abbrev cX1_readUser : ByteArray := prog_3_method_7_code
def yX1_readUser : MethodName := ⟨RX1, "readUser", "()V"⟩
abbrev cX1_readService : ByteArray := prog_3_method_8_code
def yX1_readService : MethodName := ⟨RX1, "readService", "()V"⟩
abbrev cX1_readLogin : ByteArray := prog_3_method_9_code
def yX1_readLogin : MethodName := ⟨RX1, "readLogin", "()V"⟩
abbrev cX1_readRefer : ByteArray := prog_3_method_10_code
def yX1_readRefer : MethodName := ⟨RX1, "readRefer", "()V"⟩
abbrev cX1_readRequest : ByteArray := prog_3_method_11_code
def yX1_readRequest : MethodName := ⟨RX1, "readRequest", "()V"⟩
abbrev cX1_readRenew : ByteArray := prog_3_method_12_code
def yX1_readRenew : MethodName := ⟨RX1, "readRenew", "()V"⟩
abbrev cX1_readCheese : ByteArray := prog_3_method_13_code
def yX1_readCheese : MethodName := ⟨RX1, "readCheese", "()V"⟩
abbrev cX1_readDrop : ByteArray := prog_3_method_14_code
def yX1_readDrop : MethodName := ⟨RX1, "readDrop", "()V"⟩
abbrev cX1_readSweep : ByteArray := prog_3_method_15_code
def yX1_readSweep : MethodName := ⟨RX1, "readSweep", "()V"⟩
abbrev cX1_readPass : ByteArray := prog_3_method_16_code
def yX1_readPass : MethodName := ⟨RX1, "readPass", "()V"⟩
abbrev cX1_number : ByteArray := prog_3_method_17_code
def yX1_number : MethodName := ⟨RX1, "number", "(II)I"⟩
abbrev cX1_newName : ByteArray := prog_3_method_18_code
def yX1_newName : MethodName := ⟨RX1, "newName", "()I"⟩
abbrev cX1_knownName : ByteArray := prog_3_method_19_code
def yX1_knownName : MethodName := ⟨RX1, "knownName", "(LTicketGate$Table;I)I"⟩
abbrev cX1_knownTicket : ByteArray := prog_3_method_20_code
def yX1_knownTicket : MethodName := ⟨RX1, "knownTicket", "()I"⟩
abbrev cX1_clockWord : ByteArray := prog_3_method_21_code
def yX1_clockWord : MethodName := ⟨RX1, "clockWord", "()I"⟩
abbrev cX1_semicolon : ByteArray := prog_3_method_22_code
def yX1_semicolon : MethodName := ⟨RX1, "semicolon", "(Z)Z"⟩
abbrev cX1_isWord : ByteArray := prog_3_method_23_code
def yX1_isWord : MethodName := ⟨RX1, "isWord", "(Ljava/lang/String;)Z"⟩
abbrev cX1_require : ByteArray := prog_3_method_24_code
def yX1_require : MethodName := ⟨RX1, "require", "(ZI)V"⟩
abbrev cX1_take : ByteArray := prog_3_method_25_code
def yX1_take : MethodName := ⟨RX1, "take", "()I"⟩
def RX2 : String := "TicketGate$Realms"
def TX2 : u_T := fun k => match k with
  | 0 => ("TicketGate$Table", "limit", "I", true)
  | 1 => ("TicketGate$Table", "width", "I", true)
  | 2 => ("TicketGate$Table", "cells", "[I", true)
  | _ => ("TicketGate$Table", "rows", "I", false)
def tyX2 : Nat → FieldType := fun k => match k with
  | 0 => .int
  | 1 => .int
  | 2 => .array .int
  | _ => .int
theorem nmX2 : ∀ a, a < 4 → ∀ b, b < 4 → a ≠ b → (TX2 a).2.1 ≠ (TX2 b).2.1 := by decide +kernel
theorem tyX2_ok : ∀ k, k < 4 → parseFieldDescriptor (TX2 k).2.2.1 = some (tyX2 k) := by decide +kernel
abbrev cX2_init : ByteArray := prog_4_method_1_code
def yX2_init : MethodName := ⟨RX2, "<init>", "()V"⟩
abbrev cX2_addRealm : ByteArray := prog_4_method_2_code
def yX2_addRealm : MethodName := ⟨RX2, "addRealm", "(IIII)V"⟩
abbrev cX2_addTrust : ByteArray := prog_4_method_3_code
def yX2_addTrust : MethodName := ⟨RX2, "addTrust", "(II)V"⟩
abbrev cX2_hasTrust : ByteArray := prog_4_method_4_code
def yX2_hasTrust : MethodName := ⟨RX2, "hasTrust", "(II)Z"⟩
abbrev cX2_referrals : ByteArray := prog_4_method_5_code
def yX2_referrals : MethodName := ⟨RX2, "referrals", "(II)I"⟩
abbrev cX2_trustedBySome : ByteArray := prog_4_method_6_code
def yX2_trustedBySome : MethodName := ⟨RX2, "trustedBySome", "(I)I"⟩
abbrev cX2_countDistanceErrors : ByteArray := prog_4_method_8_code
def yX2_countDistanceErrors : MethodName := ⟨RX2, "countDistanceErrors", "()I"⟩
def RX3 : String := "TicketGate$Services"
def TX3 : u_T := fun k => match k with
  | 0 => ("TicketGate$Table", "limit", "I", true)
  | 1 => ("TicketGate$Table", "width", "I", true)
  | 2 => ("TicketGate$Table", "cells", "[I", true)
  | _ => ("TicketGate$Table", "rows", "I", false)
def tyX3 : Nat → FieldType := fun k => match k with
  | 0 => .int
  | 1 => .int
  | 2 => .array .int
  | _ => .int
theorem nmX3 : ∀ a, a < 4 → ∀ b, b < 4 → a ≠ b → (TX3 a).2.1 ≠ (TX3 b).2.1 := by decide +kernel
theorem tyX3_ok : ∀ k, k < 4 → parseFieldDescriptor (TX3 k).2.2.1 = some (tyX3 k) := by decide +kernel
abbrev cX3_init : ByteArray := prog_5_method_1_code
def yX3_init : MethodName := ⟨RX3, "<init>", "()V"⟩
abbrev cX3_addService : ByteArray := prog_5_method_2_code
def yX3_addService : MethodName := ⟨RX3, "addService", "(III)V"⟩
def RX4 : String := "TicketGate$Shelf"
def TX4 : u_T := fun k => match k with
  | _ => ("TicketGate$Shelf", "states", "[LTicketGate$State;", true)
def tyX4 : Nat → FieldType := fun k => match k with
  | _ => .array (.object "TicketGate$State")
theorem nmX4 : ∀ a, a < 1 → ∀ b, b < 1 → a ≠ b → (TX4 a).2.1 ≠ (TX4 b).2.1 := by decide +kernel
theorem tyX4_ok : ∀ k, k < 1 → parseFieldDescriptor (TX4 k).2.2.1 = some (tyX4 k) := by decide +kernel
abbrev cX4_init : ByteArray := prog_6_method_1_code
def yX4_init : MethodName := ⟨RX4, "<init>", "(I)V"⟩
abbrev cX4_put : ByteArray := prog_6_method_3_code
def yX4_put : MethodName := ⟨RX4, "put", "(ILTicketGate$State;)V"⟩
def RX5 : String := "TicketGate$State"
def TX5 : u_T := fun k => match k with
  | 0 => ("TicketGate$State", "realms", "LTicketGate$Realms;", true)
  | 1 => ("TicketGate$State", "users", "LTicketGate$Users;", true)
  | 2 => ("TicketGate$State", "services", "LTicketGate$Services;", true)
  | 3 => ("TicketGate$State", "tickets", "LTicketGate$Tickets;", true)
  | 4 => ("TicketGate$State", "uses", "LTicketGate$Uses;", true)
  | 5 => ("TicketGate$State", "time", "I", false)
  | 6 => ("TicketGate$State", "tolerance", "I", false)
  | 7 => ("TicketGate$State", "seed", "I", false)
  | 8 => ("TicketGate$State", "madeTickets", "I", false)
  | _ => ("TicketGate$State", "cheesesOfText", "I", false)
def tyX5 : Nat → FieldType := fun k => match k with
  | 0 => .object "TicketGate$Realms"
  | 1 => .object "TicketGate$Users"
  | 2 => .object "TicketGate$Services"
  | 3 => .object "TicketGate$Tickets"
  | 4 => .object "TicketGate$Uses"
  | 5 => .int
  | 6 => .int
  | 7 => .int
  | 8 => .int
  | _ => .int
theorem nmX5 : ∀ a, a < 10 → ∀ b, b < 10 → a ≠ b → (TX5 a).2.1 ≠ (TX5 b).2.1 := by decide +kernel
theorem tyX5_ok : ∀ k, k < 10 → parseFieldDescriptor (TX5 k).2.2.1 = some (tyX5 k) := by decide +kernel
abbrev cX5_init : ByteArray := prog_7_method_1_code
def yX5_init : MethodName := ⟨RX5, "<init>", "()V"⟩
abbrev cX5_begin : ByteArray := prog_7_method_2_code
def yX5_begin : MethodName := ⟨RX5, "begin", "(II)V"⟩
abbrev cX5_copyFrom : ByteArray := prog_7_method_3_code
def yX5_copyFrom : MethodName := ⟨RX5, "copyFrom", "(LTicketGate$State;)V"⟩
abbrev cX5_codeOfName : ByteArray := prog_7_method_4_code
def yX5_codeOfName : MethodName := ⟨RX5, "codeOfName", "(I)I"⟩
abbrev cX5_skewOf : ByteArray := prog_7_method_5_code
def yX5_skewOf : MethodName := ⟨RX5, "skewOf", "(II)I"⟩
abbrev cX5_isSkewed : ByteArray := prog_7_method_6_code
def yX5_isSkewed : MethodName := ⟨RX5, "isSkewed", "(I)Z"⟩
abbrev cX5_whyNoLogin : ByteArray := prog_7_method_7_code
def yX5_whyNoLogin : MethodName := ⟨RX5, "whyNoLogin", "(II)I"⟩
abbrev cX5_whyNoReferral : ByteArray := prog_7_method_8_code
def yX5_whyNoReferral : MethodName := ⟨RX5, "whyNoReferral", "(II)I"⟩
abbrev cX5_whyNoRequest : ByteArray := prog_7_method_9_code
def yX5_whyNoRequest : MethodName := ⟨RX5, "whyNoRequest", "(II)I"⟩
abbrev cX5_whyNoRenewal : ByteArray := prog_7_method_10_code
def yX5_whyNoRenewal : MethodName := ⟨RX5, "whyNoRenewal", "(I)I"⟩
abbrev cX5_whyNoCheese : ByteArray := prog_7_method_11_code
def yX5_whyNoCheese : MethodName := ⟨RX5, "whyNoCheese", "(II)I"⟩
abbrev cX5_makeLogin : ByteArray := prog_7_method_12_code
def yX5_makeLogin : MethodName := ⟨RX5, "makeLogin", "(IZ)I"⟩
abbrev cX5_makeReferral : ByteArray := prog_7_method_13_code
def yX5_makeReferral : MethodName := ⟨RX5, "makeReferral", "(II)I"⟩
abbrev cX5_makeRequest : ByteArray := prog_7_method_14_code
def yX5_makeRequest : MethodName := ⟨RX5, "makeRequest", "(II)I"⟩
abbrev cX5_makeRenewal : ByteArray := prog_7_method_15_code
def yX5_makeRenewal : MethodName := ⟨RX5, "makeRenewal", "(I)I"⟩
abbrev cX5_giveCheese : ByteArray := prog_7_method_16_code
def yX5_giveCheese : MethodName := ⟨RX5, "giveCheese", "(I)I"⟩
abbrev cX5_letPass : ByteArray := prog_7_method_17_code
def yX5_letPass : MethodName := ⟨RX5, "letPass", "(I)V"⟩
abbrev cX5_renewedEnd : ByteArray := prog_7_method_18_code
def yX5_renewedEnd : MethodName := ⟨RX5, "renewedEnd", "(I)I"⟩
abbrev cX5_drawKey : ByteArray := prog_7_method_19_code
def yX5_drawKey : MethodName := ⟨RX5, "drawKey", "()I"⟩
abbrev cX5_makeTicket : ByteArray := prog_7_method_20_code
def yX5_makeTicket : MethodName := ⟨RX5, "makeTicket", "(III)I"⟩
abbrev cX5_inheritLife : ByteArray := prog_7_method_21_code
def yX5_inheritLife : MethodName := ⟨RX5, "inheritLife", "(II)V"⟩
abbrev cX5_setLife : ByteArray := prog_7_method_22_code
def yX5_setLife : MethodName := ⟨RX5, "setLife", "(IZII)V"⟩
def RX6 : String := "TicketGate$Table"
def TX6 : u_T := fun k => match k with
  | _ => ("", "", "", false)
def tyX6 : Nat → FieldType := fun k => match k with
  | _ => .int
theorem nmX6 : ∀ a, a < 0 → ∀ b, b < 0 → a ≠ b → (TX6 a).2.1 ≠ (TX6 b).2.1 := by decide +kernel
theorem tyX6_ok : ∀ k, k < 0 → parseFieldDescriptor (TX6 k).2.2.1 = some (tyX6 k) := by decide +kernel
abbrev cX6_init : ByteArray := prog_8_method_1_code
def yX6_init : MethodName := ⟨RX6, "<init>", "(II)V"⟩
abbrev cX6_size : ByteArray := prog_8_method_2_code
def yX6_size : MethodName := ⟨RX6, "size", "()I"⟩
abbrev cX6_isFull : ByteArray := prog_8_method_3_code
def yX6_isFull : MethodName := ⟨RX6, "isFull", "()Z"⟩
abbrev cX6_has : ByteArray := prog_8_method_4_code
def yX6_has : MethodName := ⟨RX6, "has", "(I)Z"⟩
abbrev cX6_get : ByteArray := prog_8_method_5_code
def yX6_get : MethodName := ⟨RX6, "get", "(II)I"⟩
abbrev cX6_set : ByteArray := prog_8_method_6_code
def yX6_set : MethodName := ⟨RX6, "set", "(III)V"⟩
abbrev cX6_addRow : ByteArray := prog_8_method_7_code
def yX6_addRow : MethodName := ⟨RX6, "addRow", "()I"⟩
abbrev cX6_removeRow : ByteArray := prog_8_method_8_code
def yX6_removeRow : MethodName := ⟨RX6, "removeRow", "(I)V"⟩
abbrev cX6_removeAll : ByteArray := prog_8_method_9_code
def yX6_removeAll : MethodName := ⟨RX6, "removeAll", "()V"⟩
abbrev cX6_rowWith : ByteArray := prog_8_method_10_code
def yX6_rowWith : MethodName := ⟨RX6, "rowWith", "(II)I"⟩
abbrev cX6_sumOf : ByteArray := prog_8_method_11_code
def yX6_sumOf : MethodName := ⟨RX6, "sumOf", "(I)I"⟩
abbrev cX6_copyFrom : ByteArray := prog_8_method_12_code
def yX6_copyFrom : MethodName := ⟨RX6, "copyFrom", "(LTicketGate$Table;)V"⟩
def RX7 : String := "TicketGate$Tickets"
def TX7 : u_T := fun k => match k with
  | 0 => ("TicketGate$Table", "limit", "I", true)
  | 1 => ("TicketGate$Table", "width", "I", true)
  | 2 => ("TicketGate$Table", "cells", "[I", true)
  | _ => ("TicketGate$Table", "rows", "I", false)
def tyX7 : Nat → FieldType := fun k => match k with
  | 0 => .int
  | 1 => .int
  | 2 => .array .int
  | _ => .int
theorem nmX7 : ∀ a, a < 4 → ∀ b, b < 4 → a ≠ b → (TX7 a).2.1 ≠ (TX7 b).2.1 := by decide +kernel
theorem tyX7_ok : ∀ k, k < 4 → parseFieldDescriptor (TX7 k).2.2.1 = some (tyX7 k) := by decide +kernel
abbrev cX7_init : ByteArray := prog_9_method_1_code
def yX7_init : MethodName := ⟨RX7, "<init>", "()V"⟩
abbrev cX7_canBeRenewed : ByteArray := prog_9_method_2_code
def yX7_canBeRenewed : MethodName := ⟨RX7, "canBeRenewed", "(I)Z"⟩
abbrev cX7_isAlive : ByteArray := prog_9_method_3_code
def yX7_isAlive : MethodName := ⟨RX7, "isAlive", "(II)Z"⟩
abbrev cX7_countAlive : ByteArray := prog_9_method_4_code
def yX7_countAlive : MethodName := ⟨RX7, "countAlive", "(I)I"⟩
abbrev cX7_countLifeErrors : ByteArray := prog_9_method_6_code
def yX7_countLifeErrors : MethodName := ⟨RX7, "countLifeErrors", "()I"⟩
abbrev cX7_removeDead : ByteArray := prog_9_method_7_code
def yX7_removeDead : MethodName := ⟨RX7, "removeDead", "(I)I"⟩
def RX8 : String := "TicketGate$Users"
def TX8 : u_T := fun k => match k with
  | 0 => ("TicketGate$Table", "limit", "I", true)
  | 1 => ("TicketGate$Table", "width", "I", true)
  | 2 => ("TicketGate$Table", "cells", "[I", true)
  | _ => ("TicketGate$Table", "rows", "I", false)
def tyX8 : Nat → FieldType := fun k => match k with
  | 0 => .int
  | 1 => .int
  | 2 => .array .int
  | _ => .int
theorem nmX8 : ∀ a, a < 4 → ∀ b, b < 4 → a ≠ b → (TX8 a).2.1 ≠ (TX8 b).2.1 := by decide +kernel
theorem tyX8_ok : ∀ k, k < 4 → parseFieldDescriptor (TX8 k).2.2.1 = some (tyX8 k) := by decide +kernel
abbrev cX8_init : ByteArray := prog_10_method_1_code
def yX8_init : MethodName := ⟨RX8, "<init>", "()V"⟩
abbrev cX8_addUser : ByteArray := prog_10_method_2_code
def yX8_addUser : MethodName := ⟨RX8, "addUser", "(IIII)V"⟩
def RX9 : String := "TicketGate$Uses"
def TX9 : u_T := fun k => match k with
  | 0 => ("TicketGate$Table", "limit", "I", true)
  | 1 => ("TicketGate$Table", "width", "I", true)
  | 2 => ("TicketGate$Table", "cells", "[I", true)
  | _ => ("TicketGate$Table", "rows", "I", false)
def tyX9 : Nat → FieldType := fun k => match k with
  | 0 => .int
  | 1 => .int
  | 2 => .array .int
  | _ => .int
theorem nmX9 : ∀ a, a < 4 → ∀ b, b < 4 → a ≠ b → (TX9 a).2.1 ≠ (TX9 b).2.1 := by decide +kernel
theorem tyX9_ok : ∀ k, k < 4 → parseFieldDescriptor (TX9 k).2.2.1 = some (tyX9 k) := by decide +kernel
abbrev cX9_init : ByteArray := prog_11_method_1_code
def yX9_init : MethodName := ⟨RX9, "<init>", "()V"⟩
abbrev cX9_addUse : ByteArray := prog_11_method_2_code
def yX9_addUse : MethodName := ⟨RX9, "addUse", "(IIII)V"⟩
abbrev cX9_knows : ByteArray := prog_11_method_3_code
def yX9_knows : MethodName := ⟨RX9, "knows", "(IIII)Z"⟩
abbrev cX9_forgetBefore : ByteArray := prog_11_method_4_code
def yX9_forgetBefore : MethodName := ⟨RX9, "forgetBefore", "(I)V"⟩
def RX10 : String := "TicketGate$Ways"
def TX10 : u_T := fun k => match k with
  | 0 => ("TicketGate$Table", "limit", "I", true)
  | 1 => ("TicketGate$Table", "width", "I", true)
  | 2 => ("TicketGate$Table", "cells", "[I", true)
  | _ => ("TicketGate$Table", "rows", "I", false)
def tyX10 : Nat → FieldType := fun k => match k with
  | 0 => .int
  | 1 => .int
  | 2 => .array .int
  | _ => .int
theorem nmX10 : ∀ a, a < 4 → ∀ b, b < 4 → a ≠ b → (TX10 a).2.1 ≠ (TX10 b).2.1 := by decide +kernel
theorem tyX10_ok : ∀ k, k < 4 → parseFieldDescriptor (TX10 k).2.2.1 = some (tyX10 k) := by decide +kernel
abbrev cX10_init : ByteArray := prog_12_method_1_code
def yX10_init : MethodName := ⟨RX10, "<init>", "()V"⟩
abbrev cX10_addDirect : ByteArray := prog_12_method_2_code
def yX10_addDirect : MethodName := ⟨RX10, "addDirect", "(LTicketGate$Realms;)V"⟩
abbrev cX10_goThrough : ByteArray := prog_12_method_3_code
def yX10_goThrough : MethodName := ⟨RX10, "goThrough", "(I)V"⟩
abbrev cX10_lengthOf : ByteArray := prog_12_method_4_code
def yX10_lengthOf : MethodName := ⟨RX10, "lengthOf", "(II)I"⟩
def RX11 : String := "TicketGate"
def TX11 : u_T := fun k => match k with
  | 0 => ("TicketGate", "input", "LTicketGate$Bytes;", true)
  | 1 => ("TicketGate", "output", "LTicketGate$Bytes;", true)
  | 2 => ("TicketGate", "parser", "LTicketGate$Parser;", true)
  | 3 => ("TicketGate", "state", "LTicketGate$State;", true)
  | 4 => ("TicketGate", "slots", "LTicketGate$Shelf;", true)
  | 5 => ("TicketGate", "past", "LTicketGate$Shelf;", true)
  | 6 => ("TicketGate", "nextPast", "I", false)
  | _ => ("TicketGate", "pastCount", "I", false)
def tyX11 : Nat → FieldType := fun k => match k with
  | 0 => .object "TicketGate$Bytes"
  | 1 => .object "TicketGate$Bytes"
  | 2 => .object "TicketGate$Parser"
  | 3 => .object "TicketGate$State"
  | 4 => .object "TicketGate$Shelf"
  | 5 => .object "TicketGate$Shelf"
  | 6 => .int
  | _ => .int
theorem nmX11 : ∀ a, a < 8 → ∀ b, b < 8 → a ≠ b → (TX11 a).2.1 ≠ (TX11 b).2.1 := by decide +kernel
theorem tyX11_ok : ∀ k, k < 8 → parseFieldDescriptor (TX11 k).2.2.1 = some (tyX11 k) := by decide +kernel
abbrev cX11_init : ByteArray := prog_1_method_1_code
def yX11_init : MethodName := ⟨RX11, "<init>", "()V"⟩
abbrev cX11_appendInput : ByteArray := prog_1_method_2_code
def yX11_appendInput : MethodName := ⟨RX11, "appendInput", "(IIIII)I"⟩
abbrev cX11_truncateInput : ByteArray := prog_1_method_3_code
def yX11_truncateInput : MethodName := ⟨RX11, "truncateInput", "(I)I"⟩
abbrev cX11_load : ByteArray := prog_1_method_4_code
def yX11_load : MethodName := ⟨RX11, "load", "()I"⟩
abbrev cX11_errorCode : ByteArray := prog_1_method_5_code
def yX11_errorCode : MethodName := ⟨RX11, "errorCode", "()I"⟩
abbrev cX11_time : ByteArray := prog_1_method_7_code
def yX11_time : MethodName := ⟨RX11, "time", "()I"⟩
abbrev cX11_seed : ByteArray := prog_1_method_8_code
def yX11_seed : MethodName := ⟨RX11, "seed", "()I"⟩
abbrev cX11_realmCount : ByteArray := prog_1_method_9_code
def yX11_realmCount : MethodName := ⟨RX11, "realmCount", "()I"⟩
abbrev cX11_serviceCount : ByteArray := prog_1_method_11_code
def yX11_serviceCount : MethodName := ⟨RX11, "serviceCount", "()I"⟩
abbrev cX11_clockOf : ByteArray := prog_1_method_14_code
def yX11_clockOf : MethodName := ⟨RX11, "clockOf", "(I)I"⟩
abbrev cX11_cheesesOf : ByteArray := prog_1_method_19_code
def yX11_cheesesOf : MethodName := ⟨RX11, "cheesesOf", "(I)I"⟩
abbrev cX11_cheesesLeft : ByteArray := prog_1_method_22_code
def yX11_cheesesLeft : MethodName := ⟨RX11, "cheesesLeft", "(I)I"⟩
abbrev cX11_ticketCount : ByteArray := prog_1_method_23_code
def yX11_ticketCount : MethodName := ⟨RX11, "ticketCount", "()I"⟩
abbrev cX11_ticketAt : ByteArray := prog_1_method_24_code
def yX11_ticketAt : MethodName := ⟨RX11, "ticketAt", "(I)I"⟩
abbrev cX11_kindOf : ByteArray := prog_1_method_25_code
def yX11_kindOf : MethodName := ⟨RX11, "kindOf", "(I)I"⟩
abbrev cX11_ownerOf : ByteArray := prog_1_method_26_code
def yX11_ownerOf : MethodName := ⟨RX11, "ownerOf", "(I)I"⟩
abbrev cX11_realmOf : ByteArray := prog_1_method_27_code
def yX11_realmOf : MethodName := ⟨RX11, "realmOf", "(I)I"⟩
abbrev cX11_serviceOf : ByteArray := prog_1_method_28_code
def yX11_serviceOf : MethodName := ⟨RX11, "serviceOf", "(I)I"⟩
abbrev cX11_startOf : ByteArray := prog_1_method_29_code
def yX11_startOf : MethodName := ⟨RX11, "startOf", "(I)I"⟩
abbrev cX11_endOf : ByteArray := prog_1_method_30_code
def yX11_endOf : MethodName := ⟨RX11, "endOf", "(I)I"⟩
abbrev cX11_lastEndOf : ByteArray := prog_1_method_31_code
def yX11_lastEndOf : MethodName := ⟨RX11, "lastEndOf", "(I)I"⟩
abbrev cX11_keyOf : ByteArray := prog_1_method_32_code
def yX11_keyOf : MethodName := ⟨RX11, "keyOf", "(I)I"⟩
abbrev cX11_isRenewable : ByteArray := prog_1_method_33_code
def yX11_isRenewable : MethodName := ⟨RX11, "isRenewable", "(I)Z"⟩
abbrev cX11_isValid : ByteArray := prog_1_method_34_code
def yX11_isValid : MethodName := ⟨RX11, "isValid", "(I)Z"⟩
abbrev cX11_validTickets : ByteArray := prog_1_method_41_code
def yX11_validTickets : MethodName := ⟨RX11, "validTickets", "()I"⟩
abbrev cX11_useCount : ByteArray := prog_1_method_45_code
def yX11_useCount : MethodName := ⟨RX11, "useCount", "()I"⟩
abbrev cX11_cheeseDifference : ByteArray := prog_1_method_46_code
def yX11_cheeseDifference : MethodName := ⟨RX11, "cheeseDifference", "()I"⟩
abbrev cX11_lifeErrors : ByteArray := prog_1_method_47_code
def yX11_lifeErrors : MethodName := ⟨RX11, "lifeErrors", "()I"⟩
abbrev cX11_distanceErrors : ByteArray := prog_1_method_48_code
def yX11_distanceErrors : MethodName := ⟨RX11, "distanceErrors", "()I"⟩
abbrev cX11_login : ByteArray := prog_1_method_51_code
def yX11_login : MethodName := ⟨RX11, "login", "(IIZ)I"⟩
abbrev cX11_refer : ByteArray := prog_1_method_52_code
def yX11_refer : MethodName := ⟨RX11, "refer", "(II)I"⟩
abbrev cX11_request : ByteArray := prog_1_method_53_code
def yX11_request : MethodName := ⟨RX11, "request", "(II)I"⟩
abbrev cX11_renew : ByteArray := prog_1_method_54_code
def yX11_renew : MethodName := ⟨RX11, "renew", "(I)I"⟩
abbrev cX11_cheese : ByteArray := prog_1_method_55_code
def yX11_cheese : MethodName := ⟨RX11, "cheese", "(I)I"⟩
abbrev cX11_drop : ByteArray := prog_1_method_56_code
def yX11_drop : MethodName := ⟨RX11, "drop", "(I)I"⟩
abbrev cX11_sweep : ByteArray := prog_1_method_57_code
def yX11_sweep : MethodName := ⟨RX11, "sweep", "()I"⟩
abbrev cX11_setClock : ByteArray := prog_1_method_59_code
def yX11_setClock : MethodName := ⟨RX11, "setClock", "(II)I"⟩
abbrev cX11_pass : ByteArray := prog_1_method_60_code
def yX11_pass : MethodName := ⟨RX11, "pass", "(I)I"⟩
abbrev cX11_remember : ByteArray := prog_1_method_66_code
def yX11_remember : MethodName := ⟨RX11, "remember", "()V"⟩
abbrev cX11_rowOf : ByteArray := prog_1_method_67_code
def yX11_rowOf : MethodName := ⟨RX11, "rowOf", "(I)I"⟩
abbrev cX11_checkRealm : ByteArray := prog_1_method_68_code
def yX11_checkRealm : MethodName := ⟨RX11, "checkRealm", "(I)V"⟩
abbrev cX11_checkUser : ByteArray := prog_1_method_69_code
def yX11_checkUser : MethodName := ⟨RX11, "checkUser", "(I)V"⟩
abbrev cX11_checkService : ByteArray := prog_1_method_70_code
def yX11_checkService : MethodName := ⟨RX11, "checkService", "(I)V"⟩
abbrev cX11_checkPassword : ByteArray := prog_1_method_72_code
def yX11_checkPassword : MethodName := ⟨RX11, "checkPassword", "(I)V"⟩
abbrev cX11_checkAllowed : ByteArray := prog_1_method_73_code
def yX11_checkAllowed : MethodName := ⟨RX11, "checkAllowed", "(I)V"⟩
def RX12 : String := "TicketGateLaw$Hand"
def TX12 : u_T := fun k => match k with
  | 0 => ("TicketGateLaw$Hand", "tolerance", "I", true)
  | 1 => ("TicketGateLaw$Hand", "life", "[I", true)
  | 2 => ("TicketGateLaw$Hand", "again", "[I", true)
  | 3 => ("TicketGateLaw$Hand", "fast", "[I", true)
  | 4 => ("TicketGateLaw$Hand", "home", "[I", true)
  | 5 => ("TicketGateLaw$Hand", "own", "[I", true)
  | 6 => ("TicketGateLaw$Hand", "had", "[I", true)
  | 7 => ("TicketGateLaw$Hand", "place", "[I", true)
  | 8 => ("TicketGateLaw$Hand", "left", "[I", true)
  | 9 => ("TicketGateLaw$Hand", "ticket", "[[I", false)
  | 10 => ("TicketGateLaw$Hand", "use", "[[I", false)
  | 11 => ("TicketGateLaw$Hand", "seed", "I", false)
  | 12 => ("TicketGateLaw$Hand", "time", "I", false)
  | _ => ("TicketGateLaw$Hand", "next", "I", false)
def tyX12 : Nat → FieldType := fun k => match k with
  | 0 => .int
  | 1 => .array .int
  | 2 => .array .int
  | 3 => .array .int
  | 4 => .array .int
  | 5 => .array .int
  | 6 => .array .int
  | 7 => .array .int
  | 8 => .array .int
  | 9 => .array (.array .int)
  | 10 => .array (.array .int)
  | 11 => .int
  | 12 => .int
  | _ => .int
theorem nmX12 : ∀ a, a < 14 → ∀ b, b < 14 → a ≠ b → (TX12 a).2.1 ≠ (TX12 b).2.1 := by decide +kernel
theorem tyX12_ok : ∀ k, k < 14 → parseFieldDescriptor (TX12 k).2.2.1 = some (tyX12 k) := by decide +kernel
abbrev cX12_init : ByteArray := prog_14_method_1_code
def yX12_init : MethodName := ⟨RX12, "<init>", "([I)V"⟩
abbrev cX12_with : ByteArray := prog_14_method_2_code
def yX12_with : MethodName := ⟨RX12, "with", "([[I[I)[[I"⟩
abbrev cX12_without : ByteArray := prog_14_method_3_code
def yX12_without : MethodName := ⟨RX12, "without", "([[II)[[I"⟩
abbrev cX12_skewed : ByteArray := prog_14_method_4_code
def yX12_skewed : MethodName := ⟨RX12, "skewed", "(II)Z"⟩
abbrev cX12_draws : ByteArray := prog_14_method_5_code
def yX12_draws : MethodName := ⟨RX12, "draws", "()I"⟩
abbrev cX12_makes : ByteArray := prog_14_method_6_code
def yX12_makes : MethodName := ⟨RX12, "makes", "(IIIIII)I"⟩
abbrev cX12_derives : ByteArray := prog_14_method_7_code
def yX12_derives : MethodName := ⟨RX12, "derives", "([III)I"⟩
abbrev cX12_gets : ByteArray := prog_14_method_8_code
def yX12_gets : MethodName := ⟨RX12, "gets", "([I)I"⟩
abbrev cX12_valid : ByteArray := prog_14_method_9_code
def yX12_valid : MethodName := ⟨RX12, "valid", "()I"⟩
abbrev cX12_acts : ByteArray := prog_14_method_10_code
def yX12_acts : MethodName := ⟨RX12, "acts", "([II)I"⟩
abbrev cX12_agrees : ByteArray := prog_14_method_11_code
def yX12_agrees : MethodName := ⟨RX12, "agrees", "(LTicketGate;)Z"⟩
def RX13 : String := "TicketGateModel"
def TX13 : u_T := fun k => match k with
  | _ => ("", "", "", false)
def tyX13 : Nat → FieldType := fun k => match k with
  | _ => .int
theorem nmX13 : ∀ a, a < 0 → ∀ b, b < 0 → a ≠ b → (TX13 a).2.1 ≠ (TX13 b).2.1 := by decide +kernel
theorem tyX13_ok : ∀ k, k < 0 → parseFieldDescriptor (TX13 k).2.2.1 = some (tyX13 k) := by decide +kernel
def RJx145de : String := "java/io/Serializable"
def TJx145de : u_T := fun k => match k with
  | _ => ("", "", "", false)
def tyJx145de : Nat → FieldType := fun k => match k with
  | _ => .int
theorem nmJx145de : ∀ a, a < 0 → ∀ b, b < 0 → a ≠ b → (TJx145de a).2.1 ≠ (TJx145de b).2.1 := by decide +kernel
theorem tyJx145de_ok : ∀ k, k < 0 → parseFieldDescriptor (TJx145de k).2.2.1 = some (tyJx145de k) := by decide +kernel
def RJ5 : String := "java/lang/AbstractStringBuilder"
def TJ5 : u_T := fun k => match k with
  | _ => ("", "", "", false)
def tyJ5 : Nat → FieldType := fun k => match k with
  | _ => .int
theorem nmJ5 : ∀ a, a < 0 → ∀ b, b < 0 → a ≠ b → (TJ5 a).2.1 ≠ (TJ5 b).2.1 := by decide +kernel
theorem tyJ5_ok : ∀ k, k < 0 → parseFieldDescriptor (TJ5 k).2.2.1 = some (tyJ5 k) := by decide +kernel
abbrev cJ5_init_d00df : ByteArray := prog_17_method_2_code
def yJ5_init_d00df : MethodName := ⟨RJ5, "<init>", "(I)V"⟩
abbrev cJ5_init_a7421 : ByteArray := prog_17_method_3_code
def yJ5_init_a7421 : MethodName := ⟨RJ5, "<init>", "(Ljava/lang/String;)V"⟩
abbrev cJ5_length_8abf5 : ByteArray := prog_17_method_6_code
def yJ5_length_8abf5 : MethodName := ⟨RJ5, "length", "()I"⟩
abbrev cJ5_ensureCapacityInternal_d00df : ByteArray := prog_17_method_9_code
def yJ5_ensureCapacityInternal_d00df : MethodName := ⟨RJ5, "ensureCapacityInternal", "(I)V"⟩
abbrev cJ5_newCapacity_0f7a4 : ByteArray := prog_17_method_10_code
def yJ5_newCapacity_0f7a4 : MethodName := ⟨RJ5, "newCapacity", "(I)I"⟩
abbrev cJ5_inflate_da8c8 : ByteArray := prog_17_method_11_code
def yJ5_inflate_da8c8 : MethodName := ⟨RJ5, "inflate", "()V"⟩
abbrev cJ5_append_cf1ce : ByteArray := prog_17_method_22_code
def yJ5_append_cf1ce : MethodName := ⟨RJ5, "append", "(Ljava/lang/String;)Ljava/lang/AbstractStringBuilder;"⟩
abbrev cJ5_appendNull_278bc : ByteArray := prog_17_method_26_code
def yJ5_appendNull_278bc : MethodName := ⟨RJ5, "appendNull", "()Ljava/lang/AbstractStringBuilder;"⟩
abbrev cJ5_append_3fe6f : ByteArray := prog_17_method_31_code
def yJ5_append_3fe6f : MethodName := ⟨RJ5, "append", "(C)Ljava/lang/AbstractStringBuilder;"⟩
abbrev cJ5_append_c97b9 : ByteArray := prog_17_method_32_code
def yJ5_append_c97b9 : MethodName := ⟨RJ5, "append", "(I)Ljava/lang/AbstractStringBuilder;"⟩
abbrev cJ5_getValue_6d5f1 : ByteArray := prog_17_method_64_code
def yJ5_getValue_6d5f1 : MethodName := ⟨RJ5, "getValue", "()[B"⟩
abbrev cJ5_isLatin1_aae02 : ByteArray := prog_17_method_68_code
def yJ5_isLatin1_aae02 : MethodName := ⟨RJ5, "isLatin1", "()Z"⟩
abbrev cJ5_inflateIfNeededFor_a7421 : ByteArray := prog_17_method_71_code
def yJ5_inflateIfNeededFor_a7421 : MethodName := ⟨RJ5, "inflateIfNeededFor", "(Ljava/lang/String;)V"⟩
abbrev cJ5_putStringAt_47b60 : ByteArray := prog_17_method_73_code
def yJ5_putStringAt_47b60 : MethodName := ⟨RJ5, "putStringAt", "(ILjava/lang/String;)V"⟩
def RJx2cfe8 : String := "java/lang/Appendable"
def TJx2cfe8 : u_T := fun k => match k with
  | _ => ("", "", "", false)
def tyJx2cfe8 : Nat → FieldType := fun k => match k with
  | _ => .int
theorem nmJx2cfe8 : ∀ a, a < 0 → ∀ b, b < 0 → a ≠ b → (TJx2cfe8 a).2.1 ≠ (TJx2cfe8 b).2.1 := by decide +kernel
theorem tyJx2cfe8_ok : ∀ k, k < 0 → parseFieldDescriptor (TJx2cfe8 k).2.2.1 = some (tyJx2cfe8 k) := by decide +kernel
def RJx9f9b0 : String := "java/lang/CharSequence"
def TJx9f9b0 : u_T := fun k => match k with
  | _ => ("", "", "", false)
def tyJx9f9b0 : Nat → FieldType := fun k => match k with
  | _ => .int
theorem nmJx9f9b0 : ∀ a, a < 0 → ∀ b, b < 0 → a ≠ b → (TJx9f9b0 a).2.1 ≠ (TJx9f9b0 b).2.1 := by decide +kernel
theorem tyJx9f9b0_ok : ∀ k, k < 0 → parseFieldDescriptor (TJx9f9b0 k).2.2.1 = some (tyJx9f9b0 k) := by decide +kernel
def RJx8e188 : String := "java/lang/Cloneable"
def TJx8e188 : u_T := fun k => match k with
  | _ => ("", "", "", false)
def tyJx8e188 : Nat → FieldType := fun k => match k with
  | _ => .int
theorem nmJx8e188 : ∀ a, a < 0 → ∀ b, b < 0 → a ≠ b → (TJx8e188 a).2.1 ≠ (TJx8e188 b).2.1 := by decide +kernel
theorem tyJx8e188_ok : ∀ k, k < 0 → parseFieldDescriptor (TJx8e188 k).2.2.1 = some (tyJx8e188 k) := by decide +kernel
def RJxb160c : String := "java/lang/Comparable"
def TJxb160c : u_T := fun k => match k with
  | _ => ("", "", "", false)
def tyJxb160c : Nat → FieldType := fun k => match k with
  | _ => .int
theorem nmJxb160c : ∀ a, a < 0 → ∀ b, b < 0 → a ≠ b → (TJxb160c a).2.1 ≠ (TJxb160c b).2.1 := by decide +kernel
theorem tyJxb160c_ok : ∀ k, k < 0 → parseFieldDescriptor (TJxb160c k).2.2.1 = some (tyJxb160c k) := by decide +kernel
def RJ6 : String := "java/lang/Integer"
def TJ6 : u_T := fun k => match k with
  | _ => ("", "", "", false)
def tyJ6 : Nat → FieldType := fun k => match k with
  | _ => .int
theorem nmJ6 : ∀ a, a < 0 → ∀ b, b < 0 → a ≠ b → (TJ6 a).2.1 ≠ (TJ6 b).2.1 := by decide +kernel
theorem tyJ6_ok : ∀ k, k < 0 → parseFieldDescriptor (TJ6 k).2.2.1 = some (tyJ6 k) := by decide +kernel
abbrev cJ6_getChars_ba4f3 : ByteArray := prog_26_method_12_code
def yJ6_getChars_ba4f3 : MethodName := ⟨RJ6, "getChars", "(II[B)I"⟩
abbrev cJ6_stringSize_0f7a4 : ByteArray := prog_26_method_13_code
def yJ6_stringSize_0f7a4 : MethodName := ⟨RJ6, "stringSize", "(I)I"⟩
def RJ9 : String := "java/lang/Math"
def TJ9 : u_T := fun k => match k with
  | _ => ("", "", "", false)
def tyJ9 : Nat → FieldType := fun k => match k with
  | _ => .int
theorem nmJ9 : ∀ a, a < 0 → ∀ b, b < 0 → a ≠ b → (TJ9 a).2.1 ≠ (TJ9 b).2.1 := by decide +kernel
theorem tyJ9_ok : ∀ k, k < 0 → parseFieldDescriptor (TJ9 k).2.2.1 = some (tyJ9 k) := by decide +kernel
abbrev cJ9_abs_0f7a4 : ByteArray := prog_27_method_59_code
def yJ9_abs_0f7a4 : MethodName := ⟨RJ9, "abs", "(I)I"⟩
abbrev cJ9_max_7cf53 : ByteArray := prog_27_method_65_code
def yJ9_max_7cf53 : MethodName := ⟨RJ9, "max", "(II)I"⟩
abbrev cJ9_min_7cf53 : ByteArray := prog_27_method_69_code
def yJ9_min_7cf53 : MethodName := ⟨RJ9, "min", "(II)I"⟩
def RJxd2413 : String := "java/lang/Number"
def TJxd2413 : u_T := fun k => match k with
  | _ => ("", "", "", false)
def tyJxd2413 : Nat → FieldType := fun k => match k with
  | _ => .int
theorem nmJxd2413 : ∀ a, a < 0 → ∀ b, b < 0 → a ≠ b → (TJxd2413 a).2.1 ≠ (TJxd2413 b).2.1 := by decide +kernel
theorem tyJxd2413_ok : ∀ k, k < 0 → parseFieldDescriptor (TJxd2413 k).2.2.1 = some (tyJxd2413 k) := by decide +kernel
def RJ0 : String := "java/lang/String"
def TJ0 : u_T := fun k => match k with
  | 0 => ("java/lang/String", "value", "[B", true)
  | 1 => ("java/lang/String", "coder", "B", true)
  | 2 => ("java/lang/String", "hash", "I", false)
  | _ => ("java/lang/String", "hashIsZero", "Z", false)
def tyJ0 : Nat → FieldType := fun k => match k with
  | 0 => .array .byte
  | 1 => .byte
  | 2 => .int
  | _ => .boolean
theorem nmJ0 : ∀ a, a < 4 → ∀ b, b < 4 → a ≠ b → (TJ0 a).2.1 ≠ (TJ0 b).2.1 := by decide +kernel
theorem tyJ0_ok : ∀ k, k < 4 → parseFieldDescriptor (TJ0 k).2.2.1 = some (tyJ0 k) := by decide +kernel
abbrev cJ0_init_81219 : ByteArray := prog_30_method_53_code
def yJ0_init_81219 : MethodName := ⟨RJ0, "<init>", "(Ljava/lang/StringBuilder;)V"⟩
abbrev cJ0_length_8abf5 : ByteArray := prog_30_method_54_code
def yJ0_length_8abf5 : MethodName := ⟨RJ0, "length", "()I"⟩
abbrev cJ0_charAt_5068e : ByteArray := prog_30_method_56_code
def yJ0_charAt_5068e : MethodName := ⟨RJ0, "charAt", "(I)C"⟩
abbrev cJ0_getBytes_840e7 : ByteArray := prog_30_method_147_code
def yJ0_getBytes_840e7 : MethodName := ⟨RJ0, "getBytes", "([BIB)V"⟩
abbrev cJ0_init_db425 : ByteArray := prog_30_method_150_code
def yJ0_init_db425 : MethodName := ⟨RJ0, "<init>", "(Ljava/lang/AbstractStringBuilder;Ljava/lang/Void;)V"⟩
abbrev cJ0_coder_7d493 : ByteArray := prog_30_method_152_code
def yJ0_coder_7d493 : MethodName := ⟨RJ0, "coder", "()B"⟩
abbrev cJ0_isLatin1_aae02 : ByteArray := prog_30_method_154_code
def yJ0_isLatin1_aae02 : MethodName := ⟨RJ0, "isLatin1", "()Z"⟩
abbrev cJ0_checkIndex_df160 : ByteArray := prog_30_method_155_code
def yJ0_checkIndex_df160 : MethodName := ⟨RJ0, "checkIndex", "(II)V"⟩
abbrev cJ0_checkBoundsOffCount_cabcc : ByteArray := prog_30_method_157_code
def yJ0_checkBoundsOffCount_cabcc : MethodName := ⟨RJ0, "checkBoundsOffCount", "(III)I"⟩
abbrev cJ0_checkBoundsBeginEnd_23922 : ByteArray := prog_30_method_158_code
def yJ0_checkBoundsBeginEnd_23922 : MethodName := ⟨RJ0, "checkBoundsBeginEnd", "(III)V"⟩
def RJ4 : String := "java/lang/StringBuilder"
def TJ4 : u_T := fun k => match k with
  | 0 => ("java/lang/AbstractStringBuilder", "value", "[B", false)
  | 1 => ("java/lang/AbstractStringBuilder", "coder", "B", false)
  | 2 => ("java/lang/AbstractStringBuilder", "maybeLatin1", "Z", false)
  | _ => ("java/lang/AbstractStringBuilder", "count", "I", false)
def tyJ4 : Nat → FieldType := fun k => match k with
  | 0 => .array .byte
  | 1 => .byte
  | 2 => .boolean
  | _ => .int
theorem nmJ4 : ∀ a, a < 4 → ∀ b, b < 4 → a ≠ b → (TJ4 a).2.1 ≠ (TJ4 b).2.1 := by decide +kernel
theorem tyJ4_ok : ∀ k, k < 4 → parseFieldDescriptor (TJ4 k).2.2.1 = some (tyJ4 k) := by decide +kernel
abbrev cJ4_init_da8c8 : ByteArray := prog_31_method_1_code
def yJ4_init_da8c8 : MethodName := ⟨RJ4, "<init>", "()V"⟩
abbrev cJ4_init_a7421 : ByteArray := prog_31_method_3_code
def yJ4_init_a7421 : MethodName := ⟨RJ4, "<init>", "(Ljava/lang/String;)V"⟩
abbrev cJ4_append_15ec4 : ByteArray := prog_31_method_7_code
def yJ4_append_15ec4 : MethodName := ⟨RJ4, "append", "(Ljava/lang/String;)Ljava/lang/StringBuilder;"⟩
abbrev cJ4_append_cf468 : ByteArray := prog_31_method_14_code
def yJ4_append_cf468 : MethodName := ⟨RJ4, "append", "(C)Ljava/lang/StringBuilder;"⟩
abbrev cJ4_append_bf812 : ByteArray := prog_31_method_15_code
def yJ4_append_bf812 : MethodName := ⟨RJ4, "append", "(I)Ljava/lang/StringBuilder;"⟩
abbrev cJ4_toString_0e30d : ByteArray := prog_31_method_42_code
def yJ4_toString_0e30d : MethodName := ⟨RJ4, "toString", "()Ljava/lang/String;"⟩
abbrev cJ4_append_cf1ce : ByteArray := prog_31_method_80_code
def yJ4_append_cf1ce : MethodName := ⟨RJ4, "append", "(Ljava/lang/String;)Ljava/lang/AbstractStringBuilder;"⟩
abbrev cJ4_length_8abf5 : ByteArray := prog_31_method_93_code
def yJ4_length_8abf5 : MethodName := ⟨RJ4, "length", "()I"⟩
def RJ1 : String := "java/lang/StringLatin1"
def TJ1 : u_T := fun k => match k with
  | _ => ("", "", "", false)
def tyJ1 : Nat → FieldType := fun k => match k with
  | _ => .int
theorem nmJ1 : ∀ a, a < 0 → ∀ b, b < 0 → a ≠ b → (TJ1 a).2.1 ≠ (TJ1 b).2.1 := by decide +kernel
theorem tyJ1_ok : ∀ k, k < 0 → parseFieldDescriptor (TJ1 k).2.2.1 = some (tyJ1 k) := by decide +kernel
abbrev cJ1_charAt_3b067 : ByteArray := prog_32_method_2_code
def yJ1_charAt_3b067 : MethodName := ⟨RJ1, "charAt", "([BI)C"⟩
abbrev cJ1_canEncode_fc78d : ByteArray := prog_32_method_3_code
def yJ1_canEncode_fc78d : MethodName := ⟨RJ1, "canEncode", "(C)Z"⟩
abbrev cJ1_inflate_0e8fd : ByteArray := prog_32_method_50_code
def yJ1_inflate_0e8fd : MethodName := ⟨RJ1, "inflate", "([BI[BII)V"⟩
def RJ2 : String := "java/lang/StringUTF16"
def TJ2 : u_T := fun k => match k with
  | _ => ("", "", "", false)
def tyJ2 : Nat → FieldType := fun k => match k with
  | _ => .int
theorem nmJ2 : ∀ a, a < 0 → ∀ b, b < 0 → a ≠ b → (TJ2 a).2.1 ≠ (TJ2 b).2.1 := by decide +kernel
theorem tyJ2_ok : ∀ k, k < 0 → parseFieldDescriptor (TJ2 k).2.2.1 = some (tyJ2 k) := by decide +kernel
abbrev cJ2_newBytesFor_77867 : ByteArray := prog_33_method_2_code
def yJ2_newBytesFor_77867 : MethodName := ⟨RJ2, "newBytesFor", "(I)[B"⟩
abbrev cJ2_newBytesLength_0f7a4 : ByteArray := prog_33_method_3_code
def yJ2_newBytesLength_0f7a4 : MethodName := ⟨RJ2, "newBytesLength", "(I)I"⟩
abbrev cJ2_putChar_b72d1 : ByteArray := prog_33_method_4_code
def yJ2_putChar_b72d1 : MethodName := ⟨RJ2, "putChar", "([BII)V"⟩
abbrev cJ2_getChar_3b067 : ByteArray := prog_33_method_5_code
def yJ2_getChar_3b067 : MethodName := ⟨RJ2, "getChar", "([BI)C"⟩
abbrev cJ2_length_9d52b : ByteArray := prog_33_method_6_code
def yJ2_length_9d52b : MethodName := ⟨RJ2, "length", "([B)I"⟩
abbrev cJ2_coderFromArrayLen_85cad : ByteArray := prog_33_method_15_code
def yJ2_coderFromArrayLen_85cad : MethodName := ⟨RJ2, "coderFromArrayLen", "([BI)B"⟩
abbrev cJ2_compress_39247 : ByteArray := prog_33_method_17_code
def yJ2_compress_39247 : MethodName := ⟨RJ2, "compress", "([BII)[B"⟩
abbrev cJ2_compress_5af95 : ByteArray := prog_33_method_22_code
def yJ2_compress_5af95 : MethodName := ⟨RJ2, "compress", "([BI[BII)I"⟩
abbrev cJ2_putCharSB_b72d1 : ByteArray := prog_33_method_71_code
def yJ2_putCharSB_b72d1 : MethodName := ⟨RJ2, "putCharSB", "([BII)V"⟩
abbrev cJ2_getChars_46870 : ByteArray := prog_33_method_77_code
def yJ2_getChars_46870 : MethodName := ⟨RJ2, "getChars", "(III[B)I"⟩
abbrev cJ2_putCharsAt_cd4e5 : ByteArray := prog_33_method_81_code
def yJ2_putCharsAt_cd4e5 : MethodName := ⟨RJ2, "putCharsAt", "([BICCCC)I"⟩
abbrev cJ2_charAt_3b067 : ByteArray := prog_33_method_83_code
def yJ2_charAt_3b067 : MethodName := ⟨RJ2, "charAt", "([BI)C"⟩
abbrev cJ2_inflate_0e8fd : ByteArray := prog_33_method_86_code
def yJ2_inflate_0e8fd : MethodName := ⟨RJ2, "inflate", "([BI[BII)V"⟩
abbrev cJ2_getChars_ba4f3 : ByteArray := prog_33_method_89_code
def yJ2_getChars_ba4f3 : MethodName := ⟨RJ2, "getChars", "(II[B)I"⟩
abbrev cJ2_checkIndex_2214a : ByteArray := prog_33_method_91_code
def yJ2_checkIndex_2214a : MethodName := ⟨RJ2, "checkIndex", "(I[B)V"⟩
abbrev cJ2_checkBoundsBeginEnd_d044e : ByteArray := prog_33_method_93_code
def yJ2_checkBoundsBeginEnd_d044e : MethodName := ⟨RJ2, "checkBoundsBeginEnd", "(II[B)V"⟩
abbrev cJ2_checkBoundsOffCount_d044e : ByteArray := prog_33_method_94_code
def yJ2_checkBoundsOffCount_d044e : MethodName := ⟨RJ2, "checkBoundsOffCount", "(II[B)V"⟩
def RJ10 : String := "java/lang/System"
def TJ10 : u_T := fun k => match k with
  | _ => ("", "", "", false)
def tyJ10 : Nat → FieldType := fun k => match k with
  | _ => .int
theorem nmJ10 : ∀ a, a < 0 → ∀ b, b < 0 → a ≠ b → (TJ10 a).2.1 ≠ (TJ10 b).2.1 := by decide +kernel
theorem tyJ10_ok : ∀ k, k < 0 → parseFieldDescriptor (TJ10 k).2.2.1 = some (tyJ10 k) := by decide +kernel
def RJxfd54e : String := "java/lang/constant/Constable"
def TJxfd54e : u_T := fun k => match k with
  | _ => ("", "", "", false)
def tyJxfd54e : Nat → FieldType := fun k => match k with
  | _ => .int
theorem nmJxfd54e : ∀ a, a < 0 → ∀ b, b < 0 → a ≠ b → (TJxfd54e a).2.1 ≠ (TJxfd54e b).2.1 := by decide +kernel
theorem tyJxfd54e_ok : ∀ k, k < 0 → parseFieldDescriptor (TJxfd54e k).2.2.1 = some (tyJxfd54e k) := by decide +kernel
def RJx3cf43 : String := "java/lang/constant/ConstantDesc"
def TJx3cf43 : u_T := fun k => match k with
  | _ => ("", "", "", false)
def tyJx3cf43 : Nat → FieldType := fun k => match k with
  | _ => .int
theorem nmJx3cf43 : ∀ a, a < 0 → ∀ b, b < 0 → a ≠ b → (TJx3cf43 a).2.1 ≠ (TJx3cf43 b).2.1 := by decide +kernel
theorem tyJx3cf43_ok : ∀ k, k < 0 → parseFieldDescriptor (TJx3cf43 k).2.2.1 = some (tyJx3cf43 k) := by decide +kernel
def RJ7 : String := "java/util/Arrays"
def TJ7 : u_T := fun k => match k with
  | _ => ("", "", "", false)
def tyJ7 : Nat → FieldType := fun k => match k with
  | _ => .int
theorem nmJ7 : ∀ a, a < 0 → ∀ b, b < 0 → a ≠ b → (TJ7 a).2.1 ≠ (TJ7 b).2.1 := by decide +kernel
theorem tyJ7_ok : ∀ k, k < 0 → parseFieldDescriptor (TJ7 k).2.2.1 = some (tyJ7 k) := by decide +kernel
abbrev cJ7_copyOf_9075b : ByteArray := prog_38_method_121_code
def yJ7_copyOf_9075b : MethodName := ⟨RJ7, "copyOf", "([BI)[B"⟩
abbrev cJ7_checkLength_df160 : ByteArray := prog_38_method_131_code
def yJ7_checkLength_df160 : MethodName := ⟨RJ7, "checkLength", "(II)V"⟩
abbrev cJ7_copyOfRange_39247 : ByteArray := prog_38_method_132_code
def yJ7_copyOfRange_39247 : MethodName := ⟨RJ7, "copyOfRange", "([BII)[B"⟩
abbrev cJ7_copyOfRangeByte_39247 : ByteArray := prog_38_method_133_code
def yJ7_copyOfRangeByte_39247 : MethodName := ⟨RJ7, "copyOfRangeByte", "([BII)[B"⟩
def RJ8 : String := "jdk/internal/util/ArraysSupport"
def TJ8 : u_T := fun k => match k with
  | _ => ("", "", "", false)
def tyJ8 : Nat → FieldType := fun k => match k with
  | _ => .int
theorem nmJ8 : ∀ a, a < 0 → ∀ b, b < 0 → a ≠ b → (TJ8 a).2.1 ≠ (TJ8 b).2.1 := by decide +kernel
theorem tyJ8_ok : ∀ k, k < 0 → parseFieldDescriptor (TJ8 k).2.2.1 = some (tyJ8 k) := by decide +kernel
abbrev cJ8_newLength_cabcc : ByteArray := prog_40_method_27_code
def yJ8_newLength_cabcc : MethodName := ⟨RJ8, "newLength", "(III)I"⟩
abbrev cJ8_hugeLength_7cf53 : ByteArray := prog_40_method_28_code
def yJ8_hugeLength_7cf53 : MethodName := ⟨RJ8, "hugeLength", "(II)I"⟩
def RJ3 : String := "jdk/internal/util/Preconditions"
def TJ3 : u_T := fun k => match k with
  | _ => ("", "", "", false)
def tyJ3 : Nat → FieldType := fun k => match k with
  | _ => .int
theorem nmJ3 : ∀ a, a < 0 → ∀ b, b < 0 → a ≠ b → (TJ3 a).2.1 ≠ (TJ3 b).2.1 := by decide +kernel
theorem tyJ3_ok : ∀ k, k < 0 → parseFieldDescriptor (TJ3 k).2.2.1 = some (tyJ3 k) := by decide +kernel
abbrev cJ3_checkIndex_8e157 : ByteArray := prog_41_method_11_code
def yJ3_checkIndex_8e157 : MethodName := ⟨RJ3, "checkIndex", "(IILjava/util/function/BiFunction;)I"⟩
abbrev cJ3_checkFromToIndex_8c36e : ByteArray := prog_41_method_12_code
def yJ3_checkFromToIndex_8c36e : MethodName := ⟨RJ3, "checkFromToIndex", "(IIILjava/util/function/BiFunction;)I"⟩
abbrev cJ3_checkFromIndexSize_8c36e : ByteArray := prog_41_method_13_code
def yJ3_checkFromIndexSize_8c36e : MethodName := ⟨RJ3, "checkFromIndexSize", "(IIILjava/util/function/BiFunction;)I"⟩
def RL : String := "TicketGateLaw"
abbrev cL_cell : ByteArray := method_2_code
def yL_cell : MethodName := ⟨RL, "cell", "([II)I"⟩
abbrev cL_says : ByteArray := method_3_code
def yL_says : MethodName := ⟨RL, "says", "(LTicketGate;Ljava/lang/String;)V"⟩
abbrev cL_loaded : ByteArray := method_4_code
def yL_loaded : MethodName := ⟨RL, "loaded", "(LTicketGate;)I"⟩
abbrev cL_offset : ByteArray := method_5_code
def yL_offset : MethodName := ⟨RL, "offset", "(I)I"⟩
abbrev cL_clock : ByteArray := method_6_code
def yL_clock : MethodName := ⟨RL, "clock", "(I)Ljava/lang/String;"⟩
abbrev cL_isTrusted : ByteArray := method_7_code
def yL_isTrusted : MethodName := ⟨RL, "isTrusted", "([III)Z"⟩
abbrev cL_password : ByteArray := method_8_code
def yL_password : MethodName := ⟨RL, "password", "([II)I"⟩
abbrev cL_text : ByteArray := method_9_code
def yL_text : MethodName := ⟨RL, "text", "([I)Ljava/lang/String;"⟩
abbrev cL_acts : ByteArray := method_10_code
def yL_acts : MethodName := ⟨RL, "acts", "(LTicketGate;[II)I"⟩
abbrev cL_law : ByteArray := code
def yL_law : MethodName := ⟨RL, "law", "([I)Z"⟩
abbrev vwCl : List vw_C := [(RJ0, TJ0, 4), (RJ4, TJ4, 4), (RX0, TX0, 2), (RX1, TX1, 8), (RX2, TX2, 4), (RX3, TX3, 4), (RX4, TX4, 1), (RX5, TX5, 10), (RX7, TX7, 4), (RX8, TX8, 4), (RX9, TX9, 4), (RX10, TX10, 4), (RX11, TX11, 8), (RX12, TX12, 14)]
