/-! ===== BEGIN printed: names, fields, word lists, decode rows ===== -/
def RX0 : String := "Hubcascade$ByteRow"
def TX0 : u_T := fun k => match k with
  | 0 => ("Hubcascade$ByteRow", "cells", "[I", true)
  | 1 => ("Hubcascade$ByteRow", "oldest", "I", false)
  | 2 => ("Hubcascade$ByteRow", "size", "I", false)
  | _ => ("Hubcascade$ByteRow", "total", "I", false)
def tyX0 : Nat → FieldType := fun k => match k with
  | 0 => .array .int
  | 1 => .int
  | 2 => .int
  | _ => .int
abbrev wsX00 : List Cond := u_ws RX0 TX0 4
theorem nmX0 : ∀ a, a < 4 → ∀ b, b < 4 → a ≠ b → (TX0 a).2.1 ≠ (TX0 b).2.1 := by decide +kernel
theorem tyX0_ok : ∀ k, k < 4 → parseFieldDescriptor (TX0 k).2.2.1 = some (tyX0 k) := by decide +kernel
abbrev cX0_init : ByteArray := prog_2_method_1_code
def yX0_init : MethodName := ⟨RX0, "<init>", "()V"⟩
abbrev cX0_add : ByteArray := prog_2_method_2_code
def yX0_add : MethodName := ⟨RX0, "add", "(I)V"⟩
abbrev cX0_at : ByteArray := prog_2_method_3_code
def yX0_at : MethodName := ⟨RX0, "at", "(I)I"⟩
abbrev cX0_drop : ByteArray := prog_2_method_4_code
def yX0_drop : MethodName := ⟨RX0, "drop", "(I)V"⟩
def RX1 : String := "Hubcascade$Device"
def TX1 : u_T := fun k => match k with
  | 0 => ("Hubcascade$Device", "number", "I", true)
  | 1 => ("Hubcascade$Device", "speed", "C", false)
  | 2 => ("Hubcascade$Device", "ports", "I", false)
  | 3 => ("Hubcascade$Device", "power", "I", false)
  | 4 => ("Hubcascade$Device", "hasOwn", "Z", false)
  | 5 => ("Hubcascade$Device", "kind", "I", false)
  | 6 => ("Hubcascade$Device", "told", "I", false)
  | 7 => ("Hubcascade$Device", "state", "C", false)
  | 8 => ("Hubcascade$Device", "hub", "LHubcascade$Device;", false)
  | 9 => ("Hubcascade$Device", "port", "I", false)
  | 10 => ("Hubcascade$Device", "depth", "I", false)
  | 11 => ("Hubcascade$Device", "runs", "C", false)
  | 12 => ("Hubcascade$Device", "translatorNumber", "I", false)
  | 13 => ("Hubcascade$Device", "address", "I", false)
  | 14 => ("Hubcascade$Device", "driverNumber", "I", false)
  | 15 => ("Hubcascade$Device", "blames", "I", false)
  | 16 => ("Hubcascade$Device", "awakeBehind", "I", false)
  | 17 => ("Hubcascade$Device", "isLeaving", "Z", false)
  | 18 => ("Hubcascade$Device", "control", "LHubcascade$Fault;", true)
  | _ => ("Hubcascade$Device", "endpoints", "[LHubcascade$Endpoint;", true)
def tyX1 : Nat → FieldType := fun k => match k with
  | 0 => .int
  | 1 => .char
  | 2 => .int
  | 3 => .int
  | 4 => .boolean
  | 5 => .int
  | 6 => .int
  | 7 => .char
  | 8 => .object "Hubcascade$Device"
  | 9 => .int
  | 10 => .int
  | 11 => .char
  | 12 => .int
  | 13 => .int
  | 14 => .int
  | 15 => .int
  | 16 => .int
  | 17 => .boolean
  | 18 => .object "Hubcascade$Fault"
  | _ => .array (.object "Hubcascade$Endpoint")
abbrev wsX10 : List Cond := u_ws RX1 TX1 20
theorem nmX1 : ∀ a, a < 20 → ∀ b, b < 20 → a ≠ b → (TX1 a).2.1 ≠ (TX1 b).2.1 := by decide +kernel
theorem tyX1_ok : ∀ k, k < 20 → parseFieldDescriptor (TX1 k).2.2.1 = some (tyX1 k) := by decide +kernel
abbrev cX1_init : ByteArray := prog_3_method_1_code
def yX1_init : MethodName := ⟨RX1, "<init>", "(I)V"⟩
abbrev cX1_countEndpoints : ByteArray := prog_3_method_2_code
def yX1_countEndpoints : MethodName := ⟨RX1, "countEndpoints", "()I"⟩
abbrev cX1_leave : ByteArray := prog_3_method_3_code
def yX1_leave : MethodName := ⟨RX1, "leave", "()V"⟩
def RX2 : String := "Hubcascade$Endpoint"
def TX2 : u_T := fun k => match k with
  | 0 => ("Hubcascade$Endpoint", "isMade", "Z", false)
  | 1 => ("Hubcascade$Endpoint", "isIn", "Z", false)
  | 2 => ("Hubcascade$Endpoint", "isPiped", "Z", false)
  | 3 => ("Hubcascade$Endpoint", "greatest", "I", false)
  | 4 => ("Hubcascade$Endpoint", "toggle", "I", false)
  | 5 => ("Hubcascade$Endpoint", "unanswered", "I", false)
  | 6 => ("Hubcascade$Endpoint", "sentThere", "I", false)
  | 7 => ("Hubcascade$Endpoint", "bytes", "LHubcascade$ByteRow;", true)
  | _ => ("Hubcascade$Endpoint", "fault", "LHubcascade$Fault;", true)
def tyX2 : Nat → FieldType := fun k => match k with
  | 0 => .boolean
  | 1 => .boolean
  | 2 => .boolean
  | 3 => .int
  | 4 => .int
  | 5 => .int
  | 6 => .int
  | 7 => .object "Hubcascade$ByteRow"
  | _ => .object "Hubcascade$Fault"
abbrev wsX20 : List Cond := u_ws RX2 TX2 9
theorem nmX2 : ∀ a, a < 9 → ∀ b, b < 9 → a ≠ b → (TX2 a).2.1 ≠ (TX2 b).2.1 := by decide +kernel
theorem tyX2_ok : ∀ k, k < 9 → parseFieldDescriptor (TX2 k).2.2.1 = some (tyX2 k) := by decide +kernel
abbrev cX2_init : ByteArray := prog_4_method_1_code
def yX2_init : MethodName := ⟨RX2, "<init>", "()V"⟩
abbrev cX2_takeFrom : ByteArray := prog_4_method_2_code
def yX2_takeFrom : MethodName := ⟨RX2, "takeFrom", "(LHubcascade$Transfer;I)V"⟩
abbrev cX2_forget : ByteArray := prog_4_method_3_code
def yX2_forget : MethodName := ⟨RX2, "forget", "(I)V"⟩
def RX3 : String := "Hubcascade$Events"
def TX3 : u_T := fun k => match k with
  | 0 => ("Hubcascade$Events", "kinds", "[C", true)
  | 1 => ("Hubcascade$Events", "pipes", "[I", true)
  | 2 => ("Hubcascade$Events", "bytes", "[I", true)
  | 3 => ("Hubcascade$Events", "first", "I", false)
  | 4 => ("Hubcascade$Events", "size", "I", false)
  | 5 => ("Hubcascade$Events", "lost", "I", false)
  | 6 => ("Hubcascade$Events", "overs", "I", false)
  | 7 => ("Hubcascade$Events", "overBytes", "I", false)
  | 8 => ("Hubcascade$Events", "lastPipe", "I", false)
  | _ => ("Hubcascade$Events", "lastBytes", "I", false)
def tyX3 : Nat → FieldType := fun k => match k with
  | 0 => .array .char
  | 1 => .array .int
  | 2 => .array .int
  | 3 => .int
  | 4 => .int
  | 5 => .int
  | 6 => .int
  | 7 => .int
  | 8 => .int
  | _ => .int
abbrev wsX30 : List Cond := u_ws RX3 TX3 10
theorem nmX3 : ∀ a, a < 10 → ∀ b, b < 10 → a ≠ b → (TX3 a).2.1 ≠ (TX3 b).2.1 := by decide +kernel
theorem tyX3_ok : ∀ k, k < 10 → parseFieldDescriptor (TX3 k).2.2.1 = some (tyX3 k) := by decide +kernel
abbrev cX3_init : ByteArray := prog_5_method_1_code
def yX3_init : MethodName := ⟨RX3, "<init>", "()V"⟩
abbrev cX3_put : ByteArray := prog_5_method_2_code
def yX3_put : MethodName := ⟨RX3, "put", "(CII)V"⟩
abbrev cX3_takeFirst : ByteArray := prog_5_method_3_code
def yX3_takeFirst : MethodName := ⟨RX3, "takeFirst", "()C"⟩
def RX4 : String := "Hubcascade$Fault"
def TX4 : u_T := fun k => match k with
  | 0 => ("Hubcascade$Fault", "kind", "C", false)
  | _ => ("Hubcascade$Fault", "transactions", "I", false)
def tyX4 : Nat → FieldType := fun k => match k with
  | 0 => .char
  | _ => .int
abbrev wsX40 : List Cond := u_ws RX4 TX4 2
theorem nmX4 : ∀ a, a < 2 → ∀ b, b < 2 → a ≠ b → (TX4 a).2.1 ≠ (TX4 b).2.1 := by decide +kernel
theorem tyX4_ok : ∀ k, k < 2 → parseFieldDescriptor (TX4 k).2.2.1 = some (tyX4 k) := by decide +kernel
abbrev cX4_init : ByteArray := prog_6_method_1_code
def yX4_init : MethodName := ⟨RX4, "<init>", "()V"⟩
abbrev cX4_use : ByteArray := prog_6_method_2_code
def yX4_use : MethodName := ⟨RX4, "use", "()C"⟩
def RX5 : String := "Hubcascade$Pipe"
def TX5 : u_T := fun k => match k with
  | 0 => ("Hubcascade$Pipe", "number", "I", true)
  | 1 => ("Hubcascade$Pipe", "device", "LHubcascade$Device;", false)
  | 2 => ("Hubcascade$Pipe", "endpoint", "LHubcascade$Endpoint;", false)
  | 3 => ("Hubcascade$Pipe", "kind", "C", false)
  | 4 => ("Hubcascade$Pipe", "interval", "I", false)
  | 5 => ("Hubcascade$Pipe", "phase", "I", false)
  | 6 => ("Hubcascade$Pipe", "toggle", "I", false)
  | 7 => ("Hubcascade$Pipe", "failures", "I", false)
  | 8 => ("Hubcascade$Pipe", "isStopped", "Z", false)
  | 9 => ("Hubcascade$Pipe", "cause", "C", false)
  | 10 => ("Hubcascade$Pipe", "hasPaused", "Z", false)
  | 11 => ("Hubcascade$Pipe", "transfers", "[LHubcascade$Transfer;", true)
  | 12 => ("Hubcascade$Pipe", "first", "I", false)
  | _ => ("Hubcascade$Pipe", "count", "I", false)
def tyX5 : Nat → FieldType := fun k => match k with
  | 0 => .int
  | 1 => .object "Hubcascade$Device"
  | 2 => .object "Hubcascade$Endpoint"
  | 3 => .char
  | 4 => .int
  | 5 => .int
  | 6 => .int
  | 7 => .int
  | 8 => .boolean
  | 9 => .char
  | 10 => .boolean
  | 11 => .array (.object "Hubcascade$Transfer")
  | 12 => .int
  | _ => .int
abbrev wsX50 : List Cond := u_ws RX5 TX5 14
theorem nmX5 : ∀ a, a < 14 → ∀ b, b < 14 → a ≠ b → (TX5 a).2.1 ≠ (TX5 b).2.1 := by decide +kernel
theorem tyX5_ok : ∀ k, k < 14 → parseFieldDescriptor (TX5 k).2.2.1 = some (tyX5 k) := by decide +kernel
abbrev cX5_init : ByteArray := prog_7_method_1_code
def yX5_init : MethodName := ⟨RX5, "<init>", "(I)V"⟩
abbrev cX5_isOpen : ByteArray := prog_7_method_2_code
def yX5_isOpen : MethodName := ⟨RX5, "isOpen", "()Z"⟩
abbrev cX5_attach : ByteArray := prog_7_method_3_code
def yX5_attach : MethodName := ⟨RX5, "attach", "(LHubcascade$Device;LHubcascade$Endpoint;C)V"⟩
abbrev cX5_detach : ByteArray := prog_7_method_4_code
def yX5_detach : MethodName := ⟨RX5, "detach", "()V"⟩
abbrev cX5_startAnew : ByteArray := prog_7_method_5_code
def yX5_startAnew : MethodName := ⟨RX5, "startAnew", "()V"⟩
abbrev cX5_isDueIn : ByteArray := prog_7_method_6_code
def yX5_isDueIn : MethodName := ⟨RX5, "isDueIn", "(I)Z"⟩
abbrev cX5_transferAt : ByteArray := prog_7_method_7_code
def yX5_transferAt : MethodName := ⟨RX5, "transferAt", "(I)LHubcascade$Transfer;"⟩
abbrev cX5_addTransfer : ByteArray := prog_7_method_8_code
def yX5_addTransfer : MethodName := ⟨RX5, "addTransfer", "(I)LHubcascade$Transfer;"⟩
abbrev cX5_dropFirst : ByteArray := prog_7_method_9_code
def yX5_dropFirst : MethodName := ⟨RX5, "dropFirst", "()V"⟩
def RX6 : String := "Hubcascade$Sniffer"
def TX6 : u_T := fun k => match k with
  | 0 => ("Hubcascade$Sniffer", "tokens", "I", false)
  | 1 => ("Hubcascade$Sniffer", "data", "I", false)
  | _ => ("Hubcascade$Sniffer", "handshakes", "I", false)
def tyX6 : Nat → FieldType := fun k => match k with
  | 0 => .int
  | 1 => .int
  | _ => .int
abbrev wsX60 : List Cond := u_ws RX6 TX6 3
theorem nmX6 : ∀ a, a < 3 → ∀ b, b < 3 → a ≠ b → (TX6 a).2.1 ≠ (TX6 b).2.1 := by decide +kernel
theorem tyX6_ok : ∀ k, k < 3 → parseFieldDescriptor (TX6 k).2.2.1 = some (tyX6 k) := by decide +kernel
abbrev cX6_init : ByteArray := prog_8_method_1_code
def yX6_init : MethodName := ⟨RX6, "<init>", "()V"⟩
def RX7 : String := "Hubcascade$Transfer"
def TX7 : u_T := fun k => match k with
  | 0 => ("Hubcascade$Transfer", "bytes", "[I", true)
  | 1 => ("Hubcascade$Transfer", "total", "I", false)
  | 2 => ("Hubcascade$Transfer", "done", "I", false)
  | 3 => ("Hubcascade$Transfer", "isBegun", "Z", false)
  | 4 => ("Hubcascade$Transfer", "isLossy", "Z", false)
  | _ => ("Hubcascade$Transfer", "isCutShort", "Z", false)
def tyX7 : Nat → FieldType := fun k => match k with
  | 0 => .array .int
  | 1 => .int
  | 2 => .int
  | 3 => .boolean
  | 4 => .boolean
  | _ => .boolean
abbrev wsX70 : List Cond := u_ws RX7 TX7 6
theorem nmX7 : ∀ a, a < 6 → ∀ b, b < 6 → a ≠ b → (TX7 a).2.1 ≠ (TX7 b).2.1 := by decide +kernel
theorem tyX7_ok : ∀ k, k < 6 → parseFieldDescriptor (TX7 k).2.2.1 = some (tyX7 k) := by decide +kernel
abbrev cX7_init : ByteArray := prog_9_method_1_code
def yX7_init : MethodName := ⟨RX7, "<init>", "()V"⟩
def RX8 : String := "Hubcascade$Units"
def TX8 : u_T := fun k => match k with
  | 0 => ("Hubcascade$Units", "host", "[I", true)
  | 1 => ("Hubcascade$Units", "hubs", "[I", true)
  | 2 => ("Hubcascade$Units", "hostLeft", "I", false)
  | 3 => ("Hubcascade$Units", "hubsLeft", "[I", true)
  | _ => ("Hubcascade$Units", "hostUsed", "I", false)
def tyX8 : Nat → FieldType := fun k => match k with
  | 0 => .array .int
  | 1 => .array .int
  | 2 => .int
  | 3 => .array .int
  | _ => .int
abbrev wsX80 : List Cond := u_ws RX8 TX8 5
theorem nmX8 : ∀ a, a < 5 → ∀ b, b < 5 → a ≠ b → (TX8 a).2.1 ≠ (TX8 b).2.1 := by decide +kernel
theorem tyX8_ok : ∀ k, k < 5 → parseFieldDescriptor (TX8 k).2.2.1 = some (tyX8 k) := by decide +kernel
abbrev cX8_init : ByteArray := prog_10_method_1_code
def yX8_init : MethodName := ⟨RX8, "<init>", "()V"⟩
abbrev cX8_beginFrame : ByteArray := prog_10_method_2_code
def yX8_beginFrame : MethodName := ⟨RX8, "beginFrame", "()V"⟩
abbrev cX8_isRoomFor : ByteArray := prog_10_method_3_code
def yX8_isRoomFor : MethodName := ⟨RX8, "isRoomFor", "(III)Z"⟩
abbrev cX8_use : ByteArray := prog_10_method_4_code
def yX8_use : MethodName := ⟨RX8, "use", "(III)V"⟩
abbrev cX8_reserve : ByteArray := prog_10_method_5_code
def yX8_reserve : MethodName := ⟨RX8, "reserve", "(IIII)V"⟩
abbrev cX8_bestPhase : ByteArray := prog_10_method_6_code
def yX8_bestPhase : MethodName := ⟨RX8, "bestPhase", "(IIII)I"⟩
abbrev cX8_hostPeak : ByteArray := prog_10_method_7_code
def yX8_hostPeak : MethodName := ⟨RX8, "hostPeak", "(III)I"⟩
abbrev cX8_hubPeak : ByteArray := prog_10_method_8_code
def yX8_hubPeak : MethodName := ⟨RX8, "hubPeak", "(IIII)I"⟩
def RX9 : String := "Hubcascade"
def TX9 : u_T := fun k => match k with
  | 0 => ("Hubcascade", "devices", "[LHubcascade$Device;", true)
  | 1 => ("Hubcascade", "deviceCount", "I", false)
  | 2 => ("Hubcascade", "driverClasses", "[I", true)
  | 3 => ("Hubcascade", "driverSubclasses", "[I", true)
  | 4 => ("Hubcascade", "driverCount", "I", false)
  | 5 => ("Hubcascade", "pipes", "[LHubcascade$Pipe;", true)
  | 6 => ("Hubcascade", "lastTurn", "I", false)
  | 7 => ("Hubcascade", "frames", "I", false)
  | 8 => ("Hubcascade", "typed", "LHubcascade$ByteRow;", true)
  | 9 => ("Hubcascade", "received", "LHubcascade$ByteRow;", true)
  | 10 => ("Hubcascade", "units", "LHubcascade$Units;", true)
  | 11 => ("Hubcascade", "events", "LHubcascade$Events;", true)
  | _ => ("Hubcascade", "sniffer", "LHubcascade$Sniffer;", true)
def tyX9 : Nat → FieldType := fun k => match k with
  | 0 => .array (.object "Hubcascade$Device")
  | 1 => .int
  | 2 => .array .int
  | 3 => .array .int
  | 4 => .int
  | 5 => .array (.object "Hubcascade$Pipe")
  | 6 => .int
  | 7 => .int
  | 8 => .object "Hubcascade$ByteRow"
  | 9 => .object "Hubcascade$ByteRow"
  | 10 => .object "Hubcascade$Units"
  | 11 => .object "Hubcascade$Events"
  | _ => .object "Hubcascade$Sniffer"
abbrev wsX90 : List Cond := u_ws RX9 TX9 13
theorem nmX9 : ∀ a, a < 13 → ∀ b, b < 13 → a ≠ b → (TX9 a).2.1 ≠ (TX9 b).2.1 := by decide +kernel
theorem tyX9_ok : ∀ k, k < 13 → parseFieldDescriptor (TX9 k).2.2.1 = some (tyX9 k) := by decide +kernel
abbrev cX9_init : ByteArray := prog_1_method_1_code
def yX9_init : MethodName := ⟨RX9, "<init>", "()V"⟩
abbrev cX9_make : ByteArray := prog_1_method_2_code
def yX9_make : MethodName := ⟨RX9, "make", "(CIIZI)I"⟩
abbrev cX9_endpoint : ByteArray := prog_1_method_3_code
def yX9_endpoint : MethodName := ⟨RX9, "endpoint", "(IIZI)I"⟩
abbrev cX9_plug : ByteArray := prog_1_method_4_code
def yX9_plug : MethodName := ⟨RX9, "plug", "(III)I"⟩
abbrev cX9_unplug : ByteArray := prog_1_method_5_code
def yX9_unplug : MethodName := ⟨RX9, "unplug", "(I)I"⟩
abbrev cX9_stateOf : ByteArray := prog_1_method_6_code
def yX9_stateOf : MethodName := ⟨RX9, "stateOf", "(I)C"⟩
abbrev cX9_hubOf : ByteArray := prog_1_method_7_code
def yX9_hubOf : MethodName := ⟨RX9, "hubOf", "(I)I"⟩
abbrev cX9_depthOf : ByteArray := prog_1_method_8_code
def yX9_depthOf : MethodName := ⟨RX9, "depthOf", "(I)I"⟩
abbrev cX9_speedOf : ByteArray := prog_1_method_9_code
def yX9_speedOf : MethodName := ⟨RX9, "speedOf", "(I)C"⟩
abbrev cX9_translator : ByteArray := prog_1_method_10_code
def yX9_translator : MethodName := ⟨RX9, "translator", "(I)I"⟩
abbrev cX9_addressOf : ByteArray := prog_1_method_11_code
def yX9_addressOf : MethodName := ⟨RX9, "addressOf", "(I)I"⟩
abbrev cX9_look : ByteArray := prog_1_method_12_code
def yX9_look : MethodName := ⟨RX9, "look", "()I"⟩
abbrev cX9_driver : ByteArray := prog_1_method_13_code
def yX9_driver : MethodName := ⟨RX9, "driver", "(II)I"⟩
abbrev cX9_driverOf : ByteArray := prog_1_method_14_code
def yX9_driverOf : MethodName := ⟨RX9, "driverOf", "(I)I"⟩
abbrev cX9_draw : ByteArray := prog_1_method_15_code
def yX9_draw : MethodName := ⟨RX9, "draw", "(II)I"⟩
abbrev cX9_sleep : ByteArray := prog_1_method_16_code
def yX9_sleep : MethodName := ⟨RX9, "sleep", "(I)I"⟩
abbrev cX9_wake : ByteArray := prog_1_method_17_code
def yX9_wake : MethodName := ⟨RX9, "wake", "(I)I"⟩
abbrev cX9_five : ByteArray := prog_1_method_18_code
def yX9_five : MethodName := ⟨RX9, "five", "(I)I"⟩
abbrev cX9_type : ByteArray := prog_1_method_19_code
def yX9_type : MethodName := ⟨RX9, "type", "(I)I"⟩
abbrev cX9_wipe : ByteArray := prog_1_method_20_code
def yX9_wipe : MethodName := ⟨RX9, "wipe", "()I"⟩
abbrev cX9_sixteen : ByteArray := prog_1_method_21_code
def yX9_sixteen : MethodName := ⟨RX9, "sixteen", "()I"⟩
abbrev cX9_stuffed : ByteArray := prog_1_method_22_code
def yX9_stuffed : MethodName := ⟨RX9, "stuffed", "()I"⟩
abbrev cX9_open : ByteArray := prog_1_method_23_code
def yX9_open : MethodName := ⟨RX9, "open", "(IICI)I"⟩
abbrev cX9_close : ByteArray := prog_1_method_24_code
def yX9_close : MethodName := ⟨RX9, "close", "(I)I"⟩
abbrev cX9_phaseOf : ByteArray := prog_1_method_25_code
def yX9_phaseOf : MethodName := ⟨RX9, "phaseOf", "(I)I"⟩
abbrev cX9_reserved : ByteArray := prog_1_method_26_code
def yX9_reserved : MethodName := ⟨RX9, "reserved", "(II)I"⟩
abbrev cX9_send : ByteArray := prog_1_method_27_code
def yX9_send : MethodName := ⟨RX9, "send", "(I)I"⟩
abbrev cX9_ask : ByteArray := prog_1_method_28_code
def yX9_ask : MethodName := ⟨RX9, "ask", "(II)I"⟩
abbrev cX9_ring : ByteArray := prog_1_method_29_code
def yX9_ring : MethodName := ⟨RX9, "ring", "(I)I"⟩
abbrev cX9_isHalted : ByteArray := prog_1_method_30_code
def yX9_isHalted : MethodName := ⟨RX9, "isHalted", "(I)Z"⟩
abbrev cX9_clear : ByteArray := prog_1_method_31_code
def yX9_clear : MethodName := ⟨RX9, "clear", "(I)I"⟩
abbrev cX9_cancel : ByteArray := prog_1_method_32_code
def yX9_cancel : MethodName := ⟨RX9, "cancel", "(I)I"⟩
abbrev cX9_load : ByteArray := prog_1_method_33_code
def yX9_load : MethodName := ⟨RX9, "load", "(II)I"⟩
abbrev cX9_fault : ByteArray := prog_1_method_34_code
def yX9_fault : MethodName := ⟨RX9, "fault", "(IICI)I"⟩
abbrev cX9_frame : ByteArray := prog_1_method_35_code
def yX9_frame : MethodName := ⟨RX9, "frame", "()I"⟩
abbrev cX9_frames : ByteArray := prog_1_method_36_code
def yX9_frames : MethodName := ⟨RX9, "frames", "()I"⟩
abbrev cX9_left : ByteArray := prog_1_method_37_code
def yX9_left : MethodName := ⟨RX9, "left", "(I)I"⟩
abbrev cX9_events : ByteArray := prog_1_method_38_code
def yX9_events : MethodName := ⟨RX9, "events", "()I"⟩
abbrev cX9_event : ByteArray := prog_1_method_39_code
def yX9_event : MethodName := ⟨RX9, "event", "()C"⟩
abbrev cX9_eventPipe : ByteArray := prog_1_method_40_code
def yX9_eventPipe : MethodName := ⟨RX9, "eventPipe", "()I"⟩
abbrev cX9_eventBytes : ByteArray := prog_1_method_41_code
def yX9_eventBytes : MethodName := ⟨RX9, "eventBytes", "()I"⟩
abbrev cX9_missed : ByteArray := prog_1_method_42_code
def yX9_missed : MethodName := ⟨RX9, "missed", "()I"⟩
abbrev cX9_taken : ByteArray := prog_1_method_43_code
def yX9_taken : MethodName := ⟨RX9, "taken", "(II)I"⟩
abbrev cX9_takenAt : ByteArray := prog_1_method_44_code
def yX9_takenAt : MethodName := ⟨RX9, "takenAt", "(III)I"⟩
abbrev cX9_waiting : ByteArray := prog_1_method_45_code
def yX9_waiting : MethodName := ⟨RX9, "waiting", "(II)I"⟩
abbrev cX9_got : ByteArray := prog_1_method_46_code
def yX9_got : MethodName := ⟨RX9, "got", "()I"⟩
abbrev cX9_gotAt : ByteArray := prog_1_method_47_code
def yX9_gotAt : MethodName := ⟨RX9, "gotAt", "(I)I"⟩
abbrev cX9_packets : ByteArray := prog_1_method_48_code
def yX9_packets : MethodName := ⟨RX9, "packets", "(C)I"⟩
abbrev cX9_blame : ByteArray := prog_1_method_49_code
def yX9_blame : MethodName := ⟨RX9, "blame", "(I)I"⟩
abbrev cX9_causeOf : ByteArray := prog_1_method_50_code
def yX9_causeOf : MethodName := ⟨RX9, "causeOf", "(I)C"⟩
abbrev cX9_busyShare : ByteArray := prog_1_method_51_code
def yX9_busyShare : MethodName := ⟨RX9, "busyShare", "()F"⟩
abbrev cX9_meanBytes : ByteArray := prog_1_method_52_code
def yX9_meanBytes : MethodName := ⟨RX9, "meanBytes", "()D"⟩
abbrev cX9_checksum : ByteArray := prog_1_method_53_code
def yX9_checksum : MethodName := ⟨RX9, "checksum", "()J"⟩
abbrev cX9_isSound : ByteArray := prog_1_method_54_code
def yX9_isSound : MethodName := ⟨RX9, "isSound", "()Z"⟩
abbrev cX9_isWithin : ByteArray := prog_1_method_55_code
def yX9_isWithin : MethodName := ⟨RX9, "isWithin", "(III)Z"⟩
abbrev cX9_deviceAt : ByteArray := prog_1_method_56_code
def yX9_deviceAt : MethodName := ⟨RX9, "deviceAt", "(I)LHubcascade$Device;"⟩
abbrev cX9_deviceBelowHost : ByteArray := prog_1_method_57_code
def yX9_deviceBelowHost : MethodName := ⟨RX9, "deviceBelowHost", "(I)LHubcascade$Device;"⟩
abbrev cX9_endpointAt : ByteArray := prog_1_method_58_code
def yX9_endpointAt : MethodName := ⟨RX9, "endpointAt", "(LHubcascade$Device;I)LHubcascade$Endpoint;"⟩
abbrev cX9_endpointOut : ByteArray := prog_1_method_59_code
def yX9_endpointOut : MethodName := ⟨RX9, "endpointOut", "(II)LHubcascade$Endpoint;"⟩
abbrev cX9_openPipe : ByteArray := prog_1_method_60_code
def yX9_openPipe : MethodName := ⟨RX9, "openPipe", "(I)LHubcascade$Pipe;"⟩
abbrev cX9_newest : ByteArray := prog_1_method_61_code
def yX9_newest : MethodName := ⟨RX9, "newest", "(LHubcascade$ByteRow;I)I"⟩
abbrev cX9_isFault : ByteArray := prog_1_method_62_code
def yX9_isFault : MethodName := ⟨RX9, "isFault", "(C)Z"⟩
abbrev cX9_isPeriodic : ByteArray := prog_1_method_63_code
def yX9_isPeriodic : MethodName := ⟨RX9, "isPeriodic", "(C)Z"⟩
abbrev cX9_isInterval : ByteArray := prog_1_method_64_code
def yX9_isInterval : MethodName := ⟨RX9, "isInterval", "(I)Z"⟩
abbrev cX9_isSpeed : ByteArray := prog_1_method_65_code
def yX9_isSpeed : MethodName := ⟨RX9, "isSpeed", "(C)Z"⟩
abbrev cX9_lowerSpeed : ByteArray := prog_1_method_66_code
def yX9_lowerSpeed : MethodName := ⟨RX9, "lowerSpeed", "(CC)C"⟩
abbrev cX9_takesDevices : ByteArray := prog_1_method_67_code
def yX9_takesDevices : MethodName := ⟨RX9, "takesDevices", "(LHubcascade$Device;)Z"⟩
abbrev cX9_isPortTaken : ByteArray := prog_1_method_68_code
def yX9_isPortTaken : MethodName := ⟨RX9, "isPortTaken", "(LHubcascade$Device;I)Z"⟩
abbrev cX9_isSameOrBelow : ByteArray := prog_1_method_69_code
def yX9_isSameOrBelow : MethodName := ⟨RX9, "isSameOrBelow", "(LHubcascade$Device;LHubcascade$Device;)Z"⟩
abbrev cX9_detach : ByteArray := prog_1_method_70_code
def yX9_detach : MethodName := ⟨RX9, "detach", "(LHubcascade$Device;Z)I"⟩
abbrev cX9_disable : ByteArray := prog_1_method_71_code
def yX9_disable : MethodName := ⟨RX9, "disable", "(LHubcascade$Device;C)V"⟩
abbrev cX9_firstNewDevice : ByteArray := prog_1_method_72_code
def yX9_firstNewDevice : MethodName := ⟨RX9, "firstNewDevice", "()LHubcascade$Device;"⟩
abbrev cX9_answersControl : ByteArray := prog_1_method_73_code
def yX9_answersControl : MethodName := ⟨RX9, "answersControl", "(LHubcascade$Device;)Z"⟩
abbrev cX9_lowestFreeAddress : ByteArray := prog_1_method_74_code
def yX9_lowestFreeAddress : MethodName := ⟨RX9, "lowestFreeAddress", "()I"⟩
abbrev cX9_isAddressUsed : ByteArray := prog_1_method_75_code
def yX9_isAddressUsed : MethodName := ⟨RX9, "isAddressUsed", "(I)Z"⟩
abbrev cX9_portPower : ByteArray := prog_1_method_76_code
def yX9_portPower : MethodName := ⟨RX9, "portPower", "(LHubcascade$Device;)I"⟩
abbrev cX9_drawnBy : ByteArray := prog_1_method_77_code
def yX9_drawnBy : MethodName := ⟨RX9, "drawnBy", "(LHubcascade$Device;)I"⟩
abbrev cX9_fittingDriver : ByteArray := prog_1_method_78_code
def yX9_fittingDriver : MethodName := ⟨RX9, "fittingDriver", "(II)I"⟩
abbrev cX9_firstDriver : ByteArray := prog_1_method_79_code
def yX9_firstDriver : MethodName := ⟨RX9, "firstDriver", "(II)I"⟩
abbrev cX9_hasTransferWithin : ByteArray := prog_1_method_80_code
def yX9_hasTransferWithin : MethodName := ⟨RX9, "hasTransferWithin", "(LHubcascade$Device;)Z"⟩
abbrev cX9_shutGreedyDevices : ByteArray := prog_1_method_81_code
def yX9_shutGreedyDevices : MethodName := ⟨RX9, "shutGreedyDevices", "()V"⟩
abbrev cX9_checkBit : ByteArray := prog_1_method_82_code
def yX9_checkBit : MethodName := ⟨RX9, "checkBit", "(IIII)I"⟩
abbrev cX9_hostCost : ByteArray := prog_1_method_83_code
def yX9_hostCost : MethodName := ⟨RX9, "hostCost", "(I)I"⟩
abbrev cX9_hubCost : ByteArray := prog_1_method_84_code
def yX9_hubCost : MethodName := ⟨RX9, "hubCost", "(CI)I"⟩
abbrev cX9_firstClosedPipe : ByteArray := prog_1_method_85_code
def yX9_firstClosedPipe : MethodName := ⟨RX9, "firstClosedPipe", "()LHubcascade$Pipe;"⟩
abbrev cX9_closeBy : ByteArray := prog_1_method_86_code
def yX9_closeBy : MethodName := ⟨RX9, "closeBy", "(LHubcascade$Pipe;C)I"⟩
abbrev cX9_endFirst : ByteArray := prog_1_method_87_code
def yX9_endFirst : MethodName := ⟨RX9, "endFirst", "(LHubcascade$Pipe;C)V"⟩
abbrev cX9_reserveFor : ByteArray := prog_1_method_88_code
def yX9_reserveFor : MethodName := ⟨RX9, "reserveFor", "(LHubcascade$Pipe;LHubcascade$Device;LHubcascade$Endpoint;I)V"⟩
abbrev cX9_nextBulkPipe : ByteArray := prog_1_method_89_code
def yX9_nextBulkPipe : MethodName := ⟨RX9, "nextBulkPipe", "()LHubcascade$Pipe;"⟩
abbrev cX9_canGo : ByteArray := prog_1_method_90_code
def yX9_canGo : MethodName := ⟨RX9, "canGo", "(LHubcascade$Pipe;)Z"⟩
abbrev cX9_bytesPaid : ByteArray := prog_1_method_91_code
def yX9_bytesPaid : MethodName := ⟨RX9, "bytesPaid", "(LHubcascade$Endpoint;LHubcascade$Transfer;)I"⟩
abbrev cX9_packetBytes : ByteArray := prog_1_method_92_code
def yX9_packetBytes : MethodName := ⟨RX9, "packetBytes", "(LHubcascade$Endpoint;LHubcascade$Transfer;)I"⟩
abbrev cX9_takeTurn : ByteArray := prog_1_method_93_code
def yX9_takeTurn : MethodName := ⟨RX9, "takeTurn", "(LHubcascade$Pipe;)V"⟩
abbrev cX9_settle : ByteArray := prog_1_method_94_code
def yX9_settle : MethodName := ⟨RX9, "settle", "(LHubcascade$Pipe;LHubcascade$Transfer;IC)V"⟩
abbrev cX9_halt : ByteArray := prog_1_method_95_code
def yX9_halt : MethodName := ⟨RX9, "halt", "(LHubcascade$Pipe;CC)V"⟩
abbrev cX9_passSound : ByteArray := prog_1_method_96_code
def yX9_passSound : MethodName := ⟨RX9, "passSound", "(LHubcascade$Endpoint;LHubcascade$Transfer;IC)I"⟩
abbrev cX9_passOut : ByteArray := prog_1_method_97_code
def yX9_passOut : MethodName := ⟨RX9, "passOut", "(LHubcascade$Pipe;LHubcascade$Endpoint;LHubcascade$Transfer;IC)I"⟩
abbrev cX9_passIn : ByteArray := prog_1_method_98_code
def yX9_passIn : MethodName := ⟨RX9, "passIn", "(LHubcascade$Pipe;LHubcascade$Device;LHubcascade$Endpoint;LHubcascade$Transfer;IC)I"⟩
abbrev cX9_receive : ByteArray := prog_1_method_99_code
def yX9_receive : MethodName := ⟨RX9, "receive", "(LHubcascade$Endpoint;I)V"⟩
abbrev cX9_areReservesRight : ByteArray := prog_1_method_100_code
def yX9_areReservesRight : MethodName := ⟨RX9, "areReservesRight", "()Z"⟩
abbrev cX9_reckonReserved : ByteArray := prog_1_method_101_code
def yX9_reckonReserved : MethodName := ⟨RX9, "reckonReserved", "(II)I"⟩
abbrev cX9_areAddressesUnlike : ByteArray := prog_1_method_102_code
def yX9_areAddressesUnlike : MethodName := ⟨RX9, "areAddressesUnlike", "()Z"⟩
abbrev cX9_areHubsPlugged : ByteArray := prog_1_method_103_code
def yX9_areHubsPlugged : MethodName := ⟨RX9, "areHubsPlugged", "()Z"⟩
abbrev cX9_isNothingInvented : ByteArray := prog_1_method_104_code
def yX9_isNothingInvented : MethodName := ⟨RX9, "isNothingInvented", "()Z"⟩
def RX10 : String := "HubcascadeModel$Device"
def TX10 : u_T := fun k => match k with
  | 0 => ("HubcascadeModel$Device", "speed", "C", true)
  | 1 => ("HubcascadeModel$Device", "ports", "I", true)
  | 2 => ("HubcascadeModel$Device", "power", "I", true)
  | 3 => ("HubcascadeModel$Device", "hasOwn", "Z", true)
  | 4 => ("HubcascadeModel$Device", "kind", "I", true)
  | 5 => ("HubcascadeModel$Device", "draw", "I", false)
  | 6 => ("HubcascadeModel$Device", "state", "C", false)
  | 7 => ("HubcascadeModel$Device", "hub", "I", false)
  | 8 => ("HubcascadeModel$Device", "port", "I", false)
  | 9 => ("HubcascadeModel$Device", "address", "I", false)
  | 10 => ("HubcascadeModel$Device", "driver", "I", false)
  | 11 => ("HubcascadeModel$Device", "blame", "I", false)
  | 12 => ("HubcascadeModel$Device", "rests", "I", false)
  | 13 => ("HubcascadeModel$Device", "ends", "[LHubcascadeModel$End;", true)
  | 14 => ("HubcascadeModel$Device", "faults", "[C", true)
  | _ => ("HubcascadeModel$Device", "left", "[I", true)
def tyX10 : Nat → FieldType := fun k => match k with
  | 0 => .char
  | 1 => .int
  | 2 => .int
  | 3 => .boolean
  | 4 => .int
  | 5 => .int
  | 6 => .char
  | 7 => .int
  | 8 => .int
  | 9 => .int
  | 10 => .int
  | 11 => .int
  | 12 => .int
  | 13 => .array (.object "HubcascadeModel$End")
  | 14 => .array .char
  | _ => .array .int
abbrev wsX100 : List Cond := u_ws RX10 TX10 16
theorem nmX10 : ∀ a, a < 16 → ∀ b, b < 16 → a ≠ b → (TX10 a).2.1 ≠ (TX10 b).2.1 := by decide +kernel
theorem tyX10_ok : ∀ k, k < 16 → parseFieldDescriptor (TX10 k).2.2.1 = some (tyX10 k) := by decide +kernel
abbrev cX10_init : ByteArray := prog_13_method_1_code
def yX10_init : MethodName := ⟨RX10, "<init>", "(CIIZI)V"⟩
def RX11 : String := "HubcascadeModel$End"
def TX11 : u_T := fun k => match k with
  | 0 => ("HubcascadeModel$End", "isIn", "Z", true)
  | 1 => ("HubcascadeModel$End", "greatest", "I", true)
  | 2 => ("HubcascadeModel$End", "toggle", "I", false)
  | 3 => ("HubcascadeModel$End", "bytes", "Ljava/util/ArrayList;", true)
  | _ => ("HubcascadeModel$End", "kept", "I", false)
def tyX11 : Nat → FieldType := fun k => match k with
  | 0 => .boolean
  | 1 => .int
  | 2 => .int
  | 3 => .object "java/util/ArrayList"
  | _ => .int
abbrev wsX110 : List Cond := u_ws RX11 TX11 5
theorem nmX11 : ∀ a, a < 5 → ∀ b, b < 5 → a ≠ b → (TX11 a).2.1 ≠ (TX11 b).2.1 := by decide +kernel
theorem tyX11_ok : ∀ k, k < 5 → parseFieldDescriptor (TX11 k).2.2.1 = some (tyX11 k) := by decide +kernel
abbrev cX11_init : ByteArray := prog_14_method_1_code
def yX11_init : MethodName := ⟨RX11, "<init>", "(ZI)V"⟩
def RX12 : String := "HubcascadeModel$Pipe"
def TX12 : u_T := fun k => match k with
  | 0 => ("HubcascadeModel$Pipe", "device", "I", true)
  | 1 => ("HubcascadeModel$Pipe", "endpoint", "I", true)
  | 2 => ("HubcascadeModel$Pipe", "kind", "C", true)
  | 3 => ("HubcascadeModel$Pipe", "interval", "I", true)
  | 4 => ("HubcascadeModel$Pipe", "phase", "I", false)
  | 5 => ("HubcascadeModel$Pipe", "toggle", "I", false)
  | 6 => ("HubcascadeModel$Pipe", "isHalted", "Z", false)
  | 7 => ("HubcascadeModel$Pipe", "failures", "I", false)
  | 8 => ("HubcascadeModel$Pipe", "cause", "C", false)
  | _ => ("HubcascadeModel$Pipe", "row", "Ljava/util/ArrayList;", true)
def tyX12 : Nat → FieldType := fun k => match k with
  | 0 => .int
  | 1 => .int
  | 2 => .char
  | 3 => .int
  | 4 => .int
  | 5 => .int
  | 6 => .boolean
  | 7 => .int
  | 8 => .char
  | _ => .object "java/util/ArrayList"
abbrev wsX120 : List Cond := u_ws RX12 TX12 10
theorem nmX12 : ∀ a, a < 10 → ∀ b, b < 10 → a ≠ b → (TX12 a).2.1 ≠ (TX12 b).2.1 := by decide +kernel
theorem tyX12_ok : ∀ k, k < 10 → parseFieldDescriptor (TX12 k).2.2.1 = some (tyX12 k) := by decide +kernel
abbrev cX12_init : ByteArray := prog_15_method_1_code
def yX12_init : MethodName := ⟨RX12, "<init>", "(IICI)V"⟩
abbrev cX12_isPeriodic : ByteArray := prog_15_method_2_code
def yX12_isPeriodic : MethodName := ⟨RX12, "isPeriodic", "()Z"⟩
def RX13 : String := "HubcascadeModel$Transfer"
def TX13 : u_T := fun k => match k with
  | 0 => ("HubcascadeModel$Transfer", "bytes", "[I", true)
  | 1 => ("HubcascadeModel$Transfer", "many", "I", true)
  | 2 => ("HubcascadeModel$Transfer", "done", "I", false)
  | 3 => ("HubcascadeModel$Transfer", "hasBegun", "Z", false)
  | _ => ("HubcascadeModel$Transfer", "hasLost", "Z", false)
def tyX13 : Nat → FieldType := fun k => match k with
  | 0 => .array .int
  | 1 => .int
  | 2 => .int
  | 3 => .boolean
  | _ => .boolean
abbrev wsX130 : List Cond := u_ws RX13 TX13 5
theorem nmX13 : ∀ a, a < 5 → ∀ b, b < 5 → a ≠ b → (TX13 a).2.1 ≠ (TX13 b).2.1 := by decide +kernel
theorem tyX13_ok : ∀ k, k < 5 → parseFieldDescriptor (TX13 k).2.2.1 = some (tyX13 k) := by decide +kernel
abbrev cX13_init : ByteArray := prog_16_method_1_code
def yX13_init : MethodName := ⟨RX13, "<init>", "([II)V"⟩
def RX14 : String := "HubcascadeModel"
def TX14 : u_T := fun k => match k with
  | 0 => ("HubcascadeModel", "thrown", "I", false)
  | 1 => ("HubcascadeModel", "devices", "Ljava/util/ArrayList;", true)
  | 2 => ("HubcascadeModel", "pipes", "[LHubcascadeModel$Pipe;", true)
  | 3 => ("HubcascadeModel", "drivers", "Ljava/util/ArrayList;", true)
  | 4 => ("HubcascadeModel", "typed", "Ljava/util/ArrayList;", true)
  | 5 => ("HubcascadeModel", "events", "Ljava/util/ArrayList;", true)
  | 6 => ("HubcascadeModel", "event", "[I", false)
  | 7 => ("HubcascadeModel", "missed", "I", false)
  | 8 => ("HubcascadeModel", "got", "Ljava/util/ArrayList;", true)
  | 9 => ("HubcascadeModel", "frame", "I", false)
  | 10 => ("HubcascadeModel", "lastBulk", "I", false)
  | 11 => ("HubcascadeModel", "hostLeft", "I", false)
  | 12 => ("HubcascadeModel", "hubLeft", "[I", true)
  | 13 => ("HubcascadeModel", "used", "J", false)
  | 14 => ("HubcascadeModel", "tokens", "I", false)
  | 15 => ("HubcascadeModel", "data", "I", false)
  | 16 => ("HubcascadeModel", "handshakes", "I", false)
  | 17 => ("HubcascadeModel", "overs", "I", false)
  | _ => ("HubcascadeModel", "overBytes", "J", false)
def tyX14 : Nat → FieldType := fun k => match k with
  | 0 => .int
  | 1 => .object "java/util/ArrayList"
  | 2 => .array (.object "HubcascadeModel$Pipe")
  | 3 => .object "java/util/ArrayList"
  | 4 => .object "java/util/ArrayList"
  | 5 => .object "java/util/ArrayList"
  | 6 => .array .int
  | 7 => .int
  | 8 => .object "java/util/ArrayList"
  | 9 => .int
  | 10 => .int
  | 11 => .int
  | 12 => .array .int
  | 13 => .long
  | 14 => .int
  | 15 => .int
  | 16 => .int
  | 17 => .int
  | _ => .long
abbrev wsX140 : List Cond := u_ws RX14 TX14 19
theorem nmX14 : ∀ a, a < 19 → ∀ b, b < 19 → a ≠ b → (TX14 a).2.1 ≠ (TX14 b).2.1 := by decide +kernel
theorem tyX14_ok : ∀ k, k < 19 → parseFieldDescriptor (TX14 k).2.2.1 = some (tyX14 k) := by decide +kernel
abbrev cX14_in : ByteArray := prog_12_method_1_code
def yX14_in : MethodName := ⟨RX14, "in", "(III)Z"⟩
abbrev cX14_init : ByteArray := prog_12_method_2_code
def yX14_init : MethodName := ⟨RX14, "<init>", "()V"⟩
abbrev cX14_raises : ByteArray := prog_12_method_4_code
def yX14_raises : MethodName := ⟨RX14, "raises", "(I)I"⟩
abbrev cX14_isDevice : ByteArray := prog_12_method_5_code
def yX14_isDevice : MethodName := ⟨RX14, "isDevice", "(I)Z"⟩
abbrev cX14_noDevice : ByteArray := prog_12_method_6_code
def yX14_noDevice : MethodName := ⟨RX14, "noDevice", "(I)Z"⟩
abbrev cX14_depth : ByteArray := prog_12_method_7_code
def yX14_depth : MethodName := ⟨RX14, "depth", "(I)I"⟩
abbrev cX14_isPlugged : ByteArray := prog_12_method_8_code
def yX14_isPlugged : MethodName := ⟨RX14, "isPlugged", "(I)Z"⟩
abbrev cX14_isBelow : ByteArray := prog_12_method_9_code
def yX14_isBelow : MethodName := ⟨RX14, "isBelow", "(II)Z"⟩
abbrev cX14_runs : ByteArray := prog_12_method_10_code
def yX14_runs : MethodName := ⟨RX14, "runs", "(I)C"⟩
abbrev cX14_translatorOf : ByteArray := prog_12_method_11_code
def yX14_translatorOf : MethodName := ⟨RX14, "translatorOf", "(I)I"⟩
abbrev cX14_make : ByteArray := prog_12_method_12_code
def yX14_make : MethodName := ⟨RX14, "make", "(CIIZI)I"⟩
abbrev cX14_endpoint : ByteArray := prog_12_method_13_code
def yX14_endpoint : MethodName := ⟨RX14, "endpoint", "(IIZI)I"⟩
abbrev cX14_plug : ByteArray := prog_12_method_14_code
def yX14_plug : MethodName := ⟨RX14, "plug", "(III)I"⟩
abbrev cX14_unplugs : ByteArray := prog_12_method_15_code
def yX14_unplugs : MethodName := ⟨RX14, "unplugs", "(IZ)I"⟩
abbrev cX14_isOther : ByteArray := prog_12_method_16_code
def yX14_isOther : MethodName := ⟨RX14, "isOther", "(I)Z"⟩
abbrev cX14_unplug : ByteArray := prog_12_method_17_code
def yX14_unplug : MethodName := ⟨RX14, "unplug", "(I)I"⟩
abbrev cX14_stateOf : ByteArray := prog_12_method_18_code
def yX14_stateOf : MethodName := ⟨RX14, "stateOf", "(I)C"⟩
abbrev cX14_hubOf : ByteArray := prog_12_method_19_code
def yX14_hubOf : MethodName := ⟨RX14, "hubOf", "(I)I"⟩
abbrev cX14_depthOf : ByteArray := prog_12_method_20_code
def yX14_depthOf : MethodName := ⟨RX14, "depthOf", "(I)I"⟩
abbrev cX14_speedOf : ByteArray := prog_12_method_21_code
def yX14_speedOf : MethodName := ⟨RX14, "speedOf", "(I)C"⟩
abbrev cX14_translator : ByteArray := prog_12_method_22_code
def yX14_translator : MethodName := ⟨RX14, "translator", "(I)I"⟩
abbrev cX14_addressOf : ByteArray := prog_12_method_23_code
def yX14_addressOf : MethodName := ⟨RX14, "addressOf", "(I)I"⟩
abbrev cX14_given : ByteArray := prog_12_method_24_code
def yX14_given : MethodName := ⟨RX14, "given", "(LHubcascadeModel$Device;)I"⟩
abbrev cX14_controls : ByteArray := prog_12_method_25_code
def yX14_controls : MethodName := ⟨RX14, "controls", "(LHubcascadeModel$Device;)Z"⟩
abbrev cX14_freeAddress : ByteArray := prog_12_method_26_code
def yX14_freeAddress : MethodName := ⟨RX14, "freeAddress", "()I"⟩
abbrev cX14_driverFor : ByteArray := prog_12_method_27_code
def yX14_driverFor : MethodName := ⟨RX14, "driverFor", "(LHubcascadeModel$Device;)I"⟩
abbrev cX14_look : ByteArray := prog_12_method_28_code
def yX14_look : MethodName := ⟨RX14, "look", "()I"⟩
abbrev cX14_driver : ByteArray := prog_12_method_29_code
def yX14_driver : MethodName := ⟨RX14, "driver", "(II)I"⟩
abbrev cX14_driverOf : ByteArray := prog_12_method_30_code
def yX14_driverOf : MethodName := ⟨RX14, "driverOf", "(I)I"⟩
abbrev cX14_draw : ByteArray := prog_12_method_31_code
def yX14_draw : MethodName := ⟨RX14, "draw", "(II)I"⟩
abbrev cX14_sleep : ByteArray := prog_12_method_32_code
def yX14_sleep : MethodName := ⟨RX14, "sleep", "(I)I"⟩
abbrev cX14_wake : ByteArray := prog_12_method_33_code
def yX14_wake : MethodName := ⟨RX14, "wake", "(I)I"⟩
abbrev cX14_check : ByteArray := prog_12_method_34_code
def yX14_check : MethodName := ⟨RX14, "check", "(IIII)I"⟩
abbrev cX14_five : ByteArray := prog_12_method_35_code
def yX14_five : MethodName := ⟨RX14, "five", "(I)I"⟩
abbrev cX14_type : ByteArray := prog_12_method_36_code
def yX14_type : MethodName := ⟨RX14, "type", "(I)I"⟩
abbrev cX14_wipe : ByteArray := prog_12_method_37_code
def yX14_wipe : MethodName := ⟨RX14, "wipe", "()I"⟩
abbrev cX14_sixteen : ByteArray := prog_12_method_38_code
def yX14_sixteen : MethodName := ⟨RX14, "sixteen", "()I"⟩
abbrev cX14_stuffed : ByteArray := prog_12_method_39_code
def yX14_stuffed : MethodName := ⟨RX14, "stuffed", "()I"⟩
abbrev cX14_hostCost : ByteArray := prog_12_method_40_code
def yX14_hostCost : MethodName := ⟨RX14, "hostCost", "(I)I"⟩
abbrev cX14_hubCost : ByteArray := prog_12_method_41_code
def yX14_hubCost : MethodName := ⟨RX14, "hubCost", "(II)I"⟩
abbrev cX14_reservedIn : ByteArray := prog_12_method_42_code
def yX14_reservedIn : MethodName := ⟨RX14, "reservedIn", "(II)I"⟩
abbrev cX14_phaseFor : ByteArray := prog_12_method_43_code
def yX14_phaseFor : MethodName := ⟨RX14, "phaseFor", "(LHubcascadeModel$Pipe;)I"⟩
abbrev cX14_isEnd : ByteArray := prog_12_method_44_code
def yX14_isEnd : MethodName := ⟨RX14, "isEnd", "(II)Z"⟩
abbrev cX14_open : ByteArray := prog_12_method_45_code
def yX14_open : MethodName := ⟨RX14, "open", "(IICI)I"⟩
abbrev cX14_noPipe : ByteArray := prog_12_method_46_code
def yX14_noPipe : MethodName := ⟨RX14, "noPipe", "(I)Z"⟩
abbrev cX14_ends : ByteArray := prog_12_method_47_code
def yX14_ends : MethodName := ⟨RX14, "ends", "(IC)V"⟩
abbrev cX14_closes : ByteArray := prog_12_method_48_code
def yX14_closes : MethodName := ⟨RX14, "closes", "(IC)I"⟩
abbrev cX14_close : ByteArray := prog_12_method_49_code
def yX14_close : MethodName := ⟨RX14, "close", "(I)I"⟩
abbrev cX14_phaseOf : ByteArray := prog_12_method_50_code
def yX14_phaseOf : MethodName := ⟨RX14, "phaseOf", "(I)I"⟩
abbrev cX14_reserved : ByteArray := prog_12_method_51_code
def yX14_reserved : MethodName := ⟨RX14, "reserved", "(II)I"⟩
abbrev cX14_endOf : ByteArray := prog_12_method_52_code
def yX14_endOf : MethodName := ⟨RX14, "endOf", "(LHubcascadeModel$Pipe;)LHubcascadeModel$End;"⟩
abbrev cX14_taken : ByteArray := prog_12_method_53_code
def yX14_taken : MethodName := ⟨RX14, "taken", "()[I"⟩
abbrev cX14_send : ByteArray := prog_12_method_54_code
def yX14_send : MethodName := ⟨RX14, "send", "(I)I"⟩
abbrev cX14_ask : ByteArray := prog_12_method_55_code
def yX14_ask : MethodName := ⟨RX14, "ask", "(II)I"⟩
abbrev cX14_ring : ByteArray := prog_12_method_56_code
def yX14_ring : MethodName := ⟨RX14, "ring", "(I)I"⟩
abbrev cX14_isHalted : ByteArray := prog_12_method_57_code
def yX14_isHalted : MethodName := ⟨RX14, "isHalted", "(I)Z"⟩
abbrev cX14_clear : ByteArray := prog_12_method_58_code
def yX14_clear : MethodName := ⟨RX14, "clear", "(I)I"⟩
abbrev cX14_cancel : ByteArray := prog_12_method_59_code
def yX14_cancel : MethodName := ⟨RX14, "cancel", "(I)I"⟩
abbrev cX14_load : ByteArray := prog_12_method_60_code
def yX14_load : MethodName := ⟨RX14, "load", "(II)I"⟩
abbrev cX14_fault : ByteArray := prog_12_method_61_code
def yX14_fault : MethodName := ⟨RX14, "fault", "(IICI)I"⟩
abbrev cX14_packet : ByteArray := prog_12_method_62_code
def yX14_packet : MethodName := ⟨RX14, "packet", "(LHubcascadeModel$Pipe;)I"⟩
abbrev cX14_shut : ByteArray := prog_12_method_63_code
def yX14_shut : MethodName := ⟨RX14, "shut", "(I)V"⟩
abbrev cX14_does : ByteArray := prog_12_method_64_code
def yX14_does : MethodName := ⟨RX14, "does", "(I)I"⟩
abbrev cX14_sounds : ByteArray := prog_12_method_65_code
def yX14_sounds : MethodName := ⟨RX14, "sounds", "(ILHubcascadeModel$End;IC)I"⟩
abbrev cX14_fails : ByteArray := prog_12_method_66_code
def yX14_fails : MethodName := ⟨RX14, "fails", "(IC)I"⟩
abbrev cX14_halts : ByteArray := prog_12_method_67_code
def yX14_halts : MethodName := ⟨RX14, "halts", "(ICC)V"⟩
abbrev cX14_stalls : ByteArray := prog_12_method_68_code
def yX14_stalls : MethodName := ⟨RX14, "stalls", "(I)I"⟩
abbrev cX14_notYet : ByteArray := prog_12_method_69_code
def yX14_notYet : MethodName := ⟨RX14, "notYet", "()I"⟩
abbrev cX14_acknowledged : ByteArray := prog_12_method_70_code
def yX14_acknowledged : MethodName := ⟨RX14, "acknowledged", "(LHubcascadeModel$End;I)V"⟩
abbrev cX14_comes : ByteArray := prog_12_method_71_code
def yX14_comes : MethodName := ⟨RX14, "comes", "(ILHubcascadeModel$End;IC)I"⟩
abbrev cX14_goes : ByteArray := prog_12_method_72_code
def yX14_goes : MethodName := ⟨RX14, "goes", "(ILHubcascadeModel$End;IC)I"⟩
abbrev cX14_frame : ByteArray := prog_12_method_73_code
def yX14_frame : MethodName := ⟨RX14, "frame", "()I"⟩
abbrev cX14_bulk : ByteArray := prog_12_method_74_code
def yX14_bulk : MethodName := ⟨RX14, "bulk", "()I"⟩
abbrev cX14_frames : ByteArray := prog_12_method_75_code
def yX14_frames : MethodName := ⟨RX14, "frames", "()I"⟩
abbrev cX14_left : ByteArray := prog_12_method_76_code
def yX14_left : MethodName := ⟨RX14, "left", "(I)I"⟩
abbrev cX14_events : ByteArray := prog_12_method_77_code
def yX14_events : MethodName := ⟨RX14, "events", "()I"⟩
abbrev cX14_event : ByteArray := prog_12_method_78_code
def yX14_event : MethodName := ⟨RX14, "event", "()C"⟩
abbrev cX14_eventPipe : ByteArray := prog_12_method_79_code
def yX14_eventPipe : MethodName := ⟨RX14, "eventPipe", "()I"⟩
abbrev cX14_eventBytes : ByteArray := prog_12_method_80_code
def yX14_eventBytes : MethodName := ⟨RX14, "eventBytes", "()I"⟩
abbrev cX14_missed : ByteArray := prog_12_method_81_code
def yX14_missed : MethodName := ⟨RX14, "missed", "()I"⟩
abbrev cX14_noEnd : ByteArray := prog_12_method_82_code
def yX14_noEnd : MethodName := ⟨RX14, "noEnd", "(IIZ)Z"⟩
abbrev cX14_taken_ : ByteArray := prog_12_method_83_code
def yX14_taken_ : MethodName := ⟨RX14, "taken", "(II)I"⟩
abbrev cX14_lastOf : ByteArray := prog_12_method_84_code
def yX14_lastOf : MethodName := ⟨RX14, "lastOf", "(Ljava/util/ArrayList;II)I"⟩
abbrev cX14_takenAt : ByteArray := prog_12_method_85_code
def yX14_takenAt : MethodName := ⟨RX14, "takenAt", "(III)I"⟩
abbrev cX14_waiting : ByteArray := prog_12_method_86_code
def yX14_waiting : MethodName := ⟨RX14, "waiting", "(II)I"⟩
abbrev cX14_got : ByteArray := prog_12_method_87_code
def yX14_got : MethodName := ⟨RX14, "got", "()I"⟩
abbrev cX14_gotAt : ByteArray := prog_12_method_88_code
def yX14_gotAt : MethodName := ⟨RX14, "gotAt", "(I)I"⟩
abbrev cX14_packets : ByteArray := prog_12_method_89_code
def yX14_packets : MethodName := ⟨RX14, "packets", "(C)I"⟩
abbrev cX14_blame : ByteArray := prog_12_method_90_code
def yX14_blame : MethodName := ⟨RX14, "blame", "(I)I"⟩
abbrev cX14_causeOf : ByteArray := prog_12_method_91_code
def yX14_causeOf : MethodName := ⟨RX14, "causeOf", "(I)C"⟩
abbrev cX14_busyShare : ByteArray := prog_12_method_92_code
def yX14_busyShare : MethodName := ⟨RX14, "busyShare", "()F"⟩
abbrev cX14_meanBytes : ByteArray := prog_12_method_93_code
def yX14_meanBytes : MethodName := ⟨RX14, "meanBytes", "()D"⟩
abbrev cX14_checksum : ByteArray := prog_12_method_94_code
def yX14_checksum : MethodName := ⟨RX14, "checksum", "()J"⟩
abbrev cX14_isSound : ByteArray := prog_12_method_95_code
def yX14_isSound : MethodName := ⟨RX14, "isSound", "()Z"⟩
def RJx145de : String := "java/io/Serializable"
def TJx145de : u_T := fun k => match k with
  | _ => ("", "", "", false)
def tyJx145de : Nat → FieldType := fun k => match k with
  | _ => .int
abbrev wsJx145de0 : List Cond := u_ws RJx145de TJx145de 0
theorem nmJx145de : ∀ a, a < 0 → ∀ b, b < 0 → a ≠ b → (TJx145de a).2.1 ≠ (TJx145de b).2.1 := by decide +kernel
theorem tyJx145de_ok : ∀ k, k < 0 → parseFieldDescriptor (TJx145de k).2.2.1 = some (tyJx145de k) := by decide +kernel
def RJx00060 : String := "java/lang/ArrayIndexOutOfBoundsException"
def TJx00060 : u_T := fun k => match k with
  | 0 => ("java/lang/Throwable", "backtrace", "Ljava/lang/Object;", false)
  | 1 => ("java/lang/Throwable", "detailMessage", "Ljava/lang/String;", false)
  | 2 => ("java/lang/Throwable", "cause", "Ljava/lang/Throwable;", false)
  | 3 => ("java/lang/Throwable", "stackTrace", "[Ljava/lang/StackTraceElement;", false)
  | 4 => ("java/lang/Throwable", "depth", "I", false)
  | _ => ("java/lang/Throwable", "suppressedExceptions", "Ljava/util/List;", false)
def tyJx00060 : Nat → FieldType := fun k => match k with
  | 0 => .object "java/lang/Object"
  | 1 => .object "java/lang/String"
  | 2 => .object "java/lang/Throwable"
  | 3 => .array (.object "java/lang/StackTraceElement")
  | 4 => .int
  | _ => .object "java/util/List"
abbrev wsJx000600 : List Cond := u_ws RJx00060 TJx00060 6
theorem nmJx00060 : ∀ a, a < 6 → ∀ b, b < 6 → a ≠ b → (TJx00060 a).2.1 ≠ (TJx00060 b).2.1 := by decide +kernel
theorem tyJx00060_ok : ∀ k, k < 6 → parseFieldDescriptor (TJx00060 k).2.2.1 = some (tyJx00060 k) := by decide +kernel
abbrev cJx00060_init_a7421 : ByteArray := prog_19_method_2_code
def yJx00060_init_a7421 : MethodName := ⟨RJx00060, "<init>", "(Ljava/lang/String;)V"⟩
def RJx9f9b0 : String := "java/lang/CharSequence"
def TJx9f9b0 : u_T := fun k => match k with
  | _ => ("", "", "", false)
def tyJx9f9b0 : Nat → FieldType := fun k => match k with
  | _ => .int
abbrev wsJx9f9b00 : List Cond := u_ws RJx9f9b0 TJx9f9b0 0
theorem nmJx9f9b0 : ∀ a, a < 0 → ∀ b, b < 0 → a ≠ b → (TJx9f9b0 a).2.1 ≠ (TJx9f9b0 b).2.1 := by decide +kernel
theorem tyJx9f9b0_ok : ∀ k, k < 0 → parseFieldDescriptor (TJx9f9b0 k).2.2.1 = some (tyJx9f9b0 k) := by decide +kernel
def RJ11 : String := "java/lang/Character"
def TJ11 : u_T := fun k => match k with
  | _ => ("", "", "", false)
def tyJ11 : Nat → FieldType := fun k => match k with
  | _ => .int
abbrev wsJ110 : List Cond := u_ws RJ11 TJ11 0
theorem nmJ11 : ∀ a, a < 0 → ∀ b, b < 0 → a ≠ b → (TJ11 a).2.1 ≠ (TJ11 b).2.1 := by decide +kernel
theorem tyJ11_ok : ∀ k, k < 0 → parseFieldDescriptor (TJ11 k).2.2.1 = some (tyJ11 k) := by decide +kernel
abbrev cJ11_isValidCodePoint_9a6ad : ByteArray := prog_21_method_11_code
def yJ11_isValidCodePoint_9a6ad : MethodName := ⟨RJ11, "isValidCodePoint", "(I)Z"⟩
abbrev cJ11_highSurrogate_5068e : ByteArray := prog_21_method_28_code
def yJ11_highSurrogate_5068e : MethodName := ⟨RJ11, "highSurrogate", "(I)C"⟩
abbrev cJ11_lowSurrogate_5068e : ByteArray := prog_21_method_29_code
def yJ11_lowSurrogate_5068e : MethodName := ⟨RJ11, "lowSurrogate", "(I)C"⟩
def RJx8e188 : String := "java/lang/Cloneable"
def TJx8e188 : u_T := fun k => match k with
  | _ => ("", "", "", false)
def tyJx8e188 : Nat → FieldType := fun k => match k with
  | _ => .int
abbrev wsJx8e1880 : List Cond := u_ws RJx8e188 TJx8e188 0
theorem nmJx8e188 : ∀ a, a < 0 → ∀ b, b < 0 → a ≠ b → (TJx8e188 a).2.1 ≠ (TJx8e188 b).2.1 := by decide +kernel
theorem tyJx8e188_ok : ∀ k, k < 0 → parseFieldDescriptor (TJx8e188 k).2.2.1 = some (tyJx8e188 k) := by decide +kernel
def RJxb160c : String := "java/lang/Comparable"
def TJxb160c : u_T := fun k => match k with
  | _ => ("", "", "", false)
def tyJxb160c : Nat → FieldType := fun k => match k with
  | _ => .int
abbrev wsJxb160c0 : List Cond := u_ws RJxb160c TJxb160c 0
theorem nmJxb160c : ∀ a, a < 0 → ∀ b, b < 0 → a ≠ b → (TJxb160c a).2.1 ≠ (TJxb160c b).2.1 := by decide +kernel
theorem tyJxb160c_ok : ∀ k, k < 0 → parseFieldDescriptor (TJxb160c k).2.2.1 = some (tyJxb160c k) := by decide +kernel
def RJxabbfe : String := "java/lang/Integer$IntegerCache"
def TJxabbfe : u_T := fun k => match k with
  | _ => ("", "", "", false)
def tyJxabbfe : Nat → FieldType := fun k => match k with
  | _ => .int
abbrev wsJxabbfe0 : List Cond := u_ws RJxabbfe TJxabbfe 0
theorem nmJxabbfe : ∀ a, a < 0 → ∀ b, b < 0 → a ≠ b → (TJxabbfe a).2.1 ≠ (TJxabbfe b).2.1 := by decide +kernel
theorem tyJxabbfe_ok : ∀ k, k < 0 → parseFieldDescriptor (TJxabbfe k).2.2.1 = some (tyJxabbfe k) := by decide +kernel
def RJ6 : String := "java/lang/Integer"
def TJ6 : u_T := fun k => match k with
  | _ => ("java/lang/Integer", "value", "I", true)
def tyJ6 : Nat → FieldType := fun k => match k with
  | _ => .int
abbrev wsJ60 : List Cond := u_ws RJ6 TJ6 1
theorem nmJ6 : ∀ a, a < 1 → ∀ b, b < 1 → a ≠ b → (TJ6 a).2.1 ≠ (TJ6 b).2.1 := by decide +kernel
theorem tyJ6_ok : ∀ k, k < 1 → parseFieldDescriptor (TJ6 k).2.2.1 = some (tyJ6 k) := by decide +kernel
abbrev cJ6_valueOf_2dffe : ByteArray := prog_28_method_22_code
def yJ6_valueOf_2dffe : MethodName := ⟨RJ6, "valueOf", "(I)Ljava/lang/Integer;"⟩
abbrev cJ6_init_d00df : ByteArray := prog_28_method_23_code
def yJ6_init_d00df : MethodName := ⟨RJ6, "<init>", "(I)V"⟩
abbrev cJ6_intValue_8abf5 : ByteArray := prog_28_method_27_code
def yJ6_intValue_8abf5 : MethodName := ⟨RJ6, "intValue", "()I"⟩
def RJxab1ab : String := "java/lang/Iterable"
def TJxab1ab : u_T := fun k => match k with
  | _ => ("", "", "", false)
def tyJxab1ab : Nat → FieldType := fun k => match k with
  | _ => .int
abbrev wsJxab1ab0 : List Cond := u_ws RJxab1ab TJxab1ab 0
theorem nmJxab1ab : ∀ a, a < 0 → ∀ b, b < 0 → a ≠ b → (TJxab1ab a).2.1 ≠ (TJxab1ab b).2.1 := by decide +kernel
theorem tyJxab1ab_ok : ∀ k, k < 0 → parseFieldDescriptor (TJxab1ab k).2.2.1 = some (tyJxab1ab k) := by decide +kernel
def RJ9 : String := "java/lang/Math"
def TJ9 : u_T := fun k => match k with
  | _ => ("", "", "", false)
def tyJ9 : Nat → FieldType := fun k => match k with
  | _ => .int
abbrev wsJ90 : List Cond := u_ws RJ9 TJ9 0
theorem nmJ9 : ∀ a, a < 0 → ∀ b, b < 0 → a ≠ b → (TJ9 a).2.1 ≠ (TJ9 b).2.1 := by decide +kernel
theorem tyJ9_ok : ∀ k, k < 0 → parseFieldDescriptor (TJ9 k).2.2.1 = some (tyJ9 k) := by decide +kernel
abbrev cJ9_max_7cf53 : ByteArray := prog_31_method_65_code
def yJ9_max_7cf53 : MethodName := ⟨RJ9, "max", "(II)I"⟩
abbrev cJ9_min_7cf53 : ByteArray := prog_31_method_69_code
def yJ9_min_7cf53 : MethodName := ⟨RJ9, "min", "(II)I"⟩
def RJxd2413 : String := "java/lang/Number"
def TJxd2413 : u_T := fun k => match k with
  | _ => ("", "", "", false)
def tyJxd2413 : Nat → FieldType := fun k => match k with
  | _ => .int
abbrev wsJxd24130 : List Cond := u_ws RJxd2413 TJxd2413 0
theorem nmJxd2413 : ∀ a, a < 0 → ∀ b, b < 0 → a ≠ b → (TJxd2413 a).2.1 ≠ (TJxd2413 b).2.1 := by decide +kernel
theorem tyJxd2413_ok : ∀ k, k < 0 → parseFieldDescriptor (TJxd2413 k).2.2.1 = some (tyJxd2413 k) := by decide +kernel
abbrev cJxd2413_init_da8c8 : ByteArray := prog_32_method_1_code
def yJxd2413_init_da8c8 : MethodName := ⟨RJxd2413, "<init>", "()V"⟩
def RJ0 : String := "java/lang/String"
def TJ0 : u_T := fun k => match k with
  | 0 => ("java/lang/String", "value", "[B", true)
  | _ => ("java/lang/String", "coder", "B", true)
def tyJ0 : Nat → FieldType := fun k => match k with
  | 0 => .array .byte
  | _ => .byte
abbrev wsJ00 : List Cond := u_ws RJ0 TJ0 2
theorem nmJ0 : ∀ a, a < 2 → ∀ b, b < 2 → a ≠ b → (TJ0 a).2.1 ≠ (TJ0 b).2.1 := by decide +kernel
theorem tyJ0_ok : ∀ k, k < 2 → parseFieldDescriptor (TJ0 k).2.2.1 = some (tyJ0 k) := by decide +kernel
abbrev cJ0_length_8abf5 : ByteArray := prog_34_method_54_code
def yJ0_length_8abf5 : MethodName := ⟨RJ0, "length", "()I"⟩
abbrev cJ0_indexOf_0f7a4 : ByteArray := prog_34_method_79_code
def yJ0_indexOf_0f7a4 : MethodName := ⟨RJ0, "indexOf", "(I)I"⟩
abbrev cJ0_indexOf_7cf53 : ByteArray := prog_34_method_80_code
def yJ0_indexOf_7cf53 : MethodName := ⟨RJ0, "indexOf", "(II)I"⟩
abbrev cJ0_coder_7d493 : ByteArray := prog_34_method_152_code
def yJ0_coder_7d493 : MethodName := ⟨RJ0, "coder", "()B"⟩
abbrev cJ0_isLatin1_aae02 : ByteArray := prog_34_method_154_code
def yJ0_isLatin1_aae02 : MethodName := ⟨RJ0, "isLatin1", "()Z"⟩
abbrev cJ0_checkBoundsBeginEnd_23922 : ByteArray := prog_34_method_158_code
def yJ0_checkBoundsBeginEnd_23922 : MethodName := ⟨RJ0, "checkBoundsBeginEnd", "(III)V"⟩
def RJ1 : String := "java/lang/StringLatin1"
def TJ1 : u_T := fun k => match k with
  | _ => ("", "", "", false)
def tyJ1 : Nat → FieldType := fun k => match k with
  | _ => .int
abbrev wsJ10 : List Cond := u_ws RJ1 TJ1 0
theorem nmJ1 : ∀ a, a < 0 → ∀ b, b < 0 → a ≠ b → (TJ1 a).2.1 ≠ (TJ1 b).2.1 := by decide +kernel
theorem tyJ1_ok : ∀ k, k < 0 → parseFieldDescriptor (TJ1 k).2.2.1 = some (tyJ1 k) := by decide +kernel
abbrev cJ1_canEncode_9a6ad : ByteArray := prog_35_method_4_code
def yJ1_canEncode_9a6ad : MethodName := ⟨RJ1, "canEncode", "(I)Z"⟩
abbrev cJ1_indexOf_4cfef : ByteArray := prog_35_method_22_code
def yJ1_indexOf_4cfef : MethodName := ⟨RJ1, "indexOf", "([BIII)I"⟩
abbrev cJ1_indexOfChar_4cfef : ByteArray := prog_35_method_23_code
def yJ1_indexOfChar_4cfef : MethodName := ⟨RJ1, "indexOfChar", "([BIII)I"⟩
def RJ2 : String := "java/lang/StringUTF16"
def TJ2 : u_T := fun k => match k with
  | _ => ("", "", "", false)
def tyJ2 : Nat → FieldType := fun k => match k with
  | _ => .int
abbrev wsJ20 : List Cond := u_ws RJ2 TJ2 0
theorem nmJ2 : ∀ a, a < 0 → ∀ b, b < 0 → a ≠ b → (TJ2 a).2.1 ≠ (TJ2 b).2.1 := by decide +kernel
theorem tyJ2_ok : ∀ k, k < 0 → parseFieldDescriptor (TJ2 k).2.2.1 = some (tyJ2 k) := by decide +kernel
abbrev cJ2_getChar_3b067 : ByteArray := prog_36_method_5_code
def yJ2_getChar_3b067 : MethodName := ⟨RJ2, "getChar", "([BI)C"⟩
abbrev cJ2_length_9d52b : ByteArray := prog_36_method_6_code
def yJ2_length_9d52b : MethodName := ⟨RJ2, "length", "([B)I"⟩
abbrev cJ2_indexOf_4cfef : ByteArray := prog_36_method_40_code
def yJ2_indexOf_4cfef : MethodName := ⟨RJ2, "indexOf", "([BIII)I"⟩
abbrev cJ2_indexOfChar_4cfef : ByteArray := prog_36_method_47_code
def yJ2_indexOfChar_4cfef : MethodName := ⟨RJ2, "indexOfChar", "([BIII)I"⟩
abbrev cJ2_indexOfCharUnsafe_4cfef : ByteArray := prog_36_method_48_code
def yJ2_indexOfCharUnsafe_4cfef : MethodName := ⟨RJ2, "indexOfCharUnsafe", "([BIII)I"⟩
abbrev cJ2_indexOfSupplementary_4cfef : ByteArray := prog_36_method_49_code
def yJ2_indexOfSupplementary_4cfef : MethodName := ⟨RJ2, "indexOfSupplementary", "([BIII)I"⟩
abbrev cJ2_checkBoundsBeginEnd_d044e : ByteArray := prog_36_method_93_code
def yJ2_checkBoundsBeginEnd_d044e : MethodName := ⟨RJ2, "checkBoundsBeginEnd", "(II[B)V"⟩
def RJ10 : String := "java/lang/System"
def TJ10 : u_T := fun k => match k with
  | _ => ("", "", "", false)
def tyJ10 : Nat → FieldType := fun k => match k with
  | _ => .int
abbrev wsJ100 : List Cond := u_ws RJ10 TJ10 0
theorem nmJ10 : ∀ a, a < 0 → ∀ b, b < 0 → a ≠ b → (TJ10 a).2.1 ≠ (TJ10 b).2.1 := by decide +kernel
theorem tyJ10_ok : ∀ k, k < 0 → parseFieldDescriptor (TJ10 k).2.2.1 = some (tyJ10 k) := by decide +kernel
def RJxfd54e : String := "java/lang/constant/Constable"
def TJxfd54e : u_T := fun k => match k with
  | _ => ("", "", "", false)
def tyJxfd54e : Nat → FieldType := fun k => match k with
  | _ => .int
abbrev wsJxfd54e0 : List Cond := u_ws RJxfd54e TJxfd54e 0
theorem nmJxfd54e : ∀ a, a < 0 → ∀ b, b < 0 → a ≠ b → (TJxfd54e a).2.1 ≠ (TJxfd54e b).2.1 := by decide +kernel
theorem tyJxfd54e_ok : ∀ k, k < 0 → parseFieldDescriptor (TJxfd54e k).2.2.1 = some (tyJxfd54e k) := by decide +kernel
def RJx3cf43 : String := "java/lang/constant/ConstantDesc"
def TJx3cf43 : u_T := fun k => match k with
  | _ => ("", "", "", false)
def tyJx3cf43 : Nat → FieldType := fun k => match k with
  | _ => .int
abbrev wsJx3cf430 : List Cond := u_ws RJx3cf43 TJx3cf43 0
theorem nmJx3cf43 : ∀ a, a < 0 → ∀ b, b < 0 → a ≠ b → (TJx3cf43 a).2.1 ≠ (TJx3cf43 b).2.1 := by decide +kernel
theorem tyJx3cf43_ok : ∀ k, k < 0 → parseFieldDescriptor (TJx3cf43 k).2.2.1 = some (tyJx3cf43 k) := by decide +kernel
def RJxa1e45 : String := "java/util/AbstractCollection"
def TJxa1e45 : u_T := fun k => match k with
  | _ => ("", "", "", false)
def tyJxa1e45 : Nat → FieldType := fun k => match k with
  | _ => .int
abbrev wsJxa1e450 : List Cond := u_ws RJxa1e45 TJxa1e45 0
theorem nmJxa1e45 : ∀ a, a < 0 → ∀ b, b < 0 → a ≠ b → (TJxa1e45 a).2.1 ≠ (TJxa1e45 b).2.1 := by decide +kernel
theorem tyJxa1e45_ok : ∀ k, k < 0 → parseFieldDescriptor (TJxa1e45 k).2.2.1 = some (tyJxa1e45 k) := by decide +kernel
abbrev cJxa1e45_init_da8c8 : ByteArray := prog_42_method_1_code
def yJxa1e45_init_da8c8 : MethodName := ⟨RJxa1e45, "<init>", "()V"⟩
def RJxc12de : String := "java/util/AbstractList"
def TJxc12de : u_T := fun k => match k with
  | _ => ("", "", "", false)
def tyJxc12de : Nat → FieldType := fun k => match k with
  | _ => .int
abbrev wsJxc12de0 : List Cond := u_ws RJxc12de TJxc12de 0
theorem nmJxc12de : ∀ a, a < 0 → ∀ b, b < 0 → a ≠ b → (TJxc12de a).2.1 ≠ (TJxc12de b).2.1 := by decide +kernel
theorem tyJxc12de_ok : ∀ k, k < 0 → parseFieldDescriptor (TJxc12de k).2.2.1 = some (tyJxc12de k) := by decide +kernel
abbrev cJxc12de_init_da8c8 : ByteArray := prog_43_method_1_code
def yJxc12de_init_da8c8 : MethodName := ⟨RJxc12de, "<init>", "()V"⟩
def RJx35411 : String := "java/util/ArrayList$Itr"
def TJx35411 : u_T := fun k => match k with
  | 0 => ("java/util/ArrayList$Itr", "cursor", "I", false)
  | 1 => ("java/util/ArrayList$Itr", "lastRet", "I", false)
  | 2 => ("java/util/ArrayList$Itr", "expectedModCount", "I", false)
  | _ => ("java/util/ArrayList$Itr", "this$0", "Ljava/util/ArrayList;", true)
def tyJx35411 : Nat → FieldType := fun k => match k with
  | 0 => .int
  | 1 => .int
  | 2 => .int
  | _ => .object "java/util/ArrayList"
abbrev wsJx354110 : List Cond := u_ws RJx35411 TJx35411 4
theorem nmJx35411 : ∀ a, a < 4 → ∀ b, b < 4 → a ≠ b → (TJx35411 a).2.1 ≠ (TJx35411 b).2.1 := by decide +kernel
theorem tyJx35411_ok : ∀ k, k < 4 → parseFieldDescriptor (TJx35411 k).2.2.1 = some (tyJx35411 k) := by decide +kernel
abbrev cJx35411_init_45d68 : ByteArray := prog_45_method_1_code
def yJx35411_init_45d68 : MethodName := ⟨RJx35411, "<init>", "(Ljava/util/ArrayList;)V"⟩
abbrev cJx35411_hasNext_aae02 : ByteArray := prog_45_method_2_code
def yJx35411_hasNext_aae02 : MethodName := ⟨RJx35411, "hasNext", "()Z"⟩
abbrev cJx35411_next_0502b : ByteArray := prog_45_method_3_code
def yJx35411_next_0502b : MethodName := ⟨RJx35411, "next", "()Ljava/lang/Object;"⟩
abbrev cJx35411_checkForComodification_da8c8 : ByteArray := prog_45_method_6_code
def yJx35411_checkForComodification_da8c8 : MethodName := ⟨RJx35411, "checkForComodification", "()V"⟩
def RJx4a65c : String := "java/util/ArrayList"
def TJx4a65c : u_T := fun k => match k with
  | 0 => ("java/util/AbstractList", "modCount", "I", false)
  | 1 => ("java/util/ArrayList", "elementData", "[Ljava/lang/Object;", false)
  | _ => ("java/util/ArrayList", "size", "I", false)
def tyJx4a65c : Nat → FieldType := fun k => match k with
  | 0 => .int
  | 1 => .array (.object "java/lang/Object")
  | _ => .int
abbrev wsJx4a65c0 : List Cond := u_ws RJx4a65c TJx4a65c 3
theorem nmJx4a65c : ∀ a, a < 3 → ∀ b, b < 3 → a ≠ b → (TJx4a65c a).2.1 ≠ (TJx4a65c b).2.1 := by decide +kernel
theorem tyJx4a65c_ok : ∀ k, k < 3 → parseFieldDescriptor (TJx4a65c k).2.2.1 = some (tyJx4a65c k) := by decide +kernel
abbrev cJx4a65c_init_da8c8 : ByteArray := prog_44_method_2_code
def yJx4a65c_init_da8c8 : MethodName := ⟨RJx4a65c, "<init>", "()V"⟩
abbrev cJx4a65c_grow_92f84 : ByteArray := prog_44_method_6_code
def yJx4a65c_grow_92f84 : MethodName := ⟨RJx4a65c, "grow", "(I)[Ljava/lang/Object;"⟩
abbrev cJx4a65c_grow_d5877 : ByteArray := prog_44_method_7_code
def yJx4a65c_grow_d5877 : MethodName := ⟨RJx4a65c, "grow", "()[Ljava/lang/Object;"⟩
abbrev cJx4a65c_size_8abf5 : ByteArray := prog_44_method_8_code
def yJx4a65c_size_8abf5 : MethodName := ⟨RJx4a65c, "size", "()I"⟩
abbrev cJx4a65c_isEmpty_aae02 : ByteArray := prog_44_method_9_code
def yJx4a65c_isEmpty_aae02 : MethodName := ⟨RJx4a65c, "isEmpty", "()Z"⟩
abbrev cJx4a65c_toArray_d5877 : ByteArray := prog_44_method_16_code
def yJx4a65c_toArray_d5877 : MethodName := ⟨RJx4a65c, "toArray", "()[Ljava/lang/Object;"⟩
abbrev cJx4a65c_elementData_915e3 : ByteArray := prog_44_method_18_code
def yJx4a65c_elementData_915e3 : MethodName := ⟨RJx4a65c, "elementData", "(I)Ljava/lang/Object;"⟩
abbrev cJx4a65c_get_915e3 : ByteArray := prog_44_method_20_code
def yJx4a65c_get_915e3 : MethodName := ⟨RJx4a65c, "get", "(I)Ljava/lang/Object;"⟩
abbrev cJx4a65c_add_72be8 : ByteArray := prog_44_method_24_code
def yJx4a65c_add_72be8 : MethodName := ⟨RJx4a65c, "add", "(Ljava/lang/Object;[Ljava/lang/Object;I)V"⟩
abbrev cJx4a65c_add_9ea2d : ByteArray := prog_44_method_25_code
def yJx4a65c_add_9ea2d : MethodName := ⟨RJx4a65c, "add", "(Ljava/lang/Object;)Z"⟩
abbrev cJx4a65c_remove_915e3 : ByteArray := prog_44_method_29_code
def yJx4a65c_remove_915e3 : MethodName := ⟨RJx4a65c, "remove", "(I)Ljava/lang/Object;"⟩
abbrev cJx4a65c_fastRemove_b59b0 : ByteArray := prog_44_method_39_code
def yJx4a65c_fastRemove_b59b0 : MethodName := ⟨RJx4a65c, "fastRemove", "([Ljava/lang/Object;I)V"⟩
abbrev cJx4a65c_clear_da8c8 : ByteArray := prog_44_method_40_code
def yJx4a65c_clear_da8c8 : MethodName := ⟨RJx4a65c, "clear", "()V"⟩
abbrev cJx4a65c_addAll_f0b43 : ByteArray := prog_44_method_41_code
def yJx4a65c_addAll_f0b43 : MethodName := ⟨RJx4a65c, "addAll", "(Ljava/util/Collection;)Z"⟩
abbrev cJx4a65c_iterator_32c93 : ByteArray := prog_44_method_55_code
def yJx4a65c_iterator_32c93 : MethodName := ⟨RJx4a65c, "iterator", "()Ljava/util/Iterator;"⟩
def RJ7 : String := "java/util/Arrays"
def TJ7 : u_T := fun k => match k with
  | _ => ("", "", "", false)
def tyJ7 : Nat → FieldType := fun k => match k with
  | _ => .int
abbrev wsJ70 : List Cond := u_ws RJ7 TJ7 0
theorem nmJ7 : ∀ a, a < 0 → ∀ b, b < 0 → a ≠ b → (TJ7 a).2.1 ≠ (TJ7 b).2.1 := by decide +kernel
theorem tyJ7_ok : ∀ k, k < 0 → parseFieldDescriptor (TJ7 k).2.2.1 = some (tyJ7 k) := by decide +kernel
abbrev cJ7_copyOf_1904c : ByteArray := prog_46_method_119_code
def yJ7_copyOf_1904c : MethodName := ⟨RJ7, "copyOf", "([Ljava/lang/Object;I)[Ljava/lang/Object;"⟩
abbrev cJ7_copyOf_6403c : ByteArray := prog_46_method_120_code
def yJ7_copyOf_6403c : MethodName := ⟨RJ7, "copyOf", "([Ljava/lang/Object;ILjava/lang/Class;)[Ljava/lang/Object;"⟩
def RJx5ef63 : String := "java/util/Collection"
def TJx5ef63 : u_T := fun k => match k with
  | _ => ("", "", "", false)
def tyJx5ef63 : Nat → FieldType := fun k => match k with
  | _ => .int
abbrev wsJx5ef630 : List Cond := u_ws RJx5ef63 TJx5ef63 0
theorem nmJx5ef63 : ∀ a, a < 0 → ∀ b, b < 0 → a ≠ b → (TJx5ef63 a).2.1 ≠ (TJx5ef63 b).2.1 := by decide +kernel
theorem tyJx5ef63_ok : ∀ k, k < 0 → parseFieldDescriptor (TJx5ef63 k).2.2.1 = some (tyJx5ef63 k) := by decide +kernel
def RJx4d0d8 : String := "java/util/Iterator"
def TJx4d0d8 : u_T := fun k => match k with
  | _ => ("", "", "", false)
def tyJx4d0d8 : Nat → FieldType := fun k => match k with
  | _ => .int
abbrev wsJx4d0d80 : List Cond := u_ws RJx4d0d8 TJx4d0d8 0
theorem nmJx4d0d8 : ∀ a, a < 0 → ∀ b, b < 0 → a ≠ b → (TJx4d0d8 a).2.1 ≠ (TJx4d0d8 b).2.1 := by decide +kernel
theorem tyJx4d0d8_ok : ∀ k, k < 0 → parseFieldDescriptor (TJx4d0d8 k).2.2.1 = some (tyJx4d0d8 k) := by decide +kernel
def RJxbd725 : String := "java/util/List"
def TJxbd725 : u_T := fun k => match k with
  | _ => ("", "", "", false)
def tyJxbd725 : Nat → FieldType := fun k => match k with
  | _ => .int
abbrev wsJxbd7250 : List Cond := u_ws RJxbd725 TJxbd725 0
theorem nmJxbd725 : ∀ a, a < 0 → ∀ b, b < 0 → a ≠ b → (TJxbd725 a).2.1 ≠ (TJxbd725 b).2.1 := by decide +kernel
theorem tyJxbd725_ok : ∀ k, k < 0 → parseFieldDescriptor (TJxbd725 k).2.2.1 = some (tyJxbd725 k) := by decide +kernel
def RJ15 : String := "java/util/Objects"
def TJ15 : u_T := fun k => match k with
  | _ => ("", "", "", false)
def tyJ15 : Nat → FieldType := fun k => match k with
  | _ => .int
abbrev wsJ150 : List Cond := u_ws RJ15 TJ15 0
theorem nmJ15 : ∀ a, a < 0 → ∀ b, b < 0 → a ≠ b → (TJ15 a).2.1 ≠ (TJ15 b).2.1 := by decide +kernel
theorem tyJ15_ok : ∀ k, k < 0 → parseFieldDescriptor (TJ15 k).2.2.1 = some (tyJ15 k) := by decide +kernel
abbrev cJ15_checkIndex_7cf53 : ByteArray := prog_51_method_17_code
def yJ15_checkIndex_7cf53 : MethodName := ⟨RJ15, "checkIndex", "(II)I"⟩
def RJxf0a74 : String := "java/util/RandomAccess"
def TJxf0a74 : u_T := fun k => match k with
  | _ => ("", "", "", false)
def tyJxf0a74 : Nat → FieldType := fun k => match k with
  | _ => .int
abbrev wsJxf0a740 : List Cond := u_ws RJxf0a74 TJxf0a74 0
theorem nmJxf0a74 : ∀ a, a < 0 → ∀ b, b < 0 → a ≠ b → (TJxf0a74 a).2.1 ≠ (TJxf0a74 b).2.1 := by decide +kernel
theorem tyJxf0a74_ok : ∀ k, k < 0 → parseFieldDescriptor (TJxf0a74 k).2.2.1 = some (tyJxf0a74 k) := by decide +kernel
def RJxa66e6 : String := "java/util/SequencedCollection"
def TJxa66e6 : u_T := fun k => match k with
  | _ => ("", "", "", false)
def tyJxa66e6 : Nat → FieldType := fun k => match k with
  | _ => .int
abbrev wsJxa66e60 : List Cond := u_ws RJxa66e6 TJxa66e6 0
theorem nmJxa66e6 : ∀ a, a < 0 → ∀ b, b < 0 → a ≠ b → (TJxa66e6 a).2.1 ≠ (TJxa66e6 b).2.1 := by decide +kernel
theorem tyJxa66e6_ok : ∀ k, k < 0 → parseFieldDescriptor (TJxa66e6 k).2.2.1 = some (tyJxa66e6 k) := by decide +kernel
def RJ8 : String := "jdk/internal/util/ArraysSupport"
def TJ8 : u_T := fun k => match k with
  | _ => ("", "", "", false)
def tyJ8 : Nat → FieldType := fun k => match k with
  | _ => .int
abbrev wsJ80 : List Cond := u_ws RJ8 TJ8 0
theorem nmJ8 : ∀ a, a < 0 → ∀ b, b < 0 → a ≠ b → (TJ8 a).2.1 ≠ (TJ8 b).2.1 := by decide +kernel
theorem tyJ8_ok : ∀ k, k < 0 → parseFieldDescriptor (TJ8 k).2.2.1 = some (tyJ8 k) := by decide +kernel
abbrev cJ8_newLength_cabcc : ByteArray := prog_54_method_27_code
def yJ8_newLength_cabcc : MethodName := ⟨RJ8, "newLength", "(III)I"⟩
abbrev cJ8_hugeLength_7cf53 : ByteArray := prog_54_method_28_code
def yJ8_hugeLength_7cf53 : MethodName := ⟨RJ8, "hugeLength", "(II)I"⟩
def RJ3 : String := "jdk/internal/util/Preconditions"
def TJ3 : u_T := fun k => match k with
  | _ => ("", "", "", false)
def tyJ3 : Nat → FieldType := fun k => match k with
  | _ => .int
abbrev wsJ30 : List Cond := u_ws RJ3 TJ3 0
theorem nmJ3 : ∀ a, a < 0 → ∀ b, b < 0 → a ≠ b → (TJ3 a).2.1 ≠ (TJ3 b).2.1 := by decide +kernel
theorem tyJ3_ok : ∀ k, k < 0 → parseFieldDescriptor (TJ3 k).2.2.1 = some (tyJ3 k) := by decide +kernel
abbrev cJ3_checkIndex_8e157 : ByteArray := prog_55_method_11_code
def yJ3_checkIndex_8e157 : MethodName := ⟨RJ3, "checkIndex", "(IILjava/util/function/BiFunction;)I"⟩
abbrev cJ3_checkFromToIndex_8c36e : ByteArray := prog_55_method_12_code
def yJ3_checkFromToIndex_8c36e : MethodName := ⟨RJ3, "checkFromToIndex", "(IIILjava/util/function/BiFunction;)I"⟩
def RL : String := "HubcascadeLaw"
abbrev cL_make : ByteArray := method_3_code
def yL_make : MethodName := ⟨RL, "make", "(LHubcascade;CIIZI[J)I"⟩
abbrev cL_endpoint : ByteArray := method_4_code
def yL_endpoint : MethodName := ⟨RL, "endpoint", "(LHubcascade;IIZI[J)I"⟩
abbrev cL_plug : ByteArray := method_5_code
def yL_plug : MethodName := ⟨RL, "plug", "(LHubcascade;III[J)I"⟩
abbrev cL_unplug : ByteArray := method_6_code
def yL_unplug : MethodName := ⟨RL, "unplug", "(LHubcascade;I[J)I"⟩
abbrev cL_stateOf : ByteArray := method_7_code
def yL_stateOf : MethodName := ⟨RL, "stateOf", "(LHubcascade;I[J)I"⟩
abbrev cL_hubOf : ByteArray := method_8_code
def yL_hubOf : MethodName := ⟨RL, "hubOf", "(LHubcascade;I[J)I"⟩
abbrev cL_depthOf : ByteArray := method_9_code
def yL_depthOf : MethodName := ⟨RL, "depthOf", "(LHubcascade;I[J)I"⟩
abbrev cL_speedOf : ByteArray := method_10_code
def yL_speedOf : MethodName := ⟨RL, "speedOf", "(LHubcascade;I[J)I"⟩
abbrev cL_translator : ByteArray := method_11_code
def yL_translator : MethodName := ⟨RL, "translator", "(LHubcascade;I[J)I"⟩
abbrev cL_addressOf : ByteArray := method_12_code
def yL_addressOf : MethodName := ⟨RL, "addressOf", "(LHubcascade;I[J)I"⟩
abbrev cL_look : ByteArray := method_13_code
def yL_look : MethodName := ⟨RL, "look", "(LHubcascade;[J)I"⟩
abbrev cL_driver : ByteArray := method_14_code
def yL_driver : MethodName := ⟨RL, "driver", "(LHubcascade;II[J)I"⟩
abbrev cL_driverOf : ByteArray := method_15_code
def yL_driverOf : MethodName := ⟨RL, "driverOf", "(LHubcascade;I[J)I"⟩
abbrev cL_draw : ByteArray := method_16_code
def yL_draw : MethodName := ⟨RL, "draw", "(LHubcascade;II[J)I"⟩
abbrev cL_sleep : ByteArray := method_17_code
def yL_sleep : MethodName := ⟨RL, "sleep", "(LHubcascade;I[J)I"⟩
abbrev cL_wake : ByteArray := method_18_code
def yL_wake : MethodName := ⟨RL, "wake", "(LHubcascade;I[J)I"⟩
abbrev cL_five : ByteArray := method_19_code
def yL_five : MethodName := ⟨RL, "five", "(LHubcascade;I[J)I"⟩
abbrev cL_type : ByteArray := method_20_code
def yL_type : MethodName := ⟨RL, "type", "(LHubcascade;I[J)I"⟩
abbrev cL_open : ByteArray := method_21_code
def yL_open : MethodName := ⟨RL, "open", "(LHubcascade;IICI[J)I"⟩
abbrev cL_close : ByteArray := method_22_code
def yL_close : MethodName := ⟨RL, "close", "(LHubcascade;I[J)I"⟩
abbrev cL_phaseOf : ByteArray := method_23_code
def yL_phaseOf : MethodName := ⟨RL, "phaseOf", "(LHubcascade;I[J)I"⟩
abbrev cL_reserved : ByteArray := method_24_code
def yL_reserved : MethodName := ⟨RL, "reserved", "(LHubcascade;II[J)I"⟩
abbrev cL_send : ByteArray := method_25_code
def yL_send : MethodName := ⟨RL, "send", "(LHubcascade;I[J)I"⟩
abbrev cL_ask : ByteArray := method_26_code
def yL_ask : MethodName := ⟨RL, "ask", "(LHubcascade;II[J)I"⟩
abbrev cL_ring : ByteArray := method_27_code
def yL_ring : MethodName := ⟨RL, "ring", "(LHubcascade;I[J)I"⟩
abbrev cL_isHalted : ByteArray := method_28_code
def yL_isHalted : MethodName := ⟨RL, "isHalted", "(LHubcascade;I[J)I"⟩
abbrev cL_clear : ByteArray := method_29_code
def yL_clear : MethodName := ⟨RL, "clear", "(LHubcascade;I[J)I"⟩
abbrev cL_cancel : ByteArray := method_30_code
def yL_cancel : MethodName := ⟨RL, "cancel", "(LHubcascade;I[J)I"⟩
abbrev cL_load : ByteArray := method_31_code
def yL_load : MethodName := ⟨RL, "load", "(LHubcascade;II[J)I"⟩
abbrev cL_fault : ByteArray := method_32_code
def yL_fault : MethodName := ⟨RL, "fault", "(LHubcascade;IICI[J)I"⟩
abbrev cL_left : ByteArray := method_33_code
def yL_left : MethodName := ⟨RL, "left", "(LHubcascade;I[J)I"⟩
abbrev cL_event : ByteArray := method_34_code
def yL_event : MethodName := ⟨RL, "event", "(LHubcascade;[J)I"⟩
abbrev cL_eventPipe : ByteArray := method_35_code
def yL_eventPipe : MethodName := ⟨RL, "eventPipe", "(LHubcascade;[J)I"⟩
abbrev cL_eventBytes : ByteArray := method_36_code
def yL_eventBytes : MethodName := ⟨RL, "eventBytes", "(LHubcascade;[J)I"⟩
abbrev cL_taken : ByteArray := method_37_code
def yL_taken : MethodName := ⟨RL, "taken", "(LHubcascade;II[J)I"⟩
abbrev cL_takenAt : ByteArray := method_38_code
def yL_takenAt : MethodName := ⟨RL, "takenAt", "(LHubcascade;III[J)I"⟩
abbrev cL_waiting : ByteArray := method_39_code
def yL_waiting : MethodName := ⟨RL, "waiting", "(LHubcascade;II[J)I"⟩
abbrev cL_gotAt : ByteArray := method_40_code
def yL_gotAt : MethodName := ⟨RL, "gotAt", "(LHubcascade;I[J)I"⟩
abbrev cL_packets : ByteArray := method_41_code
def yL_packets : MethodName := ⟨RL, "packets", "(LHubcascade;C[J)I"⟩
abbrev cL_blame : ByteArray := method_42_code
def yL_blame : MethodName := ⟨RL, "blame", "(LHubcascade;I[J)I"⟩
abbrev cL_causeOf : ByteArray := method_43_code
def yL_causeOf : MethodName := ⟨RL, "causeOf", "(LHubcascade;I[J)I"⟩
abbrev cL_busyShare : ByteArray := method_44_code
def yL_busyShare : MethodName := ⟨RL, "busyShare", "(LHubcascade;[D)I"⟩
abbrev cL_meanBytes : ByteArray := method_45_code
def yL_meanBytes : MethodName := ⟨RL, "meanBytes", "(LHubcascade;[D)I"⟩
abbrev cL_law : ByteArray := code
def yL_law : MethodName := ⟨RL, "law", "([I)Z"⟩
