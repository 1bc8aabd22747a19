def lw_ok : List Cond := lw_tbl.filter goodWord
def R_C : String := "PacedMux$Collector"
def R_P : String := "PacedMux$Packet"
def R_R : String := "PacedMux$Receiver"
def R_S : String := "PacedMux$Sender"
def R_U : String := "PacedMux$UnitRow"
def R_X : String := "PacedMux"
def R_M : String := "PacedMuxModel"
def R_L : String := "PacedMuxLaw"
def F_C : u_T := fun k => match k with
  | 0 => ("PacedMux$Collector", "hasCounter", "Z", false)
  | 1 => ("PacedMux$Collector", "lastCounter", "I", false)
  | 2 => ("PacedMux$Collector", "collecting", "Z", false)
  | 3 => ("PacedMux$Collector", "size", "I", false)
  | 4 => ("PacedMux$Collector", "due", "I", false)
  | 5 => ("PacedMux$Collector", "filled", "I", false)
  | 6 => ("PacedMux$Collector", "bytes", "[I", false)
  | 7 => ("PacedMux$Collector", "latestSize", "I", false)
  | 8 => ("PacedMux$Collector", "latestDue", "I", false)
  | 9 => ("PacedMux$Collector", "latestBytes", "[I", false)
  | _ => ("PacedMux$Collector", "arrivals", "I", false)
def t_C : Nat → FieldType := fun k => match k with
  | 0 => .boolean
  | 1 => .int
  | 2 => .boolean
  | 3 => .int
  | 4 => .int
  | 5 => .int
  | 6 => .array .int
  | 7 => .int
  | 8 => .int
  | 9 => .array .int
  | _ => .int
theorem nm_C : ∀ a, a < 11 → ∀ b, b < 11 → a ≠ b → (F_C a).2.1 ≠ (F_C b).2.1 := by decide +kernel
theorem ty_C : ∀ k, k < 11 → parseFieldDescriptor (F_C k).2.2.1 = some (t_C k) := by decide +kernel
def F_P : u_T := fun k => match k with
  | 0 => ("PacedMux$Packet", "bytes", "[I", true)
  | _ => ("PacedMux$Packet", "used", "I", false)
def t_P : Nat → FieldType := fun k => match k with
  | 0 => .array .int
  | _ => .int
theorem nm_P : ∀ a, a < 2 → ∀ b, b < 2 → a ≠ b → (F_P a).2.1 ≠ (F_P b).2.1 := by decide +kernel
theorem ty_P : ∀ k, k < 2 → parseFieldDescriptor (F_P k).2.2.1 = some (t_P k) := by decide +kernel
def F_R : u_T := fun k => match k with
  | 0 => ("PacedMux$Receiver", "collectors", "[LPacedMux$Collector;", true)
  | 1 => ("PacedMux$Receiver", "tallies", "[I", true)
  | 2 => ("PacedMux$Receiver", "clockKnown", "Z", false)
  | _ => ("PacedMux$Receiver", "clockTime", "I", false)
def t_R : Nat → FieldType := fun k => match k with
  | 0 => .array (.object "PacedMux$Collector")
  | 1 => .array .int
  | 2 => .boolean
  | _ => .int
theorem nm_R : ∀ a, a < 4 → ∀ b, b < 4 → a ≠ b → (F_R a).2.1 ≠ (F_R b).2.1 := by decide +kernel
theorem ty_R : ∀ k, k < 4 → parseFieldDescriptor (F_R k).2.2.1 = some (t_R k) := by decide +kernel
def F_S : u_T := fun k => match k with
  | 0 => ("PacedMux$Sender", "queue", "LPacedMux$UnitRow;", true)
  | 1 => ("PacedMux$Sender", "store", "LPacedMux$UnitRow;", true)
  | 2 => ("PacedMux$Sender", "sentBytes", "I", false)
  | 3 => ("PacedMux$Sender", "low", "I", false)
  | 4 => ("PacedMux$Sender", "high", "I", false)
  | 5 => ("PacedMux$Sender", "nextCounter", "I", false)
  | 6 => ("PacedMux$Sender", "lateUnits", "I", false)
  | _ => ("PacedMux$Sender", "newestDue", "I", false)
def t_S : Nat → FieldType := fun k => match k with
  | 0 => .object "PacedMux$UnitRow"
  | 1 => .object "PacedMux$UnitRow"
  | 2 => .int
  | 3 => .int
  | 4 => .int
  | 5 => .int
  | 6 => .int
  | _ => .int
theorem nm_S : ∀ a, a < 8 → ∀ b, b < 8 → a ≠ b → (F_S a).2.1 ≠ (F_S b).2.1 := by decide +kernel
theorem ty_S : ∀ k, k < 8 → parseFieldDescriptor (F_S k).2.2.1 = some (t_S k) := by decide +kernel
def F_U : u_T := fun k => match k with
  | 0 => ("PacedMux$UnitRow", "sizes", "[I", true)
  | 1 => ("PacedMux$UnitRow", "dues", "[I", true)
  | 2 => ("PacedMux$UnitRow", "seeds", "[I", true)
  | _ => ("PacedMux$UnitRow", "length", "I", false)
def t_U : Nat → FieldType := fun k => match k with
  | 0 => .array .int
  | 1 => .array .int
  | 2 => .array .int
  | _ => .int
theorem nm_U : ∀ a, a < 4 → ∀ b, b < 4 → a ≠ b → (F_U a).2.1 ≠ (F_U b).2.1 := by decide +kernel
theorem ty_U : ∀ k, k < 4 → parseFieldDescriptor (F_U k).2.2.1 = some (t_U k) := by decide +kernel
def F_X : u_T := fun k => match k with
  | 0 => ("PacedMux", "leak", "I", true)
  | 1 => ("PacedMux", "capacity", "I", true)
  | 2 => ("PacedMux", "senders", "[LPacedMux$Sender;", true)
  | 3 => ("PacedMux", "receiver", "LPacedMux$Receiver;", true)
  | 4 => ("PacedMux", "sentPacket", "LPacedMux$Packet;", true)
  | 5 => ("PacedMux", "arrivingPacket", "LPacedMux$Packet;", true)
  | 6 => ("PacedMux", "time", "I", false)
  | _ => ("PacedMux", "ticked", "Z", false)
def t_X : Nat → FieldType := fun k => match k with
  | 0 => .int
  | 1 => .int
  | 2 => .array (.object "PacedMux$Sender")
  | 3 => .object "PacedMux$Receiver"
  | 4 => .object "PacedMux$Packet"
  | 5 => .object "PacedMux$Packet"
  | 6 => .int
  | _ => .boolean
theorem nm_X : ∀ a, a < 8 → ∀ b, b < 8 → a ≠ b → (F_X a).2.1 ≠ (F_X b).2.1 := by decide +kernel
theorem ty_X : ∀ k, k < 8 → parseFieldDescriptor (F_X k).2.2.1 = some (t_X k) := by decide +kernel
def F_M : u_T := fun k => match k with
  | 0 => ("PacedMuxModel", "leak", "I", false)
  | 1 => ("PacedMuxModel", "capacity", "I", false)
  | 2 => ("PacedMuxModel", "time", "I", false)
  | 3 => ("PacedMuxModel", "low", "[I", true)
  | 4 => ("PacedMuxModel", "sizes", "[I", true)
  | 5 => ("PacedMuxModel", "dues", "[I", true)
  | 6 => ("PacedMuxModel", "seeds", "[I", true)
  | 7 => ("PacedMuxModel", "added", "[I", true)
  | 8 => ("PacedMuxModel", "alive", "[I", true)
  | 9 => ("PacedMuxModel", "current", "[I", true)
  | 10 => ("PacedMuxModel", "sent", "[I", true)
  | 11 => ("PacedMuxModel", "lates", "[I", true)
  | 12 => ("PacedMuxModel", "next", "[I", true)
  | 13 => ("PacedMuxModel", "any", "Z", false)
  | 14 => ("PacedMuxModel", "packet", "[I", true)
  | 15 => ("PacedMuxModel", "heard", "[I", true)
  | 16 => ("PacedMuxModel", "known", "Z", false)
  | 17 => ("PacedMuxModel", "clock", "I", false)
  | 18 => ("PacedMuxModel", "came", "[Z", true)
  | 19 => ("PacedMuxModel", "counter", "[I", true)
  | 20 => ("PacedMuxModel", "collects", "[Z", true)
  | 21 => ("PacedMuxModel", "have", "[I", true)
  | 22 => ("PacedMuxModel", "want", "[I", true)
  | 23 => ("PacedMuxModel", "wantDue", "[I", true)
  | 24 => ("PacedMuxModel", "bytes", "[I", true)
  | 25 => ("PacedMuxModel", "last", "[I", true)
  | 26 => ("PacedMuxModel", "lastSize", "[I", true)
  | 27 => ("PacedMuxModel", "lastDue", "[I", true)
  | 28 => ("PacedMuxModel", "arrived", "[I", true)
  | _ => ("PacedMuxModel", "counts", "[I", true)
def t_M : Nat → FieldType := fun k => match k with
  | 0 => .int
  | 1 => .int
  | 2 => .int
  | 3 => .array .int
  | 4 => .array .int
  | 5 => .array .int
  | 6 => .array .int
  | 7 => .array .int
  | 8 => .array .int
  | 9 => .array .int
  | 10 => .array .int
  | 11 => .array .int
  | 12 => .array .int
  | 13 => .boolean
  | 14 => .array .int
  | 15 => .array .int
  | 16 => .boolean
  | 17 => .int
  | 18 => .array .boolean
  | 19 => .array .int
  | 20 => .array .boolean
  | 21 => .array .int
  | 22 => .array .int
  | 23 => .array .int
  | 24 => .array .int
  | 25 => .array .int
  | 26 => .array .int
  | 27 => .array .int
  | 28 => .array .int
  | _ => .array .int
theorem nm_M : ∀ a, a < 30 → ∀ b, b < 30 → a ≠ b → (F_M a).2.1 ≠ (F_M b).2.1 := by decide +kernel
theorem ty_M : ∀ k, k < 30 → parseFieldDescriptor (F_M k).2.2.1 = some (t_M k) := by decide +kernel
abbrev vwCl : List vw_C := [(R_C, F_C, 11), (R_P, F_P, 2), (R_R, F_R, 4), (R_S, F_S, 8), (R_U, F_U, 4), (R_X, F_X, 8), (R_M, F_M, 30)]
abbrev b_C_init : ByteArray := prog_2_method_1_code
def y_C_init : MethodName := ⟨R_C, "<init>", "()V"⟩
def w_C_init : List Cond := .code y_C_init b_C_init 1 none :: lw_ok
abbrev b_C_reset : ByteArray := prog_2_method_2_code
def y_C_reset : MethodName := ⟨R_C, "reset", "()V"⟩
def w_C_reset : List Cond := .code y_C_reset b_C_reset 1 none :: lw_ok
abbrev b_C_noteCounter : ByteArray := prog_2_method_3_code
def y_C_noteCounter : MethodName := ⟨R_C, "noteCounter", "(I)Z"⟩
def w_C_noteCounter : List Cond := .code y_C_noteCounter b_C_noteCounter 3 (some .boolean) :: lw_ok
abbrev b_C_begin : ByteArray := prog_2_method_4_code
def y_C_begin : MethodName := ⟨R_C, "begin", "(II)V"⟩
def w_C_begin : List Cond := .code y_C_begin b_C_begin 3 none :: lw_ok
abbrev b_C_fill : ByteArray := prog_2_method_5_code
def y_C_fill : MethodName := ⟨R_C, "fill", "(LPacedMux$Packet;I)Z"⟩
def w_C_fill : List Cond := .code y_C_fill b_C_fill 4 (some .boolean) :: lw_ok
abbrev b_C_keepAsLatest : ByteArray := prog_2_method_6_code
def y_C_keepAsLatest : MethodName := ⟨R_C, "keepAsLatest", "()V"⟩
def w_C_keepAsLatest : List Cond := .code y_C_keepAsLatest b_C_keepAsLatest 2 none :: lw_ok
abbrev b_P_init : ByteArray := prog_3_method_1_code
def y_P_init : MethodName := ⟨R_P, "<init>", "()V"⟩
def w_P_init : List Cond := .code y_P_init b_P_init 1 none :: lw_ok
abbrev b_P_clear : ByteArray := prog_3_method_2_code
def y_P_clear : MethodName := ⟨R_P, "clear", "()V"⟩
def w_P_clear : List Cond := .code y_P_clear b_P_clear 2 none :: lw_ok
abbrev b_P_put : ByteArray := prog_3_method_3_code
def y_P_put : MethodName := ⟨R_P, "put", "(I)V"⟩
def w_P_put : List Cond := .code y_P_put b_P_put 2 none :: lw_ok
abbrev b_P_putTime : ByteArray := prog_3_method_4_code
def y_P_putTime : MethodName := ⟨R_P, "putTime", "(I)V"⟩
def w_P_putTime : List Cond := .code y_P_putTime b_P_putTime 2 none :: lw_ok
abbrev b_P_byteAt : ByteArray := prog_3_method_5_code
def y_P_byteAt : MethodName := ⟨R_P, "byteAt", "(I)I"⟩
def w_P_byteAt : List Cond := .code y_P_byteAt b_P_byteAt 2 (some .int) :: lw_ok
abbrev b_P_timeAt : ByteArray := prog_3_method_6_code
def y_P_timeAt : MethodName := ⟨R_P, "timeAt", "(I)I"⟩
def w_P_timeAt : List Cond := .code y_P_timeAt b_P_timeAt 2 (some .int) :: lw_ok
abbrev b_P_copyFrom : ByteArray := prog_3_method_7_code
def y_P_copyFrom : MethodName := ⟨R_P, "copyFrom", "(LPacedMux$Packet;)V"⟩
def w_P_copyFrom : List Cond := .code y_P_copyFrom b_P_copyFrom 3 none :: lw_ok
abbrev b_P_flip : ByteArray := prog_3_method_8_code
def y_P_flip : MethodName := ⟨R_P, "flip", "(II)V"⟩
def w_P_flip : List Cond := .code y_P_flip b_P_flip 3 none :: lw_ok
abbrev b_R_init : ByteArray := prog_4_method_1_code
def y_R_init : MethodName := ⟨R_R, "<init>", "()V"⟩
def w_R_init : List Cond := .code y_R_init b_R_init 2 none :: lw_ok
abbrev b_R_reset : ByteArray := prog_4_method_2_code
def y_R_reset : MethodName := ⟨R_R, "reset", "()V"⟩
def w_R_reset : List Cond := .code y_R_reset b_R_reset 2 none :: lw_ok
abbrev b_R_take : ByteArray := prog_4_method_3_code
def y_R_take : MethodName := ⟨R_R, "take", "(LPacedMux$Packet;)V"⟩
def w_R_take : List Cond := .code y_R_take b_R_take 5 none :: lw_ok
abbrev b_R_takeOfStream : ByteArray := prog_4_method_4_code
def y_R_takeOfStream : MethodName := ⟨R_R, "takeOfStream", "(LPacedMux$Collector;LPacedMux$Packet;I)V"⟩
def w_R_takeOfStream : List Cond := .code y_R_takeOfStream b_R_takeOfStream 6 none :: lw_ok
abbrev b_R_beginUnit : ByteArray := prog_4_method_5_code
def y_R_beginUnit : MethodName := ⟨R_R, "beginUnit", "(LPacedMux$Collector;LPacedMux$Packet;I)V"⟩
def w_R_beginUnit : List Cond := .code y_R_beginUnit b_R_beginUnit 5 none :: lw_ok
abbrev b_R_breakUnit : ByteArray := prog_4_method_6_code
def y_R_breakUnit : MethodName := ⟨R_R, "breakUnit", "(LPacedMux$Collector;)V"⟩
def w_R_breakUnit : List Cond := .code y_R_breakUnit b_R_breakUnit 2 none :: lw_ok
abbrev b_R_finishUnit : ByteArray := prog_4_method_7_code
def y_R_finishUnit : MethodName := ⟨R_R, "finishUnit", "(LPacedMux$Collector;)V"⟩
def w_R_finishUnit : List Cond := .code y_R_finishUnit b_R_finishUnit 3 none :: lw_ok
abbrev b_R_advanceClock : ByteArray := prog_4_method_8_code
def y_R_advanceClock : MethodName := ⟨R_R, "advanceClock", "()V"⟩
def w_R_advanceClock : List Cond := .code y_R_advanceClock b_R_advanceClock 1 none :: lw_ok
abbrev b_S_init : ByteArray := prog_5_method_1_code
def y_S_init : MethodName := ⟨R_S, "<init>", "()V"⟩
def w_S_init : List Cond := .code y_S_init b_S_init 1 none :: lw_ok
abbrev b_S_beginTick : ByteArray := prog_5_method_2_code
def y_S_beginTick : MethodName := ⟨R_S, "beginTick", "(II)V"⟩
def w_S_beginTick : List Cond := .code y_S_beginTick b_S_beginTick 3 none :: lw_ok
abbrev b_S_isAtStart : ByteArray := prog_5_method_3_code
def y_S_isAtStart : MethodName := ⟨R_S, "isAtStart", "()Z"⟩
def w_S_isAtStart : List Cond := .code y_S_isAtStart b_S_isAtStart 1 (some .boolean) :: lw_ok
abbrev b_S_portion : ByteArray := prog_5_method_4_code
def y_S_portion : MethodName := ⟨R_S, "portion", "(Z)I"⟩
def w_S_portion : List Cond := .code y_S_portion b_S_portion 3 (some .int) :: lw_ok
abbrev b_S_isReady : ByteArray := prog_5_method_5_code
def y_S_isReady : MethodName := ⟨R_S, "isReady", "(ZI)Z"⟩
def w_S_isReady : List Cond := .code y_S_isReady b_S_isReady 4 (some .boolean) :: lw_ok
abbrev b_S_takeCounter : ByteArray := prog_5_method_6_code
def y_S_takeCounter : MethodName := ⟨R_S, "takeCounter", "()I"⟩
def w_S_takeCounter : List Cond := .code y_S_takeCounter b_S_takeCounter 2 (some .int) :: lw_ok
abbrev b_S_sendBytes : ByteArray := prog_5_method_7_code
def y_S_sendBytes : MethodName := ⟨R_S, "sendBytes", "(ILPacedMux$Packet;)V"⟩
def w_S_sendBytes : List Cond := .code y_S_sendBytes b_S_sendBytes 4 none :: lw_ok
abbrev b_S_dropCurrent : ByteArray := prog_5_method_8_code
def y_S_dropCurrent : MethodName := ⟨R_S, "dropCurrent", "()V"⟩
def w_S_dropCurrent : List Cond := .code y_S_dropCurrent b_S_dropCurrent 1 none :: lw_ok
abbrev b_U_init : ByteArray := prog_6_method_1_code
def y_U_init : MethodName := ⟨R_U, "<init>", "()V"⟩
def w_U_init : List Cond := .code y_U_init b_U_init 1 none :: lw_ok
abbrev b_U_isFull : ByteArray := prog_6_method_2_code
def y_U_isFull : MethodName := ⟨R_U, "isFull", "()Z"⟩
def w_U_isFull : List Cond := .code y_U_isFull b_U_isFull 1 (some .boolean) :: lw_ok
abbrev b_U_isEmpty : ByteArray := prog_6_method_3_code
def y_U_isEmpty : MethodName := ⟨R_U, "isEmpty", "()Z"⟩
def w_U_isEmpty : List Cond := .code y_U_isEmpty b_U_isEmpty 1 (some .boolean) :: lw_ok
abbrev b_U_append : ByteArray := prog_6_method_4_code
def y_U_append : MethodName := ⟨R_U, "append", "(III)V"⟩
def w_U_append : List Cond := .code y_U_append b_U_append 4 none :: lw_ok
abbrev b_U_firstSize : ByteArray := prog_6_method_5_code
def y_U_firstSize : MethodName := ⟨R_U, "firstSize", "()I"⟩
def w_U_firstSize : List Cond := .code y_U_firstSize b_U_firstSize 1 (some .int) :: lw_ok
abbrev b_U_firstDue : ByteArray := prog_6_method_6_code
def y_U_firstDue : MethodName := ⟨R_U, "firstDue", "()I"⟩
def w_U_firstDue : List Cond := .code y_U_firstDue b_U_firstDue 1 (some .int) :: lw_ok
abbrev b_U_firstSeed : ByteArray := prog_6_method_7_code
def y_U_firstSeed : MethodName := ⟨R_U, "firstSeed", "()I"⟩
def w_U_firstSeed : List Cond := .code y_U_firstSeed b_U_firstSeed 1 (some .int) :: lw_ok
abbrev b_U_isFirstDueAt : ByteArray := prog_6_method_8_code
def y_U_isFirstDueAt : MethodName := ⟨R_U, "isFirstDueAt", "(I)Z"⟩
def w_U_isFirstDueAt : List Cond := .code y_U_isFirstDueAt b_U_isFirstDueAt 2 (some .boolean) :: lw_ok
abbrev b_U_dropFirst : ByteArray := prog_6_method_9_code
def y_U_dropFirst : MethodName := ⟨R_U, "dropFirst", "()V"⟩
def w_U_dropFirst : List Cond := .code y_U_dropFirst b_U_dropFirst 2 none :: lw_ok
abbrev b_X_init : ByteArray := prog_1_method_1_code
def y_X_init : MethodName := ⟨R_X, "<init>", "(II)V"⟩
def w_X_init : List Cond := .code y_X_init b_X_init 4 none :: lw_ok
abbrev b_X_add : ByteArray := prog_1_method_2_code
def y_X_add : MethodName := ⟨R_X, "add", "(IIII)I"⟩
def w_X_add : List Cond := .code y_X_add b_X_add 6 (some .int) :: lw_ok
abbrev b_X_tick : ByteArray := prog_1_method_3_code
def y_X_tick : MethodName := ⟨R_X, "tick", "(I)I"⟩
def w_X_tick : List Cond := .code y_X_tick b_X_tick 3 (some .int) :: lw_ok
abbrev b_X_lose : ByteArray := prog_1_method_4_code
def y_X_lose : MethodName := ⟨R_X, "lose", "(I)I"⟩
def w_X_lose : List Cond := .code y_X_lose b_X_lose 3 (some .int) :: lw_ok
abbrev b_X_spoil : ByteArray := prog_1_method_5_code
def y_X_spoil : MethodName := ⟨R_X, "spoil", "(II)I"⟩
def w_X_spoil : List Cond := .code y_X_spoil b_X_spoil 3 (some .int) :: lw_ok
abbrev b_X_packet : ByteArray := prog_1_method_6_code
def y_X_packet : MethodName := ⟨R_X, "packet", "(I)I"⟩
def w_X_packet : List Cond := .code y_X_packet b_X_packet 2 (some .int) :: lw_ok
abbrev b_X_waiting : ByteArray := prog_1_method_7_code
def y_X_waiting : MethodName := ⟨R_X, "waiting", "(I)I"⟩
def w_X_waiting : List Cond := .code y_X_waiting b_X_waiting 2 (some .int) :: lw_ok
abbrev b_X_stored : ByteArray := prog_1_method_8_code
def y_X_stored : MethodName := ⟨R_X, "stored", "(I)I"⟩
def w_X_stored : List Cond := .code y_X_stored b_X_stored 2 (some .int) :: lw_ok
abbrev b_X_levels : ByteArray := prog_1_method_9_code
def y_X_levels : MethodName := ⟨R_X, "levels", "(I)I"⟩
def w_X_levels : List Cond := .code y_X_levels b_X_levels 2 (some .int) :: lw_ok
abbrev b_X_late : ByteArray := prog_1_method_10_code
def y_X_late : MethodName := ⟨R_X, "late", "(I)I"⟩
def w_X_late : List Cond := .code y_X_late b_X_late 2 (some .int) :: lw_ok
abbrev b_X_clock : ByteArray := prog_1_method_11_code
def y_X_clock : MethodName := ⟨R_X, "clock", "()I"⟩
def w_X_clock : List Cond := .code y_X_clock b_X_clock 1 (some .int) :: lw_ok
abbrev b_X_retune : ByteArray := prog_1_method_12_code
def y_X_retune : MethodName := ⟨R_X, "retune", "()V"⟩
def w_X_retune : List Cond := .code y_X_retune b_X_retune 1 none :: lw_ok
abbrev b_X_count : ByteArray := prog_1_method_13_code
def y_X_count : MethodName := ⟨R_X, "count", "(I)I"⟩
def w_X_count : List Cond := .code y_X_count b_X_count 2 (some .int) :: lw_ok
abbrev b_X_latest : ByteArray := prog_1_method_14_code
def y_X_latest : MethodName := ⟨R_X, "latest", "(II)I"⟩
def w_X_latest : List Cond := .code y_X_latest b_X_latest 4 (some .int) :: lw_ok
abbrev b_X_letter : ByteArray := prog_1_method_15_code
def y_X_letter : MethodName := ⟨R_X, "letter", "(II)I"⟩
def w_X_letter : List Cond := .code y_X_letter b_X_letter 4 (some .int) :: lw_ok
abbrev b_X_isStream : ByteArray := prog_1_method_16_code
def y_X_isStream : MethodName := ⟨R_X, "isStream", "(I)Z"⟩
def w_X_isStream : List Cond := .code y_X_isStream b_X_isStream 1 (some .boolean) :: lw_ok
abbrev b_X_isPacketIndex : ByteArray := prog_1_method_17_code
def y_X_isPacketIndex : MethodName := ⟨R_X, "isPacketIndex", "(I)Z"⟩
def w_X_isPacketIndex : List Cond := .code y_X_isPacketIndex b_X_isPacketIndex 1 (some .boolean) :: lw_ok
abbrev b_X_sendPacket : ByteArray := prog_1_method_18_code
def y_X_sendPacket : MethodName := ⟨R_X, "sendPacket", "()V"⟩
def w_X_sendPacket : List Cond := .code y_X_sendPacket b_X_sendPacket 3 none :: lw_ok
abbrev b_X_chooseStream : ByteArray := prog_1_method_19_code
def y_X_chooseStream : MethodName := ⟨R_X, "chooseStream", "(Z)I"⟩
def w_X_chooseStream : List Cond := .code y_X_chooseStream b_X_chooseStream 6 (some .int) :: lw_ok
abbrev b_X_fillPacket : ByteArray := prog_1_method_20_code
def y_X_fillPacket : MethodName := ⟨R_X, "fillPacket", "(IZ)V"⟩
def w_X_fillPacket : List Cond := .code y_X_fillPacket b_X_fillPacket 4 none :: lw_ok
abbrev b_X_putHead : ByteArray := prog_1_method_21_code
def y_X_putHead : MethodName := ⟨R_X, "putHead", "(IZZI)V"⟩
def w_X_putHead : List Cond := .code y_X_putHead b_X_putHead 5 none :: lw_ok
abbrev b_L_cell : ByteArray := method_2_code
def y_L_cell : MethodName := ⟨R_L, "cell", "([II)I"⟩
def w_L_cell : List Cond := .code y_L_cell b_L_cell 2 (some .int) :: lw_ok
abbrev b_M_init : ByteArray := prog_8_method_1_code
def y_M_init : MethodName := ⟨R_M, "<init>", "(II)V"⟩
def w_M_init : List Cond := .code y_M_init b_M_init 3 none :: lw_ok
abbrev b_M_within : ByteArray := prog_8_method_2_code
def y_M_within : MethodName := ⟨R_M, "within", "(III)Z"⟩
def w_M_within : List Cond := .code y_M_within b_M_within 3 (some .boolean) :: lw_ok
abbrev b_M_add : ByteArray := prog_8_method_3_code
def y_M_add : MethodName := ⟨R_M, "add", "(IIII)I"⟩
def w_M_add : List Cond := .code y_M_add b_M_add 7 (some .int) :: lw_ok
abbrev b_M_high : ByteArray := prog_8_method_4_code
def y_M_high : MethodName := ⟨R_M, "high", "(I)I"⟩
def w_M_high : List Cond := .code y_M_high b_M_high 4 (some .int) :: lw_ok
abbrev b_M_goOn : ByteArray := prog_8_method_5_code
def y_M_goOn : MethodName := ⟨R_M, "goOn", "(I)V"⟩
def w_M_goOn : List Cond := .code y_M_goOn b_M_goOn 3 none :: lw_ok
abbrev b_M_takes : ByteArray := prog_8_method_6_code
def y_M_takes : MethodName := ⟨R_M, "takes", "(I)I"⟩
def w_M_takes : List Cond := .code y_M_takes b_M_takes 4 (some .int) :: lw_ok
abbrev b_M_ready : ByteArray := prog_8_method_7_code
def y_M_ready : MethodName := ⟨R_M, "ready", "(I)Z"⟩
def w_M_ready : List Cond := .code y_M_ready b_M_ready 4 (some .boolean) :: lw_ok
abbrev b_M_chosen : ByteArray := prog_8_method_8_code
def y_M_chosen : MethodName := ⟨R_M, "chosen", "()I"⟩
def w_M_chosen : List Cond := .code y_M_chosen b_M_chosen 6 (some .int) :: lw_ok
abbrev b_M_make : ByteArray := prog_8_method_9_code
def y_M_make : MethodName := ⟨R_M, "make", "()V"⟩
def w_M_make : List Cond := .code y_M_make b_M_make 8 none :: lw_ok
abbrev b_M_oneTick : ByteArray := prog_8_method_10_code
def y_M_oneTick : MethodName := ⟨R_M, "oneTick", "()V"⟩
def w_M_oneTick : List Cond := .code y_M_oneTick b_M_oneTick 2 none :: lw_ok
abbrev b_M_ticks : ByteArray := prog_8_method_11_code
def y_M_ticks : MethodName := ⟨R_M, "ticks", "(IZ)I"⟩
def w_M_ticks : List Cond := .code y_M_ticks b_M_ticks 4 (some .int) :: lw_ok
abbrev b_M_tick : ByteArray := prog_8_method_12_code
def y_M_tick : MethodName := ⟨R_M, "tick", "(I)I"⟩
def w_M_tick : List Cond := .code y_M_tick b_M_tick 2 (some .int) :: lw_ok
abbrev b_M_lose : ByteArray := prog_8_method_13_code
def y_M_lose : MethodName := ⟨R_M, "lose", "(I)I"⟩
def w_M_lose : List Cond := .code y_M_lose b_M_lose 2 (some .int) :: lw_ok
abbrev b_M_spoil : ByteArray := prog_8_method_14_code
def y_M_spoil : MethodName := ⟨R_M, "spoil", "(II)I"⟩
def w_M_spoil : List Cond := .code y_M_spoil b_M_spoil 3 (some .int) :: lw_ok
abbrev b_M_packet : ByteArray := prog_8_method_15_code
def y_M_packet : MethodName := ⟨R_M, "packet", "(I)I"⟩
def w_M_packet : List Cond := .code y_M_packet b_M_packet 2 (some .int) :: lw_ok
abbrev b_M_goBroken : ByteArray := prog_8_method_16_code
def y_M_goBroken : MethodName := ⟨R_M, "goBroken", "(I)V"⟩
def w_M_goBroken : List Cond := .code y_M_goBroken b_M_goBroken 2 none :: lw_ok
abbrev b_M_hear : ByteArray := prog_8_method_17_code
def y_M_hear : MethodName := ⟨R_M, "hear", "(II)V"⟩
def w_M_hear : List Cond := .code y_M_hear b_M_hear 8 none :: lw_ok
abbrev b_M_note : ByteArray := prog_8_method_18_code
def y_M_note : MethodName := ⟨R_M, "note", "(II)V"⟩
def w_M_note : List Cond := .code y_M_note b_M_note 3 none :: lw_ok
abbrev b_M_begin : ByteArray := prog_8_method_19_code
def y_M_begin : MethodName := ⟨R_M, "begin", "(II)I"⟩
def w_M_begin : List Cond := .code y_M_begin b_M_begin 4 (some .int) :: lw_ok
abbrev b_M_collect : ByteArray := prog_8_method_20_code
def y_M_collect : MethodName := ⟨R_M, "collect", "(II)V"⟩
def w_M_collect : List Cond := .code y_M_collect b_M_collect 4 none :: lw_ok
abbrev b_M_arrive : ByteArray := prog_8_method_21_code
def y_M_arrive : MethodName := ⟨R_M, "arrive", "(I)V"⟩
def w_M_arrive : List Cond := .code y_M_arrive b_M_arrive 4 none :: lw_ok
abbrev b_M_retune : ByteArray := prog_8_method_22_code
def y_M_retune : MethodName := ⟨R_M, "retune", "()V"⟩
def w_M_retune : List Cond := .code y_M_retune b_M_retune 2 none :: lw_ok
abbrev b_M_waiting : ByteArray := prog_8_method_23_code
def y_M_waiting : MethodName := ⟨R_M, "waiting", "(I)I"⟩
def w_M_waiting : List Cond := .code y_M_waiting b_M_waiting 2 (some .int) :: lw_ok
abbrev b_M_stored : ByteArray := prog_8_method_24_code
def y_M_stored : MethodName := ⟨R_M, "stored", "(I)I"⟩
def w_M_stored : List Cond := .code y_M_stored b_M_stored 2 (some .int) :: lw_ok
abbrev b_M_levels : ByteArray := prog_8_method_25_code
def y_M_levels : MethodName := ⟨R_M, "levels", "(I)I"⟩
def w_M_levels : List Cond := .code y_M_levels b_M_levels 3 (some .int) :: lw_ok
abbrev b_M_late : ByteArray := prog_8_method_26_code
def y_M_late : MethodName := ⟨R_M, "late", "(I)I"⟩
def w_M_late : List Cond := .code y_M_late b_M_late 2 (some .int) :: lw_ok
abbrev b_M_clock : ByteArray := prog_8_method_27_code
def y_M_clock : MethodName := ⟨R_M, "clock", "()I"⟩
def w_M_clock : List Cond := .code y_M_clock b_M_clock 1 (some .int) :: lw_ok
abbrev b_M_count : ByteArray := prog_8_method_28_code
def y_M_count : MethodName := ⟨R_M, "count", "(I)I"⟩
def w_M_count : List Cond := .code y_M_count b_M_count 2 (some .int) :: lw_ok
abbrev b_M_latest : ByteArray := prog_8_method_29_code
def y_M_latest : MethodName := ⟨R_M, "latest", "(II)I"⟩
def w_M_latest : List Cond := .code y_M_latest b_M_latest 3 (some .int) :: lw_ok
abbrev b_M_letter : ByteArray := prog_8_method_30_code
def y_M_letter : MethodName := ⟨R_M, "letter", "(II)I"⟩
def w_M_letter : List Cond := .code y_M_letter b_M_letter 3 (some .int) :: lw_ok
abbrev b_J_floorMod : ByteArray := prog_9_method_50_code
def y_J_floorMod : MethodName := ⟨"java/lang/Math", "floorMod", "(II)I"⟩
def w_J_floorMod : List Cond := .code y_J_floorMod b_J_floorMod 3 (some .int) :: lw_ok
set_option maxRecDepth 20000 in
theorem in_C : ∀ w ∈ u_ws R_C F_C 11, w ∈ lw_ok := by
  intro w h
  obtain ⟨k, hk, rfl⟩ := List.mem_map.mp h
  have hk : k < 11 := List.mem_range.mp hk
  refine List.mem_filter.mpr ⟨List.mem_append_right _ (List.mem_of_getElem? (i := ([111, 113, 115, 117, 119, 121, 123, 125, 127, 129, 131] : List Nat).getD k 0) ?_), ?_⟩
  · revert k
    decide +kernel
  · revert k
    decide +kernel
set_option maxRecDepth 20000 in
theorem in_P : ∀ w ∈ u_ws R_P F_P 2, w ∈ lw_ok := by
  intro w h
  obtain ⟨k, hk, rfl⟩ := List.mem_map.mp h
  have hk : k < 2 := List.mem_range.mp hk
  refine List.mem_filter.mpr ⟨List.mem_append_right _ (List.mem_of_getElem? (i := ([159, 161] : List Nat).getD k 0) ?_), ?_⟩
  · revert k
    decide +kernel
  · revert k
    decide +kernel
set_option maxRecDepth 20000 in
theorem in_R : ∀ w ∈ u_ws R_R F_R 4, w ∈ lw_ok := by
  intro w h
  obtain ⟨k, hk, rfl⟩ := List.mem_map.mp h
  have hk : k < 4 := List.mem_range.mp hk
  refine List.mem_filter.mpr ⟨List.mem_append_right _ (List.mem_of_getElem? (i := ([142, 144, 146, 148] : List Nat).getD k 0) ?_), ?_⟩
  · revert k
    decide +kernel
  · revert k
    decide +kernel
set_option maxRecDepth 20000 in
theorem in_S : ∀ w ∈ u_ws R_S F_S 8, w ∈ lw_ok := by
  intro w h
  obtain ⟨k, hk, rfl⟩ := List.mem_map.mp h
  have hk : k < 8 := List.mem_range.mp hk
  refine List.mem_filter.mpr ⟨List.mem_append_right _ (List.mem_of_getElem? (i := ([64, 66, 68, 70, 72, 74, 76, 78] : List Nat).getD k 0) ?_), ?_⟩
  · revert k
    decide +kernel
  · revert k
    decide +kernel
set_option maxRecDepth 20000 in
theorem in_U : ∀ w ∈ u_ws R_U F_U 4, w ∈ lw_ok := by
  intro w h
  obtain ⟨k, hk, rfl⟩ := List.mem_map.mp h
  have hk : k < 4 := List.mem_range.mp hk
  refine List.mem_filter.mpr ⟨List.mem_append_right _ (List.mem_of_getElem? (i := ([41, 43, 45, 47] : List Nat).getD k 0) ?_), ?_⟩
  · revert k
    decide +kernel
  · revert k
    decide +kernel
set_option maxRecDepth 20000 in
theorem in_X : ∀ w ∈ u_ws R_X F_X 8, w ∈ lw_ok := by
  intro w h
  obtain ⟨k, hk, rfl⟩ := List.mem_map.mp h
  have hk : k < 8 := List.mem_range.mp hk
  refine List.mem_filter.mpr ⟨List.mem_append_right _ (List.mem_of_getElem? (i := ([172, 174, 176, 178, 180, 182, 184, 186] : List Nat).getD k 0) ?_), ?_⟩
  · revert k
    decide +kernel
  · revert k
    decide +kernel
set_option maxRecDepth 20000 in
theorem in_M : ∀ w ∈ u_ws R_M F_M 30, w ∈ lw_ok := by
  intro w h
  obtain ⟨k, hk, rfl⟩ := List.mem_map.mp h
  have hk : k < 30 := List.mem_range.mp hk
  refine List.mem_filter.mpr ⟨List.mem_append_right _ (List.mem_of_getElem? (i := ([463, 465, 467, 469, 471, 473, 475, 477, 479, 481, 483, 485, 487, 489, 491, 493, 495, 497, 499, 501, 503, 505, 507, 509, 511, 513, 515, 517, 519, 521] : List Nat).getD k 0) ?_), ?_⟩
  · revert k
    decide +kernel
  · revert k
    decide +kernel
