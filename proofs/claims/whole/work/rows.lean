section
-- ===== PART A: goes FIRST, ahead of the names: the tables' words, and 'selects' of the private methods out of them =====
/-- a private method of a class that the tables say can be made, by its rows of tables_1 -/
def lw_okq (q : MethodName × Nat) : Prop := (q.1.cls ≠ "java/lang/invoke/MethodHandle" ∧ q.1.cls ≠ "java/lang/invoke/VarHandle") ∧ Cond.instantiable q.1.cls q.2 ∈ tables_1 ∧ Cond.privateMethod q.1 ∈ tables_1 ∧ Cond.instanceMethod q.1 ∈ tables_1
theorem lw_p0 : lw_okq (⟨"PacedMux", "sendPacket", "()V"⟩, 8) := ⟨⟨by decide +kernel, by decide +kernel⟩, List.mem_of_getElem? (i := 10) (by decide +kernel), List.mem_of_getElem? (i := 210) (by decide +kernel), List.mem_of_getElem? (i := 211) (by decide +kernel)⟩
theorem lw_p1 : lw_okq (⟨"PacedMux$Sender", "dropCurrent", "()V"⟩, 8) := ⟨⟨by decide +kernel, by decide +kernel⟩, List.mem_of_getElem? (i := 25) (by decide +kernel), List.mem_of_getElem? (i := 235) (by decide +kernel), List.mem_of_getElem? (i := 236) (by decide +kernel)⟩
theorem lw_p2 : lw_okq (⟨"PacedMux", "chooseStream", "(Z)I"⟩, 8) := ⟨⟨by decide +kernel, by decide +kernel⟩, List.mem_of_getElem? (i := 10) (by decide +kernel), List.mem_of_getElem? (i := 239) (by decide +kernel), List.mem_of_getElem? (i := 240) (by decide +kernel)⟩
theorem lw_p3 : lw_okq (⟨"PacedMux", "fillPacket", "(IZ)V"⟩, 8) := ⟨⟨by decide +kernel, by decide +kernel⟩, List.mem_of_getElem? (i := 10) (by decide +kernel), List.mem_of_getElem? (i := 266) (by decide +kernel), List.mem_of_getElem? (i := 267) (by decide +kernel)⟩
theorem lw_p4 : lw_okq (⟨"PacedMux", "putHead", "(IZZI)V"⟩, 8) := ⟨⟨by decide +kernel, by decide +kernel⟩, List.mem_of_getElem? (i := 10) (by decide +kernel), List.mem_of_getElem? (i := 275) (by decide +kernel), List.mem_of_getElem? (i := 276) (by decide +kernel)⟩
theorem lw_p5 : lw_okq (⟨"PacedMux$Receiver", "advanceClock", "()V"⟩, 4) := ⟨⟨by decide +kernel, by decide +kernel⟩, List.mem_of_getElem? (i := 82) (by decide +kernel), List.mem_of_getElem? (i := 312) (by decide +kernel), List.mem_of_getElem? (i := 313) (by decide +kernel)⟩
theorem lw_p6 : lw_okq (⟨"PacedMux$Receiver", "takeOfStream", "(LPacedMux$Collector;LPacedMux$Packet;I)V"⟩, 4) := ⟨⟨by decide +kernel, by decide +kernel⟩, List.mem_of_getElem? (i := 82) (by decide +kernel), List.mem_of_getElem? (i := 323) (by decide +kernel), List.mem_of_getElem? (i := 324) (by decide +kernel)⟩
theorem lw_p7 : lw_okq (⟨"PacedMux$Receiver", "breakUnit", "(LPacedMux$Collector;)V"⟩, 4) := ⟨⟨by decide +kernel, by decide +kernel⟩, List.mem_of_getElem? (i := 82) (by decide +kernel), List.mem_of_getElem? (i := 331) (by decide +kernel), List.mem_of_getElem? (i := 332) (by decide +kernel)⟩
theorem lw_p8 : lw_okq (⟨"PacedMux$Receiver", "beginUnit", "(LPacedMux$Collector;LPacedMux$Packet;I)V"⟩, 4) := ⟨⟨by decide +kernel, by decide +kernel⟩, List.mem_of_getElem? (i := 82) (by decide +kernel), List.mem_of_getElem? (i := 335) (by decide +kernel), List.mem_of_getElem? (i := 336) (by decide +kernel)⟩
theorem lw_p9 : lw_okq (⟨"PacedMux$Receiver", "finishUnit", "(LPacedMux$Collector;)V"⟩, 4) := ⟨⟨by decide +kernel, by decide +kernel⟩, List.mem_of_getElem? (i := 82) (by decide +kernel), List.mem_of_getElem? (i := 348) (by decide +kernel), List.mem_of_getElem? (i := 349) (by decide +kernel)⟩
theorem lw_p10 : lw_okq (⟨"PacedMuxModel", "ticks", "(IZ)I"⟩, 30) := ⟨⟨by decide +kernel, by decide +kernel⟩, List.mem_of_getElem? (i := 428) (by decide +kernel), List.mem_of_getElem? (i := 537) (by decide +kernel), List.mem_of_getElem? (i := 538) (by decide +kernel)⟩
theorem lw_p11 : lw_okq (⟨"PacedMuxModel", "oneTick", "()V"⟩, 30) := ⟨⟨by decide +kernel, by decide +kernel⟩, List.mem_of_getElem? (i := 428) (by decide +kernel), List.mem_of_getElem? (i := 541) (by decide +kernel), List.mem_of_getElem? (i := 542) (by decide +kernel)⟩
theorem lw_p12 : lw_okq (⟨"PacedMuxModel", "goOn", "(I)V"⟩, 30) := ⟨⟨by decide +kernel, by decide +kernel⟩, List.mem_of_getElem? (i := 428) (by decide +kernel), List.mem_of_getElem? (i := 545) (by decide +kernel), List.mem_of_getElem? (i := 546) (by decide +kernel)⟩
theorem lw_p13 : lw_okq (⟨"PacedMuxModel", "make", "()V"⟩, 30) := ⟨⟨by decide +kernel, by decide +kernel⟩, List.mem_of_getElem? (i := 428) (by decide +kernel), List.mem_of_getElem? (i := 549) (by decide +kernel), List.mem_of_getElem? (i := 550) (by decide +kernel)⟩
theorem lw_p14 : lw_okq (⟨"PacedMuxModel", "chosen", "()I"⟩, 30) := ⟨⟨by decide +kernel, by decide +kernel⟩, List.mem_of_getElem? (i := 428) (by decide +kernel), List.mem_of_getElem? (i := 553) (by decide +kernel), List.mem_of_getElem? (i := 554) (by decide +kernel)⟩
theorem lw_p15 : lw_okq (⟨"PacedMuxModel", "ready", "(I)Z"⟩, 30) := ⟨⟨by decide +kernel, by decide +kernel⟩, List.mem_of_getElem? (i := 428) (by decide +kernel), List.mem_of_getElem? (i := 557) (by decide +kernel), List.mem_of_getElem? (i := 558) (by decide +kernel)⟩
def lw_privs_1 : List (MethodName × Nat) := [(⟨"PacedMux", "sendPacket", "()V"⟩, 8), (⟨"PacedMux$Sender", "dropCurrent", "()V"⟩, 8), (⟨"PacedMux", "chooseStream", "(Z)I"⟩, 8), (⟨"PacedMux", "fillPacket", "(IZ)V"⟩, 8), (⟨"PacedMux", "putHead", "(IZZI)V"⟩, 8), (⟨"PacedMux$Receiver", "advanceClock", "()V"⟩, 4), (⟨"PacedMux$Receiver", "takeOfStream", "(LPacedMux$Collector;LPacedMux$Packet;I)V"⟩, 4), (⟨"PacedMux$Receiver", "breakUnit", "(LPacedMux$Collector;)V"⟩, 4), (⟨"PacedMux$Receiver", "beginUnit", "(LPacedMux$Collector;LPacedMux$Packet;I)V"⟩, 4), (⟨"PacedMux$Receiver", "finishUnit", "(LPacedMux$Collector;)V"⟩, 4), (⟨"PacedMuxModel", "ticks", "(IZ)I"⟩, 30), (⟨"PacedMuxModel", "oneTick", "()V"⟩, 30), (⟨"PacedMuxModel", "goOn", "(I)V"⟩, 30), (⟨"PacedMuxModel", "make", "()V"⟩, 30), (⟨"PacedMuxModel", "chosen", "()I"⟩, 30), (⟨"PacedMuxModel", "ready", "(I)Z"⟩, 30)]
theorem lw_r1 : ∀ q ∈ lw_privs_1, lw_okq q := List.forall_mem_cons.mpr ⟨lw_p0, List.forall_mem_cons.mpr ⟨lw_p1, List.forall_mem_cons.mpr ⟨lw_p2, List.forall_mem_cons.mpr ⟨lw_p3, List.forall_mem_cons.mpr ⟨lw_p4, List.forall_mem_cons.mpr ⟨lw_p5, List.forall_mem_cons.mpr ⟨lw_p6, List.forall_mem_cons.mpr ⟨lw_p7, List.forall_mem_cons.mpr ⟨lw_p8, List.forall_mem_cons.mpr ⟨lw_p9, List.forall_mem_cons.mpr ⟨lw_p10, List.forall_mem_cons.mpr ⟨lw_p11, List.forall_mem_cons.mpr ⟨lw_p12, List.forall_mem_cons.mpr ⟨lw_p13, List.forall_mem_cons.mpr ⟨lw_p14, List.forall_mem_cons.mpr ⟨lw_p15, fun _ h => absurd h List.not_mem_nil⟩⟩⟩⟩⟩⟩⟩⟩⟩⟩⟩⟩⟩⟩⟩⟩
theorem lw_p16 : lw_okq (⟨"PacedMuxModel", "takes", "(I)I"⟩, 30) := ⟨⟨by decide +kernel, by decide +kernel⟩, List.mem_of_getElem? (i := 428) (by decide +kernel), List.mem_of_getElem? (i := 561) (by decide +kernel), List.mem_of_getElem? (i := 562) (by decide +kernel)⟩
theorem lw_p17 : lw_okq (⟨"PacedMuxModel", "high", "(I)I"⟩, 30) := ⟨⟨by decide +kernel, by decide +kernel⟩, List.mem_of_getElem? (i := 428) (by decide +kernel), List.mem_of_getElem? (i := 565) (by decide +kernel), List.mem_of_getElem? (i := 566) (by decide +kernel)⟩
theorem lw_p18 : lw_okq (⟨"PacedMuxModel", "hear", "(II)V"⟩, 30) := ⟨⟨by decide +kernel, by decide +kernel⟩, List.mem_of_getElem? (i := 428) (by decide +kernel), List.mem_of_getElem? (i := 569) (by decide +kernel), List.mem_of_getElem? (i := 570) (by decide +kernel)⟩
theorem lw_p19 : lw_okq (⟨"PacedMuxModel", "note", "(II)V"⟩, 30) := ⟨⟨by decide +kernel, by decide +kernel⟩, List.mem_of_getElem? (i := 428) (by decide +kernel), List.mem_of_getElem? (i := 574) (by decide +kernel), List.mem_of_getElem? (i := 575) (by decide +kernel)⟩
theorem lw_p20 : lw_okq (⟨"PacedMuxModel", "goBroken", "(I)V"⟩, 30) := ⟨⟨by decide +kernel, by decide +kernel⟩, List.mem_of_getElem? (i := 428) (by decide +kernel), List.mem_of_getElem? (i := 578) (by decide +kernel), List.mem_of_getElem? (i := 579) (by decide +kernel)⟩
theorem lw_p21 : lw_okq (⟨"PacedMuxModel", "begin", "(II)I"⟩, 30) := ⟨⟨by decide +kernel, by decide +kernel⟩, List.mem_of_getElem? (i := 428) (by decide +kernel), List.mem_of_getElem? (i := 582) (by decide +kernel), List.mem_of_getElem? (i := 583) (by decide +kernel)⟩
theorem lw_p22 : lw_okq (⟨"PacedMuxModel", "collect", "(II)V"⟩, 30) := ⟨⟨by decide +kernel, by decide +kernel⟩, List.mem_of_getElem? (i := 428) (by decide +kernel), List.mem_of_getElem? (i := 586) (by decide +kernel), List.mem_of_getElem? (i := 587) (by decide +kernel)⟩
theorem lw_p23 : lw_okq (⟨"PacedMuxModel", "arrive", "(I)V"⟩, 30) := ⟨⟨by decide +kernel, by decide +kernel⟩, List.mem_of_getElem? (i := 428) (by decide +kernel), List.mem_of_getElem? (i := 590) (by decide +kernel), List.mem_of_getElem? (i := 591) (by decide +kernel)⟩
def lw_privs_2 : List (MethodName × Nat) := [(⟨"PacedMuxModel", "takes", "(I)I"⟩, 30), (⟨"PacedMuxModel", "high", "(I)I"⟩, 30), (⟨"PacedMuxModel", "hear", "(II)V"⟩, 30), (⟨"PacedMuxModel", "note", "(II)V"⟩, 30), (⟨"PacedMuxModel", "goBroken", "(I)V"⟩, 30), (⟨"PacedMuxModel", "begin", "(II)I"⟩, 30), (⟨"PacedMuxModel", "collect", "(II)V"⟩, 30), (⟨"PacedMuxModel", "arrive", "(I)V"⟩, 30)]
theorem lw_r2 : ∀ q ∈ lw_privs_2, lw_okq q := List.forall_mem_cons.mpr ⟨lw_p16, List.forall_mem_cons.mpr ⟨lw_p17, List.forall_mem_cons.mpr ⟨lw_p18, List.forall_mem_cons.mpr ⟨lw_p19, List.forall_mem_cons.mpr ⟨lw_p20, List.forall_mem_cons.mpr ⟨lw_p21, List.forall_mem_cons.mpr ⟨lw_p22, List.forall_mem_cons.mpr ⟨lw_p23, fun _ h => absurd h List.not_mem_nil⟩⟩⟩⟩⟩⟩⟩⟩
def lw_privs : List (MethodName × Nat) := lw_privs_1 ++ (lw_privs_2)
def lw_tbl : List Cond := k2_sels lw_privs ++ tables_1
theorem lw_privs_ok : ∀ q ∈ lw_privs, lw_okq q := by
  show ∀ q ∈ lw_privs_1 ++ (lw_privs_2), lw_okq q
  exact List.forall_mem_append.mpr ⟨lw_r1, lw_r2⟩
end
section
def lw_ok : List Cond := lw_tbl.filter goodWord
def R_C : String := "PacedMux$Collector"
def R_P : String := "PacedMux$Packet"
def R_R : String := "PacedMux$Receiver"
def R_S : String := "PacedMux$Sender"
def R_U : String := "PacedMux$UnitRow"
def R_X : String := "PacedMux"
def R_M : String := "PacedMuxModel"
def R_L : String := "PacedMuxLaw"
def F_C : u_T := fun k => match k with
  | 0 => ("PacedMux$Collector", "hasCounter", "Z", false)
  | 1 => ("PacedMux$Collector", "lastCounter", "I", false)
  | 2 => ("PacedMux$Collector", "collecting", "Z", false)
  | 3 => ("PacedMux$Collector", "size", "I", false)
  | 4 => ("PacedMux$Collector", "due", "I", false)
  | 5 => ("PacedMux$Collector", "filled", "I", false)
  | 6 => ("PacedMux$Collector", "bytes", "[I", false)
  | 7 => ("PacedMux$Collector", "latestSize", "I", false)
  | 8 => ("PacedMux$Collector", "latestDue", "I", false)
  | 9 => ("PacedMux$Collector", "latestBytes", "[I", false)
  | _ => ("PacedMux$Collector", "arrivals", "I", false)
def t_C : Nat → FieldType := fun k => match k with
  | 0 => .boolean
  | 1 => .int
  | 2 => .boolean
  | 3 => .int
  | 4 => .int
  | 5 => .int
  | 6 => .array .int
  | 7 => .int
  | 8 => .int
  | 9 => .array .int
  | _ => .int
theorem nm_C : ∀ a, a < 11 → ∀ b, b < 11 → a ≠ b → (F_C a).2.1 ≠ (F_C b).2.1 := by decide +kernel
theorem ty_C : ∀ k, k < 11 → parseFieldDescriptor (F_C k).2.2.1 = some (t_C k) := by decide +kernel
def F_P : u_T := fun k => match k with
  | 0 => ("PacedMux$Packet", "bytes", "[I", true)
  | _ => ("PacedMux$Packet", "used", "I", false)
def t_P : Nat → FieldType := fun k => match k with
  | 0 => .array .int
  | _ => .int
theorem nm_P : ∀ a, a < 2 → ∀ b, b < 2 → a ≠ b → (F_P a).2.1 ≠ (F_P b).2.1 := by decide +kernel
theorem ty_P : ∀ k, k < 2 → parseFieldDescriptor (F_P k).2.2.1 = some (t_P k) := by decide +kernel
def F_R : u_T := fun k => match k with
  | 0 => ("PacedMux$Receiver", "collectors", "[LPacedMux$Collector;", true)
  | 1 => ("PacedMux$Receiver", "tallies", "[I", true)
  | 2 => ("PacedMux$Receiver", "clockKnown", "Z", false)
  | _ => ("PacedMux$Receiver", "clockTime", "I", false)
def t_R : Nat → FieldType := fun k => match k with
  | 0 => .array (.object "PacedMux$Collector")
  | 1 => .array .int
  | 2 => .boolean
  | _ => .int
theorem nm_R : ∀ a, a < 4 → ∀ b, b < 4 → a ≠ b → (F_R a).2.1 ≠ (F_R b).2.1 := by decide +kernel
theorem ty_R : ∀ k, k < 4 → parseFieldDescriptor (F_R k).2.2.1 = some (t_R k) := by decide +kernel
def F_S : u_T := fun k => match k with
  | 0 => ("PacedMux$Sender", "queue", "LPacedMux$UnitRow;", true)
  | 1 => ("PacedMux$Sender", "store", "LPacedMux$UnitRow;", true)
  | 2 => ("PacedMux$Sender", "sentBytes", "I", false)
  | 3 => ("PacedMux$Sender", "low", "I", false)
  | 4 => ("PacedMux$Sender", "high", "I", false)
  | 5 => ("PacedMux$Sender", "nextCounter", "I", false)
  | 6 => ("PacedMux$Sender", "lateUnits", "I", false)
  | _ => ("PacedMux$Sender", "newestDue", "I", false)
def t_S : Nat → FieldType := fun k => match k with
  | 0 => .object "PacedMux$UnitRow"
  | 1 => .object "PacedMux$UnitRow"
  | 2 => .int
  | 3 => .int
  | 4 => .int
  | 5 => .int
  | 6 => .int
  | _ => .int
theorem nm_S : ∀ a, a < 8 → ∀ b, b < 8 → a ≠ b → (F_S a).2.1 ≠ (F_S b).2.1 := by decide +kernel
theorem ty_S : ∀ k, k < 8 → parseFieldDescriptor (F_S k).2.2.1 = some (t_S k) := by decide +kernel
def F_U : u_T := fun k => match k with
  | 0 => ("PacedMux$UnitRow", "sizes", "[I", true)
  | 1 => ("PacedMux$UnitRow", "dues", "[I", true)
  | 2 => ("PacedMux$UnitRow", "seeds", "[I", true)
  | _ => ("PacedMux$UnitRow", "length", "I", false)
def t_U : Nat → FieldType := fun k => match k with
  | 0 => .array .int
  | 1 => .array .int
  | 2 => .array .int
  | _ => .int
theorem nm_U : ∀ a, a < 4 → ∀ b, b < 4 → a ≠ b → (F_U a).2.1 ≠ (F_U b).2.1 := by decide +kernel
theorem ty_U : ∀ k, k < 4 → parseFieldDescriptor (F_U k).2.2.1 = some (t_U k) := by decide +kernel
def F_X : u_T := fun k => match k with
  | 0 => ("PacedMux", "leak", "I", true)
  | 1 => ("PacedMux", "capacity", "I", true)
  | 2 => ("PacedMux", "senders", "[LPacedMux$Sender;", true)
  | 3 => ("PacedMux", "receiver", "LPacedMux$Receiver;", true)
  | 4 => ("PacedMux", "sentPacket", "LPacedMux$Packet;", true)
  | 5 => ("PacedMux", "arrivingPacket", "LPacedMux$Packet;", true)
  | 6 => ("PacedMux", "time", "I", false)
  | _ => ("PacedMux", "ticked", "Z", false)
def t_X : Nat → FieldType := fun k => match k with
  | 0 => .int
  | 1 => .int
  | 2 => .array (.object "PacedMux$Sender")
  | 3 => .object "PacedMux$Receiver"
  | 4 => .object "PacedMux$Packet"
  | 5 => .object "PacedMux$Packet"
  | 6 => .int
  | _ => .boolean
theorem nm_X : ∀ a, a < 8 → ∀ b, b < 8 → a ≠ b → (F_X a).2.1 ≠ (F_X b).2.1 := by decide +kernel
theorem ty_X : ∀ k, k < 8 → parseFieldDescriptor (F_X k).2.2.1 = some (t_X k) := by decide +kernel
def F_M : u_T := fun k => match k with
  | 0 => ("PacedMuxModel", "leak", "I", false)
  | 1 => ("PacedMuxModel", "capacity", "I", false)
  | 2 => ("PacedMuxModel", "time", "I", false)
  | 3 => ("PacedMuxModel", "low", "[I", true)
  | 4 => ("PacedMuxModel", "sizes", "[I", true)
  | 5 => ("PacedMuxModel", "dues", "[I", true)
  | 6 => ("PacedMuxModel", "seeds", "[I", true)
  | 7 => ("PacedMuxModel", "added", "[I", true)
  | 8 => ("PacedMuxModel", "alive", "[I", true)
  | 9 => ("PacedMuxModel", "current", "[I", true)
  | 10 => ("PacedMuxModel", "sent", "[I", true)
  | 11 => ("PacedMuxModel", "lates", "[I", true)
  | 12 => ("PacedMuxModel", "next", "[I", true)
  | 13 => ("PacedMuxModel", "any", "Z", false)
  | 14 => ("PacedMuxModel", "packet", "[I", true)
  | 15 => ("PacedMuxModel", "heard", "[I", true)
  | 16 => ("PacedMuxModel", "known", "Z", false)
  | 17 => ("PacedMuxModel", "clock", "I", false)
  | 18 => ("PacedMuxModel", "came", "[Z", true)
  | 19 => ("PacedMuxModel", "counter", "[I", true)
  | 20 => ("PacedMuxModel", "collects", "[Z", true)
  | 21 => ("PacedMuxModel", "have", "[I", true)
  | 22 => ("PacedMuxModel", "want", "[I", true)
  | 23 => ("PacedMuxModel", "wantDue", "[I", true)
  | 24 => ("PacedMuxModel", "bytes", "[I", true)
  | 25 => ("PacedMuxModel", "last", "[I", true)
  | 26 => ("PacedMuxModel", "lastSize", "[I", true)
  | 27 => ("PacedMuxModel", "lastDue", "[I", true)
  | 28 => ("PacedMuxModel", "arrived", "[I", true)
  | _ => ("PacedMuxModel", "counts", "[I", true)
def t_M : Nat → FieldType := fun k => match k with
  | 0 => .int
  | 1 => .int
  | 2 => .int
  | 3 => .array .int
  | 4 => .array .int
  | 5 => .array .int
  | 6 => .array .int
  | 7 => .array .int
  | 8 => .array .int
  | 9 => .array .int
  | 10 => .array .int
  | 11 => .array .int
  | 12 => .array .int
  | 13 => .boolean
  | 14 => .array .int
  | 15 => .array .int
  | 16 => .boolean
  | 17 => .int
  | 18 => .array .boolean
  | 19 => .array .int
  | 20 => .array .boolean
  | 21 => .array .int
  | 22 => .array .int
  | 23 => .array .int
  | 24 => .array .int
  | 25 => .array .int
  | 26 => .array .int
  | 27 => .array .int
  | 28 => .array .int
  | _ => .array .int
theorem nm_M : ∀ a, a < 30 → ∀ b, b < 30 → a ≠ b → (F_M a).2.1 ≠ (F_M b).2.1 := by decide +kernel
theorem ty_M : ∀ k, k < 30 → parseFieldDescriptor (F_M k).2.2.1 = some (t_M k) := by decide +kernel
abbrev vwCl : List vw_C := [(R_C, F_C, 11), (R_P, F_P, 2), (R_R, F_R, 4), (R_S, F_S, 8), (R_U, F_U, 4), (R_X, F_X, 8), (R_M, F_M, 30)]
abbrev b_C_init : ByteArray := prog_2_method_1_code
def y_C_init : MethodName := ⟨R_C, "<init>", "()V"⟩
def w_C_init : List Cond := .code y_C_init b_C_init 1 none :: lw_ok
abbrev b_C_reset : ByteArray := prog_2_method_2_code
def y_C_reset : MethodName := ⟨R_C, "reset", "()V"⟩
def w_C_reset : List Cond := .code y_C_reset b_C_reset 1 none :: lw_ok
abbrev b_C_noteCounter : ByteArray := prog_2_method_3_code
def y_C_noteCounter : MethodName := ⟨R_C, "noteCounter", "(I)Z"⟩
def w_C_noteCounter : List Cond := .code y_C_noteCounter b_C_noteCounter 3 (some .boolean) :: lw_ok
abbrev b_C_begin : ByteArray := prog_2_method_4_code
def y_C_begin : MethodName := ⟨R_C, "begin", "(II)V"⟩
def w_C_begin : List Cond := .code y_C_begin b_C_begin 3 none :: lw_ok
abbrev b_C_fill : ByteArray := prog_2_method_5_code
def y_C_fill : MethodName := ⟨R_C, "fill", "(LPacedMux$Packet;I)Z"⟩
def w_C_fill : List Cond := .code y_C_fill b_C_fill 4 (some .boolean) :: lw_ok
abbrev b_C_keepAsLatest : ByteArray := prog_2_method_6_code
def y_C_keepAsLatest : MethodName := ⟨R_C, "keepAsLatest", "()V"⟩
def w_C_keepAsLatest : List Cond := .code y_C_keepAsLatest b_C_keepAsLatest 2 none :: lw_ok
abbrev b_P_init : ByteArray := prog_3_method_1_code
def y_P_init : MethodName := ⟨R_P, "<init>", "()V"⟩
def w_P_init : List Cond := .code y_P_init b_P_init 1 none :: lw_ok
abbrev b_P_clear : ByteArray := prog_3_method_2_code
def y_P_clear : MethodName := ⟨R_P, "clear", "()V"⟩
def w_P_clear : List Cond := .code y_P_clear b_P_clear 2 none :: lw_ok
abbrev b_P_put : ByteArray := prog_3_method_3_code
def y_P_put : MethodName := ⟨R_P, "put", "(I)V"⟩
def w_P_put : List Cond := .code y_P_put b_P_put 2 none :: lw_ok
abbrev b_P_putTime : ByteArray := prog_3_method_4_code
def y_P_putTime : MethodName := ⟨R_P, "putTime", "(I)V"⟩
def w_P_putTime : List Cond := .code y_P_putTime b_P_putTime 2 none :: lw_ok
abbrev b_P_byteAt : ByteArray := prog_3_method_5_code
def y_P_byteAt : MethodName := ⟨R_P, "byteAt", "(I)I"⟩
def w_P_byteAt : List Cond := .code y_P_byteAt b_P_byteAt 2 (some .int) :: lw_ok
abbrev b_P_timeAt : ByteArray := prog_3_method_6_code
def y_P_timeAt : MethodName := ⟨R_P, "timeAt", "(I)I"⟩
def w_P_timeAt : List Cond := .code y_P_timeAt b_P_timeAt 2 (some .int) :: lw_ok
abbrev b_P_copyFrom : ByteArray := prog_3_method_7_code
def y_P_copyFrom : MethodName := ⟨R_P, "copyFrom", "(LPacedMux$Packet;)V"⟩
def w_P_copyFrom : List Cond := .code y_P_copyFrom b_P_copyFrom 3 none :: lw_ok
abbrev b_P_flip : ByteArray := prog_3_method_8_code
def y_P_flip : MethodName := ⟨R_P, "flip", "(II)V"⟩
def w_P_flip : List Cond := .code y_P_flip b_P_flip 3 none :: lw_ok
abbrev b_R_init : ByteArray := prog_4_method_1_code
def y_R_init : MethodName := ⟨R_R, "<init>", "()V"⟩
def w_R_init : List Cond := .code y_R_init b_R_init 2 none :: lw_ok
abbrev b_R_reset : ByteArray := prog_4_method_2_code
def y_R_reset : MethodName := ⟨R_R, "reset", "()V"⟩
def w_R_reset : List Cond := .code y_R_reset b_R_reset 2 none :: lw_ok
abbrev b_R_take : ByteArray := prog_4_method_3_code
def y_R_take : MethodName := ⟨R_R, "take", "(LPacedMux$Packet;)V"⟩
def w_R_take : List Cond := .code y_R_take b_R_take 5 none :: lw_ok
abbrev b_R_takeOfStream : ByteArray := prog_4_method_4_code
def y_R_takeOfStream : MethodName := ⟨R_R, "takeOfStream", "(LPacedMux$Collector;LPacedMux$Packet;I)V"⟩
def w_R_takeOfStream : List Cond := .code y_R_takeOfStream b_R_takeOfStream 6 none :: lw_ok
abbrev b_R_beginUnit : ByteArray := prog_4_method_5_code
def y_R_beginUnit : MethodName := ⟨R_R, "beginUnit", "(LPacedMux$Collector;LPacedMux$Packet;I)V"⟩
def w_R_beginUnit : List Cond := .code y_R_beginUnit b_R_beginUnit 5 none :: lw_ok
abbrev b_R_breakUnit : ByteArray := prog_4_method_6_code
def y_R_breakUnit : MethodName := ⟨R_R, "breakUnit", "(LPacedMux$Collector;)V"⟩
def w_R_breakUnit : List Cond := .code y_R_breakUnit b_R_breakUnit 2 none :: lw_ok
abbrev b_R_finishUnit : ByteArray := prog_4_method_7_code
def y_R_finishUnit : MethodName := ⟨R_R, "finishUnit", "(LPacedMux$Collector;)V"⟩
def w_R_finishUnit : List Cond := .code y_R_finishUnit b_R_finishUnit 3 none :: lw_ok
abbrev b_R_advanceClock : ByteArray := prog_4_method_8_code
def y_R_advanceClock : MethodName := ⟨R_R, "advanceClock", "()V"⟩
def w_R_advanceClock : List Cond := .code y_R_advanceClock b_R_advanceClock 1 none :: lw_ok
abbrev b_S_init : ByteArray := prog_5_method_1_code
def y_S_init : MethodName := ⟨R_S, "<init>", "()V"⟩
def w_S_init : List Cond := .code y_S_init b_S_init 1 none :: lw_ok
abbrev b_S_beginTick : ByteArray := prog_5_method_2_code
def y_S_beginTick : MethodName := ⟨R_S, "beginTick", "(II)V"⟩
def w_S_beginTick : List Cond := .code y_S_beginTick b_S_beginTick 3 none :: lw_ok
abbrev b_S_isAtStart : ByteArray := prog_5_method_3_code
def y_S_isAtStart : MethodName := ⟨R_S, "isAtStart", "()Z"⟩
def w_S_isAtStart : List Cond := .code y_S_isAtStart b_S_isAtStart 1 (some .boolean) :: lw_ok
abbrev b_S_portion : ByteArray := prog_5_method_4_code
def y_S_portion : MethodName := ⟨R_S, "portion", "(Z)I"⟩
def w_S_portion : List Cond := .code y_S_portion b_S_portion 3 (some .int) :: lw_ok
abbrev b_S_isReady : ByteArray := prog_5_method_5_code
def y_S_isReady : MethodName := ⟨R_S, "isReady", "(ZI)Z"⟩
def w_S_isReady : List Cond := .code y_S_isReady b_S_isReady 4 (some .boolean) :: lw_ok
abbrev b_S_takeCounter : ByteArray := prog_5_method_6_code
def y_S_takeCounter : MethodName := ⟨R_S, "takeCounter", "()I"⟩
def w_S_takeCounter : List Cond := .code y_S_takeCounter b_S_takeCounter 2 (some .int) :: lw_ok
abbrev b_S_sendBytes : ByteArray := prog_5_method_7_code
def y_S_sendBytes : MethodName := ⟨R_S, "sendBytes", "(ILPacedMux$Packet;)V"⟩
def w_S_sendBytes : List Cond := .code y_S_sendBytes b_S_sendBytes 4 none :: lw_ok
abbrev b_S_dropCurrent : ByteArray := prog_5_method_8_code
def y_S_dropCurrent : MethodName := ⟨R_S, "dropCurrent", "()V"⟩
def w_S_dropCurrent : List Cond := .code y_S_dropCurrent b_S_dropCurrent 1 none :: lw_ok
abbrev b_U_init : ByteArray := prog_6_method_1_code
def y_U_init : MethodName := ⟨R_U, "<init>", "()V"⟩
def w_U_init : List Cond := .code y_U_init b_U_init 1 none :: lw_ok
abbrev b_U_isFull : ByteArray := prog_6_method_2_code
def y_U_isFull : MethodName := ⟨R_U, "isFull", "()Z"⟩
def w_U_isFull : List Cond := .code y_U_isFull b_U_isFull 1 (some .boolean) :: lw_ok
abbrev b_U_isEmpty : ByteArray := prog_6_method_3_code
def y_U_isEmpty : MethodName := ⟨R_U, "isEmpty", "()Z"⟩
def w_U_isEmpty : List Cond := .code y_U_isEmpty b_U_isEmpty 1 (some .boolean) :: lw_ok
abbrev b_U_append : ByteArray := prog_6_method_4_code
def y_U_append : MethodName := ⟨R_U, "append", "(III)V"⟩
def w_U_append : List Cond := .code y_U_append b_U_append 4 none :: lw_ok
abbrev b_U_firstSize : ByteArray := prog_6_method_5_code
def y_U_firstSize : MethodName := ⟨R_U, "firstSize", "()I"⟩
def w_U_firstSize : List Cond := .code y_U_firstSize b_U_firstSize 1 (some .int) :: lw_ok
abbrev b_U_firstDue : ByteArray := prog_6_method_6_code
def y_U_firstDue : MethodName := ⟨R_U, "firstDue", "()I"⟩
def w_U_firstDue : List Cond := .code y_U_firstDue b_U_firstDue 1 (some .int) :: lw_ok
abbrev b_U_firstSeed : ByteArray := prog_6_method_7_code
def y_U_firstSeed : MethodName := ⟨R_U, "firstSeed", "()I"⟩
def w_U_firstSeed : List Cond := .code y_U_firstSeed b_U_firstSeed 1 (some .int) :: lw_ok
abbrev b_U_isFirstDueAt : ByteArray := prog_6_method_8_code
def y_U_isFirstDueAt : MethodName := ⟨R_U, "isFirstDueAt", "(I)Z"⟩
def w_U_isFirstDueAt : List Cond := .code y_U_isFirstDueAt b_U_isFirstDueAt 2 (some .boolean) :: lw_ok
abbrev b_U_dropFirst : ByteArray := prog_6_method_9_code
def y_U_dropFirst : MethodName := ⟨R_U, "dropFirst", "()V"⟩
def w_U_dropFirst : List Cond := .code y_U_dropFirst b_U_dropFirst 2 none :: lw_ok
abbrev b_X_init : ByteArray := prog_1_method_1_code
def y_X_init : MethodName := ⟨R_X, "<init>", "(II)V"⟩
def w_X_init : List Cond := .code y_X_init b_X_init 4 none :: lw_ok
abbrev b_X_add : ByteArray := prog_1_method_2_code
def y_X_add : MethodName := ⟨R_X, "add", "(IIII)I"⟩
def w_X_add : List Cond := .code y_X_add b_X_add 6 (some .int) :: lw_ok
abbrev b_X_tick : ByteArray := prog_1_method_3_code
def y_X_tick : MethodName := ⟨R_X, "tick", "(I)I"⟩
def w_X_tick : List Cond := .code y_X_tick b_X_tick 3 (some .int) :: lw_ok
abbrev b_X_lose : ByteArray := prog_1_method_4_code
def y_X_lose : MethodName := ⟨R_X, "lose", "(I)I"⟩
def w_X_lose : List Cond := .code y_X_lose b_X_lose 3 (some .int) :: lw_ok
abbrev b_X_spoil : ByteArray := prog_1_method_5_code
def y_X_spoil : MethodName := ⟨R_X, "spoil", "(II)I"⟩
def w_X_spoil : List Cond := .code y_X_spoil b_X_spoil 3 (some .int) :: lw_ok
abbrev b_X_packet : ByteArray := prog_1_method_6_code
def y_X_packet : MethodName := ⟨R_X, "packet", "(I)I"⟩
def w_X_packet : List Cond := .code y_X_packet b_X_packet 2 (some .int) :: lw_ok
abbrev b_X_waiting : ByteArray := prog_1_method_7_code
def y_X_waiting : MethodName := ⟨R_X, "waiting", "(I)I"⟩
def w_X_waiting : List Cond := .code y_X_waiting b_X_waiting 2 (some .int) :: lw_ok
abbrev b_X_stored : ByteArray := prog_1_method_8_code
def y_X_stored : MethodName := ⟨R_X, "stored", "(I)I"⟩
def w_X_stored : List Cond := .code y_X_stored b_X_stored 2 (some .int) :: lw_ok
abbrev b_X_levels : ByteArray := prog_1_method_9_code
def y_X_levels : MethodName := ⟨R_X, "levels", "(I)I"⟩
def w_X_levels : List Cond := .code y_X_levels b_X_levels 2 (some .int) :: lw_ok
abbrev b_X_late : ByteArray := prog_1_method_10_code
def y_X_late : MethodName := ⟨R_X, "late", "(I)I"⟩
def w_X_late : List Cond := .code y_X_late b_X_late 2 (some .int) :: lw_ok
abbrev b_X_clock : ByteArray := prog_1_method_11_code
def y_X_clock : MethodName := ⟨R_X, "clock", "()I"⟩
def w_X_clock : List Cond := .code y_X_clock b_X_clock 1 (some .int) :: lw_ok
abbrev b_X_retune : ByteArray := prog_1_method_12_code
def y_X_retune : MethodName := ⟨R_X, "retune", "()V"⟩
def w_X_retune : List Cond := .code y_X_retune b_X_retune 1 none :: lw_ok
abbrev b_X_count : ByteArray := prog_1_method_13_code
def y_X_count : MethodName := ⟨R_X, "count", "(I)I"⟩
def w_X_count : List Cond := .code y_X_count b_X_count 2 (some .int) :: lw_ok
abbrev b_X_latest : ByteArray := prog_1_method_14_code
def y_X_latest : MethodName := ⟨R_X, "latest", "(II)I"⟩
def w_X_latest : List Cond := .code y_X_latest b_X_latest 4 (some .int) :: lw_ok
abbrev b_X_letter : ByteArray := prog_1_method_15_code
def y_X_letter : MethodName := ⟨R_X, "letter", "(II)I"⟩
def w_X_letter : List Cond := .code y_X_letter b_X_letter 4 (some .int) :: lw_ok
abbrev b_X_isStream : ByteArray := prog_1_method_16_code
def y_X_isStream : MethodName := ⟨R_X, "isStream", "(I)Z"⟩
def w_X_isStream : List Cond := .code y_X_isStream b_X_isStream 1 (some .boolean) :: lw_ok
abbrev b_X_isPacketIndex : ByteArray := prog_1_method_17_code
def y_X_isPacketIndex : MethodName := ⟨R_X, "isPacketIndex", "(I)Z"⟩
def w_X_isPacketIndex : List Cond := .code y_X_isPacketIndex b_X_isPacketIndex 1 (some .boolean) :: lw_ok
abbrev b_X_sendPacket : ByteArray := prog_1_method_18_code
def y_X_sendPacket : MethodName := ⟨R_X, "sendPacket", "()V"⟩
def w_X_sendPacket : List Cond := .code y_X_sendPacket b_X_sendPacket 3 none :: lw_ok
abbrev b_X_chooseStream : ByteArray := prog_1_method_19_code
def y_X_chooseStream : MethodName := ⟨R_X, "chooseStream", "(Z)I"⟩
def w_X_chooseStream : List Cond := .code y_X_chooseStream b_X_chooseStream 6 (some .int) :: lw_ok
abbrev b_X_fillPacket : ByteArray := prog_1_method_20_code
def y_X_fillPacket : MethodName := ⟨R_X, "fillPacket", "(IZ)V"⟩
def w_X_fillPacket : List Cond := .code y_X_fillPacket b_X_fillPacket 4 none :: lw_ok
abbrev b_X_putHead : ByteArray := prog_1_method_21_code
def y_X_putHead : MethodName := ⟨R_X, "putHead", "(IZZI)V"⟩
def w_X_putHead : List Cond := .code y_X_putHead b_X_putHead 5 none :: lw_ok
abbrev b_L_cell : ByteArray := method_2_code
def y_L_cell : MethodName := ⟨R_L, "cell", "([II)I"⟩
def w_L_cell : List Cond := .code y_L_cell b_L_cell 2 (some .int) :: lw_ok
abbrev b_M_init : ByteArray := prog_8_method_1_code
def y_M_init : MethodName := ⟨R_M, "<init>", "(II)V"⟩
def w_M_init : List Cond := .code y_M_init b_M_init 3 none :: lw_ok
abbrev b_M_within : ByteArray := prog_8_method_2_code
def y_M_within : MethodName := ⟨R_M, "within", "(III)Z"⟩
def w_M_within : List Cond := .code y_M_within b_M_within 3 (some .boolean) :: lw_ok
abbrev b_M_add : ByteArray := prog_8_method_3_code
def y_M_add : MethodName := ⟨R_M, "add", "(IIII)I"⟩
def w_M_add : List Cond := .code y_M_add b_M_add 7 (some .int) :: lw_ok
abbrev b_M_high : ByteArray := prog_8_method_4_code
def y_M_high : MethodName := ⟨R_M, "high", "(I)I"⟩
def w_M_high : List Cond := .code y_M_high b_M_high 4 (some .int) :: lw_ok
abbrev b_M_goOn : ByteArray := prog_8_method_5_code
def y_M_goOn : MethodName := ⟨R_M, "goOn", "(I)V"⟩
def w_M_goOn : List Cond := .code y_M_goOn b_M_goOn 3 none :: lw_ok
abbrev b_M_takes : ByteArray := prog_8_method_6_code
def y_M_takes : MethodName := ⟨R_M, "takes", "(I)I"⟩
def w_M_takes : List Cond := .code y_M_takes b_M_takes 4 (some .int) :: lw_ok
abbrev b_M_ready : ByteArray := prog_8_method_7_code
def y_M_ready : MethodName := ⟨R_M, "ready", "(I)Z"⟩
def w_M_ready : List Cond := .code y_M_ready b_M_ready 4 (some .boolean) :: lw_ok
abbrev b_M_chosen : ByteArray := prog_8_method_8_code
def y_M_chosen : MethodName := ⟨R_M, "chosen", "()I"⟩
def w_M_chosen : List Cond := .code y_M_chosen b_M_chosen 6 (some .int) :: lw_ok
abbrev b_M_make : ByteArray := prog_8_method_9_code
def y_M_make : MethodName := ⟨R_M, "make", "()V"⟩
def w_M_make : List Cond := .code y_M_make b_M_make 8 none :: lw_ok
abbrev b_M_oneTick : ByteArray := prog_8_method_10_code
def y_M_oneTick : MethodName := ⟨R_M, "oneTick", "()V"⟩
def w_M_oneTick : List Cond := .code y_M_oneTick b_M_oneTick 2 none :: lw_ok
abbrev b_M_ticks : ByteArray := prog_8_method_11_code
def y_M_ticks : MethodName := ⟨R_M, "ticks", "(IZ)I"⟩
def w_M_ticks : List Cond := .code y_M_ticks b_M_ticks 4 (some .int) :: lw_ok
abbrev b_M_tick : ByteArray := prog_8_method_12_code
def y_M_tick : MethodName := ⟨R_M, "tick", "(I)I"⟩
def w_M_tick : List Cond := .code y_M_tick b_M_tick 2 (some .int) :: lw_ok
abbrev b_M_lose : ByteArray := prog_8_method_13_code
def y_M_lose : MethodName := ⟨R_M, "lose", "(I)I"⟩
def w_M_lose : List Cond := .code y_M_lose b_M_lose 2 (some .int) :: lw_ok
abbrev b_M_spoil : ByteArray := prog_8_method_14_code
def y_M_spoil : MethodName := ⟨R_M, "spoil", "(II)I"⟩
def w_M_spoil : List Cond := .code y_M_spoil b_M_spoil 3 (some .int) :: lw_ok
abbrev b_M_packet : ByteArray := prog_8_method_15_code
def y_M_packet : MethodName := ⟨R_M, "packet", "(I)I"⟩
def w_M_packet : List Cond := .code y_M_packet b_M_packet 2 (some .int) :: lw_ok
abbrev b_M_goBroken : ByteArray := prog_8_method_16_code
def y_M_goBroken : MethodName := ⟨R_M, "goBroken", "(I)V"⟩
def w_M_goBroken : List Cond := .code y_M_goBroken b_M_goBroken 2 none :: lw_ok
abbrev b_M_hear : ByteArray := prog_8_method_17_code
def y_M_hear : MethodName := ⟨R_M, "hear", "(II)V"⟩
def w_M_hear : List Cond := .code y_M_hear b_M_hear 8 none :: lw_ok
abbrev b_M_note : ByteArray := prog_8_method_18_code
def y_M_note : MethodName := ⟨R_M, "note", "(II)V"⟩
def w_M_note : List Cond := .code y_M_note b_M_note 3 none :: lw_ok
abbrev b_M_begin : ByteArray := prog_8_method_19_code
def y_M_begin : MethodName := ⟨R_M, "begin", "(II)I"⟩
def w_M_begin : List Cond := .code y_M_begin b_M_begin 4 (some .int) :: lw_ok
abbrev b_M_collect : ByteArray := prog_8_method_20_code
def y_M_collect : MethodName := ⟨R_M, "collect", "(II)V"⟩
def w_M_collect : List Cond := .code y_M_collect b_M_collect 4 none :: lw_ok
abbrev b_M_arrive : ByteArray := prog_8_method_21_code
def y_M_arrive : MethodName := ⟨R_M, "arrive", "(I)V"⟩
def w_M_arrive : List Cond := .code y_M_arrive b_M_arrive 4 none :: lw_ok
abbrev b_M_retune : ByteArray := prog_8_method_22_code
def y_M_retune : MethodName := ⟨R_M, "retune", "()V"⟩
def w_M_retune : List Cond := .code y_M_retune b_M_retune 2 none :: lw_ok
abbrev b_M_waiting : ByteArray := prog_8_method_23_code
def y_M_waiting : MethodName := ⟨R_M, "waiting", "(I)I"⟩
def w_M_waiting : List Cond := .code y_M_waiting b_M_waiting 2 (some .int) :: lw_ok
abbrev b_M_stored : ByteArray := prog_8_method_24_code
def y_M_stored : MethodName := ⟨R_M, "stored", "(I)I"⟩
def w_M_stored : List Cond := .code y_M_stored b_M_stored 2 (some .int) :: lw_ok
abbrev b_M_levels : ByteArray := prog_8_method_25_code
def y_M_levels : MethodName := ⟨R_M, "levels", "(I)I"⟩
def w_M_levels : List Cond := .code y_M_levels b_M_levels 3 (some .int) :: lw_ok
abbrev b_M_late : ByteArray := prog_8_method_26_code
def y_M_late : MethodName := ⟨R_M, "late", "(I)I"⟩
def w_M_late : List Cond := .code y_M_late b_M_late 2 (some .int) :: lw_ok
abbrev b_M_clock : ByteArray := prog_8_method_27_code
def y_M_clock : MethodName := ⟨R_M, "clock", "()I"⟩
def w_M_clock : List Cond := .code y_M_clock b_M_clock 1 (some .int) :: lw_ok
abbrev b_M_count : ByteArray := prog_8_method_28_code
def y_M_count : MethodName := ⟨R_M, "count", "(I)I"⟩
def w_M_count : List Cond := .code y_M_count b_M_count 2 (some .int) :: lw_ok
abbrev b_M_latest : ByteArray := prog_8_method_29_code
def y_M_latest : MethodName := ⟨R_M, "latest", "(II)I"⟩
def w_M_latest : List Cond := .code y_M_latest b_M_latest 3 (some .int) :: lw_ok
abbrev b_M_letter : ByteArray := prog_8_method_30_code
def y_M_letter : MethodName := ⟨R_M, "letter", "(II)I"⟩
def w_M_letter : List Cond := .code y_M_letter b_M_letter 3 (some .int) :: lw_ok
abbrev b_J_floorMod : ByteArray := prog_9_method_50_code
def y_J_floorMod : MethodName := ⟨"java/lang/Math", "floorMod", "(II)I"⟩
def w_J_floorMod : List Cond := .code y_J_floorMod b_J_floorMod 3 (some .int) :: lw_ok
set_option maxRecDepth 20000 in
theorem in_C : ∀ w ∈ u_ws R_C F_C 11, w ∈ lw_ok := by
  intro w h
  obtain ⟨k, hk, rfl⟩ := List.mem_map.mp h
  have hk : k < 11 := List.mem_range.mp hk
  refine List.mem_filter.mpr ⟨List.mem_append_right _ (List.mem_of_getElem? (i := ([111, 113, 115, 117, 119, 121, 123, 125, 127, 129, 131] : List Nat).getD k 0) ?_), ?_⟩
  · revert k
    decide +kernel
  · revert k
    decide +kernel
set_option maxRecDepth 20000 in
theorem in_P : ∀ w ∈ u_ws R_P F_P 2, w ∈ lw_ok := by
  intro w h
  obtain ⟨k, hk, rfl⟩ := List.mem_map.mp h
  have hk : k < 2 := List.mem_range.mp hk
  refine List.mem_filter.mpr ⟨List.mem_append_right _ (List.mem_of_getElem? (i := ([159, 161] : List Nat).getD k 0) ?_), ?_⟩
  · revert k
    decide +kernel
  · revert k
    decide +kernel
set_option maxRecDepth 20000 in
theorem in_R : ∀ w ∈ u_ws R_R F_R 4, w ∈ lw_ok := by
  intro w h
  obtain ⟨k, hk, rfl⟩ := List.mem_map.mp h
  have hk : k < 4 := List.mem_range.mp hk
  refine List.mem_filter.mpr ⟨List.mem_append_right _ (List.mem_of_getElem? (i := ([142, 144, 146, 148] : List Nat).getD k 0) ?_), ?_⟩
  · revert k
    decide +kernel
  · revert k
    decide +kernel
set_option maxRecDepth 20000 in
theorem in_S : ∀ w ∈ u_ws R_S F_S 8, w ∈ lw_ok := by
  intro w h
  obtain ⟨k, hk, rfl⟩ := List.mem_map.mp h
  have hk : k < 8 := List.mem_range.mp hk
  refine List.mem_filter.mpr ⟨List.mem_append_right _ (List.mem_of_getElem? (i := ([64, 66, 68, 70, 72, 74, 76, 78] : List Nat).getD k 0) ?_), ?_⟩
  · revert k
    decide +kernel
  · revert k
    decide +kernel
set_option maxRecDepth 20000 in
theorem in_U : ∀ w ∈ u_ws R_U F_U 4, w ∈ lw_ok := by
  intro w h
  obtain ⟨k, hk, rfl⟩ := List.mem_map.mp h
  have hk : k < 4 := List.mem_range.mp hk
  refine List.mem_filter.mpr ⟨List.mem_append_right _ (List.mem_of_getElem? (i := ([41, 43, 45, 47] : List Nat).getD k 0) ?_), ?_⟩
  · revert k
    decide +kernel
  · revert k
    decide +kernel
set_option maxRecDepth 20000 in
theorem in_X : ∀ w ∈ u_ws R_X F_X 8, w ∈ lw_ok := by
  intro w h
  obtain ⟨k, hk, rfl⟩ := List.mem_map.mp h
  have hk : k < 8 := List.mem_range.mp hk
  refine List.mem_filter.mpr ⟨List.mem_append_right _ (List.mem_of_getElem? (i := ([172, 174, 176, 178, 180, 182, 184, 186] : List Nat).getD k 0) ?_), ?_⟩
  · revert k
    decide +kernel
  · revert k
    decide +kernel
set_option maxRecDepth 20000 in
theorem in_M : ∀ w ∈ u_ws R_M F_M 30, w ∈ lw_ok := by
  intro w h
  obtain ⟨k, hk, rfl⟩ := List.mem_map.mp h
  have hk : k < 30 := List.mem_range.mp hk
  refine List.mem_filter.mpr ⟨List.mem_append_right _ (List.mem_of_getElem? (i := ([463, 465, 467, 469, 471, 473, 475, 477, 479, 481, 483, 485, 487, 489, 491, 493, 495, 497, 499, 501, 503, 505, 507, 509, 511, 513, 515, 517, 519, 521] : List Nat).getD k 0) ?_), ?_⟩
  · revert k
    decide +kernel
  · revert k
    decide +kernel
end
section
theorem wd_1 : Cond.initialized R_X ∈ lw_ok := List.mem_filter.mpr ⟨List.mem_append_right _ (List.mem_of_getElem? (i := 1) (by decide +kernel)), by decide +kernel⟩
theorem wd_2 : Cond.initialized "java/lang/Math" ∈ lw_ok := List.mem_filter.mpr ⟨List.mem_append_right _ (List.mem_of_getElem? (i := 2) (by decide +kernel)), by decide +kernel⟩
theorem wd_3 : Cond.initialized R_S ∈ lw_ok := List.mem_filter.mpr ⟨List.mem_append_right _ (List.mem_of_getElem? (i := 3) (by decide +kernel)), by decide +kernel⟩
theorem wd_4 : Cond.initialized R_U ∈ lw_ok := List.mem_filter.mpr ⟨List.mem_append_right _ (List.mem_of_getElem? (i := 4) (by decide +kernel)), by decide +kernel⟩
theorem wd_5 : Cond.initialized R_R ∈ lw_ok := List.mem_filter.mpr ⟨List.mem_append_right _ (List.mem_of_getElem? (i := 5) (by decide +kernel)), by decide +kernel⟩
theorem wd_6 : Cond.initialized R_C ∈ lw_ok := List.mem_filter.mpr ⟨List.mem_append_right _ (List.mem_of_getElem? (i := 6) (by decide +kernel)), by decide +kernel⟩
theorem wd_7 : Cond.initialized R_P ∈ lw_ok := List.mem_filter.mpr ⟨List.mem_append_right _ (List.mem_of_getElem? (i := 7) (by decide +kernel)), by decide +kernel⟩
theorem wd_8 : Cond.initialized R_M ∈ lw_ok := List.mem_filter.mpr ⟨List.mem_append_right _ (List.mem_of_getElem? (i := 8) (by decide +kernel)), by decide +kernel⟩
theorem wd_18 : Cond.static Lib.Math.min.name ∈ lw_ok := List.mem_filter.mpr ⟨List.mem_append_right _ (List.mem_of_getElem? (i := 18) (by decide +kernel)), by decide +kernel⟩
theorem wd_19 : Cond.code Lib.Math.min.name Lib.Math.min.code 2 (some .int) ∈ lw_ok := List.mem_filter.mpr ⟨List.mem_append_right _ (List.mem_of_getElem? (i := 19) (by decide +kernel)), by decide +kernel⟩
theorem wd_21 : Cond.static Lib.Math.max.name ∈ lw_ok := List.mem_filter.mpr ⟨List.mem_append_right _ (List.mem_of_getElem? (i := 21) (by decide +kernel)), by decide +kernel⟩
theorem wd_22 : Cond.code Lib.Math.max.name Lib.Math.max.code 2 (some .int) ∈ lw_ok := List.mem_filter.mpr ⟨List.mem_append_right _ (List.mem_of_getElem? (i := 22) (by decide +kernel)), by decide +kernel⟩
theorem wd_36 : Cond.fieldLink R_U 9 R_U "sizes" "[I" ∈ lw_ok := List.mem_filter.mpr ⟨List.mem_append_right _ (List.mem_of_getElem? (i := 36) (by decide +kernel)), by decide +kernel⟩
theorem wd_37 : Cond.fieldLink R_U 15 R_U "dues" "[I" ∈ lw_ok := List.mem_filter.mpr ⟨List.mem_append_right _ (List.mem_of_getElem? (i := 37) (by decide +kernel)), by decide +kernel⟩
theorem wd_38 : Cond.fieldLink R_U 18 R_U "seeds" "[I" ∈ lw_ok := List.mem_filter.mpr ⟨List.mem_append_right _ (List.mem_of_getElem? (i := 38) (by decide +kernel)), by decide +kernel⟩
theorem wd_39 : Cond.fieldLink R_U 21 R_U "length" "I" ∈ lw_ok := List.mem_filter.mpr ⟨List.mem_append_right _ (List.mem_of_getElem? (i := 39) (by decide +kernel)), by decide +kernel⟩
theorem wd_51 : Cond.fieldLink R_S 12 R_S "queue" "LPacedMux$UnitRow;" ∈ lw_ok := List.mem_filter.mpr ⟨List.mem_append_right _ (List.mem_of_getElem? (i := 51) (by decide +kernel)), by decide +kernel⟩
theorem wd_53 : Cond.fieldLink R_S 18 R_S "store" "LPacedMux$UnitRow;" ∈ lw_ok := List.mem_filter.mpr ⟨List.mem_append_right _ (List.mem_of_getElem? (i := 53) (by decide +kernel)), by decide +kernel⟩
theorem wd_55 : Cond.fieldLink R_S 45 R_S "sentBytes" "I" ∈ lw_ok := List.mem_filter.mpr ⟨List.mem_append_right _ (List.mem_of_getElem? (i := 55) (by decide +kernel)), by decide +kernel⟩
theorem wd_56 : Cond.fieldLink R_S 21 R_S "low" "I" ∈ lw_ok := List.mem_filter.mpr ⟨List.mem_append_right _ (List.mem_of_getElem? (i := 56) (by decide +kernel)), by decide +kernel⟩
theorem wd_58 : Cond.fieldLink R_S 35 R_S "high" "I" ∈ lw_ok := List.mem_filter.mpr ⟨List.mem_append_right _ (List.mem_of_getElem? (i := 58) (by decide +kernel)), by decide +kernel⟩
theorem wd_60 : Cond.fieldLink R_S 71 R_S "nextCounter" "I" ∈ lw_ok := List.mem_filter.mpr ⟨List.mem_append_right _ (List.mem_of_getElem? (i := 60) (by decide +kernel)), by decide +kernel⟩
theorem wd_61 : Cond.fieldLink R_S 48 R_S "lateUnits" "I" ∈ lw_ok := List.mem_filter.mpr ⟨List.mem_append_right _ (List.mem_of_getElem? (i := 61) (by decide +kernel)), by decide +kernel⟩
theorem wd_94 : Cond.fieldLink R_C 18 R_C "hasCounter" "Z" ∈ lw_ok := List.mem_filter.mpr ⟨List.mem_append_right _ (List.mem_of_getElem? (i := 94) (by decide +kernel)), by decide +kernel⟩
theorem wd_95 : Cond.fieldLink R_C 29 R_C "lastCounter" "I" ∈ lw_ok := List.mem_filter.mpr ⟨List.mem_append_right _ (List.mem_of_getElem? (i := 95) (by decide +kernel)), by decide +kernel⟩
theorem wd_96 : Cond.fieldLink R_C 22 R_C "collecting" "Z" ∈ lw_ok := List.mem_filter.mpr ⟨List.mem_append_right _ (List.mem_of_getElem? (i := 96) (by decide +kernel)), by decide +kernel⟩
theorem wd_98 : Cond.fieldLink R_C 32 R_C "size" "I" ∈ lw_ok := List.mem_filter.mpr ⟨List.mem_append_right _ (List.mem_of_getElem? (i := 98) (by decide +kernel)), by decide +kernel⟩
theorem wd_99 : Cond.fieldLink R_C 35 R_C "due" "I" ∈ lw_ok := List.mem_filter.mpr ⟨List.mem_append_right _ (List.mem_of_getElem? (i := 99) (by decide +kernel)), by decide +kernel⟩
theorem wd_100 : Cond.fieldLink R_C 38 R_C "filled" "I" ∈ lw_ok := List.mem_filter.mpr ⟨List.mem_append_right _ (List.mem_of_getElem? (i := 100) (by decide +kernel)), by decide +kernel⟩
theorem wd_101 : Cond.fieldLink R_C 9 R_C "bytes" "[I" ∈ lw_ok := List.mem_filter.mpr ⟨List.mem_append_right _ (List.mem_of_getElem? (i := 101) (by decide +kernel)), by decide +kernel⟩
theorem wd_102 : Cond.fieldLink R_C 47 R_C "latestSize" "I" ∈ lw_ok := List.mem_filter.mpr ⟨List.mem_append_right _ (List.mem_of_getElem? (i := 102) (by decide +kernel)), by decide +kernel⟩
theorem wd_104 : Cond.fieldLink R_C 50 R_C "latestDue" "I" ∈ lw_ok := List.mem_filter.mpr ⟨List.mem_append_right _ (List.mem_of_getElem? (i := 104) (by decide +kernel)), by decide +kernel⟩
theorem wd_107 : Cond.fieldLink R_C 15 R_C "latestBytes" "[I" ∈ lw_ok := List.mem_filter.mpr ⟨List.mem_append_right _ (List.mem_of_getElem? (i := 107) (by decide +kernel)), by decide +kernel⟩
theorem wd_109 : Cond.fieldLink R_C 25 R_C "arrivals" "I" ∈ lw_ok := List.mem_filter.mpr ⟨List.mem_append_right _ (List.mem_of_getElem? (i := 109) (by decide +kernel)), by decide +kernel⟩
theorem wd_134 : Cond.fieldLink R_R 11 R_R "collectors" "[LPacedMux$Collector;" ∈ lw_ok := List.mem_filter.mpr ⟨List.mem_append_right _ (List.mem_of_getElem? (i := 134) (by decide +kernel)), by decide +kernel⟩
theorem wd_136 : Cond.fieldLink R_R 17 R_R "tallies" "[I" ∈ lw_ok := List.mem_filter.mpr ⟨List.mem_append_right _ (List.mem_of_getElem? (i := 136) (by decide +kernel)), by decide +kernel⟩
theorem wd_138 : Cond.fieldLink R_R 22 R_R "clockKnown" "Z" ∈ lw_ok := List.mem_filter.mpr ⟨List.mem_append_right _ (List.mem_of_getElem? (i := 138) (by decide +kernel)), by decide +kernel⟩
theorem wd_140 : Cond.fieldLink R_R 26 R_R "clockTime" "I" ∈ lw_ok := List.mem_filter.mpr ⟨List.mem_append_right _ (List.mem_of_getElem? (i := 140) (by decide +kernel)), by decide +kernel⟩
theorem wd_157 : Cond.fieldLink R_P 9 R_P "bytes" "[I" ∈ lw_ok := List.mem_filter.mpr ⟨List.mem_append_right _ (List.mem_of_getElem? (i := 157) (by decide +kernel)), by decide +kernel⟩
theorem wd_158 : Cond.fieldLink R_P 15 R_P "used" "I" ∈ lw_ok := List.mem_filter.mpr ⟨List.mem_append_right _ (List.mem_of_getElem? (i := 158) (by decide +kernel)), by decide +kernel⟩
theorem wd_164 : Cond.fieldLink R_X 18 R_X "leak" "I" ∈ lw_ok := List.mem_filter.mpr ⟨List.mem_append_right _ (List.mem_of_getElem? (i := 164) (by decide +kernel)), by decide +kernel⟩
theorem wd_165 : Cond.fieldLink R_X 22 R_X "capacity" "I" ∈ lw_ok := List.mem_filter.mpr ⟨List.mem_append_right _ (List.mem_of_getElem? (i := 165) (by decide +kernel)), by decide +kernel⟩
theorem wd_166 : Cond.fieldLink R_X 27 R_X "senders" "[LPacedMux$Sender;" ∈ lw_ok := List.mem_filter.mpr ⟨List.mem_append_right _ (List.mem_of_getElem? (i := 166) (by decide +kernel)), by decide +kernel⟩
theorem wd_167 : Cond.fieldLink R_X 35 R_X "receiver" "LPacedMux$Receiver;" ∈ lw_ok := List.mem_filter.mpr ⟨List.mem_append_right _ (List.mem_of_getElem? (i := 167) (by decide +kernel)), by decide +kernel⟩
theorem wd_168 : Cond.fieldLink R_X 42 R_X "sentPacket" "LPacedMux$Packet;" ∈ lw_ok := List.mem_filter.mpr ⟨List.mem_append_right _ (List.mem_of_getElem? (i := 168) (by decide +kernel)), by decide +kernel⟩
theorem wd_169 : Cond.fieldLink R_X 46 R_X "arrivingPacket" "LPacedMux$Packet;" ∈ lw_ok := List.mem_filter.mpr ⟨List.mem_append_right _ (List.mem_of_getElem? (i := 169) (by decide +kernel)), by decide +kernel⟩
theorem wd_170 : Cond.fieldLink R_X 53 R_X "time" "I" ∈ lw_ok := List.mem_filter.mpr ⟨List.mem_append_right _ (List.mem_of_getElem? (i := 170) (by decide +kernel)), by decide +kernel⟩
theorem wd_171 : Cond.fieldLink R_X 93 R_X "ticked" "Z" ∈ lw_ok := List.mem_filter.mpr ⟨List.mem_append_right _ (List.mem_of_getElem? (i := 171) (by decide +kernel)), by decide +kernel⟩
theorem wd_193 : Cond.methodLink R_X 49 y_X_isStream ∈ lw_ok := List.mem_filter.mpr ⟨List.mem_append_right _ (List.mem_of_getElem? (i := 193) (by decide +kernel)), by decide +kernel⟩
theorem wd_194 : Cond.static y_X_isStream ∈ lw_ok := List.mem_filter.mpr ⟨List.mem_append_right _ (List.mem_of_getElem? (i := 194) (by decide +kernel)), by decide +kernel⟩
theorem wd_195 : Cond.code y_X_isStream b_X_isStream 1 (some .boolean) ∈ lw_ok := List.mem_filter.mpr ⟨List.mem_append_right _ (List.mem_of_getElem? (i := 195) (by decide +kernel)), by decide +kernel⟩
theorem wd_196 : Cond.methodLink R_X 63 y_U_isFull ∈ lw_ok := List.mem_filter.mpr ⟨List.mem_append_right _ (List.mem_of_getElem? (i := 196) (by decide +kernel)), by decide +kernel⟩
theorem wd_197 : Cond.instanceMethod y_U_isFull ∈ lw_ok := List.mem_filter.mpr ⟨List.mem_append_right _ (List.mem_of_getElem? (i := 197) (by decide +kernel)), by decide +kernel⟩
theorem wd_198 : Cond.selects R_U y_U_isFull y_U_isFull ∈ lw_ok := List.mem_filter.mpr ⟨List.mem_append_right _ (List.mem_of_getElem? (i := 198) (by decide +kernel)), by decide +kernel⟩
theorem wd_199 : Cond.code y_U_isFull b_U_isFull 1 (some .boolean) ∈ lw_ok := List.mem_filter.mpr ⟨List.mem_append_right _ (List.mem_of_getElem? (i := 199) (by decide +kernel)), by decide +kernel⟩
theorem wd_200 : Cond.methodLink R_X 69 y_U_append ∈ lw_ok := List.mem_filter.mpr ⟨List.mem_append_right _ (List.mem_of_getElem? (i := 200) (by decide +kernel)), by decide +kernel⟩
theorem wd_201 : Cond.instanceMethod y_U_append ∈ lw_ok := List.mem_filter.mpr ⟨List.mem_append_right _ (List.mem_of_getElem? (i := 201) (by decide +kernel)), by decide +kernel⟩
theorem wd_202 : Cond.selects R_U y_U_append y_U_append ∈ lw_ok := List.mem_filter.mpr ⟨List.mem_append_right _ (List.mem_of_getElem? (i := 202) (by decide +kernel)), by decide +kernel⟩
theorem wd_203 : Cond.code y_U_append b_U_append 4 none ∈ lw_ok := List.mem_filter.mpr ⟨List.mem_append_right _ (List.mem_of_getElem? (i := 203) (by decide +kernel)), by decide +kernel⟩
theorem wd_204 : Cond.methodLink R_U 25 y_U_isFull ∈ lw_ok := List.mem_filter.mpr ⟨List.mem_append_right _ (List.mem_of_getElem? (i := 204) (by decide +kernel)), by decide +kernel⟩
theorem wd_209 : Cond.methodLink R_X 76 y_X_sendPacket ∈ lw_ok := List.mem_filter.mpr ⟨List.mem_append_right _ (List.mem_of_getElem? (i := 209) (by decide +kernel)), by decide +kernel⟩
theorem wd_211 : Cond.instanceMethod y_X_sendPacket ∈ lw_ok := List.mem_filter.mpr ⟨List.mem_append_right _ (List.mem_of_getElem? (i := 211) (by decide +kernel)), by decide +kernel⟩
theorem wd_212 : Cond.code y_X_sendPacket b_X_sendPacket 3 none ∈ lw_ok := List.mem_filter.mpr ⟨List.mem_append_right _ (List.mem_of_getElem? (i := 212) (by decide +kernel)), by decide +kernel⟩
theorem wd_213 : Cond.methodLink R_X 144 y_S_beginTick ∈ lw_ok := List.mem_filter.mpr ⟨List.mem_append_right _ (List.mem_of_getElem? (i := 213) (by decide +kernel)), by decide +kernel⟩
theorem wd_214 : Cond.instanceMethod y_S_beginTick ∈ lw_ok := List.mem_filter.mpr ⟨List.mem_append_right _ (List.mem_of_getElem? (i := 214) (by decide +kernel)), by decide +kernel⟩
theorem wd_215 : Cond.selects R_S y_S_beginTick y_S_beginTick ∈ lw_ok := List.mem_filter.mpr ⟨List.mem_append_right _ (List.mem_of_getElem? (i := 215) (by decide +kernel)), by decide +kernel⟩
theorem wd_216 : Cond.code y_S_beginTick b_S_beginTick 3 none ∈ lw_ok := List.mem_filter.mpr ⟨List.mem_append_right _ (List.mem_of_getElem? (i := 216) (by decide +kernel)), by decide +kernel⟩
theorem wd_217 : Cond.methodLink R_S 25 Lib.Math.max.name ∈ lw_ok := List.mem_filter.mpr ⟨List.mem_append_right _ (List.mem_of_getElem? (i := 217) (by decide +kernel)), by decide +kernel⟩
theorem wd_218 : Cond.methodLink R_S 31 y_U_isFirstDueAt ∈ lw_ok := List.mem_filter.mpr ⟨List.mem_append_right _ (List.mem_of_getElem? (i := 218) (by decide +kernel)), by decide +kernel⟩
theorem wd_219 : Cond.instanceMethod y_U_isFirstDueAt ∈ lw_ok := List.mem_filter.mpr ⟨List.mem_append_right _ (List.mem_of_getElem? (i := 219) (by decide +kernel)), by decide +kernel⟩
theorem wd_220 : Cond.selects R_U y_U_isFirstDueAt y_U_isFirstDueAt ∈ lw_ok := List.mem_filter.mpr ⟨List.mem_append_right _ (List.mem_of_getElem? (i := 220) (by decide +kernel)), by decide +kernel⟩
theorem wd_221 : Cond.code y_U_isFirstDueAt b_U_isFirstDueAt 2 (some .boolean) ∈ lw_ok := List.mem_filter.mpr ⟨List.mem_append_right _ (List.mem_of_getElem? (i := 221) (by decide +kernel)), by decide +kernel⟩
theorem wd_222 : Cond.methodLink R_U 29 y_U_isEmpty ∈ lw_ok := List.mem_filter.mpr ⟨List.mem_append_right _ (List.mem_of_getElem? (i := 222) (by decide +kernel)), by decide +kernel⟩
theorem wd_223 : Cond.instanceMethod y_U_isEmpty ∈ lw_ok := List.mem_filter.mpr ⟨List.mem_append_right _ (List.mem_of_getElem? (i := 223) (by decide +kernel)), by decide +kernel⟩
theorem wd_224 : Cond.selects R_U y_U_isEmpty y_U_isEmpty ∈ lw_ok := List.mem_filter.mpr ⟨List.mem_append_right _ (List.mem_of_getElem? (i := 224) (by decide +kernel)), by decide +kernel⟩
theorem wd_225 : Cond.code y_U_isEmpty b_U_isEmpty 1 (some .boolean) ∈ lw_ok := List.mem_filter.mpr ⟨List.mem_append_right _ (List.mem_of_getElem? (i := 225) (by decide +kernel)), by decide +kernel⟩
theorem wd_226 : Cond.methodLink R_S 38 y_U_firstSize ∈ lw_ok := List.mem_filter.mpr ⟨List.mem_append_right _ (List.mem_of_getElem? (i := 226) (by decide +kernel)), by decide +kernel⟩
theorem wd_227 : Cond.instanceMethod y_U_firstSize ∈ lw_ok := List.mem_filter.mpr ⟨List.mem_append_right _ (List.mem_of_getElem? (i := 227) (by decide +kernel)), by decide +kernel⟩
theorem wd_228 : Cond.selects R_U y_U_firstSize y_U_firstSize ∈ lw_ok := List.mem_filter.mpr ⟨List.mem_append_right _ (List.mem_of_getElem? (i := 228) (by decide +kernel)), by decide +kernel⟩
theorem wd_229 : Cond.code y_U_firstSize b_U_firstSize 1 (some .int) ∈ lw_ok := List.mem_filter.mpr ⟨List.mem_append_right _ (List.mem_of_getElem? (i := 229) (by decide +kernel)), by decide +kernel⟩
theorem wd_230 : Cond.methodLink R_S 42 y_U_dropFirst ∈ lw_ok := List.mem_filter.mpr ⟨List.mem_append_right _ (List.mem_of_getElem? (i := 230) (by decide +kernel)), by decide +kernel⟩
theorem wd_231 : Cond.instanceMethod y_U_dropFirst ∈ lw_ok := List.mem_filter.mpr ⟨List.mem_append_right _ (List.mem_of_getElem? (i := 231) (by decide +kernel)), by decide +kernel⟩
theorem wd_232 : Cond.selects R_U y_U_dropFirst y_U_dropFirst ∈ lw_ok := List.mem_filter.mpr ⟨List.mem_append_right _ (List.mem_of_getElem? (i := 232) (by decide +kernel)), by decide +kernel⟩
theorem wd_233 : Cond.code y_U_dropFirst b_U_dropFirst 2 none ∈ lw_ok := List.mem_filter.mpr ⟨List.mem_append_right _ (List.mem_of_getElem? (i := 233) (by decide +kernel)), by decide +kernel⟩
theorem wd_234 : Cond.methodLink R_S 51 y_S_dropCurrent ∈ lw_ok := List.mem_filter.mpr ⟨List.mem_append_right _ (List.mem_of_getElem? (i := 234) (by decide +kernel)), by decide +kernel⟩
theorem wd_236 : Cond.instanceMethod y_S_dropCurrent ∈ lw_ok := List.mem_filter.mpr ⟨List.mem_append_right _ (List.mem_of_getElem? (i := 236) (by decide +kernel)), by decide +kernel⟩
theorem wd_237 : Cond.code y_S_dropCurrent b_S_dropCurrent 1 none ∈ lw_ok := List.mem_filter.mpr ⟨List.mem_append_right _ (List.mem_of_getElem? (i := 237) (by decide +kernel)), by decide +kernel⟩
theorem wd_238 : Cond.methodLink R_X 147 y_X_chooseStream ∈ lw_ok := List.mem_filter.mpr ⟨List.mem_append_right _ (List.mem_of_getElem? (i := 238) (by decide +kernel)), by decide +kernel⟩
theorem wd_240 : Cond.instanceMethod y_X_chooseStream ∈ lw_ok := List.mem_filter.mpr ⟨List.mem_append_right _ (List.mem_of_getElem? (i := 240) (by decide +kernel)), by decide +kernel⟩
theorem wd_241 : Cond.code y_X_chooseStream b_X_chooseStream 6 (some .int) ∈ lw_ok := List.mem_filter.mpr ⟨List.mem_append_right _ (List.mem_of_getElem? (i := 241) (by decide +kernel)), by decide +kernel⟩
theorem wd_242 : Cond.methodLink R_X 162 y_S_isReady ∈ lw_ok := List.mem_filter.mpr ⟨List.mem_append_right _ (List.mem_of_getElem? (i := 242) (by decide +kernel)), by decide +kernel⟩
theorem wd_243 : Cond.instanceMethod y_S_isReady ∈ lw_ok := List.mem_filter.mpr ⟨List.mem_append_right _ (List.mem_of_getElem? (i := 243) (by decide +kernel)), by decide +kernel⟩
theorem wd_244 : Cond.selects R_S y_S_isReady y_S_isReady ∈ lw_ok := List.mem_filter.mpr ⟨List.mem_append_right _ (List.mem_of_getElem? (i := 244) (by decide +kernel)), by decide +kernel⟩
theorem wd_245 : Cond.code y_S_isReady b_S_isReady 4 (some .boolean) ∈ lw_ok := List.mem_filter.mpr ⟨List.mem_append_right _ (List.mem_of_getElem? (i := 245) (by decide +kernel)), by decide +kernel⟩
theorem wd_246 : Cond.methodLink R_S 61 y_U_isEmpty ∈ lw_ok := List.mem_filter.mpr ⟨List.mem_append_right _ (List.mem_of_getElem? (i := 246) (by decide +kernel)), by decide +kernel⟩
theorem wd_247 : Cond.methodLink R_S 54 y_S_isAtStart ∈ lw_ok := List.mem_filter.mpr ⟨List.mem_append_right _ (List.mem_of_getElem? (i := 247) (by decide +kernel)), by decide +kernel⟩
theorem wd_248 : Cond.instanceMethod y_S_isAtStart ∈ lw_ok := List.mem_filter.mpr ⟨List.mem_append_right _ (List.mem_of_getElem? (i := 248) (by decide +kernel)), by decide +kernel⟩
theorem wd_249 : Cond.selects R_S y_S_isAtStart y_S_isAtStart ∈ lw_ok := List.mem_filter.mpr ⟨List.mem_append_right _ (List.mem_of_getElem? (i := 249) (by decide +kernel)), by decide +kernel⟩
theorem wd_250 : Cond.code y_S_isAtStart b_S_isAtStart 1 (some .boolean) ∈ lw_ok := List.mem_filter.mpr ⟨List.mem_append_right _ (List.mem_of_getElem? (i := 250) (by decide +kernel)), by decide +kernel⟩
theorem wd_251 : Cond.methodLink R_S 64 y_U_isFull ∈ lw_ok := List.mem_filter.mpr ⟨List.mem_append_right _ (List.mem_of_getElem? (i := 251) (by decide +kernel)), by decide +kernel⟩
theorem wd_252 : Cond.methodLink R_S 67 y_S_portion ∈ lw_ok := List.mem_filter.mpr ⟨List.mem_append_right _ (List.mem_of_getElem? (i := 252) (by decide +kernel)), by decide +kernel⟩
theorem wd_253 : Cond.instanceMethod y_S_portion ∈ lw_ok := List.mem_filter.mpr ⟨List.mem_append_right _ (List.mem_of_getElem? (i := 253) (by decide +kernel)), by decide +kernel⟩
theorem wd_254 : Cond.selects R_S y_S_portion y_S_portion ∈ lw_ok := List.mem_filter.mpr ⟨List.mem_append_right _ (List.mem_of_getElem? (i := 254) (by decide +kernel)), by decide +kernel⟩
theorem wd_255 : Cond.code y_S_portion b_S_portion 3 (some .int) ∈ lw_ok := List.mem_filter.mpr ⟨List.mem_append_right _ (List.mem_of_getElem? (i := 255) (by decide +kernel)), by decide +kernel⟩
theorem wd_256 : Cond.methodLink R_S 58 Lib.Math.min.name ∈ lw_ok := List.mem_filter.mpr ⟨List.mem_append_right _ (List.mem_of_getElem? (i := 256) (by decide +kernel)), by decide +kernel⟩
theorem wd_257 : Cond.methodLink R_X 166 y_U_firstDue ∈ lw_ok := List.mem_filter.mpr ⟨List.mem_append_right _ (List.mem_of_getElem? (i := 257) (by decide +kernel)), by decide +kernel⟩
theorem wd_258 : Cond.instanceMethod y_U_firstDue ∈ lw_ok := List.mem_filter.mpr ⟨List.mem_append_right _ (List.mem_of_getElem? (i := 258) (by decide +kernel)), by decide +kernel⟩
theorem wd_259 : Cond.selects R_U y_U_firstDue y_U_firstDue ∈ lw_ok := List.mem_filter.mpr ⟨List.mem_append_right _ (List.mem_of_getElem? (i := 259) (by decide +kernel)), by decide +kernel⟩
theorem wd_260 : Cond.code y_U_firstDue b_U_firstDue 1 (some .int) ∈ lw_ok := List.mem_filter.mpr ⟨List.mem_append_right _ (List.mem_of_getElem? (i := 260) (by decide +kernel)), by decide +kernel⟩
theorem wd_261 : Cond.methodLink R_X 151 y_P_clear ∈ lw_ok := List.mem_filter.mpr ⟨List.mem_append_right _ (List.mem_of_getElem? (i := 261) (by decide +kernel)), by decide +kernel⟩
theorem wd_262 : Cond.instanceMethod y_P_clear ∈ lw_ok := List.mem_filter.mpr ⟨List.mem_append_right _ (List.mem_of_getElem? (i := 262) (by decide +kernel)), by decide +kernel⟩
theorem wd_263 : Cond.selects R_P y_P_clear y_P_clear ∈ lw_ok := List.mem_filter.mpr ⟨List.mem_append_right _ (List.mem_of_getElem? (i := 263) (by decide +kernel)), by decide +kernel⟩
theorem wd_264 : Cond.code y_P_clear b_P_clear 2 none ∈ lw_ok := List.mem_filter.mpr ⟨List.mem_append_right _ (List.mem_of_getElem? (i := 264) (by decide +kernel)), by decide +kernel⟩
theorem wd_265 : Cond.methodLink R_X 154 y_X_fillPacket ∈ lw_ok := List.mem_filter.mpr ⟨List.mem_append_right _ (List.mem_of_getElem? (i := 265) (by decide +kernel)), by decide +kernel⟩
theorem wd_267 : Cond.instanceMethod y_X_fillPacket ∈ lw_ok := List.mem_filter.mpr ⟨List.mem_append_right _ (List.mem_of_getElem? (i := 267) (by decide +kernel)), by decide +kernel⟩
theorem wd_268 : Cond.code y_X_fillPacket b_X_fillPacket 4 none ∈ lw_ok := List.mem_filter.mpr ⟨List.mem_append_right _ (List.mem_of_getElem? (i := 268) (by decide +kernel)), by decide +kernel⟩
theorem wd_269 : Cond.methodLink R_X 170 y_S_isAtStart ∈ lw_ok := List.mem_filter.mpr ⟨List.mem_append_right _ (List.mem_of_getElem? (i := 269) (by decide +kernel)), by decide +kernel⟩
theorem wd_270 : Cond.methodLink R_X 173 y_S_takeCounter ∈ lw_ok := List.mem_filter.mpr ⟨List.mem_append_right _ (List.mem_of_getElem? (i := 270) (by decide +kernel)), by decide +kernel⟩
theorem wd_271 : Cond.instanceMethod y_S_takeCounter ∈ lw_ok := List.mem_filter.mpr ⟨List.mem_append_right _ (List.mem_of_getElem? (i := 271) (by decide +kernel)), by decide +kernel⟩
theorem wd_272 : Cond.selects R_S y_S_takeCounter y_S_takeCounter ∈ lw_ok := List.mem_filter.mpr ⟨List.mem_append_right _ (List.mem_of_getElem? (i := 272) (by decide +kernel)), by decide +kernel⟩
theorem wd_273 : Cond.code y_S_takeCounter b_S_takeCounter 2 (some .int) ∈ lw_ok := List.mem_filter.mpr ⟨List.mem_append_right _ (List.mem_of_getElem? (i := 273) (by decide +kernel)), by decide +kernel⟩
theorem wd_274 : Cond.methodLink R_X 158 y_X_putHead ∈ lw_ok := List.mem_filter.mpr ⟨List.mem_append_right _ (List.mem_of_getElem? (i := 274) (by decide +kernel)), by decide +kernel⟩
theorem wd_276 : Cond.instanceMethod y_X_putHead ∈ lw_ok := List.mem_filter.mpr ⟨List.mem_append_right _ (List.mem_of_getElem? (i := 276) (by decide +kernel)), by decide +kernel⟩
theorem wd_277 : Cond.code y_X_putHead b_X_putHead 5 none ∈ lw_ok := List.mem_filter.mpr ⟨List.mem_append_right _ (List.mem_of_getElem? (i := 277) (by decide +kernel)), by decide +kernel⟩
theorem wd_278 : Cond.methodLink R_X 179 y_P_put ∈ lw_ok := List.mem_filter.mpr ⟨List.mem_append_right _ (List.mem_of_getElem? (i := 278) (by decide +kernel)), by decide +kernel⟩
theorem wd_279 : Cond.instanceMethod y_P_put ∈ lw_ok := List.mem_filter.mpr ⟨List.mem_append_right _ (List.mem_of_getElem? (i := 279) (by decide +kernel)), by decide +kernel⟩
theorem wd_280 : Cond.selects R_P y_P_put y_P_put ∈ lw_ok := List.mem_filter.mpr ⟨List.mem_append_right _ (List.mem_of_getElem? (i := 280) (by decide +kernel)), by decide +kernel⟩
theorem wd_281 : Cond.code y_P_put b_P_put 2 none ∈ lw_ok := List.mem_filter.mpr ⟨List.mem_append_right _ (List.mem_of_getElem? (i := 281) (by decide +kernel)), by decide +kernel⟩
theorem wd_282 : Cond.methodLink R_X 183 y_P_putTime ∈ lw_ok := List.mem_filter.mpr ⟨List.mem_append_right _ (List.mem_of_getElem? (i := 282) (by decide +kernel)), by decide +kernel⟩
theorem wd_283 : Cond.instanceMethod y_P_putTime ∈ lw_ok := List.mem_filter.mpr ⟨List.mem_append_right _ (List.mem_of_getElem? (i := 283) (by decide +kernel)), by decide +kernel⟩
theorem wd_284 : Cond.selects R_P y_P_putTime y_P_putTime ∈ lw_ok := List.mem_filter.mpr ⟨List.mem_append_right _ (List.mem_of_getElem? (i := 284) (by decide +kernel)), by decide +kernel⟩
theorem wd_285 : Cond.code y_P_putTime b_P_putTime 2 none ∈ lw_ok := List.mem_filter.mpr ⟨List.mem_append_right _ (List.mem_of_getElem? (i := 285) (by decide +kernel)), by decide +kernel⟩
theorem wd_286 : Cond.methodLink R_P 19 y_P_put ∈ lw_ok := List.mem_filter.mpr ⟨List.mem_append_right _ (List.mem_of_getElem? (i := 286) (by decide +kernel)), by decide +kernel⟩
theorem wd_287 : Cond.methodLink R_X 176 y_U_firstSize ∈ lw_ok := List.mem_filter.mpr ⟨List.mem_append_right _ (List.mem_of_getElem? (i := 287) (by decide +kernel)), by decide +kernel⟩
theorem wd_288 : Cond.methodLink R_X 186 y_S_portion ∈ lw_ok := List.mem_filter.mpr ⟨List.mem_append_right _ (List.mem_of_getElem? (i := 288) (by decide +kernel)), by decide +kernel⟩
theorem wd_289 : Cond.methodLink R_X 189 y_S_sendBytes ∈ lw_ok := List.mem_filter.mpr ⟨List.mem_append_right _ (List.mem_of_getElem? (i := 289) (by decide +kernel)), by decide +kernel⟩
theorem wd_290 : Cond.instanceMethod y_S_sendBytes ∈ lw_ok := List.mem_filter.mpr ⟨List.mem_append_right _ (List.mem_of_getElem? (i := 290) (by decide +kernel)), by decide +kernel⟩
theorem wd_291 : Cond.selects R_S y_S_sendBytes y_S_sendBytes ∈ lw_ok := List.mem_filter.mpr ⟨List.mem_append_right _ (List.mem_of_getElem? (i := 291) (by decide +kernel)), by decide +kernel⟩
theorem wd_292 : Cond.code y_S_sendBytes b_S_sendBytes 4 none ∈ lw_ok := List.mem_filter.mpr ⟨List.mem_append_right _ (List.mem_of_getElem? (i := 292) (by decide +kernel)), by decide +kernel⟩
theorem wd_293 : Cond.methodLink R_S 74 y_U_firstSeed ∈ lw_ok := List.mem_filter.mpr ⟨List.mem_append_right _ (List.mem_of_getElem? (i := 293) (by decide +kernel)), by decide +kernel⟩
theorem wd_294 : Cond.instanceMethod y_U_firstSeed ∈ lw_ok := List.mem_filter.mpr ⟨List.mem_append_right _ (List.mem_of_getElem? (i := 294) (by decide +kernel)), by decide +kernel⟩
theorem wd_295 : Cond.selects R_U y_U_firstSeed y_U_firstSeed ∈ lw_ok := List.mem_filter.mpr ⟨List.mem_append_right _ (List.mem_of_getElem? (i := 295) (by decide +kernel)), by decide +kernel⟩
theorem wd_296 : Cond.code y_U_firstSeed b_U_firstSeed 1 (some .int) ∈ lw_ok := List.mem_filter.mpr ⟨List.mem_append_right _ (List.mem_of_getElem? (i := 296) (by decide +kernel)), by decide +kernel⟩
theorem wd_297 : Cond.methodLink R_S 77 y_P_put ∈ lw_ok := List.mem_filter.mpr ⟨List.mem_append_right _ (List.mem_of_getElem? (i := 297) (by decide +kernel)), by decide +kernel⟩
theorem wd_298 : Cond.methodLink R_S 83 y_U_firstDue ∈ lw_ok := List.mem_filter.mpr ⟨List.mem_append_right _ (List.mem_of_getElem? (i := 298) (by decide +kernel)), by decide +kernel⟩
theorem wd_299 : Cond.methodLink R_S 86 y_U_append ∈ lw_ok := List.mem_filter.mpr ⟨List.mem_append_right _ (List.mem_of_getElem? (i := 299) (by decide +kernel)), by decide +kernel⟩
theorem wd_300 : Cond.methodLink R_X 79 y_R_take ∈ lw_ok := List.mem_filter.mpr ⟨List.mem_append_right _ (List.mem_of_getElem? (i := 300) (by decide +kernel)), by decide +kernel⟩
theorem wd_301 : Cond.instanceMethod y_R_take ∈ lw_ok := List.mem_filter.mpr ⟨List.mem_append_right _ (List.mem_of_getElem? (i := 301) (by decide +kernel)), by decide +kernel⟩
theorem wd_302 : Cond.selects R_R y_R_take y_R_take ∈ lw_ok := List.mem_filter.mpr ⟨List.mem_append_right _ (List.mem_of_getElem? (i := 302) (by decide +kernel)), by decide +kernel⟩
theorem wd_303 : Cond.code y_R_take b_R_take 5 none ∈ lw_ok := List.mem_filter.mpr ⟨List.mem_append_right _ (List.mem_of_getElem? (i := 303) (by decide +kernel)), by decide +kernel⟩
theorem wd_304 : Cond.methodLink R_R 33 y_P_byteAt ∈ lw_ok := List.mem_filter.mpr ⟨List.mem_append_right _ (List.mem_of_getElem? (i := 304) (by decide +kernel)), by decide +kernel⟩
theorem wd_305 : Cond.instanceMethod y_P_byteAt ∈ lw_ok := List.mem_filter.mpr ⟨List.mem_append_right _ (List.mem_of_getElem? (i := 305) (by decide +kernel)), by decide +kernel⟩
theorem wd_306 : Cond.selects R_P y_P_byteAt y_P_byteAt ∈ lw_ok := List.mem_filter.mpr ⟨List.mem_append_right _ (List.mem_of_getElem? (i := 306) (by decide +kernel)), by decide +kernel⟩
theorem wd_307 : Cond.code y_P_byteAt b_P_byteAt 2 (some .int) ∈ lw_ok := List.mem_filter.mpr ⟨List.mem_append_right _ (List.mem_of_getElem? (i := 307) (by decide +kernel)), by decide +kernel⟩
theorem wd_309 : Cond.static y_X_isPacketIndex ∈ lw_ok := List.mem_filter.mpr ⟨List.mem_append_right _ (List.mem_of_getElem? (i := 309) (by decide +kernel)), by decide +kernel⟩
theorem wd_310 : Cond.code y_X_isPacketIndex b_X_isPacketIndex 1 (some .boolean) ∈ lw_ok := List.mem_filter.mpr ⟨List.mem_append_right _ (List.mem_of_getElem? (i := 310) (by decide +kernel)), by decide +kernel⟩
theorem wd_311 : Cond.methodLink R_R 39 y_R_advanceClock ∈ lw_ok := List.mem_filter.mpr ⟨List.mem_append_right _ (List.mem_of_getElem? (i := 311) (by decide +kernel)), by decide +kernel⟩
theorem wd_313 : Cond.instanceMethod y_R_advanceClock ∈ lw_ok := List.mem_filter.mpr ⟨List.mem_append_right _ (List.mem_of_getElem? (i := 313) (by decide +kernel)), by decide +kernel⟩
theorem wd_314 : Cond.code y_R_advanceClock b_R_advanceClock 1 none ∈ lw_ok := List.mem_filter.mpr ⟨List.mem_append_right _ (List.mem_of_getElem? (i := 314) (by decide +kernel)), by decide +kernel⟩
theorem wd_315 : Cond.constant R_R 83 65536 ∈ lw_ok := List.mem_filter.mpr ⟨List.mem_append_right _ (List.mem_of_getElem? (i := 315) (by decide +kernel)), by decide +kernel⟩
theorem wd_316 : Cond.methodLink R_R 42 y_P_timeAt ∈ lw_ok := List.mem_filter.mpr ⟨List.mem_append_right _ (List.mem_of_getElem? (i := 316) (by decide +kernel)), by decide +kernel⟩
theorem wd_317 : Cond.instanceMethod y_P_timeAt ∈ lw_ok := List.mem_filter.mpr ⟨List.mem_append_right _ (List.mem_of_getElem? (i := 317) (by decide +kernel)), by decide +kernel⟩
theorem wd_318 : Cond.selects R_P y_P_timeAt y_P_timeAt ∈ lw_ok := List.mem_filter.mpr ⟨List.mem_append_right _ (List.mem_of_getElem? (i := 318) (by decide +kernel)), by decide +kernel⟩
theorem wd_319 : Cond.code y_P_timeAt b_P_timeAt 2 (some .int) ∈ lw_ok := List.mem_filter.mpr ⟨List.mem_append_right _ (List.mem_of_getElem? (i := 319) (by decide +kernel)), by decide +kernel⟩
theorem wd_320 : Cond.methodLink R_P 27 y_P_byteAt ∈ lw_ok := List.mem_filter.mpr ⟨List.mem_append_right _ (List.mem_of_getElem? (i := 320) (by decide +kernel)), by decide +kernel⟩
theorem wd_322 : Cond.methodLink R_R 49 y_R_takeOfStream ∈ lw_ok := List.mem_filter.mpr ⟨List.mem_append_right _ (List.mem_of_getElem? (i := 322) (by decide +kernel)), by decide +kernel⟩
theorem wd_324 : Cond.instanceMethod y_R_takeOfStream ∈ lw_ok := List.mem_filter.mpr ⟨List.mem_append_right _ (List.mem_of_getElem? (i := 324) (by decide +kernel)), by decide +kernel⟩
theorem wd_325 : Cond.code y_R_takeOfStream b_R_takeOfStream 6 none ∈ lw_ok := List.mem_filter.mpr ⟨List.mem_append_right _ (List.mem_of_getElem? (i := 325) (by decide +kernel)), by decide +kernel⟩
theorem wd_326 : Cond.methodLink R_R 53 y_C_noteCounter ∈ lw_ok := List.mem_filter.mpr ⟨List.mem_append_right _ (List.mem_of_getElem? (i := 326) (by decide +kernel)), by decide +kernel⟩
theorem wd_327 : Cond.instanceMethod y_C_noteCounter ∈ lw_ok := List.mem_filter.mpr ⟨List.mem_append_right _ (List.mem_of_getElem? (i := 327) (by decide +kernel)), by decide +kernel⟩
theorem wd_328 : Cond.selects R_C y_C_noteCounter y_C_noteCounter ∈ lw_ok := List.mem_filter.mpr ⟨List.mem_append_right _ (List.mem_of_getElem? (i := 328) (by decide +kernel)), by decide +kernel⟩
theorem wd_329 : Cond.code y_C_noteCounter b_C_noteCounter 3 (some .boolean) ∈ lw_ok := List.mem_filter.mpr ⟨List.mem_append_right _ (List.mem_of_getElem? (i := 329) (by decide +kernel)), by decide +kernel⟩
theorem wd_330 : Cond.methodLink R_R 56 y_R_breakUnit ∈ lw_ok := List.mem_filter.mpr ⟨List.mem_append_right _ (List.mem_of_getElem? (i := 330) (by decide +kernel)), by decide +kernel⟩
theorem wd_332 : Cond.instanceMethod y_R_breakUnit ∈ lw_ok := List.mem_filter.mpr ⟨List.mem_append_right _ (List.mem_of_getElem? (i := 332) (by decide +kernel)), by decide +kernel⟩
theorem wd_333 : Cond.code y_R_breakUnit b_R_breakUnit 2 none ∈ lw_ok := List.mem_filter.mpr ⟨List.mem_append_right _ (List.mem_of_getElem? (i := 333) (by decide +kernel)), by decide +kernel⟩
theorem wd_334 : Cond.methodLink R_R 60 y_R_beginUnit ∈ lw_ok := List.mem_filter.mpr ⟨List.mem_append_right _ (List.mem_of_getElem? (i := 334) (by decide +kernel)), by decide +kernel⟩
theorem wd_336 : Cond.instanceMethod y_R_beginUnit ∈ lw_ok := List.mem_filter.mpr ⟨List.mem_append_right _ (List.mem_of_getElem? (i := 336) (by decide +kernel)), by decide +kernel⟩
theorem wd_337 : Cond.code y_R_beginUnit b_R_beginUnit 5 none ∈ lw_ok := List.mem_filter.mpr ⟨List.mem_append_right _ (List.mem_of_getElem? (i := 337) (by decide +kernel)), by decide +kernel⟩
theorem wd_338 : Cond.methodLink R_R 73 y_C_begin ∈ lw_ok := List.mem_filter.mpr ⟨List.mem_append_right _ (List.mem_of_getElem? (i := 338) (by decide +kernel)), by decide +kernel⟩
theorem wd_339 : Cond.instanceMethod y_C_begin ∈ lw_ok := List.mem_filter.mpr ⟨List.mem_append_right _ (List.mem_of_getElem? (i := 339) (by decide +kernel)), by decide +kernel⟩
theorem wd_340 : Cond.selects R_C y_C_begin y_C_begin ∈ lw_ok := List.mem_filter.mpr ⟨List.mem_append_right _ (List.mem_of_getElem? (i := 340) (by decide +kernel)), by decide +kernel⟩
theorem wd_341 : Cond.code y_C_begin b_C_begin 3 none ∈ lw_ok := List.mem_filter.mpr ⟨List.mem_append_right _ (List.mem_of_getElem? (i := 341) (by decide +kernel)), by decide +kernel⟩
theorem wd_342 : Cond.methodLink R_R 66 y_C_fill ∈ lw_ok := List.mem_filter.mpr ⟨List.mem_append_right _ (List.mem_of_getElem? (i := 342) (by decide +kernel)), by decide +kernel⟩
theorem wd_343 : Cond.instanceMethod y_C_fill ∈ lw_ok := List.mem_filter.mpr ⟨List.mem_append_right _ (List.mem_of_getElem? (i := 343) (by decide +kernel)), by decide +kernel⟩
theorem wd_344 : Cond.selects R_C y_C_fill y_C_fill ∈ lw_ok := List.mem_filter.mpr ⟨List.mem_append_right _ (List.mem_of_getElem? (i := 344) (by decide +kernel)), by decide +kernel⟩
theorem wd_345 : Cond.code y_C_fill b_C_fill 4 (some .boolean) ∈ lw_ok := List.mem_filter.mpr ⟨List.mem_append_right _ (List.mem_of_getElem? (i := 345) (by decide +kernel)), by decide +kernel⟩
theorem wd_346 : Cond.methodLink R_C 41 y_P_byteAt ∈ lw_ok := List.mem_filter.mpr ⟨List.mem_append_right _ (List.mem_of_getElem? (i := 346) (by decide +kernel)), by decide +kernel⟩
theorem wd_347 : Cond.methodLink R_R 70 y_R_finishUnit ∈ lw_ok := List.mem_filter.mpr ⟨List.mem_append_right _ (List.mem_of_getElem? (i := 347) (by decide +kernel)), by decide +kernel⟩
theorem wd_349 : Cond.instanceMethod y_R_finishUnit ∈ lw_ok := List.mem_filter.mpr ⟨List.mem_append_right _ (List.mem_of_getElem? (i := 349) (by decide +kernel)), by decide +kernel⟩
theorem wd_350 : Cond.code y_R_finishUnit b_R_finishUnit 3 none ∈ lw_ok := List.mem_filter.mpr ⟨List.mem_append_right _ (List.mem_of_getElem? (i := 350) (by decide +kernel)), by decide +kernel⟩
theorem wd_351 : Cond.methodLink R_R 77 y_C_keepAsLatest ∈ lw_ok := List.mem_filter.mpr ⟨List.mem_append_right _ (List.mem_of_getElem? (i := 351) (by decide +kernel)), by decide +kernel⟩
theorem wd_352 : Cond.instanceMethod y_C_keepAsLatest ∈ lw_ok := List.mem_filter.mpr ⟨List.mem_append_right _ (List.mem_of_getElem? (i := 352) (by decide +kernel)), by decide +kernel⟩
theorem wd_353 : Cond.selects R_C y_C_keepAsLatest y_C_keepAsLatest ∈ lw_ok := List.mem_filter.mpr ⟨List.mem_append_right _ (List.mem_of_getElem? (i := 353) (by decide +kernel)), by decide +kernel⟩
theorem wd_354 : Cond.code y_C_keepAsLatest b_C_keepAsLatest 2 none ∈ lw_ok := List.mem_filter.mpr ⟨List.mem_append_right _ (List.mem_of_getElem? (i := 354) (by decide +kernel)), by decide +kernel⟩
theorem wd_355 : Cond.methodLink R_R 84 y_J_floorMod ∈ lw_ok := List.mem_filter.mpr ⟨List.mem_append_right _ (List.mem_of_getElem? (i := 355) (by decide +kernel)), by decide +kernel⟩
theorem wd_356 : Cond.static y_J_floorMod ∈ lw_ok := List.mem_filter.mpr ⟨List.mem_append_right _ (List.mem_of_getElem? (i := 356) (by decide +kernel)), by decide +kernel⟩
theorem wd_357 : Cond.code y_J_floorMod b_J_floorMod 3 (some .int) ∈ lw_ok := List.mem_filter.mpr ⟨List.mem_append_right _ (List.mem_of_getElem? (i := 357) (by decide +kernel)), by decide +kernel⟩
theorem wd_366 : Cond.methodLink R_X 83 y_X_isPacketIndex ∈ lw_ok := List.mem_filter.mpr ⟨List.mem_append_right _ (List.mem_of_getElem? (i := 366) (by decide +kernel)), by decide +kernel⟩
theorem wd_367 : Cond.methodLink R_X 86 y_P_copyFrom ∈ lw_ok := List.mem_filter.mpr ⟨List.mem_append_right _ (List.mem_of_getElem? (i := 367) (by decide +kernel)), by decide +kernel⟩
theorem wd_368 : Cond.instanceMethod y_P_copyFrom ∈ lw_ok := List.mem_filter.mpr ⟨List.mem_append_right _ (List.mem_of_getElem? (i := 368) (by decide +kernel)), by decide +kernel⟩
theorem wd_369 : Cond.selects R_P y_P_copyFrom y_P_copyFrom ∈ lw_ok := List.mem_filter.mpr ⟨List.mem_append_right _ (List.mem_of_getElem? (i := 369) (by decide +kernel)), by decide +kernel⟩
theorem wd_370 : Cond.code y_P_copyFrom b_P_copyFrom 3 none ∈ lw_ok := List.mem_filter.mpr ⟨List.mem_append_right _ (List.mem_of_getElem? (i := 370) (by decide +kernel)), by decide +kernel⟩
theorem wd_371 : Cond.methodLink R_X 89 y_P_flip ∈ lw_ok := List.mem_filter.mpr ⟨List.mem_append_right _ (List.mem_of_getElem? (i := 371) (by decide +kernel)), by decide +kernel⟩
theorem wd_372 : Cond.instanceMethod y_P_flip ∈ lw_ok := List.mem_filter.mpr ⟨List.mem_append_right _ (List.mem_of_getElem? (i := 372) (by decide +kernel)), by decide +kernel⟩
theorem wd_373 : Cond.selects R_P y_P_flip y_P_flip ∈ lw_ok := List.mem_filter.mpr ⟨List.mem_append_right _ (List.mem_of_getElem? (i := 373) (by decide +kernel)), by decide +kernel⟩
theorem wd_374 : Cond.code y_P_flip b_P_flip 3 none ∈ lw_ok := List.mem_filter.mpr ⟨List.mem_append_right _ (List.mem_of_getElem? (i := 374) (by decide +kernel)), by decide +kernel⟩
theorem wd_379 : Cond.methodLink R_X 97 y_P_byteAt ∈ lw_ok := List.mem_filter.mpr ⟨List.mem_append_right _ (List.mem_of_getElem? (i := 379) (by decide +kernel)), by decide +kernel⟩
theorem wd_404 : Cond.methodLink R_X 119 y_R_reset ∈ lw_ok := List.mem_filter.mpr ⟨List.mem_append_right _ (List.mem_of_getElem? (i := 404) (by decide +kernel)), by decide +kernel⟩
theorem wd_405 : Cond.instanceMethod y_R_reset ∈ lw_ok := List.mem_filter.mpr ⟨List.mem_append_right _ (List.mem_of_getElem? (i := 405) (by decide +kernel)), by decide +kernel⟩
theorem wd_406 : Cond.selects R_R y_R_reset y_R_reset ∈ lw_ok := List.mem_filter.mpr ⟨List.mem_append_right _ (List.mem_of_getElem? (i := 406) (by decide +kernel)), by decide +kernel⟩
theorem wd_407 : Cond.code y_R_reset b_R_reset 2 none ∈ lw_ok := List.mem_filter.mpr ⟨List.mem_append_right _ (List.mem_of_getElem? (i := 407) (by decide +kernel)), by decide +kernel⟩
theorem wd_408 : Cond.methodLink R_R 30 y_C_reset ∈ lw_ok := List.mem_filter.mpr ⟨List.mem_append_right _ (List.mem_of_getElem? (i := 408) (by decide +kernel)), by decide +kernel⟩
theorem wd_409 : Cond.instanceMethod y_C_reset ∈ lw_ok := List.mem_filter.mpr ⟨List.mem_append_right _ (List.mem_of_getElem? (i := 409) (by decide +kernel)), by decide +kernel⟩
theorem wd_410 : Cond.selects R_C y_C_reset y_C_reset ∈ lw_ok := List.mem_filter.mpr ⟨List.mem_append_right _ (List.mem_of_getElem? (i := 410) (by decide +kernel)), by decide +kernel⟩
theorem wd_411 : Cond.code y_C_reset b_C_reset 1 none ∈ lw_ok := List.mem_filter.mpr ⟨List.mem_append_right _ (List.mem_of_getElem? (i := 411) (by decide +kernel)), by decide +kernel⟩
theorem wd_433 : Cond.fieldLink R_M 83 R_M "leak" "I" ∈ lw_ok := List.mem_filter.mpr ⟨List.mem_append_right _ (List.mem_of_getElem? (i := 433) (by decide +kernel)), by decide +kernel⟩
theorem wd_434 : Cond.fieldLink R_M 87 R_M "capacity" "I" ∈ lw_ok := List.mem_filter.mpr ⟨List.mem_append_right _ (List.mem_of_getElem? (i := 434) (by decide +kernel)), by decide +kernel⟩
theorem wd_435 : Cond.fieldLink R_M 94 R_M "time" "I" ∈ lw_ok := List.mem_filter.mpr ⟨List.mem_append_right _ (List.mem_of_getElem? (i := 435) (by decide +kernel)), by decide +kernel⟩
theorem wd_436 : Cond.fieldLink R_M 7 R_M "low" "[I" ∈ lw_ok := List.mem_filter.mpr ⟨List.mem_append_right _ (List.mem_of_getElem? (i := 436) (by decide +kernel)), by decide +kernel⟩
theorem wd_437 : Cond.fieldLink R_M 13 R_M "sizes" "[I" ∈ lw_ok := List.mem_filter.mpr ⟨List.mem_append_right _ (List.mem_of_getElem? (i := 437) (by decide +kernel)), by decide +kernel⟩
theorem wd_438 : Cond.fieldLink R_M 16 R_M "dues" "[I" ∈ lw_ok := List.mem_filter.mpr ⟨List.mem_append_right _ (List.mem_of_getElem? (i := 438) (by decide +kernel)), by decide +kernel⟩
theorem wd_439 : Cond.fieldLink R_M 19 R_M "seeds" "[I" ∈ lw_ok := List.mem_filter.mpr ⟨List.mem_append_right _ (List.mem_of_getElem? (i := 439) (by decide +kernel)), by decide +kernel⟩
theorem wd_440 : Cond.fieldLink R_M 22 R_M "added" "[I" ∈ lw_ok := List.mem_filter.mpr ⟨List.mem_append_right _ (List.mem_of_getElem? (i := 440) (by decide +kernel)), by decide +kernel⟩
theorem wd_441 : Cond.fieldLink R_M 25 R_M "alive" "[I" ∈ lw_ok := List.mem_filter.mpr ⟨List.mem_append_right _ (List.mem_of_getElem? (i := 441) (by decide +kernel)), by decide +kernel⟩
theorem wd_442 : Cond.fieldLink R_M 28 R_M "current" "[I" ∈ lw_ok := List.mem_filter.mpr ⟨List.mem_append_right _ (List.mem_of_getElem? (i := 442) (by decide +kernel)), by decide +kernel⟩
theorem wd_443 : Cond.fieldLink R_M 31 R_M "sent" "[I" ∈ lw_ok := List.mem_filter.mpr ⟨List.mem_append_right _ (List.mem_of_getElem? (i := 443) (by decide +kernel)), by decide +kernel⟩
theorem wd_444 : Cond.fieldLink R_M 34 R_M "lates" "[I" ∈ lw_ok := List.mem_filter.mpr ⟨List.mem_append_right _ (List.mem_of_getElem? (i := 444) (by decide +kernel)), by decide +kernel⟩
theorem wd_445 : Cond.fieldLink R_M 37 R_M "next" "[I" ∈ lw_ok := List.mem_filter.mpr ⟨List.mem_append_right _ (List.mem_of_getElem? (i := 445) (by decide +kernel)), by decide +kernel⟩
theorem wd_446 : Cond.fieldLink R_M 119 R_M "any" "Z" ∈ lw_ok := List.mem_filter.mpr ⟨List.mem_append_right _ (List.mem_of_getElem? (i := 446) (by decide +kernel)), by decide +kernel⟩
theorem wd_447 : Cond.fieldLink R_M 40 R_M "packet" "[I" ∈ lw_ok := List.mem_filter.mpr ⟨List.mem_append_right _ (List.mem_of_getElem? (i := 447) (by decide +kernel)), by decide +kernel⟩
theorem wd_448 : Cond.fieldLink R_M 43 R_M "heard" "[I" ∈ lw_ok := List.mem_filter.mpr ⟨List.mem_append_right _ (List.mem_of_getElem? (i := 448) (by decide +kernel)), by decide +kernel⟩
theorem wd_449 : Cond.fieldLink R_M 137 R_M "known" "Z" ∈ lw_ok := List.mem_filter.mpr ⟨List.mem_append_right _ (List.mem_of_getElem? (i := 449) (by decide +kernel)), by decide +kernel⟩
theorem wd_450 : Cond.fieldLink R_M 134 R_M "clock" "I" ∈ lw_ok := List.mem_filter.mpr ⟨List.mem_append_right _ (List.mem_of_getElem? (i := 450) (by decide +kernel)), by decide +kernel⟩
theorem wd_451 : Cond.fieldLink R_M 46 R_M "came" "[Z" ∈ lw_ok := List.mem_filter.mpr ⟨List.mem_append_right _ (List.mem_of_getElem? (i := 451) (by decide +kernel)), by decide +kernel⟩
theorem wd_452 : Cond.fieldLink R_M 50 R_M "counter" "[I" ∈ lw_ok := List.mem_filter.mpr ⟨List.mem_append_right _ (List.mem_of_getElem? (i := 452) (by decide +kernel)), by decide +kernel⟩
theorem wd_453 : Cond.fieldLink R_M 53 R_M "collects" "[Z" ∈ lw_ok := List.mem_filter.mpr ⟨List.mem_append_right _ (List.mem_of_getElem? (i := 453) (by decide +kernel)), by decide +kernel⟩
theorem wd_454 : Cond.fieldLink R_M 56 R_M "have" "[I" ∈ lw_ok := List.mem_filter.mpr ⟨List.mem_append_right _ (List.mem_of_getElem? (i := 454) (by decide +kernel)), by decide +kernel⟩
theorem wd_455 : Cond.fieldLink R_M 59 R_M "want" "[I" ∈ lw_ok := List.mem_filter.mpr ⟨List.mem_append_right _ (List.mem_of_getElem? (i := 455) (by decide +kernel)), by decide +kernel⟩
theorem wd_456 : Cond.fieldLink R_M 62 R_M "wantDue" "[I" ∈ lw_ok := List.mem_filter.mpr ⟨List.mem_append_right _ (List.mem_of_getElem? (i := 456) (by decide +kernel)), by decide +kernel⟩
theorem wd_457 : Cond.fieldLink R_M 65 R_M "bytes" "[I" ∈ lw_ok := List.mem_filter.mpr ⟨List.mem_append_right _ (List.mem_of_getElem? (i := 457) (by decide +kernel)), by decide +kernel⟩
theorem wd_458 : Cond.fieldLink R_M 68 R_M "last" "[I" ∈ lw_ok := List.mem_filter.mpr ⟨List.mem_append_right _ (List.mem_of_getElem? (i := 458) (by decide +kernel)), by decide +kernel⟩
theorem wd_459 : Cond.fieldLink R_M 71 R_M "lastSize" "[I" ∈ lw_ok := List.mem_filter.mpr ⟨List.mem_append_right _ (List.mem_of_getElem? (i := 459) (by decide +kernel)), by decide +kernel⟩
theorem wd_460 : Cond.fieldLink R_M 74 R_M "lastDue" "[I" ∈ lw_ok := List.mem_filter.mpr ⟨List.mem_append_right _ (List.mem_of_getElem? (i := 460) (by decide +kernel)), by decide +kernel⟩
theorem wd_461 : Cond.fieldLink R_M 77 R_M "arrived" "[I" ∈ lw_ok := List.mem_filter.mpr ⟨List.mem_append_right _ (List.mem_of_getElem? (i := 461) (by decide +kernel)), by decide +kernel⟩
theorem wd_462 : Cond.fieldLink R_M 80 R_M "counts" "[I" ∈ lw_ok := List.mem_filter.mpr ⟨List.mem_append_right _ (List.mem_of_getElem? (i := 462) (by decide +kernel)), by decide +kernel⟩
theorem wd_529 : Cond.methodLink R_M 90 y_M_within ∈ lw_ok := List.mem_filter.mpr ⟨List.mem_append_right _ (List.mem_of_getElem? (i := 529) (by decide +kernel)), by decide +kernel⟩
theorem wd_530 : Cond.static y_M_within ∈ lw_ok := List.mem_filter.mpr ⟨List.mem_append_right _ (List.mem_of_getElem? (i := 530) (by decide +kernel)), by decide +kernel⟩
theorem wd_531 : Cond.code y_M_within b_M_within 3 (some .boolean) ∈ lw_ok := List.mem_filter.mpr ⟨List.mem_append_right _ (List.mem_of_getElem? (i := 531) (by decide +kernel)), by decide +kernel⟩
theorem wd_536 : Cond.methodLink R_M 130 y_M_ticks ∈ lw_ok := List.mem_filter.mpr ⟨List.mem_append_right _ (List.mem_of_getElem? (i := 536) (by decide +kernel)), by decide +kernel⟩
theorem wd_538 : Cond.instanceMethod y_M_ticks ∈ lw_ok := List.mem_filter.mpr ⟨List.mem_append_right _ (List.mem_of_getElem? (i := 538) (by decide +kernel)), by decide +kernel⟩
theorem wd_539 : Cond.code y_M_ticks b_M_ticks 4 (some .int) ∈ lw_ok := List.mem_filter.mpr ⟨List.mem_append_right _ (List.mem_of_getElem? (i := 539) (by decide +kernel)), by decide +kernel⟩
theorem wd_540 : Cond.methodLink R_M 123 y_M_oneTick ∈ lw_ok := List.mem_filter.mpr ⟨List.mem_append_right _ (List.mem_of_getElem? (i := 540) (by decide +kernel)), by decide +kernel⟩
theorem wd_542 : Cond.instanceMethod y_M_oneTick ∈ lw_ok := List.mem_filter.mpr ⟨List.mem_append_right _ (List.mem_of_getElem? (i := 542) (by decide +kernel)), by decide +kernel⟩
theorem wd_543 : Cond.code y_M_oneTick b_M_oneTick 2 none ∈ lw_ok := List.mem_filter.mpr ⟨List.mem_append_right _ (List.mem_of_getElem? (i := 543) (by decide +kernel)), by decide +kernel⟩
theorem wd_544 : Cond.methodLink R_M 112 y_M_goOn ∈ lw_ok := List.mem_filter.mpr ⟨List.mem_append_right _ (List.mem_of_getElem? (i := 544) (by decide +kernel)), by decide +kernel⟩
theorem wd_546 : Cond.instanceMethod y_M_goOn ∈ lw_ok := List.mem_filter.mpr ⟨List.mem_append_right _ (List.mem_of_getElem? (i := 546) (by decide +kernel)), by decide +kernel⟩
theorem wd_547 : Cond.code y_M_goOn b_M_goOn 3 none ∈ lw_ok := List.mem_filter.mpr ⟨List.mem_append_right _ (List.mem_of_getElem? (i := 547) (by decide +kernel)), by decide +kernel⟩
theorem wd_548 : Cond.methodLink R_M 116 y_M_make ∈ lw_ok := List.mem_filter.mpr ⟨List.mem_append_right _ (List.mem_of_getElem? (i := 548) (by decide +kernel)), by decide +kernel⟩
theorem wd_550 : Cond.instanceMethod y_M_make ∈ lw_ok := List.mem_filter.mpr ⟨List.mem_append_right _ (List.mem_of_getElem? (i := 550) (by decide +kernel)), by decide +kernel⟩
theorem wd_551 : Cond.code y_M_make b_M_make 8 none ∈ lw_ok := List.mem_filter.mpr ⟨List.mem_append_right _ (List.mem_of_getElem? (i := 551) (by decide +kernel)), by decide +kernel⟩
theorem wd_552 : Cond.methodLink R_M 108 y_M_chosen ∈ lw_ok := List.mem_filter.mpr ⟨List.mem_append_right _ (List.mem_of_getElem? (i := 552) (by decide +kernel)), by decide +kernel⟩
theorem wd_554 : Cond.instanceMethod y_M_chosen ∈ lw_ok := List.mem_filter.mpr ⟨List.mem_append_right _ (List.mem_of_getElem? (i := 554) (by decide +kernel)), by decide +kernel⟩
theorem wd_555 : Cond.code y_M_chosen b_M_chosen 6 (some .int) ∈ lw_ok := List.mem_filter.mpr ⟨List.mem_append_right _ (List.mem_of_getElem? (i := 555) (by decide +kernel)), by decide +kernel⟩
theorem wd_556 : Cond.methodLink R_M 104 y_M_ready ∈ lw_ok := List.mem_filter.mpr ⟨List.mem_append_right _ (List.mem_of_getElem? (i := 556) (by decide +kernel)), by decide +kernel⟩
theorem wd_558 : Cond.instanceMethod y_M_ready ∈ lw_ok := List.mem_filter.mpr ⟨List.mem_append_right _ (List.mem_of_getElem? (i := 558) (by decide +kernel)), by decide +kernel⟩
theorem wd_559 : Cond.code y_M_ready b_M_ready 4 (some .boolean) ∈ lw_ok := List.mem_filter.mpr ⟨List.mem_append_right _ (List.mem_of_getElem? (i := 559) (by decide +kernel)), by decide +kernel⟩
theorem wd_560 : Cond.methodLink R_M 97 y_M_takes ∈ lw_ok := List.mem_filter.mpr ⟨List.mem_append_right _ (List.mem_of_getElem? (i := 560) (by decide +kernel)), by decide +kernel⟩
theorem wd_562 : Cond.instanceMethod y_M_takes ∈ lw_ok := List.mem_filter.mpr ⟨List.mem_append_right _ (List.mem_of_getElem? (i := 562) (by decide +kernel)), by decide +kernel⟩
theorem wd_563 : Cond.code y_M_takes b_M_takes 4 (some .int) ∈ lw_ok := List.mem_filter.mpr ⟨List.mem_append_right _ (List.mem_of_getElem? (i := 563) (by decide +kernel)), by decide +kernel⟩
theorem wd_564 : Cond.methodLink R_M 101 y_M_high ∈ lw_ok := List.mem_filter.mpr ⟨List.mem_append_right _ (List.mem_of_getElem? (i := 564) (by decide +kernel)), by decide +kernel⟩
theorem wd_566 : Cond.instanceMethod y_M_high ∈ lw_ok := List.mem_filter.mpr ⟨List.mem_append_right _ (List.mem_of_getElem? (i := 566) (by decide +kernel)), by decide +kernel⟩
theorem wd_567 : Cond.code y_M_high b_M_high 4 (some .int) ∈ lw_ok := List.mem_filter.mpr ⟨List.mem_append_right _ (List.mem_of_getElem? (i := 567) (by decide +kernel)), by decide +kernel⟩
theorem wd_568 : Cond.methodLink R_M 126 y_M_hear ∈ lw_ok := List.mem_filter.mpr ⟨List.mem_append_right _ (List.mem_of_getElem? (i := 568) (by decide +kernel)), by decide +kernel⟩
theorem wd_570 : Cond.instanceMethod y_M_hear ∈ lw_ok := List.mem_filter.mpr ⟨List.mem_append_right _ (List.mem_of_getElem? (i := 570) (by decide +kernel)), by decide +kernel⟩
theorem wd_571 : Cond.code y_M_hear b_M_hear 8 none ∈ lw_ok := List.mem_filter.mpr ⟨List.mem_append_right _ (List.mem_of_getElem? (i := 571) (by decide +kernel)), by decide +kernel⟩
theorem wd_572 : Cond.constant R_M 140 65536 ∈ lw_ok := List.mem_filter.mpr ⟨List.mem_append_right _ (List.mem_of_getElem? (i := 572) (by decide +kernel)), by decide +kernel⟩
theorem wd_573 : Cond.methodLink R_M 141 y_M_note ∈ lw_ok := List.mem_filter.mpr ⟨List.mem_append_right _ (List.mem_of_getElem? (i := 573) (by decide +kernel)), by decide +kernel⟩
theorem wd_575 : Cond.instanceMethod y_M_note ∈ lw_ok := List.mem_filter.mpr ⟨List.mem_append_right _ (List.mem_of_getElem? (i := 575) (by decide +kernel)), by decide +kernel⟩
theorem wd_576 : Cond.code y_M_note b_M_note 3 none ∈ lw_ok := List.mem_filter.mpr ⟨List.mem_append_right _ (List.mem_of_getElem? (i := 576) (by decide +kernel)), by decide +kernel⟩
theorem wd_577 : Cond.methodLink R_M 151 y_M_goBroken ∈ lw_ok := List.mem_filter.mpr ⟨List.mem_append_right _ (List.mem_of_getElem? (i := 577) (by decide +kernel)), by decide +kernel⟩
theorem wd_579 : Cond.instanceMethod y_M_goBroken ∈ lw_ok := List.mem_filter.mpr ⟨List.mem_append_right _ (List.mem_of_getElem? (i := 579) (by decide +kernel)), by decide +kernel⟩
theorem wd_580 : Cond.code y_M_goBroken b_M_goBroken 2 none ∈ lw_ok := List.mem_filter.mpr ⟨List.mem_append_right _ (List.mem_of_getElem? (i := 580) (by decide +kernel)), by decide +kernel⟩
theorem wd_581 : Cond.methodLink R_M 144 y_M_begin ∈ lw_ok := List.mem_filter.mpr ⟨List.mem_append_right _ (List.mem_of_getElem? (i := 581) (by decide +kernel)), by decide +kernel⟩
theorem wd_583 : Cond.instanceMethod y_M_begin ∈ lw_ok := List.mem_filter.mpr ⟨List.mem_append_right _ (List.mem_of_getElem? (i := 583) (by decide +kernel)), by decide +kernel⟩
theorem wd_584 : Cond.code y_M_begin b_M_begin 4 (some .int) ∈ lw_ok := List.mem_filter.mpr ⟨List.mem_append_right _ (List.mem_of_getElem? (i := 584) (by decide +kernel)), by decide +kernel⟩
theorem wd_585 : Cond.methodLink R_M 148 y_M_collect ∈ lw_ok := List.mem_filter.mpr ⟨List.mem_append_right _ (List.mem_of_getElem? (i := 585) (by decide +kernel)), by decide +kernel⟩
theorem wd_587 : Cond.instanceMethod y_M_collect ∈ lw_ok := List.mem_filter.mpr ⟨List.mem_append_right _ (List.mem_of_getElem? (i := 587) (by decide +kernel)), by decide +kernel⟩
theorem wd_588 : Cond.code y_M_collect b_M_collect 4 none ∈ lw_ok := List.mem_filter.mpr ⟨List.mem_append_right _ (List.mem_of_getElem? (i := 588) (by decide +kernel)), by decide +kernel⟩
theorem wd_589 : Cond.methodLink R_M 154 y_M_arrive ∈ lw_ok := List.mem_filter.mpr ⟨List.mem_append_right _ (List.mem_of_getElem? (i := 589) (by decide +kernel)), by decide +kernel⟩
theorem wd_591 : Cond.instanceMethod y_M_arrive ∈ lw_ok := List.mem_filter.mpr ⟨List.mem_append_right _ (List.mem_of_getElem? (i := 591) (by decide +kernel)), by decide +kernel⟩
theorem wd_592 : Cond.code y_M_arrive b_M_arrive 4 none ∈ lw_ok := List.mem_filter.mpr ⟨List.mem_append_right _ (List.mem_of_getElem? (i := 592) (by decide +kernel)), by decide +kernel⟩
theorem ws_S_dropCurrent : Cond.selects R_S y_S_dropCurrent y_S_dropCurrent ∈ lw_ok := List.mem_filter.mpr ⟨List.mem_append_left _ (by decide +kernel), by decide +kernel⟩
theorem ws_R_breakUnit : Cond.selects R_R y_R_breakUnit y_R_breakUnit ∈ lw_ok := List.mem_filter.mpr ⟨List.mem_append_left _ (by decide +kernel), by decide +kernel⟩
theorem ws_R_beginUnit : Cond.selects R_R y_R_beginUnit y_R_beginUnit ∈ lw_ok := List.mem_filter.mpr ⟨List.mem_append_left _ (by decide +kernel), by decide +kernel⟩
theorem ws_R_finishUnit : Cond.selects R_R y_R_finishUnit y_R_finishUnit ∈ lw_ok := List.mem_filter.mpr ⟨List.mem_append_left _ (by decide +kernel), by decide +kernel⟩
theorem ws_R_advanceClock : Cond.selects R_R y_R_advanceClock y_R_advanceClock ∈ lw_ok := List.mem_filter.mpr ⟨List.mem_append_left _ (by decide +kernel), by decide +kernel⟩
theorem ws_R_takeOfStream : Cond.selects R_R y_R_takeOfStream y_R_takeOfStream ∈ lw_ok := List.mem_filter.mpr ⟨List.mem_append_left _ (by decide +kernel), by decide +kernel⟩
theorem ws_X_putHead : Cond.selects R_X y_X_putHead y_X_putHead ∈ lw_ok := List.mem_filter.mpr ⟨List.mem_append_left _ (by decide +kernel), by decide +kernel⟩
theorem ws_X_chooseStream : Cond.selects R_X y_X_chooseStream y_X_chooseStream ∈ lw_ok := List.mem_filter.mpr ⟨List.mem_append_left _ (by decide +kernel), by decide +kernel⟩
theorem ws_X_fillPacket : Cond.selects R_X y_X_fillPacket y_X_fillPacket ∈ lw_ok := List.mem_filter.mpr ⟨List.mem_append_left _ (by decide +kernel), by decide +kernel⟩
theorem ws_X_sendPacket : Cond.selects R_X y_X_sendPacket y_X_sendPacket ∈ lw_ok := List.mem_filter.mpr ⟨List.mem_append_left _ (by decide +kernel), by decide +kernel⟩
theorem ws_M_takes : Cond.selects R_M y_M_takes y_M_takes ∈ lw_ok := List.mem_filter.mpr ⟨List.mem_append_left _ (by decide +kernel), by decide +kernel⟩
theorem ws_M_high : Cond.selects R_M y_M_high y_M_high ∈ lw_ok := List.mem_filter.mpr ⟨List.mem_append_left _ (by decide +kernel), by decide +kernel⟩
theorem ws_M_ready : Cond.selects R_M y_M_ready y_M_ready ∈ lw_ok := List.mem_filter.mpr ⟨List.mem_append_left _ (by decide +kernel), by decide +kernel⟩
theorem ws_M_chosen : Cond.selects R_M y_M_chosen y_M_chosen ∈ lw_ok := List.mem_filter.mpr ⟨List.mem_append_left _ (by decide +kernel), by decide +kernel⟩
theorem ws_M_goOn : Cond.selects R_M y_M_goOn y_M_goOn ∈ lw_ok := List.mem_filter.mpr ⟨List.mem_append_left _ (by decide +kernel), by decide +kernel⟩
theorem ws_M_make : Cond.selects R_M y_M_make y_M_make ∈ lw_ok := List.mem_filter.mpr ⟨List.mem_append_left _ (by decide +kernel), by decide +kernel⟩
theorem ws_M_goBroken : Cond.selects R_M y_M_goBroken y_M_goBroken ∈ lw_ok := List.mem_filter.mpr ⟨List.mem_append_left _ (by decide +kernel), by decide +kernel⟩
theorem ws_M_arrive : Cond.selects R_M y_M_arrive y_M_arrive ∈ lw_ok := List.mem_filter.mpr ⟨List.mem_append_left _ (by decide +kernel), by decide +kernel⟩
theorem ws_M_note : Cond.selects R_M y_M_note y_M_note ∈ lw_ok := List.mem_filter.mpr ⟨List.mem_append_left _ (by decide +kernel), by decide +kernel⟩
theorem ws_M_begin : Cond.selects R_M y_M_begin y_M_begin ∈ lw_ok := List.mem_filter.mpr ⟨List.mem_append_left _ (by decide +kernel), by decide +kernel⟩
theorem ws_M_collect : Cond.selects R_M y_M_collect y_M_collect ∈ lw_ok := List.mem_filter.mpr ⟨List.mem_append_left _ (by decide +kernel), by decide +kernel⟩
theorem ws_M_oneTick : Cond.selects R_M y_M_oneTick y_M_oneTick ∈ lw_ok := List.mem_filter.mpr ⟨List.mem_append_left _ (by decide +kernel), by decide +kernel⟩
theorem ws_M_hear : Cond.selects R_M y_M_hear y_M_hear ∈ lw_ok := List.mem_filter.mpr ⟨List.mem_append_left _ (by decide +kernel), by decide +kernel⟩
theorem ws_M_ticks : Cond.selects R_M y_M_ticks y_M_ticks ∈ lw_ok := List.mem_filter.mpr ⟨List.mem_append_left _ (by decide +kernel), by decide +kernel⟩
def nfL : List (String × Nat × String × String × String × String) := [(R_X, 73, R_U, "length", "I", "PacedMux"), (R_X, 59, R_S, "queue", "LPacedMux$UnitRow;", "PacedMux"), (R_X, 101, R_S, "store", "LPacedMux$UnitRow;", "PacedMux"), (R_X, 107, R_S, "low", "I", "PacedMux"), (R_X, 104, R_S, "high", "I", "PacedMux"), (R_X, 110, R_S, "lateUnits", "I", "PacedMux"), (R_X, 56, R_S, "newestDue", "I", "PacedMux"), (R_R, 63, R_C, "collecting", "Z", "PacedMux"), (R_X, 135, R_C, "latestSize", "I", "PacedMux"), (R_R, 80, R_C, "latestDue", "I", "PacedMux"), (R_X, 138, R_C, "latestDue", "I", "PacedMux"), (R_X, 141, R_C, "latestBytes", "[I", "PacedMux"), (R_X, 130, R_C, "arrivals", "I", "PacedMux"), (R_X, 126, R_R, "collectors", "[LPacedMux$Collector;", "PacedMux"), (R_X, 122, R_R, "tallies", "[I", "PacedMux"), (R_X, 113, R_R, "clockKnown", "Z", "PacedMux"), (R_X, 116, R_R, "clockTime", "I", "PacedMux")]
def nmL : List (String × Nat × MethodName × String) := [(R_P, 23, y_X_isPacketIndex, "PacedMux"), (R_R, 45, y_X_isStream, "PacedMux")]
theorem nf_103 : (R_X, 135, R_C, "latestSize", "I", "PacedMux") ∈ nfL := by decide +kernel
theorem nf_105 : (R_R, 80, R_C, "latestDue", "I", "PacedMux") ∈ nfL := by decide +kernel
theorem nf_106 : (R_X, 138, R_C, "latestDue", "I", "PacedMux") ∈ nfL := by decide +kernel
theorem nf_108 : (R_X, 141, R_C, "latestBytes", "[I", "PacedMux") ∈ nfL := by decide +kernel
theorem nf_110 : (R_X, 130, R_C, "arrivals", "I", "PacedMux") ∈ nfL := by decide +kernel
theorem nf_135 : (R_X, 126, R_R, "collectors", "[LPacedMux$Collector;", "PacedMux") ∈ nfL := by decide +kernel
theorem nf_137 : (R_X, 122, R_R, "tallies", "[I", "PacedMux") ∈ nfL := by decide +kernel
theorem nf_139 : (R_X, 113, R_R, "clockKnown", "Z", "PacedMux") ∈ nfL := by decide +kernel
theorem nf_141 : (R_X, 116, R_R, "clockTime", "I", "PacedMux") ∈ nfL := by decide +kernel
theorem nf_40 : (R_X, 73, R_U, "length", "I", "PacedMux") ∈ nfL := by decide +kernel
theorem nf_52 : (R_X, 59, R_S, "queue", "LPacedMux$UnitRow;", "PacedMux") ∈ nfL := by decide +kernel
theorem nf_54 : (R_X, 101, R_S, "store", "LPacedMux$UnitRow;", "PacedMux") ∈ nfL := by decide +kernel
theorem nf_57 : (R_X, 107, R_S, "low", "I", "PacedMux") ∈ nfL := by decide +kernel
theorem nf_59 : (R_X, 104, R_S, "high", "I", "PacedMux") ∈ nfL := by decide +kernel
theorem nf_62 : (R_X, 110, R_S, "lateUnits", "I", "PacedMux") ∈ nfL := by decide +kernel
theorem nf_63 : (R_X, 56, R_S, "newestDue", "I", "PacedMux") ∈ nfL := by decide +kernel
theorem nf_97 : (R_R, 63, R_C, "collecting", "Z", "PacedMux") ∈ nfL := by decide +kernel
theorem nn_308 : (R_P, 23, y_X_isPacketIndex, "PacedMux") ∈ nmL := by decide +kernel
theorem nn_321 : (R_R, 45, y_X_isStream, "PacedMux") ∈ nmL := by decide +kernel
end
section
theorem d_C_init_0 : decode b_C_init 0 = .ok (.aload_n 0, 1) := by decide +kernel
theorem d_C_init_1 : decode b_C_init 1 = .ok (.invokespecial 3, 3) := by decide +kernel
theorem d_C_init_4 : decode b_C_init 4 = .ok (.aload_n 0, 1) := by decide +kernel
theorem d_C_init_5 : decode b_C_init 5 = .ok (.bipush 60, 2) := by decide +kernel
theorem d_C_init_7 : decode b_C_init 7 = .ok (.newarray .int, 2) := by decide +kernel
theorem d_C_init_9 : decode b_C_init 9 = .ok (.putfield 9, 3) := by decide +kernel
theorem d_C_init_12 : decode b_C_init 12 = .ok (.aload_n 0, 1) := by decide +kernel
theorem d_C_init_13 : decode b_C_init 13 = .ok (.bipush 60, 2) := by decide +kernel
theorem d_C_init_15 : decode b_C_init 15 = .ok (.newarray .int, 2) := by decide +kernel
theorem d_C_init_17 : decode b_C_init 17 = .ok (.putfield 15, 3) := by decide +kernel
theorem d_C_init_20 : decode b_C_init 20 = .ok (.return_, 1) := by decide +kernel
theorem d_C_reset_0 : decode b_C_reset 0 = .ok (.aload_n 0, 1) := by decide +kernel
theorem d_C_reset_1 : decode b_C_reset 1 = .ok (.iconst 0, 1) := by decide +kernel
theorem d_C_reset_2 : decode b_C_reset 2 = .ok (.putfield 18, 3) := by decide +kernel
theorem d_C_reset_5 : decode b_C_reset 5 = .ok (.aload_n 0, 1) := by decide +kernel
theorem d_C_reset_6 : decode b_C_reset 6 = .ok (.iconst 0, 1) := by decide +kernel
theorem d_C_reset_7 : decode b_C_reset 7 = .ok (.putfield 22, 3) := by decide +kernel
theorem d_C_reset_10 : decode b_C_reset 10 = .ok (.aload_n 0, 1) := by decide +kernel
theorem d_C_reset_11 : decode b_C_reset 11 = .ok (.iconst 0, 1) := by decide +kernel
theorem d_C_reset_12 : decode b_C_reset 12 = .ok (.putfield 25, 3) := by decide +kernel
theorem d_C_reset_15 : decode b_C_reset 15 = .ok (.return_, 1) := by decide +kernel
theorem d_C_noteCounter_0 : decode b_C_noteCounter 0 = .ok (.aload_n 0, 1) := by decide +kernel
theorem d_C_noteCounter_1 : decode b_C_noteCounter 1 = .ok (.getfield 18, 3) := by decide +kernel
theorem d_C_noteCounter_4 : decode b_C_noteCounter 4 = .ok (.ifCond .eq 20, 3) := by decide +kernel
theorem d_C_noteCounter_7 : decode b_C_noteCounter 7 = .ok (.iload_n 1, 1) := by decide +kernel
theorem d_C_noteCounter_8 : decode b_C_noteCounter 8 = .ok (.aload_n 0, 1) := by decide +kernel
theorem d_C_noteCounter_9 : decode b_C_noteCounter 9 = .ok (.getfield 29, 3) := by decide +kernel
theorem d_C_noteCounter_12 : decode b_C_noteCounter 12 = .ok (.iconst 1, 1) := by decide +kernel
theorem d_C_noteCounter_13 : decode b_C_noteCounter 13 = .ok (.iadd, 1) := by decide +kernel
theorem d_C_noteCounter_14 : decode b_C_noteCounter 14 = .ok (.bipush 16, 2) := by decide +kernel
theorem d_C_noteCounter_16 : decode b_C_noteCounter 16 = .ok (.irem, 1) := by decide +kernel
theorem d_C_noteCounter_17 : decode b_C_noteCounter 17 = .ok (.if_icmp .eq 7, 3) := by decide +kernel
theorem d_C_noteCounter_20 : decode b_C_noteCounter 20 = .ok (.iconst 1, 1) := by decide +kernel
theorem d_C_noteCounter_21 : decode b_C_noteCounter 21 = .ok (.goto 4, 3) := by decide +kernel
theorem d_C_noteCounter_24 : decode b_C_noteCounter 24 = .ok (.iconst 0, 1) := by decide +kernel
theorem d_C_noteCounter_25 : decode b_C_noteCounter 25 = .ok (.istore_n 2, 1) := by decide +kernel
theorem d_C_noteCounter_26 : decode b_C_noteCounter 26 = .ok (.aload_n 0, 1) := by decide +kernel
theorem d_C_noteCounter_27 : decode b_C_noteCounter 27 = .ok (.iconst 1, 1) := by decide +kernel
theorem d_C_noteCounter_28 : decode b_C_noteCounter 28 = .ok (.putfield 18, 3) := by decide +kernel
theorem d_C_noteCounter_31 : decode b_C_noteCounter 31 = .ok (.aload_n 0, 1) := by decide +kernel
theorem d_C_noteCounter_32 : decode b_C_noteCounter 32 = .ok (.iload_n 1, 1) := by decide +kernel
theorem d_C_noteCounter_33 : decode b_C_noteCounter 33 = .ok (.putfield 29, 3) := by decide +kernel
theorem d_C_noteCounter_36 : decode b_C_noteCounter 36 = .ok (.iload_n 2, 1) := by decide +kernel
theorem d_C_noteCounter_37 : decode b_C_noteCounter 37 = .ok (.ireturn, 1) := by decide +kernel
theorem d_C_begin_0 : decode b_C_begin 0 = .ok (.aload_n 0, 1) := by decide +kernel
theorem d_C_begin_1 : decode b_C_begin 1 = .ok (.iconst 1, 1) := by decide +kernel
theorem d_C_begin_2 : decode b_C_begin 2 = .ok (.putfield 22, 3) := by decide +kernel
theorem d_C_begin_5 : decode b_C_begin 5 = .ok (.aload_n 0, 1) := by decide +kernel
theorem d_C_begin_6 : decode b_C_begin 6 = .ok (.iload_n 1, 1) := by decide +kernel
theorem d_C_begin_7 : decode b_C_begin 7 = .ok (.putfield 32, 3) := by decide +kernel
theorem d_C_begin_10 : decode b_C_begin 10 = .ok (.aload_n 0, 1) := by decide +kernel
theorem d_C_begin_11 : decode b_C_begin 11 = .ok (.iload_n 2, 1) := by decide +kernel
theorem d_C_begin_12 : decode b_C_begin 12 = .ok (.putfield 35, 3) := by decide +kernel
theorem d_C_begin_15 : decode b_C_begin 15 = .ok (.aload_n 0, 1) := by decide +kernel
theorem d_C_begin_16 : decode b_C_begin 16 = .ok (.iconst 0, 1) := by decide +kernel
theorem d_C_begin_17 : decode b_C_begin 17 = .ok (.putfield 38, 3) := by decide +kernel
theorem d_C_begin_20 : decode b_C_begin 20 = .ok (.return_, 1) := by decide +kernel
theorem d_C_fill_0 : decode b_C_fill 0 = .ok (.iload_n 2, 1) := by decide +kernel
theorem d_C_fill_1 : decode b_C_fill 1 = .ok (.istore_n 3, 1) := by decide +kernel
theorem d_C_fill_2 : decode b_C_fill 2 = .ok (.iload_n 3, 1) := by decide +kernel
theorem d_C_fill_3 : decode b_C_fill 3 = .ok (.bipush 16, 2) := by decide +kernel
theorem d_C_fill_5 : decode b_C_fill 5 = .ok (.if_icmp .ge 53, 3) := by decide +kernel
theorem d_C_fill_8 : decode b_C_fill 8 = .ok (.aload_n 0, 1) := by decide +kernel
theorem d_C_fill_9 : decode b_C_fill 9 = .ok (.getfield 38, 3) := by decide +kernel
theorem d_C_fill_12 : decode b_C_fill 12 = .ok (.aload_n 0, 1) := by decide +kernel
theorem d_C_fill_13 : decode b_C_fill 13 = .ok (.getfield 32, 3) := by decide +kernel
theorem d_C_fill_16 : decode b_C_fill 16 = .ok (.if_icmp .ge 42, 3) := by decide +kernel
theorem d_C_fill_19 : decode b_C_fill 19 = .ok (.aload_n 0, 1) := by decide +kernel
theorem d_C_fill_20 : decode b_C_fill 20 = .ok (.getfield 38, 3) := by decide +kernel
theorem d_C_fill_23 : decode b_C_fill 23 = .ok (.bipush 60, 2) := by decide +kernel
theorem d_C_fill_25 : decode b_C_fill 25 = .ok (.if_icmp .ge 33, 3) := by decide +kernel
theorem d_C_fill_28 : decode b_C_fill 28 = .ok (.aload_n 0, 1) := by decide +kernel
theorem d_C_fill_29 : decode b_C_fill 29 = .ok (.getfield 9, 3) := by decide +kernel
theorem d_C_fill_32 : decode b_C_fill 32 = .ok (.aload_n 0, 1) := by decide +kernel
theorem d_C_fill_33 : decode b_C_fill 33 = .ok (.getfield 38, 3) := by decide +kernel
theorem d_C_fill_36 : decode b_C_fill 36 = .ok (.aload_n 1, 1) := by decide +kernel
theorem d_C_fill_37 : decode b_C_fill 37 = .ok (.iload_n 3, 1) := by decide +kernel
theorem d_C_fill_38 : decode b_C_fill 38 = .ok (.invokevirtual 41, 3) := by decide +kernel
theorem d_C_fill_41 : decode b_C_fill 41 = .ok (.iastore, 1) := by decide +kernel
theorem d_C_fill_42 : decode b_C_fill 42 = .ok (.aload_n 0, 1) := by decide +kernel
theorem d_C_fill_43 : decode b_C_fill 43 = .ok (.dup, 1) := by decide +kernel
theorem d_C_fill_44 : decode b_C_fill 44 = .ok (.getfield 38, 3) := by decide +kernel
theorem d_C_fill_47 : decode b_C_fill 47 = .ok (.iconst 1, 1) := by decide +kernel
theorem d_C_fill_48 : decode b_C_fill 48 = .ok (.iadd, 1) := by decide +kernel
theorem d_C_fill_49 : decode b_C_fill 49 = .ok (.putfield 38, 3) := by decide +kernel
theorem d_C_fill_52 : decode b_C_fill 52 = .ok (.iinc 3 1, 3) := by decide +kernel
theorem d_C_fill_55 : decode b_C_fill 55 = .ok (.goto (-53), 3) := by decide +kernel
theorem d_C_fill_58 : decode b_C_fill 58 = .ok (.aload_n 0, 1) := by decide +kernel
theorem d_C_fill_59 : decode b_C_fill 59 = .ok (.getfield 38, 3) := by decide +kernel
theorem d_C_fill_62 : decode b_C_fill 62 = .ok (.aload_n 0, 1) := by decide +kernel
theorem d_C_fill_63 : decode b_C_fill 63 = .ok (.getfield 32, 3) := by decide +kernel
theorem d_C_fill_66 : decode b_C_fill 66 = .ok (.if_icmp .lt 7, 3) := by decide +kernel
theorem d_C_fill_69 : decode b_C_fill 69 = .ok (.iconst 1, 1) := by decide +kernel
theorem d_C_fill_70 : decode b_C_fill 70 = .ok (.goto 4, 3) := by decide +kernel
theorem d_C_fill_73 : decode b_C_fill 73 = .ok (.iconst 0, 1) := by decide +kernel
theorem d_C_fill_74 : decode b_C_fill 74 = .ok (.ireturn, 1) := by decide +kernel
theorem d_C_keepAsLatest_0 : decode b_C_keepAsLatest 0 = .ok (.aload_n 0, 1) := by decide +kernel
theorem d_C_keepAsLatest_1 : decode b_C_keepAsLatest 1 = .ok (.getfield 15, 3) := by decide +kernel
theorem d_C_keepAsLatest_4 : decode b_C_keepAsLatest 4 = .ok (.astore_n 1, 1) := by decide +kernel
theorem d_C_keepAsLatest_5 : decode b_C_keepAsLatest 5 = .ok (.aload_n 0, 1) := by decide +kernel
theorem d_C_keepAsLatest_6 : decode b_C_keepAsLatest 6 = .ok (.aload_n 0, 1) := by decide +kernel
theorem d_C_keepAsLatest_7 : decode b_C_keepAsLatest 7 = .ok (.getfield 9, 3) := by decide +kernel
theorem d_C_keepAsLatest_10 : decode b_C_keepAsLatest 10 = .ok (.putfield 15, 3) := by decide +kernel
theorem d_C_keepAsLatest_13 : decode b_C_keepAsLatest 13 = .ok (.aload_n 0, 1) := by decide +kernel
theorem d_C_keepAsLatest_14 : decode b_C_keepAsLatest 14 = .ok (.aload_n 1, 1) := by decide +kernel
theorem d_C_keepAsLatest_15 : decode b_C_keepAsLatest 15 = .ok (.putfield 9, 3) := by decide +kernel
theorem d_C_keepAsLatest_18 : decode b_C_keepAsLatest 18 = .ok (.aload_n 0, 1) := by decide +kernel
theorem d_C_keepAsLatest_19 : decode b_C_keepAsLatest 19 = .ok (.aload_n 0, 1) := by decide +kernel
theorem d_C_keepAsLatest_20 : decode b_C_keepAsLatest 20 = .ok (.getfield 32, 3) := by decide +kernel
theorem d_C_keepAsLatest_23 : decode b_C_keepAsLatest 23 = .ok (.putfield 47, 3) := by decide +kernel
theorem d_C_keepAsLatest_26 : decode b_C_keepAsLatest 26 = .ok (.aload_n 0, 1) := by decide +kernel
theorem d_C_keepAsLatest_27 : decode b_C_keepAsLatest 27 = .ok (.aload_n 0, 1) := by decide +kernel
theorem d_C_keepAsLatest_28 : decode b_C_keepAsLatest 28 = .ok (.getfield 35, 3) := by decide +kernel
theorem d_C_keepAsLatest_31 : decode b_C_keepAsLatest 31 = .ok (.putfield 50, 3) := by decide +kernel
theorem d_C_keepAsLatest_34 : decode b_C_keepAsLatest 34 = .ok (.aload_n 0, 1) := by decide +kernel
theorem d_C_keepAsLatest_35 : decode b_C_keepAsLatest 35 = .ok (.dup, 1) := by decide +kernel
theorem d_C_keepAsLatest_36 : decode b_C_keepAsLatest 36 = .ok (.getfield 25, 3) := by decide +kernel
theorem d_C_keepAsLatest_39 : decode b_C_keepAsLatest 39 = .ok (.iconst 1, 1) := by decide +kernel
theorem d_C_keepAsLatest_40 : decode b_C_keepAsLatest 40 = .ok (.iadd, 1) := by decide +kernel
theorem d_C_keepAsLatest_41 : decode b_C_keepAsLatest 41 = .ok (.putfield 25, 3) := by decide +kernel
theorem d_C_keepAsLatest_44 : decode b_C_keepAsLatest 44 = .ok (.aload_n 0, 1) := by decide +kernel
theorem d_C_keepAsLatest_45 : decode b_C_keepAsLatest 45 = .ok (.iconst 0, 1) := by decide +kernel
theorem d_C_keepAsLatest_46 : decode b_C_keepAsLatest 46 = .ok (.putfield 22, 3) := by decide +kernel
theorem d_C_keepAsLatest_49 : decode b_C_keepAsLatest 49 = .ok (.return_, 1) := by decide +kernel
theorem d_P_init_0 : decode b_P_init 0 = .ok (.aload_n 0, 1) := by decide +kernel
theorem d_P_init_1 : decode b_P_init 1 = .ok (.invokespecial 3, 3) := by decide +kernel
theorem d_P_init_4 : decode b_P_init 4 = .ok (.aload_n 0, 1) := by decide +kernel
theorem d_P_init_5 : decode b_P_init 5 = .ok (.bipush 16, 2) := by decide +kernel
theorem d_P_init_7 : decode b_P_init 7 = .ok (.newarray .int, 2) := by decide +kernel
theorem d_P_init_9 : decode b_P_init 9 = .ok (.putfield 9, 3) := by decide +kernel
theorem d_P_init_12 : decode b_P_init 12 = .ok (.return_, 1) := by decide +kernel
theorem d_P_clear_0 : decode b_P_clear 0 = .ok (.iconst 0, 1) := by decide +kernel
theorem d_P_clear_1 : decode b_P_clear 1 = .ok (.istore_n 1, 1) := by decide +kernel
theorem d_P_clear_2 : decode b_P_clear 2 = .ok (.iload_n 1, 1) := by decide +kernel
theorem d_P_clear_3 : decode b_P_clear 3 = .ok (.bipush 16, 2) := by decide +kernel
theorem d_P_clear_5 : decode b_P_clear 5 = .ok (.if_icmp .ge 18, 3) := by decide +kernel
theorem d_P_clear_8 : decode b_P_clear 8 = .ok (.aload_n 0, 1) := by decide +kernel
theorem d_P_clear_9 : decode b_P_clear 9 = .ok (.getfield 9, 3) := by decide +kernel
theorem d_P_clear_12 : decode b_P_clear 12 = .ok (.iload_n 1, 1) := by decide +kernel
theorem d_P_clear_13 : decode b_P_clear 13 = .ok (.sipush 255, 3) := by decide +kernel
theorem d_P_clear_16 : decode b_P_clear 16 = .ok (.iastore, 1) := by decide +kernel
theorem d_P_clear_17 : decode b_P_clear 17 = .ok (.iinc 1 1, 3) := by decide +kernel
theorem d_P_clear_20 : decode b_P_clear 20 = .ok (.goto (-18), 3) := by decide +kernel
theorem d_P_clear_23 : decode b_P_clear 23 = .ok (.aload_n 0, 1) := by decide +kernel
theorem d_P_clear_24 : decode b_P_clear 24 = .ok (.iconst 0, 1) := by decide +kernel
theorem d_P_clear_25 : decode b_P_clear 25 = .ok (.putfield 15, 3) := by decide +kernel
theorem d_P_clear_28 : decode b_P_clear 28 = .ok (.return_, 1) := by decide +kernel
theorem d_P_put_0 : decode b_P_put 0 = .ok (.aload_n 0, 1) := by decide +kernel
theorem d_P_put_1 : decode b_P_put 1 = .ok (.getfield 15, 3) := by decide +kernel
theorem d_P_put_4 : decode b_P_put 4 = .ok (.bipush 16, 2) := by decide +kernel
theorem d_P_put_6 : decode b_P_put 6 = .ok (.if_icmp .ge 27, 3) := by decide +kernel
theorem d_P_put_9 : decode b_P_put 9 = .ok (.aload_n 0, 1) := by decide +kernel
theorem d_P_put_10 : decode b_P_put 10 = .ok (.getfield 9, 3) := by decide +kernel
theorem d_P_put_13 : decode b_P_put 13 = .ok (.aload_n 0, 1) := by decide +kernel
theorem d_P_put_14 : decode b_P_put 14 = .ok (.getfield 15, 3) := by decide +kernel
theorem d_P_put_17 : decode b_P_put 17 = .ok (.iload_n 1, 1) := by decide +kernel
theorem d_P_put_18 : decode b_P_put 18 = .ok (.sipush 255, 3) := by decide +kernel
theorem d_P_put_21 : decode b_P_put 21 = .ok (.iand, 1) := by decide +kernel
theorem d_P_put_22 : decode b_P_put 22 = .ok (.iastore, 1) := by decide +kernel
theorem d_P_put_23 : decode b_P_put 23 = .ok (.aload_n 0, 1) := by decide +kernel
theorem d_P_put_24 : decode b_P_put 24 = .ok (.dup, 1) := by decide +kernel
theorem d_P_put_25 : decode b_P_put 25 = .ok (.getfield 15, 3) := by decide +kernel
theorem d_P_put_28 : decode b_P_put 28 = .ok (.iconst 1, 1) := by decide +kernel
theorem d_P_put_29 : decode b_P_put 29 = .ok (.iadd, 1) := by decide +kernel
theorem d_P_put_30 : decode b_P_put 30 = .ok (.putfield 15, 3) := by decide +kernel
theorem d_P_put_33 : decode b_P_put 33 = .ok (.return_, 1) := by decide +kernel
theorem d_P_putTime_0 : decode b_P_putTime 0 = .ok (.aload_n 0, 1) := by decide +kernel
theorem d_P_putTime_1 : decode b_P_putTime 1 = .ok (.iload_n 1, 1) := by decide +kernel
theorem d_P_putTime_2 : decode b_P_putTime 2 = .ok (.sipush 256, 3) := by decide +kernel
theorem d_P_putTime_5 : decode b_P_putTime 5 = .ok (.idiv, 1) := by decide +kernel
theorem d_P_putTime_6 : decode b_P_putTime 6 = .ok (.invokevirtual 19, 3) := by decide +kernel
theorem d_P_putTime_9 : decode b_P_putTime 9 = .ok (.aload_n 0, 1) := by decide +kernel
theorem d_P_putTime_10 : decode b_P_putTime 10 = .ok (.iload_n 1, 1) := by decide +kernel
theorem d_P_putTime_11 : decode b_P_putTime 11 = .ok (.invokevirtual 19, 3) := by decide +kernel
theorem d_P_putTime_14 : decode b_P_putTime 14 = .ok (.return_, 1) := by decide +kernel
theorem d_P_byteAt_0 : decode b_P_byteAt 0 = .ok (.iload_n 1, 1) := by decide +kernel
theorem d_P_byteAt_1 : decode b_P_byteAt 1 = .ok (.invokestatic 23, 3) := by decide +kernel
theorem d_P_byteAt_4 : decode b_P_byteAt 4 = .ok (.ifCond .eq 12, 3) := by decide +kernel
theorem d_P_byteAt_7 : decode b_P_byteAt 7 = .ok (.aload_n 0, 1) := by decide +kernel
theorem d_P_byteAt_8 : decode b_P_byteAt 8 = .ok (.getfield 9, 3) := by decide +kernel
theorem d_P_byteAt_11 : decode b_P_byteAt 11 = .ok (.iload_n 1, 1) := by decide +kernel
theorem d_P_byteAt_12 : decode b_P_byteAt 12 = .ok (.iaload, 1) := by decide +kernel
theorem d_P_byteAt_13 : decode b_P_byteAt 13 = .ok (.goto 6, 3) := by decide +kernel
theorem d_P_byteAt_16 : decode b_P_byteAt 16 = .ok (.sipush 255, 3) := by decide +kernel
theorem d_P_byteAt_19 : decode b_P_byteAt 19 = .ok (.ireturn, 1) := by decide +kernel
theorem d_P_timeAt_0 : decode b_P_timeAt 0 = .ok (.aload_n 0, 1) := by decide +kernel
theorem d_P_timeAt_1 : decode b_P_timeAt 1 = .ok (.iload_n 1, 1) := by decide +kernel
theorem d_P_timeAt_2 : decode b_P_timeAt 2 = .ok (.invokevirtual 27, 3) := by decide +kernel
theorem d_P_timeAt_5 : decode b_P_timeAt 5 = .ok (.sipush 256, 3) := by decide +kernel
theorem d_P_timeAt_8 : decode b_P_timeAt 8 = .ok (.imul, 1) := by decide +kernel
theorem d_P_timeAt_9 : decode b_P_timeAt 9 = .ok (.aload_n 0, 1) := by decide +kernel
theorem d_P_timeAt_10 : decode b_P_timeAt 10 = .ok (.iload_n 1, 1) := by decide +kernel
theorem d_P_timeAt_11 : decode b_P_timeAt 11 = .ok (.iconst 1, 1) := by decide +kernel
theorem d_P_timeAt_12 : decode b_P_timeAt 12 = .ok (.iadd, 1) := by decide +kernel
theorem d_P_timeAt_13 : decode b_P_timeAt 13 = .ok (.invokevirtual 27, 3) := by decide +kernel
theorem d_P_timeAt_16 : decode b_P_timeAt 16 = .ok (.iadd, 1) := by decide +kernel
theorem d_P_timeAt_17 : decode b_P_timeAt 17 = .ok (.ireturn, 1) := by decide +kernel
theorem d_P_copyFrom_0 : decode b_P_copyFrom 0 = .ok (.iconst 0, 1) := by decide +kernel
theorem d_P_copyFrom_1 : decode b_P_copyFrom 1 = .ok (.istore_n 2, 1) := by decide +kernel
theorem d_P_copyFrom_2 : decode b_P_copyFrom 2 = .ok (.iload_n 2, 1) := by decide +kernel
theorem d_P_copyFrom_3 : decode b_P_copyFrom 3 = .ok (.bipush 16, 2) := by decide +kernel
theorem d_P_copyFrom_5 : decode b_P_copyFrom 5 = .ok (.if_icmp .ge 21, 3) := by decide +kernel
theorem d_P_copyFrom_8 : decode b_P_copyFrom 8 = .ok (.aload_n 0, 1) := by decide +kernel
theorem d_P_copyFrom_9 : decode b_P_copyFrom 9 = .ok (.getfield 9, 3) := by decide +kernel
theorem d_P_copyFrom_12 : decode b_P_copyFrom 12 = .ok (.iload_n 2, 1) := by decide +kernel
theorem d_P_copyFrom_13 : decode b_P_copyFrom 13 = .ok (.aload_n 1, 1) := by decide +kernel
theorem d_P_copyFrom_14 : decode b_P_copyFrom 14 = .ok (.getfield 9, 3) := by decide +kernel
theorem d_P_copyFrom_17 : decode b_P_copyFrom 17 = .ok (.iload_n 2, 1) := by decide +kernel
theorem d_P_copyFrom_18 : decode b_P_copyFrom 18 = .ok (.iaload, 1) := by decide +kernel
theorem d_P_copyFrom_19 : decode b_P_copyFrom 19 = .ok (.iastore, 1) := by decide +kernel
theorem d_P_copyFrom_20 : decode b_P_copyFrom 20 = .ok (.iinc 2 1, 3) := by decide +kernel
theorem d_P_copyFrom_23 : decode b_P_copyFrom 23 = .ok (.goto (-21), 3) := by decide +kernel
theorem d_P_copyFrom_26 : decode b_P_copyFrom 26 = .ok (.return_, 1) := by decide +kernel
theorem d_P_flip_0 : decode b_P_flip 0 = .ok (.iload_n 1, 1) := by decide +kernel
theorem d_P_flip_1 : decode b_P_flip 1 = .ok (.invokestatic 23, 3) := by decide +kernel
theorem d_P_flip_4 : decode b_P_flip 4 = .ok (.ifCond .eq 13, 3) := by decide +kernel
theorem d_P_flip_7 : decode b_P_flip 7 = .ok (.aload_n 0, 1) := by decide +kernel
theorem d_P_flip_8 : decode b_P_flip 8 = .ok (.getfield 9, 3) := by decide +kernel
theorem d_P_flip_11 : decode b_P_flip 11 = .ok (.iload_n 1, 1) := by decide +kernel
theorem d_P_flip_12 : decode b_P_flip 12 = .ok (.dup2, 1) := by decide +kernel
theorem d_P_flip_13 : decode b_P_flip 13 = .ok (.iaload, 1) := by decide +kernel
theorem d_P_flip_14 : decode b_P_flip 14 = .ok (.iload_n 2, 1) := by decide +kernel
theorem d_P_flip_15 : decode b_P_flip 15 = .ok (.ixor, 1) := by decide +kernel
theorem d_P_flip_16 : decode b_P_flip 16 = .ok (.iastore, 1) := by decide +kernel
theorem d_P_flip_17 : decode b_P_flip 17 = .ok (.return_, 1) := by decide +kernel
theorem d_R_init_0 : decode b_R_init 0 = .ok (.aload_n 0, 1) := by decide +kernel
theorem d_R_init_1 : decode b_R_init 1 = .ok (.invokespecial 3, 3) := by decide +kernel
theorem d_R_init_4 : decode b_R_init 4 = .ok (.aload_n 0, 1) := by decide +kernel
theorem d_R_init_5 : decode b_R_init 5 = .ok (.iconst 3, 1) := by decide +kernel
theorem d_R_init_6 : decode b_R_init 6 = .ok (.anewarray 9, 3) := by decide +kernel
theorem d_R_init_9 : decode b_R_init 9 = .ok (.putfield 11, 3) := by decide +kernel
theorem d_R_init_12 : decode b_R_init 12 = .ok (.aload_n 0, 1) := by decide +kernel
theorem d_R_init_13 : decode b_R_init 13 = .ok (.bipush 6, 2) := by decide +kernel
theorem d_R_init_15 : decode b_R_init 15 = .ok (.newarray .int, 2) := by decide +kernel
theorem d_R_init_17 : decode b_R_init 17 = .ok (.putfield 17, 3) := by decide +kernel
theorem d_R_init_20 : decode b_R_init 20 = .ok (.iconst 0, 1) := by decide +kernel
theorem d_R_init_21 : decode b_R_init 21 = .ok (.istore_n 1, 1) := by decide +kernel
theorem d_R_init_22 : decode b_R_init 22 = .ok (.iload_n 1, 1) := by decide +kernel
theorem d_R_init_23 : decode b_R_init 23 = .ok (.iconst 3, 1) := by decide +kernel
theorem d_R_init_24 : decode b_R_init 24 = .ok (.if_icmp .ge 22, 3) := by decide +kernel
theorem d_R_init_27 : decode b_R_init 27 = .ok (.aload_n 0, 1) := by decide +kernel
theorem d_R_init_28 : decode b_R_init 28 = .ok (.getfield 11, 3) := by decide +kernel
theorem d_R_init_31 : decode b_R_init 31 = .ok (.iload_n 1, 1) := by decide +kernel
theorem d_R_init_32 : decode b_R_init 32 = .ok (.new 9, 3) := by decide +kernel
theorem d_R_init_35 : decode b_R_init 35 = .ok (.dup, 1) := by decide +kernel
theorem d_R_init_36 : decode b_R_init 36 = .ok (.invokespecial 21, 3) := by decide +kernel
theorem d_R_init_39 : decode b_R_init 39 = .ok (.aastore, 1) := by decide +kernel
theorem d_R_init_40 : decode b_R_init 40 = .ok (.iinc 1 1, 3) := by decide +kernel
theorem d_R_init_43 : decode b_R_init 43 = .ok (.goto (-21), 3) := by decide +kernel
theorem d_R_init_46 : decode b_R_init 46 = .ok (.return_, 1) := by decide +kernel
theorem d_R_reset_0 : decode b_R_reset 0 = .ok (.aload_n 0, 1) := by decide +kernel
theorem d_R_reset_1 : decode b_R_reset 1 = .ok (.iconst 0, 1) := by decide +kernel
theorem d_R_reset_2 : decode b_R_reset 2 = .ok (.putfield 22, 3) := by decide +kernel
theorem d_R_reset_5 : decode b_R_reset 5 = .ok (.aload_n 0, 1) := by decide +kernel
theorem d_R_reset_6 : decode b_R_reset 6 = .ok (.iconst 0, 1) := by decide +kernel
theorem d_R_reset_7 : decode b_R_reset 7 = .ok (.putfield 26, 3) := by decide +kernel
theorem d_R_reset_10 : decode b_R_reset 10 = .ok (.iconst 0, 1) := by decide +kernel
theorem d_R_reset_11 : decode b_R_reset 11 = .ok (.istore_n 1, 1) := by decide +kernel
theorem d_R_reset_12 : decode b_R_reset 12 = .ok (.iload_n 1, 1) := by decide +kernel
theorem d_R_reset_13 : decode b_R_reset 13 = .ok (.iconst 3, 1) := by decide +kernel
theorem d_R_reset_14 : decode b_R_reset 14 = .ok (.if_icmp .ge 18, 3) := by decide +kernel
theorem d_R_reset_17 : decode b_R_reset 17 = .ok (.aload_n 0, 1) := by decide +kernel
theorem d_R_reset_18 : decode b_R_reset 18 = .ok (.getfield 11, 3) := by decide +kernel
theorem d_R_reset_21 : decode b_R_reset 21 = .ok (.iload_n 1, 1) := by decide +kernel
theorem d_R_reset_22 : decode b_R_reset 22 = .ok (.aaload, 1) := by decide +kernel
theorem d_R_reset_23 : decode b_R_reset 23 = .ok (.invokevirtual 30, 3) := by decide +kernel
theorem d_R_reset_26 : decode b_R_reset 26 = .ok (.iinc 1 1, 3) := by decide +kernel
theorem d_R_reset_29 : decode b_R_reset 29 = .ok (.goto (-17), 3) := by decide +kernel
theorem d_R_reset_32 : decode b_R_reset 32 = .ok (.iconst 0, 1) := by decide +kernel
theorem d_R_reset_33 : decode b_R_reset 33 = .ok (.istore_n 1, 1) := by decide +kernel
theorem d_R_reset_34 : decode b_R_reset 34 = .ok (.iload_n 1, 1) := by decide +kernel
theorem d_R_reset_35 : decode b_R_reset 35 = .ok (.bipush 6, 2) := by decide +kernel
theorem d_R_reset_37 : decode b_R_reset 37 = .ok (.if_icmp .ge 16, 3) := by decide +kernel
theorem d_R_reset_40 : decode b_R_reset 40 = .ok (.aload_n 0, 1) := by decide +kernel
theorem d_R_reset_41 : decode b_R_reset 41 = .ok (.getfield 17, 3) := by decide +kernel
theorem d_R_reset_44 : decode b_R_reset 44 = .ok (.iload_n 1, 1) := by decide +kernel
theorem d_R_reset_45 : decode b_R_reset 45 = .ok (.iconst 0, 1) := by decide +kernel
theorem d_R_reset_46 : decode b_R_reset 46 = .ok (.iastore, 1) := by decide +kernel
theorem d_R_reset_47 : decode b_R_reset 47 = .ok (.iinc 1 1, 3) := by decide +kernel
theorem d_R_reset_50 : decode b_R_reset 50 = .ok (.goto (-16), 3) := by decide +kernel
theorem d_R_reset_53 : decode b_R_reset 53 = .ok (.return_, 1) := by decide +kernel
theorem d_R_take_0 : decode b_R_take 0 = .ok (.aload_n 1, 1) := by decide +kernel
theorem d_R_take_1 : decode b_R_take 1 = .ok (.iconst 0, 1) := by decide +kernel
theorem d_R_take_2 : decode b_R_take 2 = .ok (.invokevirtual 33, 3) := by decide +kernel
theorem d_R_take_5 : decode b_R_take 5 = .ok (.bipush 71, 2) := by decide +kernel
theorem d_R_take_7 : decode b_R_take 7 = .ok (.if_icmp .eq 18, 3) := by decide +kernel
theorem d_R_take_10 : decode b_R_take 10 = .ok (.aload_n 0, 1) := by decide +kernel
theorem d_R_take_11 : decode b_R_take 11 = .ok (.getfield 17, 3) := by decide +kernel
theorem d_R_take_14 : decode b_R_take 14 = .ok (.iconst 0, 1) := by decide +kernel
theorem d_R_take_15 : decode b_R_take 15 = .ok (.dup2, 1) := by decide +kernel
theorem d_R_take_16 : decode b_R_take 16 = .ok (.iaload, 1) := by decide +kernel
theorem d_R_take_17 : decode b_R_take 17 = .ok (.iconst 1, 1) := by decide +kernel
theorem d_R_take_18 : decode b_R_take 18 = .ok (.iadd, 1) := by decide +kernel
theorem d_R_take_19 : decode b_R_take 19 = .ok (.iastore, 1) := by decide +kernel
theorem d_R_take_20 : decode b_R_take 20 = .ok (.aload_n 0, 1) := by decide +kernel
theorem d_R_take_21 : decode b_R_take 21 = .ok (.invokevirtual 39, 3) := by decide +kernel
theorem d_R_take_24 : decode b_R_take 24 = .ok (.return_, 1) := by decide +kernel
theorem d_R_take_25 : decode b_R_take 25 = .ok (.aload_n 1, 1) := by decide +kernel
theorem d_R_take_26 : decode b_R_take 26 = .ok (.iconst 1, 1) := by decide +kernel
theorem d_R_take_27 : decode b_R_take 27 = .ok (.invokevirtual 33, 3) := by decide +kernel
theorem d_R_take_30 : decode b_R_take 30 = .ok (.istore_n 2, 1) := by decide +kernel
theorem d_R_take_31 : decode b_R_take 31 = .ok (.iconst 2, 1) := by decide +kernel
theorem d_R_take_32 : decode b_R_take 32 = .ok (.istore_n 3, 1) := by decide +kernel
theorem d_R_take_33 : decode b_R_take 33 = .ok (.iload_n 2, 1) := by decide +kernel
theorem d_R_take_34 : decode b_R_take 34 = .ok (.bipush 64, 2) := by decide +kernel
theorem d_R_take_36 : decode b_R_take 36 = .ok (.iand, 1) := by decide +kernel
theorem d_R_take_37 : decode b_R_take 37 = .ok (.ifCond .eq 23, 3) := by decide +kernel
theorem d_R_take_40 : decode b_R_take 40 = .ok (.aload_n 0, 1) := by decide +kernel
theorem d_R_take_41 : decode b_R_take 41 = .ok (.aload_n 1, 1) := by decide +kernel
theorem d_R_take_42 : decode b_R_take 42 = .ok (.iload_n 3, 1) := by decide +kernel
theorem d_R_take_43 : decode b_R_take 43 = .ok (.invokevirtual 42, 3) := by decide +kernel
theorem d_R_take_46 : decode b_R_take 46 = .ok (.putfield 26, 3) := by decide +kernel
theorem d_R_take_49 : decode b_R_take 49 = .ok (.aload_n 0, 1) := by decide +kernel
theorem d_R_take_50 : decode b_R_take 50 = .ok (.iconst 1, 1) := by decide +kernel
theorem d_R_take_51 : decode b_R_take 51 = .ok (.putfield 22, 3) := by decide +kernel
theorem d_R_take_54 : decode b_R_take 54 = .ok (.iinc 3 2, 3) := by decide +kernel
theorem d_R_take_57 : decode b_R_take 57 = .ok (.goto 7, 3) := by decide +kernel
theorem d_R_take_60 : decode b_R_take 60 = .ok (.aload_n 0, 1) := by decide +kernel
theorem d_R_take_61 : decode b_R_take 61 = .ok (.invokevirtual 39, 3) := by decide +kernel
theorem d_R_take_64 : decode b_R_take 64 = .ok (.iload_n 2, 1) := by decide +kernel
theorem d_R_take_65 : decode b_R_take 65 = .ok (.bipush 16, 2) := by decide +kernel
theorem d_R_take_67 : decode b_R_take 67 = .ok (.idiv, 1) := by decide +kernel
theorem d_R_take_68 : decode b_R_take 68 = .ok (.iconst 4, 1) := by decide +kernel
theorem d_R_take_69 : decode b_R_take 69 = .ok (.irem, 1) := by decide +kernel
theorem d_R_take_70 : decode b_R_take 70 = .ok (.istore 4, 2) := by decide +kernel
theorem d_R_take_72 : decode b_R_take 72 = .ok (.iload 4, 2) := by decide +kernel
theorem d_R_take_74 : decode b_R_take 74 = .ok (.invokestatic 45, 3) := by decide +kernel
theorem d_R_take_77 : decode b_R_take 77 = .ok (.ifCond .eq 16, 3) := by decide +kernel
theorem d_R_take_80 : decode b_R_take 80 = .ok (.aload_n 0, 1) := by decide +kernel
theorem d_R_take_81 : decode b_R_take 81 = .ok (.aload_n 0, 1) := by decide +kernel
theorem d_R_take_82 : decode b_R_take 82 = .ok (.getfield 11, 3) := by decide +kernel
theorem d_R_take_85 : decode b_R_take 85 = .ok (.iload 4, 2) := by decide +kernel
theorem d_R_take_87 : decode b_R_take 87 = .ok (.aaload, 1) := by decide +kernel
theorem d_R_take_88 : decode b_R_take 88 = .ok (.aload_n 1, 1) := by decide +kernel
theorem d_R_take_89 : decode b_R_take 89 = .ok (.iload_n 3, 1) := by decide +kernel
theorem d_R_take_90 : decode b_R_take 90 = .ok (.invokevirtual 49, 3) := by decide +kernel
theorem d_R_take_93 : decode b_R_take 93 = .ok (.return_, 1) := by decide +kernel
theorem d_R_takeOfStream_0 : decode b_R_takeOfStream 0 = .ok (.aload_n 2, 1) := by decide +kernel
theorem d_R_takeOfStream_1 : decode b_R_takeOfStream 1 = .ok (.iconst 1, 1) := by decide +kernel
theorem d_R_takeOfStream_2 : decode b_R_takeOfStream 2 = .ok (.invokevirtual 33, 3) := by decide +kernel
theorem d_R_takeOfStream_5 : decode b_R_takeOfStream 5 = .ok (.istore 4, 2) := by decide +kernel
theorem d_R_takeOfStream_7 : decode b_R_takeOfStream 7 = .ok (.aload_n 1, 1) := by decide +kernel
theorem d_R_takeOfStream_8 : decode b_R_takeOfStream 8 = .ok (.iload 4, 2) := by decide +kernel
theorem d_R_takeOfStream_10 : decode b_R_takeOfStream 10 = .ok (.bipush 16, 2) := by decide +kernel
theorem d_R_takeOfStream_12 : decode b_R_takeOfStream 12 = .ok (.irem, 1) := by decide +kernel
theorem d_R_takeOfStream_13 : decode b_R_takeOfStream 13 = .ok (.invokevirtual 53, 3) := by decide +kernel
theorem d_R_takeOfStream_16 : decode b_R_takeOfStream 16 = .ok (.ifCond .eq 18, 3) := by decide +kernel
theorem d_R_takeOfStream_19 : decode b_R_takeOfStream 19 = .ok (.aload_n 0, 1) := by decide +kernel
theorem d_R_takeOfStream_20 : decode b_R_takeOfStream 20 = .ok (.getfield 17, 3) := by decide +kernel
theorem d_R_takeOfStream_23 : decode b_R_takeOfStream 23 = .ok (.iconst 1, 1) := by decide +kernel
theorem d_R_takeOfStream_24 : decode b_R_takeOfStream 24 = .ok (.dup2, 1) := by decide +kernel
theorem d_R_takeOfStream_25 : decode b_R_takeOfStream 25 = .ok (.iaload, 1) := by decide +kernel
theorem d_R_takeOfStream_26 : decode b_R_takeOfStream 26 = .ok (.iconst 1, 1) := by decide +kernel
theorem d_R_takeOfStream_27 : decode b_R_takeOfStream 27 = .ok (.iadd, 1) := by decide +kernel
theorem d_R_takeOfStream_28 : decode b_R_takeOfStream 28 = .ok (.iastore, 1) := by decide +kernel
theorem d_R_takeOfStream_29 : decode b_R_takeOfStream 29 = .ok (.aload_n 0, 1) := by decide +kernel
theorem d_R_takeOfStream_30 : decode b_R_takeOfStream 30 = .ok (.aload_n 1, 1) := by decide +kernel
theorem d_R_takeOfStream_31 : decode b_R_takeOfStream 31 = .ok (.invokevirtual 56, 3) := by decide +kernel
theorem d_R_takeOfStream_34 : decode b_R_takeOfStream 34 = .ok (.iload_n 3, 1) := by decide +kernel
theorem d_R_takeOfStream_35 : decode b_R_takeOfStream 35 = .ok (.istore 5, 2) := by decide +kernel
theorem d_R_takeOfStream_37 : decode b_R_takeOfStream 37 = .ok (.iload 4, 2) := by decide +kernel
theorem d_R_takeOfStream_39 : decode b_R_takeOfStream 39 = .ok (.sipush 128, 3) := by decide +kernel
theorem d_R_takeOfStream_42 : decode b_R_takeOfStream 42 = .ok (.iand, 1) := by decide +kernel
theorem d_R_takeOfStream_43 : decode b_R_takeOfStream 43 = .ok (.ifCond .eq 18, 3) := by decide +kernel
theorem d_R_takeOfStream_46 : decode b_R_takeOfStream 46 = .ok (.aload_n 0, 1) := by decide +kernel
theorem d_R_takeOfStream_47 : decode b_R_takeOfStream 47 = .ok (.aload_n 1, 1) := by decide +kernel
theorem d_R_takeOfStream_48 : decode b_R_takeOfStream 48 = .ok (.invokevirtual 56, 3) := by decide +kernel
theorem d_R_takeOfStream_51 : decode b_R_takeOfStream 51 = .ok (.aload_n 0, 1) := by decide +kernel
theorem d_R_takeOfStream_52 : decode b_R_takeOfStream 52 = .ok (.aload_n 1, 1) := by decide +kernel
theorem d_R_takeOfStream_53 : decode b_R_takeOfStream 53 = .ok (.aload_n 2, 1) := by decide +kernel
theorem d_R_takeOfStream_54 : decode b_R_takeOfStream 54 = .ok (.iload_n 3, 1) := by decide +kernel
theorem d_R_takeOfStream_55 : decode b_R_takeOfStream 55 = .ok (.invokevirtual 60, 3) := by decide +kernel
theorem d_R_takeOfStream_58 : decode b_R_takeOfStream 58 = .ok (.iinc 5 3, 3) := by decide +kernel
theorem d_R_takeOfStream_61 : decode b_R_takeOfStream 61 = .ok (.aload_n 1, 1) := by decide +kernel
theorem d_R_takeOfStream_62 : decode b_R_takeOfStream 62 = .ok (.getfield 63, 3) := by decide +kernel
theorem d_R_takeOfStream_65 : decode b_R_takeOfStream 65 = .ok (.ifCond .eq 18, 3) := by decide +kernel
theorem d_R_takeOfStream_68 : decode b_R_takeOfStream 68 = .ok (.aload_n 1, 1) := by decide +kernel
theorem d_R_takeOfStream_69 : decode b_R_takeOfStream 69 = .ok (.aload_n 2, 1) := by decide +kernel
theorem d_R_takeOfStream_70 : decode b_R_takeOfStream 70 = .ok (.iload 5, 2) := by decide +kernel
theorem d_R_takeOfStream_72 : decode b_R_takeOfStream 72 = .ok (.invokevirtual 66, 3) := by decide +kernel
theorem d_R_takeOfStream_75 : decode b_R_takeOfStream 75 = .ok (.ifCond .eq 8, 3) := by decide +kernel
theorem d_R_takeOfStream_78 : decode b_R_takeOfStream 78 = .ok (.aload_n 0, 1) := by decide +kernel
theorem d_R_takeOfStream_79 : decode b_R_takeOfStream 79 = .ok (.aload_n 1, 1) := by decide +kernel
theorem d_R_takeOfStream_80 : decode b_R_takeOfStream 80 = .ok (.invokevirtual 70, 3) := by decide +kernel
theorem d_R_takeOfStream_83 : decode b_R_takeOfStream 83 = .ok (.return_, 1) := by decide +kernel
theorem d_R_beginUnit_0 : decode b_R_beginUnit 0 = .ok (.aload_n 2, 1) := by decide +kernel
theorem d_R_beginUnit_1 : decode b_R_beginUnit 1 = .ok (.iload_n 3, 1) := by decide +kernel
theorem d_R_beginUnit_2 : decode b_R_beginUnit 2 = .ok (.invokevirtual 33, 3) := by decide +kernel
theorem d_R_beginUnit_5 : decode b_R_beginUnit 5 = .ok (.istore 4, 2) := by decide +kernel
theorem d_R_beginUnit_7 : decode b_R_beginUnit 7 = .ok (.iload 4, 2) := by decide +kernel
theorem d_R_beginUnit_9 : decode b_R_beginUnit 9 = .ok (.iconst 1, 1) := by decide +kernel
theorem d_R_beginUnit_10 : decode b_R_beginUnit 10 = .ok (.if_icmp .lt 10, 3) := by decide +kernel
theorem d_R_beginUnit_13 : decode b_R_beginUnit 13 = .ok (.iload 4, 2) := by decide +kernel
theorem d_R_beginUnit_15 : decode b_R_beginUnit 15 = .ok (.bipush 60, 2) := by decide +kernel
theorem d_R_beginUnit_17 : decode b_R_beginUnit 17 = .ok (.if_icmp .le 16, 3) := by decide +kernel
theorem d_R_beginUnit_20 : decode b_R_beginUnit 20 = .ok (.aload_n 0, 1) := by decide +kernel
theorem d_R_beginUnit_21 : decode b_R_beginUnit 21 = .ok (.getfield 17, 3) := by decide +kernel
theorem d_R_beginUnit_24 : decode b_R_beginUnit 24 = .ok (.iconst 3, 1) := by decide +kernel
theorem d_R_beginUnit_25 : decode b_R_beginUnit 25 = .ok (.dup2, 1) := by decide +kernel
theorem d_R_beginUnit_26 : decode b_R_beginUnit 26 = .ok (.iaload, 1) := by decide +kernel
end
section
theorem d_R_beginUnit_27 : decode b_R_beginUnit 27 = .ok (.iconst 1, 1) := by decide +kernel
theorem d_R_beginUnit_28 : decode b_R_beginUnit 28 = .ok (.iadd, 1) := by decide +kernel
theorem d_R_beginUnit_29 : decode b_R_beginUnit 29 = .ok (.iastore, 1) := by decide +kernel
theorem d_R_beginUnit_30 : decode b_R_beginUnit 30 = .ok (.goto 16, 3) := by decide +kernel
theorem d_R_beginUnit_33 : decode b_R_beginUnit 33 = .ok (.aload_n 1, 1) := by decide +kernel
theorem d_R_beginUnit_34 : decode b_R_beginUnit 34 = .ok (.iload 4, 2) := by decide +kernel
theorem d_R_beginUnit_36 : decode b_R_beginUnit 36 = .ok (.aload_n 2, 1) := by decide +kernel
theorem d_R_beginUnit_37 : decode b_R_beginUnit 37 = .ok (.iload_n 3, 1) := by decide +kernel
theorem d_R_beginUnit_38 : decode b_R_beginUnit 38 = .ok (.iconst 1, 1) := by decide +kernel
theorem d_R_beginUnit_39 : decode b_R_beginUnit 39 = .ok (.iadd, 1) := by decide +kernel
theorem d_R_beginUnit_40 : decode b_R_beginUnit 40 = .ok (.invokevirtual 42, 3) := by decide +kernel
theorem d_R_beginUnit_43 : decode b_R_beginUnit 43 = .ok (.invokevirtual 73, 3) := by decide +kernel
theorem d_R_beginUnit_46 : decode b_R_beginUnit 46 = .ok (.return_, 1) := by decide +kernel
theorem d_R_breakUnit_0 : decode b_R_breakUnit 0 = .ok (.aload_n 1, 1) := by decide +kernel
theorem d_R_breakUnit_1 : decode b_R_breakUnit 1 = .ok (.getfield 63, 3) := by decide +kernel
theorem d_R_breakUnit_4 : decode b_R_breakUnit 4 = .ok (.ifCond .eq 18, 3) := by decide +kernel
theorem d_R_breakUnit_7 : decode b_R_breakUnit 7 = .ok (.aload_n 1, 1) := by decide +kernel
theorem d_R_breakUnit_8 : decode b_R_breakUnit 8 = .ok (.iconst 0, 1) := by decide +kernel
theorem d_R_breakUnit_9 : decode b_R_breakUnit 9 = .ok (.putfield 63, 3) := by decide +kernel
theorem d_R_breakUnit_12 : decode b_R_breakUnit 12 = .ok (.aload_n 0, 1) := by decide +kernel
theorem d_R_breakUnit_13 : decode b_R_breakUnit 13 = .ok (.getfield 17, 3) := by decide +kernel
theorem d_R_breakUnit_16 : decode b_R_breakUnit 16 = .ok (.iconst 2, 1) := by decide +kernel
theorem d_R_breakUnit_17 : decode b_R_breakUnit 17 = .ok (.dup2, 1) := by decide +kernel
theorem d_R_breakUnit_18 : decode b_R_breakUnit 18 = .ok (.iaload, 1) := by decide +kernel
theorem d_R_breakUnit_19 : decode b_R_breakUnit 19 = .ok (.iconst 1, 1) := by decide +kernel
theorem d_R_breakUnit_20 : decode b_R_breakUnit 20 = .ok (.iadd, 1) := by decide +kernel
theorem d_R_breakUnit_21 : decode b_R_breakUnit 21 = .ok (.iastore, 1) := by decide +kernel
theorem d_R_breakUnit_22 : decode b_R_breakUnit 22 = .ok (.return_, 1) := by decide +kernel
theorem d_R_finishUnit_0 : decode b_R_finishUnit 0 = .ok (.aload_n 1, 1) := by decide +kernel
theorem d_R_finishUnit_1 : decode b_R_finishUnit 1 = .ok (.invokevirtual 77, 3) := by decide +kernel
theorem d_R_finishUnit_4 : decode b_R_finishUnit 4 = .ok (.aload_n 0, 1) := by decide +kernel
theorem d_R_finishUnit_5 : decode b_R_finishUnit 5 = .ok (.getfield 17, 3) := by decide +kernel
theorem d_R_finishUnit_8 : decode b_R_finishUnit 8 = .ok (.iconst 4, 1) := by decide +kernel
theorem d_R_finishUnit_9 : decode b_R_finishUnit 9 = .ok (.dup2, 1) := by decide +kernel
theorem d_R_finishUnit_10 : decode b_R_finishUnit 10 = .ok (.iaload, 1) := by decide +kernel
theorem d_R_finishUnit_11 : decode b_R_finishUnit 11 = .ok (.iconst 1, 1) := by decide +kernel
theorem d_R_finishUnit_12 : decode b_R_finishUnit 12 = .ok (.iadd, 1) := by decide +kernel
theorem d_R_finishUnit_13 : decode b_R_finishUnit 13 = .ok (.iastore, 1) := by decide +kernel
theorem d_R_finishUnit_14 : decode b_R_finishUnit 14 = .ok (.aload_n 1, 1) := by decide +kernel
theorem d_R_finishUnit_15 : decode b_R_finishUnit 15 = .ok (.getfield 80, 3) := by decide +kernel
theorem d_R_finishUnit_18 : decode b_R_finishUnit 18 = .ok (.aload_n 0, 1) := by decide +kernel
theorem d_R_finishUnit_19 : decode b_R_finishUnit 19 = .ok (.getfield 26, 3) := by decide +kernel
theorem d_R_finishUnit_22 : decode b_R_finishUnit 22 = .ok (.isub, 1) := by decide +kernel
theorem d_R_finishUnit_23 : decode b_R_finishUnit 23 = .ok (.ldc 83, 2) := by decide +kernel
theorem d_R_finishUnit_25 : decode b_R_finishUnit 25 = .ok (.invokestatic 84, 3) := by decide +kernel
theorem d_R_finishUnit_28 : decode b_R_finishUnit 28 = .ok (.istore_n 2, 1) := by decide +kernel
theorem d_R_finishUnit_29 : decode b_R_finishUnit 29 = .ok (.aload_n 0, 1) := by decide +kernel
theorem d_R_finishUnit_30 : decode b_R_finishUnit 30 = .ok (.getfield 22, 3) := by decide +kernel
theorem d_R_finishUnit_33 : decode b_R_finishUnit 33 = .ok (.ifCond .eq 25, 3) := by decide +kernel
theorem d_R_finishUnit_36 : decode b_R_finishUnit 36 = .ok (.iload_n 2, 1) := by decide +kernel
theorem d_R_finishUnit_37 : decode b_R_finishUnit 37 = .ok (.iconst 1, 1) := by decide +kernel
theorem d_R_finishUnit_38 : decode b_R_finishUnit 38 = .ok (.if_icmp .lt 20, 3) := by decide +kernel
theorem d_R_finishUnit_41 : decode b_R_finishUnit 41 = .ok (.iload_n 2, 1) := by decide +kernel
theorem d_R_finishUnit_42 : decode b_R_finishUnit 42 = .ok (.sipush 32767, 3) := by decide +kernel
theorem d_R_finishUnit_45 : decode b_R_finishUnit 45 = .ok (.if_icmp .gt 13, 3) := by decide +kernel
theorem d_R_finishUnit_48 : decode b_R_finishUnit 48 = .ok (.aload_n 0, 1) := by decide +kernel
theorem d_R_finishUnit_49 : decode b_R_finishUnit 49 = .ok (.getfield 17, 3) := by decide +kernel
theorem d_R_finishUnit_52 : decode b_R_finishUnit 52 = .ok (.iconst 5, 1) := by decide +kernel
theorem d_R_finishUnit_53 : decode b_R_finishUnit 53 = .ok (.dup2, 1) := by decide +kernel
theorem d_R_finishUnit_54 : decode b_R_finishUnit 54 = .ok (.iaload, 1) := by decide +kernel
theorem d_R_finishUnit_55 : decode b_R_finishUnit 55 = .ok (.iconst 1, 1) := by decide +kernel
theorem d_R_finishUnit_56 : decode b_R_finishUnit 56 = .ok (.iadd, 1) := by decide +kernel
theorem d_R_finishUnit_57 : decode b_R_finishUnit 57 = .ok (.iastore, 1) := by decide +kernel
theorem d_R_finishUnit_58 : decode b_R_finishUnit 58 = .ok (.return_, 1) := by decide +kernel
theorem d_R_advanceClock_0 : decode b_R_advanceClock 0 = .ok (.aload_n 0, 1) := by decide +kernel
theorem d_R_advanceClock_1 : decode b_R_advanceClock 1 = .ok (.getfield 22, 3) := by decide +kernel
theorem d_R_advanceClock_4 : decode b_R_advanceClock 4 = .ok (.ifCond .eq 16, 3) := by decide +kernel
theorem d_R_advanceClock_7 : decode b_R_advanceClock 7 = .ok (.aload_n 0, 1) := by decide +kernel
theorem d_R_advanceClock_8 : decode b_R_advanceClock 8 = .ok (.aload_n 0, 1) := by decide +kernel
theorem d_R_advanceClock_9 : decode b_R_advanceClock 9 = .ok (.getfield 26, 3) := by decide +kernel
theorem d_R_advanceClock_12 : decode b_R_advanceClock 12 = .ok (.iconst 1, 1) := by decide +kernel
theorem d_R_advanceClock_13 : decode b_R_advanceClock 13 = .ok (.iadd, 1) := by decide +kernel
theorem d_R_advanceClock_14 : decode b_R_advanceClock 14 = .ok (.ldc 83, 2) := by decide +kernel
theorem d_R_advanceClock_16 : decode b_R_advanceClock 16 = .ok (.irem, 1) := by decide +kernel
theorem d_R_advanceClock_17 : decode b_R_advanceClock 17 = .ok (.putfield 26, 3) := by decide +kernel
theorem d_R_advanceClock_20 : decode b_R_advanceClock 20 = .ok (.return_, 1) := by decide +kernel
theorem d_S_init_0 : decode b_S_init 0 = .ok (.aload_n 0, 1) := by decide +kernel
theorem d_S_init_1 : decode b_S_init 1 = .ok (.invokespecial 3, 3) := by decide +kernel
theorem d_S_init_4 : decode b_S_init 4 = .ok (.aload_n 0, 1) := by decide +kernel
theorem d_S_init_5 : decode b_S_init 5 = .ok (.new 9, 3) := by decide +kernel
theorem d_S_init_8 : decode b_S_init 8 = .ok (.dup, 1) := by decide +kernel
theorem d_S_init_9 : decode b_S_init 9 = .ok (.invokespecial 11, 3) := by decide +kernel
theorem d_S_init_12 : decode b_S_init 12 = .ok (.putfield 12, 3) := by decide +kernel
theorem d_S_init_15 : decode b_S_init 15 = .ok (.aload_n 0, 1) := by decide +kernel
theorem d_S_init_16 : decode b_S_init 16 = .ok (.new 9, 3) := by decide +kernel
theorem d_S_init_19 : decode b_S_init 19 = .ok (.dup, 1) := by decide +kernel
theorem d_S_init_20 : decode b_S_init 20 = .ok (.invokespecial 11, 3) := by decide +kernel
theorem d_S_init_23 : decode b_S_init 23 = .ok (.putfield 18, 3) := by decide +kernel
theorem d_S_init_26 : decode b_S_init 26 = .ok (.return_, 1) := by decide +kernel
theorem d_S_beginTick_0 : decode b_S_beginTick 0 = .ok (.aload_n 0, 1) := by decide +kernel
theorem d_S_beginTick_1 : decode b_S_beginTick 1 = .ok (.iconst 0, 1) := by decide +kernel
theorem d_S_beginTick_2 : decode b_S_beginTick 2 = .ok (.aload_n 0, 1) := by decide +kernel
theorem d_S_beginTick_3 : decode b_S_beginTick 3 = .ok (.getfield 21, 3) := by decide +kernel
theorem d_S_beginTick_6 : decode b_S_beginTick 6 = .ok (.iload_n 2, 1) := by decide +kernel
theorem d_S_beginTick_7 : decode b_S_beginTick 7 = .ok (.isub, 1) := by decide +kernel
theorem d_S_beginTick_8 : decode b_S_beginTick 8 = .ok (.invokestatic 25, 3) := by decide +kernel
theorem d_S_beginTick_11 : decode b_S_beginTick 11 = .ok (.putfield 21, 3) := by decide +kernel
theorem d_S_beginTick_14 : decode b_S_beginTick 14 = .ok (.aload_n 0, 1) := by decide +kernel
theorem d_S_beginTick_15 : decode b_S_beginTick 15 = .ok (.getfield 18, 3) := by decide +kernel
theorem d_S_beginTick_18 : decode b_S_beginTick 18 = .ok (.iload_n 1, 1) := by decide +kernel
theorem d_S_beginTick_19 : decode b_S_beginTick 19 = .ok (.invokevirtual 31, 3) := by decide +kernel
theorem d_S_beginTick_22 : decode b_S_beginTick 22 = .ok (.ifCond .eq 26, 3) := by decide +kernel
theorem d_S_beginTick_25 : decode b_S_beginTick 25 = .ok (.aload_n 0, 1) := by decide +kernel
theorem d_S_beginTick_26 : decode b_S_beginTick 26 = .ok (.dup, 1) := by decide +kernel
theorem d_S_beginTick_27 : decode b_S_beginTick 27 = .ok (.getfield 35, 3) := by decide +kernel
theorem d_S_beginTick_30 : decode b_S_beginTick 30 = .ok (.aload_n 0, 1) := by decide +kernel
theorem d_S_beginTick_31 : decode b_S_beginTick 31 = .ok (.getfield 18, 3) := by decide +kernel
theorem d_S_beginTick_34 : decode b_S_beginTick 34 = .ok (.invokevirtual 38, 3) := by decide +kernel
theorem d_S_beginTick_37 : decode b_S_beginTick 37 = .ok (.isub, 1) := by decide +kernel
theorem d_S_beginTick_38 : decode b_S_beginTick 38 = .ok (.putfield 35, 3) := by decide +kernel
theorem d_S_beginTick_41 : decode b_S_beginTick 41 = .ok (.aload_n 0, 1) := by decide +kernel
theorem d_S_beginTick_42 : decode b_S_beginTick 42 = .ok (.getfield 18, 3) := by decide +kernel
theorem d_S_beginTick_45 : decode b_S_beginTick 45 = .ok (.invokevirtual 42, 3) := by decide +kernel
theorem d_S_beginTick_48 : decode b_S_beginTick 48 = .ok (.aload_n 0, 1) := by decide +kernel
theorem d_S_beginTick_49 : decode b_S_beginTick 49 = .ok (.getfield 12, 3) := by decide +kernel
theorem d_S_beginTick_52 : decode b_S_beginTick 52 = .ok (.iload_n 1, 1) := by decide +kernel
theorem d_S_beginTick_53 : decode b_S_beginTick 53 = .ok (.invokevirtual 31, 3) := by decide +kernel
theorem d_S_beginTick_56 : decode b_S_beginTick 56 = .ok (.ifCond .eq 30, 3) := by decide +kernel
theorem d_S_beginTick_59 : decode b_S_beginTick 59 = .ok (.aload_n 0, 1) := by decide +kernel
theorem d_S_beginTick_60 : decode b_S_beginTick 60 = .ok (.dup, 1) := by decide +kernel
theorem d_S_beginTick_61 : decode b_S_beginTick 61 = .ok (.getfield 35, 3) := by decide +kernel
theorem d_S_beginTick_64 : decode b_S_beginTick 64 = .ok (.aload_n 0, 1) := by decide +kernel
theorem d_S_beginTick_65 : decode b_S_beginTick 65 = .ok (.getfield 45, 3) := by decide +kernel
theorem d_S_beginTick_68 : decode b_S_beginTick 68 = .ok (.isub, 1) := by decide +kernel
theorem d_S_beginTick_69 : decode b_S_beginTick 69 = .ok (.putfield 35, 3) := by decide +kernel
theorem d_S_beginTick_72 : decode b_S_beginTick 72 = .ok (.aload_n 0, 1) := by decide +kernel
theorem d_S_beginTick_73 : decode b_S_beginTick 73 = .ok (.dup, 1) := by decide +kernel
theorem d_S_beginTick_74 : decode b_S_beginTick 74 = .ok (.getfield 48, 3) := by decide +kernel
theorem d_S_beginTick_77 : decode b_S_beginTick 77 = .ok (.iconst 1, 1) := by decide +kernel
theorem d_S_beginTick_78 : decode b_S_beginTick 78 = .ok (.iadd, 1) := by decide +kernel
theorem d_S_beginTick_79 : decode b_S_beginTick 79 = .ok (.putfield 48, 3) := by decide +kernel
theorem d_S_beginTick_82 : decode b_S_beginTick 82 = .ok (.aload_n 0, 1) := by decide +kernel
theorem d_S_beginTick_83 : decode b_S_beginTick 83 = .ok (.invokevirtual 51, 3) := by decide +kernel
theorem d_S_beginTick_86 : decode b_S_beginTick 86 = .ok (.return_, 1) := by decide +kernel
theorem d_S_isAtStart_0 : decode b_S_isAtStart 0 = .ok (.aload_n 0, 1) := by decide +kernel
theorem d_S_isAtStart_1 : decode b_S_isAtStart 1 = .ok (.getfield 45, 3) := by decide +kernel
theorem d_S_isAtStart_4 : decode b_S_isAtStart 4 = .ok (.ifCond .ne 7, 3) := by decide +kernel
theorem d_S_isAtStart_7 : decode b_S_isAtStart 7 = .ok (.iconst 1, 1) := by decide +kernel
theorem d_S_isAtStart_8 : decode b_S_isAtStart 8 = .ok (.goto 4, 3) := by decide +kernel
theorem d_S_isAtStart_11 : decode b_S_isAtStart 11 = .ok (.iconst 0, 1) := by decide +kernel
theorem d_S_isAtStart_12 : decode b_S_isAtStart 12 = .ok (.ireturn, 1) := by decide +kernel
theorem d_S_portion_0 : decode b_S_portion 0 = .ok (.bipush 14, 2) := by decide +kernel
theorem d_S_portion_2 : decode b_S_portion 2 = .ok (.iload_n 1, 1) := by decide +kernel
theorem d_S_portion_3 : decode b_S_portion 3 = .ok (.ifCond .eq 7, 3) := by decide +kernel
theorem d_S_portion_6 : decode b_S_portion 6 = .ok (.iconst 2, 1) := by decide +kernel
theorem d_S_portion_7 : decode b_S_portion 7 = .ok (.goto 4, 3) := by decide +kernel
theorem d_S_portion_10 : decode b_S_portion 10 = .ok (.iconst 0, 1) := by decide +kernel
theorem d_S_portion_11 : decode b_S_portion 11 = .ok (.isub, 1) := by decide +kernel
theorem d_S_portion_12 : decode b_S_portion 12 = .ok (.aload_n 0, 1) := by decide +kernel
theorem d_S_portion_13 : decode b_S_portion 13 = .ok (.invokevirtual 54, 3) := by decide +kernel
theorem d_S_portion_16 : decode b_S_portion 16 = .ok (.ifCond .eq 7, 3) := by decide +kernel
theorem d_S_portion_19 : decode b_S_portion 19 = .ok (.iconst 3, 1) := by decide +kernel
theorem d_S_portion_20 : decode b_S_portion 20 = .ok (.goto 4, 3) := by decide +kernel
theorem d_S_portion_23 : decode b_S_portion 23 = .ok (.iconst 0, 1) := by decide +kernel
theorem d_S_portion_24 : decode b_S_portion 24 = .ok (.isub, 1) := by decide +kernel
theorem d_S_portion_25 : decode b_S_portion 25 = .ok (.istore_n 2, 1) := by decide +kernel
theorem d_S_portion_26 : decode b_S_portion 26 = .ok (.iload_n 2, 1) := by decide +kernel
theorem d_S_portion_27 : decode b_S_portion 27 = .ok (.aload_n 0, 1) := by decide +kernel
theorem d_S_portion_28 : decode b_S_portion 28 = .ok (.getfield 12, 3) := by decide +kernel
theorem d_S_portion_31 : decode b_S_portion 31 = .ok (.invokevirtual 38, 3) := by decide +kernel
theorem d_S_portion_34 : decode b_S_portion 34 = .ok (.aload_n 0, 1) := by decide +kernel
theorem d_S_portion_35 : decode b_S_portion 35 = .ok (.getfield 45, 3) := by decide +kernel
theorem d_S_portion_38 : decode b_S_portion 38 = .ok (.isub, 1) := by decide +kernel
theorem d_S_portion_39 : decode b_S_portion 39 = .ok (.invokestatic 58, 3) := by decide +kernel
theorem d_S_portion_42 : decode b_S_portion 42 = .ok (.ireturn, 1) := by decide +kernel
theorem d_S_isReady_0 : decode b_S_isReady 0 = .ok (.aload_n 0, 1) := by decide +kernel
theorem d_S_isReady_1 : decode b_S_isReady 1 = .ok (.getfield 12, 3) := by decide +kernel
theorem d_S_isReady_4 : decode b_S_isReady 4 = .ok (.invokevirtual 61, 3) := by decide +kernel
theorem d_S_isReady_7 : decode b_S_isReady 7 = .ok (.ifCond .ne 20, 3) := by decide +kernel
theorem d_S_isReady_10 : decode b_S_isReady 10 = .ok (.aload_n 0, 1) := by decide +kernel
theorem d_S_isReady_11 : decode b_S_isReady 11 = .ok (.invokevirtual 54, 3) := by decide +kernel
theorem d_S_isReady_14 : decode b_S_isReady 14 = .ok (.ifCond .eq 15, 3) := by decide +kernel
theorem d_S_isReady_17 : decode b_S_isReady 17 = .ok (.aload_n 0, 1) := by decide +kernel
theorem d_S_isReady_18 : decode b_S_isReady 18 = .ok (.getfield 18, 3) := by decide +kernel
theorem d_S_isReady_21 : decode b_S_isReady 21 = .ok (.invokevirtual 64, 3) := by decide +kernel
theorem d_S_isReady_24 : decode b_S_isReady 24 = .ok (.ifCond .eq 5, 3) := by decide +kernel
theorem d_S_isReady_27 : decode b_S_isReady 27 = .ok (.iconst 0, 1) := by decide +kernel
theorem d_S_isReady_28 : decode b_S_isReady 28 = .ok (.ireturn, 1) := by decide +kernel
theorem d_S_isReady_29 : decode b_S_isReady 29 = .ok (.aload_n 0, 1) := by decide +kernel
theorem d_S_isReady_30 : decode b_S_isReady 30 = .ok (.iload_n 1, 1) := by decide +kernel
theorem d_S_isReady_31 : decode b_S_isReady 31 = .ok (.invokevirtual 67, 3) := by decide +kernel
theorem d_S_isReady_34 : decode b_S_isReady 34 = .ok (.istore_n 3, 1) := by decide +kernel
theorem d_S_isReady_35 : decode b_S_isReady 35 = .ok (.aload_n 0, 1) := by decide +kernel
theorem d_S_isReady_36 : decode b_S_isReady 36 = .ok (.getfield 21, 3) := by decide +kernel
theorem d_S_isReady_39 : decode b_S_isReady 39 = .ok (.iload_n 3, 1) := by decide +kernel
theorem d_S_isReady_40 : decode b_S_isReady 40 = .ok (.iadd, 1) := by decide +kernel
theorem d_S_isReady_41 : decode b_S_isReady 41 = .ok (.bipush 28, 2) := by decide +kernel
theorem d_S_isReady_43 : decode b_S_isReady 43 = .ok (.if_icmp .gt 17, 3) := by decide +kernel
theorem d_S_isReady_46 : decode b_S_isReady 46 = .ok (.aload_n 0, 1) := by decide +kernel
theorem d_S_isReady_47 : decode b_S_isReady 47 = .ok (.getfield 35, 3) := by decide +kernel
theorem d_S_isReady_50 : decode b_S_isReady 50 = .ok (.iload_n 3, 1) := by decide +kernel
theorem d_S_isReady_51 : decode b_S_isReady 51 = .ok (.iadd, 1) := by decide +kernel
theorem d_S_isReady_52 : decode b_S_isReady 52 = .ok (.iload_n 2, 1) := by decide +kernel
theorem d_S_isReady_53 : decode b_S_isReady 53 = .ok (.if_icmp .gt 7, 3) := by decide +kernel
theorem d_S_isReady_56 : decode b_S_isReady 56 = .ok (.iconst 1, 1) := by decide +kernel
theorem d_S_isReady_57 : decode b_S_isReady 57 = .ok (.goto 4, 3) := by decide +kernel
theorem d_S_isReady_60 : decode b_S_isReady 60 = .ok (.iconst 0, 1) := by decide +kernel
theorem d_S_isReady_61 : decode b_S_isReady 61 = .ok (.ireturn, 1) := by decide +kernel
theorem d_S_takeCounter_0 : decode b_S_takeCounter 0 = .ok (.aload_n 0, 1) := by decide +kernel
theorem d_S_takeCounter_1 : decode b_S_takeCounter 1 = .ok (.getfield 71, 3) := by decide +kernel
theorem d_S_takeCounter_4 : decode b_S_takeCounter 4 = .ok (.istore_n 1, 1) := by decide +kernel
theorem d_S_takeCounter_5 : decode b_S_takeCounter 5 = .ok (.aload_n 0, 1) := by decide +kernel
theorem d_S_takeCounter_6 : decode b_S_takeCounter 6 = .ok (.iload_n 1, 1) := by decide +kernel
theorem d_S_takeCounter_7 : decode b_S_takeCounter 7 = .ok (.iconst 1, 1) := by decide +kernel
theorem d_S_takeCounter_8 : decode b_S_takeCounter 8 = .ok (.iadd, 1) := by decide +kernel
theorem d_S_takeCounter_9 : decode b_S_takeCounter 9 = .ok (.bipush 16, 2) := by decide +kernel
theorem d_S_takeCounter_11 : decode b_S_takeCounter 11 = .ok (.irem, 1) := by decide +kernel
theorem d_S_takeCounter_12 : decode b_S_takeCounter 12 = .ok (.putfield 71, 3) := by decide +kernel
theorem d_S_takeCounter_15 : decode b_S_takeCounter 15 = .ok (.iload_n 1, 1) := by decide +kernel
theorem d_S_takeCounter_16 : decode b_S_takeCounter 16 = .ok (.ireturn, 1) := by decide +kernel
theorem d_S_sendBytes_0 : decode b_S_sendBytes 0 = .ok (.iconst 0, 1) := by decide +kernel
theorem d_S_sendBytes_1 : decode b_S_sendBytes 1 = .ok (.istore_n 3, 1) := by decide +kernel
theorem d_S_sendBytes_2 : decode b_S_sendBytes 2 = .ok (.iload_n 3, 1) := by decide +kernel
theorem d_S_sendBytes_3 : decode b_S_sendBytes 3 = .ok (.iload_n 1, 1) := by decide +kernel
theorem d_S_sendBytes_4 : decode b_S_sendBytes 4 = .ok (.if_icmp .ge 30, 3) := by decide +kernel
theorem d_S_sendBytes_7 : decode b_S_sendBytes 7 = .ok (.aload_n 2, 1) := by decide +kernel
theorem d_S_sendBytes_8 : decode b_S_sendBytes 8 = .ok (.aload_n 0, 1) := by decide +kernel
theorem d_S_sendBytes_9 : decode b_S_sendBytes 9 = .ok (.getfield 12, 3) := by decide +kernel
theorem d_S_sendBytes_12 : decode b_S_sendBytes 12 = .ok (.invokevirtual 74, 3) := by decide +kernel
theorem d_S_sendBytes_15 : decode b_S_sendBytes 15 = .ok (.bipush 7, 2) := by decide +kernel
theorem d_S_sendBytes_17 : decode b_S_sendBytes 17 = .ok (.aload_n 0, 1) := by decide +kernel
theorem d_S_sendBytes_18 : decode b_S_sendBytes 18 = .ok (.getfield 45, 3) := by decide +kernel
theorem d_S_sendBytes_21 : decode b_S_sendBytes 21 = .ok (.iload_n 3, 1) := by decide +kernel
theorem d_S_sendBytes_22 : decode b_S_sendBytes 22 = .ok (.iadd, 1) := by decide +kernel
theorem d_S_sendBytes_23 : decode b_S_sendBytes 23 = .ok (.imul, 1) := by decide +kernel
theorem d_S_sendBytes_24 : decode b_S_sendBytes 24 = .ok (.iadd, 1) := by decide +kernel
theorem d_S_sendBytes_25 : decode b_S_sendBytes 25 = .ok (.invokevirtual 77, 3) := by decide +kernel
theorem d_S_sendBytes_28 : decode b_S_sendBytes 28 = .ok (.iinc 3 1, 3) := by decide +kernel
theorem d_S_sendBytes_31 : decode b_S_sendBytes 31 = .ok (.goto (-29), 3) := by decide +kernel
theorem d_S_sendBytes_34 : decode b_S_sendBytes 34 = .ok (.aload_n 0, 1) := by decide +kernel
theorem d_S_sendBytes_35 : decode b_S_sendBytes 35 = .ok (.dup, 1) := by decide +kernel
theorem d_S_sendBytes_36 : decode b_S_sendBytes 36 = .ok (.getfield 45, 3) := by decide +kernel
theorem d_S_sendBytes_39 : decode b_S_sendBytes 39 = .ok (.iload_n 1, 1) := by decide +kernel
theorem d_S_sendBytes_40 : decode b_S_sendBytes 40 = .ok (.iadd, 1) := by decide +kernel
theorem d_S_sendBytes_41 : decode b_S_sendBytes 41 = .ok (.putfield 45, 3) := by decide +kernel
theorem d_S_sendBytes_44 : decode b_S_sendBytes 44 = .ok (.aload_n 0, 1) := by decide +kernel
theorem d_S_sendBytes_45 : decode b_S_sendBytes 45 = .ok (.dup, 1) := by decide +kernel
theorem d_S_sendBytes_46 : decode b_S_sendBytes 46 = .ok (.getfield 21, 3) := by decide +kernel
theorem d_S_sendBytes_49 : decode b_S_sendBytes 49 = .ok (.iload_n 1, 1) := by decide +kernel
theorem d_S_sendBytes_50 : decode b_S_sendBytes 50 = .ok (.iadd, 1) := by decide +kernel
theorem d_S_sendBytes_51 : decode b_S_sendBytes 51 = .ok (.putfield 21, 3) := by decide +kernel
theorem d_S_sendBytes_54 : decode b_S_sendBytes 54 = .ok (.aload_n 0, 1) := by decide +kernel
theorem d_S_sendBytes_55 : decode b_S_sendBytes 55 = .ok (.dup, 1) := by decide +kernel
theorem d_S_sendBytes_56 : decode b_S_sendBytes 56 = .ok (.getfield 35, 3) := by decide +kernel
theorem d_S_sendBytes_59 : decode b_S_sendBytes 59 = .ok (.iload_n 1, 1) := by decide +kernel
theorem d_S_sendBytes_60 : decode b_S_sendBytes 60 = .ok (.iadd, 1) := by decide +kernel
theorem d_S_sendBytes_61 : decode b_S_sendBytes 61 = .ok (.putfield 35, 3) := by decide +kernel
theorem d_S_sendBytes_64 : decode b_S_sendBytes 64 = .ok (.aload_n 0, 1) := by decide +kernel
theorem d_S_sendBytes_65 : decode b_S_sendBytes 65 = .ok (.getfield 45, 3) := by decide +kernel
theorem d_S_sendBytes_68 : decode b_S_sendBytes 68 = .ok (.aload_n 0, 1) := by decide +kernel
theorem d_S_sendBytes_69 : decode b_S_sendBytes 69 = .ok (.getfield 12, 3) := by decide +kernel
theorem d_S_sendBytes_72 : decode b_S_sendBytes 72 = .ok (.invokevirtual 38, 3) := by decide +kernel
theorem d_S_sendBytes_75 : decode b_S_sendBytes 75 = .ok (.if_icmp .lt 35, 3) := by decide +kernel
theorem d_S_sendBytes_78 : decode b_S_sendBytes 78 = .ok (.aload_n 0, 1) := by decide +kernel
theorem d_S_sendBytes_79 : decode b_S_sendBytes 79 = .ok (.getfield 18, 3) := by decide +kernel
theorem d_S_sendBytes_82 : decode b_S_sendBytes 82 = .ok (.aload_n 0, 1) := by decide +kernel
theorem d_S_sendBytes_83 : decode b_S_sendBytes 83 = .ok (.getfield 12, 3) := by decide +kernel
theorem d_S_sendBytes_86 : decode b_S_sendBytes 86 = .ok (.invokevirtual 38, 3) := by decide +kernel
theorem d_S_sendBytes_89 : decode b_S_sendBytes 89 = .ok (.aload_n 0, 1) := by decide +kernel
theorem d_S_sendBytes_90 : decode b_S_sendBytes 90 = .ok (.getfield 12, 3) := by decide +kernel
theorem d_S_sendBytes_93 : decode b_S_sendBytes 93 = .ok (.invokevirtual 83, 3) := by decide +kernel
theorem d_S_sendBytes_96 : decode b_S_sendBytes 96 = .ok (.aload_n 0, 1) := by decide +kernel
theorem d_S_sendBytes_97 : decode b_S_sendBytes 97 = .ok (.getfield 12, 3) := by decide +kernel
theorem d_S_sendBytes_100 : decode b_S_sendBytes 100 = .ok (.invokevirtual 74, 3) := by decide +kernel
theorem d_S_sendBytes_103 : decode b_S_sendBytes 103 = .ok (.invokevirtual 86, 3) := by decide +kernel
theorem d_S_sendBytes_106 : decode b_S_sendBytes 106 = .ok (.aload_n 0, 1) := by decide +kernel
theorem d_S_sendBytes_107 : decode b_S_sendBytes 107 = .ok (.invokevirtual 51, 3) := by decide +kernel
theorem d_S_sendBytes_110 : decode b_S_sendBytes 110 = .ok (.return_, 1) := by decide +kernel
theorem d_S_dropCurrent_0 : decode b_S_dropCurrent 0 = .ok (.aload_n 0, 1) := by decide +kernel
theorem d_S_dropCurrent_1 : decode b_S_dropCurrent 1 = .ok (.getfield 12, 3) := by decide +kernel
theorem d_S_dropCurrent_4 : decode b_S_dropCurrent 4 = .ok (.invokevirtual 42, 3) := by decide +kernel
theorem d_S_dropCurrent_7 : decode b_S_dropCurrent 7 = .ok (.aload_n 0, 1) := by decide +kernel
theorem d_S_dropCurrent_8 : decode b_S_dropCurrent 8 = .ok (.iconst 0, 1) := by decide +kernel
theorem d_S_dropCurrent_9 : decode b_S_dropCurrent 9 = .ok (.putfield 45, 3) := by decide +kernel
theorem d_S_dropCurrent_12 : decode b_S_dropCurrent 12 = .ok (.return_, 1) := by decide +kernel
theorem d_U_init_0 : decode b_U_init 0 = .ok (.aload_n 0, 1) := by decide +kernel
theorem d_U_init_1 : decode b_U_init 1 = .ok (.invokespecial 3, 3) := by decide +kernel
theorem d_U_init_4 : decode b_U_init 4 = .ok (.aload_n 0, 1) := by decide +kernel
theorem d_U_init_5 : decode b_U_init 5 = .ok (.bipush 8, 2) := by decide +kernel
theorem d_U_init_7 : decode b_U_init 7 = .ok (.newarray .int, 2) := by decide +kernel
theorem d_U_init_9 : decode b_U_init 9 = .ok (.putfield 9, 3) := by decide +kernel
theorem d_U_init_12 : decode b_U_init 12 = .ok (.aload_n 0, 1) := by decide +kernel
theorem d_U_init_13 : decode b_U_init 13 = .ok (.bipush 8, 2) := by decide +kernel
theorem d_U_init_15 : decode b_U_init 15 = .ok (.newarray .int, 2) := by decide +kernel
theorem d_U_init_17 : decode b_U_init 17 = .ok (.putfield 15, 3) := by decide +kernel
theorem d_U_init_20 : decode b_U_init 20 = .ok (.aload_n 0, 1) := by decide +kernel
theorem d_U_init_21 : decode b_U_init 21 = .ok (.bipush 8, 2) := by decide +kernel
theorem d_U_init_23 : decode b_U_init 23 = .ok (.newarray .int, 2) := by decide +kernel
theorem d_U_init_25 : decode b_U_init 25 = .ok (.putfield 18, 3) := by decide +kernel
theorem d_U_init_28 : decode b_U_init 28 = .ok (.return_, 1) := by decide +kernel
theorem d_U_isFull_0 : decode b_U_isFull 0 = .ok (.aload_n 0, 1) := by decide +kernel
theorem d_U_isFull_1 : decode b_U_isFull 1 = .ok (.getfield 21, 3) := by decide +kernel
theorem d_U_isFull_4 : decode b_U_isFull 4 = .ok (.bipush 8, 2) := by decide +kernel
theorem d_U_isFull_6 : decode b_U_isFull 6 = .ok (.if_icmp .lt 7, 3) := by decide +kernel
theorem d_U_isFull_9 : decode b_U_isFull 9 = .ok (.iconst 1, 1) := by decide +kernel
theorem d_U_isFull_10 : decode b_U_isFull 10 = .ok (.goto 4, 3) := by decide +kernel
theorem d_U_isFull_13 : decode b_U_isFull 13 = .ok (.iconst 0, 1) := by decide +kernel
theorem d_U_isFull_14 : decode b_U_isFull 14 = .ok (.ireturn, 1) := by decide +kernel
theorem d_U_isEmpty_0 : decode b_U_isEmpty 0 = .ok (.aload_n 0, 1) := by decide +kernel
theorem d_U_isEmpty_1 : decode b_U_isEmpty 1 = .ok (.getfield 21, 3) := by decide +kernel
theorem d_U_isEmpty_4 : decode b_U_isEmpty 4 = .ok (.ifCond .ne 7, 3) := by decide +kernel
theorem d_U_isEmpty_7 : decode b_U_isEmpty 7 = .ok (.iconst 1, 1) := by decide +kernel
theorem d_U_isEmpty_8 : decode b_U_isEmpty 8 = .ok (.goto 4, 3) := by decide +kernel
theorem d_U_isEmpty_11 : decode b_U_isEmpty 11 = .ok (.iconst 0, 1) := by decide +kernel
theorem d_U_isEmpty_12 : decode b_U_isEmpty 12 = .ok (.ireturn, 1) := by decide +kernel
theorem d_U_append_0 : decode b_U_append 0 = .ok (.aload_n 0, 1) := by decide +kernel
theorem d_U_append_1 : decode b_U_append 1 = .ok (.invokevirtual 25, 3) := by decide +kernel
theorem d_U_append_4 : decode b_U_append 4 = .ok (.ifCond .eq 4, 3) := by decide +kernel
theorem d_U_append_7 : decode b_U_append 7 = .ok (.return_, 1) := by decide +kernel
theorem d_U_append_8 : decode b_U_append 8 = .ok (.aload_n 0, 1) := by decide +kernel
theorem d_U_append_9 : decode b_U_append 9 = .ok (.getfield 9, 3) := by decide +kernel
theorem d_U_append_12 : decode b_U_append 12 = .ok (.aload_n 0, 1) := by decide +kernel
theorem d_U_append_13 : decode b_U_append 13 = .ok (.getfield 21, 3) := by decide +kernel
theorem d_U_append_16 : decode b_U_append 16 = .ok (.iload_n 1, 1) := by decide +kernel
theorem d_U_append_17 : decode b_U_append 17 = .ok (.iastore, 1) := by decide +kernel
theorem d_U_append_18 : decode b_U_append 18 = .ok (.aload_n 0, 1) := by decide +kernel
theorem d_U_append_19 : decode b_U_append 19 = .ok (.getfield 15, 3) := by decide +kernel
theorem d_U_append_22 : decode b_U_append 22 = .ok (.aload_n 0, 1) := by decide +kernel
theorem d_U_append_23 : decode b_U_append 23 = .ok (.getfield 21, 3) := by decide +kernel
theorem d_U_append_26 : decode b_U_append 26 = .ok (.iload_n 2, 1) := by decide +kernel
theorem d_U_append_27 : decode b_U_append 27 = .ok (.iastore, 1) := by decide +kernel
theorem d_U_append_28 : decode b_U_append 28 = .ok (.aload_n 0, 1) := by decide +kernel
theorem d_U_append_29 : decode b_U_append 29 = .ok (.getfield 18, 3) := by decide +kernel
theorem d_U_append_32 : decode b_U_append 32 = .ok (.aload_n 0, 1) := by decide +kernel
theorem d_U_append_33 : decode b_U_append 33 = .ok (.getfield 21, 3) := by decide +kernel
theorem d_U_append_36 : decode b_U_append 36 = .ok (.iload_n 3, 1) := by decide +kernel
theorem d_U_append_37 : decode b_U_append 37 = .ok (.iastore, 1) := by decide +kernel
theorem d_U_append_38 : decode b_U_append 38 = .ok (.aload_n 0, 1) := by decide +kernel
theorem d_U_append_39 : decode b_U_append 39 = .ok (.dup, 1) := by decide +kernel
theorem d_U_append_40 : decode b_U_append 40 = .ok (.getfield 21, 3) := by decide +kernel
theorem d_U_append_43 : decode b_U_append 43 = .ok (.iconst 1, 1) := by decide +kernel
theorem d_U_append_44 : decode b_U_append 44 = .ok (.iadd, 1) := by decide +kernel
theorem d_U_append_45 : decode b_U_append 45 = .ok (.putfield 21, 3) := by decide +kernel
theorem d_U_append_48 : decode b_U_append 48 = .ok (.return_, 1) := by decide +kernel
theorem d_U_firstSize_0 : decode b_U_firstSize 0 = .ok (.aload_n 0, 1) := by decide +kernel
theorem d_U_firstSize_1 : decode b_U_firstSize 1 = .ok (.getfield 9, 3) := by decide +kernel
theorem d_U_firstSize_4 : decode b_U_firstSize 4 = .ok (.iconst 0, 1) := by decide +kernel
theorem d_U_firstSize_5 : decode b_U_firstSize 5 = .ok (.iaload, 1) := by decide +kernel
theorem d_U_firstSize_6 : decode b_U_firstSize 6 = .ok (.ireturn, 1) := by decide +kernel
theorem d_U_firstDue_0 : decode b_U_firstDue 0 = .ok (.aload_n 0, 1) := by decide +kernel
theorem d_U_firstDue_1 : decode b_U_firstDue 1 = .ok (.getfield 15, 3) := by decide +kernel
theorem d_U_firstDue_4 : decode b_U_firstDue 4 = .ok (.iconst 0, 1) := by decide +kernel
theorem d_U_firstDue_5 : decode b_U_firstDue 5 = .ok (.iaload, 1) := by decide +kernel
theorem d_U_firstDue_6 : decode b_U_firstDue 6 = .ok (.ireturn, 1) := by decide +kernel
theorem d_U_firstSeed_0 : decode b_U_firstSeed 0 = .ok (.aload_n 0, 1) := by decide +kernel
theorem d_U_firstSeed_1 : decode b_U_firstSeed 1 = .ok (.getfield 18, 3) := by decide +kernel
theorem d_U_firstSeed_4 : decode b_U_firstSeed 4 = .ok (.iconst 0, 1) := by decide +kernel
theorem d_U_firstSeed_5 : decode b_U_firstSeed 5 = .ok (.iaload, 1) := by decide +kernel
theorem d_U_firstSeed_6 : decode b_U_firstSeed 6 = .ok (.ireturn, 1) := by decide +kernel
theorem d_U_isFirstDueAt_0 : decode b_U_isFirstDueAt 0 = .ok (.aload_n 0, 1) := by decide +kernel
theorem d_U_isFirstDueAt_1 : decode b_U_isFirstDueAt 1 = .ok (.invokevirtual 29, 3) := by decide +kernel
theorem d_U_isFirstDueAt_4 : decode b_U_isFirstDueAt 4 = .ok (.ifCond .ne 17, 3) := by decide +kernel
theorem d_U_isFirstDueAt_7 : decode b_U_isFirstDueAt 7 = .ok (.aload_n 0, 1) := by decide +kernel
theorem d_U_isFirstDueAt_8 : decode b_U_isFirstDueAt 8 = .ok (.getfield 15, 3) := by decide +kernel
theorem d_U_isFirstDueAt_11 : decode b_U_isFirstDueAt 11 = .ok (.iconst 0, 1) := by decide +kernel
theorem d_U_isFirstDueAt_12 : decode b_U_isFirstDueAt 12 = .ok (.iaload, 1) := by decide +kernel
theorem d_U_isFirstDueAt_13 : decode b_U_isFirstDueAt 13 = .ok (.iload_n 1, 1) := by decide +kernel
theorem d_U_isFirstDueAt_14 : decode b_U_isFirstDueAt 14 = .ok (.if_icmp .ne 7, 3) := by decide +kernel
theorem d_U_isFirstDueAt_17 : decode b_U_isFirstDueAt 17 = .ok (.iconst 1, 1) := by decide +kernel
theorem d_U_isFirstDueAt_18 : decode b_U_isFirstDueAt 18 = .ok (.goto 4, 3) := by decide +kernel
theorem d_U_isFirstDueAt_21 : decode b_U_isFirstDueAt 21 = .ok (.iconst 0, 1) := by decide +kernel
theorem d_U_isFirstDueAt_22 : decode b_U_isFirstDueAt 22 = .ok (.ireturn, 1) := by decide +kernel
theorem d_U_dropFirst_0 : decode b_U_dropFirst 0 = .ok (.aload_n 0, 1) := by decide +kernel
theorem d_U_dropFirst_1 : decode b_U_dropFirst 1 = .ok (.invokevirtual 29, 3) := by decide +kernel
theorem d_U_dropFirst_4 : decode b_U_dropFirst 4 = .ok (.ifCond .eq 4, 3) := by decide +kernel
theorem d_U_dropFirst_7 : decode b_U_dropFirst 7 = .ok (.return_, 1) := by decide +kernel
theorem d_U_dropFirst_8 : decode b_U_dropFirst 8 = .ok (.aload_n 0, 1) := by decide +kernel
theorem d_U_dropFirst_9 : decode b_U_dropFirst 9 = .ok (.dup, 1) := by decide +kernel
theorem d_U_dropFirst_10 : decode b_U_dropFirst 10 = .ok (.getfield 21, 3) := by decide +kernel
theorem d_U_dropFirst_13 : decode b_U_dropFirst 13 = .ok (.iconst 1, 1) := by decide +kernel
theorem d_U_dropFirst_14 : decode b_U_dropFirst 14 = .ok (.isub, 1) := by decide +kernel
theorem d_U_dropFirst_15 : decode b_U_dropFirst 15 = .ok (.putfield 21, 3) := by decide +kernel
theorem d_U_dropFirst_18 : decode b_U_dropFirst 18 = .ok (.iconst 0, 1) := by decide +kernel
theorem d_U_dropFirst_19 : decode b_U_dropFirst 19 = .ok (.istore_n 1, 1) := by decide +kernel
theorem d_U_dropFirst_20 : decode b_U_dropFirst 20 = .ok (.iload_n 1, 1) := by decide +kernel
theorem d_U_dropFirst_21 : decode b_U_dropFirst 21 = .ok (.aload_n 0, 1) := by decide +kernel
theorem d_U_dropFirst_22 : decode b_U_dropFirst 22 = .ok (.getfield 21, 3) := by decide +kernel
theorem d_U_dropFirst_25 : decode b_U_dropFirst 25 = .ok (.if_icmp .ge 51, 3) := by decide +kernel
theorem d_U_dropFirst_28 : decode b_U_dropFirst 28 = .ok (.aload_n 0, 1) := by decide +kernel
theorem d_U_dropFirst_29 : decode b_U_dropFirst 29 = .ok (.getfield 9, 3) := by decide +kernel
theorem d_U_dropFirst_32 : decode b_U_dropFirst 32 = .ok (.iload_n 1, 1) := by decide +kernel
theorem d_U_dropFirst_33 : decode b_U_dropFirst 33 = .ok (.aload_n 0, 1) := by decide +kernel
theorem d_U_dropFirst_34 : decode b_U_dropFirst 34 = .ok (.getfield 9, 3) := by decide +kernel
theorem d_U_dropFirst_37 : decode b_U_dropFirst 37 = .ok (.iload_n 1, 1) := by decide +kernel
theorem d_U_dropFirst_38 : decode b_U_dropFirst 38 = .ok (.iconst 1, 1) := by decide +kernel
theorem d_U_dropFirst_39 : decode b_U_dropFirst 39 = .ok (.iadd, 1) := by decide +kernel
theorem d_U_dropFirst_40 : decode b_U_dropFirst 40 = .ok (.iaload, 1) := by decide +kernel
theorem d_U_dropFirst_41 : decode b_U_dropFirst 41 = .ok (.iastore, 1) := by decide +kernel
theorem d_U_dropFirst_42 : decode b_U_dropFirst 42 = .ok (.aload_n 0, 1) := by decide +kernel
theorem d_U_dropFirst_43 : decode b_U_dropFirst 43 = .ok (.getfield 15, 3) := by decide +kernel
theorem d_U_dropFirst_46 : decode b_U_dropFirst 46 = .ok (.iload_n 1, 1) := by decide +kernel
theorem d_U_dropFirst_47 : decode b_U_dropFirst 47 = .ok (.aload_n 0, 1) := by decide +kernel
theorem d_U_dropFirst_48 : decode b_U_dropFirst 48 = .ok (.getfield 15, 3) := by decide +kernel
theorem d_U_dropFirst_51 : decode b_U_dropFirst 51 = .ok (.iload_n 1, 1) := by decide +kernel
theorem d_U_dropFirst_52 : decode b_U_dropFirst 52 = .ok (.iconst 1, 1) := by decide +kernel
theorem d_U_dropFirst_53 : decode b_U_dropFirst 53 = .ok (.iadd, 1) := by decide +kernel
theorem d_U_dropFirst_54 : decode b_U_dropFirst 54 = .ok (.iaload, 1) := by decide +kernel
theorem d_U_dropFirst_55 : decode b_U_dropFirst 55 = .ok (.iastore, 1) := by decide +kernel
theorem d_U_dropFirst_56 : decode b_U_dropFirst 56 = .ok (.aload_n 0, 1) := by decide +kernel
theorem d_U_dropFirst_57 : decode b_U_dropFirst 57 = .ok (.getfield 18, 3) := by decide +kernel
end
section
theorem d_U_dropFirst_60 : decode b_U_dropFirst 60 = .ok (.iload_n 1, 1) := by decide +kernel
theorem d_U_dropFirst_61 : decode b_U_dropFirst 61 = .ok (.aload_n 0, 1) := by decide +kernel
theorem d_U_dropFirst_62 : decode b_U_dropFirst 62 = .ok (.getfield 18, 3) := by decide +kernel
theorem d_U_dropFirst_65 : decode b_U_dropFirst 65 = .ok (.iload_n 1, 1) := by decide +kernel
theorem d_U_dropFirst_66 : decode b_U_dropFirst 66 = .ok (.iconst 1, 1) := by decide +kernel
theorem d_U_dropFirst_67 : decode b_U_dropFirst 67 = .ok (.iadd, 1) := by decide +kernel
theorem d_U_dropFirst_68 : decode b_U_dropFirst 68 = .ok (.iaload, 1) := by decide +kernel
theorem d_U_dropFirst_69 : decode b_U_dropFirst 69 = .ok (.iastore, 1) := by decide +kernel
theorem d_U_dropFirst_70 : decode b_U_dropFirst 70 = .ok (.iinc 1 1, 3) := by decide +kernel
theorem d_U_dropFirst_73 : decode b_U_dropFirst 73 = .ok (.goto (-53), 3) := by decide +kernel
theorem d_U_dropFirst_76 : decode b_U_dropFirst 76 = .ok (.return_, 1) := by decide +kernel
theorem d_X_init_0 : decode b_X_init 0 = .ok (.aload_n 0, 1) := by decide +kernel
theorem d_X_init_1 : decode b_X_init 1 = .ok (.invokespecial 1, 3) := by decide +kernel
theorem d_X_init_4 : decode b_X_init 4 = .ok (.aload_n 0, 1) := by decide +kernel
theorem d_X_init_5 : decode b_X_init 5 = .ok (.iconst 1, 1) := by decide +kernel
theorem d_X_init_6 : decode b_X_init 6 = .ok (.bipush 14, 2) := by decide +kernel
theorem d_X_init_8 : decode b_X_init 8 = .ok (.iload_n 1, 1) := by decide +kernel
theorem d_X_init_9 : decode b_X_init 9 = .ok (.invokestatic 9, 3) := by decide +kernel
theorem d_X_init_12 : decode b_X_init 12 = .ok (.invokestatic 15, 3) := by decide +kernel
theorem d_X_init_15 : decode b_X_init 15 = .ok (.putfield 18, 3) := by decide +kernel
theorem d_X_init_18 : decode b_X_init 18 = .ok (.aload_n 0, 1) := by decide +kernel
theorem d_X_init_19 : decode b_X_init 19 = .ok (.bipush 20, 2) := by decide +kernel
theorem d_X_init_21 : decode b_X_init 21 = .ok (.sipush 200, 3) := by decide +kernel
theorem d_X_init_24 : decode b_X_init 24 = .ok (.iload_n 2, 1) := by decide +kernel
theorem d_X_init_25 : decode b_X_init 25 = .ok (.invokestatic 9, 3) := by decide +kernel
theorem d_X_init_28 : decode b_X_init 28 = .ok (.invokestatic 15, 3) := by decide +kernel
theorem d_X_init_31 : decode b_X_init 31 = .ok (.putfield 22, 3) := by decide +kernel
theorem d_X_init_34 : decode b_X_init 34 = .ok (.aload_n 0, 1) := by decide +kernel
theorem d_X_init_35 : decode b_X_init 35 = .ok (.iconst 3, 1) := by decide +kernel
theorem d_X_init_36 : decode b_X_init 36 = .ok (.anewarray 25, 3) := by decide +kernel
theorem d_X_init_39 : decode b_X_init 39 = .ok (.putfield 27, 3) := by decide +kernel
theorem d_X_init_42 : decode b_X_init 42 = .ok (.iconst 0, 1) := by decide +kernel
theorem d_X_init_43 : decode b_X_init 43 = .ok (.istore_n 3, 1) := by decide +kernel
theorem d_X_init_44 : decode b_X_init 44 = .ok (.iload_n 3, 1) := by decide +kernel
theorem d_X_init_45 : decode b_X_init 45 = .ok (.iconst 3, 1) := by decide +kernel
theorem d_X_init_46 : decode b_X_init 46 = .ok (.if_icmp .ge 22, 3) := by decide +kernel
theorem d_X_init_49 : decode b_X_init 49 = .ok (.aload_n 0, 1) := by decide +kernel
theorem d_X_init_50 : decode b_X_init 50 = .ok (.getfield 27, 3) := by decide +kernel
theorem d_X_init_53 : decode b_X_init 53 = .ok (.iload_n 3, 1) := by decide +kernel
theorem d_X_init_54 : decode b_X_init 54 = .ok (.new 25, 3) := by decide +kernel
theorem d_X_init_57 : decode b_X_init 57 = .ok (.dup, 1) := by decide +kernel
theorem d_X_init_58 : decode b_X_init 58 = .ok (.invokespecial 31, 3) := by decide +kernel
theorem d_X_init_61 : decode b_X_init 61 = .ok (.aastore, 1) := by decide +kernel
theorem d_X_init_62 : decode b_X_init 62 = .ok (.iinc 3 1, 3) := by decide +kernel
theorem d_X_init_65 : decode b_X_init 65 = .ok (.goto (-21), 3) := by decide +kernel
theorem d_X_init_68 : decode b_X_init 68 = .ok (.aload_n 0, 1) := by decide +kernel
theorem d_X_init_69 : decode b_X_init 69 = .ok (.new 32, 3) := by decide +kernel
theorem d_X_init_72 : decode b_X_init 72 = .ok (.dup, 1) := by decide +kernel
theorem d_X_init_73 : decode b_X_init 73 = .ok (.invokespecial 34, 3) := by decide +kernel
theorem d_X_init_76 : decode b_X_init 76 = .ok (.putfield 35, 3) := by decide +kernel
theorem d_X_init_79 : decode b_X_init 79 = .ok (.aload_n 0, 1) := by decide +kernel
theorem d_X_init_80 : decode b_X_init 80 = .ok (.new 39, 3) := by decide +kernel
theorem d_X_init_83 : decode b_X_init 83 = .ok (.dup, 1) := by decide +kernel
theorem d_X_init_84 : decode b_X_init 84 = .ok (.invokespecial 41, 3) := by decide +kernel
theorem d_X_init_87 : decode b_X_init 87 = .ok (.putfield 42, 3) := by decide +kernel
theorem d_X_init_90 : decode b_X_init 90 = .ok (.aload_n 0, 1) := by decide +kernel
theorem d_X_init_91 : decode b_X_init 91 = .ok (.new 39, 3) := by decide +kernel
theorem d_X_init_94 : decode b_X_init 94 = .ok (.dup, 1) := by decide +kernel
theorem d_X_init_95 : decode b_X_init 95 = .ok (.invokespecial 41, 3) := by decide +kernel
theorem d_X_init_98 : decode b_X_init 98 = .ok (.putfield 46, 3) := by decide +kernel
theorem d_X_init_101 : decode b_X_init 101 = .ok (.return_, 1) := by decide +kernel
theorem d_X_add_0 : decode b_X_add 0 = .ok (.iload_n 1, 1) := by decide +kernel
theorem d_X_add_1 : decode b_X_add 1 = .ok (.invokestatic 49, 3) := by decide +kernel
theorem d_X_add_4 : decode b_X_add 4 = .ok (.ifCond .eq 27, 3) := by decide +kernel
theorem d_X_add_7 : decode b_X_add 7 = .ok (.iload_n 2, 1) := by decide +kernel
theorem d_X_add_8 : decode b_X_add 8 = .ok (.iconst 1, 1) := by decide +kernel
theorem d_X_add_9 : decode b_X_add 9 = .ok (.if_icmp .lt 22, 3) := by decide +kernel
theorem d_X_add_12 : decode b_X_add 12 = .ok (.iload_n 2, 1) := by decide +kernel
theorem d_X_add_13 : decode b_X_add 13 = .ok (.bipush 60, 2) := by decide +kernel
theorem d_X_add_15 : decode b_X_add 15 = .ok (.if_icmp .gt 16, 3) := by decide +kernel
theorem d_X_add_18 : decode b_X_add 18 = .ok (.iload 4, 2) := by decide +kernel
theorem d_X_add_20 : decode b_X_add 20 = .ok (.ifCond .lt 11, 3) := by decide +kernel
theorem d_X_add_23 : decode b_X_add 23 = .ok (.iload 4, 2) := by decide +kernel
theorem d_X_add_25 : decode b_X_add 25 = .ok (.sipush 255, 3) := by decide +kernel
theorem d_X_add_28 : decode b_X_add 28 = .ok (.if_icmp .le 5, 3) := by decide +kernel
theorem d_X_add_31 : decode b_X_add 31 = .ok (.iconst (-1), 1) := by decide +kernel
theorem d_X_add_32 : decode b_X_add 32 = .ok (.ireturn, 1) := by decide +kernel
theorem d_X_add_33 : decode b_X_add 33 = .ok (.aload_n 0, 1) := by decide +kernel
theorem d_X_add_34 : decode b_X_add 34 = .ok (.getfield 27, 3) := by decide +kernel
theorem d_X_add_37 : decode b_X_add 37 = .ok (.iload_n 1, 1) := by decide +kernel
theorem d_X_add_38 : decode b_X_add 38 = .ok (.aaload, 1) := by decide +kernel
theorem d_X_add_39 : decode b_X_add 39 = .ok (.astore 5, 2) := by decide +kernel
theorem d_X_add_41 : decode b_X_add 41 = .ok (.iload_n 3, 1) := by decide +kernel
theorem d_X_add_42 : decode b_X_add 42 = .ok (.aload_n 0, 1) := by decide +kernel
theorem d_X_add_43 : decode b_X_add 43 = .ok (.getfield 53, 3) := by decide +kernel
theorem d_X_add_46 : decode b_X_add 46 = .ok (.if_icmp .le 24, 3) := by decide +kernel
theorem d_X_add_49 : decode b_X_add 49 = .ok (.iload_n 3, 1) := by decide +kernel
theorem d_X_add_50 : decode b_X_add 50 = .ok (.aload_n 0, 1) := by decide +kernel
theorem d_X_add_51 : decode b_X_add 51 = .ok (.getfield 53, 3) := by decide +kernel
theorem d_X_add_54 : decode b_X_add 54 = .ok (.sipush 1000, 3) := by decide +kernel
theorem d_X_add_57 : decode b_X_add 57 = .ok (.iadd, 1) := by decide +kernel
theorem d_X_add_58 : decode b_X_add 58 = .ok (.if_icmp .gt 12, 3) := by decide +kernel
theorem d_X_add_61 : decode b_X_add 61 = .ok (.iload_n 3, 1) := by decide +kernel
theorem d_X_add_62 : decode b_X_add 62 = .ok (.aload 5, 2) := by decide +kernel
theorem d_X_add_64 : decode b_X_add 64 = .ok (.getfield 56, 3) := by decide +kernel
theorem d_X_add_67 : decode b_X_add 67 = .ok (.if_icmp .gt 6, 3) := by decide +kernel
theorem d_X_add_70 : decode b_X_add 70 = .ok (.bipush (-3), 2) := by decide +kernel
theorem d_X_add_72 : decode b_X_add 72 = .ok (.ireturn, 1) := by decide +kernel
theorem d_X_add_73 : decode b_X_add 73 = .ok (.aload 5, 2) := by decide +kernel
theorem d_X_add_75 : decode b_X_add 75 = .ok (.getfield 59, 3) := by decide +kernel
theorem d_X_add_78 : decode b_X_add 78 = .ok (.invokevirtual 63, 3) := by decide +kernel
theorem d_X_add_81 : decode b_X_add 81 = .ok (.ifCond .eq 6, 3) := by decide +kernel
theorem d_X_add_84 : decode b_X_add 84 = .ok (.bipush (-2), 2) := by decide +kernel
theorem d_X_add_86 : decode b_X_add 86 = .ok (.ireturn, 1) := by decide +kernel
theorem d_X_add_87 : decode b_X_add 87 = .ok (.aload 5, 2) := by decide +kernel
theorem d_X_add_89 : decode b_X_add 89 = .ok (.getfield 59, 3) := by decide +kernel
theorem d_X_add_92 : decode b_X_add 92 = .ok (.iload_n 2, 1) := by decide +kernel
theorem d_X_add_93 : decode b_X_add 93 = .ok (.iload_n 3, 1) := by decide +kernel
theorem d_X_add_94 : decode b_X_add 94 = .ok (.iload 4, 2) := by decide +kernel
theorem d_X_add_96 : decode b_X_add 96 = .ok (.invokevirtual 69, 3) := by decide +kernel
theorem d_X_add_99 : decode b_X_add 99 = .ok (.aload 5, 2) := by decide +kernel
theorem d_X_add_101 : decode b_X_add 101 = .ok (.iload_n 3, 1) := by decide +kernel
theorem d_X_add_102 : decode b_X_add 102 = .ok (.putfield 56, 3) := by decide +kernel
theorem d_X_add_105 : decode b_X_add 105 = .ok (.aload 5, 2) := by decide +kernel
theorem d_X_add_107 : decode b_X_add 107 = .ok (.getfield 59, 3) := by decide +kernel
theorem d_X_add_110 : decode b_X_add 110 = .ok (.getfield 73, 3) := by decide +kernel
theorem d_X_add_113 : decode b_X_add 113 = .ok (.ireturn, 1) := by decide +kernel
theorem d_X_tick_0 : decode b_X_tick 0 = .ok (.iload_n 1, 1) := by decide +kernel
theorem d_X_tick_1 : decode b_X_tick 1 = .ok (.ifCond .lt 9, 3) := by decide +kernel
theorem d_X_tick_4 : decode b_X_tick 4 = .ok (.iload_n 1, 1) := by decide +kernel
theorem d_X_tick_5 : decode b_X_tick 5 = .ok (.bipush 40, 2) := by decide +kernel
theorem d_X_tick_7 : decode b_X_tick 7 = .ok (.if_icmp .le 5, 3) := by decide +kernel
theorem d_X_tick_10 : decode b_X_tick 10 = .ok (.iconst (-1), 1) := by decide +kernel
theorem d_X_tick_11 : decode b_X_tick 11 = .ok (.ireturn, 1) := by decide +kernel
theorem d_X_tick_12 : decode b_X_tick 12 = .ok (.iconst 0, 1) := by decide +kernel
theorem d_X_tick_13 : decode b_X_tick 13 = .ok (.istore_n 2, 1) := by decide +kernel
theorem d_X_tick_14 : decode b_X_tick 14 = .ok (.iload_n 2, 1) := by decide +kernel
theorem d_X_tick_15 : decode b_X_tick 15 = .ok (.iload_n 1, 1) := by decide +kernel
theorem d_X_tick_16 : decode b_X_tick 16 = .ok (.if_icmp .ge 24, 3) := by decide +kernel
theorem d_X_tick_19 : decode b_X_tick 19 = .ok (.aload_n 0, 1) := by decide +kernel
theorem d_X_tick_20 : decode b_X_tick 20 = .ok (.invokevirtual 76, 3) := by decide +kernel
theorem d_X_tick_23 : decode b_X_tick 23 = .ok (.aload_n 0, 1) := by decide +kernel
theorem d_X_tick_24 : decode b_X_tick 24 = .ok (.getfield 35, 3) := by decide +kernel
theorem d_X_tick_27 : decode b_X_tick 27 = .ok (.aload_n 0, 1) := by decide +kernel
theorem d_X_tick_28 : decode b_X_tick 28 = .ok (.getfield 42, 3) := by decide +kernel
theorem d_X_tick_31 : decode b_X_tick 31 = .ok (.invokevirtual 79, 3) := by decide +kernel
theorem d_X_tick_34 : decode b_X_tick 34 = .ok (.iinc 2 1, 3) := by decide +kernel
theorem d_X_tick_37 : decode b_X_tick 37 = .ok (.goto (-23), 3) := by decide +kernel
theorem d_X_tick_40 : decode b_X_tick 40 = .ok (.aload_n 0, 1) := by decide +kernel
theorem d_X_tick_41 : decode b_X_tick 41 = .ok (.getfield 53, 3) := by decide +kernel
theorem d_X_tick_44 : decode b_X_tick 44 = .ok (.ireturn, 1) := by decide +kernel
theorem d_X_lose_0 : decode b_X_lose 0 = .ok (.iload_n 1, 1) := by decide +kernel
theorem d_X_lose_1 : decode b_X_lose 1 = .ok (.ifCond .lt 9, 3) := by decide +kernel
theorem d_X_lose_4 : decode b_X_lose 4 = .ok (.iload_n 1, 1) := by decide +kernel
theorem d_X_lose_5 : decode b_X_lose 5 = .ok (.bipush 40, 2) := by decide +kernel
theorem d_X_lose_7 : decode b_X_lose 7 = .ok (.if_icmp .le 5, 3) := by decide +kernel
theorem d_X_lose_10 : decode b_X_lose 10 = .ok (.iconst (-1), 1) := by decide +kernel
theorem d_X_lose_11 : decode b_X_lose 11 = .ok (.ireturn, 1) := by decide +kernel
theorem d_X_lose_12 : decode b_X_lose 12 = .ok (.iconst 0, 1) := by decide +kernel
theorem d_X_lose_13 : decode b_X_lose 13 = .ok (.istore_n 2, 1) := by decide +kernel
theorem d_X_lose_14 : decode b_X_lose 14 = .ok (.iload_n 2, 1) := by decide +kernel
theorem d_X_lose_15 : decode b_X_lose 15 = .ok (.iload_n 1, 1) := by decide +kernel
theorem d_X_lose_16 : decode b_X_lose 16 = .ok (.if_icmp .ge 13, 3) := by decide +kernel
theorem d_X_lose_19 : decode b_X_lose 19 = .ok (.aload_n 0, 1) := by decide +kernel
theorem d_X_lose_20 : decode b_X_lose 20 = .ok (.invokevirtual 76, 3) := by decide +kernel
theorem d_X_lose_23 : decode b_X_lose 23 = .ok (.iinc 2 1, 3) := by decide +kernel
theorem d_X_lose_26 : decode b_X_lose 26 = .ok (.goto (-12), 3) := by decide +kernel
theorem d_X_lose_29 : decode b_X_lose 29 = .ok (.aload_n 0, 1) := by decide +kernel
theorem d_X_lose_30 : decode b_X_lose 30 = .ok (.getfield 53, 3) := by decide +kernel
theorem d_X_lose_33 : decode b_X_lose 33 = .ok (.ireturn, 1) := by decide +kernel
theorem d_X_spoil_0 : decode b_X_spoil 0 = .ok (.iload_n 1, 1) := by decide +kernel
theorem d_X_spoil_1 : decode b_X_spoil 1 = .ok (.invokestatic 83, 3) := by decide +kernel
theorem d_X_spoil_4 : decode b_X_spoil 4 = .ok (.ifCond .eq 14, 3) := by decide +kernel
theorem d_X_spoil_7 : decode b_X_spoil 7 = .ok (.iload_n 2, 1) := by decide +kernel
theorem d_X_spoil_8 : decode b_X_spoil 8 = .ok (.ifCond .lt 10, 3) := by decide +kernel
theorem d_X_spoil_11 : decode b_X_spoil 11 = .ok (.iload_n 2, 1) := by decide +kernel
theorem d_X_spoil_12 : decode b_X_spoil 12 = .ok (.sipush 255, 3) := by decide +kernel
theorem d_X_spoil_15 : decode b_X_spoil 15 = .ok (.if_icmp .le 5, 3) := by decide +kernel
theorem d_X_spoil_18 : decode b_X_spoil 18 = .ok (.iconst (-1), 1) := by decide +kernel
theorem d_X_spoil_19 : decode b_X_spoil 19 = .ok (.ireturn, 1) := by decide +kernel
theorem d_X_spoil_20 : decode b_X_spoil 20 = .ok (.aload_n 0, 1) := by decide +kernel
theorem d_X_spoil_21 : decode b_X_spoil 21 = .ok (.invokevirtual 76, 3) := by decide +kernel
theorem d_X_spoil_24 : decode b_X_spoil 24 = .ok (.aload_n 0, 1) := by decide +kernel
theorem d_X_spoil_25 : decode b_X_spoil 25 = .ok (.getfield 46, 3) := by decide +kernel
theorem d_X_spoil_28 : decode b_X_spoil 28 = .ok (.aload_n 0, 1) := by decide +kernel
theorem d_X_spoil_29 : decode b_X_spoil 29 = .ok (.getfield 42, 3) := by decide +kernel
theorem d_X_spoil_32 : decode b_X_spoil 32 = .ok (.invokevirtual 86, 3) := by decide +kernel
theorem d_X_spoil_35 : decode b_X_spoil 35 = .ok (.aload_n 0, 1) := by decide +kernel
theorem d_X_spoil_36 : decode b_X_spoil 36 = .ok (.getfield 46, 3) := by decide +kernel
theorem d_X_spoil_39 : decode b_X_spoil 39 = .ok (.iload_n 1, 1) := by decide +kernel
theorem d_X_spoil_40 : decode b_X_spoil 40 = .ok (.iload_n 2, 1) := by decide +kernel
theorem d_X_spoil_41 : decode b_X_spoil 41 = .ok (.invokevirtual 89, 3) := by decide +kernel
theorem d_X_spoil_44 : decode b_X_spoil 44 = .ok (.aload_n 0, 1) := by decide +kernel
theorem d_X_spoil_45 : decode b_X_spoil 45 = .ok (.getfield 35, 3) := by decide +kernel
theorem d_X_spoil_48 : decode b_X_spoil 48 = .ok (.aload_n 0, 1) := by decide +kernel
theorem d_X_spoil_49 : decode b_X_spoil 49 = .ok (.getfield 46, 3) := by decide +kernel
theorem d_X_spoil_52 : decode b_X_spoil 52 = .ok (.invokevirtual 79, 3) := by decide +kernel
theorem d_X_spoil_55 : decode b_X_spoil 55 = .ok (.aload_n 0, 1) := by decide +kernel
theorem d_X_spoil_56 : decode b_X_spoil 56 = .ok (.getfield 53, 3) := by decide +kernel
theorem d_X_spoil_59 : decode b_X_spoil 59 = .ok (.ireturn, 1) := by decide +kernel
theorem d_X_packet_0 : decode b_X_packet 0 = .ok (.iload_n 1, 1) := by decide +kernel
theorem d_X_packet_1 : decode b_X_packet 1 = .ok (.invokestatic 83, 3) := by decide +kernel
theorem d_X_packet_4 : decode b_X_packet 4 = .ok (.ifCond .eq 10, 3) := by decide +kernel
theorem d_X_packet_7 : decode b_X_packet 7 = .ok (.aload_n 0, 1) := by decide +kernel
theorem d_X_packet_8 : decode b_X_packet 8 = .ok (.getfield 93, 3) := by decide +kernel
theorem d_X_packet_11 : decode b_X_packet 11 = .ok (.ifCond .ne 5, 3) := by decide +kernel
theorem d_X_packet_14 : decode b_X_packet 14 = .ok (.iconst (-1), 1) := by decide +kernel
theorem d_X_packet_15 : decode b_X_packet 15 = .ok (.ireturn, 1) := by decide +kernel
theorem d_X_packet_16 : decode b_X_packet 16 = .ok (.aload_n 0, 1) := by decide +kernel
theorem d_X_packet_17 : decode b_X_packet 17 = .ok (.getfield 42, 3) := by decide +kernel
theorem d_X_packet_20 : decode b_X_packet 20 = .ok (.iload_n 1, 1) := by decide +kernel
theorem d_X_packet_21 : decode b_X_packet 21 = .ok (.invokevirtual 97, 3) := by decide +kernel
theorem d_X_packet_24 : decode b_X_packet 24 = .ok (.ireturn, 1) := by decide +kernel
theorem d_X_waiting_0 : decode b_X_waiting 0 = .ok (.iload_n 1, 1) := by decide +kernel
theorem d_X_waiting_1 : decode b_X_waiting 1 = .ok (.invokestatic 49, 3) := by decide +kernel
theorem d_X_waiting_4 : decode b_X_waiting 4 = .ok (.ifCond .eq 18, 3) := by decide +kernel
theorem d_X_waiting_7 : decode b_X_waiting 7 = .ok (.aload_n 0, 1) := by decide +kernel
theorem d_X_waiting_8 : decode b_X_waiting 8 = .ok (.getfield 27, 3) := by decide +kernel
theorem d_X_waiting_11 : decode b_X_waiting 11 = .ok (.iload_n 1, 1) := by decide +kernel
theorem d_X_waiting_12 : decode b_X_waiting 12 = .ok (.aaload, 1) := by decide +kernel
theorem d_X_waiting_13 : decode b_X_waiting 13 = .ok (.getfield 59, 3) := by decide +kernel
theorem d_X_waiting_16 : decode b_X_waiting 16 = .ok (.getfield 73, 3) := by decide +kernel
theorem d_X_waiting_19 : decode b_X_waiting 19 = .ok (.goto 4, 3) := by decide +kernel
theorem d_X_waiting_22 : decode b_X_waiting 22 = .ok (.iconst (-1), 1) := by decide +kernel
theorem d_X_waiting_23 : decode b_X_waiting 23 = .ok (.ireturn, 1) := by decide +kernel
theorem d_X_stored_0 : decode b_X_stored 0 = .ok (.iload_n 1, 1) := by decide +kernel
theorem d_X_stored_1 : decode b_X_stored 1 = .ok (.invokestatic 49, 3) := by decide +kernel
theorem d_X_stored_4 : decode b_X_stored 4 = .ok (.ifCond .eq 18, 3) := by decide +kernel
theorem d_X_stored_7 : decode b_X_stored 7 = .ok (.aload_n 0, 1) := by decide +kernel
theorem d_X_stored_8 : decode b_X_stored 8 = .ok (.getfield 27, 3) := by decide +kernel
theorem d_X_stored_11 : decode b_X_stored 11 = .ok (.iload_n 1, 1) := by decide +kernel
theorem d_X_stored_12 : decode b_X_stored 12 = .ok (.aaload, 1) := by decide +kernel
theorem d_X_stored_13 : decode b_X_stored 13 = .ok (.getfield 101, 3) := by decide +kernel
theorem d_X_stored_16 : decode b_X_stored 16 = .ok (.getfield 73, 3) := by decide +kernel
theorem d_X_stored_19 : decode b_X_stored 19 = .ok (.goto 4, 3) := by decide +kernel
theorem d_X_stored_22 : decode b_X_stored 22 = .ok (.iconst (-1), 1) := by decide +kernel
theorem d_X_stored_23 : decode b_X_stored 23 = .ok (.ireturn, 1) := by decide +kernel
theorem d_X_levels_0 : decode b_X_levels 0 = .ok (.iload_n 1, 1) := by decide +kernel
theorem d_X_levels_1 : decode b_X_levels 1 = .ok (.invokestatic 49, 3) := by decide +kernel
theorem d_X_levels_4 : decode b_X_levels 4 = .ok (.ifCond .eq 28, 3) := by decide +kernel
theorem d_X_levels_7 : decode b_X_levels 7 = .ok (.aload_n 0, 1) := by decide +kernel
theorem d_X_levels_8 : decode b_X_levels 8 = .ok (.getfield 27, 3) := by decide +kernel
theorem d_X_levels_11 : decode b_X_levels 11 = .ok (.iload_n 1, 1) := by decide +kernel
theorem d_X_levels_12 : decode b_X_levels 12 = .ok (.aaload, 1) := by decide +kernel
theorem d_X_levels_13 : decode b_X_levels 13 = .ok (.getfield 104, 3) := by decide +kernel
theorem d_X_levels_16 : decode b_X_levels 16 = .ok (.bipush 32, 2) := by decide +kernel
theorem d_X_levels_18 : decode b_X_levels 18 = .ok (.imul, 1) := by decide +kernel
theorem d_X_levels_19 : decode b_X_levels 19 = .ok (.aload_n 0, 1) := by decide +kernel
theorem d_X_levels_20 : decode b_X_levels 20 = .ok (.getfield 27, 3) := by decide +kernel
theorem d_X_levels_23 : decode b_X_levels 23 = .ok (.iload_n 1, 1) := by decide +kernel
theorem d_X_levels_24 : decode b_X_levels 24 = .ok (.aaload, 1) := by decide +kernel
theorem d_X_levels_25 : decode b_X_levels 25 = .ok (.getfield 107, 3) := by decide +kernel
theorem d_X_levels_28 : decode b_X_levels 28 = .ok (.iadd, 1) := by decide +kernel
theorem d_X_levels_29 : decode b_X_levels 29 = .ok (.goto 4, 3) := by decide +kernel
theorem d_X_levels_32 : decode b_X_levels 32 = .ok (.iconst (-1), 1) := by decide +kernel
theorem d_X_levels_33 : decode b_X_levels 33 = .ok (.ireturn, 1) := by decide +kernel
theorem d_X_late_0 : decode b_X_late 0 = .ok (.iload_n 1, 1) := by decide +kernel
theorem d_X_late_1 : decode b_X_late 1 = .ok (.invokestatic 49, 3) := by decide +kernel
theorem d_X_late_4 : decode b_X_late 4 = .ok (.ifCond .eq 15, 3) := by decide +kernel
theorem d_X_late_7 : decode b_X_late 7 = .ok (.aload_n 0, 1) := by decide +kernel
theorem d_X_late_8 : decode b_X_late 8 = .ok (.getfield 27, 3) := by decide +kernel
theorem d_X_late_11 : decode b_X_late 11 = .ok (.iload_n 1, 1) := by decide +kernel
theorem d_X_late_12 : decode b_X_late 12 = .ok (.aaload, 1) := by decide +kernel
theorem d_X_late_13 : decode b_X_late 13 = .ok (.getfield 110, 3) := by decide +kernel
theorem d_X_late_16 : decode b_X_late 16 = .ok (.goto 4, 3) := by decide +kernel
theorem d_X_late_19 : decode b_X_late 19 = .ok (.iconst (-1), 1) := by decide +kernel
theorem d_X_late_20 : decode b_X_late 20 = .ok (.ireturn, 1) := by decide +kernel
theorem d_X_clock_0 : decode b_X_clock 0 = .ok (.aload_n 0, 1) := by decide +kernel
theorem d_X_clock_1 : decode b_X_clock 1 = .ok (.getfield 35, 3) := by decide +kernel
theorem d_X_clock_4 : decode b_X_clock 4 = .ok (.getfield 113, 3) := by decide +kernel
theorem d_X_clock_7 : decode b_X_clock 7 = .ok (.ifCond .eq 13, 3) := by decide +kernel
theorem d_X_clock_10 : decode b_X_clock 10 = .ok (.aload_n 0, 1) := by decide +kernel
theorem d_X_clock_11 : decode b_X_clock 11 = .ok (.getfield 35, 3) := by decide +kernel
theorem d_X_clock_14 : decode b_X_clock 14 = .ok (.getfield 116, 3) := by decide +kernel
theorem d_X_clock_17 : decode b_X_clock 17 = .ok (.goto 4, 3) := by decide +kernel
theorem d_X_clock_20 : decode b_X_clock 20 = .ok (.iconst (-1), 1) := by decide +kernel
theorem d_X_clock_21 : decode b_X_clock 21 = .ok (.ireturn, 1) := by decide +kernel
theorem d_X_retune_0 : decode b_X_retune 0 = .ok (.aload_n 0, 1) := by decide +kernel
theorem d_X_retune_1 : decode b_X_retune 1 = .ok (.getfield 35, 3) := by decide +kernel
theorem d_X_retune_4 : decode b_X_retune 4 = .ok (.invokevirtual 119, 3) := by decide +kernel
theorem d_X_retune_7 : decode b_X_retune 7 = .ok (.return_, 1) := by decide +kernel
theorem d_X_count_0 : decode b_X_count 0 = .ok (.iload_n 1, 1) := by decide +kernel
theorem d_X_count_1 : decode b_X_count 1 = .ok (.ifCond .lt 21, 3) := by decide +kernel
theorem d_X_count_4 : decode b_X_count 4 = .ok (.iload_n 1, 1) := by decide +kernel
theorem d_X_count_5 : decode b_X_count 5 = .ok (.bipush 6, 2) := by decide +kernel
theorem d_X_count_7 : decode b_X_count 7 = .ok (.if_icmp .ge 15, 3) := by decide +kernel
theorem d_X_count_10 : decode b_X_count 10 = .ok (.aload_n 0, 1) := by decide +kernel
theorem d_X_count_11 : decode b_X_count 11 = .ok (.getfield 35, 3) := by decide +kernel
theorem d_X_count_14 : decode b_X_count 14 = .ok (.getfield 122, 3) := by decide +kernel
theorem d_X_count_17 : decode b_X_count 17 = .ok (.iload_n 1, 1) := by decide +kernel
theorem d_X_count_18 : decode b_X_count 18 = .ok (.iaload, 1) := by decide +kernel
theorem d_X_count_19 : decode b_X_count 19 = .ok (.goto 4, 3) := by decide +kernel
theorem d_X_count_22 : decode b_X_count 22 = .ok (.iconst (-1), 1) := by decide +kernel
theorem d_X_count_23 : decode b_X_count 23 = .ok (.ireturn, 1) := by decide +kernel
theorem d_X_latest_0 : decode b_X_latest 0 = .ok (.iload_n 1, 1) := by decide +kernel
theorem d_X_latest_1 : decode b_X_latest 1 = .ok (.invokestatic 49, 3) := by decide +kernel
theorem d_X_latest_4 : decode b_X_latest 4 = .ok (.ifCond .eq 18, 3) := by decide +kernel
theorem d_X_latest_7 : decode b_X_latest 7 = .ok (.aload_n 0, 1) := by decide +kernel
theorem d_X_latest_8 : decode b_X_latest 8 = .ok (.getfield 35, 3) := by decide +kernel
theorem d_X_latest_11 : decode b_X_latest 11 = .ok (.getfield 126, 3) := by decide +kernel
theorem d_X_latest_14 : decode b_X_latest 14 = .ok (.iload_n 1, 1) := by decide +kernel
theorem d_X_latest_15 : decode b_X_latest 15 = .ok (.aaload, 1) := by decide +kernel
theorem d_X_latest_16 : decode b_X_latest 16 = .ok (.getfield 130, 3) := by decide +kernel
theorem d_X_latest_19 : decode b_X_latest 19 = .ok (.ifCond .ne 5, 3) := by decide +kernel
theorem d_X_latest_22 : decode b_X_latest 22 = .ok (.iconst (-1), 1) := by decide +kernel
theorem d_X_latest_23 : decode b_X_latest 23 = .ok (.ireturn, 1) := by decide +kernel
theorem d_X_latest_24 : decode b_X_latest 24 = .ok (.aload_n 0, 1) := by decide +kernel
theorem d_X_latest_25 : decode b_X_latest 25 = .ok (.getfield 35, 3) := by decide +kernel
theorem d_X_latest_28 : decode b_X_latest 28 = .ok (.getfield 126, 3) := by decide +kernel
theorem d_X_latest_31 : decode b_X_latest 31 = .ok (.iload_n 1, 1) := by decide +kernel
theorem d_X_latest_32 : decode b_X_latest 32 = .ok (.aaload, 1) := by decide +kernel
theorem d_X_latest_33 : decode b_X_latest 33 = .ok (.astore_n 3, 1) := by decide +kernel
theorem d_X_latest_34 : decode b_X_latest 34 = .ok (.iload_n 2, 1) := by decide +kernel
theorem d_X_latest_35 : decode b_X_latest 35 = .ok (.tableswitch 40 0 2 #[25, 30, 35], 25) := by decide +kernel
theorem d_X_latest_60 : decode b_X_latest 60 = .ok (.aload_n 3, 1) := by decide +kernel
theorem d_X_latest_61 : decode b_X_latest 61 = .ok (.getfield 135, 3) := by decide +kernel
theorem d_X_latest_64 : decode b_X_latest 64 = .ok (.ireturn, 1) := by decide +kernel
theorem d_X_latest_65 : decode b_X_latest 65 = .ok (.aload_n 3, 1) := by decide +kernel
theorem d_X_latest_66 : decode b_X_latest 66 = .ok (.getfield 138, 3) := by decide +kernel
theorem d_X_latest_69 : decode b_X_latest 69 = .ok (.ireturn, 1) := by decide +kernel
theorem d_X_latest_70 : decode b_X_latest 70 = .ok (.aload_n 3, 1) := by decide +kernel
theorem d_X_latest_71 : decode b_X_latest 71 = .ok (.getfield 130, 3) := by decide +kernel
theorem d_X_latest_74 : decode b_X_latest 74 = .ok (.ireturn, 1) := by decide +kernel
theorem d_X_latest_75 : decode b_X_latest 75 = .ok (.iconst (-1), 1) := by decide +kernel
theorem d_X_latest_76 : decode b_X_latest 76 = .ok (.ireturn, 1) := by decide +kernel
theorem d_X_letter_0 : decode b_X_letter 0 = .ok (.iload_n 1, 1) := by decide +kernel
theorem d_X_letter_1 : decode b_X_letter 1 = .ok (.invokestatic 49, 3) := by decide +kernel
theorem d_X_letter_4 : decode b_X_letter 4 = .ok (.ifCond .eq 18, 3) := by decide +kernel
theorem d_X_letter_7 : decode b_X_letter 7 = .ok (.aload_n 0, 1) := by decide +kernel
theorem d_X_letter_8 : decode b_X_letter 8 = .ok (.getfield 35, 3) := by decide +kernel
theorem d_X_letter_11 : decode b_X_letter 11 = .ok (.getfield 126, 3) := by decide +kernel
theorem d_X_letter_14 : decode b_X_letter 14 = .ok (.iload_n 1, 1) := by decide +kernel
theorem d_X_letter_15 : decode b_X_letter 15 = .ok (.aaload, 1) := by decide +kernel
theorem d_X_letter_16 : decode b_X_letter 16 = .ok (.getfield 130, 3) := by decide +kernel
theorem d_X_letter_19 : decode b_X_letter 19 = .ok (.ifCond .ne 5, 3) := by decide +kernel
theorem d_X_letter_22 : decode b_X_letter 22 = .ok (.iconst (-1), 1) := by decide +kernel
theorem d_X_letter_23 : decode b_X_letter 23 = .ok (.ireturn, 1) := by decide +kernel
theorem d_X_letter_24 : decode b_X_letter 24 = .ok (.aload_n 0, 1) := by decide +kernel
theorem d_X_letter_25 : decode b_X_letter 25 = .ok (.getfield 35, 3) := by decide +kernel
theorem d_X_letter_28 : decode b_X_letter 28 = .ok (.getfield 126, 3) := by decide +kernel
theorem d_X_letter_31 : decode b_X_letter 31 = .ok (.iload_n 1, 1) := by decide +kernel
theorem d_X_letter_32 : decode b_X_letter 32 = .ok (.aaload, 1) := by decide +kernel
theorem d_X_letter_33 : decode b_X_letter 33 = .ok (.astore_n 3, 1) := by decide +kernel
theorem d_X_letter_34 : decode b_X_letter 34 = .ok (.iload_n 2, 1) := by decide +kernel
theorem d_X_letter_35 : decode b_X_letter 35 = .ok (.ifCond .lt 20, 3) := by decide +kernel
theorem d_X_letter_38 : decode b_X_letter 38 = .ok (.iload_n 2, 1) := by decide +kernel
theorem d_X_letter_39 : decode b_X_letter 39 = .ok (.aload_n 3, 1) := by decide +kernel
theorem d_X_letter_40 : decode b_X_letter 40 = .ok (.getfield 135, 3) := by decide +kernel
theorem d_X_letter_43 : decode b_X_letter 43 = .ok (.if_icmp .ge 12, 3) := by decide +kernel
theorem d_X_letter_46 : decode b_X_letter 46 = .ok (.aload_n 3, 1) := by decide +kernel
theorem d_X_letter_47 : decode b_X_letter 47 = .ok (.getfield 141, 3) := by decide +kernel
theorem d_X_letter_50 : decode b_X_letter 50 = .ok (.iload_n 2, 1) := by decide +kernel
theorem d_X_letter_51 : decode b_X_letter 51 = .ok (.iaload, 1) := by decide +kernel
theorem d_X_letter_52 : decode b_X_letter 52 = .ok (.goto 4, 3) := by decide +kernel
theorem d_X_letter_55 : decode b_X_letter 55 = .ok (.iconst (-1), 1) := by decide +kernel
theorem d_X_letter_56 : decode b_X_letter 56 = .ok (.ireturn, 1) := by decide +kernel
theorem d_X_isStream_0 : decode b_X_isStream 0 = .ok (.iload_n 0, 1) := by decide +kernel
theorem d_X_isStream_1 : decode b_X_isStream 1 = .ok (.ifCond .lt 12, 3) := by decide +kernel
theorem d_X_isStream_4 : decode b_X_isStream 4 = .ok (.iload_n 0, 1) := by decide +kernel
theorem d_X_isStream_5 : decode b_X_isStream 5 = .ok (.iconst 3, 1) := by decide +kernel
theorem d_X_isStream_6 : decode b_X_isStream 6 = .ok (.if_icmp .ge 7, 3) := by decide +kernel
theorem d_X_isStream_9 : decode b_X_isStream 9 = .ok (.iconst 1, 1) := by decide +kernel
theorem d_X_isStream_10 : decode b_X_isStream 10 = .ok (.goto 4, 3) := by decide +kernel
theorem d_X_isStream_13 : decode b_X_isStream 13 = .ok (.iconst 0, 1) := by decide +kernel
theorem d_X_isStream_14 : decode b_X_isStream 14 = .ok (.ireturn, 1) := by decide +kernel
theorem d_X_isPacketIndex_0 : decode b_X_isPacketIndex 0 = .ok (.iload_n 0, 1) := by decide +kernel
theorem d_X_isPacketIndex_1 : decode b_X_isPacketIndex 1 = .ok (.ifCond .lt 13, 3) := by decide +kernel
theorem d_X_isPacketIndex_4 : decode b_X_isPacketIndex 4 = .ok (.iload_n 0, 1) := by decide +kernel
theorem d_X_isPacketIndex_5 : decode b_X_isPacketIndex 5 = .ok (.bipush 16, 2) := by decide +kernel
theorem d_X_isPacketIndex_7 : decode b_X_isPacketIndex 7 = .ok (.if_icmp .ge 7, 3) := by decide +kernel
theorem d_X_isPacketIndex_10 : decode b_X_isPacketIndex 10 = .ok (.iconst 1, 1) := by decide +kernel
theorem d_X_isPacketIndex_11 : decode b_X_isPacketIndex 11 = .ok (.goto 4, 3) := by decide +kernel
theorem d_X_isPacketIndex_14 : decode b_X_isPacketIndex 14 = .ok (.iconst 0, 1) := by decide +kernel
theorem d_X_isPacketIndex_15 : decode b_X_isPacketIndex 15 = .ok (.ireturn, 1) := by decide +kernel
theorem d_X_sendPacket_0 : decode b_X_sendPacket 0 = .ok (.iconst 0, 1) := by decide +kernel
theorem d_X_sendPacket_1 : decode b_X_sendPacket 1 = .ok (.istore_n 1, 1) := by decide +kernel
theorem d_X_sendPacket_2 : decode b_X_sendPacket 2 = .ok (.iload_n 1, 1) := by decide +kernel
theorem d_X_sendPacket_3 : decode b_X_sendPacket 3 = .ok (.iconst 3, 1) := by decide +kernel
theorem d_X_sendPacket_4 : decode b_X_sendPacket 4 = .ok (.if_icmp .ge 26, 3) := by decide +kernel
theorem d_X_sendPacket_7 : decode b_X_sendPacket 7 = .ok (.aload_n 0, 1) := by decide +kernel
theorem d_X_sendPacket_8 : decode b_X_sendPacket 8 = .ok (.getfield 27, 3) := by decide +kernel
theorem d_X_sendPacket_11 : decode b_X_sendPacket 11 = .ok (.iload_n 1, 1) := by decide +kernel
theorem d_X_sendPacket_12 : decode b_X_sendPacket 12 = .ok (.aaload, 1) := by decide +kernel
theorem d_X_sendPacket_13 : decode b_X_sendPacket 13 = .ok (.aload_n 0, 1) := by decide +kernel
theorem d_X_sendPacket_14 : decode b_X_sendPacket 14 = .ok (.getfield 53, 3) := by decide +kernel
theorem d_X_sendPacket_17 : decode b_X_sendPacket 17 = .ok (.aload_n 0, 1) := by decide +kernel
theorem d_X_sendPacket_18 : decode b_X_sendPacket 18 = .ok (.getfield 18, 3) := by decide +kernel
theorem d_X_sendPacket_21 : decode b_X_sendPacket 21 = .ok (.invokevirtual 144, 3) := by decide +kernel
theorem d_X_sendPacket_24 : decode b_X_sendPacket 24 = .ok (.iinc 1 1, 3) := by decide +kernel
theorem d_X_sendPacket_27 : decode b_X_sendPacket 27 = .ok (.goto (-25), 3) := by decide +kernel
theorem d_X_sendPacket_30 : decode b_X_sendPacket 30 = .ok (.aload_n 0, 1) := by decide +kernel
theorem d_X_sendPacket_31 : decode b_X_sendPacket 31 = .ok (.getfield 53, 3) := by decide +kernel
theorem d_X_sendPacket_34 : decode b_X_sendPacket 34 = .ok (.bipush 8, 2) := by decide +kernel
theorem d_X_sendPacket_36 : decode b_X_sendPacket 36 = .ok (.irem, 1) := by decide +kernel
theorem d_X_sendPacket_37 : decode b_X_sendPacket 37 = .ok (.ifCond .ne 7, 3) := by decide +kernel
theorem d_X_sendPacket_40 : decode b_X_sendPacket 40 = .ok (.iconst 1, 1) := by decide +kernel
theorem d_X_sendPacket_41 : decode b_X_sendPacket 41 = .ok (.goto 4, 3) := by decide +kernel
theorem d_X_sendPacket_44 : decode b_X_sendPacket 44 = .ok (.iconst 0, 1) := by decide +kernel
theorem d_X_sendPacket_45 : decode b_X_sendPacket 45 = .ok (.istore_n 1, 1) := by decide +kernel
theorem d_X_sendPacket_46 : decode b_X_sendPacket 46 = .ok (.aload_n 0, 1) := by decide +kernel
theorem d_X_sendPacket_47 : decode b_X_sendPacket 47 = .ok (.iload_n 1, 1) := by decide +kernel
theorem d_X_sendPacket_48 : decode b_X_sendPacket 48 = .ok (.invokevirtual 147, 3) := by decide +kernel
theorem d_X_sendPacket_51 : decode b_X_sendPacket 51 = .ok (.istore_n 2, 1) := by decide +kernel
theorem d_X_sendPacket_52 : decode b_X_sendPacket 52 = .ok (.aload_n 0, 1) := by decide +kernel
theorem d_X_sendPacket_53 : decode b_X_sendPacket 53 = .ok (.getfield 42, 3) := by decide +kernel
theorem d_X_sendPacket_56 : decode b_X_sendPacket 56 = .ok (.invokevirtual 151, 3) := by decide +kernel
theorem d_X_sendPacket_59 : decode b_X_sendPacket 59 = .ok (.iload_n 2, 1) := by decide +kernel
theorem d_X_sendPacket_60 : decode b_X_sendPacket 60 = .ok (.invokestatic 49, 3) := by decide +kernel
theorem d_X_sendPacket_63 : decode b_X_sendPacket 63 = .ok (.ifCond .eq 12, 3) := by decide +kernel
theorem d_X_sendPacket_66 : decode b_X_sendPacket 66 = .ok (.aload_n 0, 1) := by decide +kernel
end
section
theorem d_X_sendPacket_67 : decode b_X_sendPacket 67 = .ok (.iload_n 2, 1) := by decide +kernel
theorem d_X_sendPacket_68 : decode b_X_sendPacket 68 = .ok (.iload_n 1, 1) := by decide +kernel
theorem d_X_sendPacket_69 : decode b_X_sendPacket 69 = .ok (.invokevirtual 154, 3) := by decide +kernel
theorem d_X_sendPacket_72 : decode b_X_sendPacket 72 = .ok (.goto 11, 3) := by decide +kernel
theorem d_X_sendPacket_75 : decode b_X_sendPacket 75 = .ok (.aload_n 0, 1) := by decide +kernel
theorem d_X_sendPacket_76 : decode b_X_sendPacket 76 = .ok (.iconst 3, 1) := by decide +kernel
theorem d_X_sendPacket_77 : decode b_X_sendPacket 77 = .ok (.iload_n 1, 1) := by decide +kernel
theorem d_X_sendPacket_78 : decode b_X_sendPacket 78 = .ok (.iconst 0, 1) := by decide +kernel
theorem d_X_sendPacket_79 : decode b_X_sendPacket 79 = .ok (.iconst 0, 1) := by decide +kernel
theorem d_X_sendPacket_80 : decode b_X_sendPacket 80 = .ok (.invokevirtual 158, 3) := by decide +kernel
theorem d_X_sendPacket_83 : decode b_X_sendPacket 83 = .ok (.aload_n 0, 1) := by decide +kernel
theorem d_X_sendPacket_84 : decode b_X_sendPacket 84 = .ok (.iconst 1, 1) := by decide +kernel
theorem d_X_sendPacket_85 : decode b_X_sendPacket 85 = .ok (.putfield 93, 3) := by decide +kernel
theorem d_X_sendPacket_88 : decode b_X_sendPacket 88 = .ok (.aload_n 0, 1) := by decide +kernel
theorem d_X_sendPacket_89 : decode b_X_sendPacket 89 = .ok (.dup, 1) := by decide +kernel
theorem d_X_sendPacket_90 : decode b_X_sendPacket 90 = .ok (.getfield 53, 3) := by decide +kernel
theorem d_X_sendPacket_93 : decode b_X_sendPacket 93 = .ok (.iconst 1, 1) := by decide +kernel
theorem d_X_sendPacket_94 : decode b_X_sendPacket 94 = .ok (.iadd, 1) := by decide +kernel
theorem d_X_sendPacket_95 : decode b_X_sendPacket 95 = .ok (.putfield 53, 3) := by decide +kernel
theorem d_X_sendPacket_98 : decode b_X_sendPacket 98 = .ok (.return_, 1) := by decide +kernel
theorem d_X_chooseStream_0 : decode b_X_chooseStream 0 = .ok (.iconst 3, 1) := by decide +kernel
theorem d_X_chooseStream_1 : decode b_X_chooseStream 1 = .ok (.istore_n 2, 1) := by decide +kernel
theorem d_X_chooseStream_2 : decode b_X_chooseStream 2 = .ok (.iconst 0, 1) := by decide +kernel
theorem d_X_chooseStream_3 : decode b_X_chooseStream 3 = .ok (.istore_n 3, 1) := by decide +kernel
theorem d_X_chooseStream_4 : decode b_X_chooseStream 4 = .ok (.iconst 0, 1) := by decide +kernel
theorem d_X_chooseStream_5 : decode b_X_chooseStream 5 = .ok (.istore 4, 2) := by decide +kernel
theorem d_X_chooseStream_7 : decode b_X_chooseStream 7 = .ok (.iload 4, 2) := by decide +kernel
theorem d_X_chooseStream_9 : decode b_X_chooseStream 9 = .ok (.iconst 3, 1) := by decide +kernel
theorem d_X_chooseStream_10 : decode b_X_chooseStream 10 = .ok (.if_icmp .ge 59, 3) := by decide +kernel
theorem d_X_chooseStream_13 : decode b_X_chooseStream 13 = .ok (.aload_n 0, 1) := by decide +kernel
theorem d_X_chooseStream_14 : decode b_X_chooseStream 14 = .ok (.getfield 27, 3) := by decide +kernel
theorem d_X_chooseStream_17 : decode b_X_chooseStream 17 = .ok (.iload 4, 2) := by decide +kernel
theorem d_X_chooseStream_19 : decode b_X_chooseStream 19 = .ok (.aaload, 1) := by decide +kernel
theorem d_X_chooseStream_20 : decode b_X_chooseStream 20 = .ok (.iload_n 1, 1) := by decide +kernel
theorem d_X_chooseStream_21 : decode b_X_chooseStream 21 = .ok (.aload_n 0, 1) := by decide +kernel
theorem d_X_chooseStream_22 : decode b_X_chooseStream 22 = .ok (.getfield 22, 3) := by decide +kernel
theorem d_X_chooseStream_25 : decode b_X_chooseStream 25 = .ok (.invokevirtual 162, 3) := by decide +kernel
theorem d_X_chooseStream_28 : decode b_X_chooseStream 28 = .ok (.ifCond .eq 35, 3) := by decide +kernel
theorem d_X_chooseStream_31 : decode b_X_chooseStream 31 = .ok (.aload_n 0, 1) := by decide +kernel
theorem d_X_chooseStream_32 : decode b_X_chooseStream 32 = .ok (.getfield 27, 3) := by decide +kernel
theorem d_X_chooseStream_35 : decode b_X_chooseStream 35 = .ok (.iload 4, 2) := by decide +kernel
theorem d_X_chooseStream_37 : decode b_X_chooseStream 37 = .ok (.aaload, 1) := by decide +kernel
theorem d_X_chooseStream_38 : decode b_X_chooseStream 38 = .ok (.getfield 59, 3) := by decide +kernel
theorem d_X_chooseStream_41 : decode b_X_chooseStream 41 = .ok (.invokevirtual 166, 3) := by decide +kernel
theorem d_X_chooseStream_44 : decode b_X_chooseStream 44 = .ok (.istore 5, 2) := by decide +kernel
theorem d_X_chooseStream_46 : decode b_X_chooseStream 46 = .ok (.iload_n 2, 1) := by decide +kernel
theorem d_X_chooseStream_47 : decode b_X_chooseStream 47 = .ok (.iconst 3, 1) := by decide +kernel
theorem d_X_chooseStream_48 : decode b_X_chooseStream 48 = .ok (.if_icmp .eq 9, 3) := by decide +kernel
theorem d_X_chooseStream_51 : decode b_X_chooseStream 51 = .ok (.iload 5, 2) := by decide +kernel
theorem d_X_chooseStream_53 : decode b_X_chooseStream 53 = .ok (.iload_n 3, 1) := by decide +kernel
theorem d_X_chooseStream_54 : decode b_X_chooseStream 54 = .ok (.if_icmp .ge 9, 3) := by decide +kernel
theorem d_X_chooseStream_57 : decode b_X_chooseStream 57 = .ok (.iload 4, 2) := by decide +kernel
theorem d_X_chooseStream_59 : decode b_X_chooseStream 59 = .ok (.istore_n 2, 1) := by decide +kernel
theorem d_X_chooseStream_60 : decode b_X_chooseStream 60 = .ok (.iload 5, 2) := by decide +kernel
theorem d_X_chooseStream_62 : decode b_X_chooseStream 62 = .ok (.istore_n 3, 1) := by decide +kernel
theorem d_X_chooseStream_63 : decode b_X_chooseStream 63 = .ok (.iinc 4 1, 3) := by decide +kernel
theorem d_X_chooseStream_66 : decode b_X_chooseStream 66 = .ok (.goto (-59), 3) := by decide +kernel
theorem d_X_chooseStream_69 : decode b_X_chooseStream 69 = .ok (.iload_n 2, 1) := by decide +kernel
theorem d_X_chooseStream_70 : decode b_X_chooseStream 70 = .ok (.ireturn, 1) := by decide +kernel
theorem d_X_fillPacket_0 : decode b_X_fillPacket 0 = .ok (.aload_n 0, 1) := by decide +kernel
theorem d_X_fillPacket_1 : decode b_X_fillPacket 1 = .ok (.getfield 27, 3) := by decide +kernel
theorem d_X_fillPacket_4 : decode b_X_fillPacket 4 = .ok (.iload_n 1, 1) := by decide +kernel
theorem d_X_fillPacket_5 : decode b_X_fillPacket 5 = .ok (.aaload, 1) := by decide +kernel
theorem d_X_fillPacket_6 : decode b_X_fillPacket 6 = .ok (.astore_n 3, 1) := by decide +kernel
theorem d_X_fillPacket_7 : decode b_X_fillPacket 7 = .ok (.aload_n 0, 1) := by decide +kernel
theorem d_X_fillPacket_8 : decode b_X_fillPacket 8 = .ok (.iload_n 1, 1) := by decide +kernel
theorem d_X_fillPacket_9 : decode b_X_fillPacket 9 = .ok (.iload_n 2, 1) := by decide +kernel
theorem d_X_fillPacket_10 : decode b_X_fillPacket 10 = .ok (.aload_n 3, 1) := by decide +kernel
theorem d_X_fillPacket_11 : decode b_X_fillPacket 11 = .ok (.invokevirtual 170, 3) := by decide +kernel
theorem d_X_fillPacket_14 : decode b_X_fillPacket 14 = .ok (.aload_n 3, 1) := by decide +kernel
theorem d_X_fillPacket_15 : decode b_X_fillPacket 15 = .ok (.invokevirtual 173, 3) := by decide +kernel
theorem d_X_fillPacket_18 : decode b_X_fillPacket 18 = .ok (.invokevirtual 158, 3) := by decide +kernel
theorem d_X_fillPacket_21 : decode b_X_fillPacket 21 = .ok (.aload_n 3, 1) := by decide +kernel
theorem d_X_fillPacket_22 : decode b_X_fillPacket 22 = .ok (.invokevirtual 170, 3) := by decide +kernel
theorem d_X_fillPacket_25 : decode b_X_fillPacket 25 = .ok (.ifCond .eq 31, 3) := by decide +kernel
theorem d_X_fillPacket_28 : decode b_X_fillPacket 28 = .ok (.aload_n 0, 1) := by decide +kernel
theorem d_X_fillPacket_29 : decode b_X_fillPacket 29 = .ok (.getfield 42, 3) := by decide +kernel
theorem d_X_fillPacket_32 : decode b_X_fillPacket 32 = .ok (.aload_n 3, 1) := by decide +kernel
theorem d_X_fillPacket_33 : decode b_X_fillPacket 33 = .ok (.getfield 59, 3) := by decide +kernel
theorem d_X_fillPacket_36 : decode b_X_fillPacket 36 = .ok (.invokevirtual 176, 3) := by decide +kernel
theorem d_X_fillPacket_39 : decode b_X_fillPacket 39 = .ok (.invokevirtual 179, 3) := by decide +kernel
theorem d_X_fillPacket_42 : decode b_X_fillPacket 42 = .ok (.aload_n 0, 1) := by decide +kernel
theorem d_X_fillPacket_43 : decode b_X_fillPacket 43 = .ok (.getfield 42, 3) := by decide +kernel
theorem d_X_fillPacket_46 : decode b_X_fillPacket 46 = .ok (.aload_n 3, 1) := by decide +kernel
theorem d_X_fillPacket_47 : decode b_X_fillPacket 47 = .ok (.getfield 59, 3) := by decide +kernel
theorem d_X_fillPacket_50 : decode b_X_fillPacket 50 = .ok (.invokevirtual 166, 3) := by decide +kernel
theorem d_X_fillPacket_53 : decode b_X_fillPacket 53 = .ok (.invokevirtual 183, 3) := by decide +kernel
theorem d_X_fillPacket_56 : decode b_X_fillPacket 56 = .ok (.aload_n 3, 1) := by decide +kernel
theorem d_X_fillPacket_57 : decode b_X_fillPacket 57 = .ok (.aload_n 3, 1) := by decide +kernel
theorem d_X_fillPacket_58 : decode b_X_fillPacket 58 = .ok (.iload_n 2, 1) := by decide +kernel
theorem d_X_fillPacket_59 : decode b_X_fillPacket 59 = .ok (.invokevirtual 186, 3) := by decide +kernel
theorem d_X_fillPacket_62 : decode b_X_fillPacket 62 = .ok (.aload_n 0, 1) := by decide +kernel
theorem d_X_fillPacket_63 : decode b_X_fillPacket 63 = .ok (.getfield 42, 3) := by decide +kernel
theorem d_X_fillPacket_66 : decode b_X_fillPacket 66 = .ok (.invokevirtual 189, 3) := by decide +kernel
theorem d_X_fillPacket_69 : decode b_X_fillPacket 69 = .ok (.return_, 1) := by decide +kernel
theorem d_X_putHead_0 : decode b_X_putHead 0 = .ok (.aload_n 0, 1) := by decide +kernel
theorem d_X_putHead_1 : decode b_X_putHead 1 = .ok (.getfield 42, 3) := by decide +kernel
theorem d_X_putHead_4 : decode b_X_putHead 4 = .ok (.bipush 71, 2) := by decide +kernel
theorem d_X_putHead_6 : decode b_X_putHead 6 = .ok (.invokevirtual 179, 3) := by decide +kernel
theorem d_X_putHead_9 : decode b_X_putHead 9 = .ok (.aload_n 0, 1) := by decide +kernel
theorem d_X_putHead_10 : decode b_X_putHead 10 = .ok (.getfield 42, 3) := by decide +kernel
theorem d_X_putHead_13 : decode b_X_putHead 13 = .ok (.iload_n 3, 1) := by decide +kernel
theorem d_X_putHead_14 : decode b_X_putHead 14 = .ok (.ifCond .eq 9, 3) := by decide +kernel
theorem d_X_putHead_17 : decode b_X_putHead 17 = .ok (.sipush 128, 3) := by decide +kernel
theorem d_X_putHead_20 : decode b_X_putHead 20 = .ok (.goto 4, 3) := by decide +kernel
theorem d_X_putHead_23 : decode b_X_putHead 23 = .ok (.iconst 0, 1) := by decide +kernel
theorem d_X_putHead_24 : decode b_X_putHead 24 = .ok (.iload_n 2, 1) := by decide +kernel
theorem d_X_putHead_25 : decode b_X_putHead 25 = .ok (.ifCond .eq 8, 3) := by decide +kernel
theorem d_X_putHead_28 : decode b_X_putHead 28 = .ok (.bipush 64, 2) := by decide +kernel
theorem d_X_putHead_30 : decode b_X_putHead 30 = .ok (.goto 4, 3) := by decide +kernel
theorem d_X_putHead_33 : decode b_X_putHead 33 = .ok (.iconst 0, 1) := by decide +kernel
theorem d_X_putHead_34 : decode b_X_putHead 34 = .ok (.iadd, 1) := by decide +kernel
theorem d_X_putHead_35 : decode b_X_putHead 35 = .ok (.bipush 16, 2) := by decide +kernel
theorem d_X_putHead_37 : decode b_X_putHead 37 = .ok (.iload_n 1, 1) := by decide +kernel
theorem d_X_putHead_38 : decode b_X_putHead 38 = .ok (.imul, 1) := by decide +kernel
theorem d_X_putHead_39 : decode b_X_putHead 39 = .ok (.iadd, 1) := by decide +kernel
theorem d_X_putHead_40 : decode b_X_putHead 40 = .ok (.iload 4, 2) := by decide +kernel
theorem d_X_putHead_42 : decode b_X_putHead 42 = .ok (.iadd, 1) := by decide +kernel
theorem d_X_putHead_43 : decode b_X_putHead 43 = .ok (.invokevirtual 179, 3) := by decide +kernel
theorem d_X_putHead_46 : decode b_X_putHead 46 = .ok (.iload_n 2, 1) := by decide +kernel
theorem d_X_putHead_47 : decode b_X_putHead 47 = .ok (.ifCond .eq 14, 3) := by decide +kernel
theorem d_X_putHead_50 : decode b_X_putHead 50 = .ok (.aload_n 0, 1) := by decide +kernel
theorem d_X_putHead_51 : decode b_X_putHead 51 = .ok (.getfield 42, 3) := by decide +kernel
theorem d_X_putHead_54 : decode b_X_putHead 54 = .ok (.aload_n 0, 1) := by decide +kernel
theorem d_X_putHead_55 : decode b_X_putHead 55 = .ok (.getfield 53, 3) := by decide +kernel
theorem d_X_putHead_58 : decode b_X_putHead 58 = .ok (.invokevirtual 183, 3) := by decide +kernel
theorem d_X_putHead_61 : decode b_X_putHead 61 = .ok (.return_, 1) := by decide +kernel
theorem d_L_cell_0 : decode b_L_cell 0 = .ok (.iload_n 1, 1) := by decide +kernel
theorem d_L_cell_1 : decode b_L_cell 1 = .ok (.aload_n 0, 1) := by decide +kernel
theorem d_L_cell_2 : decode b_L_cell 2 = .ok (.arraylength, 1) := by decide +kernel
theorem d_L_cell_3 : decode b_L_cell 3 = .ok (.if_icmp .ge 9, 3) := by decide +kernel
theorem d_L_cell_6 : decode b_L_cell 6 = .ok (.aload_n 0, 1) := by decide +kernel
theorem d_L_cell_7 : decode b_L_cell 7 = .ok (.iload_n 1, 1) := by decide +kernel
theorem d_L_cell_8 : decode b_L_cell 8 = .ok (.iaload, 1) := by decide +kernel
theorem d_L_cell_9 : decode b_L_cell 9 = .ok (.goto 4, 3) := by decide +kernel
theorem d_L_cell_12 : decode b_L_cell 12 = .ok (.iconst 0, 1) := by decide +kernel
theorem d_L_cell_13 : decode b_L_cell 13 = .ok (.ireturn, 1) := by decide +kernel
theorem d_L_law_0 : decode code 0 = .ok (.new 7, 3) := by decide +kernel
theorem d_L_law_3 : decode code 3 = .ok (.dup, 1) := by decide +kernel
theorem d_L_law_4 : decode code 4 = .ok (.aload_n 0, 1) := by decide +kernel
theorem d_L_law_5 : decode code 5 = .ok (.iconst 0, 1) := by decide +kernel
theorem d_L_law_6 : decode code 6 = .ok (.invokestatic 9, 3) := by decide +kernel
theorem d_L_law_9 : decode code 9 = .ok (.aload_n 0, 1) := by decide +kernel
theorem d_L_law_10 : decode code 10 = .ok (.iconst 1, 1) := by decide +kernel
theorem d_L_law_11 : decode code 11 = .ok (.invokestatic 9, 3) := by decide +kernel
theorem d_L_law_14 : decode code 14 = .ok (.invokespecial 15, 3) := by decide +kernel
theorem d_L_law_17 : decode code 17 = .ok (.astore_n 1, 1) := by decide +kernel
theorem d_L_law_18 : decode code 18 = .ok (.new 18, 3) := by decide +kernel
theorem d_L_law_21 : decode code 21 = .ok (.dup, 1) := by decide +kernel
theorem d_L_law_22 : decode code 22 = .ok (.aload_n 0, 1) := by decide +kernel
theorem d_L_law_23 : decode code 23 = .ok (.iconst 0, 1) := by decide +kernel
theorem d_L_law_24 : decode code 24 = .ok (.invokestatic 9, 3) := by decide +kernel
theorem d_L_law_27 : decode code 27 = .ok (.aload_n 0, 1) := by decide +kernel
theorem d_L_law_28 : decode code 28 = .ok (.iconst 1, 1) := by decide +kernel
theorem d_L_law_29 : decode code 29 = .ok (.invokestatic 9, 3) := by decide +kernel
theorem d_L_law_32 : decode code 32 = .ok (.invokespecial 20, 3) := by decide +kernel
theorem d_L_law_35 : decode code 35 = .ok (.astore_n 2, 1) := by decide +kernel
theorem d_L_law_36 : decode code 36 = .ok (.iconst 2, 1) := by decide +kernel
theorem d_L_law_37 : decode code 37 = .ok (.istore_n 3, 1) := by decide +kernel
theorem d_L_law_38 : decode code 38 = .ok (.iload_n 3, 1) := by decide +kernel
theorem d_L_law_39 : decode code 39 = .ok (.aload_n 0, 1) := by decide +kernel
theorem d_L_law_40 : decode code 40 = .ok (.arraylength, 1) := by decide +kernel
theorem d_L_law_41 : decode code 41 = .ok (.iconst 5, 1) := by decide +kernel
theorem d_L_law_42 : decode code 42 = .ok (.isub, 1) := by decide +kernel
theorem d_L_law_43 : decode code 43 = .ok (.if_icmp .gt 447, 3) := by decide +kernel
theorem d_L_law_46 : decode code 46 = .ok (.aload_n 0, 1) := by decide +kernel
theorem d_L_law_47 : decode code 47 = .ok (.iload_n 3, 1) := by decide +kernel
theorem d_L_law_48 : decode code 48 = .ok (.iaload, 1) := by decide +kernel
theorem d_L_law_49 : decode code 49 = .ok (.bipush 15, 2) := by decide +kernel
theorem d_L_law_51 : decode code 51 = .ok (.iand, 1) := by decide +kernel
theorem d_L_law_52 : decode code 52 = .ok (.tableswitch 432 0 13 #[72, 125, 148, 171, 204, 227, 250, 273, 296, 319, 332, 343, 366, 399], 72) := by decide +kernel
theorem d_L_law_124 : decode code 124 = .ok (.aload_n 1, 1) := by decide +kernel
theorem d_L_law_125 : decode code 125 = .ok (.aload_n 0, 1) := by decide +kernel
theorem d_L_law_126 : decode code 126 = .ok (.iload_n 3, 1) := by decide +kernel
theorem d_L_law_127 : decode code 127 = .ok (.iconst 1, 1) := by decide +kernel
theorem d_L_law_128 : decode code 128 = .ok (.iadd, 1) := by decide +kernel
theorem d_L_law_129 : decode code 129 = .ok (.iaload, 1) := by decide +kernel
theorem d_L_law_130 : decode code 130 = .ok (.aload_n 0, 1) := by decide +kernel
theorem d_L_law_131 : decode code 131 = .ok (.iload_n 3, 1) := by decide +kernel
theorem d_L_law_132 : decode code 132 = .ok (.iconst 2, 1) := by decide +kernel
theorem d_L_law_133 : decode code 133 = .ok (.iadd, 1) := by decide +kernel
theorem d_L_law_134 : decode code 134 = .ok (.iaload, 1) := by decide +kernel
theorem d_L_law_135 : decode code 135 = .ok (.aload_n 0, 1) := by decide +kernel
theorem d_L_law_136 : decode code 136 = .ok (.iload_n 3, 1) := by decide +kernel
theorem d_L_law_137 : decode code 137 = .ok (.iconst 3, 1) := by decide +kernel
theorem d_L_law_138 : decode code 138 = .ok (.iadd, 1) := by decide +kernel
theorem d_L_law_139 : decode code 139 = .ok (.iaload, 1) := by decide +kernel
theorem d_L_law_140 : decode code 140 = .ok (.aload_n 0, 1) := by decide +kernel
theorem d_L_law_141 : decode code 141 = .ok (.iload_n 3, 1) := by decide +kernel
theorem d_L_law_142 : decode code 142 = .ok (.iconst 4, 1) := by decide +kernel
theorem d_L_law_143 : decode code 143 = .ok (.iadd, 1) := by decide +kernel
theorem d_L_law_144 : decode code 144 = .ok (.iaload, 1) := by decide +kernel
theorem d_L_law_145 : decode code 145 = .ok (.invokevirtual 21, 3) := by decide +kernel
theorem d_L_law_148 : decode code 148 = .ok (.aload_n 2, 1) := by decide +kernel
theorem d_L_law_149 : decode code 149 = .ok (.aload_n 0, 1) := by decide +kernel
theorem d_L_law_150 : decode code 150 = .ok (.iload_n 3, 1) := by decide +kernel
theorem d_L_law_151 : decode code 151 = .ok (.iconst 1, 1) := by decide +kernel
theorem d_L_law_152 : decode code 152 = .ok (.iadd, 1) := by decide +kernel
theorem d_L_law_153 : decode code 153 = .ok (.iaload, 1) := by decide +kernel
theorem d_L_law_154 : decode code 154 = .ok (.aload_n 0, 1) := by decide +kernel
theorem d_L_law_155 : decode code 155 = .ok (.iload_n 3, 1) := by decide +kernel
theorem d_L_law_156 : decode code 156 = .ok (.iconst 2, 1) := by decide +kernel
theorem d_L_law_157 : decode code 157 = .ok (.iadd, 1) := by decide +kernel
theorem d_L_law_158 : decode code 158 = .ok (.iaload, 1) := by decide +kernel
theorem d_L_law_159 : decode code 159 = .ok (.aload_n 0, 1) := by decide +kernel
theorem d_L_law_160 : decode code 160 = .ok (.iload_n 3, 1) := by decide +kernel
theorem d_L_law_161 : decode code 161 = .ok (.iconst 3, 1) := by decide +kernel
theorem d_L_law_162 : decode code 162 = .ok (.iadd, 1) := by decide +kernel
theorem d_L_law_163 : decode code 163 = .ok (.iaload, 1) := by decide +kernel
theorem d_L_law_164 : decode code 164 = .ok (.aload_n 0, 1) := by decide +kernel
theorem d_L_law_165 : decode code 165 = .ok (.iload_n 3, 1) := by decide +kernel
theorem d_L_law_166 : decode code 166 = .ok (.iconst 4, 1) := by decide +kernel
theorem d_L_law_167 : decode code 167 = .ok (.iadd, 1) := by decide +kernel
theorem d_L_law_168 : decode code 168 = .ok (.iaload, 1) := by decide +kernel
theorem d_L_law_169 : decode code 169 = .ok (.invokevirtual 25, 3) := by decide +kernel
theorem d_L_law_172 : decode code 172 = .ok (.if_icmp .eq 312, 3) := by decide +kernel
theorem d_L_law_175 : decode code 175 = .ok (.iconst 0, 1) := by decide +kernel
theorem d_L_law_176 : decode code 176 = .ok (.ireturn, 1) := by decide +kernel
theorem d_L_law_177 : decode code 177 = .ok (.aload_n 1, 1) := by decide +kernel
theorem d_L_law_178 : decode code 178 = .ok (.aload_n 0, 1) := by decide +kernel
theorem d_L_law_179 : decode code 179 = .ok (.iload_n 3, 1) := by decide +kernel
theorem d_L_law_180 : decode code 180 = .ok (.iconst 1, 1) := by decide +kernel
theorem d_L_law_181 : decode code 181 = .ok (.iadd, 1) := by decide +kernel
theorem d_L_law_182 : decode code 182 = .ok (.iaload, 1) := by decide +kernel
theorem d_L_law_183 : decode code 183 = .ok (.invokevirtual 26, 3) := by decide +kernel
theorem d_L_law_186 : decode code 186 = .ok (.aload_n 2, 1) := by decide +kernel
theorem d_L_law_187 : decode code 187 = .ok (.aload_n 0, 1) := by decide +kernel
theorem d_L_law_188 : decode code 188 = .ok (.iload_n 3, 1) := by decide +kernel
theorem d_L_law_189 : decode code 189 = .ok (.iconst 1, 1) := by decide +kernel
theorem d_L_law_190 : decode code 190 = .ok (.iadd, 1) := by decide +kernel
theorem d_L_law_191 : decode code 191 = .ok (.iaload, 1) := by decide +kernel
theorem d_L_law_192 : decode code 192 = .ok (.invokevirtual 30, 3) := by decide +kernel
theorem d_L_law_195 : decode code 195 = .ok (.if_icmp .eq 289, 3) := by decide +kernel
theorem d_L_law_198 : decode code 198 = .ok (.iconst 0, 1) := by decide +kernel
theorem d_L_law_199 : decode code 199 = .ok (.ireturn, 1) := by decide +kernel
theorem d_L_law_200 : decode code 200 = .ok (.aload_n 1, 1) := by decide +kernel
theorem d_L_law_201 : decode code 201 = .ok (.aload_n 0, 1) := by decide +kernel
theorem d_L_law_202 : decode code 202 = .ok (.iload_n 3, 1) := by decide +kernel
theorem d_L_law_203 : decode code 203 = .ok (.iconst 1, 1) := by decide +kernel
theorem d_L_law_204 : decode code 204 = .ok (.iadd, 1) := by decide +kernel
theorem d_L_law_205 : decode code 205 = .ok (.iaload, 1) := by decide +kernel
theorem d_L_law_206 : decode code 206 = .ok (.invokevirtual 31, 3) := by decide +kernel
theorem d_L_law_209 : decode code 209 = .ok (.aload_n 2, 1) := by decide +kernel
theorem d_L_law_210 : decode code 210 = .ok (.aload_n 0, 1) := by decide +kernel
theorem d_L_law_211 : decode code 211 = .ok (.iload_n 3, 1) := by decide +kernel
theorem d_L_law_212 : decode code 212 = .ok (.iconst 1, 1) := by decide +kernel
theorem d_L_law_213 : decode code 213 = .ok (.iadd, 1) := by decide +kernel
theorem d_L_law_214 : decode code 214 = .ok (.iaload, 1) := by decide +kernel
theorem d_L_law_215 : decode code 215 = .ok (.invokevirtual 34, 3) := by decide +kernel
theorem d_L_law_218 : decode code 218 = .ok (.if_icmp .eq 266, 3) := by decide +kernel
theorem d_L_law_221 : decode code 221 = .ok (.iconst 0, 1) := by decide +kernel
theorem d_L_law_222 : decode code 222 = .ok (.ireturn, 1) := by decide +kernel
theorem d_L_law_223 : decode code 223 = .ok (.aload_n 1, 1) := by decide +kernel
theorem d_L_law_224 : decode code 224 = .ok (.aload_n 0, 1) := by decide +kernel
theorem d_L_law_225 : decode code 225 = .ok (.iload_n 3, 1) := by decide +kernel
theorem d_L_law_226 : decode code 226 = .ok (.iconst 1, 1) := by decide +kernel
theorem d_L_law_227 : decode code 227 = .ok (.iadd, 1) := by decide +kernel
theorem d_L_law_228 : decode code 228 = .ok (.iaload, 1) := by decide +kernel
theorem d_L_law_229 : decode code 229 = .ok (.aload_n 0, 1) := by decide +kernel
theorem d_L_law_230 : decode code 230 = .ok (.iload_n 3, 1) := by decide +kernel
theorem d_L_law_231 : decode code 231 = .ok (.iconst 2, 1) := by decide +kernel
theorem d_L_law_232 : decode code 232 = .ok (.iadd, 1) := by decide +kernel
theorem d_L_law_233 : decode code 233 = .ok (.iaload, 1) := by decide +kernel
theorem d_L_law_234 : decode code 234 = .ok (.invokevirtual 35, 3) := by decide +kernel
theorem d_L_law_237 : decode code 237 = .ok (.aload_n 2, 1) := by decide +kernel
theorem d_L_law_238 : decode code 238 = .ok (.aload_n 0, 1) := by decide +kernel
theorem d_L_law_239 : decode code 239 = .ok (.iload_n 3, 1) := by decide +kernel
theorem d_L_law_240 : decode code 240 = .ok (.iconst 1, 1) := by decide +kernel
theorem d_L_law_241 : decode code 241 = .ok (.iadd, 1) := by decide +kernel
theorem d_L_law_242 : decode code 242 = .ok (.iaload, 1) := by decide +kernel
theorem d_L_law_243 : decode code 243 = .ok (.aload_n 0, 1) := by decide +kernel
theorem d_L_law_244 : decode code 244 = .ok (.iload_n 3, 1) := by decide +kernel
theorem d_L_law_245 : decode code 245 = .ok (.iconst 2, 1) := by decide +kernel
theorem d_L_law_246 : decode code 246 = .ok (.iadd, 1) := by decide +kernel
theorem d_L_law_247 : decode code 247 = .ok (.iaload, 1) := by decide +kernel
theorem d_L_law_248 : decode code 248 = .ok (.invokevirtual 39, 3) := by decide +kernel
theorem d_L_law_251 : decode code 251 = .ok (.if_icmp .eq 233, 3) := by decide +kernel
theorem d_L_law_254 : decode code 254 = .ok (.iconst 0, 1) := by decide +kernel
theorem d_L_law_255 : decode code 255 = .ok (.ireturn, 1) := by decide +kernel
theorem d_L_law_256 : decode code 256 = .ok (.aload_n 1, 1) := by decide +kernel
theorem d_L_law_257 : decode code 257 = .ok (.aload_n 0, 1) := by decide +kernel
theorem d_L_law_258 : decode code 258 = .ok (.iload_n 3, 1) := by decide +kernel
theorem d_L_law_259 : decode code 259 = .ok (.iconst 1, 1) := by decide +kernel
theorem d_L_law_260 : decode code 260 = .ok (.iadd, 1) := by decide +kernel
theorem d_L_law_261 : decode code 261 = .ok (.iaload, 1) := by decide +kernel
theorem d_L_law_262 : decode code 262 = .ok (.invokevirtual 40, 3) := by decide +kernel
theorem d_L_law_265 : decode code 265 = .ok (.aload_n 2, 1) := by decide +kernel
theorem d_L_law_266 : decode code 266 = .ok (.aload_n 0, 1) := by decide +kernel
theorem d_L_law_267 : decode code 267 = .ok (.iload_n 3, 1) := by decide +kernel
theorem d_L_law_268 : decode code 268 = .ok (.iconst 1, 1) := by decide +kernel
theorem d_L_law_269 : decode code 269 = .ok (.iadd, 1) := by decide +kernel
theorem d_L_law_270 : decode code 270 = .ok (.iaload, 1) := by decide +kernel
theorem d_L_law_271 : decode code 271 = .ok (.invokevirtual 43, 3) := by decide +kernel
theorem d_L_law_274 : decode code 274 = .ok (.if_icmp .eq 210, 3) := by decide +kernel
theorem d_L_law_277 : decode code 277 = .ok (.iconst 0, 1) := by decide +kernel
theorem d_L_law_278 : decode code 278 = .ok (.ireturn, 1) := by decide +kernel
theorem d_L_law_279 : decode code 279 = .ok (.aload_n 1, 1) := by decide +kernel
theorem d_L_law_280 : decode code 280 = .ok (.aload_n 0, 1) := by decide +kernel
theorem d_L_law_281 : decode code 281 = .ok (.iload_n 3, 1) := by decide +kernel
theorem d_L_law_282 : decode code 282 = .ok (.iconst 1, 1) := by decide +kernel
theorem d_L_law_283 : decode code 283 = .ok (.iadd, 1) := by decide +kernel
theorem d_L_law_284 : decode code 284 = .ok (.iaload, 1) := by decide +kernel
theorem d_L_law_285 : decode code 285 = .ok (.invokevirtual 44, 3) := by decide +kernel
theorem d_L_law_288 : decode code 288 = .ok (.aload_n 2, 1) := by decide +kernel
theorem d_L_law_289 : decode code 289 = .ok (.aload_n 0, 1) := by decide +kernel
theorem d_L_law_290 : decode code 290 = .ok (.iload_n 3, 1) := by decide +kernel
theorem d_L_law_291 : decode code 291 = .ok (.iconst 1, 1) := by decide +kernel
theorem d_L_law_292 : decode code 292 = .ok (.iadd, 1) := by decide +kernel
theorem d_L_law_293 : decode code 293 = .ok (.iaload, 1) := by decide +kernel
theorem d_L_law_294 : decode code 294 = .ok (.invokevirtual 47, 3) := by decide +kernel
theorem d_L_law_297 : decode code 297 = .ok (.if_icmp .eq 187, 3) := by decide +kernel
theorem d_L_law_300 : decode code 300 = .ok (.iconst 0, 1) := by decide +kernel
theorem d_L_law_301 : decode code 301 = .ok (.ireturn, 1) := by decide +kernel
theorem d_L_law_302 : decode code 302 = .ok (.aload_n 1, 1) := by decide +kernel
theorem d_L_law_303 : decode code 303 = .ok (.aload_n 0, 1) := by decide +kernel
theorem d_L_law_304 : decode code 304 = .ok (.iload_n 3, 1) := by decide +kernel
theorem d_L_law_305 : decode code 305 = .ok (.iconst 1, 1) := by decide +kernel
theorem d_L_law_306 : decode code 306 = .ok (.iadd, 1) := by decide +kernel
theorem d_L_law_307 : decode code 307 = .ok (.iaload, 1) := by decide +kernel
theorem d_L_law_308 : decode code 308 = .ok (.invokevirtual 48, 3) := by decide +kernel
theorem d_L_law_311 : decode code 311 = .ok (.aload_n 2, 1) := by decide +kernel
theorem d_L_law_312 : decode code 312 = .ok (.aload_n 0, 1) := by decide +kernel
theorem d_L_law_313 : decode code 313 = .ok (.iload_n 3, 1) := by decide +kernel
theorem d_L_law_314 : decode code 314 = .ok (.iconst 1, 1) := by decide +kernel
theorem d_L_law_315 : decode code 315 = .ok (.iadd, 1) := by decide +kernel
theorem d_L_law_316 : decode code 316 = .ok (.iaload, 1) := by decide +kernel
theorem d_L_law_317 : decode code 317 = .ok (.invokevirtual 51, 3) := by decide +kernel
theorem d_L_law_320 : decode code 320 = .ok (.if_icmp .eq 164, 3) := by decide +kernel
theorem d_L_law_323 : decode code 323 = .ok (.iconst 0, 1) := by decide +kernel
theorem d_L_law_324 : decode code 324 = .ok (.ireturn, 1) := by decide +kernel
theorem d_L_law_325 : decode code 325 = .ok (.aload_n 1, 1) := by decide +kernel
theorem d_L_law_326 : decode code 326 = .ok (.aload_n 0, 1) := by decide +kernel
theorem d_L_law_327 : decode code 327 = .ok (.iload_n 3, 1) := by decide +kernel
theorem d_L_law_328 : decode code 328 = .ok (.iconst 1, 1) := by decide +kernel
theorem d_L_law_329 : decode code 329 = .ok (.iadd, 1) := by decide +kernel
theorem d_L_law_330 : decode code 330 = .ok (.iaload, 1) := by decide +kernel
theorem d_L_law_331 : decode code 331 = .ok (.invokevirtual 52, 3) := by decide +kernel
theorem d_L_law_334 : decode code 334 = .ok (.aload_n 2, 1) := by decide +kernel
theorem d_L_law_335 : decode code 335 = .ok (.aload_n 0, 1) := by decide +kernel
theorem d_L_law_336 : decode code 336 = .ok (.iload_n 3, 1) := by decide +kernel
theorem d_L_law_337 : decode code 337 = .ok (.iconst 1, 1) := by decide +kernel
theorem d_L_law_338 : decode code 338 = .ok (.iadd, 1) := by decide +kernel
theorem d_L_law_339 : decode code 339 = .ok (.iaload, 1) := by decide +kernel
theorem d_L_law_340 : decode code 340 = .ok (.invokevirtual 55, 3) := by decide +kernel
theorem d_L_law_343 : decode code 343 = .ok (.if_icmp .eq 141, 3) := by decide +kernel
theorem d_L_law_346 : decode code 346 = .ok (.iconst 0, 1) := by decide +kernel
theorem d_L_law_347 : decode code 347 = .ok (.ireturn, 1) := by decide +kernel
theorem d_L_law_348 : decode code 348 = .ok (.aload_n 1, 1) := by decide +kernel
theorem d_L_law_349 : decode code 349 = .ok (.aload_n 0, 1) := by decide +kernel
theorem d_L_law_350 : decode code 350 = .ok (.iload_n 3, 1) := by decide +kernel
theorem d_L_law_351 : decode code 351 = .ok (.iconst 1, 1) := by decide +kernel
theorem d_L_law_352 : decode code 352 = .ok (.iadd, 1) := by decide +kernel
theorem d_L_law_353 : decode code 353 = .ok (.iaload, 1) := by decide +kernel
theorem d_L_law_354 : decode code 354 = .ok (.invokevirtual 56, 3) := by decide +kernel
theorem d_L_law_357 : decode code 357 = .ok (.aload_n 2, 1) := by decide +kernel
theorem d_L_law_358 : decode code 358 = .ok (.aload_n 0, 1) := by decide +kernel
theorem d_L_law_359 : decode code 359 = .ok (.iload_n 3, 1) := by decide +kernel
theorem d_L_law_360 : decode code 360 = .ok (.iconst 1, 1) := by decide +kernel
theorem d_L_law_361 : decode code 361 = .ok (.iadd, 1) := by decide +kernel
theorem d_L_law_362 : decode code 362 = .ok (.iaload, 1) := by decide +kernel
theorem d_L_law_363 : decode code 363 = .ok (.invokevirtual 59, 3) := by decide +kernel
theorem d_L_law_366 : decode code 366 = .ok (.if_icmp .eq 118, 3) := by decide +kernel
theorem d_L_law_369 : decode code 369 = .ok (.iconst 0, 1) := by decide +kernel
theorem d_L_law_370 : decode code 370 = .ok (.ireturn, 1) := by decide +kernel
theorem d_L_law_371 : decode code 371 = .ok (.aload_n 1, 1) := by decide +kernel
theorem d_L_law_372 : decode code 372 = .ok (.invokevirtual 60, 3) := by decide +kernel
theorem d_L_law_375 : decode code 375 = .ok (.aload_n 2, 1) := by decide +kernel
theorem d_L_law_376 : decode code 376 = .ok (.invokevirtual 64, 3) := by decide +kernel
theorem d_L_law_379 : decode code 379 = .ok (.if_icmp .eq 105, 3) := by decide +kernel
theorem d_L_law_382 : decode code 382 = .ok (.iconst 0, 1) := by decide +kernel
theorem d_L_law_383 : decode code 383 = .ok (.ireturn, 1) := by decide +kernel
theorem d_L_law_384 : decode code 384 = .ok (.aload_n 1, 1) := by decide +kernel
theorem d_L_law_385 : decode code 385 = .ok (.invokevirtual 65, 3) := by decide +kernel
theorem d_L_law_388 : decode code 388 = .ok (.aload_n 2, 1) := by decide +kernel
theorem d_L_law_389 : decode code 389 = .ok (.invokevirtual 68, 3) := by decide +kernel
theorem d_L_law_392 : decode code 392 = .ok (.goto 92, 3) := by decide +kernel
theorem d_L_law_395 : decode code 395 = .ok (.aload_n 1, 1) := by decide +kernel
theorem d_L_law_396 : decode code 396 = .ok (.aload_n 0, 1) := by decide +kernel
theorem d_L_law_397 : decode code 397 = .ok (.iload_n 3, 1) := by decide +kernel
theorem d_L_law_398 : decode code 398 = .ok (.iconst 1, 1) := by decide +kernel
theorem d_L_law_399 : decode code 399 = .ok (.iadd, 1) := by decide +kernel
theorem d_L_law_400 : decode code 400 = .ok (.iaload, 1) := by decide +kernel
theorem d_L_law_401 : decode code 401 = .ok (.invokevirtual 69, 3) := by decide +kernel
theorem d_L_law_404 : decode code 404 = .ok (.aload_n 2, 1) := by decide +kernel
theorem d_L_law_405 : decode code 405 = .ok (.aload_n 0, 1) := by decide +kernel
theorem d_L_law_406 : decode code 406 = .ok (.iload_n 3, 1) := by decide +kernel
theorem d_L_law_407 : decode code 407 = .ok (.iconst 1, 1) := by decide +kernel
theorem d_L_law_408 : decode code 408 = .ok (.iadd, 1) := by decide +kernel
theorem d_L_law_409 : decode code 409 = .ok (.iaload, 1) := by decide +kernel
theorem d_L_law_410 : decode code 410 = .ok (.invokevirtual 72, 3) := by decide +kernel
theorem d_L_law_413 : decode code 413 = .ok (.if_icmp .eq 71, 3) := by decide +kernel
theorem d_L_law_416 : decode code 416 = .ok (.iconst 0, 1) := by decide +kernel
theorem d_L_law_417 : decode code 417 = .ok (.ireturn, 1) := by decide +kernel
theorem d_L_law_418 : decode code 418 = .ok (.aload_n 1, 1) := by decide +kernel
theorem d_L_law_419 : decode code 419 = .ok (.aload_n 0, 1) := by decide +kernel
theorem d_L_law_420 : decode code 420 = .ok (.iload_n 3, 1) := by decide +kernel
theorem d_L_law_421 : decode code 421 = .ok (.iconst 1, 1) := by decide +kernel
theorem d_L_law_422 : decode code 422 = .ok (.iadd, 1) := by decide +kernel
theorem d_L_law_423 : decode code 423 = .ok (.iaload, 1) := by decide +kernel
theorem d_L_law_424 : decode code 424 = .ok (.aload_n 0, 1) := by decide +kernel
end
section
theorem d_L_law_425 : decode code 425 = .ok (.iload_n 3, 1) := by decide +kernel
theorem d_L_law_426 : decode code 426 = .ok (.iconst 2, 1) := by decide +kernel
theorem d_L_law_427 : decode code 427 = .ok (.iadd, 1) := by decide +kernel
theorem d_L_law_428 : decode code 428 = .ok (.iaload, 1) := by decide +kernel
theorem d_L_law_429 : decode code 429 = .ok (.invokevirtual 73, 3) := by decide +kernel
theorem d_L_law_432 : decode code 432 = .ok (.aload_n 2, 1) := by decide +kernel
theorem d_L_law_433 : decode code 433 = .ok (.aload_n 0, 1) := by decide +kernel
theorem d_L_law_434 : decode code 434 = .ok (.iload_n 3, 1) := by decide +kernel
theorem d_L_law_435 : decode code 435 = .ok (.iconst 1, 1) := by decide +kernel
theorem d_L_law_436 : decode code 436 = .ok (.iadd, 1) := by decide +kernel
theorem d_L_law_437 : decode code 437 = .ok (.iaload, 1) := by decide +kernel
theorem d_L_law_438 : decode code 438 = .ok (.aload_n 0, 1) := by decide +kernel
theorem d_L_law_439 : decode code 439 = .ok (.iload_n 3, 1) := by decide +kernel
theorem d_L_law_440 : decode code 440 = .ok (.iconst 2, 1) := by decide +kernel
theorem d_L_law_441 : decode code 441 = .ok (.iadd, 1) := by decide +kernel
theorem d_L_law_442 : decode code 442 = .ok (.iaload, 1) := by decide +kernel
theorem d_L_law_443 : decode code 443 = .ok (.invokevirtual 76, 3) := by decide +kernel
theorem d_L_law_446 : decode code 446 = .ok (.if_icmp .eq 38, 3) := by decide +kernel
theorem d_L_law_449 : decode code 449 = .ok (.iconst 0, 1) := by decide +kernel
theorem d_L_law_450 : decode code 450 = .ok (.ireturn, 1) := by decide +kernel
theorem d_L_law_451 : decode code 451 = .ok (.aload_n 1, 1) := by decide +kernel
theorem d_L_law_452 : decode code 452 = .ok (.aload_n 0, 1) := by decide +kernel
theorem d_L_law_453 : decode code 453 = .ok (.iload_n 3, 1) := by decide +kernel
theorem d_L_law_454 : decode code 454 = .ok (.iconst 1, 1) := by decide +kernel
theorem d_L_law_455 : decode code 455 = .ok (.iadd, 1) := by decide +kernel
theorem d_L_law_456 : decode code 456 = .ok (.iaload, 1) := by decide +kernel
theorem d_L_law_457 : decode code 457 = .ok (.aload_n 0, 1) := by decide +kernel
theorem d_L_law_458 : decode code 458 = .ok (.iload_n 3, 1) := by decide +kernel
theorem d_L_law_459 : decode code 459 = .ok (.iconst 2, 1) := by decide +kernel
theorem d_L_law_460 : decode code 460 = .ok (.iadd, 1) := by decide +kernel
theorem d_L_law_461 : decode code 461 = .ok (.iaload, 1) := by decide +kernel
theorem d_L_law_462 : decode code 462 = .ok (.invokevirtual 77, 3) := by decide +kernel
theorem d_L_law_465 : decode code 465 = .ok (.aload_n 2, 1) := by decide +kernel
theorem d_L_law_466 : decode code 466 = .ok (.aload_n 0, 1) := by decide +kernel
theorem d_L_law_467 : decode code 467 = .ok (.iload_n 3, 1) := by decide +kernel
theorem d_L_law_468 : decode code 468 = .ok (.iconst 1, 1) := by decide +kernel
theorem d_L_law_469 : decode code 469 = .ok (.iadd, 1) := by decide +kernel
theorem d_L_law_470 : decode code 470 = .ok (.iaload, 1) := by decide +kernel
theorem d_L_law_471 : decode code 471 = .ok (.aload_n 0, 1) := by decide +kernel
theorem d_L_law_472 : decode code 472 = .ok (.iload_n 3, 1) := by decide +kernel
theorem d_L_law_473 : decode code 473 = .ok (.iconst 2, 1) := by decide +kernel
theorem d_L_law_474 : decode code 474 = .ok (.iadd, 1) := by decide +kernel
theorem d_L_law_475 : decode code 475 = .ok (.iaload, 1) := by decide +kernel
theorem d_L_law_476 : decode code 476 = .ok (.invokevirtual 80, 3) := by decide +kernel
theorem d_L_law_479 : decode code 479 = .ok (.if_icmp .eq 5, 3) := by decide +kernel
theorem d_L_law_482 : decode code 482 = .ok (.iconst 0, 1) := by decide +kernel
theorem d_L_law_483 : decode code 483 = .ok (.ireturn, 1) := by decide +kernel
theorem d_L_law_484 : decode code 484 = .ok (.iinc 3 5, 3) := by decide +kernel
theorem d_L_law_487 : decode code 487 = .ok (.goto (-449), 3) := by decide +kernel
theorem d_L_law_490 : decode code 490 = .ok (.iconst 1, 1) := by decide +kernel
theorem d_L_law_491 : decode code 491 = .ok (.ireturn, 1) := by decide +kernel
theorem d_M_init_0 : decode b_M_init 0 = .ok (.aload_n 0, 1) := by decide +kernel
theorem d_M_init_1 : decode b_M_init 1 = .ok (.invokespecial 1, 3) := by decide +kernel
theorem d_M_init_4 : decode b_M_init 4 = .ok (.aload_n 0, 1) := by decide +kernel
theorem d_M_init_5 : decode b_M_init 5 = .ok (.iconst 3, 1) := by decide +kernel
theorem d_M_init_6 : decode b_M_init 6 = .ok (.newarray .int, 2) := by decide +kernel
theorem d_M_init_8 : decode b_M_init 8 = .ok (.putfield 7, 3) := by decide +kernel
theorem d_M_init_11 : decode b_M_init 11 = .ok (.aload_n 0, 1) := by decide +kernel
theorem d_M_init_12 : decode b_M_init 12 = .ok (.sipush 1536, 3) := by decide +kernel
theorem d_M_init_15 : decode b_M_init 15 = .ok (.newarray .int, 2) := by decide +kernel
theorem d_M_init_17 : decode b_M_init 17 = .ok (.putfield 13, 3) := by decide +kernel
theorem d_M_init_20 : decode b_M_init 20 = .ok (.aload_n 0, 1) := by decide +kernel
theorem d_M_init_21 : decode b_M_init 21 = .ok (.sipush 1536, 3) := by decide +kernel
theorem d_M_init_24 : decode b_M_init 24 = .ok (.newarray .int, 2) := by decide +kernel
theorem d_M_init_26 : decode b_M_init 26 = .ok (.putfield 16, 3) := by decide +kernel
theorem d_M_init_29 : decode b_M_init 29 = .ok (.aload_n 0, 1) := by decide +kernel
theorem d_M_init_30 : decode b_M_init 30 = .ok (.sipush 1536, 3) := by decide +kernel
theorem d_M_init_33 : decode b_M_init 33 = .ok (.newarray .int, 2) := by decide +kernel
theorem d_M_init_35 : decode b_M_init 35 = .ok (.putfield 19, 3) := by decide +kernel
theorem d_M_init_38 : decode b_M_init 38 = .ok (.aload_n 0, 1) := by decide +kernel
theorem d_M_init_39 : decode b_M_init 39 = .ok (.iconst 3, 1) := by decide +kernel
theorem d_M_init_40 : decode b_M_init 40 = .ok (.newarray .int, 2) := by decide +kernel
theorem d_M_init_42 : decode b_M_init 42 = .ok (.putfield 22, 3) := by decide +kernel
theorem d_M_init_45 : decode b_M_init 45 = .ok (.aload_n 0, 1) := by decide +kernel
theorem d_M_init_46 : decode b_M_init 46 = .ok (.iconst 3, 1) := by decide +kernel
theorem d_M_init_47 : decode b_M_init 47 = .ok (.newarray .int, 2) := by decide +kernel
theorem d_M_init_49 : decode b_M_init 49 = .ok (.putfield 25, 3) := by decide +kernel
theorem d_M_init_52 : decode b_M_init 52 = .ok (.aload_n 0, 1) := by decide +kernel
theorem d_M_init_53 : decode b_M_init 53 = .ok (.iconst 3, 1) := by decide +kernel
theorem d_M_init_54 : decode b_M_init 54 = .ok (.newarray .int, 2) := by decide +kernel
theorem d_M_init_56 : decode b_M_init 56 = .ok (.putfield 28, 3) := by decide +kernel
theorem d_M_init_59 : decode b_M_init 59 = .ok (.aload_n 0, 1) := by decide +kernel
theorem d_M_init_60 : decode b_M_init 60 = .ok (.iconst 3, 1) := by decide +kernel
theorem d_M_init_61 : decode b_M_init 61 = .ok (.newarray .int, 2) := by decide +kernel
theorem d_M_init_63 : decode b_M_init 63 = .ok (.putfield 31, 3) := by decide +kernel
theorem d_M_init_66 : decode b_M_init 66 = .ok (.aload_n 0, 1) := by decide +kernel
theorem d_M_init_67 : decode b_M_init 67 = .ok (.iconst 3, 1) := by decide +kernel
theorem d_M_init_68 : decode b_M_init 68 = .ok (.newarray .int, 2) := by decide +kernel
theorem d_M_init_70 : decode b_M_init 70 = .ok (.putfield 34, 3) := by decide +kernel
theorem d_M_init_73 : decode b_M_init 73 = .ok (.aload_n 0, 1) := by decide +kernel
theorem d_M_init_74 : decode b_M_init 74 = .ok (.iconst 3, 1) := by decide +kernel
theorem d_M_init_75 : decode b_M_init 75 = .ok (.newarray .int, 2) := by decide +kernel
theorem d_M_init_77 : decode b_M_init 77 = .ok (.putfield 37, 3) := by decide +kernel
theorem d_M_init_80 : decode b_M_init 80 = .ok (.aload_n 0, 1) := by decide +kernel
theorem d_M_init_81 : decode b_M_init 81 = .ok (.bipush 16, 2) := by decide +kernel
theorem d_M_init_83 : decode b_M_init 83 = .ok (.newarray .int, 2) := by decide +kernel
theorem d_M_init_85 : decode b_M_init 85 = .ok (.putfield 40, 3) := by decide +kernel
theorem d_M_init_88 : decode b_M_init 88 = .ok (.aload_n 0, 1) := by decide +kernel
theorem d_M_init_89 : decode b_M_init 89 = .ok (.bipush 16, 2) := by decide +kernel
theorem d_M_init_91 : decode b_M_init 91 = .ok (.newarray .int, 2) := by decide +kernel
theorem d_M_init_93 : decode b_M_init 93 = .ok (.putfield 43, 3) := by decide +kernel
theorem d_M_init_96 : decode b_M_init 96 = .ok (.aload_n 0, 1) := by decide +kernel
theorem d_M_init_97 : decode b_M_init 97 = .ok (.iconst 3, 1) := by decide +kernel
theorem d_M_init_98 : decode b_M_init 98 = .ok (.newarray .boolean, 2) := by decide +kernel
theorem d_M_init_100 : decode b_M_init 100 = .ok (.putfield 46, 3) := by decide +kernel
theorem d_M_init_103 : decode b_M_init 103 = .ok (.aload_n 0, 1) := by decide +kernel
theorem d_M_init_104 : decode b_M_init 104 = .ok (.iconst 3, 1) := by decide +kernel
theorem d_M_init_105 : decode b_M_init 105 = .ok (.newarray .int, 2) := by decide +kernel
theorem d_M_init_107 : decode b_M_init 107 = .ok (.putfield 50, 3) := by decide +kernel
theorem d_M_init_110 : decode b_M_init 110 = .ok (.aload_n 0, 1) := by decide +kernel
theorem d_M_init_111 : decode b_M_init 111 = .ok (.iconst 3, 1) := by decide +kernel
theorem d_M_init_112 : decode b_M_init 112 = .ok (.newarray .boolean, 2) := by decide +kernel
theorem d_M_init_114 : decode b_M_init 114 = .ok (.putfield 53, 3) := by decide +kernel
theorem d_M_init_117 : decode b_M_init 117 = .ok (.aload_n 0, 1) := by decide +kernel
theorem d_M_init_118 : decode b_M_init 118 = .ok (.iconst 3, 1) := by decide +kernel
theorem d_M_init_119 : decode b_M_init 119 = .ok (.newarray .int, 2) := by decide +kernel
theorem d_M_init_121 : decode b_M_init 121 = .ok (.putfield 56, 3) := by decide +kernel
theorem d_M_init_124 : decode b_M_init 124 = .ok (.aload_n 0, 1) := by decide +kernel
theorem d_M_init_125 : decode b_M_init 125 = .ok (.iconst 3, 1) := by decide +kernel
theorem d_M_init_126 : decode b_M_init 126 = .ok (.newarray .int, 2) := by decide +kernel
theorem d_M_init_128 : decode b_M_init 128 = .ok (.putfield 59, 3) := by decide +kernel
theorem d_M_init_131 : decode b_M_init 131 = .ok (.aload_n 0, 1) := by decide +kernel
theorem d_M_init_132 : decode b_M_init 132 = .ok (.iconst 3, 1) := by decide +kernel
theorem d_M_init_133 : decode b_M_init 133 = .ok (.newarray .int, 2) := by decide +kernel
theorem d_M_init_135 : decode b_M_init 135 = .ok (.putfield 62, 3) := by decide +kernel
theorem d_M_init_138 : decode b_M_init 138 = .ok (.aload_n 0, 1) := by decide +kernel
theorem d_M_init_139 : decode b_M_init 139 = .ok (.sipush 180, 3) := by decide +kernel
theorem d_M_init_142 : decode b_M_init 142 = .ok (.newarray .int, 2) := by decide +kernel
theorem d_M_init_144 : decode b_M_init 144 = .ok (.putfield 65, 3) := by decide +kernel
theorem d_M_init_147 : decode b_M_init 147 = .ok (.aload_n 0, 1) := by decide +kernel
theorem d_M_init_148 : decode b_M_init 148 = .ok (.sipush 180, 3) := by decide +kernel
theorem d_M_init_151 : decode b_M_init 151 = .ok (.newarray .int, 2) := by decide +kernel
theorem d_M_init_153 : decode b_M_init 153 = .ok (.putfield 68, 3) := by decide +kernel
theorem d_M_init_156 : decode b_M_init 156 = .ok (.aload_n 0, 1) := by decide +kernel
theorem d_M_init_157 : decode b_M_init 157 = .ok (.iconst 3, 1) := by decide +kernel
theorem d_M_init_158 : decode b_M_init 158 = .ok (.newarray .int, 2) := by decide +kernel
theorem d_M_init_160 : decode b_M_init 160 = .ok (.putfield 71, 3) := by decide +kernel
theorem d_M_init_163 : decode b_M_init 163 = .ok (.aload_n 0, 1) := by decide +kernel
theorem d_M_init_164 : decode b_M_init 164 = .ok (.iconst 3, 1) := by decide +kernel
theorem d_M_init_165 : decode b_M_init 165 = .ok (.newarray .int, 2) := by decide +kernel
theorem d_M_init_167 : decode b_M_init 167 = .ok (.putfield 74, 3) := by decide +kernel
theorem d_M_init_170 : decode b_M_init 170 = .ok (.aload_n 0, 1) := by decide +kernel
theorem d_M_init_171 : decode b_M_init 171 = .ok (.iconst 3, 1) := by decide +kernel
theorem d_M_init_172 : decode b_M_init 172 = .ok (.newarray .int, 2) := by decide +kernel
theorem d_M_init_174 : decode b_M_init 174 = .ok (.putfield 77, 3) := by decide +kernel
theorem d_M_init_177 : decode b_M_init 177 = .ok (.aload_n 0, 1) := by decide +kernel
theorem d_M_init_178 : decode b_M_init 178 = .ok (.bipush 6, 2) := by decide +kernel
theorem d_M_init_180 : decode b_M_init 180 = .ok (.newarray .int, 2) := by decide +kernel
theorem d_M_init_182 : decode b_M_init 182 = .ok (.putfield 80, 3) := by decide +kernel
theorem d_M_init_185 : decode b_M_init 185 = .ok (.aload_n 0, 1) := by decide +kernel
theorem d_M_init_186 : decode b_M_init 186 = .ok (.iload_n 1, 1) := by decide +kernel
theorem d_M_init_187 : decode b_M_init 187 = .ok (.iconst 1, 1) := by decide +kernel
theorem d_M_init_188 : decode b_M_init 188 = .ok (.if_icmp .ge 7, 3) := by decide +kernel
theorem d_M_init_191 : decode b_M_init 191 = .ok (.iconst 1, 1) := by decide +kernel
theorem d_M_init_192 : decode b_M_init 192 = .ok (.goto 15, 3) := by decide +kernel
theorem d_M_init_195 : decode b_M_init 195 = .ok (.iload_n 1, 1) := by decide +kernel
theorem d_M_init_196 : decode b_M_init 196 = .ok (.bipush 14, 2) := by decide +kernel
theorem d_M_init_198 : decode b_M_init 198 = .ok (.if_icmp .le 8, 3) := by decide +kernel
theorem d_M_init_201 : decode b_M_init 201 = .ok (.bipush 14, 2) := by decide +kernel
theorem d_M_init_203 : decode b_M_init 203 = .ok (.goto 4, 3) := by decide +kernel
theorem d_M_init_206 : decode b_M_init 206 = .ok (.iload_n 1, 1) := by decide +kernel
theorem d_M_init_207 : decode b_M_init 207 = .ok (.putfield 83, 3) := by decide +kernel
theorem d_M_init_210 : decode b_M_init 210 = .ok (.aload_n 0, 1) := by decide +kernel
theorem d_M_init_211 : decode b_M_init 211 = .ok (.iload_n 2, 1) := by decide +kernel
theorem d_M_init_212 : decode b_M_init 212 = .ok (.bipush 20, 2) := by decide +kernel
theorem d_M_init_214 : decode b_M_init 214 = .ok (.if_icmp .ge 8, 3) := by decide +kernel
theorem d_M_init_217 : decode b_M_init 217 = .ok (.bipush 20, 2) := by decide +kernel
theorem d_M_init_219 : decode b_M_init 219 = .ok (.goto 17, 3) := by decide +kernel
theorem d_M_init_222 : decode b_M_init 222 = .ok (.iload_n 2, 1) := by decide +kernel
theorem d_M_init_223 : decode b_M_init 223 = .ok (.sipush 200, 3) := by decide +kernel
theorem d_M_init_226 : decode b_M_init 226 = .ok (.if_icmp .le 9, 3) := by decide +kernel
theorem d_M_init_229 : decode b_M_init 229 = .ok (.sipush 200, 3) := by decide +kernel
theorem d_M_init_232 : decode b_M_init 232 = .ok (.goto 4, 3) := by decide +kernel
theorem d_M_init_235 : decode b_M_init 235 = .ok (.iload_n 2, 1) := by decide +kernel
theorem d_M_init_236 : decode b_M_init 236 = .ok (.putfield 87, 3) := by decide +kernel
theorem d_M_init_239 : decode b_M_init 239 = .ok (.return_, 1) := by decide +kernel
theorem d_M_within_0 : decode b_M_within 0 = .ok (.iload_n 0, 1) := by decide +kernel
theorem d_M_within_1 : decode b_M_within 1 = .ok (.iload_n 1, 1) := by decide +kernel
theorem d_M_within_2 : decode b_M_within 2 = .ok (.if_icmp .lt 12, 3) := by decide +kernel
theorem d_M_within_5 : decode b_M_within 5 = .ok (.iload_n 0, 1) := by decide +kernel
theorem d_M_within_6 : decode b_M_within 6 = .ok (.iload_n 2, 1) := by decide +kernel
theorem d_M_within_7 : decode b_M_within 7 = .ok (.if_icmp .gt 7, 3) := by decide +kernel
theorem d_M_within_10 : decode b_M_within 10 = .ok (.iconst 1, 1) := by decide +kernel
theorem d_M_within_11 : decode b_M_within 11 = .ok (.goto 4, 3) := by decide +kernel
theorem d_M_within_14 : decode b_M_within 14 = .ok (.iconst 0, 1) := by decide +kernel
theorem d_M_within_15 : decode b_M_within 15 = .ok (.ireturn, 1) := by decide +kernel
theorem d_M_add_0 : decode b_M_add 0 = .ok (.iload_n 1, 1) := by decide +kernel
theorem d_M_add_1 : decode b_M_add 1 = .ok (.iconst 0, 1) := by decide +kernel
theorem d_M_add_2 : decode b_M_add 2 = .ok (.iconst 2, 1) := by decide +kernel
theorem d_M_add_3 : decode b_M_add 3 = .ok (.invokestatic 90, 3) := by decide +kernel
theorem d_M_add_6 : decode b_M_add 6 = .ok (.ifCond .eq 25, 3) := by decide +kernel
theorem d_M_add_9 : decode b_M_add 9 = .ok (.iload_n 2, 1) := by decide +kernel
theorem d_M_add_10 : decode b_M_add 10 = .ok (.iconst 1, 1) := by decide +kernel
theorem d_M_add_11 : decode b_M_add 11 = .ok (.bipush 60, 2) := by decide +kernel
theorem d_M_add_13 : decode b_M_add 13 = .ok (.invokestatic 90, 3) := by decide +kernel
theorem d_M_add_16 : decode b_M_add 16 = .ok (.ifCond .eq 15, 3) := by decide +kernel
theorem d_M_add_19 : decode b_M_add 19 = .ok (.iload 4, 2) := by decide +kernel
theorem d_M_add_21 : decode b_M_add 21 = .ok (.iconst 0, 1) := by decide +kernel
theorem d_M_add_22 : decode b_M_add 22 = .ok (.sipush 255, 3) := by decide +kernel
theorem d_M_add_25 : decode b_M_add 25 = .ok (.invokestatic 90, 3) := by decide +kernel
theorem d_M_add_28 : decode b_M_add 28 = .ok (.ifCond .ne 5, 3) := by decide +kernel
theorem d_M_add_31 : decode b_M_add 31 = .ok (.iconst (-1), 1) := by decide +kernel
theorem d_M_add_32 : decode b_M_add 32 = .ok (.ireturn, 1) := by decide +kernel
theorem d_M_add_33 : decode b_M_add 33 = .ok (.aload_n 0, 1) := by decide +kernel
theorem d_M_add_34 : decode b_M_add 34 = .ok (.getfield 22, 3) := by decide +kernel
theorem d_M_add_37 : decode b_M_add 37 = .ok (.iload_n 1, 1) := by decide +kernel
theorem d_M_add_38 : decode b_M_add 38 = .ok (.iaload, 1) := by decide +kernel
theorem d_M_add_39 : decode b_M_add 39 = .ok (.istore 5, 2) := by decide +kernel
theorem d_M_add_41 : decode b_M_add 41 = .ok (.sipush 512, 3) := by decide +kernel
theorem d_M_add_44 : decode b_M_add 44 = .ok (.iload_n 1, 1) := by decide +kernel
theorem d_M_add_45 : decode b_M_add 45 = .ok (.imul, 1) := by decide +kernel
theorem d_M_add_46 : decode b_M_add 46 = .ok (.iload 5, 2) := by decide +kernel
theorem d_M_add_48 : decode b_M_add 48 = .ok (.iadd, 1) := by decide +kernel
theorem d_M_add_49 : decode b_M_add 49 = .ok (.istore 6, 2) := by decide +kernel
theorem d_M_add_51 : decode b_M_add 51 = .ok (.iload_n 3, 1) := by decide +kernel
theorem d_M_add_52 : decode b_M_add 52 = .ok (.aload_n 0, 1) := by decide +kernel
theorem d_M_add_53 : decode b_M_add 53 = .ok (.getfield 94, 3) := by decide +kernel
theorem d_M_add_56 : decode b_M_add 56 = .ok (.iconst 1, 1) := by decide +kernel
theorem d_M_add_57 : decode b_M_add 57 = .ok (.iadd, 1) := by decide +kernel
theorem d_M_add_58 : decode b_M_add 58 = .ok (.aload_n 0, 1) := by decide +kernel
theorem d_M_add_59 : decode b_M_add 59 = .ok (.getfield 94, 3) := by decide +kernel
theorem d_M_add_62 : decode b_M_add 62 = .ok (.sipush 1000, 3) := by decide +kernel
theorem d_M_add_65 : decode b_M_add 65 = .ok (.iadd, 1) := by decide +kernel
theorem d_M_add_66 : decode b_M_add 66 = .ok (.invokestatic 90, 3) := by decide +kernel
theorem d_M_add_69 : decode b_M_add 69 = .ok (.ifCond .eq 21, 3) := by decide +kernel
theorem d_M_add_72 : decode b_M_add 72 = .ok (.iload 5, 2) := by decide +kernel
theorem d_M_add_74 : decode b_M_add 74 = .ok (.ifCond .le 19, 3) := by decide +kernel
theorem d_M_add_77 : decode b_M_add 77 = .ok (.iload_n 3, 1) := by decide +kernel
theorem d_M_add_78 : decode b_M_add 78 = .ok (.aload_n 0, 1) := by decide +kernel
theorem d_M_add_79 : decode b_M_add 79 = .ok (.getfield 16, 3) := by decide +kernel
theorem d_M_add_82 : decode b_M_add 82 = .ok (.iload 6, 2) := by decide +kernel
theorem d_M_add_84 : decode b_M_add 84 = .ok (.iconst 1, 1) := by decide +kernel
theorem d_M_add_85 : decode b_M_add 85 = .ok (.isub, 1) := by decide +kernel
theorem d_M_add_86 : decode b_M_add 86 = .ok (.iaload, 1) := by decide +kernel
theorem d_M_add_87 : decode b_M_add 87 = .ok (.if_icmp .gt 6, 3) := by decide +kernel
theorem d_M_add_90 : decode b_M_add 90 = .ok (.bipush (-3), 2) := by decide +kernel
theorem d_M_add_92 : decode b_M_add 92 = .ok (.ireturn, 1) := by decide +kernel
theorem d_M_add_93 : decode b_M_add 93 = .ok (.iload 5, 2) := by decide +kernel
theorem d_M_add_95 : decode b_M_add 95 = .ok (.aload_n 0, 1) := by decide +kernel
theorem d_M_add_96 : decode b_M_add 96 = .ok (.getfield 28, 3) := by decide +kernel
theorem d_M_add_99 : decode b_M_add 99 = .ok (.iload_n 1, 1) := by decide +kernel
theorem d_M_add_100 : decode b_M_add 100 = .ok (.iaload, 1) := by decide +kernel
theorem d_M_add_101 : decode b_M_add 101 = .ok (.isub, 1) := by decide +kernel
theorem d_M_add_102 : decode b_M_add 102 = .ok (.bipush 8, 2) := by decide +kernel
theorem d_M_add_104 : decode b_M_add 104 = .ok (.if_icmp .lt 6, 3) := by decide +kernel
theorem d_M_add_107 : decode b_M_add 107 = .ok (.bipush (-2), 2) := by decide +kernel
theorem d_M_add_109 : decode b_M_add 109 = .ok (.ireturn, 1) := by decide +kernel
theorem d_M_add_110 : decode b_M_add 110 = .ok (.aload_n 0, 1) := by decide +kernel
theorem d_M_add_111 : decode b_M_add 111 = .ok (.getfield 13, 3) := by decide +kernel
theorem d_M_add_114 : decode b_M_add 114 = .ok (.iload 6, 2) := by decide +kernel
theorem d_M_add_116 : decode b_M_add 116 = .ok (.iload_n 2, 1) := by decide +kernel
theorem d_M_add_117 : decode b_M_add 117 = .ok (.iastore, 1) := by decide +kernel
theorem d_M_add_118 : decode b_M_add 118 = .ok (.aload_n 0, 1) := by decide +kernel
theorem d_M_add_119 : decode b_M_add 119 = .ok (.getfield 16, 3) := by decide +kernel
theorem d_M_add_122 : decode b_M_add 122 = .ok (.iload 6, 2) := by decide +kernel
theorem d_M_add_124 : decode b_M_add 124 = .ok (.iload_n 3, 1) := by decide +kernel
theorem d_M_add_125 : decode b_M_add 125 = .ok (.iastore, 1) := by decide +kernel
theorem d_M_add_126 : decode b_M_add 126 = .ok (.aload_n 0, 1) := by decide +kernel
theorem d_M_add_127 : decode b_M_add 127 = .ok (.getfield 19, 3) := by decide +kernel
theorem d_M_add_130 : decode b_M_add 130 = .ok (.iload 6, 2) := by decide +kernel
theorem d_M_add_132 : decode b_M_add 132 = .ok (.iload 4, 2) := by decide +kernel
theorem d_M_add_134 : decode b_M_add 134 = .ok (.iastore, 1) := by decide +kernel
theorem d_M_add_135 : decode b_M_add 135 = .ok (.aload_n 0, 1) := by decide +kernel
theorem d_M_add_136 : decode b_M_add 136 = .ok (.getfield 22, 3) := by decide +kernel
theorem d_M_add_139 : decode b_M_add 139 = .ok (.iload_n 1, 1) := by decide +kernel
theorem d_M_add_140 : decode b_M_add 140 = .ok (.iload 5, 2) := by decide +kernel
theorem d_M_add_142 : decode b_M_add 142 = .ok (.iconst 1, 1) := by decide +kernel
theorem d_M_add_143 : decode b_M_add 143 = .ok (.iadd, 1) := by decide +kernel
theorem d_M_add_144 : decode b_M_add 144 = .ok (.iastore, 1) := by decide +kernel
theorem d_M_add_145 : decode b_M_add 145 = .ok (.iload 5, 2) := by decide +kernel
theorem d_M_add_147 : decode b_M_add 147 = .ok (.iconst 1, 1) := by decide +kernel
theorem d_M_add_148 : decode b_M_add 148 = .ok (.iadd, 1) := by decide +kernel
theorem d_M_add_149 : decode b_M_add 149 = .ok (.aload_n 0, 1) := by decide +kernel
theorem d_M_add_150 : decode b_M_add 150 = .ok (.getfield 28, 3) := by decide +kernel
theorem d_M_add_153 : decode b_M_add 153 = .ok (.iload_n 1, 1) := by decide +kernel
theorem d_M_add_154 : decode b_M_add 154 = .ok (.iaload, 1) := by decide +kernel
theorem d_M_add_155 : decode b_M_add 155 = .ok (.isub, 1) := by decide +kernel
theorem d_M_add_156 : decode b_M_add 156 = .ok (.ireturn, 1) := by decide +kernel
theorem d_M_high_0 : decode b_M_high 0 = .ok (.aload_n 0, 1) := by decide +kernel
theorem d_M_high_1 : decode b_M_high 1 = .ok (.getfield 28, 3) := by decide +kernel
theorem d_M_high_4 : decode b_M_high 4 = .ok (.iload_n 1, 1) := by decide +kernel
theorem d_M_high_5 : decode b_M_high 5 = .ok (.iaload, 1) := by decide +kernel
theorem d_M_high_6 : decode b_M_high 6 = .ok (.aload_n 0, 1) := by decide +kernel
theorem d_M_high_7 : decode b_M_high 7 = .ok (.getfield 22, 3) := by decide +kernel
theorem d_M_high_10 : decode b_M_high 10 = .ok (.iload_n 1, 1) := by decide +kernel
theorem d_M_high_11 : decode b_M_high 11 = .ok (.iaload, 1) := by decide +kernel
theorem d_M_high_12 : decode b_M_high 12 = .ok (.if_icmp .ge 12, 3) := by decide +kernel
theorem d_M_high_15 : decode b_M_high 15 = .ok (.aload_n 0, 1) := by decide +kernel
theorem d_M_high_16 : decode b_M_high 16 = .ok (.getfield 31, 3) := by decide +kernel
theorem d_M_high_19 : decode b_M_high 19 = .ok (.iload_n 1, 1) := by decide +kernel
theorem d_M_high_20 : decode b_M_high 20 = .ok (.iaload, 1) := by decide +kernel
theorem d_M_high_21 : decode b_M_high 21 = .ok (.goto 4, 3) := by decide +kernel
theorem d_M_high_24 : decode b_M_high 24 = .ok (.iconst 0, 1) := by decide +kernel
theorem d_M_high_25 : decode b_M_high 25 = .ok (.istore_n 2, 1) := by decide +kernel
theorem d_M_high_26 : decode b_M_high 26 = .ok (.aload_n 0, 1) := by decide +kernel
theorem d_M_high_27 : decode b_M_high 27 = .ok (.getfield 25, 3) := by decide +kernel
theorem d_M_high_30 : decode b_M_high 30 = .ok (.iload_n 1, 1) := by decide +kernel
theorem d_M_high_31 : decode b_M_high 31 = .ok (.iaload, 1) := by decide +kernel
theorem d_M_high_32 : decode b_M_high 32 = .ok (.istore_n 3, 1) := by decide +kernel
theorem d_M_high_33 : decode b_M_high 33 = .ok (.iload_n 3, 1) := by decide +kernel
theorem d_M_high_34 : decode b_M_high 34 = .ok (.aload_n 0, 1) := by decide +kernel
theorem d_M_high_35 : decode b_M_high 35 = .ok (.getfield 28, 3) := by decide +kernel
theorem d_M_high_38 : decode b_M_high 38 = .ok (.iload_n 1, 1) := by decide +kernel
theorem d_M_high_39 : decode b_M_high 39 = .ok (.iaload, 1) := by decide +kernel
theorem d_M_high_40 : decode b_M_high 40 = .ok (.if_icmp .ge 24, 3) := by decide +kernel
theorem d_M_high_43 : decode b_M_high 43 = .ok (.iload_n 2, 1) := by decide +kernel
theorem d_M_high_44 : decode b_M_high 44 = .ok (.aload_n 0, 1) := by decide +kernel
theorem d_M_high_45 : decode b_M_high 45 = .ok (.getfield 13, 3) := by decide +kernel
theorem d_M_high_48 : decode b_M_high 48 = .ok (.sipush 512, 3) := by decide +kernel
theorem d_M_high_51 : decode b_M_high 51 = .ok (.iload_n 1, 1) := by decide +kernel
theorem d_M_high_52 : decode b_M_high 52 = .ok (.imul, 1) := by decide +kernel
theorem d_M_high_53 : decode b_M_high 53 = .ok (.iload_n 3, 1) := by decide +kernel
theorem d_M_high_54 : decode b_M_high 54 = .ok (.iadd, 1) := by decide +kernel
theorem d_M_high_55 : decode b_M_high 55 = .ok (.iaload, 1) := by decide +kernel
theorem d_M_high_56 : decode b_M_high 56 = .ok (.iadd, 1) := by decide +kernel
theorem d_M_high_57 : decode b_M_high 57 = .ok (.istore_n 2, 1) := by decide +kernel
theorem d_M_high_58 : decode b_M_high 58 = .ok (.iinc 3 1, 3) := by decide +kernel
theorem d_M_high_61 : decode b_M_high 61 = .ok (.goto (-28), 3) := by decide +kernel
theorem d_M_high_64 : decode b_M_high 64 = .ok (.iload_n 2, 1) := by decide +kernel
theorem d_M_high_65 : decode b_M_high 65 = .ok (.ireturn, 1) := by decide +kernel
theorem d_M_goOn_0 : decode b_M_goOn 0 = .ok (.aload_n 0, 1) := by decide +kernel
theorem d_M_goOn_1 : decode b_M_goOn 1 = .ok (.getfield 7, 3) := by decide +kernel
theorem d_M_goOn_4 : decode b_M_goOn 4 = .ok (.iload_n 1, 1) := by decide +kernel
theorem d_M_goOn_5 : decode b_M_goOn 5 = .ok (.aload_n 0, 1) := by decide +kernel
theorem d_M_goOn_6 : decode b_M_goOn 6 = .ok (.getfield 7, 3) := by decide +kernel
theorem d_M_goOn_9 : decode b_M_goOn 9 = .ok (.iload_n 1, 1) := by decide +kernel
theorem d_M_goOn_10 : decode b_M_goOn 10 = .ok (.iaload, 1) := by decide +kernel
theorem d_M_goOn_11 : decode b_M_goOn 11 = .ok (.aload_n 0, 1) := by decide +kernel
theorem d_M_goOn_12 : decode b_M_goOn 12 = .ok (.getfield 83, 3) := by decide +kernel
theorem d_M_goOn_15 : decode b_M_goOn 15 = .ok (.if_icmp .ge 7, 3) := by decide +kernel
theorem d_M_goOn_18 : decode b_M_goOn 18 = .ok (.iconst 0, 1) := by decide +kernel
theorem d_M_goOn_19 : decode b_M_goOn 19 = .ok (.goto 14, 3) := by decide +kernel
theorem d_M_goOn_22 : decode b_M_goOn 22 = .ok (.aload_n 0, 1) := by decide +kernel
theorem d_M_goOn_23 : decode b_M_goOn 23 = .ok (.getfield 7, 3) := by decide +kernel
theorem d_M_goOn_26 : decode b_M_goOn 26 = .ok (.iload_n 1, 1) := by decide +kernel
theorem d_M_goOn_27 : decode b_M_goOn 27 = .ok (.iaload, 1) := by decide +kernel
theorem d_M_goOn_28 : decode b_M_goOn 28 = .ok (.aload_n 0, 1) := by decide +kernel
theorem d_M_goOn_29 : decode b_M_goOn 29 = .ok (.getfield 83, 3) := by decide +kernel
theorem d_M_goOn_32 : decode b_M_goOn 32 = .ok (.isub, 1) := by decide +kernel
theorem d_M_goOn_33 : decode b_M_goOn 33 = .ok (.iastore, 1) := by decide +kernel
theorem d_M_goOn_34 : decode b_M_goOn 34 = .ok (.sipush 512, 3) := by decide +kernel
theorem d_M_goOn_37 : decode b_M_goOn 37 = .ok (.iload_n 1, 1) := by decide +kernel
theorem d_M_goOn_38 : decode b_M_goOn 38 = .ok (.imul, 1) := by decide +kernel
theorem d_M_goOn_39 : decode b_M_goOn 39 = .ok (.aload_n 0, 1) := by decide +kernel
theorem d_M_goOn_40 : decode b_M_goOn 40 = .ok (.getfield 25, 3) := by decide +kernel
theorem d_M_goOn_43 : decode b_M_goOn 43 = .ok (.iload_n 1, 1) := by decide +kernel
theorem d_M_goOn_44 : decode b_M_goOn 44 = .ok (.iaload, 1) := by decide +kernel
theorem d_M_goOn_45 : decode b_M_goOn 45 = .ok (.iadd, 1) := by decide +kernel
theorem d_M_goOn_46 : decode b_M_goOn 46 = .ok (.istore_n 2, 1) := by decide +kernel
theorem d_M_goOn_47 : decode b_M_goOn 47 = .ok (.aload_n 0, 1) := by decide +kernel
theorem d_M_goOn_48 : decode b_M_goOn 48 = .ok (.getfield 25, 3) := by decide +kernel
theorem d_M_goOn_51 : decode b_M_goOn 51 = .ok (.iload_n 1, 1) := by decide +kernel
theorem d_M_goOn_52 : decode b_M_goOn 52 = .ok (.iaload, 1) := by decide +kernel
theorem d_M_goOn_53 : decode b_M_goOn 53 = .ok (.aload_n 0, 1) := by decide +kernel
theorem d_M_goOn_54 : decode b_M_goOn 54 = .ok (.getfield 22, 3) := by decide +kernel
theorem d_M_goOn_57 : decode b_M_goOn 57 = .ok (.iload_n 1, 1) := by decide +kernel
theorem d_M_goOn_58 : decode b_M_goOn 58 = .ok (.iaload, 1) := by decide +kernel
theorem d_M_goOn_59 : decode b_M_goOn 59 = .ok (.if_icmp .ge 68, 3) := by decide +kernel
theorem d_M_goOn_62 : decode b_M_goOn 62 = .ok (.aload_n 0, 1) := by decide +kernel
theorem d_M_goOn_63 : decode b_M_goOn 63 = .ok (.getfield 16, 3) := by decide +kernel
theorem d_M_goOn_66 : decode b_M_goOn 66 = .ok (.iload_n 2, 1) := by decide +kernel
theorem d_M_goOn_67 : decode b_M_goOn 67 = .ok (.iaload, 1) := by decide +kernel
theorem d_M_goOn_68 : decode b_M_goOn 68 = .ok (.aload_n 0, 1) := by decide +kernel
theorem d_M_goOn_69 : decode b_M_goOn 69 = .ok (.getfield 94, 3) := by decide +kernel
theorem d_M_goOn_72 : decode b_M_goOn 72 = .ok (.if_icmp .ne 55, 3) := by decide +kernel
theorem d_M_goOn_75 : decode b_M_goOn 75 = .ok (.aload_n 0, 1) := by decide +kernel
theorem d_M_goOn_76 : decode b_M_goOn 76 = .ok (.getfield 25, 3) := by decide +kernel
theorem d_M_goOn_79 : decode b_M_goOn 79 = .ok (.iload_n 1, 1) := by decide +kernel
theorem d_M_goOn_80 : decode b_M_goOn 80 = .ok (.iaload, 1) := by decide +kernel
theorem d_M_goOn_81 : decode b_M_goOn 81 = .ok (.aload_n 0, 1) := by decide +kernel
theorem d_M_goOn_82 : decode b_M_goOn 82 = .ok (.getfield 28, 3) := by decide +kernel
theorem d_M_goOn_85 : decode b_M_goOn 85 = .ok (.iload_n 1, 1) := by decide +kernel
theorem d_M_goOn_86 : decode b_M_goOn 86 = .ok (.iaload, 1) := by decide +kernel
theorem d_M_goOn_87 : decode b_M_goOn 87 = .ok (.if_icmp .ne 30, 3) := by decide +kernel
theorem d_M_goOn_90 : decode b_M_goOn 90 = .ok (.aload_n 0, 1) := by decide +kernel
theorem d_M_goOn_91 : decode b_M_goOn 91 = .ok (.getfield 34, 3) := by decide +kernel
theorem d_M_goOn_94 : decode b_M_goOn 94 = .ok (.iload_n 1, 1) := by decide +kernel
theorem d_M_goOn_95 : decode b_M_goOn 95 = .ok (.dup2, 1) := by decide +kernel
theorem d_M_goOn_96 : decode b_M_goOn 96 = .ok (.iaload, 1) := by decide +kernel
theorem d_M_goOn_97 : decode b_M_goOn 97 = .ok (.iconst 1, 1) := by decide +kernel
theorem d_M_goOn_98 : decode b_M_goOn 98 = .ok (.iadd, 1) := by decide +kernel
theorem d_M_goOn_99 : decode b_M_goOn 99 = .ok (.iastore, 1) := by decide +kernel
theorem d_M_goOn_100 : decode b_M_goOn 100 = .ok (.aload_n 0, 1) := by decide +kernel
theorem d_M_goOn_101 : decode b_M_goOn 101 = .ok (.getfield 28, 3) := by decide +kernel
theorem d_M_goOn_104 : decode b_M_goOn 104 = .ok (.iload_n 1, 1) := by decide +kernel
theorem d_M_goOn_105 : decode b_M_goOn 105 = .ok (.dup2, 1) := by decide +kernel
theorem d_M_goOn_106 : decode b_M_goOn 106 = .ok (.iaload, 1) := by decide +kernel
theorem d_M_goOn_107 : decode b_M_goOn 107 = .ok (.iconst 1, 1) := by decide +kernel
theorem d_M_goOn_108 : decode b_M_goOn 108 = .ok (.iadd, 1) := by decide +kernel
theorem d_M_goOn_109 : decode b_M_goOn 109 = .ok (.iastore, 1) := by decide +kernel
theorem d_M_goOn_110 : decode b_M_goOn 110 = .ok (.aload_n 0, 1) := by decide +kernel
theorem d_M_goOn_111 : decode b_M_goOn 111 = .ok (.getfield 31, 3) := by decide +kernel
theorem d_M_goOn_114 : decode b_M_goOn 114 = .ok (.iload_n 1, 1) := by decide +kernel
theorem d_M_goOn_115 : decode b_M_goOn 115 = .ok (.iconst 0, 1) := by decide +kernel
theorem d_M_goOn_116 : decode b_M_goOn 116 = .ok (.iastore, 1) := by decide +kernel
theorem d_M_goOn_117 : decode b_M_goOn 117 = .ok (.aload_n 0, 1) := by decide +kernel
theorem d_M_goOn_118 : decode b_M_goOn 118 = .ok (.getfield 25, 3) := by decide +kernel
theorem d_M_goOn_121 : decode b_M_goOn 121 = .ok (.iload_n 1, 1) := by decide +kernel
theorem d_M_goOn_122 : decode b_M_goOn 122 = .ok (.dup2, 1) := by decide +kernel
theorem d_M_goOn_123 : decode b_M_goOn 123 = .ok (.iaload, 1) := by decide +kernel
end
section
theorem d_M_goOn_124 : decode b_M_goOn 124 = .ok (.iconst 1, 1) := by decide +kernel
theorem d_M_goOn_125 : decode b_M_goOn 125 = .ok (.iadd, 1) := by decide +kernel
theorem d_M_goOn_126 : decode b_M_goOn 126 = .ok (.iastore, 1) := by decide +kernel
theorem d_M_goOn_127 : decode b_M_goOn 127 = .ok (.return_, 1) := by decide +kernel
theorem d_M_takes_0 : decode b_M_takes 0 = .ok (.aload_n 0, 1) := by decide +kernel
theorem d_M_takes_1 : decode b_M_takes 1 = .ok (.getfield 28, 3) := by decide +kernel
theorem d_M_takes_4 : decode b_M_takes 4 = .ok (.iload_n 1, 1) := by decide +kernel
theorem d_M_takes_5 : decode b_M_takes 5 = .ok (.iaload, 1) := by decide +kernel
theorem d_M_takes_6 : decode b_M_takes 6 = .ok (.aload_n 0, 1) := by decide +kernel
theorem d_M_takes_7 : decode b_M_takes 7 = .ok (.getfield 22, 3) := by decide +kernel
theorem d_M_takes_10 : decode b_M_takes 10 = .ok (.iload_n 1, 1) := by decide +kernel
theorem d_M_takes_11 : decode b_M_takes 11 = .ok (.iaload, 1) := by decide +kernel
theorem d_M_takes_12 : decode b_M_takes 12 = .ok (.if_icmp .ne 5, 3) := by decide +kernel
theorem d_M_takes_15 : decode b_M_takes 15 = .ok (.iconst 0, 1) := by decide +kernel
theorem d_M_takes_16 : decode b_M_takes 16 = .ok (.ireturn, 1) := by decide +kernel
theorem d_M_takes_17 : decode b_M_takes 17 = .ok (.bipush 14, 2) := by decide +kernel
theorem d_M_takes_19 : decode b_M_takes 19 = .ok (.aload_n 0, 1) := by decide +kernel
theorem d_M_takes_20 : decode b_M_takes 20 = .ok (.getfield 94, 3) := by decide +kernel
theorem d_M_takes_23 : decode b_M_takes 23 = .ok (.bipush 8, 2) := by decide +kernel
theorem d_M_takes_25 : decode b_M_takes 25 = .ok (.irem, 1) := by decide +kernel
theorem d_M_takes_26 : decode b_M_takes 26 = .ok (.ifCond .ne 7, 3) := by decide +kernel
theorem d_M_takes_29 : decode b_M_takes 29 = .ok (.iconst 2, 1) := by decide +kernel
theorem d_M_takes_30 : decode b_M_takes 30 = .ok (.goto 4, 3) := by decide +kernel
theorem d_M_takes_33 : decode b_M_takes 33 = .ok (.iconst 0, 1) := by decide +kernel
theorem d_M_takes_34 : decode b_M_takes 34 = .ok (.isub, 1) := by decide +kernel
theorem d_M_takes_35 : decode b_M_takes 35 = .ok (.aload_n 0, 1) := by decide +kernel
theorem d_M_takes_36 : decode b_M_takes 36 = .ok (.getfield 31, 3) := by decide +kernel
theorem d_M_takes_39 : decode b_M_takes 39 = .ok (.iload_n 1, 1) := by decide +kernel
theorem d_M_takes_40 : decode b_M_takes 40 = .ok (.iaload, 1) := by decide +kernel
theorem d_M_takes_41 : decode b_M_takes 41 = .ok (.ifCond .ne 7, 3) := by decide +kernel
theorem d_M_takes_44 : decode b_M_takes 44 = .ok (.iconst 3, 1) := by decide +kernel
theorem d_M_takes_45 : decode b_M_takes 45 = .ok (.goto 4, 3) := by decide +kernel
theorem d_M_takes_48 : decode b_M_takes 48 = .ok (.iconst 0, 1) := by decide +kernel
theorem d_M_takes_49 : decode b_M_takes 49 = .ok (.isub, 1) := by decide +kernel
theorem d_M_takes_50 : decode b_M_takes 50 = .ok (.istore_n 2, 1) := by decide +kernel
theorem d_M_takes_51 : decode b_M_takes 51 = .ok (.aload_n 0, 1) := by decide +kernel
theorem d_M_takes_52 : decode b_M_takes 52 = .ok (.getfield 13, 3) := by decide +kernel
theorem d_M_takes_55 : decode b_M_takes 55 = .ok (.sipush 512, 3) := by decide +kernel
theorem d_M_takes_58 : decode b_M_takes 58 = .ok (.iload_n 1, 1) := by decide +kernel
theorem d_M_takes_59 : decode b_M_takes 59 = .ok (.imul, 1) := by decide +kernel
theorem d_M_takes_60 : decode b_M_takes 60 = .ok (.aload_n 0, 1) := by decide +kernel
theorem d_M_takes_61 : decode b_M_takes 61 = .ok (.getfield 28, 3) := by decide +kernel
theorem d_M_takes_64 : decode b_M_takes 64 = .ok (.iload_n 1, 1) := by decide +kernel
theorem d_M_takes_65 : decode b_M_takes 65 = .ok (.iaload, 1) := by decide +kernel
theorem d_M_takes_66 : decode b_M_takes 66 = .ok (.iadd, 1) := by decide +kernel
theorem d_M_takes_67 : decode b_M_takes 67 = .ok (.iaload, 1) := by decide +kernel
theorem d_M_takes_68 : decode b_M_takes 68 = .ok (.aload_n 0, 1) := by decide +kernel
theorem d_M_takes_69 : decode b_M_takes 69 = .ok (.getfield 31, 3) := by decide +kernel
theorem d_M_takes_72 : decode b_M_takes 72 = .ok (.iload_n 1, 1) := by decide +kernel
theorem d_M_takes_73 : decode b_M_takes 73 = .ok (.iaload, 1) := by decide +kernel
theorem d_M_takes_74 : decode b_M_takes 74 = .ok (.isub, 1) := by decide +kernel
theorem d_M_takes_75 : decode b_M_takes 75 = .ok (.istore_n 3, 1) := by decide +kernel
theorem d_M_takes_76 : decode b_M_takes 76 = .ok (.iload_n 3, 1) := by decide +kernel
theorem d_M_takes_77 : decode b_M_takes 77 = .ok (.iload_n 2, 1) := by decide +kernel
theorem d_M_takes_78 : decode b_M_takes 78 = .ok (.if_icmp .ge 7, 3) := by decide +kernel
theorem d_M_takes_81 : decode b_M_takes 81 = .ok (.iload_n 3, 1) := by decide +kernel
theorem d_M_takes_82 : decode b_M_takes 82 = .ok (.goto 4, 3) := by decide +kernel
theorem d_M_takes_85 : decode b_M_takes 85 = .ok (.iload_n 2, 1) := by decide +kernel
theorem d_M_takes_86 : decode b_M_takes 86 = .ok (.ireturn, 1) := by decide +kernel
theorem d_M_ready_0 : decode b_M_ready 0 = .ok (.aload_n 0, 1) := by decide +kernel
theorem d_M_ready_1 : decode b_M_ready 1 = .ok (.iload_n 1, 1) := by decide +kernel
theorem d_M_ready_2 : decode b_M_ready 2 = .ok (.invokevirtual 97, 3) := by decide +kernel
theorem d_M_ready_5 : decode b_M_ready 5 = .ok (.istore_n 2, 1) := by decide +kernel
theorem d_M_ready_6 : decode b_M_ready 6 = .ok (.aload_n 0, 1) := by decide +kernel
theorem d_M_ready_7 : decode b_M_ready 7 = .ok (.getfield 28, 3) := by decide +kernel
theorem d_M_ready_10 : decode b_M_ready 10 = .ok (.iload_n 1, 1) := by decide +kernel
theorem d_M_ready_11 : decode b_M_ready 11 = .ok (.iaload, 1) := by decide +kernel
theorem d_M_ready_12 : decode b_M_ready 12 = .ok (.aload_n 0, 1) := by decide +kernel
theorem d_M_ready_13 : decode b_M_ready 13 = .ok (.getfield 25, 3) := by decide +kernel
theorem d_M_ready_16 : decode b_M_ready 16 = .ok (.iload_n 1, 1) := by decide +kernel
theorem d_M_ready_17 : decode b_M_ready 17 = .ok (.iaload, 1) := by decide +kernel
theorem d_M_ready_18 : decode b_M_ready 18 = .ok (.isub, 1) := by decide +kernel
theorem d_M_ready_19 : decode b_M_ready 19 = .ok (.istore_n 3, 1) := by decide +kernel
theorem d_M_ready_20 : decode b_M_ready 20 = .ok (.iload_n 2, 1) := by decide +kernel
theorem d_M_ready_21 : decode b_M_ready 21 = .ok (.ifCond .le 49, 3) := by decide +kernel
theorem d_M_ready_24 : decode b_M_ready 24 = .ok (.aload_n 0, 1) := by decide +kernel
theorem d_M_ready_25 : decode b_M_ready 25 = .ok (.getfield 7, 3) := by decide +kernel
theorem d_M_ready_28 : decode b_M_ready 28 = .ok (.iload_n 1, 1) := by decide +kernel
theorem d_M_ready_29 : decode b_M_ready 29 = .ok (.iaload, 1) := by decide +kernel
theorem d_M_ready_30 : decode b_M_ready 30 = .ok (.iload_n 2, 1) := by decide +kernel
theorem d_M_ready_31 : decode b_M_ready 31 = .ok (.iadd, 1) := by decide +kernel
theorem d_M_ready_32 : decode b_M_ready 32 = .ok (.bipush 28, 2) := by decide +kernel
theorem d_M_ready_34 : decode b_M_ready 34 = .ok (.if_icmp .gt 36, 3) := by decide +kernel
theorem d_M_ready_37 : decode b_M_ready 37 = .ok (.aload_n 0, 1) := by decide +kernel
theorem d_M_ready_38 : decode b_M_ready 38 = .ok (.iload_n 1, 1) := by decide +kernel
theorem d_M_ready_39 : decode b_M_ready 39 = .ok (.invokevirtual 101, 3) := by decide +kernel
theorem d_M_ready_42 : decode b_M_ready 42 = .ok (.iload_n 2, 1) := by decide +kernel
theorem d_M_ready_43 : decode b_M_ready 43 = .ok (.iadd, 1) := by decide +kernel
theorem d_M_ready_44 : decode b_M_ready 44 = .ok (.aload_n 0, 1) := by decide +kernel
theorem d_M_ready_45 : decode b_M_ready 45 = .ok (.getfield 87, 3) := by decide +kernel
theorem d_M_ready_48 : decode b_M_ready 48 = .ok (.if_icmp .gt 22, 3) := by decide +kernel
theorem d_M_ready_51 : decode b_M_ready 51 = .ok (.aload_n 0, 1) := by decide +kernel
theorem d_M_ready_52 : decode b_M_ready 52 = .ok (.getfield 31, 3) := by decide +kernel
theorem d_M_ready_55 : decode b_M_ready 55 = .ok (.iload_n 1, 1) := by decide +kernel
theorem d_M_ready_56 : decode b_M_ready 56 = .ok (.iaload, 1) := by decide +kernel
theorem d_M_ready_57 : decode b_M_ready 57 = .ok (.ifCond .gt 9, 3) := by decide +kernel
theorem d_M_ready_60 : decode b_M_ready 60 = .ok (.iload_n 3, 1) := by decide +kernel
theorem d_M_ready_61 : decode b_M_ready 61 = .ok (.bipush 8, 2) := by decide +kernel
theorem d_M_ready_63 : decode b_M_ready 63 = .ok (.if_icmp .ge 7, 3) := by decide +kernel
theorem d_M_ready_66 : decode b_M_ready 66 = .ok (.iconst 1, 1) := by decide +kernel
theorem d_M_ready_67 : decode b_M_ready 67 = .ok (.goto 4, 3) := by decide +kernel
theorem d_M_ready_70 : decode b_M_ready 70 = .ok (.iconst 0, 1) := by decide +kernel
theorem d_M_ready_71 : decode b_M_ready 71 = .ok (.ireturn, 1) := by decide +kernel
theorem d_M_chosen_0 : decode b_M_chosen 0 = .ok (.iconst 3, 1) := by decide +kernel
theorem d_M_chosen_1 : decode b_M_chosen 1 = .ok (.istore_n 1, 1) := by decide +kernel
theorem d_M_chosen_2 : decode b_M_chosen 2 = .ok (.iconst 0, 1) := by decide +kernel
theorem d_M_chosen_3 : decode b_M_chosen 3 = .ok (.istore_n 2, 1) := by decide +kernel
theorem d_M_chosen_4 : decode b_M_chosen 4 = .ok (.iconst 0, 1) := by decide +kernel
theorem d_M_chosen_5 : decode b_M_chosen 5 = .ok (.istore_n 3, 1) := by decide +kernel
theorem d_M_chosen_6 : decode b_M_chosen 6 = .ok (.iload_n 3, 1) := by decide +kernel
theorem d_M_chosen_7 : decode b_M_chosen 7 = .ok (.iconst 3, 1) := by decide +kernel
theorem d_M_chosen_8 : decode b_M_chosen 8 = .ok (.if_icmp .ge 65, 3) := by decide +kernel
theorem d_M_chosen_11 : decode b_M_chosen 11 = .ok (.aload_n 0, 1) := by decide +kernel
theorem d_M_chosen_12 : decode b_M_chosen 12 = .ok (.iload_n 3, 1) := by decide +kernel
theorem d_M_chosen_13 : decode b_M_chosen 13 = .ok (.invokevirtual 104, 3) := by decide +kernel
theorem d_M_chosen_16 : decode b_M_chosen 16 = .ok (.istore 4, 2) := by decide +kernel
theorem d_M_chosen_18 : decode b_M_chosen 18 = .ok (.iload 4, 2) := by decide +kernel
theorem d_M_chosen_20 : decode b_M_chosen 20 = .ok (.ifCond .eq 23, 3) := by decide +kernel
theorem d_M_chosen_23 : decode b_M_chosen 23 = .ok (.aload_n 0, 1) := by decide +kernel
theorem d_M_chosen_24 : decode b_M_chosen 24 = .ok (.getfield 16, 3) := by decide +kernel
theorem d_M_chosen_27 : decode b_M_chosen 27 = .ok (.sipush 512, 3) := by decide +kernel
theorem d_M_chosen_30 : decode b_M_chosen 30 = .ok (.iload_n 3, 1) := by decide +kernel
theorem d_M_chosen_31 : decode b_M_chosen 31 = .ok (.imul, 1) := by decide +kernel
theorem d_M_chosen_32 : decode b_M_chosen 32 = .ok (.aload_n 0, 1) := by decide +kernel
theorem d_M_chosen_33 : decode b_M_chosen 33 = .ok (.getfield 28, 3) := by decide +kernel
theorem d_M_chosen_36 : decode b_M_chosen 36 = .ok (.iload_n 3, 1) := by decide +kernel
theorem d_M_chosen_37 : decode b_M_chosen 37 = .ok (.iaload, 1) := by decide +kernel
theorem d_M_chosen_38 : decode b_M_chosen 38 = .ok (.iadd, 1) := by decide +kernel
theorem d_M_chosen_39 : decode b_M_chosen 39 = .ok (.iaload, 1) := by decide +kernel
theorem d_M_chosen_40 : decode b_M_chosen 40 = .ok (.goto 4, 3) := by decide +kernel
theorem d_M_chosen_43 : decode b_M_chosen 43 = .ok (.iconst 0, 1) := by decide +kernel
theorem d_M_chosen_44 : decode b_M_chosen 44 = .ok (.istore 5, 2) := by decide +kernel
theorem d_M_chosen_46 : decode b_M_chosen 46 = .ok (.iload 4, 2) := by decide +kernel
theorem d_M_chosen_48 : decode b_M_chosen 48 = .ok (.ifCond .eq 19, 3) := by decide +kernel
theorem d_M_chosen_51 : decode b_M_chosen 51 = .ok (.iload_n 1, 1) := by decide +kernel
theorem d_M_chosen_52 : decode b_M_chosen 52 = .ok (.iconst 3, 1) := by decide +kernel
theorem d_M_chosen_53 : decode b_M_chosen 53 = .ok (.if_icmp .eq 9, 3) := by decide +kernel
theorem d_M_chosen_56 : decode b_M_chosen 56 = .ok (.iload 5, 2) := by decide +kernel
theorem d_M_chosen_58 : decode b_M_chosen 58 = .ok (.iload_n 2, 1) := by decide +kernel
theorem d_M_chosen_59 : decode b_M_chosen 59 = .ok (.if_icmp .ge 8, 3) := by decide +kernel
theorem d_M_chosen_62 : decode b_M_chosen 62 = .ok (.iload_n 3, 1) := by decide +kernel
theorem d_M_chosen_63 : decode b_M_chosen 63 = .ok (.istore_n 1, 1) := by decide +kernel
theorem d_M_chosen_64 : decode b_M_chosen 64 = .ok (.iload 5, 2) := by decide +kernel
theorem d_M_chosen_66 : decode b_M_chosen 66 = .ok (.istore_n 2, 1) := by decide +kernel
theorem d_M_chosen_67 : decode b_M_chosen 67 = .ok (.iinc 3 1, 3) := by decide +kernel
theorem d_M_chosen_70 : decode b_M_chosen 70 = .ok (.goto (-64), 3) := by decide +kernel
theorem d_M_chosen_73 : decode b_M_chosen 73 = .ok (.iload_n 1, 1) := by decide +kernel
theorem d_M_chosen_74 : decode b_M_chosen 74 = .ok (.ireturn, 1) := by decide +kernel
theorem d_M_make_0 : decode b_M_make 0 = .ok (.aload_n 0, 1) := by decide +kernel
theorem d_M_make_1 : decode b_M_make 1 = .ok (.invokevirtual 108, 3) := by decide +kernel
theorem d_M_make_4 : decode b_M_make 4 = .ok (.istore_n 1, 1) := by decide +kernel
theorem d_M_make_5 : decode b_M_make 5 = .ok (.aload_n 0, 1) := by decide +kernel
theorem d_M_make_6 : decode b_M_make 6 = .ok (.getfield 94, 3) := by decide +kernel
theorem d_M_make_9 : decode b_M_make 9 = .ok (.bipush 8, 2) := by decide +kernel
theorem d_M_make_11 : decode b_M_make 11 = .ok (.irem, 1) := by decide +kernel
theorem d_M_make_12 : decode b_M_make 12 = .ok (.ifCond .ne 7, 3) := by decide +kernel
theorem d_M_make_15 : decode b_M_make 15 = .ok (.iconst 1, 1) := by decide +kernel
theorem d_M_make_16 : decode b_M_make 16 = .ok (.goto 4, 3) := by decide +kernel
theorem d_M_make_19 : decode b_M_make 19 = .ok (.iconst 0, 1) := by decide +kernel
theorem d_M_make_20 : decode b_M_make 20 = .ok (.istore_n 2, 1) := by decide +kernel
theorem d_M_make_21 : decode b_M_make 21 = .ok (.iload_n 1, 1) := by decide +kernel
theorem d_M_make_22 : decode b_M_make 22 = .ok (.iconst 3, 1) := by decide +kernel
theorem d_M_make_23 : decode b_M_make 23 = .ok (.if_icmp .ge 16, 3) := by decide +kernel
theorem d_M_make_26 : decode b_M_make 26 = .ok (.aload_n 0, 1) := by decide +kernel
theorem d_M_make_27 : decode b_M_make 27 = .ok (.getfield 31, 3) := by decide +kernel
theorem d_M_make_30 : decode b_M_make 30 = .ok (.iload_n 1, 1) := by decide +kernel
theorem d_M_make_31 : decode b_M_make 31 = .ok (.iaload, 1) := by decide +kernel
theorem d_M_make_32 : decode b_M_make 32 = .ok (.ifCond .ne 7, 3) := by decide +kernel
theorem d_M_make_35 : decode b_M_make 35 = .ok (.iconst 1, 1) := by decide +kernel
theorem d_M_make_36 : decode b_M_make 36 = .ok (.goto 4, 3) := by decide +kernel
theorem d_M_make_39 : decode b_M_make 39 = .ok (.iconst 0, 1) := by decide +kernel
theorem d_M_make_40 : decode b_M_make 40 = .ok (.istore_n 3, 1) := by decide +kernel
theorem d_M_make_41 : decode b_M_make 41 = .ok (.iload_n 1, 1) := by decide +kernel
theorem d_M_make_42 : decode b_M_make 42 = .ok (.iconst 3, 1) := by decide +kernel
theorem d_M_make_43 : decode b_M_make 43 = .ok (.if_icmp .ge 11, 3) := by decide +kernel
theorem d_M_make_46 : decode b_M_make 46 = .ok (.aload_n 0, 1) := by decide +kernel
theorem d_M_make_47 : decode b_M_make 47 = .ok (.iload_n 1, 1) := by decide +kernel
theorem d_M_make_48 : decode b_M_make 48 = .ok (.invokevirtual 97, 3) := by decide +kernel
theorem d_M_make_51 : decode b_M_make 51 = .ok (.goto 4, 3) := by decide +kernel
theorem d_M_make_54 : decode b_M_make 54 = .ok (.iconst 0, 1) := by decide +kernel
theorem d_M_make_55 : decode b_M_make 55 = .ok (.istore 4, 2) := by decide +kernel
theorem d_M_make_57 : decode b_M_make 57 = .ok (.iconst 0, 1) := by decide +kernel
theorem d_M_make_58 : decode b_M_make 58 = .ok (.istore 5, 2) := by decide +kernel
theorem d_M_make_60 : decode b_M_make 60 = .ok (.iload 5, 2) := by decide +kernel
theorem d_M_make_62 : decode b_M_make 62 = .ok (.bipush 16, 2) := by decide +kernel
theorem d_M_make_64 : decode b_M_make 64 = .ok (.if_icmp .ge 19, 3) := by decide +kernel
theorem d_M_make_67 : decode b_M_make 67 = .ok (.aload_n 0, 1) := by decide +kernel
theorem d_M_make_68 : decode b_M_make 68 = .ok (.getfield 40, 3) := by decide +kernel
theorem d_M_make_71 : decode b_M_make 71 = .ok (.iload 5, 2) := by decide +kernel
theorem d_M_make_73 : decode b_M_make 73 = .ok (.sipush 255, 3) := by decide +kernel
theorem d_M_make_76 : decode b_M_make 76 = .ok (.iastore, 1) := by decide +kernel
theorem d_M_make_77 : decode b_M_make 77 = .ok (.iinc 5 1, 3) := by decide +kernel
theorem d_M_make_80 : decode b_M_make 80 = .ok (.goto (-20), 3) := by decide +kernel
theorem d_M_make_83 : decode b_M_make 83 = .ok (.iconst 2, 1) := by decide +kernel
theorem d_M_make_84 : decode b_M_make 84 = .ok (.istore 5, 2) := by decide +kernel
theorem d_M_make_86 : decode b_M_make 86 = .ok (.aload_n 0, 1) := by decide +kernel
theorem d_M_make_87 : decode b_M_make 87 = .ok (.getfield 40, 3) := by decide +kernel
theorem d_M_make_90 : decode b_M_make 90 = .ok (.iconst 0, 1) := by decide +kernel
theorem d_M_make_91 : decode b_M_make 91 = .ok (.bipush 71, 2) := by decide +kernel
theorem d_M_make_93 : decode b_M_make 93 = .ok (.iastore, 1) := by decide +kernel
theorem d_M_make_94 : decode b_M_make 94 = .ok (.aload_n 0, 1) := by decide +kernel
theorem d_M_make_95 : decode b_M_make 95 = .ok (.getfield 40, 3) := by decide +kernel
theorem d_M_make_98 : decode b_M_make 98 = .ok (.iconst 1, 1) := by decide +kernel
theorem d_M_make_99 : decode b_M_make 99 = .ok (.bipush 16, 2) := by decide +kernel
theorem d_M_make_101 : decode b_M_make 101 = .ok (.iload_n 1, 1) := by decide +kernel
theorem d_M_make_102 : decode b_M_make 102 = .ok (.imul, 1) := by decide +kernel
theorem d_M_make_103 : decode b_M_make 103 = .ok (.iload_n 3, 1) := by decide +kernel
theorem d_M_make_104 : decode b_M_make 104 = .ok (.ifCond .eq 9, 3) := by decide +kernel
theorem d_M_make_107 : decode b_M_make 107 = .ok (.sipush 128, 3) := by decide +kernel
theorem d_M_make_110 : decode b_M_make 110 = .ok (.goto 4, 3) := by decide +kernel
theorem d_M_make_113 : decode b_M_make 113 = .ok (.iconst 0, 1) := by decide +kernel
theorem d_M_make_114 : decode b_M_make 114 = .ok (.iadd, 1) := by decide +kernel
theorem d_M_make_115 : decode b_M_make 115 = .ok (.iload_n 2, 1) := by decide +kernel
theorem d_M_make_116 : decode b_M_make 116 = .ok (.ifCond .eq 8, 3) := by decide +kernel
theorem d_M_make_119 : decode b_M_make 119 = .ok (.bipush 64, 2) := by decide +kernel
theorem d_M_make_121 : decode b_M_make 121 = .ok (.goto 4, 3) := by decide +kernel
theorem d_M_make_124 : decode b_M_make 124 = .ok (.iconst 0, 1) := by decide +kernel
theorem d_M_make_125 : decode b_M_make 125 = .ok (.iadd, 1) := by decide +kernel
theorem d_M_make_126 : decode b_M_make 126 = .ok (.iload_n 1, 1) := by decide +kernel
theorem d_M_make_127 : decode b_M_make 127 = .ok (.iconst 3, 1) := by decide +kernel
theorem d_M_make_128 : decode b_M_make 128 = .ok (.if_icmp .ge 12, 3) := by decide +kernel
theorem d_M_make_131 : decode b_M_make 131 = .ok (.aload_n 0, 1) := by decide +kernel
theorem d_M_make_132 : decode b_M_make 132 = .ok (.getfield 37, 3) := by decide +kernel
theorem d_M_make_135 : decode b_M_make 135 = .ok (.iload_n 1, 1) := by decide +kernel
theorem d_M_make_136 : decode b_M_make 136 = .ok (.iaload, 1) := by decide +kernel
theorem d_M_make_137 : decode b_M_make 137 = .ok (.goto 4, 3) := by decide +kernel
theorem d_M_make_140 : decode b_M_make 140 = .ok (.iconst 0, 1) := by decide +kernel
theorem d_M_make_141 : decode b_M_make 141 = .ok (.iadd, 1) := by decide +kernel
theorem d_M_make_142 : decode b_M_make 142 = .ok (.iastore, 1) := by decide +kernel
theorem d_M_make_143 : decode b_M_make 143 = .ok (.iload_n 2, 1) := by decide +kernel
theorem d_M_make_144 : decode b_M_make 144 = .ok (.ifCond .eq 38, 3) := by decide +kernel
theorem d_M_make_147 : decode b_M_make 147 = .ok (.aload_n 0, 1) := by decide +kernel
theorem d_M_make_148 : decode b_M_make 148 = .ok (.getfield 40, 3) := by decide +kernel
theorem d_M_make_151 : decode b_M_make 151 = .ok (.iconst 2, 1) := by decide +kernel
theorem d_M_make_152 : decode b_M_make 152 = .ok (.aload_n 0, 1) := by decide +kernel
theorem d_M_make_153 : decode b_M_make 153 = .ok (.getfield 94, 3) := by decide +kernel
theorem d_M_make_156 : decode b_M_make 156 = .ok (.sipush 256, 3) := by decide +kernel
theorem d_M_make_159 : decode b_M_make 159 = .ok (.idiv, 1) := by decide +kernel
theorem d_M_make_160 : decode b_M_make 160 = .ok (.sipush 256, 3) := by decide +kernel
theorem d_M_make_163 : decode b_M_make 163 = .ok (.irem, 1) := by decide +kernel
theorem d_M_make_164 : decode b_M_make 164 = .ok (.iastore, 1) := by decide +kernel
theorem d_M_make_165 : decode b_M_make 165 = .ok (.aload_n 0, 1) := by decide +kernel
theorem d_M_make_166 : decode b_M_make 166 = .ok (.getfield 40, 3) := by decide +kernel
theorem d_M_make_169 : decode b_M_make 169 = .ok (.iconst 3, 1) := by decide +kernel
theorem d_M_make_170 : decode b_M_make 170 = .ok (.aload_n 0, 1) := by decide +kernel
theorem d_M_make_171 : decode b_M_make 171 = .ok (.getfield 94, 3) := by decide +kernel
theorem d_M_make_174 : decode b_M_make 174 = .ok (.sipush 256, 3) := by decide +kernel
theorem d_M_make_177 : decode b_M_make 177 = .ok (.irem, 1) := by decide +kernel
theorem d_M_make_178 : decode b_M_make 178 = .ok (.iastore, 1) := by decide +kernel
theorem d_M_make_179 : decode b_M_make 179 = .ok (.iconst 4, 1) := by decide +kernel
theorem d_M_make_180 : decode b_M_make 180 = .ok (.istore 5, 2) := by decide +kernel
theorem d_M_make_182 : decode b_M_make 182 = .ok (.iload_n 1, 1) := by decide +kernel
theorem d_M_make_183 : decode b_M_make 183 = .ok (.iconst 3, 1) := by decide +kernel
theorem d_M_make_184 : decode b_M_make 184 = .ok (.if_icmp .ne 4, 3) := by decide +kernel
theorem d_M_make_187 : decode b_M_make 187 = .ok (.return_, 1) := by decide +kernel
theorem d_M_make_188 : decode b_M_make 188 = .ok (.sipush 512, 3) := by decide +kernel
theorem d_M_make_191 : decode b_M_make 191 = .ok (.iload_n 1, 1) := by decide +kernel
theorem d_M_make_192 : decode b_M_make 192 = .ok (.imul, 1) := by decide +kernel
theorem d_M_make_193 : decode b_M_make 193 = .ok (.aload_n 0, 1) := by decide +kernel
theorem d_M_make_194 : decode b_M_make 194 = .ok (.getfield 28, 3) := by decide +kernel
theorem d_M_make_197 : decode b_M_make 197 = .ok (.iload_n 1, 1) := by decide +kernel
theorem d_M_make_198 : decode b_M_make 198 = .ok (.iaload, 1) := by decide +kernel
theorem d_M_make_199 : decode b_M_make 199 = .ok (.iadd, 1) := by decide +kernel
theorem d_M_make_200 : decode b_M_make 200 = .ok (.istore 6, 2) := by decide +kernel
theorem d_M_make_202 : decode b_M_make 202 = .ok (.iload_n 3, 1) := by decide +kernel
theorem d_M_make_203 : decode b_M_make 203 = .ok (.ifCond .eq 67, 3) := by decide +kernel
theorem d_M_make_206 : decode b_M_make 206 = .ok (.aload_n 0, 1) := by decide +kernel
theorem d_M_make_207 : decode b_M_make 207 = .ok (.getfield 40, 3) := by decide +kernel
theorem d_M_make_210 : decode b_M_make 210 = .ok (.iload 5, 2) := by decide +kernel
theorem d_M_make_212 : decode b_M_make 212 = .ok (.aload_n 0, 1) := by decide +kernel
theorem d_M_make_213 : decode b_M_make 213 = .ok (.getfield 13, 3) := by decide +kernel
theorem d_M_make_216 : decode b_M_make 216 = .ok (.iload 6, 2) := by decide +kernel
theorem d_M_make_218 : decode b_M_make 218 = .ok (.iaload, 1) := by decide +kernel
theorem d_M_make_219 : decode b_M_make 219 = .ok (.iastore, 1) := by decide +kernel
theorem d_M_make_220 : decode b_M_make 220 = .ok (.aload_n 0, 1) := by decide +kernel
theorem d_M_make_221 : decode b_M_make 221 = .ok (.getfield 40, 3) := by decide +kernel
theorem d_M_make_224 : decode b_M_make 224 = .ok (.iload 5, 2) := by decide +kernel
theorem d_M_make_226 : decode b_M_make 226 = .ok (.iconst 1, 1) := by decide +kernel
theorem d_M_make_227 : decode b_M_make 227 = .ok (.iadd, 1) := by decide +kernel
theorem d_M_make_228 : decode b_M_make 228 = .ok (.aload_n 0, 1) := by decide +kernel
theorem d_M_make_229 : decode b_M_make 229 = .ok (.getfield 16, 3) := by decide +kernel
theorem d_M_make_232 : decode b_M_make 232 = .ok (.iload 6, 2) := by decide +kernel
theorem d_M_make_234 : decode b_M_make 234 = .ok (.iaload, 1) := by decide +kernel
theorem d_M_make_235 : decode b_M_make 235 = .ok (.sipush 256, 3) := by decide +kernel
theorem d_M_make_238 : decode b_M_make 238 = .ok (.idiv, 1) := by decide +kernel
theorem d_M_make_239 : decode b_M_make 239 = .ok (.sipush 256, 3) := by decide +kernel
theorem d_M_make_242 : decode b_M_make 242 = .ok (.irem, 1) := by decide +kernel
theorem d_M_make_243 : decode b_M_make 243 = .ok (.iastore, 1) := by decide +kernel
theorem d_M_make_244 : decode b_M_make 244 = .ok (.aload_n 0, 1) := by decide +kernel
theorem d_M_make_245 : decode b_M_make 245 = .ok (.getfield 40, 3) := by decide +kernel
theorem d_M_make_248 : decode b_M_make 248 = .ok (.iload 5, 2) := by decide +kernel
theorem d_M_make_250 : decode b_M_make 250 = .ok (.iconst 2, 1) := by decide +kernel
theorem d_M_make_251 : decode b_M_make 251 = .ok (.iadd, 1) := by decide +kernel
theorem d_M_make_252 : decode b_M_make 252 = .ok (.aload_n 0, 1) := by decide +kernel
theorem d_M_make_253 : decode b_M_make 253 = .ok (.getfield 16, 3) := by decide +kernel
theorem d_M_make_256 : decode b_M_make 256 = .ok (.iload 6, 2) := by decide +kernel
theorem d_M_make_258 : decode b_M_make 258 = .ok (.iaload, 1) := by decide +kernel
theorem d_M_make_259 : decode b_M_make 259 = .ok (.sipush 256, 3) := by decide +kernel
theorem d_M_make_262 : decode b_M_make 262 = .ok (.irem, 1) := by decide +kernel
theorem d_M_make_263 : decode b_M_make 263 = .ok (.iastore, 1) := by decide +kernel
theorem d_M_make_264 : decode b_M_make 264 = .ok (.iload 5, 2) := by decide +kernel
theorem d_M_make_266 : decode b_M_make 266 = .ok (.iconst 3, 1) := by decide +kernel
theorem d_M_make_267 : decode b_M_make 267 = .ok (.iadd, 1) := by decide +kernel
theorem d_M_make_268 : decode b_M_make 268 = .ok (.istore 5, 2) := by decide +kernel
theorem d_M_make_270 : decode b_M_make 270 = .ok (.iconst 0, 1) := by decide +kernel
theorem d_M_make_271 : decode b_M_make 271 = .ok (.istore 7, 2) := by decide +kernel
theorem d_M_make_273 : decode b_M_make 273 = .ok (.iload 7, 2) := by decide +kernel
theorem d_M_make_275 : decode b_M_make 275 = .ok (.iload 4, 2) := by decide +kernel
theorem d_M_make_277 : decode b_M_make 277 = .ok (.if_icmp .ge 43, 3) := by decide +kernel
theorem d_M_make_280 : decode b_M_make 280 = .ok (.aload_n 0, 1) := by decide +kernel
theorem d_M_make_281 : decode b_M_make 281 = .ok (.getfield 40, 3) := by decide +kernel
theorem d_M_make_284 : decode b_M_make 284 = .ok (.iload 5, 2) := by decide +kernel
theorem d_M_make_286 : decode b_M_make 286 = .ok (.iload 7, 2) := by decide +kernel
theorem d_M_make_288 : decode b_M_make 288 = .ok (.iadd, 1) := by decide +kernel
theorem d_M_make_289 : decode b_M_make 289 = .ok (.aload_n 0, 1) := by decide +kernel
theorem d_M_make_290 : decode b_M_make 290 = .ok (.getfield 19, 3) := by decide +kernel
theorem d_M_make_293 : decode b_M_make 293 = .ok (.iload 6, 2) := by decide +kernel
theorem d_M_make_295 : decode b_M_make 295 = .ok (.iaload, 1) := by decide +kernel
theorem d_M_make_296 : decode b_M_make 296 = .ok (.bipush 7, 2) := by decide +kernel
theorem d_M_make_298 : decode b_M_make 298 = .ok (.aload_n 0, 1) := by decide +kernel
theorem d_M_make_299 : decode b_M_make 299 = .ok (.getfield 31, 3) := by decide +kernel
theorem d_M_make_302 : decode b_M_make 302 = .ok (.iload_n 1, 1) := by decide +kernel
theorem d_M_make_303 : decode b_M_make 303 = .ok (.iaload, 1) := by decide +kernel
theorem d_M_make_304 : decode b_M_make 304 = .ok (.iload 7, 2) := by decide +kernel
theorem d_M_make_306 : decode b_M_make 306 = .ok (.iadd, 1) := by decide +kernel
theorem d_M_make_307 : decode b_M_make 307 = .ok (.imul, 1) := by decide +kernel
theorem d_M_make_308 : decode b_M_make 308 = .ok (.iadd, 1) := by decide +kernel
theorem d_M_make_309 : decode b_M_make 309 = .ok (.sipush 256, 3) := by decide +kernel
theorem d_M_make_312 : decode b_M_make 312 = .ok (.irem, 1) := by decide +kernel
theorem d_M_make_313 : decode b_M_make 313 = .ok (.iastore, 1) := by decide +kernel
theorem d_M_make_314 : decode b_M_make 314 = .ok (.iinc 7 1, 3) := by decide +kernel
theorem d_M_make_317 : decode b_M_make 317 = .ok (.goto (-44), 3) := by decide +kernel
theorem d_M_make_320 : decode b_M_make 320 = .ok (.aload_n 0, 1) := by decide +kernel
theorem d_M_make_321 : decode b_M_make 321 = .ok (.getfield 7, 3) := by decide +kernel
theorem d_M_make_324 : decode b_M_make 324 = .ok (.iload_n 1, 1) := by decide +kernel
theorem d_M_make_325 : decode b_M_make 325 = .ok (.aload_n 0, 1) := by decide +kernel
theorem d_M_make_326 : decode b_M_make 326 = .ok (.getfield 7, 3) := by decide +kernel
theorem d_M_make_329 : decode b_M_make 329 = .ok (.iload_n 1, 1) := by decide +kernel
theorem d_M_make_330 : decode b_M_make 330 = .ok (.iaload, 1) := by decide +kernel
theorem d_M_make_331 : decode b_M_make 331 = .ok (.iload 4, 2) := by decide +kernel
theorem d_M_make_333 : decode b_M_make 333 = .ok (.iadd, 1) := by decide +kernel
theorem d_M_make_334 : decode b_M_make 334 = .ok (.iastore, 1) := by decide +kernel
theorem d_M_make_335 : decode b_M_make 335 = .ok (.aload_n 0, 1) := by decide +kernel
theorem d_M_make_336 : decode b_M_make 336 = .ok (.getfield 37, 3) := by decide +kernel
theorem d_M_make_339 : decode b_M_make 339 = .ok (.iload_n 1, 1) := by decide +kernel
theorem d_M_make_340 : decode b_M_make 340 = .ok (.aload_n 0, 1) := by decide +kernel
theorem d_M_make_341 : decode b_M_make 341 = .ok (.getfield 37, 3) := by decide +kernel
theorem d_M_make_344 : decode b_M_make 344 = .ok (.iload_n 1, 1) := by decide +kernel
theorem d_M_make_345 : decode b_M_make 345 = .ok (.iaload, 1) := by decide +kernel
theorem d_M_make_346 : decode b_M_make 346 = .ok (.iconst 1, 1) := by decide +kernel
theorem d_M_make_347 : decode b_M_make 347 = .ok (.iadd, 1) := by decide +kernel
theorem d_M_make_348 : decode b_M_make 348 = .ok (.bipush 16, 2) := by decide +kernel
theorem d_M_make_350 : decode b_M_make 350 = .ok (.irem, 1) := by decide +kernel
theorem d_M_make_351 : decode b_M_make 351 = .ok (.iastore, 1) := by decide +kernel
theorem d_M_make_352 : decode b_M_make 352 = .ok (.aload_n 0, 1) := by decide +kernel
theorem d_M_make_353 : decode b_M_make 353 = .ok (.getfield 31, 3) := by decide +kernel
theorem d_M_make_356 : decode b_M_make 356 = .ok (.iload_n 1, 1) := by decide +kernel
theorem d_M_make_357 : decode b_M_make 357 = .ok (.aload_n 0, 1) := by decide +kernel
theorem d_M_make_358 : decode b_M_make 358 = .ok (.getfield 31, 3) := by decide +kernel
theorem d_M_make_361 : decode b_M_make 361 = .ok (.iload_n 1, 1) := by decide +kernel
theorem d_M_make_362 : decode b_M_make 362 = .ok (.iaload, 1) := by decide +kernel
theorem d_M_make_363 : decode b_M_make 363 = .ok (.iload 4, 2) := by decide +kernel
theorem d_M_make_365 : decode b_M_make 365 = .ok (.iadd, 1) := by decide +kernel
theorem d_M_make_366 : decode b_M_make 366 = .ok (.iastore, 1) := by decide +kernel
theorem d_M_make_367 : decode b_M_make 367 = .ok (.aload_n 0, 1) := by decide +kernel
theorem d_M_make_368 : decode b_M_make 368 = .ok (.getfield 31, 3) := by decide +kernel
theorem d_M_make_371 : decode b_M_make 371 = .ok (.iload_n 1, 1) := by decide +kernel
theorem d_M_make_372 : decode b_M_make 372 = .ok (.iaload, 1) := by decide +kernel
theorem d_M_make_373 : decode b_M_make 373 = .ok (.aload_n 0, 1) := by decide +kernel
theorem d_M_make_374 : decode b_M_make 374 = .ok (.getfield 13, 3) := by decide +kernel
theorem d_M_make_377 : decode b_M_make 377 = .ok (.iload 6, 2) := by decide +kernel
theorem d_M_make_379 : decode b_M_make 379 = .ok (.iaload, 1) := by decide +kernel
theorem d_M_make_380 : decode b_M_make 380 = .ok (.if_icmp .ne 20, 3) := by decide +kernel
theorem d_M_make_383 : decode b_M_make 383 = .ok (.aload_n 0, 1) := by decide +kernel
theorem d_M_make_384 : decode b_M_make 384 = .ok (.getfield 28, 3) := by decide +kernel
theorem d_M_make_387 : decode b_M_make 387 = .ok (.iload_n 1, 1) := by decide +kernel
theorem d_M_make_388 : decode b_M_make 388 = .ok (.dup2, 1) := by decide +kernel
theorem d_M_make_389 : decode b_M_make 389 = .ok (.iaload, 1) := by decide +kernel
theorem d_M_make_390 : decode b_M_make 390 = .ok (.iconst 1, 1) := by decide +kernel
theorem d_M_make_391 : decode b_M_make 391 = .ok (.iadd, 1) := by decide +kernel
theorem d_M_make_392 : decode b_M_make 392 = .ok (.iastore, 1) := by decide +kernel
theorem d_M_make_393 : decode b_M_make 393 = .ok (.aload_n 0, 1) := by decide +kernel
theorem d_M_make_394 : decode b_M_make 394 = .ok (.getfield 31, 3) := by decide +kernel
theorem d_M_make_397 : decode b_M_make 397 = .ok (.iload_n 1, 1) := by decide +kernel
theorem d_M_make_398 : decode b_M_make 398 = .ok (.iconst 0, 1) := by decide +kernel
theorem d_M_make_399 : decode b_M_make 399 = .ok (.iastore, 1) := by decide +kernel
theorem d_M_make_400 : decode b_M_make 400 = .ok (.return_, 1) := by decide +kernel
theorem d_M_oneTick_0 : decode b_M_oneTick 0 = .ok (.iconst 0, 1) := by decide +kernel
theorem d_M_oneTick_1 : decode b_M_oneTick 1 = .ok (.istore_n 1, 1) := by decide +kernel
theorem d_M_oneTick_2 : decode b_M_oneTick 2 = .ok (.iload_n 1, 1) := by decide +kernel
theorem d_M_oneTick_3 : decode b_M_oneTick 3 = .ok (.iconst 3, 1) := by decide +kernel
theorem d_M_oneTick_4 : decode b_M_oneTick 4 = .ok (.if_icmp .ge 14, 3) := by decide +kernel
theorem d_M_oneTick_7 : decode b_M_oneTick 7 = .ok (.aload_n 0, 1) := by decide +kernel
theorem d_M_oneTick_8 : decode b_M_oneTick 8 = .ok (.iload_n 1, 1) := by decide +kernel
theorem d_M_oneTick_9 : decode b_M_oneTick 9 = .ok (.invokevirtual 112, 3) := by decide +kernel
theorem d_M_oneTick_12 : decode b_M_oneTick 12 = .ok (.iinc 1 1, 3) := by decide +kernel
theorem d_M_oneTick_15 : decode b_M_oneTick 15 = .ok (.goto (-13), 3) := by decide +kernel
theorem d_M_oneTick_18 : decode b_M_oneTick 18 = .ok (.aload_n 0, 1) := by decide +kernel
theorem d_M_oneTick_19 : decode b_M_oneTick 19 = .ok (.invokevirtual 116, 3) := by decide +kernel
theorem d_M_oneTick_22 : decode b_M_oneTick 22 = .ok (.aload_n 0, 1) := by decide +kernel
end
section
theorem d_M_oneTick_23 : decode b_M_oneTick 23 = .ok (.iconst 1, 1) := by decide +kernel
theorem d_M_oneTick_24 : decode b_M_oneTick 24 = .ok (.putfield 119, 3) := by decide +kernel
theorem d_M_oneTick_27 : decode b_M_oneTick 27 = .ok (.aload_n 0, 1) := by decide +kernel
theorem d_M_oneTick_28 : decode b_M_oneTick 28 = .ok (.dup, 1) := by decide +kernel
theorem d_M_oneTick_29 : decode b_M_oneTick 29 = .ok (.getfield 94, 3) := by decide +kernel
theorem d_M_oneTick_32 : decode b_M_oneTick 32 = .ok (.iconst 1, 1) := by decide +kernel
theorem d_M_oneTick_33 : decode b_M_oneTick 33 = .ok (.iadd, 1) := by decide +kernel
theorem d_M_oneTick_34 : decode b_M_oneTick 34 = .ok (.putfield 94, 3) := by decide +kernel
theorem d_M_oneTick_37 : decode b_M_oneTick 37 = .ok (.return_, 1) := by decide +kernel
theorem d_M_ticks_0 : decode b_M_ticks 0 = .ok (.iload_n 1, 1) := by decide +kernel
theorem d_M_ticks_1 : decode b_M_ticks 1 = .ok (.iconst 0, 1) := by decide +kernel
theorem d_M_ticks_2 : decode b_M_ticks 2 = .ok (.bipush 40, 2) := by decide +kernel
theorem d_M_ticks_4 : decode b_M_ticks 4 = .ok (.invokestatic 90, 3) := by decide +kernel
theorem d_M_ticks_7 : decode b_M_ticks 7 = .ok (.ifCond .ne 5, 3) := by decide +kernel
theorem d_M_ticks_10 : decode b_M_ticks 10 = .ok (.iconst (-1), 1) := by decide +kernel
theorem d_M_ticks_11 : decode b_M_ticks 11 = .ok (.ireturn, 1) := by decide +kernel
theorem d_M_ticks_12 : decode b_M_ticks 12 = .ok (.iconst 0, 1) := by decide +kernel
theorem d_M_ticks_13 : decode b_M_ticks 13 = .ok (.istore_n 3, 1) := by decide +kernel
theorem d_M_ticks_14 : decode b_M_ticks 14 = .ok (.iload_n 3, 1) := by decide +kernel
theorem d_M_ticks_15 : decode b_M_ticks 15 = .ok (.iload_n 1, 1) := by decide +kernel
theorem d_M_ticks_16 : decode b_M_ticks 16 = .ok (.if_icmp .ge 23, 3) := by decide +kernel
theorem d_M_ticks_19 : decode b_M_ticks 19 = .ok (.aload_n 0, 1) := by decide +kernel
theorem d_M_ticks_20 : decode b_M_ticks 20 = .ok (.invokevirtual 123, 3) := by decide +kernel
theorem d_M_ticks_23 : decode b_M_ticks 23 = .ok (.iload_n 2, 1) := by decide +kernel
theorem d_M_ticks_24 : decode b_M_ticks 24 = .ok (.ifCond .eq 9, 3) := by decide +kernel
theorem d_M_ticks_27 : decode b_M_ticks 27 = .ok (.aload_n 0, 1) := by decide +kernel
theorem d_M_ticks_28 : decode b_M_ticks 28 = .ok (.iconst 0, 1) := by decide +kernel
theorem d_M_ticks_29 : decode b_M_ticks 29 = .ok (.iconst 0, 1) := by decide +kernel
theorem d_M_ticks_30 : decode b_M_ticks 30 = .ok (.invokevirtual 126, 3) := by decide +kernel
theorem d_M_ticks_33 : decode b_M_ticks 33 = .ok (.iinc 3 1, 3) := by decide +kernel
theorem d_M_ticks_36 : decode b_M_ticks 36 = .ok (.goto (-22), 3) := by decide +kernel
theorem d_M_ticks_39 : decode b_M_ticks 39 = .ok (.aload_n 0, 1) := by decide +kernel
theorem d_M_ticks_40 : decode b_M_ticks 40 = .ok (.getfield 94, 3) := by decide +kernel
theorem d_M_ticks_43 : decode b_M_ticks 43 = .ok (.ireturn, 1) := by decide +kernel
theorem d_M_tick_0 : decode b_M_tick 0 = .ok (.aload_n 0, 1) := by decide +kernel
theorem d_M_tick_1 : decode b_M_tick 1 = .ok (.iload_n 1, 1) := by decide +kernel
theorem d_M_tick_2 : decode b_M_tick 2 = .ok (.iconst 1, 1) := by decide +kernel
theorem d_M_tick_3 : decode b_M_tick 3 = .ok (.invokevirtual 130, 3) := by decide +kernel
theorem d_M_tick_6 : decode b_M_tick 6 = .ok (.ireturn, 1) := by decide +kernel
theorem d_M_lose_0 : decode b_M_lose 0 = .ok (.aload_n 0, 1) := by decide +kernel
theorem d_M_lose_1 : decode b_M_lose 1 = .ok (.iload_n 1, 1) := by decide +kernel
theorem d_M_lose_2 : decode b_M_lose 2 = .ok (.iconst 0, 1) := by decide +kernel
theorem d_M_lose_3 : decode b_M_lose 3 = .ok (.invokevirtual 130, 3) := by decide +kernel
theorem d_M_lose_6 : decode b_M_lose 6 = .ok (.ireturn, 1) := by decide +kernel
theorem d_M_spoil_0 : decode b_M_spoil 0 = .ok (.iload_n 1, 1) := by decide +kernel
theorem d_M_spoil_1 : decode b_M_spoil 1 = .ok (.iconst 0, 1) := by decide +kernel
theorem d_M_spoil_2 : decode b_M_spoil 2 = .ok (.bipush 15, 2) := by decide +kernel
theorem d_M_spoil_4 : decode b_M_spoil 4 = .ok (.invokestatic 90, 3) := by decide +kernel
theorem d_M_spoil_7 : decode b_M_spoil 7 = .ok (.ifCond .eq 14, 3) := by decide +kernel
theorem d_M_spoil_10 : decode b_M_spoil 10 = .ok (.iload_n 2, 1) := by decide +kernel
theorem d_M_spoil_11 : decode b_M_spoil 11 = .ok (.iconst 0, 1) := by decide +kernel
theorem d_M_spoil_12 : decode b_M_spoil 12 = .ok (.sipush 255, 3) := by decide +kernel
theorem d_M_spoil_15 : decode b_M_spoil 15 = .ok (.invokestatic 90, 3) := by decide +kernel
theorem d_M_spoil_18 : decode b_M_spoil 18 = .ok (.ifCond .ne 5, 3) := by decide +kernel
theorem d_M_spoil_21 : decode b_M_spoil 21 = .ok (.iconst (-1), 1) := by decide +kernel
theorem d_M_spoil_22 : decode b_M_spoil 22 = .ok (.ireturn, 1) := by decide +kernel
theorem d_M_spoil_23 : decode b_M_spoil 23 = .ok (.aload_n 0, 1) := by decide +kernel
theorem d_M_spoil_24 : decode b_M_spoil 24 = .ok (.invokevirtual 123, 3) := by decide +kernel
theorem d_M_spoil_27 : decode b_M_spoil 27 = .ok (.aload_n 0, 1) := by decide +kernel
theorem d_M_spoil_28 : decode b_M_spoil 28 = .ok (.iload_n 1, 1) := by decide +kernel
theorem d_M_spoil_29 : decode b_M_spoil 29 = .ok (.iload_n 2, 1) := by decide +kernel
theorem d_M_spoil_30 : decode b_M_spoil 30 = .ok (.invokevirtual 126, 3) := by decide +kernel
theorem d_M_spoil_33 : decode b_M_spoil 33 = .ok (.aload_n 0, 1) := by decide +kernel
theorem d_M_spoil_34 : decode b_M_spoil 34 = .ok (.getfield 94, 3) := by decide +kernel
theorem d_M_spoil_37 : decode b_M_spoil 37 = .ok (.ireturn, 1) := by decide +kernel
theorem d_M_packet_0 : decode b_M_packet 0 = .ok (.aload_n 0, 1) := by decide +kernel
theorem d_M_packet_1 : decode b_M_packet 1 = .ok (.getfield 119, 3) := by decide +kernel
theorem d_M_packet_4 : decode b_M_packet 4 = .ok (.ifCond .eq 22, 3) := by decide +kernel
theorem d_M_packet_7 : decode b_M_packet 7 = .ok (.iload_n 1, 1) := by decide +kernel
theorem d_M_packet_8 : decode b_M_packet 8 = .ok (.iconst 0, 1) := by decide +kernel
theorem d_M_packet_9 : decode b_M_packet 9 = .ok (.bipush 15, 2) := by decide +kernel
theorem d_M_packet_11 : decode b_M_packet 11 = .ok (.invokestatic 90, 3) := by decide +kernel
theorem d_M_packet_14 : decode b_M_packet 14 = .ok (.ifCond .eq 12, 3) := by decide +kernel
theorem d_M_packet_17 : decode b_M_packet 17 = .ok (.aload_n 0, 1) := by decide +kernel
theorem d_M_packet_18 : decode b_M_packet 18 = .ok (.getfield 40, 3) := by decide +kernel
theorem d_M_packet_21 : decode b_M_packet 21 = .ok (.iload_n 1, 1) := by decide +kernel
theorem d_M_packet_22 : decode b_M_packet 22 = .ok (.iaload, 1) := by decide +kernel
theorem d_M_packet_23 : decode b_M_packet 23 = .ok (.goto 4, 3) := by decide +kernel
theorem d_M_packet_26 : decode b_M_packet 26 = .ok (.iconst (-1), 1) := by decide +kernel
theorem d_M_packet_27 : decode b_M_packet 27 = .ok (.ireturn, 1) := by decide +kernel
theorem d_M_goBroken_0 : decode b_M_goBroken 0 = .ok (.aload_n 0, 1) := by decide +kernel
theorem d_M_goBroken_1 : decode b_M_goBroken 1 = .ok (.getfield 80, 3) := by decide +kernel
theorem d_M_goBroken_4 : decode b_M_goBroken 4 = .ok (.iconst 2, 1) := by decide +kernel
theorem d_M_goBroken_5 : decode b_M_goBroken 5 = .ok (.aload_n 0, 1) := by decide +kernel
theorem d_M_goBroken_6 : decode b_M_goBroken 6 = .ok (.getfield 53, 3) := by decide +kernel
theorem d_M_goBroken_9 : decode b_M_goBroken 9 = .ok (.iload_n 1, 1) := by decide +kernel
theorem d_M_goBroken_10 : decode b_M_goBroken 10 = .ok (.baload, 1) := by decide +kernel
theorem d_M_goBroken_11 : decode b_M_goBroken 11 = .ok (.ifCond .eq 14, 3) := by decide +kernel
theorem d_M_goBroken_14 : decode b_M_goBroken 14 = .ok (.aload_n 0, 1) := by decide +kernel
theorem d_M_goBroken_15 : decode b_M_goBroken 15 = .ok (.getfield 80, 3) := by decide +kernel
theorem d_M_goBroken_18 : decode b_M_goBroken 18 = .ok (.iconst 2, 1) := by decide +kernel
theorem d_M_goBroken_19 : decode b_M_goBroken 19 = .ok (.iaload, 1) := by decide +kernel
theorem d_M_goBroken_20 : decode b_M_goBroken 20 = .ok (.iconst 1, 1) := by decide +kernel
theorem d_M_goBroken_21 : decode b_M_goBroken 21 = .ok (.iadd, 1) := by decide +kernel
theorem d_M_goBroken_22 : decode b_M_goBroken 22 = .ok (.goto 9, 3) := by decide +kernel
theorem d_M_goBroken_25 : decode b_M_goBroken 25 = .ok (.aload_n 0, 1) := by decide +kernel
theorem d_M_goBroken_26 : decode b_M_goBroken 26 = .ok (.getfield 80, 3) := by decide +kernel
theorem d_M_goBroken_29 : decode b_M_goBroken 29 = .ok (.iconst 2, 1) := by decide +kernel
theorem d_M_goBroken_30 : decode b_M_goBroken 30 = .ok (.iaload, 1) := by decide +kernel
theorem d_M_goBroken_31 : decode b_M_goBroken 31 = .ok (.iastore, 1) := by decide +kernel
theorem d_M_goBroken_32 : decode b_M_goBroken 32 = .ok (.aload_n 0, 1) := by decide +kernel
theorem d_M_goBroken_33 : decode b_M_goBroken 33 = .ok (.getfield 53, 3) := by decide +kernel
theorem d_M_goBroken_36 : decode b_M_goBroken 36 = .ok (.iload_n 1, 1) := by decide +kernel
theorem d_M_goBroken_37 : decode b_M_goBroken 37 = .ok (.iconst 0, 1) := by decide +kernel
theorem d_M_goBroken_38 : decode b_M_goBroken 38 = .ok (.bastore, 1) := by decide +kernel
theorem d_M_goBroken_39 : decode b_M_goBroken 39 = .ok (.return_, 1) := by decide +kernel
theorem d_M_hear_0 : decode b_M_hear 0 = .ok (.iconst 0, 1) := by decide +kernel
theorem d_M_hear_1 : decode b_M_hear 1 = .ok (.istore_n 3, 1) := by decide +kernel
theorem d_M_hear_2 : decode b_M_hear 2 = .ok (.iload_n 3, 1) := by decide +kernel
theorem d_M_hear_3 : decode b_M_hear 3 = .ok (.bipush 16, 2) := by decide +kernel
theorem d_M_hear_5 : decode b_M_hear 5 = .ok (.if_icmp .ge 37, 3) := by decide +kernel
theorem d_M_hear_8 : decode b_M_hear 8 = .ok (.aload_n 0, 1) := by decide +kernel
theorem d_M_hear_9 : decode b_M_hear 9 = .ok (.getfield 43, 3) := by decide +kernel
theorem d_M_hear_12 : decode b_M_hear 12 = .ok (.iload_n 3, 1) := by decide +kernel
theorem d_M_hear_13 : decode b_M_hear 13 = .ok (.iload_n 3, 1) := by decide +kernel
theorem d_M_hear_14 : decode b_M_hear 14 = .ok (.iload_n 1, 1) := by decide +kernel
theorem d_M_hear_15 : decode b_M_hear 15 = .ok (.if_icmp .ne 14, 3) := by decide +kernel
theorem d_M_hear_18 : decode b_M_hear 18 = .ok (.aload_n 0, 1) := by decide +kernel
theorem d_M_hear_19 : decode b_M_hear 19 = .ok (.getfield 40, 3) := by decide +kernel
theorem d_M_hear_22 : decode b_M_hear 22 = .ok (.iload_n 3, 1) := by decide +kernel
theorem d_M_hear_23 : decode b_M_hear 23 = .ok (.iaload, 1) := by decide +kernel
theorem d_M_hear_24 : decode b_M_hear 24 = .ok (.iload_n 2, 1) := by decide +kernel
theorem d_M_hear_25 : decode b_M_hear 25 = .ok (.ixor, 1) := by decide +kernel
theorem d_M_hear_26 : decode b_M_hear 26 = .ok (.goto 9, 3) := by decide +kernel
theorem d_M_hear_29 : decode b_M_hear 29 = .ok (.aload_n 0, 1) := by decide +kernel
theorem d_M_hear_30 : decode b_M_hear 30 = .ok (.getfield 40, 3) := by decide +kernel
theorem d_M_hear_33 : decode b_M_hear 33 = .ok (.iload_n 3, 1) := by decide +kernel
theorem d_M_hear_34 : decode b_M_hear 34 = .ok (.iaload, 1) := by decide +kernel
theorem d_M_hear_35 : decode b_M_hear 35 = .ok (.iastore, 1) := by decide +kernel
theorem d_M_hear_36 : decode b_M_hear 36 = .ok (.iinc 3 1, 3) := by decide +kernel
theorem d_M_hear_39 : decode b_M_hear 39 = .ok (.goto (-37), 3) := by decide +kernel
theorem d_M_hear_42 : decode b_M_hear 42 = .ok (.aload_n 0, 1) := by decide +kernel
theorem d_M_hear_43 : decode b_M_hear 43 = .ok (.getfield 43, 3) := by decide +kernel
theorem d_M_hear_46 : decode b_M_hear 46 = .ok (.iconst 1, 1) := by decide +kernel
theorem d_M_hear_47 : decode b_M_hear 47 = .ok (.iaload, 1) := by decide +kernel
theorem d_M_hear_48 : decode b_M_hear 48 = .ok (.istore_n 3, 1) := by decide +kernel
theorem d_M_hear_49 : decode b_M_hear 49 = .ok (.aload_n 0, 1) := by decide +kernel
theorem d_M_hear_50 : decode b_M_hear 50 = .ok (.getfield 43, 3) := by decide +kernel
theorem d_M_hear_53 : decode b_M_hear 53 = .ok (.iconst 0, 1) := by decide +kernel
theorem d_M_hear_54 : decode b_M_hear 54 = .ok (.iaload, 1) := by decide +kernel
theorem d_M_hear_55 : decode b_M_hear 55 = .ok (.bipush 71, 2) := by decide +kernel
theorem d_M_hear_57 : decode b_M_hear 57 = .ok (.if_icmp .ne 7, 3) := by decide +kernel
theorem d_M_hear_60 : decode b_M_hear 60 = .ok (.iconst 1, 1) := by decide +kernel
theorem d_M_hear_61 : decode b_M_hear 61 = .ok (.goto 4, 3) := by decide +kernel
theorem d_M_hear_64 : decode b_M_hear 64 = .ok (.iconst 0, 1) := by decide +kernel
theorem d_M_hear_65 : decode b_M_hear 65 = .ok (.istore 4, 2) := by decide +kernel
theorem d_M_hear_67 : decode b_M_hear 67 = .ok (.iload 4, 2) := by decide +kernel
theorem d_M_hear_69 : decode b_M_hear 69 = .ok (.ifCond .eq 17, 3) := by decide +kernel
theorem d_M_hear_72 : decode b_M_hear 72 = .ok (.iload_n 3, 1) := by decide +kernel
theorem d_M_hear_73 : decode b_M_hear 73 = .ok (.bipush 64, 2) := by decide +kernel
theorem d_M_hear_75 : decode b_M_hear 75 = .ok (.idiv, 1) := by decide +kernel
theorem d_M_hear_76 : decode b_M_hear 76 = .ok (.iconst 2, 1) := by decide +kernel
theorem d_M_hear_77 : decode b_M_hear 77 = .ok (.irem, 1) := by decide +kernel
theorem d_M_hear_78 : decode b_M_hear 78 = .ok (.iconst 1, 1) := by decide +kernel
theorem d_M_hear_79 : decode b_M_hear 79 = .ok (.if_icmp .ne 7, 3) := by decide +kernel
theorem d_M_hear_82 : decode b_M_hear 82 = .ok (.iconst 1, 1) := by decide +kernel
theorem d_M_hear_83 : decode b_M_hear 83 = .ok (.goto 4, 3) := by decide +kernel
theorem d_M_hear_86 : decode b_M_hear 86 = .ok (.iconst 0, 1) := by decide +kernel
theorem d_M_hear_87 : decode b_M_hear 87 = .ok (.istore 5, 2) := by decide +kernel
theorem d_M_hear_89 : decode b_M_hear 89 = .ok (.iload 5, 2) := by decide +kernel
theorem d_M_hear_91 : decode b_M_hear 91 = .ok (.ifCond .eq 32, 3) := by decide +kernel
theorem d_M_hear_94 : decode b_M_hear 94 = .ok (.aload_n 0, 1) := by decide +kernel
theorem d_M_hear_95 : decode b_M_hear 95 = .ok (.sipush 256, 3) := by decide +kernel
theorem d_M_hear_98 : decode b_M_hear 98 = .ok (.aload_n 0, 1) := by decide +kernel
theorem d_M_hear_99 : decode b_M_hear 99 = .ok (.getfield 43, 3) := by decide +kernel
theorem d_M_hear_102 : decode b_M_hear 102 = .ok (.iconst 2, 1) := by decide +kernel
theorem d_M_hear_103 : decode b_M_hear 103 = .ok (.iaload, 1) := by decide +kernel
theorem d_M_hear_104 : decode b_M_hear 104 = .ok (.imul, 1) := by decide +kernel
theorem d_M_hear_105 : decode b_M_hear 105 = .ok (.aload_n 0, 1) := by decide +kernel
theorem d_M_hear_106 : decode b_M_hear 106 = .ok (.getfield 43, 3) := by decide +kernel
theorem d_M_hear_109 : decode b_M_hear 109 = .ok (.iconst 3, 1) := by decide +kernel
theorem d_M_hear_110 : decode b_M_hear 110 = .ok (.iaload, 1) := by decide +kernel
theorem d_M_hear_111 : decode b_M_hear 111 = .ok (.iadd, 1) := by decide +kernel
theorem d_M_hear_112 : decode b_M_hear 112 = .ok (.putfield 134, 3) := by decide +kernel
theorem d_M_hear_115 : decode b_M_hear 115 = .ok (.aload_n 0, 1) := by decide +kernel
theorem d_M_hear_116 : decode b_M_hear 116 = .ok (.iconst 1, 1) := by decide +kernel
theorem d_M_hear_117 : decode b_M_hear 117 = .ok (.putfield 137, 3) := by decide +kernel
theorem d_M_hear_120 : decode b_M_hear 120 = .ok (.goto 30, 3) := by decide +kernel
theorem d_M_hear_123 : decode b_M_hear 123 = .ok (.aload_n 0, 1) := by decide +kernel
theorem d_M_hear_124 : decode b_M_hear 124 = .ok (.aload_n 0, 1) := by decide +kernel
theorem d_M_hear_125 : decode b_M_hear 125 = .ok (.getfield 137, 3) := by decide +kernel
theorem d_M_hear_128 : decode b_M_hear 128 = .ok (.ifCond .eq 15, 3) := by decide +kernel
theorem d_M_hear_131 : decode b_M_hear 131 = .ok (.aload_n 0, 1) := by decide +kernel
theorem d_M_hear_132 : decode b_M_hear 132 = .ok (.getfield 134, 3) := by decide +kernel
theorem d_M_hear_135 : decode b_M_hear 135 = .ok (.iconst 1, 1) := by decide +kernel
theorem d_M_hear_136 : decode b_M_hear 136 = .ok (.iadd, 1) := by decide +kernel
theorem d_M_hear_137 : decode b_M_hear 137 = .ok (.ldc 140, 2) := by decide +kernel
theorem d_M_hear_139 : decode b_M_hear 139 = .ok (.irem, 1) := by decide +kernel
theorem d_M_hear_140 : decode b_M_hear 140 = .ok (.goto 7, 3) := by decide +kernel
theorem d_M_hear_143 : decode b_M_hear 143 = .ok (.aload_n 0, 1) := by decide +kernel
theorem d_M_hear_144 : decode b_M_hear 144 = .ok (.getfield 134, 3) := by decide +kernel
theorem d_M_hear_147 : decode b_M_hear 147 = .ok (.putfield 134, 3) := by decide +kernel
theorem d_M_hear_150 : decode b_M_hear 150 = .ok (.iload_n 3, 1) := by decide +kernel
theorem d_M_hear_151 : decode b_M_hear 151 = .ok (.bipush 16, 2) := by decide +kernel
theorem d_M_hear_153 : decode b_M_hear 153 = .ok (.idiv, 1) := by decide +kernel
theorem d_M_hear_154 : decode b_M_hear 154 = .ok (.iconst 4, 1) := by decide +kernel
theorem d_M_hear_155 : decode b_M_hear 155 = .ok (.irem, 1) := by decide +kernel
theorem d_M_hear_156 : decode b_M_hear 156 = .ok (.istore 6, 2) := by decide +kernel
theorem d_M_hear_158 : decode b_M_hear 158 = .ok (.iload 4, 2) := by decide +kernel
theorem d_M_hear_160 : decode b_M_hear 160 = .ok (.ifCond .ne 16, 3) := by decide +kernel
theorem d_M_hear_163 : decode b_M_hear 163 = .ok (.aload_n 0, 1) := by decide +kernel
theorem d_M_hear_164 : decode b_M_hear 164 = .ok (.getfield 80, 3) := by decide +kernel
theorem d_M_hear_167 : decode b_M_hear 167 = .ok (.iconst 0, 1) := by decide +kernel
theorem d_M_hear_168 : decode b_M_hear 168 = .ok (.dup2, 1) := by decide +kernel
theorem d_M_hear_169 : decode b_M_hear 169 = .ok (.iaload, 1) := by decide +kernel
theorem d_M_hear_170 : decode b_M_hear 170 = .ok (.iconst 1, 1) := by decide +kernel
theorem d_M_hear_171 : decode b_M_hear 171 = .ok (.iadd, 1) := by decide +kernel
theorem d_M_hear_172 : decode b_M_hear 172 = .ok (.iastore, 1) := by decide +kernel
theorem d_M_hear_173 : decode b_M_hear 173 = .ok (.goto 64, 3) := by decide +kernel
theorem d_M_hear_176 : decode b_M_hear 176 = .ok (.iload 6, 2) := by decide +kernel
theorem d_M_hear_178 : decode b_M_hear 178 = .ok (.iconst 3, 1) := by decide +kernel
theorem d_M_hear_179 : decode b_M_hear 179 = .ok (.if_icmp .ge 58, 3) := by decide +kernel
theorem d_M_hear_182 : decode b_M_hear 182 = .ok (.aload_n 0, 1) := by decide +kernel
theorem d_M_hear_183 : decode b_M_hear 183 = .ok (.iload 6, 2) := by decide +kernel
theorem d_M_hear_185 : decode b_M_hear 185 = .ok (.iload_n 3, 1) := by decide +kernel
theorem d_M_hear_186 : decode b_M_hear 186 = .ok (.bipush 16, 2) := by decide +kernel
theorem d_M_hear_188 : decode b_M_hear 188 = .ok (.irem, 1) := by decide +kernel
theorem d_M_hear_189 : decode b_M_hear 189 = .ok (.invokevirtual 141, 3) := by decide +kernel
theorem d_M_hear_192 : decode b_M_hear 192 = .ok (.iload_n 3, 1) := by decide +kernel
theorem d_M_hear_193 : decode b_M_hear 193 = .ok (.bipush 127, 2) := by decide +kernel
theorem d_M_hear_195 : decode b_M_hear 195 = .ok (.if_icmp .le 22, 3) := by decide +kernel
theorem d_M_hear_198 : decode b_M_hear 198 = .ok (.aload_n 0, 1) := by decide +kernel
theorem d_M_hear_199 : decode b_M_hear 199 = .ok (.iload 6, 2) := by decide +kernel
theorem d_M_hear_201 : decode b_M_hear 201 = .ok (.iload 5, 2) := by decide +kernel
theorem d_M_hear_203 : decode b_M_hear 203 = .ok (.ifCond .eq 7, 3) := by decide +kernel
theorem d_M_hear_206 : decode b_M_hear 206 = .ok (.iconst 4, 1) := by decide +kernel
theorem d_M_hear_207 : decode b_M_hear 207 = .ok (.goto 4, 3) := by decide +kernel
theorem d_M_hear_210 : decode b_M_hear 210 = .ok (.iconst 2, 1) := by decide +kernel
theorem d_M_hear_211 : decode b_M_hear 211 = .ok (.invokevirtual 144, 3) := by decide +kernel
theorem d_M_hear_214 : decode b_M_hear 214 = .ok (.goto 13, 3) := by decide +kernel
theorem d_M_hear_217 : decode b_M_hear 217 = .ok (.iload 5, 2) := by decide +kernel
theorem d_M_hear_219 : decode b_M_hear 219 = .ok (.ifCond .eq 7, 3) := by decide +kernel
theorem d_M_hear_222 : decode b_M_hear 222 = .ok (.iconst 4, 1) := by decide +kernel
theorem d_M_hear_223 : decode b_M_hear 223 = .ok (.goto 4, 3) := by decide +kernel
theorem d_M_hear_226 : decode b_M_hear 226 = .ok (.iconst 2, 1) := by decide +kernel
theorem d_M_hear_227 : decode b_M_hear 227 = .ok (.istore 7, 2) := by decide +kernel
theorem d_M_hear_229 : decode b_M_hear 229 = .ok (.aload_n 0, 1) := by decide +kernel
theorem d_M_hear_230 : decode b_M_hear 230 = .ok (.iload 6, 2) := by decide +kernel
theorem d_M_hear_232 : decode b_M_hear 232 = .ok (.iload 7, 2) := by decide +kernel
theorem d_M_hear_234 : decode b_M_hear 234 = .ok (.invokevirtual 148, 3) := by decide +kernel
theorem d_M_hear_237 : decode b_M_hear 237 = .ok (.return_, 1) := by decide +kernel
theorem d_M_note_0 : decode b_M_note 0 = .ok (.aload_n 0, 1) := by decide +kernel
theorem d_M_note_1 : decode b_M_note 1 = .ok (.getfield 46, 3) := by decide +kernel
theorem d_M_note_4 : decode b_M_note 4 = .ok (.iload_n 1, 1) := by decide +kernel
theorem d_M_note_5 : decode b_M_note 5 = .ok (.baload, 1) := by decide +kernel
theorem d_M_note_6 : decode b_M_note 6 = .ok (.ifCond .eq 33, 3) := by decide +kernel
theorem d_M_note_9 : decode b_M_note 9 = .ok (.iload_n 2, 1) := by decide +kernel
theorem d_M_note_10 : decode b_M_note 10 = .ok (.aload_n 0, 1) := by decide +kernel
theorem d_M_note_11 : decode b_M_note 11 = .ok (.getfield 50, 3) := by decide +kernel
theorem d_M_note_14 : decode b_M_note 14 = .ok (.iload_n 1, 1) := by decide +kernel
theorem d_M_note_15 : decode b_M_note 15 = .ok (.iaload, 1) := by decide +kernel
theorem d_M_note_16 : decode b_M_note 16 = .ok (.iconst 1, 1) := by decide +kernel
theorem d_M_note_17 : decode b_M_note 17 = .ok (.iadd, 1) := by decide +kernel
theorem d_M_note_18 : decode b_M_note 18 = .ok (.bipush 16, 2) := by decide +kernel
theorem d_M_note_20 : decode b_M_note 20 = .ok (.irem, 1) := by decide +kernel
theorem d_M_note_21 : decode b_M_note 21 = .ok (.if_icmp .eq 18, 3) := by decide +kernel
theorem d_M_note_24 : decode b_M_note 24 = .ok (.aload_n 0, 1) := by decide +kernel
theorem d_M_note_25 : decode b_M_note 25 = .ok (.getfield 80, 3) := by decide +kernel
theorem d_M_note_28 : decode b_M_note 28 = .ok (.iconst 1, 1) := by decide +kernel
theorem d_M_note_29 : decode b_M_note 29 = .ok (.dup2, 1) := by decide +kernel
theorem d_M_note_30 : decode b_M_note 30 = .ok (.iaload, 1) := by decide +kernel
theorem d_M_note_31 : decode b_M_note 31 = .ok (.iconst 1, 1) := by decide +kernel
theorem d_M_note_32 : decode b_M_note 32 = .ok (.iadd, 1) := by decide +kernel
theorem d_M_note_33 : decode b_M_note 33 = .ok (.iastore, 1) := by decide +kernel
theorem d_M_note_34 : decode b_M_note 34 = .ok (.aload_n 0, 1) := by decide +kernel
theorem d_M_note_35 : decode b_M_note 35 = .ok (.iload_n 1, 1) := by decide +kernel
theorem d_M_note_36 : decode b_M_note 36 = .ok (.invokevirtual 151, 3) := by decide +kernel
theorem d_M_note_39 : decode b_M_note 39 = .ok (.aload_n 0, 1) := by decide +kernel
theorem d_M_note_40 : decode b_M_note 40 = .ok (.getfield 46, 3) := by decide +kernel
theorem d_M_note_43 : decode b_M_note 43 = .ok (.iload_n 1, 1) := by decide +kernel
theorem d_M_note_44 : decode b_M_note 44 = .ok (.iconst 1, 1) := by decide +kernel
theorem d_M_note_45 : decode b_M_note 45 = .ok (.bastore, 1) := by decide +kernel
theorem d_M_note_46 : decode b_M_note 46 = .ok (.aload_n 0, 1) := by decide +kernel
theorem d_M_note_47 : decode b_M_note 47 = .ok (.getfield 50, 3) := by decide +kernel
theorem d_M_note_50 : decode b_M_note 50 = .ok (.iload_n 1, 1) := by decide +kernel
theorem d_M_note_51 : decode b_M_note 51 = .ok (.iload_n 2, 1) := by decide +kernel
theorem d_M_note_52 : decode b_M_note 52 = .ok (.iastore, 1) := by decide +kernel
theorem d_M_note_53 : decode b_M_note 53 = .ok (.return_, 1) := by decide +kernel
theorem d_M_begin_0 : decode b_M_begin 0 = .ok (.aload_n 0, 1) := by decide +kernel
theorem d_M_begin_1 : decode b_M_begin 1 = .ok (.iload_n 1, 1) := by decide +kernel
theorem d_M_begin_2 : decode b_M_begin 2 = .ok (.invokevirtual 151, 3) := by decide +kernel
theorem d_M_begin_5 : decode b_M_begin 5 = .ok (.aload_n 0, 1) := by decide +kernel
theorem d_M_begin_6 : decode b_M_begin 6 = .ok (.getfield 43, 3) := by decide +kernel
theorem d_M_begin_9 : decode b_M_begin 9 = .ok (.iload_n 2, 1) := by decide +kernel
theorem d_M_begin_10 : decode b_M_begin 10 = .ok (.iaload, 1) := by decide +kernel
theorem d_M_begin_11 : decode b_M_begin 11 = .ok (.istore_n 3, 1) := by decide +kernel
theorem d_M_begin_12 : decode b_M_begin 12 = .ok (.iload_n 3, 1) := by decide +kernel
theorem d_M_begin_13 : decode b_M_begin 13 = .ok (.iconst 1, 1) := by decide +kernel
theorem d_M_begin_14 : decode b_M_begin 14 = .ok (.bipush 60, 2) := by decide +kernel
theorem d_M_begin_16 : decode b_M_begin 16 = .ok (.invokestatic 90, 3) := by decide +kernel
theorem d_M_begin_19 : decode b_M_begin 19 = .ok (.ifCond .ne 16, 3) := by decide +kernel
theorem d_M_begin_22 : decode b_M_begin 22 = .ok (.aload_n 0, 1) := by decide +kernel
theorem d_M_begin_23 : decode b_M_begin 23 = .ok (.getfield 80, 3) := by decide +kernel
theorem d_M_begin_26 : decode b_M_begin 26 = .ok (.iconst 3, 1) := by decide +kernel
theorem d_M_begin_27 : decode b_M_begin 27 = .ok (.dup2, 1) := by decide +kernel
theorem d_M_begin_28 : decode b_M_begin 28 = .ok (.iaload, 1) := by decide +kernel
theorem d_M_begin_29 : decode b_M_begin 29 = .ok (.iconst 1, 1) := by decide +kernel
theorem d_M_begin_30 : decode b_M_begin 30 = .ok (.iadd, 1) := by decide +kernel
theorem d_M_begin_31 : decode b_M_begin 31 = .ok (.iastore, 1) := by decide +kernel
theorem d_M_begin_32 : decode b_M_begin 32 = .ok (.bipush 16, 2) := by decide +kernel
theorem d_M_begin_34 : decode b_M_begin 34 = .ok (.ireturn, 1) := by decide +kernel
theorem d_M_begin_35 : decode b_M_begin 35 = .ok (.aload_n 0, 1) := by decide +kernel
theorem d_M_begin_36 : decode b_M_begin 36 = .ok (.getfield 53, 3) := by decide +kernel
theorem d_M_begin_39 : decode b_M_begin 39 = .ok (.iload_n 1, 1) := by decide +kernel
theorem d_M_begin_40 : decode b_M_begin 40 = .ok (.iconst 1, 1) := by decide +kernel
theorem d_M_begin_41 : decode b_M_begin 41 = .ok (.bastore, 1) := by decide +kernel
theorem d_M_begin_42 : decode b_M_begin 42 = .ok (.aload_n 0, 1) := by decide +kernel
theorem d_M_begin_43 : decode b_M_begin 43 = .ok (.getfield 56, 3) := by decide +kernel
theorem d_M_begin_46 : decode b_M_begin 46 = .ok (.iload_n 1, 1) := by decide +kernel
theorem d_M_begin_47 : decode b_M_begin 47 = .ok (.iconst 0, 1) := by decide +kernel
theorem d_M_begin_48 : decode b_M_begin 48 = .ok (.iastore, 1) := by decide +kernel
theorem d_M_begin_49 : decode b_M_begin 49 = .ok (.aload_n 0, 1) := by decide +kernel
theorem d_M_begin_50 : decode b_M_begin 50 = .ok (.getfield 59, 3) := by decide +kernel
theorem d_M_begin_53 : decode b_M_begin 53 = .ok (.iload_n 1, 1) := by decide +kernel
theorem d_M_begin_54 : decode b_M_begin 54 = .ok (.iload_n 3, 1) := by decide +kernel
theorem d_M_begin_55 : decode b_M_begin 55 = .ok (.iastore, 1) := by decide +kernel
theorem d_M_begin_56 : decode b_M_begin 56 = .ok (.aload_n 0, 1) := by decide +kernel
theorem d_M_begin_57 : decode b_M_begin 57 = .ok (.getfield 62, 3) := by decide +kernel
theorem d_M_begin_60 : decode b_M_begin 60 = .ok (.iload_n 1, 1) := by decide +kernel
theorem d_M_begin_61 : decode b_M_begin 61 = .ok (.sipush 256, 3) := by decide +kernel
theorem d_M_begin_64 : decode b_M_begin 64 = .ok (.aload_n 0, 1) := by decide +kernel
theorem d_M_begin_65 : decode b_M_begin 65 = .ok (.getfield 43, 3) := by decide +kernel
theorem d_M_begin_68 : decode b_M_begin 68 = .ok (.iload_n 2, 1) := by decide +kernel
theorem d_M_begin_69 : decode b_M_begin 69 = .ok (.iconst 1, 1) := by decide +kernel
theorem d_M_begin_70 : decode b_M_begin 70 = .ok (.iadd, 1) := by decide +kernel
theorem d_M_begin_71 : decode b_M_begin 71 = .ok (.iaload, 1) := by decide +kernel
theorem d_M_begin_72 : decode b_M_begin 72 = .ok (.imul, 1) := by decide +kernel
theorem d_M_begin_73 : decode b_M_begin 73 = .ok (.aload_n 0, 1) := by decide +kernel
theorem d_M_begin_74 : decode b_M_begin 74 = .ok (.getfield 43, 3) := by decide +kernel
theorem d_M_begin_77 : decode b_M_begin 77 = .ok (.iload_n 2, 1) := by decide +kernel
theorem d_M_begin_78 : decode b_M_begin 78 = .ok (.iconst 2, 1) := by decide +kernel
theorem d_M_begin_79 : decode b_M_begin 79 = .ok (.iadd, 1) := by decide +kernel
theorem d_M_begin_80 : decode b_M_begin 80 = .ok (.iaload, 1) := by decide +kernel
theorem d_M_begin_81 : decode b_M_begin 81 = .ok (.iadd, 1) := by decide +kernel
theorem d_M_begin_82 : decode b_M_begin 82 = .ok (.iastore, 1) := by decide +kernel
theorem d_M_begin_83 : decode b_M_begin 83 = .ok (.iload_n 2, 1) := by decide +kernel
theorem d_M_begin_84 : decode b_M_begin 84 = .ok (.iconst 3, 1) := by decide +kernel
theorem d_M_begin_85 : decode b_M_begin 85 = .ok (.iadd, 1) := by decide +kernel
theorem d_M_begin_86 : decode b_M_begin 86 = .ok (.ireturn, 1) := by decide +kernel
theorem d_M_collect_0 : decode b_M_collect 0 = .ok (.iload_n 2, 1) := by decide +kernel
theorem d_M_collect_1 : decode b_M_collect 1 = .ok (.istore_n 3, 1) := by decide +kernel
theorem d_M_collect_2 : decode b_M_collect 2 = .ok (.iload_n 3, 1) := by decide +kernel
theorem d_M_collect_3 : decode b_M_collect 3 = .ok (.bipush 16, 2) := by decide +kernel
theorem d_M_collect_5 : decode b_M_collect 5 = .ok (.if_icmp .ge 70, 3) := by decide +kernel
theorem d_M_collect_8 : decode b_M_collect 8 = .ok (.aload_n 0, 1) := by decide +kernel
theorem d_M_collect_9 : decode b_M_collect 9 = .ok (.getfield 53, 3) := by decide +kernel
theorem d_M_collect_12 : decode b_M_collect 12 = .ok (.iload_n 1, 1) := by decide +kernel
theorem d_M_collect_13 : decode b_M_collect 13 = .ok (.baload, 1) := by decide +kernel
theorem d_M_collect_14 : decode b_M_collect 14 = .ok (.ifCond .eq 61, 3) := by decide +kernel
theorem d_M_collect_17 : decode b_M_collect 17 = .ok (.aload_n 0, 1) := by decide +kernel
theorem d_M_collect_18 : decode b_M_collect 18 = .ok (.getfield 65, 3) := by decide +kernel
theorem d_M_collect_21 : decode b_M_collect 21 = .ok (.bipush 60, 2) := by decide +kernel
theorem d_M_collect_23 : decode b_M_collect 23 = .ok (.iload_n 1, 1) := by decide +kernel
theorem d_M_collect_24 : decode b_M_collect 24 = .ok (.imul, 1) := by decide +kernel
theorem d_M_collect_25 : decode b_M_collect 25 = .ok (.aload_n 0, 1) := by decide +kernel
theorem d_M_collect_26 : decode b_M_collect 26 = .ok (.getfield 56, 3) := by decide +kernel
theorem d_M_collect_29 : decode b_M_collect 29 = .ok (.iload_n 1, 1) := by decide +kernel
theorem d_M_collect_30 : decode b_M_collect 30 = .ok (.iaload, 1) := by decide +kernel
theorem d_M_collect_31 : decode b_M_collect 31 = .ok (.iadd, 1) := by decide +kernel
theorem d_M_collect_32 : decode b_M_collect 32 = .ok (.aload_n 0, 1) := by decide +kernel
theorem d_M_collect_33 : decode b_M_collect 33 = .ok (.getfield 43, 3) := by decide +kernel
theorem d_M_collect_36 : decode b_M_collect 36 = .ok (.iload_n 3, 1) := by decide +kernel
theorem d_M_collect_37 : decode b_M_collect 37 = .ok (.iaload, 1) := by decide +kernel
theorem d_M_collect_38 : decode b_M_collect 38 = .ok (.iastore, 1) := by decide +kernel
theorem d_M_collect_39 : decode b_M_collect 39 = .ok (.aload_n 0, 1) := by decide +kernel
theorem d_M_collect_40 : decode b_M_collect 40 = .ok (.getfield 56, 3) := by decide +kernel
theorem d_M_collect_43 : decode b_M_collect 43 = .ok (.iload_n 1, 1) := by decide +kernel
theorem d_M_collect_44 : decode b_M_collect 44 = .ok (.dup2, 1) := by decide +kernel
theorem d_M_collect_45 : decode b_M_collect 45 = .ok (.iaload, 1) := by decide +kernel
theorem d_M_collect_46 : decode b_M_collect 46 = .ok (.iconst 1, 1) := by decide +kernel
theorem d_M_collect_47 : decode b_M_collect 47 = .ok (.iadd, 1) := by decide +kernel
theorem d_M_collect_48 : decode b_M_collect 48 = .ok (.iastore, 1) := by decide +kernel
theorem d_M_collect_49 : decode b_M_collect 49 = .ok (.aload_n 0, 1) := by decide +kernel
theorem d_M_collect_50 : decode b_M_collect 50 = .ok (.getfield 56, 3) := by decide +kernel
theorem d_M_collect_53 : decode b_M_collect 53 = .ok (.iload_n 1, 1) := by decide +kernel
theorem d_M_collect_54 : decode b_M_collect 54 = .ok (.iaload, 1) := by decide +kernel
theorem d_M_collect_55 : decode b_M_collect 55 = .ok (.aload_n 0, 1) := by decide +kernel
theorem d_M_collect_56 : decode b_M_collect 56 = .ok (.getfield 59, 3) := by decide +kernel
theorem d_M_collect_59 : decode b_M_collect 59 = .ok (.iload_n 1, 1) := by decide +kernel
theorem d_M_collect_60 : decode b_M_collect 60 = .ok (.iaload, 1) := by decide +kernel
theorem d_M_collect_61 : decode b_M_collect 61 = .ok (.if_icmp .ne 8, 3) := by decide +kernel
theorem d_M_collect_64 : decode b_M_collect 64 = .ok (.aload_n 0, 1) := by decide +kernel
theorem d_M_collect_65 : decode b_M_collect 65 = .ok (.iload_n 1, 1) := by decide +kernel
theorem d_M_collect_66 : decode b_M_collect 66 = .ok (.invokevirtual 154, 3) := by decide +kernel
theorem d_M_collect_69 : decode b_M_collect 69 = .ok (.iinc 3 1, 3) := by decide +kernel
theorem d_M_collect_72 : decode b_M_collect 72 = .ok (.goto (-70), 3) := by decide +kernel
theorem d_M_collect_75 : decode b_M_collect 75 = .ok (.return_, 1) := by decide +kernel
theorem d_M_arrive_0 : decode b_M_arrive 0 = .ok (.aload_n 0, 1) := by decide +kernel
theorem d_M_arrive_1 : decode b_M_arrive 1 = .ok (.getfield 53, 3) := by decide +kernel
theorem d_M_arrive_4 : decode b_M_arrive 4 = .ok (.iload_n 1, 1) := by decide +kernel
theorem d_M_arrive_5 : decode b_M_arrive 5 = .ok (.iconst 0, 1) := by decide +kernel
theorem d_M_arrive_6 : decode b_M_arrive 6 = .ok (.bastore, 1) := by decide +kernel
theorem d_M_arrive_7 : decode b_M_arrive 7 = .ok (.aload_n 0, 1) := by decide +kernel
theorem d_M_arrive_8 : decode b_M_arrive 8 = .ok (.getfield 77, 3) := by decide +kernel
theorem d_M_arrive_11 : decode b_M_arrive 11 = .ok (.iload_n 1, 1) := by decide +kernel
theorem d_M_arrive_12 : decode b_M_arrive 12 = .ok (.dup2, 1) := by decide +kernel
theorem d_M_arrive_13 : decode b_M_arrive 13 = .ok (.iaload, 1) := by decide +kernel
theorem d_M_arrive_14 : decode b_M_arrive 14 = .ok (.iconst 1, 1) := by decide +kernel
theorem d_M_arrive_15 : decode b_M_arrive 15 = .ok (.iadd, 1) := by decide +kernel
theorem d_M_arrive_16 : decode b_M_arrive 16 = .ok (.iastore, 1) := by decide +kernel
end
section
theorem d_M_arrive_17 : decode b_M_arrive 17 = .ok (.aload_n 0, 1) := by decide +kernel
theorem d_M_arrive_18 : decode b_M_arrive 18 = .ok (.getfield 80, 3) := by decide +kernel
theorem d_M_arrive_21 : decode b_M_arrive 21 = .ok (.iconst 4, 1) := by decide +kernel
theorem d_M_arrive_22 : decode b_M_arrive 22 = .ok (.dup2, 1) := by decide +kernel
theorem d_M_arrive_23 : decode b_M_arrive 23 = .ok (.iaload, 1) := by decide +kernel
theorem d_M_arrive_24 : decode b_M_arrive 24 = .ok (.iconst 1, 1) := by decide +kernel
theorem d_M_arrive_25 : decode b_M_arrive 25 = .ok (.iadd, 1) := by decide +kernel
theorem d_M_arrive_26 : decode b_M_arrive 26 = .ok (.iastore, 1) := by decide +kernel
theorem d_M_arrive_27 : decode b_M_arrive 27 = .ok (.aload_n 0, 1) := by decide +kernel
theorem d_M_arrive_28 : decode b_M_arrive 28 = .ok (.getfield 62, 3) := by decide +kernel
theorem d_M_arrive_31 : decode b_M_arrive 31 = .ok (.iload_n 1, 1) := by decide +kernel
theorem d_M_arrive_32 : decode b_M_arrive 32 = .ok (.iaload, 1) := by decide +kernel
theorem d_M_arrive_33 : decode b_M_arrive 33 = .ok (.aload_n 0, 1) := by decide +kernel
theorem d_M_arrive_34 : decode b_M_arrive 34 = .ok (.getfield 134, 3) := by decide +kernel
theorem d_M_arrive_37 : decode b_M_arrive 37 = .ok (.isub, 1) := by decide +kernel
theorem d_M_arrive_38 : decode b_M_arrive 38 = .ok (.ldc 140, 2) := by decide +kernel
theorem d_M_arrive_40 : decode b_M_arrive 40 = .ok (.iadd, 1) := by decide +kernel
theorem d_M_arrive_41 : decode b_M_arrive 41 = .ok (.ldc 140, 2) := by decide +kernel
theorem d_M_arrive_43 : decode b_M_arrive 43 = .ok (.irem, 1) := by decide +kernel
theorem d_M_arrive_44 : decode b_M_arrive 44 = .ok (.istore_n 2, 1) := by decide +kernel
theorem d_M_arrive_45 : decode b_M_arrive 45 = .ok (.aload_n 0, 1) := by decide +kernel
theorem d_M_arrive_46 : decode b_M_arrive 46 = .ok (.getfield 80, 3) := by decide +kernel
theorem d_M_arrive_49 : decode b_M_arrive 49 = .ok (.iconst 5, 1) := by decide +kernel
theorem d_M_arrive_50 : decode b_M_arrive 50 = .ok (.aload_n 0, 1) := by decide +kernel
theorem d_M_arrive_51 : decode b_M_arrive 51 = .ok (.getfield 137, 3) := by decide +kernel
theorem d_M_arrive_54 : decode b_M_arrive 54 = .ok (.ifCond .eq 26, 3) := by decide +kernel
theorem d_M_arrive_57 : decode b_M_arrive 57 = .ok (.iload_n 2, 1) := by decide +kernel
theorem d_M_arrive_58 : decode b_M_arrive 58 = .ok (.iconst 1, 1) := by decide +kernel
theorem d_M_arrive_59 : decode b_M_arrive 59 = .ok (.if_icmp .lt 21, 3) := by decide +kernel
theorem d_M_arrive_62 : decode b_M_arrive 62 = .ok (.iload_n 2, 1) := by decide +kernel
theorem d_M_arrive_63 : decode b_M_arrive 63 = .ok (.sipush 32767, 3) := by decide +kernel
theorem d_M_arrive_66 : decode b_M_arrive 66 = .ok (.if_icmp .gt 14, 3) := by decide +kernel
theorem d_M_arrive_69 : decode b_M_arrive 69 = .ok (.aload_n 0, 1) := by decide +kernel
theorem d_M_arrive_70 : decode b_M_arrive 70 = .ok (.getfield 80, 3) := by decide +kernel
theorem d_M_arrive_73 : decode b_M_arrive 73 = .ok (.iconst 5, 1) := by decide +kernel
theorem d_M_arrive_74 : decode b_M_arrive 74 = .ok (.iaload, 1) := by decide +kernel
theorem d_M_arrive_75 : decode b_M_arrive 75 = .ok (.iconst 1, 1) := by decide +kernel
theorem d_M_arrive_76 : decode b_M_arrive 76 = .ok (.iadd, 1) := by decide +kernel
theorem d_M_arrive_77 : decode b_M_arrive 77 = .ok (.goto 9, 3) := by decide +kernel
theorem d_M_arrive_80 : decode b_M_arrive 80 = .ok (.aload_n 0, 1) := by decide +kernel
theorem d_M_arrive_81 : decode b_M_arrive 81 = .ok (.getfield 80, 3) := by decide +kernel
theorem d_M_arrive_84 : decode b_M_arrive 84 = .ok (.iconst 5, 1) := by decide +kernel
theorem d_M_arrive_85 : decode b_M_arrive 85 = .ok (.iaload, 1) := by decide +kernel
theorem d_M_arrive_86 : decode b_M_arrive 86 = .ok (.iastore, 1) := by decide +kernel
theorem d_M_arrive_87 : decode b_M_arrive 87 = .ok (.aload_n 0, 1) := by decide +kernel
theorem d_M_arrive_88 : decode b_M_arrive 88 = .ok (.getfield 71, 3) := by decide +kernel
theorem d_M_arrive_91 : decode b_M_arrive 91 = .ok (.iload_n 1, 1) := by decide +kernel
theorem d_M_arrive_92 : decode b_M_arrive 92 = .ok (.aload_n 0, 1) := by decide +kernel
theorem d_M_arrive_93 : decode b_M_arrive 93 = .ok (.getfield 59, 3) := by decide +kernel
theorem d_M_arrive_96 : decode b_M_arrive 96 = .ok (.iload_n 1, 1) := by decide +kernel
theorem d_M_arrive_97 : decode b_M_arrive 97 = .ok (.iaload, 1) := by decide +kernel
theorem d_M_arrive_98 : decode b_M_arrive 98 = .ok (.iastore, 1) := by decide +kernel
theorem d_M_arrive_99 : decode b_M_arrive 99 = .ok (.aload_n 0, 1) := by decide +kernel
theorem d_M_arrive_100 : decode b_M_arrive 100 = .ok (.getfield 74, 3) := by decide +kernel
theorem d_M_arrive_103 : decode b_M_arrive 103 = .ok (.iload_n 1, 1) := by decide +kernel
theorem d_M_arrive_104 : decode b_M_arrive 104 = .ok (.aload_n 0, 1) := by decide +kernel
theorem d_M_arrive_105 : decode b_M_arrive 105 = .ok (.getfield 62, 3) := by decide +kernel
theorem d_M_arrive_108 : decode b_M_arrive 108 = .ok (.iload_n 1, 1) := by decide +kernel
theorem d_M_arrive_109 : decode b_M_arrive 109 = .ok (.iaload, 1) := by decide +kernel
theorem d_M_arrive_110 : decode b_M_arrive 110 = .ok (.iastore, 1) := by decide +kernel
theorem d_M_arrive_111 : decode b_M_arrive 111 = .ok (.iconst 0, 1) := by decide +kernel
theorem d_M_arrive_112 : decode b_M_arrive 112 = .ok (.istore_n 3, 1) := by decide +kernel
theorem d_M_arrive_113 : decode b_M_arrive 113 = .ok (.iload_n 3, 1) := by decide +kernel
theorem d_M_arrive_114 : decode b_M_arrive 114 = .ok (.bipush 60, 2) := by decide +kernel
theorem d_M_arrive_116 : decode b_M_arrive 116 = .ok (.if_icmp .ge 31, 3) := by decide +kernel
theorem d_M_arrive_119 : decode b_M_arrive 119 = .ok (.aload_n 0, 1) := by decide +kernel
theorem d_M_arrive_120 : decode b_M_arrive 120 = .ok (.getfield 68, 3) := by decide +kernel
theorem d_M_arrive_123 : decode b_M_arrive 123 = .ok (.bipush 60, 2) := by decide +kernel
theorem d_M_arrive_125 : decode b_M_arrive 125 = .ok (.iload_n 1, 1) := by decide +kernel
theorem d_M_arrive_126 : decode b_M_arrive 126 = .ok (.imul, 1) := by decide +kernel
theorem d_M_arrive_127 : decode b_M_arrive 127 = .ok (.iload_n 3, 1) := by decide +kernel
theorem d_M_arrive_128 : decode b_M_arrive 128 = .ok (.iadd, 1) := by decide +kernel
theorem d_M_arrive_129 : decode b_M_arrive 129 = .ok (.aload_n 0, 1) := by decide +kernel
theorem d_M_arrive_130 : decode b_M_arrive 130 = .ok (.getfield 65, 3) := by decide +kernel
theorem d_M_arrive_133 : decode b_M_arrive 133 = .ok (.bipush 60, 2) := by decide +kernel
theorem d_M_arrive_135 : decode b_M_arrive 135 = .ok (.iload_n 1, 1) := by decide +kernel
theorem d_M_arrive_136 : decode b_M_arrive 136 = .ok (.imul, 1) := by decide +kernel
theorem d_M_arrive_137 : decode b_M_arrive 137 = .ok (.iload_n 3, 1) := by decide +kernel
theorem d_M_arrive_138 : decode b_M_arrive 138 = .ok (.iadd, 1) := by decide +kernel
theorem d_M_arrive_139 : decode b_M_arrive 139 = .ok (.iaload, 1) := by decide +kernel
theorem d_M_arrive_140 : decode b_M_arrive 140 = .ok (.iastore, 1) := by decide +kernel
theorem d_M_arrive_141 : decode b_M_arrive 141 = .ok (.iinc 3 1, 3) := by decide +kernel
theorem d_M_arrive_144 : decode b_M_arrive 144 = .ok (.goto (-31), 3) := by decide +kernel
theorem d_M_arrive_147 : decode b_M_arrive 147 = .ok (.return_, 1) := by decide +kernel
theorem d_M_retune_0 : decode b_M_retune 0 = .ok (.aload_n 0, 1) := by decide +kernel
theorem d_M_retune_1 : decode b_M_retune 1 = .ok (.iconst 0, 1) := by decide +kernel
theorem d_M_retune_2 : decode b_M_retune 2 = .ok (.putfield 137, 3) := by decide +kernel
theorem d_M_retune_5 : decode b_M_retune 5 = .ok (.iconst 0, 1) := by decide +kernel
theorem d_M_retune_6 : decode b_M_retune 6 = .ok (.istore_n 1, 1) := by decide +kernel
theorem d_M_retune_7 : decode b_M_retune 7 = .ok (.iload_n 1, 1) := by decide +kernel
theorem d_M_retune_8 : decode b_M_retune 8 = .ok (.iconst 3, 1) := by decide +kernel
theorem d_M_retune_9 : decode b_M_retune 9 = .ok (.if_icmp .ge 30, 3) := by decide +kernel
theorem d_M_retune_12 : decode b_M_retune 12 = .ok (.aload_n 0, 1) := by decide +kernel
theorem d_M_retune_13 : decode b_M_retune 13 = .ok (.getfield 46, 3) := by decide +kernel
theorem d_M_retune_16 : decode b_M_retune 16 = .ok (.iload_n 1, 1) := by decide +kernel
theorem d_M_retune_17 : decode b_M_retune 17 = .ok (.iconst 0, 1) := by decide +kernel
theorem d_M_retune_18 : decode b_M_retune 18 = .ok (.bastore, 1) := by decide +kernel
theorem d_M_retune_19 : decode b_M_retune 19 = .ok (.aload_n 0, 1) := by decide +kernel
theorem d_M_retune_20 : decode b_M_retune 20 = .ok (.getfield 53, 3) := by decide +kernel
theorem d_M_retune_23 : decode b_M_retune 23 = .ok (.iload_n 1, 1) := by decide +kernel
theorem d_M_retune_24 : decode b_M_retune 24 = .ok (.iconst 0, 1) := by decide +kernel
theorem d_M_retune_25 : decode b_M_retune 25 = .ok (.bastore, 1) := by decide +kernel
theorem d_M_retune_26 : decode b_M_retune 26 = .ok (.aload_n 0, 1) := by decide +kernel
theorem d_M_retune_27 : decode b_M_retune 27 = .ok (.getfield 77, 3) := by decide +kernel
theorem d_M_retune_30 : decode b_M_retune 30 = .ok (.iload_n 1, 1) := by decide +kernel
theorem d_M_retune_31 : decode b_M_retune 31 = .ok (.iconst 0, 1) := by decide +kernel
theorem d_M_retune_32 : decode b_M_retune 32 = .ok (.iastore, 1) := by decide +kernel
theorem d_M_retune_33 : decode b_M_retune 33 = .ok (.iinc 1 1, 3) := by decide +kernel
theorem d_M_retune_36 : decode b_M_retune 36 = .ok (.goto (-29), 3) := by decide +kernel
theorem d_M_retune_39 : decode b_M_retune 39 = .ok (.iconst 0, 1) := by decide +kernel
theorem d_M_retune_40 : decode b_M_retune 40 = .ok (.istore_n 1, 1) := by decide +kernel
theorem d_M_retune_41 : decode b_M_retune 41 = .ok (.iload_n 1, 1) := by decide +kernel
theorem d_M_retune_42 : decode b_M_retune 42 = .ok (.bipush 6, 2) := by decide +kernel
theorem d_M_retune_44 : decode b_M_retune 44 = .ok (.if_icmp .ge 16, 3) := by decide +kernel
theorem d_M_retune_47 : decode b_M_retune 47 = .ok (.aload_n 0, 1) := by decide +kernel
theorem d_M_retune_48 : decode b_M_retune 48 = .ok (.getfield 80, 3) := by decide +kernel
theorem d_M_retune_51 : decode b_M_retune 51 = .ok (.iload_n 1, 1) := by decide +kernel
theorem d_M_retune_52 : decode b_M_retune 52 = .ok (.iconst 0, 1) := by decide +kernel
theorem d_M_retune_53 : decode b_M_retune 53 = .ok (.iastore, 1) := by decide +kernel
theorem d_M_retune_54 : decode b_M_retune 54 = .ok (.iinc 1 1, 3) := by decide +kernel
theorem d_M_retune_57 : decode b_M_retune 57 = .ok (.goto (-16), 3) := by decide +kernel
theorem d_M_retune_60 : decode b_M_retune 60 = .ok (.return_, 1) := by decide +kernel
theorem d_M_waiting_0 : decode b_M_waiting 0 = .ok (.iload_n 1, 1) := by decide +kernel
theorem d_M_waiting_1 : decode b_M_waiting 1 = .ok (.iconst 0, 1) := by decide +kernel
theorem d_M_waiting_2 : decode b_M_waiting 2 = .ok (.iconst 2, 1) := by decide +kernel
theorem d_M_waiting_3 : decode b_M_waiting 3 = .ok (.invokestatic 90, 3) := by decide +kernel
theorem d_M_waiting_6 : decode b_M_waiting 6 = .ok (.ifCond .eq 19, 3) := by decide +kernel
theorem d_M_waiting_9 : decode b_M_waiting 9 = .ok (.aload_n 0, 1) := by decide +kernel
theorem d_M_waiting_10 : decode b_M_waiting 10 = .ok (.getfield 22, 3) := by decide +kernel
theorem d_M_waiting_13 : decode b_M_waiting 13 = .ok (.iload_n 1, 1) := by decide +kernel
theorem d_M_waiting_14 : decode b_M_waiting 14 = .ok (.iaload, 1) := by decide +kernel
theorem d_M_waiting_15 : decode b_M_waiting 15 = .ok (.aload_n 0, 1) := by decide +kernel
theorem d_M_waiting_16 : decode b_M_waiting 16 = .ok (.getfield 28, 3) := by decide +kernel
theorem d_M_waiting_19 : decode b_M_waiting 19 = .ok (.iload_n 1, 1) := by decide +kernel
theorem d_M_waiting_20 : decode b_M_waiting 20 = .ok (.iaload, 1) := by decide +kernel
theorem d_M_waiting_21 : decode b_M_waiting 21 = .ok (.isub, 1) := by decide +kernel
theorem d_M_waiting_22 : decode b_M_waiting 22 = .ok (.goto 4, 3) := by decide +kernel
theorem d_M_waiting_25 : decode b_M_waiting 25 = .ok (.iconst (-1), 1) := by decide +kernel
theorem d_M_waiting_26 : decode b_M_waiting 26 = .ok (.ireturn, 1) := by decide +kernel
theorem d_M_stored_0 : decode b_M_stored 0 = .ok (.iload_n 1, 1) := by decide +kernel
theorem d_M_stored_1 : decode b_M_stored 1 = .ok (.iconst 0, 1) := by decide +kernel
theorem d_M_stored_2 : decode b_M_stored 2 = .ok (.iconst 2, 1) := by decide +kernel
theorem d_M_stored_3 : decode b_M_stored 3 = .ok (.invokestatic 90, 3) := by decide +kernel
theorem d_M_stored_6 : decode b_M_stored 6 = .ok (.ifCond .eq 19, 3) := by decide +kernel
theorem d_M_stored_9 : decode b_M_stored 9 = .ok (.aload_n 0, 1) := by decide +kernel
theorem d_M_stored_10 : decode b_M_stored 10 = .ok (.getfield 28, 3) := by decide +kernel
theorem d_M_stored_13 : decode b_M_stored 13 = .ok (.iload_n 1, 1) := by decide +kernel
theorem d_M_stored_14 : decode b_M_stored 14 = .ok (.iaload, 1) := by decide +kernel
theorem d_M_stored_15 : decode b_M_stored 15 = .ok (.aload_n 0, 1) := by decide +kernel
theorem d_M_stored_16 : decode b_M_stored 16 = .ok (.getfield 25, 3) := by decide +kernel
theorem d_M_stored_19 : decode b_M_stored 19 = .ok (.iload_n 1, 1) := by decide +kernel
theorem d_M_stored_20 : decode b_M_stored 20 = .ok (.iaload, 1) := by decide +kernel
theorem d_M_stored_21 : decode b_M_stored 21 = .ok (.isub, 1) := by decide +kernel
theorem d_M_stored_22 : decode b_M_stored 22 = .ok (.goto 4, 3) := by decide +kernel
theorem d_M_stored_25 : decode b_M_stored 25 = .ok (.iconst (-1), 1) := by decide +kernel
theorem d_M_stored_26 : decode b_M_stored 26 = .ok (.ireturn, 1) := by decide +kernel
theorem d_M_levels_0 : decode b_M_levels 0 = .ok (.iload_n 1, 1) := by decide +kernel
theorem d_M_levels_1 : decode b_M_levels 1 = .ok (.iconst 0, 1) := by decide +kernel
theorem d_M_levels_2 : decode b_M_levels 2 = .ok (.iconst 2, 1) := by decide +kernel
theorem d_M_levels_3 : decode b_M_levels 3 = .ok (.invokestatic 90, 3) := by decide +kernel
theorem d_M_levels_6 : decode b_M_levels 6 = .ok (.ifCond .ne 5, 3) := by decide +kernel
theorem d_M_levels_9 : decode b_M_levels 9 = .ok (.iconst (-1), 1) := by decide +kernel
theorem d_M_levels_10 : decode b_M_levels 10 = .ok (.ireturn, 1) := by decide +kernel
theorem d_M_levels_11 : decode b_M_levels 11 = .ok (.aload_n 0, 1) := by decide +kernel
theorem d_M_levels_12 : decode b_M_levels 12 = .ok (.iload_n 1, 1) := by decide +kernel
theorem d_M_levels_13 : decode b_M_levels 13 = .ok (.invokevirtual 101, 3) := by decide +kernel
theorem d_M_levels_16 : decode b_M_levels 16 = .ok (.istore_n 2, 1) := by decide +kernel
theorem d_M_levels_17 : decode b_M_levels 17 = .ok (.bipush 32, 2) := by decide +kernel
theorem d_M_levels_19 : decode b_M_levels 19 = .ok (.iload_n 2, 1) := by decide +kernel
theorem d_M_levels_20 : decode b_M_levels 20 = .ok (.imul, 1) := by decide +kernel
theorem d_M_levels_21 : decode b_M_levels 21 = .ok (.aload_n 0, 1) := by decide +kernel
theorem d_M_levels_22 : decode b_M_levels 22 = .ok (.getfield 7, 3) := by decide +kernel
theorem d_M_levels_25 : decode b_M_levels 25 = .ok (.iload_n 1, 1) := by decide +kernel
theorem d_M_levels_26 : decode b_M_levels 26 = .ok (.iaload, 1) := by decide +kernel
theorem d_M_levels_27 : decode b_M_levels 27 = .ok (.iadd, 1) := by decide +kernel
theorem d_M_levels_28 : decode b_M_levels 28 = .ok (.ireturn, 1) := by decide +kernel
theorem d_M_late_0 : decode b_M_late 0 = .ok (.iload_n 1, 1) := by decide +kernel
theorem d_M_late_1 : decode b_M_late 1 = .ok (.iconst 0, 1) := by decide +kernel
theorem d_M_late_2 : decode b_M_late 2 = .ok (.iconst 2, 1) := by decide +kernel
theorem d_M_late_3 : decode b_M_late 3 = .ok (.invokestatic 90, 3) := by decide +kernel
theorem d_M_late_6 : decode b_M_late 6 = .ok (.ifCond .eq 12, 3) := by decide +kernel
theorem d_M_late_9 : decode b_M_late 9 = .ok (.aload_n 0, 1) := by decide +kernel
theorem d_M_late_10 : decode b_M_late 10 = .ok (.getfield 34, 3) := by decide +kernel
theorem d_M_late_13 : decode b_M_late 13 = .ok (.iload_n 1, 1) := by decide +kernel
theorem d_M_late_14 : decode b_M_late 14 = .ok (.iaload, 1) := by decide +kernel
theorem d_M_late_15 : decode b_M_late 15 = .ok (.goto 4, 3) := by decide +kernel
theorem d_M_late_18 : decode b_M_late 18 = .ok (.iconst (-1), 1) := by decide +kernel
theorem d_M_late_19 : decode b_M_late 19 = .ok (.ireturn, 1) := by decide +kernel
theorem d_M_clock_0 : decode b_M_clock 0 = .ok (.aload_n 0, 1) := by decide +kernel
theorem d_M_clock_1 : decode b_M_clock 1 = .ok (.getfield 137, 3) := by decide +kernel
theorem d_M_clock_4 : decode b_M_clock 4 = .ok (.ifCond .eq 10, 3) := by decide +kernel
theorem d_M_clock_7 : decode b_M_clock 7 = .ok (.aload_n 0, 1) := by decide +kernel
theorem d_M_clock_8 : decode b_M_clock 8 = .ok (.getfield 134, 3) := by decide +kernel
theorem d_M_clock_11 : decode b_M_clock 11 = .ok (.goto 4, 3) := by decide +kernel
theorem d_M_clock_14 : decode b_M_clock 14 = .ok (.iconst (-1), 1) := by decide +kernel
theorem d_M_clock_15 : decode b_M_clock 15 = .ok (.ireturn, 1) := by decide +kernel
theorem d_M_count_0 : decode b_M_count 0 = .ok (.iload_n 1, 1) := by decide +kernel
theorem d_M_count_1 : decode b_M_count 1 = .ok (.iconst 0, 1) := by decide +kernel
theorem d_M_count_2 : decode b_M_count 2 = .ok (.iconst 5, 1) := by decide +kernel
theorem d_M_count_3 : decode b_M_count 3 = .ok (.invokestatic 90, 3) := by decide +kernel
theorem d_M_count_6 : decode b_M_count 6 = .ok (.ifCond .eq 12, 3) := by decide +kernel
theorem d_M_count_9 : decode b_M_count 9 = .ok (.aload_n 0, 1) := by decide +kernel
theorem d_M_count_10 : decode b_M_count 10 = .ok (.getfield 80, 3) := by decide +kernel
theorem d_M_count_13 : decode b_M_count 13 = .ok (.iload_n 1, 1) := by decide +kernel
theorem d_M_count_14 : decode b_M_count 14 = .ok (.iaload, 1) := by decide +kernel
theorem d_M_count_15 : decode b_M_count 15 = .ok (.goto 4, 3) := by decide +kernel
theorem d_M_count_18 : decode b_M_count 18 = .ok (.iconst (-1), 1) := by decide +kernel
theorem d_M_count_19 : decode b_M_count 19 = .ok (.ireturn, 1) := by decide +kernel
theorem d_M_latest_0 : decode b_M_latest 0 = .ok (.iload_n 1, 1) := by decide +kernel
theorem d_M_latest_1 : decode b_M_latest 1 = .ok (.iconst 0, 1) := by decide +kernel
theorem d_M_latest_2 : decode b_M_latest 2 = .ok (.iconst 2, 1) := by decide +kernel
theorem d_M_latest_3 : decode b_M_latest 3 = .ok (.invokestatic 90, 3) := by decide +kernel
theorem d_M_latest_6 : decode b_M_latest 6 = .ok (.ifCond .eq 21, 3) := by decide +kernel
theorem d_M_latest_9 : decode b_M_latest 9 = .ok (.aload_n 0, 1) := by decide +kernel
theorem d_M_latest_10 : decode b_M_latest 10 = .ok (.getfield 77, 3) := by decide +kernel
theorem d_M_latest_13 : decode b_M_latest 13 = .ok (.iload_n 1, 1) := by decide +kernel
theorem d_M_latest_14 : decode b_M_latest 14 = .ok (.iaload, 1) := by decide +kernel
theorem d_M_latest_15 : decode b_M_latest 15 = .ok (.ifCond .eq 12, 3) := by decide +kernel
theorem d_M_latest_18 : decode b_M_latest 18 = .ok (.iload_n 2, 1) := by decide +kernel
theorem d_M_latest_19 : decode b_M_latest 19 = .ok (.iconst 0, 1) := by decide +kernel
theorem d_M_latest_20 : decode b_M_latest 20 = .ok (.iconst 2, 1) := by decide +kernel
theorem d_M_latest_21 : decode b_M_latest 21 = .ok (.invokestatic 90, 3) := by decide +kernel
theorem d_M_latest_24 : decode b_M_latest 24 = .ok (.ifCond .ne 5, 3) := by decide +kernel
theorem d_M_latest_27 : decode b_M_latest 27 = .ok (.iconst (-1), 1) := by decide +kernel
theorem d_M_latest_28 : decode b_M_latest 28 = .ok (.ireturn, 1) := by decide +kernel
theorem d_M_latest_29 : decode b_M_latest 29 = .ok (.iload_n 2, 1) := by decide +kernel
theorem d_M_latest_30 : decode b_M_latest 30 = .ok (.ifCond .ne 12, 3) := by decide +kernel
theorem d_M_latest_33 : decode b_M_latest 33 = .ok (.aload_n 0, 1) := by decide +kernel
theorem d_M_latest_34 : decode b_M_latest 34 = .ok (.getfield 71, 3) := by decide +kernel
theorem d_M_latest_37 : decode b_M_latest 37 = .ok (.iload_n 1, 1) := by decide +kernel
theorem d_M_latest_38 : decode b_M_latest 38 = .ok (.iaload, 1) := by decide +kernel
theorem d_M_latest_39 : decode b_M_latest 39 = .ok (.goto 23, 3) := by decide +kernel
theorem d_M_latest_42 : decode b_M_latest 42 = .ok (.iload_n 2, 1) := by decide +kernel
theorem d_M_latest_43 : decode b_M_latest 43 = .ok (.iconst 1, 1) := by decide +kernel
theorem d_M_latest_44 : decode b_M_latest 44 = .ok (.if_icmp .ne 12, 3) := by decide +kernel
theorem d_M_latest_47 : decode b_M_latest 47 = .ok (.aload_n 0, 1) := by decide +kernel
theorem d_M_latest_48 : decode b_M_latest 48 = .ok (.getfield 74, 3) := by decide +kernel
theorem d_M_latest_51 : decode b_M_latest 51 = .ok (.iload_n 1, 1) := by decide +kernel
theorem d_M_latest_52 : decode b_M_latest 52 = .ok (.iaload, 1) := by decide +kernel
theorem d_M_latest_53 : decode b_M_latest 53 = .ok (.goto 9, 3) := by decide +kernel
theorem d_M_latest_56 : decode b_M_latest 56 = .ok (.aload_n 0, 1) := by decide +kernel
theorem d_M_latest_57 : decode b_M_latest 57 = .ok (.getfield 77, 3) := by decide +kernel
theorem d_M_latest_60 : decode b_M_latest 60 = .ok (.iload_n 1, 1) := by decide +kernel
theorem d_M_latest_61 : decode b_M_latest 61 = .ok (.iaload, 1) := by decide +kernel
theorem d_M_latest_62 : decode b_M_latest 62 = .ok (.ireturn, 1) := by decide +kernel
theorem d_M_letter_0 : decode b_M_letter 0 = .ok (.iload_n 1, 1) := by decide +kernel
theorem d_M_letter_1 : decode b_M_letter 1 = .ok (.iconst 0, 1) := by decide +kernel
theorem d_M_letter_2 : decode b_M_letter 2 = .ok (.iconst 2, 1) := by decide +kernel
theorem d_M_letter_3 : decode b_M_letter 3 = .ok (.invokestatic 90, 3) := by decide +kernel
theorem d_M_letter_6 : decode b_M_letter 6 = .ok (.ifCond .eq 28, 3) := by decide +kernel
theorem d_M_letter_9 : decode b_M_letter 9 = .ok (.aload_n 0, 1) := by decide +kernel
theorem d_M_letter_10 : decode b_M_letter 10 = .ok (.getfield 77, 3) := by decide +kernel
theorem d_M_letter_13 : decode b_M_letter 13 = .ok (.iload_n 1, 1) := by decide +kernel
theorem d_M_letter_14 : decode b_M_letter 14 = .ok (.iaload, 1) := by decide +kernel
theorem d_M_letter_15 : decode b_M_letter 15 = .ok (.ifCond .eq 19, 3) := by decide +kernel
theorem d_M_letter_18 : decode b_M_letter 18 = .ok (.iload_n 2, 1) := by decide +kernel
theorem d_M_letter_19 : decode b_M_letter 19 = .ok (.iconst 0, 1) := by decide +kernel
theorem d_M_letter_20 : decode b_M_letter 20 = .ok (.aload_n 0, 1) := by decide +kernel
theorem d_M_letter_21 : decode b_M_letter 21 = .ok (.getfield 71, 3) := by decide +kernel
theorem d_M_letter_24 : decode b_M_letter 24 = .ok (.iload_n 1, 1) := by decide +kernel
theorem d_M_letter_25 : decode b_M_letter 25 = .ok (.iaload, 1) := by decide +kernel
theorem d_M_letter_26 : decode b_M_letter 26 = .ok (.iconst 1, 1) := by decide +kernel
theorem d_M_letter_27 : decode b_M_letter 27 = .ok (.isub, 1) := by decide +kernel
theorem d_M_letter_28 : decode b_M_letter 28 = .ok (.invokestatic 90, 3) := by decide +kernel
theorem d_M_letter_31 : decode b_M_letter 31 = .ok (.ifCond .ne 5, 3) := by decide +kernel
theorem d_M_letter_34 : decode b_M_letter 34 = .ok (.iconst (-1), 1) := by decide +kernel
theorem d_M_letter_35 : decode b_M_letter 35 = .ok (.ireturn, 1) := by decide +kernel
theorem d_M_letter_36 : decode b_M_letter 36 = .ok (.aload_n 0, 1) := by decide +kernel
theorem d_M_letter_37 : decode b_M_letter 37 = .ok (.getfield 68, 3) := by decide +kernel
theorem d_M_letter_40 : decode b_M_letter 40 = .ok (.bipush 60, 2) := by decide +kernel
theorem d_M_letter_42 : decode b_M_letter 42 = .ok (.iload_n 1, 1) := by decide +kernel
theorem d_M_letter_43 : decode b_M_letter 43 = .ok (.imul, 1) := by decide +kernel
theorem d_M_letter_44 : decode b_M_letter 44 = .ok (.iload_n 2, 1) := by decide +kernel
theorem d_M_letter_45 : decode b_M_letter 45 = .ok (.iadd, 1) := by decide +kernel
theorem d_M_letter_46 : decode b_M_letter 46 = .ok (.iaload, 1) := by decide +kernel
theorem d_M_letter_47 : decode b_M_letter 47 = .ok (.ireturn, 1) := by decide +kernel
theorem d_J_floorMod_0 : decode b_J_floorMod 0 = .ok (.iload_n 0, 1) := by decide +kernel
theorem d_J_floorMod_1 : decode b_J_floorMod 1 = .ok (.iload_n 1, 1) := by decide +kernel
theorem d_J_floorMod_2 : decode b_J_floorMod 2 = .ok (.irem, 1) := by decide +kernel
theorem d_J_floorMod_3 : decode b_J_floorMod 3 = .ok (.istore_n 2, 1) := by decide +kernel
theorem d_J_floorMod_4 : decode b_J_floorMod 4 = .ok (.iload_n 0, 1) := by decide +kernel
theorem d_J_floorMod_5 : decode b_J_floorMod 5 = .ok (.iload_n 1, 1) := by decide +kernel
theorem d_J_floorMod_6 : decode b_J_floorMod 6 = .ok (.ixor, 1) := by decide +kernel
theorem d_J_floorMod_7 : decode b_J_floorMod 7 = .ok (.ifCond .ge 11, 3) := by decide +kernel
theorem d_J_floorMod_10 : decode b_J_floorMod 10 = .ok (.iload_n 2, 1) := by decide +kernel
theorem d_J_floorMod_11 : decode b_J_floorMod 11 = .ok (.ifCond .eq 7, 3) := by decide +kernel
theorem d_J_floorMod_14 : decode b_J_floorMod 14 = .ok (.iload_n 2, 1) := by decide +kernel
theorem d_J_floorMod_15 : decode b_J_floorMod 15 = .ok (.iload_n 1, 1) := by decide +kernel
theorem d_J_floorMod_16 : decode b_J_floorMod 16 = .ok (.iadd, 1) := by decide +kernel
theorem d_J_floorMod_17 : decode b_J_floorMod 17 = .ok (.ireturn, 1) := by decide +kernel
theorem d_J_floorMod_18 : decode b_J_floorMod 18 = .ok (.iload_n 2, 1) := by decide +kernel
theorem d_J_floorMod_19 : decode b_J_floorMod 19 = .ok (.ireturn, 1) := by decide +kernel
end
section
section
variable {p : Program} {l : Launch} {e : Env} {R : Room} {s : State} {m : MethodId} {args : Array Value} {below : List Frame} {meth : Method} {c : Code} {H : Heap} {locs : List Loc} {cells slots : Nat} {Q : State → Prop}
variable {cc : ByteArray} {pc : Nat} {ls : Array Slot} {rest : List Value} {D : va_G} {cl : List vw_C} {A : Nat → Prop} {a : Nat} {tys : List (ClassId × FieldType)} {ws : va_W} {H0 : Heap}
/-- numbers as machine ints, pointwise -/
def nF (g : Nat → Nat) : Nat → Int32 := fun j => nI (g j)
abbrev ST : Type := (Nat → Nat) × (Nat → Nat → Nat)
abbrev XS : Type := Nat → ST
def sI (u : ST) (k x : Nat) : ST := (va_up u.1 k x, u.2)
def sA (u : ST) (j : Nat) (g : Nat → Nat) : ST := (u.1, va_up u.2 j g)
def ob {α β : Type} (x : Option α) (f : α → Option β) : Option β := match x with
  | none => none
  | some v => f v
def lt {α β : Type} (x : α) (f : α → Option β) : Option β := f x
def ss (c : Prop) [Decidable c] {β : Type} (t : Option β) : Option β := if c then t else none
theorem ob_s {α β : Type} {x : Option α} {f : α → Option β} {o : β} (h : ob x f = some o) : ∃ v, x = some v ∧ f v = some o := by
  cases x with
  | none => cases h
  | some v => exact ⟨v, rfl, h⟩
theorem lt_s2 {α β : Type} {x : α} {f : α → Option β} {o : β} (h : lt x f = some o) : ∃ v, v = x ∧ f v = some o := ⟨x, rfl, h⟩
theorem ss_s {c : Prop} [Decidable c] {β : Type} {t : Option β} {o : β} (h : ss c t = some o) : c ∧ t = some o := by
  unfold ss at h
  by_cases hc : c
  · rw [if_pos hc] at h; exact ⟨hc, h⟩
  · rw [if_neg hc] at h; cases h
theorem it_p {c : Prop} [Decidable c] {β : Type} {t f : Option β} {o : β} (h : (if c then t else f) = some o) (hc : c) : t = some o := by rw [if_pos hc] at h; exact h
theorem it_n {c : Prop} [Decidable c] {β : Type} {t f : Option β} {o : β} (h : (if c then t else f) = some o) (hc : ¬ c) : f = some o := by rw [if_neg hc] at h; exact h
theorem ss_p {c : Prop} [Decidable c] {β : Type} {t : Option β} (h : c) : ss c t = t := if_pos h
theorem ob_p {α β : Type} {x : Option α} {f : α → Option β} {v : α} (h : x = some v) : ob x f = f v := by rw [h]; rfl
theorem nI_co {x : Int32} (h : ¬ x < 0) : nI x.toNatClampNeg = x := by
  obtain ⟨j, hj, rfl⟩ := nI_of h
  rw [nI_clamp hj]
theorem ln_iadd (hx : p.tables.exec = Jvm.exec) (hb : c.code = cc) {x y : Nat} (hd : decode cc pc = .ok (.iadd, 1)) (k : W p l e R s m args below meth c H locs cells slots Q (F0 m (pc + 1) ls (.int (nI (x + y)) :: rest))) : W p l e R s m args below meth c H locs cells slots Q (F0 m pc ls (.int (nI y) :: .int (nI x) :: rest)) :=
  lv_iadd hx hb hd (by rw [nI_add]; exact k)
theorem ln_isub (hx : p.tables.exec = Jvm.exec) (hb : c.code = cc) {x y : Nat} (h : y ≤ x) (hd : decode cc pc = .ok (.isub, 1)) (k : W p l e R s m args below meth c H locs cells slots Q (F0 m (pc + 1) ls (.int (nI (x - y)) :: rest))) : W p l e R s m args below meth c H locs cells slots Q (F0 m pc ls (.int (nI y) :: .int (nI x) :: rest)) :=
  lv_isub hx hb hd (by rw [pk_sub h]; exact k)
theorem ln_imul (hx : p.tables.exec = Jvm.exec) (hb : c.code = cc) {x y : Nat} (hd : decode cc pc = .ok (.imul, 1)) (k : W p l e R s m args below meth c H locs cells slots Q (F0 m (pc + 1) ls (.int (nI (x * y)) :: rest))) : W p l e R s m args below meth c H locs cells slots Q (F0 m pc ls (.int (nI y) :: .int (nI x) :: rest)) :=
  lv_imul hx hb hd (by rw [pk_mul]; exact k)
theorem ln_idiv (hx : p.tables.exec = Jvm.exec) (hb : c.code = cc) {x y : Nat} (h : x < 2147483648) (h0 : 0 < y) (hy : y < 2147483648) (hd : decode cc pc = .ok (.idiv, 1)) (k : W p l e R s m args below meth c H locs cells slots Q (F0 m (pc + 1) ls (.int (nI (x / y)) :: rest))) : W p l e R s m args below meth c H locs cells slots Q (F0 m pc ls (.int (nI y) :: .int (nI x) :: rest)) :=
  lv_idiv hx hb hd (nI_ne0 h0 hy) (by rw [pk_div h h0 hy]; exact k)
theorem ln_irem (hx : p.tables.exec = Jvm.exec) (hb : c.code = cc) {x y : Nat} (h : x < 2147483648) (h0 : 0 < y) (hy : y < 2147483648) (hd : decode cc pc = .ok (.irem, 1)) (k : W p l e R s m args below meth c H locs cells slots Q (F0 m (pc + 1) ls (.int (nI (x % y)) :: rest))) : W p l e R s m args below meth c H locs cells slots Q (F0 m pc ls (.int (nI y) :: .int (nI x) :: rest)) :=
  lv_irem hx hb hd (nI_ne0 h0 hy) (by rw [pk_rem h h0 hy]; exact k)
theorem nI_and (x y : Nat) : nI x &&& nI y = nI (x &&& y) := by
  apply Int32.toBitVec_inj.mp
  show (BitVec.ofNat 32 x) &&& (BitVec.ofNat 32 y) = BitVec.ofNat 32 (x &&& y)
  apply BitVec.eq_of_getLsbD_eq
  intro i hi
  simp [BitVec.getLsbD_and, BitVec.getLsbD_ofNat, hi, Nat.testBit_and]
theorem nI_xor (x y : Nat) : nI x ^^^ nI y = nI (x ^^^ y) := by
  apply Int32.toBitVec_inj.mp
  show (BitVec.ofNat 32 x) ^^^ (BitVec.ofNat 32 y) = BitVec.ofNat 32 (x ^^^ y)
  apply BitVec.eq_of_getLsbD_eq
  intro i hi
  simp [BitVec.getLsbD_xor, BitVec.getLsbD_ofNat, hi, Nat.testBit_xor]
theorem ln_iand (hx : p.tables.exec = Jvm.exec) (hb : c.code = cc) {x y : Nat} (hd : decode cc pc = .ok (.iand, 1)) (k : W p l e R s m args below meth c H locs cells slots Q (F0 m (pc + 1) ls (.int (nI (x &&& y)) :: rest))) : W p l e R s m args below meth c H locs cells slots Q (F0 m pc ls (.int (nI y) :: .int (nI x) :: rest)) :=
  lv_iand hx hb hd (by rw [nI_and]; exact k)
theorem ln_ixor (hx : p.tables.exec = Jvm.exec) (hb : c.code = cc) {x y : Nat} (hd : decode cc pc = .ok (.ixor, 1)) (k : W p l e R s m args below meth c H locs cells slots Q (F0 m (pc + 1) ls (.int (nI (x ^^^ y)) :: rest))) : W p l e R s m args below meth c H locs cells slots Q (F0 m pc ls (.int (nI y) :: .int (nI x) :: rest)) :=
  lv_ixor hx hb hd (by rw [nI_xor]; exact k)
theorem ln_icmp_lt (hx : p.tables.exec = Jvm.exec) (hb : c.code = cc) {x y : Nat} (h1 : x < 2147483648) (h2 : y < 2147483648) {off : Int} (tgt : Nat) (hd : decode cc pc = .ok (.if_icmp .lt off, 3)) (ht : (pc : Int) + off = (tgt : Int))
    (kt : x < y → W p l e R s m args below meth c H locs cells slots Q (F0 m tgt ls rest)) (kf : ¬ x < y → W p l e R s m args below meth c H locs cells slots Q (F0 m (pc + 3) ls rest)) : W p l e R s m args below meth c H locs cells slots Q (F0 m pc ls (.int (nI y) :: .int (nI x) :: rest)) :=
  lv_icmp_lt hx hb hd ht (fun h => kt ((nI_ltI h1 h2).mp h)) (fun h => kf (fun h9 => h ((nI_ltI h1 h2).mpr h9)))
theorem ln_icmp_ge (hx : p.tables.exec = Jvm.exec) (hb : c.code = cc) {x y : Nat} (h1 : x < 2147483648) (h2 : y < 2147483648) {off : Int} (tgt : Nat) (hd : decode cc pc = .ok (.if_icmp .ge off, 3)) (ht : (pc : Int) + off = (tgt : Int))
    (kt : y ≤ x → W p l e R s m args below meth c H locs cells slots Q (F0 m tgt ls rest)) (kf : ¬ y ≤ x → W p l e R s m args below meth c H locs cells slots Q (F0 m (pc + 3) ls rest)) : W p l e R s m args below meth c H locs cells slots Q (F0 m pc ls (.int (nI y) :: .int (nI x) :: rest)) :=
  lv_icmp_ge hx hb hd ht (fun h => kt ((nI_leI h2 h1).mp h)) (fun h => kf (fun h9 => h ((nI_leI h2 h1).mpr h9)))
theorem ln_icmp_gt (hx : p.tables.exec = Jvm.exec) (hb : c.code = cc) {x y : Nat} (h1 : x < 2147483648) (h2 : y < 2147483648) {off : Int} (tgt : Nat) (hd : decode cc pc = .ok (.if_icmp .gt off, 3)) (ht : (pc : Int) + off = (tgt : Int))
    (kt : y < x → W p l e R s m args below meth c H locs cells slots Q (F0 m tgt ls rest)) (kf : ¬ y < x → W p l e R s m args below meth c H locs cells slots Q (F0 m (pc + 3) ls rest)) : W p l e R s m args below meth c H locs cells slots Q (F0 m pc ls (.int (nI y) :: .int (nI x) :: rest)) :=
  lv_icmp_gt hx hb hd ht (fun h => kt ((nI_ltI h2 h1).mp h)) (fun h => kf (fun h9 => h ((nI_ltI h2 h1).mpr h9)))
theorem ln_icmp_le (hx : p.tables.exec = Jvm.exec) (hb : c.code = cc) {x y : Nat} (h1 : x < 2147483648) (h2 : y < 2147483648) {off : Int} (tgt : Nat) (hd : decode cc pc = .ok (.if_icmp .le off, 3)) (ht : (pc : Int) + off = (tgt : Int))
    (kt : x ≤ y → W p l e R s m args below meth c H locs cells slots Q (F0 m tgt ls rest)) (kf : ¬ x ≤ y → W p l e R s m args below meth c H locs cells slots Q (F0 m (pc + 3) ls rest)) : W p l e R s m args below meth c H locs cells slots Q (F0 m pc ls (.int (nI y) :: .int (nI x) :: rest)) :=
  lv_icmp_le hx hb hd ht (fun h => kt ((nI_leI h1 h2).mp h)) (fun h => kf (fun h9 => h ((nI_leI h1 h2).mpr h9)))
theorem ln_icmp_eq (hx : p.tables.exec = Jvm.exec) (hb : c.code = cc) {x y : Nat} (h1 : x < 2147483648) (h2 : y < 2147483648) {off : Int} (tgt : Nat) (hd : decode cc pc = .ok (.if_icmp .eq off, 3)) (ht : (pc : Int) + off = (tgt : Int))
    (kt : x = y → W p l e R s m args below meth c H locs cells slots Q (F0 m tgt ls rest)) (kf : ¬ x = y → W p l e R s m args below meth c H locs cells slots Q (F0 m (pc + 3) ls rest)) : W p l e R s m args below meth c H locs cells slots Q (F0 m pc ls (.int (nI y) :: .int (nI x) :: rest)) :=
  lv_icmp_eq hx hb hd ht (fun h => kt ((nI_eq h1 h2).mp h)) (fun h => kf (fun h9 => h ((nI_eq h1 h2).mpr h9)))
theorem ln_icmp_ne (hx : p.tables.exec = Jvm.exec) (hb : c.code = cc) {x y : Nat} (h1 : x < 2147483648) (h2 : y < 2147483648) {off : Int} (tgt : Nat) (hd : decode cc pc = .ok (.if_icmp .ne off, 3)) (ht : (pc : Int) + off = (tgt : Int))
    (kt : ¬ x = y → W p l e R s m args below meth c H locs cells slots Q (F0 m tgt ls rest)) (kf : ¬ ¬ x = y → W p l e R s m args below meth c H locs cells slots Q (F0 m (pc + 3) ls rest)) : W p l e R s m args below meth c H locs cells slots Q (F0 m pc ls (.int (nI y) :: .int (nI x) :: rest)) :=
  lv_icmp_ne hx hb hd ht (fun h => kt (fun h9 => h ((nI_eq h1 h2).mpr h9))) (fun h => kf (fun h9 => h9 ((nI_eq h1 h2).mp h)))
theorem ln_if_eq (hx : p.tables.exec = Jvm.exec) (hb : c.code = cc) {x : Nat} (h1 : x < 2147483648) {off : Int} (tgt : Nat) (hd : decode cc pc = .ok (.ifCond .eq off, 3)) (ht : (pc : Int) + off = (tgt : Int))
    (kt : x = 0 → W p l e R s m args below meth c H locs cells slots Q (F0 m tgt ls rest)) (kf : ¬ x = 0 → W p l e R s m args below meth c H locs cells slots Q (F0 m (pc + 3) ls rest)) : W p l e R s m args below meth c H locs cells slots Q (F0 m pc ls (.int (nI x) :: rest)) :=
  lv_if_eq hx hb hd ht (fun h => kt ((nI_eq (b := 0) h1 (by decide)).mp h)) (fun h => kf (fun h9 => h ((nI_eq (b := 0) h1 (by decide)).mpr h9)))
theorem ln_if_ne (hx : p.tables.exec = Jvm.exec) (hb : c.code = cc) {x : Nat} (h1 : x < 2147483648) {off : Int} (tgt : Nat) (hd : decode cc pc = .ok (.ifCond .ne off, 3)) (ht : (pc : Int) + off = (tgt : Int))
    (kt : ¬ x = 0 → W p l e R s m args below meth c H locs cells slots Q (F0 m tgt ls rest)) (kf : ¬ ¬ x = 0 → W p l e R s m args below meth c H locs cells slots Q (F0 m (pc + 3) ls rest)) : W p l e R s m args below meth c H locs cells slots Q (F0 m pc ls (.int (nI x) :: rest)) :=
  lv_if_ne hx hb hd ht (fun h => kt (fun h9 => h ((nI_eq (b := 0) h1 (by decide)).mpr h9))) (fun h => kf (fun h9 => h9 ((nI_eq (b := 0) h1 (by decide)).mp h)))
theorem ln_if_gt (hx : p.tables.exec = Jvm.exec) (hb : c.code = cc) {x : Nat} (h1 : x < 2147483648) {off : Int} (tgt : Nat) (hd : decode cc pc = .ok (.ifCond .gt off, 3)) (ht : (pc : Int) + off = (tgt : Int))
    (kt : 0 < x → W p l e R s m args below meth c H locs cells slots Q (F0 m tgt ls rest)) (kf : ¬ 0 < x → W p l e R s m args below meth c H locs cells slots Q (F0 m (pc + 3) ls rest)) : W p l e R s m args below meth c H locs cells slots Q (F0 m pc ls (.int (nI x) :: rest)) :=
  lv_if_gt hx hb hd ht (fun h => kt ((nI_ltI (a := 0) (by decide) h1).mp h)) (fun h => kf (fun h9 => h ((nI_ltI (a := 0) (by decide) h1).mpr h9)))
theorem ln_if_le (hx : p.tables.exec = Jvm.exec) (hb : c.code = cc) {x : Nat} (h1 : x < 2147483648) {off : Int} (tgt : Nat) (hd : decode cc pc = .ok (.ifCond .le off, 3)) (ht : (pc : Int) + off = (tgt : Int))
    (kt : x ≤ 0 → W p l e R s m args below meth c H locs cells slots Q (F0 m tgt ls rest)) (kf : ¬ x ≤ 0 → W p l e R s m args below meth c H locs cells slots Q (F0 m (pc + 3) ls rest)) : W p l e R s m args below meth c H locs cells slots Q (F0 m pc ls (.int (nI x) :: rest)) :=
  lv_if_le hx hb hd ht (fun h => kt ((nI_leI (b := 0) h1 (by decide)).mp h)) (fun h => kf (fun h9 => h ((nI_leI (b := 0) h1 (by decide)).mpr h9)))
theorem ln_co {x : Int32} (h : ¬ x < 0) (k : W p l e R s m args below meth c H locs cells slots Q (F0 m pc ls (.int (nI x.toNatClampNeg) :: rest))) : W p l e R s m args below meth c H locs cells slots Q (F0 m pc ls (.int x :: rest)) := by
  rw [nI_co h] at k; exact k
theorem ln_ald (hx : p.tables.exec = Jvm.exec) (hb : c.code = cc) (hK : va_K D cl tys s) (hP : va_P D cl ws H) (q0 t0 : Nat) {cA : ClassId} {n : Nat} {g : Nat → Nat} (ha : ws[q0]? = some (a, .inl (cA, n, .inl (nF g)))) (ht : tys[t0]? = some (cA, .int)) {i : Nat} (hi : i < n) (hn : n < 2147483648) (hd : decode cc pc = .ok (.iaload, 1))
    (k : W p l e R s m args below meth c H locs cells slots Q (F0 m (pc + 1) ls (.int (nI (g i)) :: rest))) : W p l e R s m args below meth c H locs cells slots Q (F0 m pc ls (.int (nI i) :: .ref a :: rest)) :=
  va_iald hx hb hK hP q0 t0 ha ht (vp_in_nI hi hn) hd (by rw [nI_clamp (show i < 2 ^ 31 by omega)]; exact k)
theorem ln_zald (hx : p.tables.exec = Jvm.exec) (hb : c.code = cc) (hK : va_K D cl tys s) (hP : va_P D cl ws H) (q0 t0 : Nat) {cA : ClassId} {n : Nat} {g : Nat → Nat} (ha : ws[q0]? = some (a, .inl (cA, n, .inl (nF g)))) (ht : tys[t0]? = some (cA, .boolean)) {i : Nat} (hi : i < n) (hn : n < 2147483648) (hd : decode cc pc = .ok (.baload, 1))
    (k : W p l e R s m args below meth c H locs cells slots Q (F0 m (pc + 1) ls (.int (nI (g i)) :: rest))) : W p l e R s m args below meth c H locs cells slots Q (F0 m pc ls (.int (nI i) :: .ref a :: rest)) :=
  va_zald hx hb hK hP q0 t0 ha ht (vp_in_nI hi hn) hd (by rw [nI_clamp (show i < 2 ^ 31 by omega)]; exact k)
theorem nF_up (g : Nat → Nat) (i x : Nat) : upd (nF g) i (nI x) = nF (va_up g i x) := by
  funext j
  unfold upd nF va_up
  by_cases h : j = i
  · simp [h]
  · simp [h]
theorem ln_ast (hx : p.tables.exec = Jvm.exec) (hb : c.code = cc) (hK : va_K D cl tys s) (hP : va_P D cl ws H) (hD : va_D A ws) (hS : va_S A H0 H locs) (q0 t0 : Nat) {cA : ClassId} {n : Nat} {g : Nat → Nat} (ha : ws[q0]? = some (a, .inl (cA, n, .inl (nF g)))) (ht : tys[t0]? = some (cA, .int)) {i x : Nat} (hi : i < n) (hn : n < 2147483648) (hd : decode cc pc = .ok (.iastore, 1))
    (k : ∀ (H1 : Heap) (locs1 : List Loc), va_P D cl (ws.set q0 (a, .inl (cA, n, .inl (nF (va_up g i x))))) H1 → va_D A (ws.set q0 (a, .inl (cA, n, .inl (nF (va_up g i x))))) → va_S A H0 H1 locs1 → W p l e R s m args below meth c H1 locs1 cells slots Q (F0 m (pc + 1) ls rest)) : W p l e R s m args below meth c H locs cells slots Q (F0 m pc ls (.int (nI x) :: .int (nI i) :: .ref a :: rest)) :=
  va_iast hx hb hK hP hD hS q0 t0 ha ht (vp_in_nI hi hn) hd (by rw [nI_clamp (show i < 2 ^ 31 by omega), nF_up]; exact k)
theorem nI_bool {x : Nat} (h : x ≤ 1) : vp_nar .boolean (nI x) = nI x := by
  have h : x = 0 ∨ x = 1 := by omega
  rcases h with rfl | rfl <;> decide
theorem ln_zast (hx : p.tables.exec = Jvm.exec) (hb : c.code = cc) (hK : va_K D cl tys s) (hP : va_P D cl ws H) (hD : va_D A ws) (hS : va_S A H0 H locs) (q0 t0 : Nat) {cA : ClassId} {n : Nat} {g : Nat → Nat} (ha : ws[q0]? = some (a, .inl (cA, n, .inl (nF g)))) (ht : tys[t0]? = some (cA, .boolean)) {i x : Nat} (hi : i < n) (hn : n < 2147483648) (h1 : x ≤ 1) (hd : decode cc pc = .ok (.bastore, 1))
    (k : ∀ (H1 : Heap) (locs1 : List Loc), va_P D cl (ws.set q0 (a, .inl (cA, n, .inl (nF (va_up g i x))))) H1 → va_D A (ws.set q0 (a, .inl (cA, n, .inl (nF (va_up g i x))))) → va_S A H0 H1 locs1 → W p l e R s m args below meth c H1 locs1 cells slots Q (F0 m (pc + 1) ls rest)) : W p l e R s m args below meth c H locs cells slots Q (F0 m pc ls (.int (nI x) :: .int (nI i) :: .ref a :: rest)) :=
  va_zast hx hb hK hP hD hS q0 t0 ha ht (vp_in_nI hi hn) hd (by rw [nI_clamp (show i < 2 ^ 31 by omega), nI_bool h1, nF_up]; exact k)
theorem ln_rald (hx : p.tables.exec = Jvm.exec) (hb : c.code = cc) (hK : va_K D cl tys s) (hP : va_P D cl ws H) (q0 t0 : Nat) {cA : ClassId} {C : String} {n : Nat} {f : Nat → Option Nat} (ha : ws[q0]? = some (a, .inl (cA, n, .inr (.inr (.inr (.inr f)))))) (ht : tys[t0]? = some (cA, .object C)) {i : Nat} (hi : i < n) (hn : n < 2147483648) (y : Nat) (hy : f i = some y) (hd : decode cc pc = .ok (.aaload, 1))
    (k : W p l e R s m args below meth c H locs cells slots Q (F0 m (pc + 1) ls (.ref y :: rest))) : W p l e R s m args below meth c H locs cells slots Q (F0 m pc ls (.int (nI i) :: .ref a :: rest)) :=
  va_aldq hx hb hK hP q0 t0 ha ht (vp_in_nI hi hn) hd (by rw [nI_clamp (show i < 2 ^ 31 by omega), hy]; exact k)
/-- the links between nest mates: they stand beside the world -/
def NW (U : State) : Prop := (∀ q ∈ nfL, va_Nw (.fieldLinkNest q.1 q.2.1 q.2.2.1 q.2.2.2.1 q.2.2.2.2.1 q.2.2.2.2.2) U) ∧ ∀ q ∈ nmL, va_Nw (.methodLinkNest q.1 q.2.1 q.2.2.1 q.2.2.2) U
theorem NW.moved {u U : State} (hW : u.WarmedH U.vm) (h : NW u) : NW U := ⟨fun q hq => va_Nw.warmF hW (h.1 q hq), fun q hq => va_Nw.warmM hW (h.2 q hq)⟩
theorem NW.calling {U : State} {g : JFrame} {mk : MethodId} {ar : Array Value} (h : NW U) : NW (U.calling g mk ar) := ⟨fun q hq => va_Nw.same (u := U) rfl rfl (h.1 q hq), fun q hq => va_Nw.same (u := U) rfl rfl (h.2 q hq)⟩
/-- contracts whose answer and whose world behind them are functions of what stands before them -/
def cB (D : va_G) (cl : List vw_C) (tys : List (ClassId × FieldType)) (sz : Nat) (ws ws' : va_W) : Unit → State → Prop := fun _ t => va_P D cl ws' t.heap ∧ va_K D cl tys t ∧ va_D (va_A ws sz) ws'
def cPre (D : va_G) (cl : List vw_C) (tys : List (ClassId × FieldType)) (sz : Nat) (av : List Value) (ws : va_W) : Array Value → State → Prop := va_Pc av (fun U => U.heap.size = sz ∧ va_P D cl ws U.heap ∧ va_K D cl tys U ∧ va_D (fun _ => True) ws ∧ NW U)
abbrev CtI (l : Launch) (y : MethodName) (wy : List Cond) (rm : Room) (D : va_G) (cl : List vw_C) (tys : List (ClassId × FieldType)) (av : List Value) (ws : va_W) (r : Int32) (ws' : va_W) : Prop :=
  ∀ sz : Nat, Met l y wy rm (cPre D cl tys sz av ws) (va_Qi (fun (x : Int32) (_ : Unit) => x = r) (cB D cl tys sz ws ws') (va_A ws sz)) 0 0 (va_A ws sz)
abbrev CtV (l : Launch) (y : MethodName) (wy : List Cond) (rm : Room) (D : va_G) (cl : List vw_C) (tys : List (ClassId × FieldType)) (av : List Value) (ws : va_W) (ws' : va_W) : Prop :=
  ∀ sz : Nat, Met l y wy rm (cPre D cl tys sz av ws) (va_Qv (fun (_ : Unit) => True) (cB D cl tys sz ws ws') (va_A ws sz)) 0 0 (va_A ws sz)
end
theorem va_P.subM {D : va_G} {cl : List vw_C} {ws ws' : va_W} {H : Heap} (h : va_P D cl ws H) (is : List Nat) (hs : is.map (fun i => ws[i]?) = ws'.map some) : va_P D cl ws' H := by
  intro k q hk
  have h1 : (is.map (fun i => ws[i]?))[k]? = some (some q) := by rw [hs, List.getElem?_map, hk]; rfl
  rw [List.getElem?_map] at h1
  cases hi : is[k]? with
  | none => rw [hi] at h1; cases h1
  | some i => rw [hi] at h1; exact h i q (Option.some.inj h1)
section
variable {p : Program} {l : Launch} {e : Env} {R : Room} {s : State} {m : MethodId} {args : Array Value} {below : List Frame} {meth : Method} {c : Code} {H : Heap} {locs : List Loc} {cells slots : Nat} {Q : State → Prop}
variable {cc : ByteArray} {pc : Nat} {ls : Array Slot} {rest : List Value} {D : va_G} {cl : List vw_C} {A : Nat → Prop} {a : Nat} {tys : List (ClassId × FieldType)} {ws : va_W} {H0 : Heap}
theorem ln_iinc (hx : p.tables.exec = Jvm.exec) (hb : c.code = cc) {i nL k x y : Nat} {n : Int} {lv lv' : List (Nat × Value)} (hd : decode cc pc = .ok (.iinc i n, 3)) (h : lv_has ls nL lv) (hk : lv[k]? = some (i, .int (nI x))) (hv : nI x + Int32.ofInt n = nI y) (hn : i < nL) (hl : (i, Value.int (nI y)) :: lv.filter (fun q => !(q.1 == i) && !(q.1 + 1 == i && q.2.category == 2)) = lv')
    (k : ∀ ls' : Array Slot, lv_has ls' nL lv' → W p l e R s m args below meth c H locs cells slots Q (F0 m (pc + 3) ls' rest)) : W p l e R s m args below meth c H locs cells slots Q (F0 m pc ls rest) := lv_iinc hx hb hd h hk hv hn hl k
theorem nI_inc (x : Nat) : nI x + Int32.ofInt 1 = nI (x + 1) := nI_1 x
theorem nI_inc5 (x : Nat) : nI x + Int32.ofInt 5 = nI (x + 5) := nI_add x 5
theorem nI_inc2 (x : Nat) : nI x + Int32.ofInt 2 = nI (x + 2) := nI_add x 2
theorem nI_inc3 (x : Nat) : nI x + Int32.ofInt 3 = nI (x + 3) := nI_add x 3
theorem ln_pre {A1 : Nat → Prop} {As : List Value} {wc : va_W} (hK : va_K D cl tys s) (hN : NW s) (hPc : va_P D cl wc H) (hDc : va_D A1 wc) : PreS s H (cPre D cl tys H.size As wc) As :=
  ⟨fun a U g mk q => by obtain ⟨q0, q1, qP, qK, qD, qN⟩ := q; exact ⟨q0, q1, qP, va_K.moved (u := U) (U := U.calling g mk a) (Vm.Alike.refl U.vm) qK, qD, qN.calling⟩, fun U hU hW => ⟨rfl, by rw [hU], by rw [hU]; exact hPc, va_K.moved hW.alike hK, hDc.weaken (fun _ _ _ _ => trivial), hN.moved hW⟩⟩
theorem ln_preV {A1 : Nat → Prop} {As : List Value} {wc : va_W} {b ci N : Nat} {fs : List Value} {C : String} {T : u_T} (q0 : Nat) (hK : va_K D cl tys s) (hN : NW s) (hP : va_P D cl ws H) (he : ws[q0]? = some (b, .inr (ci, fs))) (hc : cl[ci]? = some (C, T, N)) (hPc : va_P D cl wc H) (hDc : va_D A1 wc) : PreV s H C b (cPre D cl tys H.size (.ref b :: As) wc) As :=
  ⟨(ln_pre (As := .ref b :: As) hK hN hPc hDc).1, va_recv hK hP hc he, (ln_pre (As := .ref b :: As) hK hN hPc hDc).2⟩
theorem ln_goi {wc wc' wr wn : va_W} {r : Int32} {ar : Array Value} {st0 : List Value} (hr : va_Run p l e R s m args below meth c H locs cells slots 0 0 (F0 m pc ls st0) rest (va_Qi (fun (x : Int32) (_ : Unit) => x = r) (cB D cl tys H.size wc wc') (va_A wc H.size) ar) (va_A wc H.size))
    (hP : va_P D cl ws H) (hD : va_D A ws) (hS : va_S A H0 H locs) (hA : ∀ q, H0.size ≤ q → A q) (isC isR isB : List Nat) (hC : isC.map (fun i => ws[i]?) = wc.map some) (hw : isR.filterMap (fun i => ws[i]?) = wr) (hR : isR.map (fun i => ws[i]?) = wr.map some) (hn : va_nd isR = true) (hdis : ∀ i ∈ isR, i ∉ isC) (hB : isB.map (fun i => (wr ++ wc')[i]?) = wn.map some) (hnB : va_nd isB = true)
    (k : ∀ (H1 : Heap) (locs1 : List Loc), va_P D cl wn H1 → va_D A wn → va_S A H0 H1 locs1 → W p l e R s m args below meth c H1 locs1 cells slots Q (F0 m (pc + 3) ls (.int r :: rest))) : W p l e R s m args below meth c H locs cells slots Q (F0 m pc ls st0) := by
  have hFc := va_free (wc := wc) hD hS hA isC hC
  refine va_calli hr hS (fun q _ h => hFc q h) hFc (fun r' u t H1 locs1 ht hvm hw hB1 hz1 hk1 hS1 => ?_)
  obtain ⟨hP1, hK1, hD1⟩ := hB1
  rw [ht] at hP1
  obtain ⟨hP2, hD2⟩ := va_join (wr := wr) (w1 := wc') hP hD isC isR hC hR hn hdis hk1 hFc hP1 hD1
  have hw : r' = r := hw
  subst hw
  exact k H1 locs1 (hP2.subM isB hB) (hD2.sub isB hnB hB) hS1
theorem ln_gov {wc wc' wr wn : va_W} {ar : Array Value} {st0 : List Value} (hr : va_Run p l e R s m args below meth c H locs cells slots 0 0 (F0 m pc ls st0) rest (va_Qv (fun (_ : Unit) => True) (cB D cl tys H.size wc wc') (va_A wc H.size) ar) (va_A wc H.size))
    (hP : va_P D cl ws H) (hD : va_D A ws) (hS : va_S A H0 H locs) (hA : ∀ q, H0.size ≤ q → A q) (isC isR isB : List Nat) (hC : isC.map (fun i => ws[i]?) = wc.map some) (hw : isR.filterMap (fun i => ws[i]?) = wr) (hR : isR.map (fun i => ws[i]?) = wr.map some) (hn : va_nd isR = true) (hdis : ∀ i ∈ isR, i ∉ isC) (hB : isB.map (fun i => (wr ++ wc')[i]?) = wn.map some) (hnB : va_nd isB = true)
    (k : ∀ (H1 : Heap) (locs1 : List Loc), va_P D cl wn H1 → va_D A wn → va_S A H0 H1 locs1 → W p l e R s m args below meth c H1 locs1 cells slots Q (F0 m (pc + 3) ls rest)) : W p l e R s m args below meth c H locs cells slots Q (F0 m pc ls st0) := by
  have hFc := va_free (wc := wc) hD hS hA isC hC
  refine va_callv hr hS (fun q _ h => hFc q h) hFc (fun u t H1 locs1 ht hvm hw hB1 hz1 hk1 hS1 => ?_)
  obtain ⟨hP1, hK1, hD1⟩ := hB1
  rw [ht] at hP1
  obtain ⟨hP2, hD2⟩ := va_join (wr := wr) (w1 := wc') hP hD isC isR hC hR hn hdis hk1 hFc hP1 hD1
  exact k H1 locs1 (hP2.subM isB hB) (hD2.sub isB hnB hB) hS1
end
theorem ct_i {l : Launch} {y : MethodName} {wy w' : List Cond} {rm : Room} {cc : ByteArray} {maxL : Nat} {ty : FieldType} {D : va_G} {cl : List vw_C} {tys : List (ClassId × FieldType)} {av : List Value} {ws ws' : va_W} {r : Int32}
    (hy : plainName y.cls = true) (hw : wy = Cond.code y cc maxL (some ty) :: w') (hlen : (lg_sl av).length ≤ maxL)
    (body : ∀ (p : Program) (e : Env) (s : State) (m : MethodId) (args : Array Value) (below : List Frame) (meth : Method) (c : Code) (A : Nat → Prop) (Q : State → Prop) (ls : Array Slot) (H0 : Heap),
      p.tables.exec = Jvm.exec → c.code = cc → c.maxLocals = maxL → (∀ w ∈ wy, w.before args s = true) → s.vm.findClass y.cls = some m.cls →
      va_K D cl tys s → NW s → lv_has ls maxL (lv_args 0 av) → va_P D cl ws H0 → va_D A ws → va_S A H0 H0 [] → (∀ q, H0.size ≤ q → A q) →
      (∀ (H : Heap) (locs : List Loc) (pc : Nat) (ls : Array Slot), decode cc pc = .ok (.ireturn, 1) → narrow ty (.int r) = .int r → va_P D cl ws' H → va_D A ws' → va_S A H0 H locs → W p l e rm s m args below meth c H locs 0 0 Q (F0 m pc ls [.int r])) →
      W p l e rm s m args below meth c H0 [] 0 0 Q (F0 m 0 ls [])) : CtI l y wy rm D cl tys av ws r ws' := by
  intro sz
  refine Met.ofW (cc := cc) (maxL := maxL) (ret := some ty) hy hw ?_
  intro p e s m args below meth c s₁ B hml hv
  obtain ⟨hargs, hsz, hP, hK, hD0, hN⟩ := hv
  subst hsz
  have hown : s.vm.findClass y.cls = some m.cls := findClass_of_methodNamed B.named
  have hl := lv_entry av (n := maxL) hlen
  subst hargs
  rw [lg_entry_eq]
  refine body p e s m _ below meth c (va_A ws s.heap.size) _ _ s.heap B.exec B.bytes hml (atoms_spec (ws := wy) B.pre) hown hK hN hl hP hD0.self va_S.rf (fun q h => Or.inr h) ?_
  intro H locs pc ls hd hnr hP' hD' hS
  exact W.zret B.exec B.bytes B.returns hnr (fun t ht hW => ⟨⟨r, (), rfl, rfl, by rw [ht]; exact hP', va_K.moved hW.alike hK, hD'⟩, hS.F ht⟩) hS.2.2 hd
theorem ct_v {l : Launch} {y : MethodName} {wy w' : List Cond} {rm : Room} {cc : ByteArray} {maxL : Nat} {D : va_G} {cl : List vw_C} {tys : List (ClassId × FieldType)} {av : List Value} {ws ws' : va_W}
    (hy : plainName y.cls = true) (hw : wy = Cond.code y cc maxL none :: w') (hlen : (lg_sl av).length ≤ maxL)
    (body : ∀ (p : Program) (e : Env) (s : State) (m : MethodId) (args : Array Value) (below : List Frame) (meth : Method) (c : Code) (A : Nat → Prop) (Q : State → Prop) (ls : Array Slot) (H0 : Heap),
      p.tables.exec = Jvm.exec → c.code = cc → c.maxLocals = maxL → (∀ w ∈ wy, w.before args s = true) → s.vm.findClass y.cls = some m.cls →
      va_K D cl tys s → NW s → lv_has ls maxL (lv_args 0 av) → va_P D cl ws H0 → va_D A ws → va_S A H0 H0 [] → (∀ q, H0.size ≤ q → A q) →
      (∀ (H : Heap) (locs : List Loc) (pc : Nat) (ls : Array Slot), decode cc pc = .ok (.return_, 1) → va_P D cl ws' H → va_D A ws' → va_S A H0 H locs → W p l e rm s m args below meth c H locs 0 0 Q (F0 m pc ls [])) →
      W p l e rm s m args below meth c H0 [] 0 0 Q (F0 m 0 ls [])) : CtV l y wy rm D cl tys av ws ws' := by
  intro sz
  refine Met.ofW (cc := cc) (maxL := maxL) (ret := none) hy hw ?_
  intro p e s m args below meth c s₁ B hml hv
  obtain ⟨hargs, hsz, hP, hK, hD0, hN⟩ := hv
  subst hsz
  have hown : s.vm.findClass y.cls = some m.cls := findClass_of_methodNamed B.named
  have hl := lv_entry av (n := maxL) hlen
  subst hargs
  rw [lg_entry_eq]
  refine body p e s m _ below meth c (va_A ws s.heap.size) _ _ s.heap B.exec B.bytes hml (atoms_spec (ws := wy) B.pre) hown hK hN hl hP hD0.self va_S.rf (fun q h => Or.inr h) ?_
  intro H locs pc ls hd hP' hD' hS
  exact W.vret B.exec B.bytes B.returns (fun t ht hW => ⟨⟨(), rfl, trivial, by rw [ht]; exact hP', va_K.moved hW.alike hK, hD'⟩, hS.F ht⟩) hS.2.2 hd
theorem nI_min {x y : Nat} (hx : x < 2147483648) (hy : y < 2147483648) : (if nI y < nI x then nI y else nI x) = nI (min x y) := by
  by_cases h : y < x
  · rw [if_pos ((nI_ltI hy hx).mpr h), Nat.min_eq_right (Nat.le_of_lt h)]
  · rw [if_neg (fun h9 => h ((nI_ltI hy hx).mp h9)), Nat.min_eq_left (Nat.le_of_not_lt h)]
theorem nI_max {x y : Nat} (hx : x < 2147483648) (hy : y < 2147483648) : (if nI x < nI y then nI y else nI x) = nI (max x y) := by
  by_cases h : x < y
  · rw [if_pos ((nI_ltI hx hy).mpr h), Nat.max_eq_right (Nat.le_of_lt h)]
  · rw [if_neg (fun h9 => h ((nI_ltI hx hy).mp h9)), Nat.max_eq_left (Nat.le_of_not_lt h)]
theorem nI_max0 {x y : Nat} (hx : x < 1073741824) (hy : y < 1073741824) : (if nI 0 < nI x - nI y then nI x - nI y else nI 0) = nI (x - y) := by
  by_cases h : y ≤ x
  · rw [pk_sub h]
    by_cases h2 : 0 < x - y
    · rw [if_pos ((nI_ltI (by decide) (by omega)).mpr h2)]
    · have h3 : x - y = 0 := by omega
      rw [h3]; exact ite_self _
  · have h4 : nI x - nI y < 0 := pk_sneg (by omega) (by omega)
    have h5 : ¬ nI 0 < nI x - nI y := fun h6 => by
      have h7 : (0 : Int32) < nI x - nI y := h6
      rw [Int32.lt_iff_toInt_lt] at h4 h7
      omega
    rw [if_neg h5]
    have h3 : x - y = 0 := by omega
    rw [h3]
theorem ln_out3 {x : Int32} (h0 : ¬ x = nI 0) (h1 : ¬ x = nI 1) (h2 : ¬ x = nI 2) : x.toInt < 0 ∨ 2 < x.toInt := by
  have k : ∀ j : Nat, j < 3 → x.toInt = (j : Int) → x = nI j := fun j hj h => Int32.toInt_inj.mp (by rw [h, nI_toInt (by omega)])
  by_cases a : x.toInt < 0
  · exact Or.inl a
  by_cases b : 2 < x.toInt
  · exact Or.inr b
  have : x.toInt = ((0 : Nat) : Int) ∨ x.toInt = ((1 : Nat) : Int) ∨ x.toInt = ((2 : Nat) : Int) := by omega
  rcases this with h | h | h
  · exact absurd (k 0 (by decide) h) h0
  · exact absurd (k 1 (by decide) h) h1
  · exact absurd (k 2 (by decide) h) h2
section
variable {p : Program} {l : Launch} {e : Env} {R : Room} {s : State} {m : MethodId} {args : Array Value} {below : List Frame} {meth : Method} {c : Code} {H : Heap} {locs : List Loc} {cells slots : Nat} {Q : State → Prop}
variable {cc : ByteArray} {pc : Nat} {ls : Array Slot} {rest : List Value}
theorem ln_daddN (hx : p.tables.exec = Jvm.exec) (hb : c.code = cc) {x y z : Nat} (h : y ≤ x + z) (hd : decode cc pc = .ok (.iadd, 1)) (k : W p l e R s m args below meth c H locs cells slots Q (F0 m (pc + 1) ls (.int (nI (x + z - y)) :: rest))) : W p l e R s m args below meth c H locs cells slots Q (F0 m pc ls (.int (nI z) :: .int (nI x - nI y) :: rest)) :=
  lv_iadd hx hb hd (by
    have e1 : nI x - nI y + nI z = nI (x + z - y) := by
      rw [← pk_sub h, ← nI_add, Int32.sub_eq_add_neg, Int32.sub_eq_add_neg, Int32.add_assoc, Int32.add_assoc, Int32.add_comm (-nI y)]
    rw [e1]; exact k)
theorem ln_mmax (hexec : p.tables.exec = Jvm.exec) (hb : c.code = cc) (hml : c.maxLocals = ls.size) {own : String} {index : Nat} (hown : s.vm.findClass own = some m.cls) (hlink : (Cond.methodLink own index Lib.Math.max.name).before args s = true) (hstat : (Cond.static Lib.Math.max.name).before args s = true) (hini : (Cond.initialized "java/lang/Math").before args s = true) (hcode : (Cond.code Lib.Math.max.name Lib.Math.max.code 2 (some .int)).before args s = true)
    (hframes : 1 ≤ R.frames) (hlocals : (rest.map fun v => v.category).sum + 13 ≤ R.locals) (hc : cells ≤ R.cells) (hs : slots ≤ R.slots) {x y : Nat} (h1 : x < 2147483648) (h2 : y < 2147483648) (hdg : decode cc pc = .ok (.invokestatic index, 3))
    (kk : W p l e R s m args below meth c H locs cells slots Q (F0 m (pc + 3) ls (.int (nI (max x y)) :: rest))) : W p l e R s m args below meth c H locs cells slots Q (F0 m pc ls (.int (nI y) :: .int (nI x) :: rest)) :=
  va_mmax hexec hb hml hown hlink hstat hini hcode hframes hlocals hc hs hdg (by rw [nI_max h1 h2]; exact kk)
theorem ln_mmin (hexec : p.tables.exec = Jvm.exec) (hb : c.code = cc) (hml : c.maxLocals = ls.size) {own : String} {index : Nat} (hown : s.vm.findClass own = some m.cls) (hlink : (Cond.methodLink own index Lib.Math.min.name).before args s = true) (hstat : (Cond.static Lib.Math.min.name).before args s = true) (hini : (Cond.initialized "java/lang/Math").before args s = true) (hcode : (Cond.code Lib.Math.min.name Lib.Math.min.code 2 (some .int)).before args s = true)
    (hframes : 1 ≤ R.frames) (hlocals : (rest.map fun v => v.category).sum + 13 ≤ R.locals) (hc : cells ≤ R.cells) (hs : slots ≤ R.slots) {x y : Nat} (h1 : x < 2147483648) (h2 : y < 2147483648) (hdg : decode cc pc = .ok (.invokestatic index, 3))
    (kk : W p l e R s m args below meth c H locs cells slots Q (F0 m (pc + 3) ls (.int (nI (min x y)) :: rest))) : W p l e R s m args below meth c H locs cells slots Q (F0 m pc ls (.int (nI y) :: .int (nI x) :: rest)) :=
  va_mmin hexec hb hml hown hlink hstat hini hcode hframes hlocals hc hs hdg (by rw [nI_min h1 h2]; exact kk)
theorem ln_mmax0 (hexec : p.tables.exec = Jvm.exec) (hb : c.code = cc) (hml : c.maxLocals = ls.size) {own : String} {index : Nat} (hown : s.vm.findClass own = some m.cls) (hlink : (Cond.methodLink own index Lib.Math.max.name).before args s = true) (hstat : (Cond.static Lib.Math.max.name).before args s = true) (hini : (Cond.initialized "java/lang/Math").before args s = true) (hcode : (Cond.code Lib.Math.max.name Lib.Math.max.code 2 (some .int)).before args s = true)
    (hframes : 1 ≤ R.frames) (hlocals : (rest.map fun v => v.category).sum + 13 ≤ R.locals) (hc : cells ≤ R.cells) (hs : slots ≤ R.slots) {x y : Nat} (h1 : x < 1073741824) (h2 : y < 1073741824) (hdg : decode cc pc = .ok (.invokestatic index, 3))
    (kk : W p l e R s m args below meth c H locs cells slots Q (F0 m (pc + 3) ls (.int (nI (x - y)) :: rest))) : W p l e R s m args below meth c H locs cells slots Q (F0 m pc ls (.int (nI x - nI y) :: .int (nI 0) :: rest)) :=
  va_mmax hexec hb hml hown hlink hstat hini hcode hframes hlocals hc hs hdg (by rw [nI_max0 h1 h2]; exact kk)
end
abbrev tyC (ci : Nat → ClassId) : List (ClassId × FieldType) := [(ci 0, .int), (ci 1, .boolean), (ci 2, .object "PacedMux$Sender"), (ci 3, .object "PacedMux$Collector")]
theorem nar_b {x : Nat} (h : x ≤ 1) : narrow .boolean (.int (nI x)) = .int (nI x) := by
  have h : x = 0 ∨ x = 1 := by omega
  rcases h with rfl | rfl <;> decide
theorem fit_b {x : Nat} (h : x ≤ 1) : fits .boolean (.int (nI x)) = true := by
  have h : x = 0 ∨ x = 1 := by omega
  rcases h with rfl | rfl <;> decide
theorem lw_good {c : Cond} (h : c ∈ lw_ok) : GoodIn lw_ok (c :: lw_ok) := fun w hw => (List.mem_cons.mp hw).elim (fun e => by subst e; exact ⟨h, good_of_word (List.mem_filter.mp h).2⟩) (fun hw => ⟨hw, good_of_word (List.mem_filter.mp hw).2⟩)
section
variable {R : Room} {s : State} {args : Array Value} {own C host : String} {index : Nat} {y : MethodName} {bytes : ByteArray} {maxL mc ms : Nat} {ret : Option FieldType} {rm : Room}
theorem cw_V (n : Nat) (hT : ∀ w ∈ lw_ok, w.before args s = true) (h1 : Cond.methodLink own index y ∈ lw_ok) (h4 : Cond.initialized y.cls ∈ lw_ok) (h5 : Cond.code y bytes maxL ret ∈ lw_ok) (h2 : Cond.instanceMethod y ∈ lw_ok) (h3 : Cond.selects C y y ∈ lw_ok)
    (hd : y.cls ≠ "java/lang/invoke/MethodHandle" ∧ y.cls ≠ "java/lang/invoke/VarHandle" ∧ (parseMethodDescriptor y.desc).map (fun d => d.parameters.length) = some n) (hf : rm.frames + 1 ≤ R.frames) (hl : 8 + (maxL + 11) + rm.locals ≤ R.locals) : CallW R s args own C index y bytes maxL ret (Cond.code y bytes maxL ret :: lw_ok) rm rm.cells rm.slots n :=
  ⟨callB_of n hT (lw_good h5) rfl rfl rfl (hT _ h4) (hT _ h1) hd ⟨hf, hl⟩, hT _ h2, hT _ h3⟩
theorem cw_S (n : Nat) (hT : ∀ w ∈ lw_ok, w.before args s = true) (h1 : Cond.methodLink own index y ∈ lw_ok) (h4 : Cond.initialized y.cls ∈ lw_ok) (h5 : Cond.code y bytes maxL ret ∈ lw_ok) (h2 : Cond.static y ∈ lw_ok)
    (hd : y.cls ≠ "java/lang/invoke/MethodHandle" ∧ y.cls ≠ "java/lang/invoke/VarHandle" ∧ (parseMethodDescriptor y.desc).map (fun d => d.parameters.length) = some n) (hf : rm.frames + 1 ≤ R.frames) (hl : 8 + (maxL + 11) + rm.locals ≤ R.locals) : CallB R s args own index y bytes maxL ret (Cond.code y bytes maxL ret :: lw_ok) rm rm.cells rm.slots n ∧ (Cond.static y).before args s = true :=
  ⟨callB_of n hT (lw_good h5) rfl rfl rfl (hT _ h4) (hT _ h1) hd ⟨hf, hl⟩, hT _ h2⟩
theorem cw_VN (n : Nat) (hT : ∀ w ∈ lw_ok, w.before args s = true) (h1 : va_Nw (.methodLinkNest own index y host) s) (h4 : Cond.initialized y.cls ∈ lw_ok) (h5 : Cond.code y bytes maxL ret ∈ lw_ok) (h2 : Cond.instanceMethod y ∈ lw_ok) (h3 : Cond.selects C y y ∈ lw_ok)
    (hd : y.cls ≠ "java/lang/invoke/MethodHandle" ∧ y.cls ≠ "java/lang/invoke/VarHandle" ∧ (parseMethodDescriptor y.desc).map (fun d => d.parameters.length) = some n) (hf : rm.frames + 1 ≤ R.frames) (hl : 8 + (maxL + 11) + rm.locals ≤ R.locals) : va_CN R s args own index y host bytes maxL ret (Cond.code y bytes maxL ret :: lw_ok) rm rm.cells rm.slots n ∧ (Cond.instanceMethod y).before args s = true ∧ (Cond.selects C y y).before args s = true :=
  ⟨va_cnB n hT (lw_good h5) rfl rfl rfl h1 (hT _ h4) hd ⟨hf, hl⟩, hT _ h2, hT _ h3⟩
theorem cw_SN (n : Nat) (hT : ∀ w ∈ lw_ok, w.before args s = true) (h1 : va_Nw (.methodLinkNest own index y host) s) (h4 : Cond.initialized y.cls ∈ lw_ok) (h5 : Cond.code y bytes maxL ret ∈ lw_ok) (h2 : Cond.static y ∈ lw_ok)
    (hd : y.cls ≠ "java/lang/invoke/MethodHandle" ∧ y.cls ≠ "java/lang/invoke/VarHandle" ∧ (parseMethodDescriptor y.desc).map (fun d => d.parameters.length) = some n) (hf : rm.frames + 1 ≤ R.frames) (hl : 8 + (maxL + 11) + rm.locals ≤ R.locals) : va_CN R s args own index y host bytes maxL ret (Cond.code y bytes maxL ret :: lw_ok) rm rm.cells rm.slots n ∧ (Cond.static y).before args s = true ∧ True :=
  ⟨va_cnB n hT (lw_good h5) rfl rfl rfl h1 (hT _ h4) hd ⟨hf, hl⟩, hT _ h2, trivial⟩
end
end
section
def wX (ad : Nat → Nat) (ci : Nat → ClassId) (x : XS) : va_W := [(ad 0, .inr (5, [.int (nI ((x 0).1 0)), .int (nI ((x 0).1 1)), .ref (ad 1), .ref (ad 29), .ref (ad 35), .ref (ad 37), .int (nI ((x 0).1 6)), .int (nI ((x 0).1 7))])), (ad 1, .inl (ci 2, 3, .inr (.inr (.inr (.inr (fun i => if i = 0 then some (ad 2) else if i = 1 then some (ad 11) else some (ad 20))))))), (ad 2, .inr (3, [.ref (ad 3), .ref (ad 7), .int (nI ((x 1).1 2)), .int (nI ((x 1).1 3)), .int (nI ((x 1).1 4)), .int (nI ((x 1).1 5)), .int (nI ((x 1).1 6)), .int (nI ((x 1).1 7))])), (ad 3, .inr (4, [.ref (ad 4), .ref (ad 5), .ref (ad 6), .int (nI ((x 2).1 3))])), (ad 4, .inl (ci 0, 8, .inl (nF ((x 2).2 0)))), (ad 5, .inl (ci 0, 8, .inl (nF ((x 2).2 1)))), (ad 6, .inl (ci 0, 8, .inl (nF ((x 2).2 2)))), (ad 7, .inr (4, [.ref (ad 8), .ref (ad 9), .ref (ad 10), .int (nI ((x 3).1 3))])), (ad 8, .inl (ci 0, 8, .inl (nF ((x 3).2 0)))), (ad 9, .inl (ci 0, 8, .inl (nF ((x 3).2 1)))), (ad 10, .inl (ci 0, 8, .inl (nF ((x 3).2 2)))), (ad 11, .inr (3, [.ref (ad 12), .ref (ad 16), .int (nI ((x 4).1 2)), .int (nI ((x 4).1 3)), .int (nI ((x 4).1 4)), .int (nI ((x 4).1 5)), .int (nI ((x 4).1 6)), .int (nI ((x 4).1 7))])), (ad 12, .inr (4, [.ref (ad 13), .ref (ad 14), .ref (ad 15), .int (nI ((x 5).1 3))])), (ad 13, .inl (ci 0, 8, .inl (nF ((x 5).2 0)))), (ad 14, .inl (ci 0, 8, .inl (nF ((x 5).2 1)))), (ad 15, .inl (ci 0, 8, .inl (nF ((x 5).2 2)))), (ad 16, .inr (4, [.ref (ad 17), .ref (ad 18), .ref (ad 19), .int (nI ((x 6).1 3))])), (ad 17, .inl (ci 0, 8, .inl (nF ((x 6).2 0)))), (ad 18, .inl (ci 0, 8, .inl (nF ((x 6).2 1)))), (ad 19, .inl (ci 0, 8, .inl (nF ((x 6).2 2)))), (ad 20, .inr (3, [.ref (ad 21), .ref (ad 25), .int (nI ((x 7).1 2)), .int (nI ((x 7).1 3)), .int (nI ((x 7).1 4)), .int (nI ((x 7).1 5)), .int (nI ((x 7).1 6)), .int (nI ((x 7).1 7))])), (ad 21, .inr (4, [.ref (ad 22), .ref (ad 23), .ref (ad 24), .int (nI ((x 8).1 3))])), (ad 22, .inl (ci 0, 8, .inl (nF ((x 8).2 0)))), (ad 23, .inl (ci 0, 8, .inl (nF ((x 8).2 1)))), (ad 24, .inl (ci 0, 8, .inl (nF ((x 8).2 2)))), (ad 25, .inr (4, [.ref (ad 26), .ref (ad 27), .ref (ad 28), .int (nI ((x 9).1 3))])), (ad 26, .inl (ci 0, 8, .inl (nF ((x 9).2 0)))), (ad 27, .inl (ci 0, 8, .inl (nF ((x 9).2 1)))), (ad 28, .inl (ci 0, 8, .inl (nF ((x 9).2 2)))), (ad 29, .inr (2, [.ref (ad 30), .ref (ad 31), .int (nI ((x 10).1 2)), .int (nI ((x 10).1 3))])), (ad 31, .inl (ci 0, 6, .inl (nF ((x 10).2 0)))), (ad 30, .inl (ci 3, 3, .inr (.inr (.inr (.inr (fun i => if i = 0 then some (ad 32) else if i = 1 then some (ad 33) else some (ad 34))))))), (ad 32, .inr (0, [.int (nI ((x 11).1 0)), .int (nI ((x 11).1 1)), .int (nI ((x 11).1 2)), .int (nI ((x 11).1 3)), .int (nI ((x 11).1 4)), .int (nI ((x 11).1 5)), .ref ((x 11).1 6), .int (nI ((x 11).1 7)), .int (nI ((x 11).1 8)), .ref ((x 11).1 9), .int (nI ((x 11).1 10))])), ((x 11).1 6, .inl (ci 0, 60, .inl (nF ((x 11).2 0)))), ((x 11).1 9, .inl (ci 0, 60, .inl (nF ((x 11).2 1)))), (ad 33, .inr (0, [.int (nI ((x 12).1 0)), .int (nI ((x 12).1 1)), .int (nI ((x 12).1 2)), .int (nI ((x 12).1 3)), .int (nI ((x 12).1 4)), .int (nI ((x 12).1 5)), .ref ((x 12).1 6), .int (nI ((x 12).1 7)), .int (nI ((x 12).1 8)), .ref ((x 12).1 9), .int (nI ((x 12).1 10))])), ((x 12).1 6, .inl (ci 0, 60, .inl (nF ((x 12).2 0)))), ((x 12).1 9, .inl (ci 0, 60, .inl (nF ((x 12).2 1)))), (ad 34, .inr (0, [.int (nI ((x 13).1 0)), .int (nI ((x 13).1 1)), .int (nI ((x 13).1 2)), .int (nI ((x 13).1 3)), .int (nI ((x 13).1 4)), .int (nI ((x 13).1 5)), .ref ((x 13).1 6), .int (nI ((x 13).1 7)), .int (nI ((x 13).1 8)), .ref ((x 13).1 9), .int (nI ((x 13).1 10))])), ((x 13).1 6, .inl (ci 0, 60, .inl (nF ((x 13).2 0)))), ((x 13).1 9, .inl (ci 0, 60, .inl (nF ((x 13).2 1)))), (ad 35, .inr (1, [.ref (ad 36), .int (nI ((x 14).1 1))])), (ad 36, .inl (ci 0, 16, .inl (nF ((x 14).2 0)))), (ad 37, .inr (1, [.ref (ad 38), .int (nI ((x 15).1 1))])), (ad 38, .inl (ci 0, 16, .inl (nF ((x 15).2 0))))]
def wM (ad : Nat → Nat) (ci : Nat → ClassId) (x : ST) : va_W := [(ad 0, .inr (6, [.int (nI (x.1 0)), .int (nI (x.1 1)), .int (nI (x.1 2)), .ref (ad 1), .ref (ad 2), .ref (ad 3), .ref (ad 4), .ref (ad 5), .ref (ad 6), .ref (ad 7), .ref (ad 8), .ref (ad 9), .ref (ad 10), .int (nI (x.1 13)), .ref (ad 11), .ref (ad 12), .int (nI (x.1 16)), .int (nI (x.1 17)), .ref (ad 13), .ref (ad 14), .ref (ad 15), .ref (ad 16), .ref (ad 17), .ref (ad 18), .ref (ad 19), .ref (ad 20), .ref (ad 21), .ref (ad 22), .ref (ad 23), .ref (ad 24)])), (ad 1, .inl (ci 0, 3, .inl (nF (x.2 0)))), (ad 2, .inl (ci 0, 1536, .inl (nF (x.2 1)))), (ad 3, .inl (ci 0, 1536, .inl (nF (x.2 2)))), (ad 4, .inl (ci 0, 1536, .inl (nF (x.2 3)))), (ad 5, .inl (ci 0, 3, .inl (nF (x.2 4)))), (ad 6, .inl (ci 0, 3, .inl (nF (x.2 5)))), (ad 7, .inl (ci 0, 3, .inl (nF (x.2 6)))), (ad 8, .inl (ci 0, 3, .inl (nF (x.2 7)))), (ad 9, .inl (ci 0, 3, .inl (nF (x.2 8)))), (ad 10, .inl (ci 0, 3, .inl (nF (x.2 9)))), (ad 11, .inl (ci 0, 16, .inl (nF (x.2 10)))), (ad 12, .inl (ci 0, 16, .inl (nF (x.2 11)))), (ad 13, .inl (ci 1, 3, .inl (nF (x.2 12)))), (ad 14, .inl (ci 0, 3, .inl (nF (x.2 13)))), (ad 15, .inl (ci 1, 3, .inl (nF (x.2 14)))), (ad 16, .inl (ci 0, 3, .inl (nF (x.2 15)))), (ad 17, .inl (ci 0, 3, .inl (nF (x.2 16)))), (ad 18, .inl (ci 0, 3, .inl (nF (x.2 17)))), (ad 19, .inl (ci 0, 180, .inl (nF (x.2 18)))), (ad 20, .inl (ci 0, 180, .inl (nF (x.2 19)))), (ad 21, .inl (ci 0, 3, .inl (nF (x.2 20)))), (ad 22, .inl (ci 0, 3, .inl (nF (x.2 21)))), (ad 23, .inl (ci 0, 3, .inl (nF (x.2 22)))), (ad 24, .inl (ci 0, 6, .inl (nF (x.2 23))))]
end
section
def fisStreamN  (i : Nat) : Option (Nat) := ss (i < 2147483648) ((if 3 ≤ i then some 0 else some 1))
abbrev rm_isStreamN : Room := { frames := 0, cells := 0, slots := 0, locals := 0 }
set_option maxHeartbeats 4000000 in
set_option maxRecDepth 100000 in
theorem cisStreamN (l : Launch) (D : va_G) (ci : Nat → ClassId)   (i : Nat) (o : Nat) (hF : fisStreamN i = some o) : CtI l y_X_isStream w_X_isStream rm_isStreamN D vwCl (tyC ci) [.int (nI i)] [] (nI o) [] := by
  refine ct_i (cc := b_X_isStream) (maxL := 1) (by decide) rfl (by decide) (fun p9 e9 s9 m9 args9 be9 me9 c9 A9 Q9 ls H0 hx hb hml hts hown hK hN hl hP hD hS hA kR => ?_)
  replace hl : lv_has ls 1 [(0, .int (nI i))] := hl
  replace hP : va_P D vwCl [] H0 := hP
  replace hD : va_D A9 [] := hD
  replace hown : s9.vm.findClass R_X = some m9.cls := hown
  have hT : ∀ w ∈ lw_ok, w.before args9 s9 = true := fun w h => hts w (List.mem_cons_of_mem _ h)
  rw [fisStreamN] at hF
  generalize hH : H0 = H at hP ⊢
  replace hS : va_S A9 H0 H [] := by rw [← hH]; exact hS
  clear hH
  generalize ([] : List Loc) = locs at hS ⊢
  refine lv_iload_n hx hb d_X_isStream_0 rfl (lv_at hl 0 rfl) ?_
  obtain ⟨b1, hF⟩ := ss_s hF
  refine lv_if_lt (tgt := 13) hx hb d_X_isStream_1 (by decide) (fun h9 => absurd h9 (nI_pos b1)) (fun _ => ?_)
  refine lv_iload_n hx hb d_X_isStream_4 rfl (lv_at hl 0 rfl) ?_
  refine lv_iconst (v := nI 3) hx hb d_X_isStream_5 (by decide) ?_
  refine ln_icmp_ge hx hb b1 (by decide) 13 d_X_isStream_6 (by decide) (fun h2 => ?_) (fun h2 => ?_)
  · have hF := it_p hF h2
    refine lv_iconst (v := nI 0) hx hb d_X_isStream_13 (by decide) ?_
    obtain rfl := Option.some.inj hF
    exact kR _ _ _ _ d_X_isStream_14 (by decide) hP hD hS
  · have hF := it_n hF h2
    refine lv_iconst (v := nI 1) hx hb d_X_isStream_9 (by decide) ?_
    refine lv_goto (tgt := 14) hx hb d_X_isStream_10 (by decide) ?_
    obtain rfl := Option.some.inj hF
    exact kR _ _ _ _ d_X_isStream_14 (by decide) hP hD hS
def fisPacketIndexN  (i : Nat) : Option (Nat) := ss (i < 2147483648) ((if 16 ≤ i then some 0 else some 1))
abbrev rm_isPacketIndexN : Room := { frames := 0, cells := 0, slots := 0, locals := 0 }
set_option maxHeartbeats 4000000 in
set_option maxRecDepth 100000 in
theorem cisPacketIndexN (l : Launch) (D : va_G) (ci : Nat → ClassId)   (i : Nat) (o : Nat) (hF : fisPacketIndexN i = some o) : CtI l y_X_isPacketIndex w_X_isPacketIndex rm_isPacketIndexN D vwCl (tyC ci) [.int (nI i)] [] (nI o) [] := by
  refine ct_i (cc := b_X_isPacketIndex) (maxL := 1) (by decide) rfl (by decide) (fun p9 e9 s9 m9 args9 be9 me9 c9 A9 Q9 ls H0 hx hb hml hts hown hK hN hl hP hD hS hA kR => ?_)
  replace hl : lv_has ls 1 [(0, .int (nI i))] := hl
  replace hP : va_P D vwCl [] H0 := hP
  replace hD : va_D A9 [] := hD
  replace hown : s9.vm.findClass R_X = some m9.cls := hown
  have hT : ∀ w ∈ lw_ok, w.before args9 s9 = true := fun w h => hts w (List.mem_cons_of_mem _ h)
  rw [fisPacketIndexN] at hF
  generalize hH : H0 = H at hP ⊢
  replace hS : va_S A9 H0 H [] := by rw [← hH]; exact hS
  clear hH
  generalize ([] : List Loc) = locs at hS ⊢
  refine lv_iload_n hx hb d_X_isPacketIndex_0 rfl (lv_at hl 0 rfl) ?_
  obtain ⟨b1, hF⟩ := ss_s hF
  refine lv_if_lt (tgt := 14) hx hb d_X_isPacketIndex_1 (by decide) (fun h9 => absurd h9 (nI_pos b1)) (fun _ => ?_)
  refine lv_iload_n hx hb d_X_isPacketIndex_4 rfl (lv_at hl 0 rfl) ?_
  refine lv_bipush (v := nI 16) hx hb d_X_isPacketIndex_5 (by decide) ?_
  refine ln_icmp_ge hx hb b1 (by decide) 14 d_X_isPacketIndex_7 (by decide) (fun h2 => ?_) (fun h2 => ?_)
  · have hF := it_p hF h2
    refine lv_iconst (v := nI 0) hx hb d_X_isPacketIndex_14 (by decide) ?_
    obtain rfl := Option.some.inj hF
    exact kR _ _ _ _ d_X_isPacketIndex_15 (by decide) hP hD hS
  · have hF := it_n hF h2
    refine lv_iconst (v := nI 1) hx hb d_X_isPacketIndex_10 (by decide) ?_
    refine lv_goto (tgt := 15) hx hb d_X_isPacketIndex_11 (by decide) ?_
    obtain rfl := Option.some.inj hF
    exact kR _ _ _ _ d_X_isPacketIndex_15 (by decide) hP hD hS
def fisStreamI  (i : Int32) : Option (Nat) := (if i < 0 then some 0 else (if (nI 3) ≤ i then some 0 else some 1))
abbrev rm_isStreamI : Room := { frames := 0, cells := 0, slots := 0, locals := 0 }
set_option maxHeartbeats 4000000 in
set_option maxRecDepth 100000 in
theorem cisStreamI (l : Launch) (D : va_G) (ci : Nat → ClassId)   (i : Int32) (o : Nat) (hF : fisStreamI i = some o) : CtI l y_X_isStream w_X_isStream rm_isStreamI D vwCl (tyC ci) [.int i] [] (nI o) [] := by
  refine ct_i (cc := b_X_isStream) (maxL := 1) (by decide) rfl (by decide) (fun p9 e9 s9 m9 args9 be9 me9 c9 A9 Q9 ls H0 hx hb hml hts hown hK hN hl hP hD hS hA kR => ?_)
  replace hl : lv_has ls 1 [(0, .int i)] := hl
  replace hP : va_P D vwCl [] H0 := hP
  replace hD : va_D A9 [] := hD
  replace hown : s9.vm.findClass R_X = some m9.cls := hown
  have hT : ∀ w ∈ lw_ok, w.before args9 s9 = true := fun w h => hts w (List.mem_cons_of_mem _ h)
  rw [fisStreamI] at hF
  generalize hH : H0 = H at hP ⊢
  replace hS : va_S A9 H0 H [] := by rw [← hH]; exact hS
  clear hH
  generalize ([] : List Loc) = locs at hS ⊢
  refine lv_iload_n hx hb d_X_isStream_0 rfl (lv_at hl 0 rfl) ?_
  refine lv_if_lt (tgt := 13) hx hb d_X_isStream_1 (by decide) (fun h1 => ?_) (fun h1 => ?_)
  · have hF := it_p hF h1
    refine lv_iconst (v := nI 0) hx hb d_X_isStream_13 (by decide) ?_
    obtain rfl := Option.some.inj hF
    exact kR _ _ _ _ d_X_isStream_14 (by decide) hP hD hS
  · have hF := it_n hF h1
    refine lv_iload_n hx hb d_X_isStream_4 rfl (lv_at hl 0 rfl) ?_
    refine lv_iconst (v := nI 3) hx hb d_X_isStream_5 (by decide) ?_
    refine lv_icmp_ge (tgt := 13) hx hb d_X_isStream_6 (by decide) (fun h2 => ?_) (fun h2 => ?_)
    · have hF := it_p hF h2
      refine lv_iconst (v := nI 0) hx hb d_X_isStream_13 (by decide) ?_
      obtain rfl := Option.some.inj hF
      exact kR _ _ _ _ d_X_isStream_14 (by decide) hP hD hS
    · have hF := it_n hF h2
      refine lv_iconst (v := nI 1) hx hb d_X_isStream_9 (by decide) ?_
      refine lv_goto (tgt := 14) hx hb d_X_isStream_10 (by decide) ?_
      obtain rfl := Option.some.inj hF
      exact kR _ _ _ _ d_X_isStream_14 (by decide) hP hD hS
def fisPacketIndexI  (i : Int32) : Option (Nat) := (if i < 0 then some 0 else (if (nI 16) ≤ i then some 0 else some 1))
abbrev rm_isPacketIndexI : Room := { frames := 0, cells := 0, slots := 0, locals := 0 }
set_option maxHeartbeats 4000000 in
set_option maxRecDepth 100000 in
theorem cisPacketIndexI (l : Launch) (D : va_G) (ci : Nat → ClassId)   (i : Int32) (o : Nat) (hF : fisPacketIndexI i = some o) : CtI l y_X_isPacketIndex w_X_isPacketIndex rm_isPacketIndexI D vwCl (tyC ci) [.int i] [] (nI o) [] := by
  refine ct_i (cc := b_X_isPacketIndex) (maxL := 1) (by decide) rfl (by decide) (fun p9 e9 s9 m9 args9 be9 me9 c9 A9 Q9 ls H0 hx hb hml hts hown hK hN hl hP hD hS hA kR => ?_)
  replace hl : lv_has ls 1 [(0, .int i)] := hl
  replace hP : va_P D vwCl [] H0 := hP
  replace hD : va_D A9 [] := hD
  replace hown : s9.vm.findClass R_X = some m9.cls := hown
  have hT : ∀ w ∈ lw_ok, w.before args9 s9 = true := fun w h => hts w (List.mem_cons_of_mem _ h)
  rw [fisPacketIndexI] at hF
  generalize hH : H0 = H at hP ⊢
  replace hS : va_S A9 H0 H [] := by rw [← hH]; exact hS
  clear hH
  generalize ([] : List Loc) = locs at hS ⊢
  refine lv_iload_n hx hb d_X_isPacketIndex_0 rfl (lv_at hl 0 rfl) ?_
  refine lv_if_lt (tgt := 14) hx hb d_X_isPacketIndex_1 (by decide) (fun h1 => ?_) (fun h1 => ?_)
  · have hF := it_p hF h1
    refine lv_iconst (v := nI 0) hx hb d_X_isPacketIndex_14 (by decide) ?_
    obtain rfl := Option.some.inj hF
    exact kR _ _ _ _ d_X_isPacketIndex_15 (by decide) hP hD hS
  · have hF := it_n hF h1
    refine lv_iload_n hx hb d_X_isPacketIndex_4 rfl (lv_at hl 0 rfl) ?_
    refine lv_bipush (v := nI 16) hx hb d_X_isPacketIndex_5 (by decide) ?_
    refine lv_icmp_ge (tgt := 14) hx hb d_X_isPacketIndex_7 (by decide) (fun h2 => ?_) (fun h2 => ?_)
    · have hF := it_p hF h2
      refine lv_iconst (v := nI 0) hx hb d_X_isPacketIndex_14 (by decide) ?_
      obtain rfl := Option.some.inj hF
      exact kR _ _ _ _ d_X_isPacketIndex_15 (by decide) hP hD hS
    · have hF := it_n hF h2
      refine lv_iconst (v := nI 1) hx hb d_X_isPacketIndex_10 (by decide) ?_
      refine lv_goto (tgt := 15) hx hb d_X_isPacketIndex_11 (by decide) ?_
      obtain rfl := Option.some.inj hF
      exact kR _ _ _ _ d_X_isPacketIndex_15 (by decide) hP hD hS
def fU_isFull (u : ST)  : Option (Nat) := ss ((u.1 3) < 2147483648) ((if (u.1 3) < 8 then some 0 else some 1))
abbrev rm_U_isFull : Room := { frames := 0, cells := 0, slots := 0, locals := 0 }
set_option maxHeartbeats 4000000 in
set_option maxRecDepth 100000 in
theorem cU_isFull (l : Launch) (D : va_G) (ci : Nat → ClassId) (a0 : Nat) (a1 : Nat) (a2 : Nat) (a3 : Nat) (u : ST)  (o : Nat) (hF : fU_isFull u = some o) : CtI l y_U_isFull w_U_isFull rm_U_isFull D vwCl (tyC ci) [.ref a0] [(a0, .inr (4, [.ref a1, .ref a2, .ref a3, .int (nI (u.1 3))])), (a1, .inl (ci 0, 8, .inl (nF (u.2 0)))), (a2, .inl (ci 0, 8, .inl (nF (u.2 1)))), (a3, .inl (ci 0, 8, .inl (nF (u.2 2))))] (nI o) [(a0, .inr (4, [.ref a1, .ref a2, .ref a3, .int (nI (u.1 3))])), (a1, .inl (ci 0, 8, .inl (nF (u.2 0)))), (a2, .inl (ci 0, 8, .inl (nF (u.2 1)))), (a3, .inl (ci 0, 8, .inl (nF (u.2 2))))] := by
  refine ct_i (cc := b_U_isFull) (maxL := 1) (by decide) rfl (by decide) (fun p9 e9 s9 m9 args9 be9 me9 c9 A9 Q9 ls H0 hx hb hml hts hown hK hN hl hP hD hS hA kR => ?_)
  replace hl : lv_has ls 1 [(0, .ref a0)] := hl
  replace hP : va_P D vwCl [(a0, .inr (4, [.ref a1, .ref a2, .ref a3, .int (nI (u.1 3))])), (a1, .inl (ci 0, 8, .inl (nF (u.2 0)))), (a2, .inl (ci 0, 8, .inl (nF (u.2 1)))), (a3, .inl (ci 0, 8, .inl (nF (u.2 2))))] H0 := hP
  replace hD : va_D A9 [(a0, .inr (4, [.ref a1, .ref a2, .ref a3, .int (nI (u.1 3))])), (a1, .inl (ci 0, 8, .inl (nF (u.2 0)))), (a2, .inl (ci 0, 8, .inl (nF (u.2 1)))), (a3, .inl (ci 0, 8, .inl (nF (u.2 2))))] := hD
  replace hown : s9.vm.findClass R_U = some m9.cls := hown
  have hT : ∀ w ∈ lw_ok, w.before args9 s9 = true := fun w h => hts w (List.mem_cons_of_mem _ h)
  rw [fU_isFull] at hF
  generalize hH : H0 = H at hP ⊢
  replace hS : va_S A9 H0 H [] := by rw [← hH]; exact hS
  clear hH
  generalize ([] : List Loc) = locs at hS ⊢
  refine lv_aload_n hx hb d_U_isFull_0 rfl (lv_at hl 0 rfl) ?_
  refine va_get (D := D) (ci := 4) (v := .int (nI (u.1 3))) (C := R_U) (T := F_U) (N := 4) hx hb hT in_U hown hK hP 0 rfl rfl 3 (by decide) (hT _ wd_39) (fun _ h9 => h9) rfl d_U_isFull_1 ?_
  refine lv_bipush (v := nI 8) hx hb d_U_isFull_4 (by decide) ?_
  obtain ⟨b1, hF⟩ := ss_s hF
  refine ln_icmp_lt hx hb b1 (by decide) 13 d_U_isFull_6 (by decide) (fun h2 => ?_) (fun h2 => ?_)
  · have hF := it_p hF h2
    refine lv_iconst (v := nI 0) hx hb d_U_isFull_13 (by decide) ?_
    obtain rfl := Option.some.inj hF
    exact kR _ _ _ _ d_U_isFull_14 (by decide) hP hD hS
  · have hF := it_n hF h2
    refine lv_iconst (v := nI 1) hx hb d_U_isFull_9 (by decide) ?_
    refine lv_goto (tgt := 14) hx hb d_U_isFull_10 (by decide) ?_
    obtain rfl := Option.some.inj hF
    exact kR _ _ _ _ d_U_isFull_14 (by decide) hP hD hS
def fU_isEmpty (u : ST)  : Option (Nat) := ss ((u.1 3) < 2147483648) ((if ¬ (u.1 3) = 0 then some 0 else some 1))
abbrev rm_U_isEmpty : Room := { frames := 0, cells := 0, slots := 0, locals := 0 }
set_option maxHeartbeats 4000000 in
set_option maxRecDepth 100000 in
theorem cU_isEmpty (l : Launch) (D : va_G) (ci : Nat → ClassId) (a0 : Nat) (a1 : Nat) (a2 : Nat) (a3 : Nat) (u : ST)  (o : Nat) (hF : fU_isEmpty u = some o) : CtI l y_U_isEmpty w_U_isEmpty rm_U_isEmpty D vwCl (tyC ci) [.ref a0] [(a0, .inr (4, [.ref a1, .ref a2, .ref a3, .int (nI (u.1 3))])), (a1, .inl (ci 0, 8, .inl (nF (u.2 0)))), (a2, .inl (ci 0, 8, .inl (nF (u.2 1)))), (a3, .inl (ci 0, 8, .inl (nF (u.2 2))))] (nI o) [(a0, .inr (4, [.ref a1, .ref a2, .ref a3, .int (nI (u.1 3))])), (a1, .inl (ci 0, 8, .inl (nF (u.2 0)))), (a2, .inl (ci 0, 8, .inl (nF (u.2 1)))), (a3, .inl (ci 0, 8, .inl (nF (u.2 2))))] := by
  refine ct_i (cc := b_U_isEmpty) (maxL := 1) (by decide) rfl (by decide) (fun p9 e9 s9 m9 args9 be9 me9 c9 A9 Q9 ls H0 hx hb hml hts hown hK hN hl hP hD hS hA kR => ?_)
  replace hl : lv_has ls 1 [(0, .ref a0)] := hl
  replace hP : va_P D vwCl [(a0, .inr (4, [.ref a1, .ref a2, .ref a3, .int (nI (u.1 3))])), (a1, .inl (ci 0, 8, .inl (nF (u.2 0)))), (a2, .inl (ci 0, 8, .inl (nF (u.2 1)))), (a3, .inl (ci 0, 8, .inl (nF (u.2 2))))] H0 := hP
  replace hD : va_D A9 [(a0, .inr (4, [.ref a1, .ref a2, .ref a3, .int (nI (u.1 3))])), (a1, .inl (ci 0, 8, .inl (nF (u.2 0)))), (a2, .inl (ci 0, 8, .inl (nF (u.2 1)))), (a3, .inl (ci 0, 8, .inl (nF (u.2 2))))] := hD
  replace hown : s9.vm.findClass R_U = some m9.cls := hown
  have hT : ∀ w ∈ lw_ok, w.before args9 s9 = true := fun w h => hts w (List.mem_cons_of_mem _ h)
  rw [fU_isEmpty] at hF
  generalize hH : H0 = H at hP ⊢
  replace hS : va_S A9 H0 H [] := by rw [← hH]; exact hS
  clear hH
  generalize ([] : List Loc) = locs at hS ⊢
  refine lv_aload_n hx hb d_U_isEmpty_0 rfl (lv_at hl 0 rfl) ?_
  refine va_get (D := D) (ci := 4) (v := .int (nI (u.1 3))) (C := R_U) (T := F_U) (N := 4) hx hb hT in_U hown hK hP 0 rfl rfl 3 (by decide) (hT _ wd_39) (fun _ h9 => h9) rfl d_U_isEmpty_1 ?_
  obtain ⟨b1, hF⟩ := ss_s hF
  refine ln_if_ne hx hb b1 11 d_U_isEmpty_4 (by decide) (fun h2 => ?_) (fun h2 => ?_)
  · have hF := it_p hF h2
    refine lv_iconst (v := nI 0) hx hb d_U_isEmpty_11 (by decide) ?_
    obtain rfl := Option.some.inj hF
    exact kR _ _ _ _ d_U_isEmpty_12 (by decide) hP hD hS
  · have hF := it_n hF h2
    refine lv_iconst (v := nI 1) hx hb d_U_isEmpty_7 (by decide) ?_
    refine lv_goto (tgt := 12) hx hb d_U_isEmpty_8 (by decide) ?_
    obtain rfl := Option.some.inj hF
    exact kR _ _ _ _ d_U_isEmpty_12 (by decide) hP hD hS
def fU_append (u : ST) (x : Nat) (y : Nat) (z : Nat) : Option (ST) := ob (fU_isFull u) (fun r1 => ss (r1 < 2147483648) ((if r1 = 0 then ss ((u.1 3) < 8) (some (sA (sA (sA (sI u 3 ((u.1 3) + 1)) 0 (va_up (u.2 0) (u.1 3) x)) 1 (va_up (u.2 1) (u.1 3) y)) 2 (va_up (u.2 2) (u.1 3) z))) else some u)))
abbrev rm_U_append : Room := { frames := 1, cells := 0, slots := 0, locals := 20 }
set_option maxHeartbeats 4000000 in
set_option maxRecDepth 100000 in
theorem cU_append (l : Launch) (D : va_G) (ci : Nat → ClassId) (a0 : Nat) (a1 : Nat) (a2 : Nat) (a3 : Nat) (u : ST) (x : Nat) (y : Nat) (z : Nat) (o : ST) (hF : fU_append u x y z = some o) : CtV l y_U_append w_U_append rm_U_append D vwCl (tyC ci) [.ref a0, .int (nI x), .int (nI y), .int (nI z)] [(a0, .inr (4, [.ref a1, .ref a2, .ref a3, .int (nI (u.1 3))])), (a1, .inl (ci 0, 8, .inl (nF (u.2 0)))), (a2, .inl (ci 0, 8, .inl (nF (u.2 1)))), (a3, .inl (ci 0, 8, .inl (nF (u.2 2))))] [(a0, .inr (4, [.ref a1, .ref a2, .ref a3, .int (nI (o.1 3))])), (a1, .inl (ci 0, 8, .inl (nF (o.2 0)))), (a2, .inl (ci 0, 8, .inl (nF (o.2 1)))), (a3, .inl (ci 0, 8, .inl (nF (o.2 2))))] := by
  refine ct_v (cc := b_U_append) (maxL := 4) (by decide) rfl (by decide) (fun p9 e9 s9 m9 args9 be9 me9 c9 A9 Q9 ls H0 hx hb hml hts hown hK hN hl hP hD hS hA kR => ?_)
  replace hl : lv_has ls 4 [(0, .ref a0), (1, .int (nI x)), (2, .int (nI y)), (3, .int (nI z))] := hl
  replace hP : va_P D vwCl [(a0, .inr (4, [.ref a1, .ref a2, .ref a3, .int (nI (u.1 3))])), (a1, .inl (ci 0, 8, .inl (nF (u.2 0)))), (a2, .inl (ci 0, 8, .inl (nF (u.2 1)))), (a3, .inl (ci 0, 8, .inl (nF (u.2 2))))] H0 := hP
  replace hD : va_D A9 [(a0, .inr (4, [.ref a1, .ref a2, .ref a3, .int (nI (u.1 3))])), (a1, .inl (ci 0, 8, .inl (nF (u.2 0)))), (a2, .inl (ci 0, 8, .inl (nF (u.2 1)))), (a3, .inl (ci 0, 8, .inl (nF (u.2 2))))] := hD
  replace hown : s9.vm.findClass R_U = some m9.cls := hown
  have hT : ∀ w ∈ lw_ok, w.before args9 s9 = true := fun w h => hts w (List.mem_cons_of_mem _ h)
  rw [fU_append] at hF
  generalize hH : H0 = H at hP ⊢
  replace hS : va_S A9 H0 H [] := by rw [← hH]; exact hS
  clear hH
  generalize ([] : List Loc) = locs at hS ⊢
  refine lv_aload_n hx hb d_U_append_0 rfl (lv_at hl 0 rfl) ?_
  obtain ⟨r1, g2, hF⟩ := ob_s hF
  refine ln_goi (va_runV (As := []) (rest := []) ⟨hx, hb, hml, hown, hT⟩ (cU_isFull l D ci a0 a1 a2 a3 u  _ g2 H.size) (cw_V 0 hT wd_204 wd_4 wd_199 wd_197 wd_198 (by decide +kernel) (by decide) (by decide)) (ln_preV 0 hK hN hP rfl rfl (hP.subM [0, 1, 2, 3] rfl) (hD.sub [0, 1, 2, 3] (by decide) rfl)) rfl rfl hl.1 rfl (lv_room (Nat.le_of_ble_eq_true rfl)) d_U_append_1 ⟨Nat.zero_le _, Nat.zero_le _⟩) hP hD hS hA [0, 1, 2, 3] [] [0, 1, 2, 3] rfl rfl rfl (by decide) (by decide) (wn := [(a0, .inr (4, [.ref a1, .ref a2, .ref a3, .int (nI (u.1 3))])), (a1, .inl (ci 0, 8, .inl (nF (u.2 0)))), (a2, .inl (ci 0, 8, .inl (nF (u.2 1)))), (a3, .inl (ci 0, 8, .inl (nF (u.2 2))))]) rfl (by decide) (fun H locs hP hD hS => ?_)
  obtain ⟨b3, hF⟩ := ss_s hF
  refine ln_if_eq hx hb b3 8 d_U_append_4 (by decide) (fun h4 => ?_) (fun h4 => ?_)
  · have hF := it_p hF h4
    refine lv_aload_n hx hb d_U_append_8 rfl (lv_at hl 0 rfl) ?_
    refine va_get (D := D) (ci := 4) (v := .ref a1) (C := R_U) (T := F_U) (N := 4) hx hb hT in_U hown hK hP 0 rfl rfl 0 (by decide) (hT _ wd_36) (fun _ h9 => h9) rfl d_U_append_9 ?_
    refine lv_aload_n hx hb d_U_append_12 rfl (lv_at hl 0 rfl) ?_
    refine va_get (D := D) (ci := 4) (v := .int (nI (u.1 3))) (C := R_U) (T := F_U) (N := 4) hx hb hT in_U hown hK hP 0 rfl rfl 3 (by decide) (hT _ wd_39) (fun _ h9 => h9) rfl d_U_append_13 ?_
    refine lv_iload_n hx hb d_U_append_16 rfl (lv_at hl 1 rfl) ?_
    obtain ⟨b5, hF⟩ := ss_s hF
    refine ln_ast hx hb hK hP hD hS 1 0 rfl rfl b5 (by decide) d_U_append_17 (fun H locs hP hD hS => ?_)
    replace hP : va_P D vwCl [(a0, .inr (4, [.ref a1, .ref a2, .ref a3, .int (nI (u.1 3))])), (a1, .inl (ci 0, 8, .inl (nF (va_up (u.2 0) (u.1 3) x)))), (a2, .inl (ci 0, 8, .inl (nF (u.2 1)))), (a3, .inl (ci 0, 8, .inl (nF (u.2 2))))] H := hP
    replace hD : va_D A9 [(a0, .inr (4, [.ref a1, .ref a2, .ref a3, .int (nI (u.1 3))])), (a1, .inl (ci 0, 8, .inl (nF (va_up (u.2 0) (u.1 3) x)))), (a2, .inl (ci 0, 8, .inl (nF (u.2 1)))), (a3, .inl (ci 0, 8, .inl (nF (u.2 2))))] := hD
    refine lv_aload_n hx hb d_U_append_18 rfl (lv_at hl 0 rfl) ?_
    refine va_get (D := D) (ci := 4) (v := .ref a2) (C := R_U) (T := F_U) (N := 4) hx hb hT in_U hown hK hP 0 rfl rfl 1 (by decide) (hT _ wd_37) (fun _ h9 => h9) rfl d_U_append_19 ?_
    refine lv_aload_n hx hb d_U_append_22 rfl (lv_at hl 0 rfl) ?_
    refine va_get (D := D) (ci := 4) (v := .int (nI (u.1 3))) (C := R_U) (T := F_U) (N := 4) hx hb hT in_U hown hK hP 0 rfl rfl 3 (by decide) (hT _ wd_39) (fun _ h9 => h9) rfl d_U_append_23 ?_
    refine lv_iload_n hx hb d_U_append_26 rfl (lv_at hl 2 rfl) ?_
    refine ln_ast hx hb hK hP hD hS 2 0 rfl rfl b5 (by decide) d_U_append_27 (fun H locs hP hD hS => ?_)
    replace hP : va_P D vwCl [(a0, .inr (4, [.ref a1, .ref a2, .ref a3, .int (nI (u.1 3))])), (a1, .inl (ci 0, 8, .inl (nF (va_up (u.2 0) (u.1 3) x)))), (a2, .inl (ci 0, 8, .inl (nF (va_up (u.2 1) (u.1 3) y)))), (a3, .inl (ci 0, 8, .inl (nF (u.2 2))))] H := hP
    replace hD : va_D A9 [(a0, .inr (4, [.ref a1, .ref a2, .ref a3, .int (nI (u.1 3))])), (a1, .inl (ci 0, 8, .inl (nF (va_up (u.2 0) (u.1 3) x)))), (a2, .inl (ci 0, 8, .inl (nF (va_up (u.2 1) (u.1 3) y)))), (a3, .inl (ci 0, 8, .inl (nF (u.2 2))))] := hD
    refine lv_aload_n hx hb d_U_append_28 rfl (lv_at hl 0 rfl) ?_
    refine va_get (D := D) (ci := 4) (v := .ref a3) (C := R_U) (T := F_U) (N := 4) hx hb hT in_U hown hK hP 0 rfl rfl 2 (by decide) (hT _ wd_38) (fun _ h9 => h9) rfl d_U_append_29 ?_
    refine lv_aload_n hx hb d_U_append_32 rfl (lv_at hl 0 rfl) ?_
    refine va_get (D := D) (ci := 4) (v := .int (nI (u.1 3))) (C := R_U) (T := F_U) (N := 4) hx hb hT in_U hown hK hP 0 rfl rfl 3 (by decide) (hT _ wd_39) (fun _ h9 => h9) rfl d_U_append_33 ?_
    refine lv_iload_n hx hb d_U_append_36 rfl (lv_at hl 3 rfl) ?_
    refine ln_ast hx hb hK hP hD hS 3 0 rfl rfl b5 (by decide) d_U_append_37 (fun H locs hP hD hS => ?_)
    replace hP : va_P D vwCl [(a0, .inr (4, [.ref a1, .ref a2, .ref a3, .int (nI (u.1 3))])), (a1, .inl (ci 0, 8, .inl (nF (va_up (u.2 0) (u.1 3) x)))), (a2, .inl (ci 0, 8, .inl (nF (va_up (u.2 1) (u.1 3) y)))), (a3, .inl (ci 0, 8, .inl (nF (va_up (u.2 2) (u.1 3) z))))] H := hP
    replace hD : va_D A9 [(a0, .inr (4, [.ref a1, .ref a2, .ref a3, .int (nI (u.1 3))])), (a1, .inl (ci 0, 8, .inl (nF (va_up (u.2 0) (u.1 3) x)))), (a2, .inl (ci 0, 8, .inl (nF (va_up (u.2 1) (u.1 3) y)))), (a3, .inl (ci 0, 8, .inl (nF (va_up (u.2 2) (u.1 3) z))))] := hD
    refine lv_aload_n hx hb d_U_append_38 rfl (lv_at hl 0 rfl) ?_
    refine lv_dup hx hb d_U_append_39 rfl ?_
    refine va_get (D := D) (ci := 4) (v := .int (nI (u.1 3))) (C := R_U) (T := F_U) (N := 4) hx hb hT in_U hown hK hP 0 rfl rfl 3 (by decide) (hT _ wd_39) (fun _ h9 => h9) rfl d_U_append_40 ?_
    refine lv_iconst (v := nI 1) hx hb d_U_append_43 (by decide) ?_
    refine ln_iadd hx hb d_U_append_44 ?_
    refine va_put (D := D) (ci := 4) (v := .int (nI ((u.1 3) + 1))) (ty := .int) (C := R_U) (T := F_U) (N := 4) hx hb hT in_U t_U ty_U nm_U hown hK hP hD hS 0 rfl rfl 3 (by decide) (hT _ wd_39) (fun _ h9 => h9) rfl (by decide +kernel) rfl rfl (Nat.le_of_ble_eq_true rfl) d_U_append_45 (fun H locs hP hD hS => ?_)
    replace hP : va_P D vwCl [(a0, .inr (4, [.ref a1, .ref a2, .ref a3, .int (nI ((u.1 3) + 1))])), (a1, .inl (ci 0, 8, .inl (nF (va_up (u.2 0) (u.1 3) x)))), (a2, .inl (ci 0, 8, .inl (nF (va_up (u.2 1) (u.1 3) y)))), (a3, .inl (ci 0, 8, .inl (nF (va_up (u.2 2) (u.1 3) z))))] H := hP
    replace hD : va_D A9 [(a0, .inr (4, [.ref a1, .ref a2, .ref a3, .int (nI ((u.1 3) + 1))])), (a1, .inl (ci 0, 8, .inl (nF (va_up (u.2 0) (u.1 3) x)))), (a2, .inl (ci 0, 8, .inl (nF (va_up (u.2 1) (u.1 3) y)))), (a3, .inl (ci 0, 8, .inl (nF (va_up (u.2 2) (u.1 3) z))))] := hD
    obtain rfl := Option.some.inj hF
    exact kR _ _ _ _ d_U_append_48 hP hD hS
  · have hF := it_n hF h4
    obtain rfl := Option.some.inj hF
    exact kR _ _ _ _ d_U_append_7 hP hD hS
def fU_firstSize (u : ST)  : Option (Nat) := some ((u.2 0) 0)
abbrev rm_U_firstSize : Room := { frames := 0, cells := 0, slots := 0, locals := 0 }
set_option maxHeartbeats 4000000 in
set_option maxRecDepth 100000 in
theorem cU_firstSize (l : Launch) (D : va_G) (ci : Nat → ClassId) (a0 : Nat) (a1 : Nat) (a2 : Nat) (a3 : Nat) (u : ST)  (o : Nat) (hF : fU_firstSize u = some o) : CtI l y_U_firstSize w_U_firstSize rm_U_firstSize D vwCl (tyC ci) [.ref a0] [(a0, .inr (4, [.ref a1, .ref a2, .ref a3, .int (nI (u.1 3))])), (a1, .inl (ci 0, 8, .inl (nF (u.2 0)))), (a2, .inl (ci 0, 8, .inl (nF (u.2 1)))), (a3, .inl (ci 0, 8, .inl (nF (u.2 2))))] (nI o) [(a0, .inr (4, [.ref a1, .ref a2, .ref a3, .int (nI (u.1 3))])), (a1, .inl (ci 0, 8, .inl (nF (u.2 0)))), (a2, .inl (ci 0, 8, .inl (nF (u.2 1)))), (a3, .inl (ci 0, 8, .inl (nF (u.2 2))))] := by
  refine ct_i (cc := b_U_firstSize) (maxL := 1) (by decide) rfl (by decide) (fun p9 e9 s9 m9 args9 be9 me9 c9 A9 Q9 ls H0 hx hb hml hts hown hK hN hl hP hD hS hA kR => ?_)
  replace hl : lv_has ls 1 [(0, .ref a0)] := hl
  replace hP : va_P D vwCl [(a0, .inr (4, [.ref a1, .ref a2, .ref a3, .int (nI (u.1 3))])), (a1, .inl (ci 0, 8, .inl (nF (u.2 0)))), (a2, .inl (ci 0, 8, .inl (nF (u.2 1)))), (a3, .inl (ci 0, 8, .inl (nF (u.2 2))))] H0 := hP
  replace hD : va_D A9 [(a0, .inr (4, [.ref a1, .ref a2, .ref a3, .int (nI (u.1 3))])), (a1, .inl (ci 0, 8, .inl (nF (u.2 0)))), (a2, .inl (ci 0, 8, .inl (nF (u.2 1)))), (a3, .inl (ci 0, 8, .inl (nF (u.2 2))))] := hD
  replace hown : s9.vm.findClass R_U = some m9.cls := hown
  have hT : ∀ w ∈ lw_ok, w.before args9 s9 = true := fun w h => hts w (List.mem_cons_of_mem _ h)
  rw [fU_firstSize] at hF
  generalize hH : H0 = H at hP ⊢
  replace hS : va_S A9 H0 H [] := by rw [← hH]; exact hS
  clear hH
  generalize ([] : List Loc) = locs at hS ⊢
  refine lv_aload_n hx hb d_U_firstSize_0 rfl (lv_at hl 0 rfl) ?_
  refine va_get (D := D) (ci := 4) (v := .ref a1) (C := R_U) (T := F_U) (N := 4) hx hb hT in_U hown hK hP 0 rfl rfl 0 (by decide) (hT _ wd_36) (fun _ h9 => h9) rfl d_U_firstSize_1 ?_
  refine lv_iconst (v := nI 0) hx hb d_U_firstSize_4 (by decide) ?_
  refine ln_ald hx hb hK hP 1 0 rfl rfl (by decide) (by decide) d_U_firstSize_5 ?_
  obtain rfl := Option.some.inj hF
  exact kR _ _ _ _ d_U_firstSize_6 rfl hP hD hS
def fU_firstDue (u : ST)  : Option (Nat) := some ((u.2 1) 0)
abbrev rm_U_firstDue : Room := { frames := 0, cells := 0, slots := 0, locals := 0 }
set_option maxHeartbeats 4000000 in
set_option maxRecDepth 100000 in
theorem cU_firstDue (l : Launch) (D : va_G) (ci : Nat → ClassId) (a0 : Nat) (a1 : Nat) (a2 : Nat) (a3 : Nat) (u : ST)  (o : Nat) (hF : fU_firstDue u = some o) : CtI l y_U_firstDue w_U_firstDue rm_U_firstDue D vwCl (tyC ci) [.ref a0] [(a0, .inr (4, [.ref a1, .ref a2, .ref a3, .int (nI (u.1 3))])), (a1, .inl (ci 0, 8, .inl (nF (u.2 0)))), (a2, .inl (ci 0, 8, .inl (nF (u.2 1)))), (a3, .inl (ci 0, 8, .inl (nF (u.2 2))))] (nI o) [(a0, .inr (4, [.ref a1, .ref a2, .ref a3, .int (nI (u.1 3))])), (a1, .inl (ci 0, 8, .inl (nF (u.2 0)))), (a2, .inl (ci 0, 8, .inl (nF (u.2 1)))), (a3, .inl (ci 0, 8, .inl (nF (u.2 2))))] := by
  refine ct_i (cc := b_U_firstDue) (maxL := 1) (by decide) rfl (by decide) (fun p9 e9 s9 m9 args9 be9 me9 c9 A9 Q9 ls H0 hx hb hml hts hown hK hN hl hP hD hS hA kR => ?_)
  replace hl : lv_has ls 1 [(0, .ref a0)] := hl
  replace hP : va_P D vwCl [(a0, .inr (4, [.ref a1, .ref a2, .ref a3, .int (nI (u.1 3))])), (a1, .inl (ci 0, 8, .inl (nF (u.2 0)))), (a2, .inl (ci 0, 8, .inl (nF (u.2 1)))), (a3, .inl (ci 0, 8, .inl (nF (u.2 2))))] H0 := hP
  replace hD : va_D A9 [(a0, .inr (4, [.ref a1, .ref a2, .ref a3, .int (nI (u.1 3))])), (a1, .inl (ci 0, 8, .inl (nF (u.2 0)))), (a2, .inl (ci 0, 8, .inl (nF (u.2 1)))), (a3, .inl (ci 0, 8, .inl (nF (u.2 2))))] := hD
  replace hown : s9.vm.findClass R_U = some m9.cls := hown
  have hT : ∀ w ∈ lw_ok, w.before args9 s9 = true := fun w h => hts w (List.mem_cons_of_mem _ h)
  rw [fU_firstDue] at hF
  generalize hH : H0 = H at hP ⊢
  replace hS : va_S A9 H0 H [] := by rw [← hH]; exact hS
  clear hH
  generalize ([] : List Loc) = locs at hS ⊢
  refine lv_aload_n hx hb d_U_firstDue_0 rfl (lv_at hl 0 rfl) ?_
  refine va_get (D := D) (ci := 4) (v := .ref a2) (C := R_U) (T := F_U) (N := 4) hx hb hT in_U hown hK hP 0 rfl rfl 1 (by decide) (hT _ wd_37) (fun _ h9 => h9) rfl d_U_firstDue_1 ?_
  refine lv_iconst (v := nI 0) hx hb d_U_firstDue_4 (by decide) ?_
  refine ln_ald hx hb hK hP 2 0 rfl rfl (by decide) (by decide) d_U_firstDue_5 ?_
  obtain rfl := Option.some.inj hF
  exact kR _ _ _ _ d_U_firstDue_6 rfl hP hD hS
def fU_firstSeed (u : ST)  : Option (Nat) := some ((u.2 2) 0)
abbrev rm_U_firstSeed : Room := { frames := 0, cells := 0, slots := 0, locals := 0 }
set_option maxHeartbeats 4000000 in
set_option maxRecDepth 100000 in
theorem cU_firstSeed (l : Launch) (D : va_G) (ci : Nat → ClassId) (a0 : Nat) (a1 : Nat) (a2 : Nat) (a3 : Nat) (u : ST)  (o : Nat) (hF : fU_firstSeed u = some o) : CtI l y_U_firstSeed w_U_firstSeed rm_U_firstSeed D vwCl (tyC ci) [.ref a0] [(a0, .inr (4, [.ref a1, .ref a2, .ref a3, .int (nI (u.1 3))])), (a1, .inl (ci 0, 8, .inl (nF (u.2 0)))), (a2, .inl (ci 0, 8, .inl (nF (u.2 1)))), (a3, .inl (ci 0, 8, .inl (nF (u.2 2))))] (nI o) [(a0, .inr (4, [.ref a1, .ref a2, .ref a3, .int (nI (u.1 3))])), (a1, .inl (ci 0, 8, .inl (nF (u.2 0)))), (a2, .inl (ci 0, 8, .inl (nF (u.2 1)))), (a3, .inl (ci 0, 8, .inl (nF (u.2 2))))] := by
  refine ct_i (cc := b_U_firstSeed) (maxL := 1) (by decide) rfl (by decide) (fun p9 e9 s9 m9 args9 be9 me9 c9 A9 Q9 ls H0 hx hb hml hts hown hK hN hl hP hD hS hA kR => ?_)
  replace hl : lv_has ls 1 [(0, .ref a0)] := hl
  replace hP : va_P D vwCl [(a0, .inr (4, [.ref a1, .ref a2, .ref a3, .int (nI (u.1 3))])), (a1, .inl (ci 0, 8, .inl (nF (u.2 0)))), (a2, .inl (ci 0, 8, .inl (nF (u.2 1)))), (a3, .inl (ci 0, 8, .inl (nF (u.2 2))))] H0 := hP
  replace hD : va_D A9 [(a0, .inr (4, [.ref a1, .ref a2, .ref a3, .int (nI (u.1 3))])), (a1, .inl (ci 0, 8, .inl (nF (u.2 0)))), (a2, .inl (ci 0, 8, .inl (nF (u.2 1)))), (a3, .inl (ci 0, 8, .inl (nF (u.2 2))))] := hD
  replace hown : s9.vm.findClass R_U = some m9.cls := hown
  have hT : ∀ w ∈ lw_ok, w.before args9 s9 = true := fun w h => hts w (List.mem_cons_of_mem _ h)
  rw [fU_firstSeed] at hF
  generalize hH : H0 = H at hP ⊢
  replace hS : va_S A9 H0 H [] := by rw [← hH]; exact hS
  clear hH
  generalize ([] : List Loc) = locs at hS ⊢
  refine lv_aload_n hx hb d_U_firstSeed_0 rfl (lv_at hl 0 rfl) ?_
  refine va_get (D := D) (ci := 4) (v := .ref a3) (C := R_U) (T := F_U) (N := 4) hx hb hT in_U hown hK hP 0 rfl rfl 2 (by decide) (hT _ wd_38) (fun _ h9 => h9) rfl d_U_firstSeed_1 ?_
  refine lv_iconst (v := nI 0) hx hb d_U_firstSeed_4 (by decide) ?_
  refine ln_ald hx hb hK hP 3 0 rfl rfl (by decide) (by decide) d_U_firstSeed_5 ?_
  obtain rfl := Option.some.inj hF
  exact kR _ _ _ _ d_U_firstSeed_6 rfl hP hD hS
def fU_isFirstDueAt (u : ST) (t : Nat) : Option (Nat) := ob (fU_isEmpty u) (fun r1 => ss (r1 < 2147483648) ((if ¬ r1 = 0 then some 0 else ss (((u.2 1) 0) < 2147483648) (ss (t < 2147483648) ((if ¬ ((u.2 1) 0) = t then some 0 else some 1))))))
abbrev rm_U_isFirstDueAt : Room := { frames := 1, cells := 0, slots := 0, locals := 20 }
set_option maxHeartbeats 4000000 in
set_option maxRecDepth 100000 in
theorem cU_isFirstDueAt (l : Launch) (D : va_G) (ci : Nat → ClassId) (a0 : Nat) (a1 : Nat) (a2 : Nat) (a3 : Nat) (u : ST) (t : Nat) (o : Nat) (hF : fU_isFirstDueAt u t = some o) : CtI l y_U_isFirstDueAt w_U_isFirstDueAt rm_U_isFirstDueAt D vwCl (tyC ci) [.ref a0, .int (nI t)] [(a0, .inr (4, [.ref a1, .ref a2, .ref a3, .int (nI (u.1 3))])), (a1, .inl (ci 0, 8, .inl (nF (u.2 0)))), (a2, .inl (ci 0, 8, .inl (nF (u.2 1)))), (a3, .inl (ci 0, 8, .inl (nF (u.2 2))))] (nI o) [(a0, .inr (4, [.ref a1, .ref a2, .ref a3, .int (nI (u.1 3))])), (a1, .inl (ci 0, 8, .inl (nF (u.2 0)))), (a2, .inl (ci 0, 8, .inl (nF (u.2 1)))), (a3, .inl (ci 0, 8, .inl (nF (u.2 2))))] := by
  refine ct_i (cc := b_U_isFirstDueAt) (maxL := 2) (by decide) rfl (by decide) (fun p9 e9 s9 m9 args9 be9 me9 c9 A9 Q9 ls H0 hx hb hml hts hown hK hN hl hP hD hS hA kR => ?_)
  replace hl : lv_has ls 2 [(0, .ref a0), (1, .int (nI t))] := hl
  replace hP : va_P D vwCl [(a0, .inr (4, [.ref a1, .ref a2, .ref a3, .int (nI (u.1 3))])), (a1, .inl (ci 0, 8, .inl (nF (u.2 0)))), (a2, .inl (ci 0, 8, .inl (nF (u.2 1)))), (a3, .inl (ci 0, 8, .inl (nF (u.2 2))))] H0 := hP
  replace hD : va_D A9 [(a0, .inr (4, [.ref a1, .ref a2, .ref a3, .int (nI (u.1 3))])), (a1, .inl (ci 0, 8, .inl (nF (u.2 0)))), (a2, .inl (ci 0, 8, .inl (nF (u.2 1)))), (a3, .inl (ci 0, 8, .inl (nF (u.2 2))))] := hD
  replace hown : s9.vm.findClass R_U = some m9.cls := hown
  have hT : ∀ w ∈ lw_ok, w.before args9 s9 = true := fun w h => hts w (List.mem_cons_of_mem _ h)
  rw [fU_isFirstDueAt] at hF
  generalize hH : H0 = H at hP ⊢
  replace hS : va_S A9 H0 H [] := by rw [← hH]; exact hS
  clear hH
  generalize ([] : List Loc) = locs at hS ⊢
  refine lv_aload_n hx hb d_U_isFirstDueAt_0 rfl (lv_at hl 0 rfl) ?_
  obtain ⟨r1, g2, hF⟩ := ob_s hF
  refine ln_goi (va_runV (As := []) (rest := []) ⟨hx, hb, hml, hown, hT⟩ (cU_isEmpty l D ci a0 a1 a2 a3 u  _ g2 H.size) (cw_V 0 hT wd_222 wd_4 wd_225 wd_223 wd_224 (by decide +kernel) (by decide) (by decide)) (ln_preV 0 hK hN hP rfl rfl (hP.subM [0, 1, 2, 3] rfl) (hD.sub [0, 1, 2, 3] (by decide) rfl)) rfl rfl hl.1 rfl (lv_room (Nat.le_of_ble_eq_true rfl)) d_U_isFirstDueAt_1 ⟨Nat.zero_le _, Nat.zero_le _⟩) hP hD hS hA [0, 1, 2, 3] [] [0, 1, 2, 3] rfl rfl rfl (by decide) (by decide) (wn := [(a0, .inr (4, [.ref a1, .ref a2, .ref a3, .int (nI (u.1 3))])), (a1, .inl (ci 0, 8, .inl (nF (u.2 0)))), (a2, .inl (ci 0, 8, .inl (nF (u.2 1)))), (a3, .inl (ci 0, 8, .inl (nF (u.2 2))))]) rfl (by decide) (fun H locs hP hD hS => ?_)
  obtain ⟨b3, hF⟩ := ss_s hF
  refine ln_if_ne hx hb b3 21 d_U_isFirstDueAt_4 (by decide) (fun h4 => ?_) (fun h4 => ?_)
  · have hF := it_p hF h4
    refine lv_iconst (v := nI 0) hx hb d_U_isFirstDueAt_21 (by decide) ?_
    obtain rfl := Option.some.inj hF
    exact kR _ _ _ _ d_U_isFirstDueAt_22 (by decide) hP hD hS
  · have hF := it_n hF h4
    refine lv_aload_n hx hb d_U_isFirstDueAt_7 rfl (lv_at hl 0 rfl) ?_
    refine va_get (D := D) (ci := 4) (v := .ref a2) (C := R_U) (T := F_U) (N := 4) hx hb hT in_U hown hK hP 0 rfl rfl 1 (by decide) (hT _ wd_37) (fun _ h9 => h9) rfl d_U_isFirstDueAt_8 ?_
    refine lv_iconst (v := nI 0) hx hb d_U_isFirstDueAt_11 (by decide) ?_
    refine ln_ald hx hb hK hP 2 0 rfl rfl (by decide) (by decide) d_U_isFirstDueAt_12 ?_
    refine lv_iload_n hx hb d_U_isFirstDueAt_13 rfl (lv_at hl 1 rfl) ?_
    obtain ⟨b5, hF⟩ := ss_s hF
    obtain ⟨b6, hF⟩ := ss_s hF
    refine ln_icmp_ne hx hb b5 b6 21 d_U_isFirstDueAt_14 (by decide) (fun h7 => ?_) (fun h7 => ?_)
    · have hF := it_p hF h7
      refine lv_iconst (v := nI 0) hx hb d_U_isFirstDueAt_21 (by decide) ?_
      obtain rfl := Option.some.inj hF
      exact kR _ _ _ _ d_U_isFirstDueAt_22 (by decide) hP hD hS
    · have hF := it_n hF h7
      refine lv_iconst (v := nI 1) hx hb d_U_isFirstDueAt_17 (by decide) ?_
      refine lv_goto (tgt := 22) hx hb d_U_isFirstDueAt_18 (by decide) ?_
      obtain rfl := Option.some.inj hF
      exact kR _ _ _ _ d_U_isFirstDueAt_22 (by decide) hP hD hS
def fU_dropFirst_L20  : Nat → Nat → ST → Option (Nat × ST)
  | 0, _, _ => none
  | fu + 1, i6, u7 => ss (i6 < 2147483648) (ss ((u7.1 3) < 2147483648) ((if (u7.1 3) ≤ i6 then some (i6, u7) else ss ((i6 + 1) < 8) (ss (i6 < 8) (fU_dropFirst_L20 fu (i6 + 1) (sA (sA (sA u7 0 (va_up (u7.2 0) i6 ((u7.2 0) (i6 + 1)))) 1 (va_up (u7.2 1) i6 ((u7.2 1) (i6 + 1)))) 2 (va_up (u7.2 2) i6 ((u7.2 2) (i6 + 1)))))))))
def fU_dropFirst (u : ST)  : Option (ST) := ob (fU_isEmpty u) (fun r1 => ss (r1 < 2147483648) ((if r1 = 0 then ss (1 ≤ (u.1 3)) (ob (fU_dropFirst_L20  100 0 (sI u 3 ((u.1 3) - 1))) (fun o8 => some o8.2)) else some u)))
abbrev rm_U_dropFirst : Room := { frames := 1, cells := 0, slots := 0, locals := 20 }
set_option maxHeartbeats 4000000 in
set_option maxRecDepth 100000 in
theorem cU_dropFirst (l : Launch) (D : va_G) (ci : Nat → ClassId) (a0 : Nat) (a1 : Nat) (a2 : Nat) (a3 : Nat) (u : ST)  (o : ST) (hF : fU_dropFirst u = some o) : CtV l y_U_dropFirst w_U_dropFirst rm_U_dropFirst D vwCl (tyC ci) [.ref a0] [(a0, .inr (4, [.ref a1, .ref a2, .ref a3, .int (nI (u.1 3))])), (a1, .inl (ci 0, 8, .inl (nF (u.2 0)))), (a2, .inl (ci 0, 8, .inl (nF (u.2 1)))), (a3, .inl (ci 0, 8, .inl (nF (u.2 2))))] [(a0, .inr (4, [.ref a1, .ref a2, .ref a3, .int (nI (o.1 3))])), (a1, .inl (ci 0, 8, .inl (nF (o.2 0)))), (a2, .inl (ci 0, 8, .inl (nF (o.2 1)))), (a3, .inl (ci 0, 8, .inl (nF (o.2 2))))] := by
  refine ct_v (cc := b_U_dropFirst) (maxL := 2) (by decide) rfl (by decide) (fun p9 e9 s9 m9 args9 be9 me9 c9 A9 Q9 ls H0 hx hb hml hts hown hK hN hl hP hD hS hA kR => ?_)
  replace hl : lv_has ls 2 [(0, .ref a0)] := hl
  replace hP : va_P D vwCl [(a0, .inr (4, [.ref a1, .ref a2, .ref a3, .int (nI (u.1 3))])), (a1, .inl (ci 0, 8, .inl (nF (u.2 0)))), (a2, .inl (ci 0, 8, .inl (nF (u.2 1)))), (a3, .inl (ci 0, 8, .inl (nF (u.2 2))))] H0 := hP
  replace hD : va_D A9 [(a0, .inr (4, [.ref a1, .ref a2, .ref a3, .int (nI (u.1 3))])), (a1, .inl (ci 0, 8, .inl (nF (u.2 0)))), (a2, .inl (ci 0, 8, .inl (nF (u.2 1)))), (a3, .inl (ci 0, 8, .inl (nF (u.2 2))))] := hD
  replace hown : s9.vm.findClass R_U = some m9.cls := hown
  have hT : ∀ w ∈ lw_ok, w.before args9 s9 = true := fun w h => hts w (List.mem_cons_of_mem _ h)
  rw [fU_dropFirst] at hF
  generalize hH : H0 = H at hP ⊢
  replace hS : va_S A9 H0 H [] := by rw [← hH]; exact hS
  clear hH
  generalize ([] : List Loc) = locs at hS ⊢
  refine lv_aload_n hx hb d_U_dropFirst_0 rfl (lv_at hl 0 rfl) ?_
  obtain ⟨r1, g2, hF⟩ := ob_s hF
  refine ln_goi (va_runV (As := []) (rest := []) ⟨hx, hb, hml, hown, hT⟩ (cU_isEmpty l D ci a0 a1 a2 a3 u  _ g2 H.size) (cw_V 0 hT wd_222 wd_4 wd_225 wd_223 wd_224 (by decide +kernel) (by decide) (by decide)) (ln_preV 0 hK hN hP rfl rfl (hP.subM [0, 1, 2, 3] rfl) (hD.sub [0, 1, 2, 3] (by decide) rfl)) rfl rfl hl.1 rfl (lv_room (Nat.le_of_ble_eq_true rfl)) d_U_dropFirst_1 ⟨Nat.zero_le _, Nat.zero_le _⟩) hP hD hS hA [0, 1, 2, 3] [] [0, 1, 2, 3] rfl rfl rfl (by decide) (by decide) (wn := [(a0, .inr (4, [.ref a1, .ref a2, .ref a3, .int (nI (u.1 3))])), (a1, .inl (ci 0, 8, .inl (nF (u.2 0)))), (a2, .inl (ci 0, 8, .inl (nF (u.2 1)))), (a3, .inl (ci 0, 8, .inl (nF (u.2 2))))]) rfl (by decide) (fun H locs hP hD hS => ?_)
  obtain ⟨b3, hF⟩ := ss_s hF
  refine ln_if_eq hx hb b3 8 d_U_dropFirst_4 (by decide) (fun h4 => ?_) (fun h4 => ?_)
  · have hF := it_p hF h4
    refine lv_aload_n hx hb d_U_dropFirst_8 rfl (lv_at hl 0 rfl) ?_
    refine lv_dup hx hb d_U_dropFirst_9 rfl ?_
    refine va_get (D := D) (ci := 4) (v := .int (nI (u.1 3))) (C := R_U) (T := F_U) (N := 4) hx hb hT in_U hown hK hP 0 rfl rfl 3 (by decide) (hT _ wd_39) (fun _ h9 => h9) rfl d_U_dropFirst_10 ?_
    refine lv_iconst (v := nI 1) hx hb d_U_dropFirst_13 (by decide) ?_
    obtain ⟨b5, hF⟩ := ss_s hF
    refine ln_isub hx hb b5 d_U_dropFirst_14 ?_
    refine va_put (D := D) (ci := 4) (v := .int (nI ((u.1 3) - 1))) (ty := .int) (C := R_U) (T := F_U) (N := 4) hx hb hT in_U t_U ty_U nm_U hown hK hP hD hS 0 rfl rfl 3 (by decide) (hT _ wd_39) (fun _ h9 => h9) rfl (by decide +kernel) rfl rfl (Nat.le_of_ble_eq_true rfl) d_U_dropFirst_15 (fun H locs hP hD hS => ?_)
    replace hP : va_P D vwCl [(a0, .inr (4, [.ref a1, .ref a2, .ref a3, .int (nI ((u.1 3) - 1))])), (a1, .inl (ci 0, 8, .inl (nF (u.2 0)))), (a2, .inl (ci 0, 8, .inl (nF (u.2 1)))), (a3, .inl (ci 0, 8, .inl (nF (u.2 2))))] H := hP
    replace hD : va_D A9 [(a0, .inr (4, [.ref a1, .ref a2, .ref a3, .int (nI ((u.1 3) - 1))])), (a1, .inl (ci 0, 8, .inl (nF (u.2 0)))), (a2, .inl (ci 0, 8, .inl (nF (u.2 1)))), (a3, .inl (ci 0, 8, .inl (nF (u.2 2))))] := hD
    refine lv_iconst (v := nI 0) hx hb d_U_dropFirst_18 (by decide) ?_
    refine lv_istore_n hx hb d_U_dropFirst_19 rfl hl (by decide) rfl (fun ls hl => ?_)
    replace hl : lv_has ls 2 [(1, .int (nI 0)), (0, .ref a0)] := hl
    have L16 : ∀ (fu : Nat) (i6 : Nat) (u7 : ST) (o8 : Nat × ST) (ls : Array Slot) (H : Heap) (locs : List Loc), fU_dropFirst_L20  fu i6 u7 = some o8 → lv_has ls 2 [(0, .ref a0), (1, .int (nI i6))] → va_P D vwCl [(a0, .inr (4, [.ref a1, .ref a2, .ref a3, .int (nI (u7.1 3))])), (a1, .inl (ci 0, 8, .inl (nF (u7.2 0)))), (a2, .inl (ci 0, 8, .inl (nF (u7.2 1)))), (a3, .inl (ci 0, 8, .inl (nF (u7.2 2))))] H → va_D A9 [(a0, .inr (4, [.ref a1, .ref a2, .ref a3, .int (nI (u7.1 3))])), (a1, .inl (ci 0, 8, .inl (nF (u7.2 0)))), (a2, .inl (ci 0, 8, .inl (nF (u7.2 1)))), (a3, .inl (ci 0, 8, .inl (nF (u7.2 2))))] → va_S A9 H0 H locs → (∀ (ls : Array Slot) (H : Heap) (locs : List Loc), lv_has ls 2 [(0, .ref a0), (1, .int (nI o8.1))] → va_P D vwCl [(a0, .inr (4, [.ref a1, .ref a2, .ref a3, .int (nI (o8.2.1 3))])), (a1, .inl (ci 0, 8, .inl (nF (o8.2.2 0)))), (a2, .inl (ci 0, 8, .inl (nF (o8.2.2 1)))), (a3, .inl (ci 0, 8, .inl (nF (o8.2.2 2))))] H → va_D A9 [(a0, .inr (4, [.ref a1, .ref a2, .ref a3, .int (nI (o8.2.1 3))])), (a1, .inl (ci 0, 8, .inl (nF (o8.2.2 0)))), (a2, .inl (ci 0, 8, .inl (nF (o8.2.2 1)))), (a3, .inl (ci 0, 8, .inl (nF (o8.2.2 2))))] → va_S A9 H0 H locs → W p9 l e9 rm_U_dropFirst s9 m9 args9 be9 me9 c9 H locs 0 0 Q9 (F0 m9 76 ls [])) → W p9 l e9 rm_U_dropFirst s9 m9 args9 be9 me9 c9 H locs 0 0 Q9 (F0 m9 20 ls []) := by
      intro fu
      induction fu with
      | zero => intro i6 u7 o8 ls H locs hF; rw [fU_dropFirst_L20] at hF; cases hF
      | succ fu ih9 =>
        intro i6 u7 o8 ls H locs hF hl hP hD hS k10
        rw [fU_dropFirst_L20] at hF
        refine lv_iload_n hx hb d_U_dropFirst_20 rfl (lv_at hl 1 rfl) ?_
        refine lv_aload_n hx hb d_U_dropFirst_21 rfl (lv_at hl 0 rfl) ?_
        refine va_get (D := D) (ci := 4) (v := .int (nI (u7.1 3))) (C := R_U) (T := F_U) (N := 4) hx hb hT in_U hown hK hP 0 rfl rfl 3 (by decide) (hT _ wd_39) (fun _ h9 => h9) rfl d_U_dropFirst_22 ?_
        obtain ⟨b11, hF⟩ := ss_s hF
        obtain ⟨b12, hF⟩ := ss_s hF
        refine ln_icmp_ge hx hb b11 b12 76 d_U_dropFirst_25 (by decide) (fun h13 => ?_) (fun h13 => ?_)
        · have hF := it_p hF h13
          obtain rfl := Option.some.inj hF
          have hl := lv_sub hl [0, 1] rfl
          exact k10 _ _ _ hl hP hD hS
        · have hF := it_n hF h13
          refine lv_aload_n hx hb d_U_dropFirst_28 rfl (lv_at hl 0 rfl) ?_
          refine va_get (D := D) (ci := 4) (v := .ref a1) (C := R_U) (T := F_U) (N := 4) hx hb hT in_U hown hK hP 0 rfl rfl 0 (by decide) (hT _ wd_36) (fun _ h9 => h9) rfl d_U_dropFirst_29 ?_
          refine lv_iload_n hx hb d_U_dropFirst_32 rfl (lv_at hl 1 rfl) ?_
          refine lv_aload_n hx hb d_U_dropFirst_33 rfl (lv_at hl 0 rfl) ?_
          refine va_get (D := D) (ci := 4) (v := .ref a1) (C := R_U) (T := F_U) (N := 4) hx hb hT in_U hown hK hP 0 rfl rfl 0 (by decide) (hT _ wd_36) (fun _ h9 => h9) rfl d_U_dropFirst_34 ?_
          refine lv_iload_n hx hb d_U_dropFirst_37 rfl (lv_at hl 1 rfl) ?_
          refine lv_iconst (v := nI 1) hx hb d_U_dropFirst_38 (by decide) ?_
          refine ln_iadd hx hb d_U_dropFirst_39 ?_
          obtain ⟨b14, hF⟩ := ss_s hF
          refine ln_ald hx hb hK hP 1 0 rfl rfl b14 (by decide) d_U_dropFirst_40 ?_
          obtain ⟨b15, hF⟩ := ss_s hF
          refine ln_ast hx hb hK hP hD hS 1 0 rfl rfl b15 (by decide) d_U_dropFirst_41 (fun H locs hP hD hS => ?_)
          replace hP : va_P D vwCl [(a0, .inr (4, [.ref a1, .ref a2, .ref a3, .int (nI (u7.1 3))])), (a1, .inl (ci 0, 8, .inl (nF (va_up (u7.2 0) i6 ((u7.2 0) (i6 + 1)))))), (a2, .inl (ci 0, 8, .inl (nF (u7.2 1)))), (a3, .inl (ci 0, 8, .inl (nF (u7.2 2))))] H := hP
          replace hD : va_D A9 [(a0, .inr (4, [.ref a1, .ref a2, .ref a3, .int (nI (u7.1 3))])), (a1, .inl (ci 0, 8, .inl (nF (va_up (u7.2 0) i6 ((u7.2 0) (i6 + 1)))))), (a2, .inl (ci 0, 8, .inl (nF (u7.2 1)))), (a3, .inl (ci 0, 8, .inl (nF (u7.2 2))))] := hD
          refine lv_aload_n hx hb d_U_dropFirst_42 rfl (lv_at hl 0 rfl) ?_
          refine va_get (D := D) (ci := 4) (v := .ref a2) (C := R_U) (T := F_U) (N := 4) hx hb hT in_U hown hK hP 0 rfl rfl 1 (by decide) (hT _ wd_37) (fun _ h9 => h9) rfl d_U_dropFirst_43 ?_
          refine lv_iload_n hx hb d_U_dropFirst_46 rfl (lv_at hl 1 rfl) ?_
          refine lv_aload_n hx hb d_U_dropFirst_47 rfl (lv_at hl 0 rfl) ?_
          refine va_get (D := D) (ci := 4) (v := .ref a2) (C := R_U) (T := F_U) (N := 4) hx hb hT in_U hown hK hP 0 rfl rfl 1 (by decide) (hT _ wd_37) (fun _ h9 => h9) rfl d_U_dropFirst_48 ?_
          refine lv_iload_n hx hb d_U_dropFirst_51 rfl (lv_at hl 1 rfl) ?_
          refine lv_iconst (v := nI 1) hx hb d_U_dropFirst_52 (by decide) ?_
          refine ln_iadd hx hb d_U_dropFirst_53 ?_
          refine ln_ald hx hb hK hP 2 0 rfl rfl b14 (by decide) d_U_dropFirst_54 ?_
          refine ln_ast hx hb hK hP hD hS 2 0 rfl rfl b15 (by decide) d_U_dropFirst_55 (fun H locs hP hD hS => ?_)
          replace hP : va_P D vwCl [(a0, .inr (4, [.ref a1, .ref a2, .ref a3, .int (nI (u7.1 3))])), (a1, .inl (ci 0, 8, .inl (nF (va_up (u7.2 0) i6 ((u7.2 0) (i6 + 1)))))), (a2, .inl (ci 0, 8, .inl (nF (va_up (u7.2 1) i6 ((u7.2 1) (i6 + 1)))))), (a3, .inl (ci 0, 8, .inl (nF (u7.2 2))))] H := hP
          replace hD : va_D A9 [(a0, .inr (4, [.ref a1, .ref a2, .ref a3, .int (nI (u7.1 3))])), (a1, .inl (ci 0, 8, .inl (nF (va_up (u7.2 0) i6 ((u7.2 0) (i6 + 1)))))), (a2, .inl (ci 0, 8, .inl (nF (va_up (u7.2 1) i6 ((u7.2 1) (i6 + 1)))))), (a3, .inl (ci 0, 8, .inl (nF (u7.2 2))))] := hD
          refine lv_aload_n hx hb d_U_dropFirst_56 rfl (lv_at hl 0 rfl) ?_
          refine va_get (D := D) (ci := 4) (v := .ref a3) (C := R_U) (T := F_U) (N := 4) hx hb hT in_U hown hK hP 0 rfl rfl 2 (by decide) (hT _ wd_38) (fun _ h9 => h9) rfl d_U_dropFirst_57 ?_
          refine lv_iload_n hx hb d_U_dropFirst_60 rfl (lv_at hl 1 rfl) ?_
          refine lv_aload_n hx hb d_U_dropFirst_61 rfl (lv_at hl 0 rfl) ?_
          refine va_get (D := D) (ci := 4) (v := .ref a3) (C := R_U) (T := F_U) (N := 4) hx hb hT in_U hown hK hP 0 rfl rfl 2 (by decide) (hT _ wd_38) (fun _ h9 => h9) rfl d_U_dropFirst_62 ?_
          refine lv_iload_n hx hb d_U_dropFirst_65 rfl (lv_at hl 1 rfl) ?_
          refine lv_iconst (v := nI 1) hx hb d_U_dropFirst_66 (by decide) ?_
          refine ln_iadd hx hb d_U_dropFirst_67 ?_
          refine ln_ald hx hb hK hP 3 0 rfl rfl b14 (by decide) d_U_dropFirst_68 ?_
          refine ln_ast hx hb hK hP hD hS 3 0 rfl rfl b15 (by decide) d_U_dropFirst_69 (fun H locs hP hD hS => ?_)
          replace hP : va_P D vwCl [(a0, .inr (4, [.ref a1, .ref a2, .ref a3, .int (nI (u7.1 3))])), (a1, .inl (ci 0, 8, .inl (nF (va_up (u7.2 0) i6 ((u7.2 0) (i6 + 1)))))), (a2, .inl (ci 0, 8, .inl (nF (va_up (u7.2 1) i6 ((u7.2 1) (i6 + 1)))))), (a3, .inl (ci 0, 8, .inl (nF (va_up (u7.2 2) i6 ((u7.2 2) (i6 + 1))))))] H := hP
          replace hD : va_D A9 [(a0, .inr (4, [.ref a1, .ref a2, .ref a3, .int (nI (u7.1 3))])), (a1, .inl (ci 0, 8, .inl (nF (va_up (u7.2 0) i6 ((u7.2 0) (i6 + 1)))))), (a2, .inl (ci 0, 8, .inl (nF (va_up (u7.2 1) i6 ((u7.2 1) (i6 + 1)))))), (a3, .inl (ci 0, 8, .inl (nF (va_up (u7.2 2) i6 ((u7.2 2) (i6 + 1))))))] := hD
          refine ln_iinc (k := 1) (y := i6 + 1) hx hb d_U_dropFirst_70 hl rfl (nI_inc _) (by decide) rfl (fun ls hl => ?_)
          replace hl : lv_has ls 2 [(1, .int (nI (i6 + 1))), (0, .ref a0)] := hl
          refine lv_goto (tgt := 20) hx hb d_U_dropFirst_73 (by decide) ?_
          have hl := lv_sub hl [1, 0] rfl
          exact ih9 _ _ _ _ _ _ hF hl hP hD hS k10
    obtain ⟨o8, g17, hF⟩ := ob_s hF
    have hl := lv_sub hl [1, 0] rfl
    refine L16 _ _ _ _ _ _ _ g17 hl hP hD hS (fun ls H locs hl hP hD hS => ?_)
    obtain rfl := Option.some.inj hF
    exact kR _ _ _ _ d_U_dropFirst_76 hP hD hS
  · have hF := it_n hF h4
    obtain rfl := Option.some.inj hF
    exact kR _ _ _ _ d_U_dropFirst_7 hP hD hS
end
