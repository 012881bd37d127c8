section
-- ===== PART A: goes FIRST, ahead of the names: the tables' words, and 'selects' of the private methods out of them =====
/-- a private method of a class that the tables say can be made, by its rows of tables_1 -/
def lw_okq (q : MethodName × Nat) : Prop := (q.1.cls ≠ "java/lang/invoke/MethodHandle" ∧ q.1.cls ≠ "java/lang/invoke/VarHandle") ∧ Cond.instantiable q.1.cls q.2 ∈ tables_1 ∧ Cond.privateMethod q.1 ∈ tables_1 ∧ Cond.instanceMethod q.1 ∈ tables_1
theorem lw_p0 : lw_okq (⟨"BeltSteps", "beltNumbered", "(I)LBeltSteps$Belt;"⟩, 6) := ⟨⟨by decide +kernel, by decide +kernel⟩, List.mem_of_getElem? (i := 8) (by decide +kernel), List.mem_of_getElem? (i := 135) (by decide +kernel), List.mem_of_getElem? (i := 136) (by decide +kernel)⟩
theorem lw_p1 : lw_okq (⟨"BeltSteps", "isNowOrLater", "(J)Z"⟩, 6) := ⟨⟨by decide +kernel, by decide +kernel⟩, List.mem_of_getElem? (i := 8) (by decide +kernel), List.mem_of_getElem? (i := 143) (by decide +kernel), List.mem_of_getElem? (i := 144) (by decide +kernel)⟩
theorem lw_p2 : lw_okq (⟨"BeltSteps", "passTo", "(J)V"⟩, 6) := ⟨⟨by decide +kernel, by decide +kernel⟩, List.mem_of_getElem? (i := 8) (by decide +kernel), List.mem_of_getElem? (i := 214) (by decide +kernel), List.mem_of_getElem? (i := 215) (by decide +kernel)⟩
theorem lw_p3 : lw_okq (⟨"BeltSteps", "nextTurn", "()J"⟩, 6) := ⟨⟨by decide +kernel, by decide +kernel⟩, List.mem_of_getElem? (i := 8) (by decide +kernel), List.mem_of_getElem? (i := 219) (by decide +kernel), List.mem_of_getElem? (i := 220) (by decide +kernel)⟩
theorem lw_p4 : lw_okq (⟨"BeltSteps", "moveItems", "(J)V"⟩, 6) := ⟨⟨by decide +kernel, by decide +kernel⟩, List.mem_of_getElem? (i := 8) (by decide +kernel), List.mem_of_getElem? (i := 224) (by decide +kernel), List.mem_of_getElem? (i := 225) (by decide +kernel)⟩
theorem lw_p5 : lw_okq (⟨"BeltSteps", "tellEdges", "(J)V"⟩, 6) := ⟨⟨by decide +kernel, by decide +kernel⟩, List.mem_of_getElem? (i := 8) (by decide +kernel), List.mem_of_getElem? (i := 234) (by decide +kernel), List.mem_of_getElem? (i := 235) (by decide +kernel)⟩
theorem lw_p6 : lw_okq (⟨"BeltSteps", "tellEdgesOf", "(LBeltSteps$Item;J)V"⟩, 6) := ⟨⟨by decide +kernel, by decide +kernel⟩, List.mem_of_getElem? (i := 8) (by decide +kernel), List.mem_of_getElem? (i := 238) (by decide +kernel), List.mem_of_getElem? (i := 239) (by decide +kernel)⟩
theorem lw_p7 : lw_okq (⟨"BeltSteps", "isShort", "(LBeltSteps$Item;J)Z"⟩, 6) := ⟨⟨by decide +kernel, by decide +kernel⟩, List.mem_of_getElem? (i := 8) (by decide +kernel), List.mem_of_getElem? (i := 243) (by decide +kernel), List.mem_of_getElem? (i := 244) (by decide +kernel)⟩
theorem lw_p8 : lw_okq (⟨"BeltSteps", "aimItemsOn", "(LBeltSteps$Belt;)V"⟩, 6) := ⟨⟨by decide +kernel, by decide +kernel⟩, List.mem_of_getElem? (i := 8) (by decide +kernel), List.mem_of_getElem? (i := 283) (by decide +kernel), List.mem_of_getElem? (i := 284) (by decide +kernel)⟩
theorem lw_p9 : lw_okq (⟨"BeltSteps", "itemNumbered", "(I)LBeltSteps$Item;"⟩, 6) := ⟨⟨by decide +kernel, by decide +kernel⟩, List.mem_of_getElem? (i := 8) (by decide +kernel), List.mem_of_getElem? (i := 291) (by decide +kernel), List.mem_of_getElem? (i := 292) (by decide +kernel)⟩
theorem lw_p10 : lw_okq (⟨"BeltStepsModel", "isBelt", "(I)Z"⟩, 25) := ⟨⟨by decide +kernel, by decide +kernel⟩, List.mem_of_getElem? (i := 330) (by decide +kernel), List.mem_of_getElem? (i := 427) (by decide +kernel), List.mem_of_getElem? (i := 428) (by decide +kernel)⟩
theorem lw_p11 : lw_okq (⟨"BeltStepsModel", "isTime", "(J)Z"⟩, 25) := ⟨⟨by decide +kernel, by decide +kernel⟩, List.mem_of_getElem? (i := 330) (by decide +kernel), List.mem_of_getElem? (i := 435) (by decide +kernel), List.mem_of_getElem? (i := 436) (by decide +kernel)⟩
theorem lw_p12 : lw_okq (⟨"BeltStepsModel", "pass", "(J)V"⟩, 25) := ⟨⟨by decide +kernel, by decide +kernel⟩, List.mem_of_getElem? (i := 330) (by decide +kernel), List.mem_of_getElem? (i := 444) (by decide +kernel), List.mem_of_getElem? (i := 445) (by decide +kernel)⟩
theorem lw_p13 : lw_okq (⟨"BeltStepsModel", "rateAt", "(IJ)J"⟩, 25) := ⟨⟨by decide +kernel, by decide +kernel⟩, List.mem_of_getElem? (i := 330) (by decide +kernel), List.mem_of_getElem? (i := 448) (by decide +kernel), List.mem_of_getElem? (i := 449) (by decide +kernel)⟩
theorem lw_p14 : lw_okq (⟨"BeltStepsModel", "gearAt", "(IJ)I"⟩, 25) := ⟨⟨by decide +kernel, by decide +kernel⟩, List.mem_of_getElem? (i := 330) (by decide +kernel), List.mem_of_getElem? (i := 452) (by decide +kernel), List.mem_of_getElem? (i := 453) (by decide +kernel)⟩
theorem lw_p15 : lw_okq (⟨"BeltStepsModel", "isThere", "(I)Z"⟩, 25) := ⟨⟨by decide +kernel, by decide +kernel⟩, List.mem_of_getElem? (i := 330) (by decide +kernel), List.mem_of_getElem? (i := 458) (by decide +kernel), List.mem_of_getElem? (i := 459) (by decide +kernel)⟩
def lw_privs_1 : List (MethodName × Nat) := [(⟨"BeltSteps", "beltNumbered", "(I)LBeltSteps$Belt;"⟩, 6), (⟨"BeltSteps", "isNowOrLater", "(J)Z"⟩, 6), (⟨"BeltSteps", "passTo", "(J)V"⟩, 6), (⟨"BeltSteps", "nextTurn", "()J"⟩, 6), (⟨"BeltSteps", "moveItems", "(J)V"⟩, 6), (⟨"BeltSteps", "tellEdges", "(J)V"⟩, 6), (⟨"BeltSteps", "tellEdgesOf", "(LBeltSteps$Item;J)V"⟩, 6), (⟨"BeltSteps", "isShort", "(LBeltSteps$Item;J)Z"⟩, 6), (⟨"BeltSteps", "aimItemsOn", "(LBeltSteps$Belt;)V"⟩, 6), (⟨"BeltSteps", "itemNumbered", "(I)LBeltSteps$Item;"⟩, 6), (⟨"BeltStepsModel", "isBelt", "(I)Z"⟩, 25), (⟨"BeltStepsModel", "isTime", "(J)Z"⟩, 25), (⟨"BeltStepsModel", "pass", "(J)V"⟩, 25), (⟨"BeltStepsModel", "rateAt", "(IJ)J"⟩, 25), (⟨"BeltStepsModel", "gearAt", "(IJ)I"⟩, 25), (⟨"BeltStepsModel", "isThere", "(I)Z"⟩, 25)]
theorem lw_r1 : ∀ q ∈ lw_privs_1, lw_okq q := List.forall_mem_cons.mpr ⟨lw_p0, List.forall_mem_cons.mpr ⟨lw_p1, List.forall_mem_cons.mpr ⟨lw_p2, List.forall_mem_cons.mpr ⟨lw_p3, List.forall_mem_cons.mpr ⟨lw_p4, List.forall_mem_cons.mpr ⟨lw_p5, List.forall_mem_cons.mpr ⟨lw_p6, List.forall_mem_cons.mpr ⟨lw_p7, List.forall_mem_cons.mpr ⟨lw_p8, List.forall_mem_cons.mpr ⟨lw_p9, List.forall_mem_cons.mpr ⟨lw_p10, List.forall_mem_cons.mpr ⟨lw_p11, List.forall_mem_cons.mpr ⟨lw_p12, List.forall_mem_cons.mpr ⟨lw_p13, List.forall_mem_cons.mpr ⟨lw_p14, List.forall_mem_cons.mpr ⟨lw_p15, fun _ h => absurd h List.not_mem_nil⟩⟩⟩⟩⟩⟩⟩⟩⟩⟩⟩⟩⟩⟩⟩⟩
theorem lw_p16 : lw_okq (⟨"BeltStepsModel", "goOver", "()V"⟩, 25) := ⟨⟨by decide +kernel, by decide +kernel⟩, List.mem_of_getElem? (i := 330) (by decide +kernel), List.mem_of_getElem? (i := 462) (by decide +kernel), List.mem_of_getElem? (i := 463) (by decide +kernel)⟩
theorem lw_p17 : lw_okq (⟨"BeltStepsModel", "look", "()V"⟩, 25) := ⟨⟨by decide +kernel, by decide +kernel⟩, List.mem_of_getElem? (i := 330) (by decide +kernel), List.mem_of_getElem? (i := 466) (by decide +kernel), List.mem_of_getElem? (i := 467) (by decide +kernel)⟩
theorem lw_p18 : lw_okq (⟨"BeltStepsModel", "isShort", "(I)Z"⟩, 25) := ⟨⟨by decide +kernel, by decide +kernel⟩, List.mem_of_getElem? (i := 330) (by decide +kernel), List.mem_of_getElem? (i := 471) (by decide +kernel), List.mem_of_getElem? (i := 472) (by decide +kernel)⟩
theorem lw_p19 : lw_okq (⟨"BeltStepsModel", "tell", "(II)V"⟩, 25) := ⟨⟨by decide +kernel, by decide +kernel⟩, List.mem_of_getElem? (i := 330) (by decide +kernel), List.mem_of_getElem? (i := 476) (by decide +kernel), List.mem_of_getElem? (i := 477) (by decide +kernel)⟩
theorem lw_p20 : lw_okq (⟨"BeltStepsModel", "isItem", "(I)Z"⟩, 25) := ⟨⟨by decide +kernel, by decide +kernel⟩, List.mem_of_getElem? (i := 330) (by decide +kernel), List.mem_of_getElem? (i := 492) (by decide +kernel), List.mem_of_getElem? (i := 493) (by decide +kernel)⟩
def lw_privs_2 : List (MethodName × Nat) := [(⟨"BeltStepsModel", "goOver", "()V"⟩, 25), (⟨"BeltStepsModel", "look", "()V"⟩, 25), (⟨"BeltStepsModel", "isShort", "(I)Z"⟩, 25), (⟨"BeltStepsModel", "tell", "(II)V"⟩, 25), (⟨"BeltStepsModel", "isItem", "(I)Z"⟩, 25)]
theorem lw_r2 : ∀ q ∈ lw_privs_2, lw_okq q := List.forall_mem_cons.mpr ⟨lw_p16, List.forall_mem_cons.mpr ⟨lw_p17, List.forall_mem_cons.mpr ⟨lw_p18, List.forall_mem_cons.mpr ⟨lw_p19, List.forall_mem_cons.mpr ⟨lw_p20, fun _ h => absurd h List.not_mem_nil⟩⟩⟩⟩⟩
def lw_privs : List (MethodName × Nat) := lw_privs_1 ++ (lw_privs_2)
def lw_tbl : List Cond := k2_sels lw_privs ++ tables_1
theorem lw_privs_ok : ∀ q ∈ lw_privs, lw_okq q := by
  show ∀ q ∈ lw_privs_1 ++ (lw_privs_2), lw_okq q
  exact List.forall_mem_append.mpr ⟨lw_r1, lw_r2⟩
-- ===== end of PART A
end
section
def R_B : String := "BeltSteps$Belt"
def R_E : String := "BeltSteps$EdgeList"
def R_I : String := "BeltSteps$Item"
def R_S : String := "BeltSteps"
def R_M : String := "BeltStepsModel"
def R_L : String := "BeltStepsLaw"
def F_B : u_T := fun k => match k with
  | 0 => ("BeltSteps$Belt", "number", "I", true)
  | 1 => ("BeltSteps$Belt", "length", "J", true)
  | 2 => ("BeltSteps$Belt", "speed", "J", true)
  | 3 => ("BeltSteps$Belt", "sensor", "J", true)
  | 4 => ("BeltSteps$Belt", "onto", "LBeltSteps$Belt;", false)
  | 5 => ("BeltSteps$Belt", "running", "Z", false)
  | 6 => ("BeltSteps$Belt", "tellings", "I", false)
  | 7 => ("BeltSteps$Belt", "toldAt", "J", false)
  | 8 => ("BeltSteps$Belt", "gearBefore", "I", false)
  | 9 => ("BeltSteps$Belt", "wayAtTelling", "J", false)
  | 10 => ("BeltSteps$Belt", "gears", "[I", true)
  | 11 => ("BeltSteps$Belt", "paces", "[J", true)
  | _ => ("BeltSteps$Belt", "ways", "[J", true)
def t_B : Nat → FieldType := fun k => match k with
  | 0 => .int
  | 1 => .long
  | 2 => .long
  | 3 => .long
  | 4 => .object "BeltSteps$Belt"
  | 5 => .boolean
  | 6 => .int
  | 7 => .long
  | 8 => .int
  | 9 => .long
  | 10 => .array .int
  | 11 => .array .long
  | _ => .array .long
theorem n_B : ∀ a, a < 13 → ∀ b, b < 13 → a ≠ b → (F_B a).2.1 ≠ (F_B b).2.1 := by decide +kernel
theorem t_B_ok : ∀ k, k < 13 → parseFieldDescriptor (F_B k).2.2.1 = some (t_B k) := by decide +kernel
def F_E : u_T := fun k => match k with
  | 0 => ("BeltSteps$EdgeList", "rows", "[I", true)
  | 1 => ("BeltSteps$EdgeList", "total", "I", false)
  | _ => ("BeltSteps$EdgeList", "taken", "I", false)
def t_E : Nat → FieldType := fun k => match k with
  | 0 => .array .int
  | 1 => .int
  | _ => .int
theorem n_E : ∀ a, a < 3 → ∀ b, b < 3 → a ≠ b → (F_E a).2.1 ≠ (F_E b).2.1 := by decide +kernel
theorem t_E_ok : ∀ k, k < 3 → parseFieldDescriptor (F_E k).2.2.1 = some (t_E k) := by decide +kernel
def F_I : u_T := fun k => match k with
  | 0 => ("BeltSteps$Item", "number", "I", true)
  | 1 => ("BeltSteps$Item", "length", "J", true)
  | 2 => ("BeltSteps$Item", "belt", "LBeltSteps$Belt;", false)
  | 3 => ("BeltSteps$Item", "waiting", "Z", false)
  | 4 => ("BeltSteps$Item", "turn", "J", false)
  | 5 => ("BeltSteps$Item", "start", "J", false)
  | 6 => ("BeltSteps$Item", "frontTold", "Z", false)
  | _ => ("BeltSteps$Item", "endTold", "Z", false)
def t_I : Nat → FieldType := fun k => match k with
  | 0 => .int
  | 1 => .long
  | 2 => .object "BeltSteps$Belt"
  | 3 => .boolean
  | 4 => .long
  | 5 => .long
  | 6 => .boolean
  | _ => .boolean
theorem n_I : ∀ a, a < 8 → ∀ b, b < 8 → a ≠ b → (F_I a).2.1 ≠ (F_I b).2.1 := by decide +kernel
theorem t_I_ok : ∀ k, k < 8 → parseFieldDescriptor (F_I k).2.2.1 = some (t_I k) := by decide +kernel
def F_S : u_T := fun k => match k with
  | 0 => ("BeltSteps", "belts", "[LBeltSteps$Belt;", true)
  | 1 => ("BeltSteps", "beltCount", "I", false)
  | 2 => ("BeltSteps", "items", "[LBeltSteps$Item;", true)
  | 3 => ("BeltSteps", "itemCount", "I", false)
  | 4 => ("BeltSteps", "edges", "LBeltSteps$EdgeList;", true)
  | _ => ("BeltSteps", "now", "J", false)
def t_S : Nat → FieldType := fun k => match k with
  | 0 => .array (.object "BeltSteps$Belt")
  | 1 => .int
  | 2 => .array (.object "BeltSteps$Item")
  | 3 => .int
  | 4 => .object "BeltSteps$EdgeList"
  | _ => .long
theorem n_S : ∀ a, a < 6 → ∀ b, b < 6 → a ≠ b → (F_S a).2.1 ≠ (F_S b).2.1 := by decide +kernel
theorem t_S_ok : ∀ k, k < 6 → parseFieldDescriptor (F_S k).2.2.1 = some (t_S k) := by decide +kernel
def F_M : u_T := fun k => match k with
  | 0 => ("BeltStepsModel", "thrown", "I", false)
  | 1 => ("BeltStepsModel", "now", "J", false)
  | 2 => ("BeltStepsModel", "belts", "I", false)
  | 3 => ("BeltStepsModel", "longs", "[J", true)
  | 4 => ("BeltStepsModel", "speeds", "[J", true)
  | 5 => ("BeltStepsModel", "leads", "[I", true)
  | 6 => ("BeltStepsModel", "toldAt", "[J", true)
  | 7 => ("BeltStepsModel", "runs", "[Z", true)
  | 8 => ("BeltStepsModel", "before", "[I", true)
  | 9 => ("BeltStepsModel", "times", "[I", true)
  | 10 => ("BeltStepsModel", "rates", "[J", true)
  | 11 => ("BeltStepsModel", "items", "I", false)
  | 12 => ("BeltStepsModel", "size", "[J", true)
  | 13 => ("BeltStepsModel", "comes", "[J", true)
  | 14 => ("BeltStepsModel", "on", "[I", true)
  | 15 => ("BeltStepsModel", "place", "[J", true)
  | 16 => ("BeltStepsModel", "left", "[Z", true)
  | 17 => ("BeltStepsModel", "front", "[Z", true)
  | 18 => ("BeltStepsModel", "back", "[Z", true)
  | 19 => ("BeltStepsModel", "edges", "I", false)
  | 20 => ("BeltStepsModel", "known", "I", false)
  | 21 => ("BeltStepsModel", "edgeTime", "[J", true)
  | 22 => ("BeltStepsModel", "edgeBelt", "[I", true)
  | 23 => ("BeltStepsModel", "edgeItem", "[I", true)
  | _ => ("BeltStepsModel", "edgeKind", "[I", true)
def t_M : Nat → FieldType := fun k => match k with
  | 0 => .int
  | 1 => .long
  | 2 => .int
  | 3 => .array .long
  | 4 => .array .long
  | 5 => .array .int
  | 6 => .array .long
  | 7 => .array .boolean
  | 8 => .array .int
  | 9 => .array .int
  | 10 => .array .long
  | 11 => .int
  | 12 => .array .long
  | 13 => .array .long
  | 14 => .array .int
  | 15 => .array .long
  | 16 => .array .boolean
  | 17 => .array .boolean
  | 18 => .array .boolean
  | 19 => .int
  | 20 => .int
  | 21 => .array .long
  | 22 => .array .int
  | 23 => .array .int
  | _ => .array .int
theorem n_M : ∀ a, a < 25 → ∀ b, b < 25 → a ≠ b → (F_M a).2.1 ≠ (F_M b).2.1 := by decide +kernel
theorem t_M_ok : ∀ k, k < 25 → parseFieldDescriptor (F_M k).2.2.1 = some (t_M k) := by decide +kernel
abbrev b_S_init : ByteArray := prog_1_method_1_code
def y_S_init : MethodName := ⟨R_S, "<init>", "()V"⟩
abbrev b_E_init : ByteArray := prog_3_method_1_code
def y_E_init : MethodName := ⟨R_E, "<init>", "()V"⟩
abbrev b_S_belt : ByteArray := prog_1_method_2_code
def y_S_belt : MethodName := ⟨R_S, "belt", "(JJ)I"⟩
abbrev b_B_init : ByteArray := prog_2_method_1_code
def y_B_init : MethodName := ⟨R_B, "<init>", "(IJJ)V"⟩
abbrev b_B_layStages : ByteArray := prog_2_method_3_code
def y_B_layStages : MethodName := ⟨R_B, "layStages", "()V"⟩
abbrev b_S_join : ByteArray := prog_1_method_3_code
def y_S_join : MethodName := ⟨R_S, "join", "(II)I"⟩
abbrev b_S_beltNumbered : ByteArray := prog_1_method_13_code
def y_S_beltNumbered : MethodName := ⟨R_S, "beltNumbered", "(I)LBeltSteps$Belt;"⟩
abbrev b_S_feed : ByteArray := prog_1_method_4_code
def y_S_feed : MethodName := ⟨R_S, "feed", "(IJJ)I"⟩
abbrev b_S_isNowOrLater : ByteArray := prog_1_method_15_code
def y_S_isNowOrLater : MethodName := ⟨R_S, "isNowOrLater", "(J)Z"⟩
abbrev b_I_init : ByteArray := prog_4_method_1_code
def y_I_init : MethodName := ⟨R_I, "<init>", "(IJLBeltSteps$Belt;J)V"⟩
abbrev b_I_comeOnto : ByteArray := prog_4_method_5_code
def y_I_comeOnto : MethodName := ⟨R_I, "comeOnto", "(LBeltSteps$Belt;JJ)V"⟩
abbrev b_B_wayAt : ByteArray := prog_2_method_6_code
def y_B_wayAt : MethodName := ⟨R_B, "wayAt", "(J)J"⟩
abbrev b_B_stageAt : ByteArray := prog_2_method_4_code
def y_B_stageAt : MethodName := ⟨R_B, "stageAt", "(J)I"⟩
abbrev b_I_aim : ByteArray := prog_4_method_7_code
def y_I_aim : MethodName := ⟨R_I, "aim", "()V"⟩
abbrev b_B_timeOfWay : ByteArray := prog_2_method_7_code
def y_B_timeOfWay : MethodName := ⟨R_B, "timeOfWay", "(J)J"⟩
abbrev b_S_step : ByteArray := prog_1_method_5_code
def y_S_step : MethodName := ⟨R_S, "step", "(J)I"⟩
abbrev b_S_passTo : ByteArray := prog_1_method_16_code
def y_S_passTo : MethodName := ⟨R_S, "passTo", "(J)V"⟩
abbrev b_S_nextTurn : ByteArray := prog_1_method_17_code
def y_S_nextTurn : MethodName := ⟨R_S, "nextTurn", "()J"⟩
abbrev b_S_moveItems : ByteArray := prog_1_method_18_code
def y_S_moveItems : MethodName := ⟨R_S, "moveItems", "(J)V"⟩
abbrev b_I_moveOver : ByteArray := prog_4_method_6_code
def y_I_moveOver : MethodName := ⟨R_I, "moveOver", "(J)V"⟩
abbrev b_S_tellEdges : ByteArray := prog_1_method_19_code
def y_S_tellEdges : MethodName := ⟨R_S, "tellEdges", "(J)V"⟩
abbrev b_S_tellEdgesOf : ByteArray := prog_1_method_20_code
def y_S_tellEdgesOf : MethodName := ⟨R_S, "tellEdgesOf", "(LBeltSteps$Item;J)V"⟩
abbrev b_S_isShort : ByteArray := prog_1_method_21_code
def y_S_isShort : MethodName := ⟨R_S, "isShort", "(LBeltSteps$Item;J)Z"⟩
abbrev b_I_isOn : ByteArray := prog_4_method_3_code
def y_I_isOn : MethodName := ⟨R_I, "isOn", "(LBeltSteps$Belt;)Z"⟩
abbrev b_E_add : ByteArray := prog_3_method_2_code
def y_E_add : MethodName := ⟨R_E, "add", "(JIII)V"⟩
abbrev b_E_takeNew : ByteArray := prog_3_method_4_code
def y_E_takeNew : MethodName := ⟨R_E, "takeNew", "()I"⟩
abbrev b_S_edge : ByteArray := prog_1_method_6_code
def y_S_edge : MethodName := ⟨R_S, "edge", "(II)I"⟩
abbrev b_E_read : ByteArray := prog_3_method_3_code
def y_E_read : MethodName := ⟨R_E, "read", "(II)I"⟩
abbrev b_S_stop : ByteArray := prog_1_method_7_code
def y_S_stop : MethodName := ⟨R_S, "stop", "(IZJ)I"⟩
abbrev b_B_tell : ByteArray := prog_2_method_2_code
def y_B_tell : MethodName := ⟨R_B, "tell", "(ZJ)V"⟩
abbrev b_B_gearAt : ByteArray := prog_2_method_5_code
def y_B_gearAt : MethodName := ⟨R_B, "gearAt", "(J)I"⟩
abbrev b_S_aimItemsOn : ByteArray := prog_1_method_22_code
def y_S_aimItemsOn : MethodName := ⟨R_S, "aimItemsOn", "(LBeltSteps$Belt;)V"⟩
abbrev b_S_slip : ByteArray := prog_1_method_8_code
def y_S_slip : MethodName := ⟨R_S, "slip", "(IJ)I"⟩
abbrev b_S_itemNumbered : ByteArray := prog_1_method_14_code
def y_S_itemNumbered : MethodName := ⟨R_S, "itemNumbered", "(I)LBeltSteps$Item;"⟩
abbrev b_I_isOnABelt : ByteArray := prog_4_method_2_code
def y_I_isOnABelt : MethodName := ⟨R_I, "isOnABelt", "()Z"⟩
abbrev b_I_placeAt : ByteArray := prog_4_method_4_code
def y_I_placeAt : MethodName := ⟨R_I, "placeAt", "(J)J"⟩
abbrev b_S_place : ByteArray := prog_1_method_9_code
def y_S_place : MethodName := ⟨R_S, "place", "(IJ)J"⟩
abbrev b_S_placeAhead : ByteArray := prog_1_method_23_code
def y_S_placeAhead : MethodName := ⟨R_S, "placeAhead", "(LBeltSteps$Item;J)J"⟩
abbrev b_S_gap : ByteArray := prog_1_method_10_code
def y_S_gap : MethodName := ⟨R_S, "gap", "(II)I"⟩
abbrev b_S_count : ByteArray := prog_1_method_11_code
def y_S_count : MethodName := ⟨R_S, "count", "(I)I"⟩
abbrev b_S_gear : ByteArray := prog_1_method_12_code
def y_S_gear : MethodName := ⟨R_S, "gear", "(IJ)I"⟩
abbrev b_M_init : ByteArray := prog_6_method_1_code
def y_M_init : MethodName := ⟨R_M, "<init>", "()V"⟩
abbrev b_M_belt : ByteArray := prog_6_method_7_code
def y_M_belt : MethodName := ⟨R_M, "belt", "(JJ)I"⟩
abbrev b_M_in : ByteArray := prog_6_method_3_code
def y_M_in : MethodName := ⟨R_M, "in", "(JJJ)Z"⟩
abbrev b_M_join : ByteArray := prog_6_method_8_code
def y_M_join : MethodName := ⟨R_M, "join", "(II)I"⟩
abbrev b_M_isBelt : ByteArray := prog_6_method_4_code
def y_M_isBelt : MethodName := ⟨R_M, "isBelt", "(I)Z"⟩
abbrev b_M_feed : ByteArray := prog_6_method_9_code
def y_M_feed : MethodName := ⟨R_M, "feed", "(IJJ)I"⟩
abbrev b_M_isTime : ByteArray := prog_6_method_6_code
def y_M_isTime : MethodName := ⟨R_M, "isTime", "(J)Z"⟩
abbrev b_M_step : ByteArray := prog_6_method_18_code
def y_M_step : MethodName := ⟨R_M, "step", "(J)I"⟩
abbrev b_M_pass : ByteArray := prog_6_method_17_code
def y_M_pass : MethodName := ⟨R_M, "pass", "(J)V"⟩
abbrev b_M_rateAt : ByteArray := prog_6_method_11_code
def y_M_rateAt : MethodName := ⟨R_M, "rateAt", "(IJ)J"⟩
abbrev b_M_gearAt : ByteArray := prog_6_method_10_code
def y_M_gearAt : MethodName := ⟨R_M, "gearAt", "(IJ)I"⟩
abbrev b_M_isThere : ByteArray := prog_6_method_12_code
def y_M_isThere : MethodName := ⟨R_M, "isThere", "(I)Z"⟩
abbrev b_M_goOver : ByteArray := prog_6_method_13_code
def y_M_goOver : MethodName := ⟨R_M, "goOver", "()V"⟩
abbrev b_M_look : ByteArray := prog_6_method_16_code
def y_M_look : MethodName := ⟨R_M, "look", "()V"⟩
abbrev b_M_isShort : ByteArray := prog_6_method_14_code
def y_M_isShort : MethodName := ⟨R_M, "isShort", "(I)Z"⟩
abbrev b_M_tell : ByteArray := prog_6_method_15_code
def y_M_tell : MethodName := ⟨R_M, "tell", "(II)V"⟩
abbrev b_M_edge : ByteArray := prog_6_method_19_code
def y_M_edge : MethodName := ⟨R_M, "edge", "(II)I"⟩
abbrev b_M_stop : ByteArray := prog_6_method_20_code
def y_M_stop : MethodName := ⟨R_M, "stop", "(IZJ)I"⟩
abbrev b_M_slip : ByteArray := prog_6_method_21_code
def y_M_slip : MethodName := ⟨R_M, "slip", "(IJ)I"⟩
abbrev b_M_isItem : ByteArray := prog_6_method_5_code
def y_M_isItem : MethodName := ⟨R_M, "isItem", "(I)Z"⟩
abbrev b_M_place : ByteArray := prog_6_method_22_code
def y_M_place : MethodName := ⟨R_M, "place", "(IJ)J"⟩
abbrev b_M_gap : ByteArray := prog_6_method_23_code
def y_M_gap : MethodName := ⟨R_M, "gap", "(II)I"⟩
abbrev b_M_count : ByteArray := prog_6_method_24_code
def y_M_count : MethodName := ⟨R_M, "count", "(I)I"⟩
abbrev b_M_gear : ByteArray := prog_6_method_25_code
def y_M_gear : MethodName := ⟨R_M, "gear", "(IJ)I"⟩
abbrev b_L_law : ByteArray := code
/-- the words that every method rests on: those of the tables that go with a call -/
def gtb : List Cond := lw_tbl.filter goodWord
theorem gtb_of {w : Cond} (k : Nat) (h : tables_1[k]? = some w) (hg : goodWord w = true) : w ∈ gtb := List.mem_filter.mpr ⟨List.mem_append_right _ (List.mem_of_getElem? h), hg⟩
theorem gtb_sel {w : Cond} (h : w ∈ k2_sels lw_privs) (hg : goodWord w = true) : w ∈ gtb := List.mem_filter.mpr ⟨List.mem_append_left _ h, hg⟩
theorem gm_ini_L : Cond.initialized "BeltStepsLaw" ∈ gtb := gtb_of 0 (by decide +kernel) rfl
theorem gm_ini_S : Cond.initialized "BeltSteps" ∈ gtb := gtb_of 1 (by decide +kernel) rfl
theorem gm_ini_E : Cond.initialized "BeltSteps$EdgeList" ∈ gtb := gtb_of 2 (by decide +kernel) rfl
theorem gm_ini_M : Cond.initialized "BeltStepsModel" ∈ gtb := gtb_of 3 (by decide +kernel) rfl
theorem gm_ini_B : Cond.initialized "BeltSteps$Belt" ∈ gtb := gtb_of 4 (by decide +kernel) rfl
theorem gm_ini_J : Cond.initialized "java/lang/Math" ∈ gtb := gtb_of 5 (by decide +kernel) rfl
theorem gm_ini_I : Cond.initialized "BeltSteps$Item" ∈ gtb := gtb_of 6 (by decide +kernel) rfl
theorem gm_cl_L_7 : Cond.classLink R_L 7 R_S ∈ gtb := gtb_of 7 (by decide +kernel) rfl
theorem gm_inst_S : Cond.instantiable R_S 6 ∈ gtb := gtb_of 8 (by decide +kernel) rfl
theorem gm_ml_L_9 : Cond.methodLink R_L 9 y_S_init ∈ gtb := gtb_of 9 (by decide +kernel) rfl
theorem gm_im_S_init : Cond.instanceMethod y_S_init ∈ gtb := gtb_of 10 (by decide +kernel) rfl
theorem gm_code_S_init : Cond.code y_S_init b_S_init 1 none ∈ gtb := gtb_of 11 (by decide +kernel) rfl
theorem gm_ml_S_1 : Cond.methodLink R_S 1 objectInit ∈ gtb := gtb_of 12 (by decide +kernel) rfl
theorem gm_im_O_init : Cond.instanceMethod objectInit ∈ gtb := gtb_of 13 (by decide +kernel) rfl
theorem gm_code_O_init : Cond.code objectInit ⟨#[0xb1]⟩ 1 none ∈ gtb := gtb_of 14 (by decide +kernel) rfl
theorem gm_cl_S_9 : Cond.classLink R_S 9 R_B ∈ gtb := gtb_of 15 (by decide +kernel) rfl
theorem gm_cl_S_19 : Cond.classLink R_S 19 R_I ∈ gtb := gtb_of 17 (by decide +kernel) rfl
theorem gm_cl_S_28 : Cond.classLink R_S 28 R_E ∈ gtb := gtb_of 19 (by decide +kernel) rfl
theorem gm_inst_E : Cond.instantiable R_E 3 ∈ gtb := gtb_of 20 (by decide +kernel) rfl
theorem gm_im_E_init : Cond.instanceMethod y_E_init ∈ gtb := gtb_of 22 (by decide +kernel) rfl
theorem gm_code_E_init : Cond.code y_E_init b_E_init 1 none ∈ gtb := gtb_of 23 (by decide +kernel) rfl
theorem gm_ml_E_3 : Cond.methodLink R_E 3 objectInit ∈ gtb := gtb_of 24 (by decide +kernel) rfl
theorem gm_fl_E_11 : Cond.fieldLink R_E 11 "BeltSteps$EdgeList" "rows" "[I" ∈ gtb := gtb_of 25 (by decide +kernel) rfl
theorem gm_fl_E_15 : Cond.fieldLink R_E 15 "BeltSteps$EdgeList" "total" "I" ∈ gtb := gtb_of 26 (by decide +kernel) rfl
theorem gm_fl_E_19 : Cond.fieldLink R_E 19 "BeltSteps$EdgeList" "taken" "I" ∈ gtb := gtb_of 27 (by decide +kernel) rfl
theorem gm_ac_int : Cond.arrayClass .int ∈ gtb := gtb_of 35 (by decide +kernel) rfl
theorem gm_fl_S_11 : Cond.fieldLink R_S 11 "BeltSteps" "belts" "[LBeltSteps$Belt;" ∈ gtb := gtb_of 36 (by decide +kernel) rfl
theorem gm_fl_S_15 : Cond.fieldLink R_S 15 "BeltSteps" "beltCount" "I" ∈ gtb := gtb_of 37 (by decide +kernel) rfl
theorem gm_fl_S_21 : Cond.fieldLink R_S 21 "BeltSteps" "items" "[LBeltSteps$Item;" ∈ gtb := gtb_of 38 (by decide +kernel) rfl
theorem gm_fl_S_25 : Cond.fieldLink R_S 25 "BeltSteps" "itemCount" "I" ∈ gtb := gtb_of 39 (by decide +kernel) rfl
theorem gm_fl_S_31 : Cond.fieldLink R_S 31 "BeltSteps" "edges" "LBeltSteps$EdgeList;" ∈ gtb := gtb_of 40 (by decide +kernel) rfl
theorem gm_fl_S_35 : Cond.fieldLink R_S 35 "BeltSteps" "now" "J" ∈ gtb := gtb_of 41 (by decide +kernel) rfl
theorem gm_ml_L_15 : Cond.methodLink R_L 15 y_S_belt ∈ gtb := gtb_of 55 (by decide +kernel) rfl
theorem gm_im_S_belt : Cond.instanceMethod y_S_belt ∈ gtb := gtb_of 56 (by decide +kernel) rfl
theorem gm_sel_S_belt : Cond.selects R_S y_S_belt y_S_belt ∈ gtb := gtb_of 57 (by decide +kernel) rfl
theorem gm_code_S_belt : Cond.code y_S_belt b_S_belt 6 (some .int) ∈ gtb := gtb_of 58 (by decide +kernel) rfl
theorem gm_k_S_39 : Cond.constantLong R_S 39 (100000) ∈ gtb := gtb_of 59 (by decide +kernel) rfl
theorem gm_k_S_41 : Cond.constantLong R_S 41 (100000000) ∈ gtb := gtb_of 60 (by decide +kernel) rfl
theorem gm_k_S_43 : Cond.constantLong R_S 43 (5000) ∈ gtb := gtb_of 61 (by decide +kernel) rfl
theorem gm_inst_B : Cond.instantiable R_B 13 ∈ gtb := gtb_of 62 (by decide +kernel) rfl
theorem gm_ml_S_45 : Cond.methodLink R_S 45 y_B_init ∈ gtb := gtb_of 63 (by decide +kernel) rfl
theorem gm_im_B_init : Cond.instanceMethod y_B_init ∈ gtb := gtb_of 64 (by decide +kernel) rfl
theorem gm_code_B_init : Cond.code y_B_init b_B_init 6 none ∈ gtb := gtb_of 65 (by decide +kernel) rfl
theorem gm_ml_B_3 : Cond.methodLink R_B 3 objectInit ∈ gtb := gtb_of 66 (by decide +kernel) rfl
theorem gm_k_B_53 : Cond.constantLong R_B 53 (2) ∈ gtb := gtb_of 67 (by decide +kernel) rfl
theorem gm_fl_B_44 : Cond.fieldLink R_B 44 "BeltSteps$Belt" "number" "I" ∈ gtb := gtb_of 68 (by decide +kernel) rfl
theorem gm_fl_S_51 : Cond.fieldLink R_S 51 "BeltSteps$Belt" "number" "I" ∈ gtb := gtb_of 69 (by decide +kernel) rfl
theorem gm_fl_B_47 : Cond.fieldLink R_B 47 "BeltSteps$Belt" "length" "J" ∈ gtb := gtb_of 70 (by decide +kernel) rfl
theorem gm_fl_I_52 : Cond.fieldLink R_I 52 "BeltSteps$Belt" "length" "J" ∈ gtb := gtb_of 71 (by decide +kernel) rfl
theorem gm_fl_S_203 : Cond.fieldLink R_S 203 "BeltSteps$Belt" "length" "J" ∈ gtb := gtb_of 72 (by decide +kernel) rfl
theorem gm_fl_B_50 : Cond.fieldLink R_B 50 "BeltSteps$Belt" "speed" "J" ∈ gtb := gtb_of 73 (by decide +kernel) rfl
theorem gm_fl_B_55 : Cond.fieldLink R_B 55 "BeltSteps$Belt" "sensor" "J" ∈ gtb := gtb_of 74 (by decide +kernel) rfl
theorem gm_fl_I_58 : Cond.fieldLink R_I 58 "BeltSteps$Belt" "sensor" "J" ∈ gtb := gtb_of 75 (by decide +kernel) rfl
theorem gm_fl_S_177 : Cond.fieldLink R_S 177 "BeltSteps$Belt" "sensor" "J" ∈ gtb := gtb_of 76 (by decide +kernel) rfl
theorem gm_fl_B_9 : Cond.fieldLink R_B 9 "BeltSteps$Belt" "onto" "LBeltSteps$Belt;" ∈ gtb := gtb_of 77 (by decide +kernel) rfl
theorem gm_fl_S_58 : Cond.fieldLink R_S 58 "BeltSteps$Belt" "onto" "LBeltSteps$Belt;" ∈ gtb := gtb_of 78 (by decide +kernel) rfl
theorem gm_fl_I_53 : Cond.fieldLink R_I 53 "BeltSteps$Belt" "onto" "LBeltSteps$Belt;" ∈ gtb := gtb_of 79 (by decide +kernel) rfl
theorem gm_fl_B_15 : Cond.fieldLink R_B 15 "BeltSteps$Belt" "running" "Z" ∈ gtb := gtb_of 80 (by decide +kernel) rfl
theorem gm_fl_S_86 : Cond.fieldLink R_S 86 "BeltSteps$Belt" "running" "Z" ∈ gtb := gtb_of 81 (by decide +kernel) rfl
theorem gm_fl_B_19 : Cond.fieldLink R_B 19 "BeltSteps$Belt" "tellings" "I" ∈ gtb := gtb_of 82 (by decide +kernel) rfl
theorem gm_fl_S_90 : Cond.fieldLink R_S 90 "BeltSteps$Belt" "tellings" "I" ∈ gtb := gtb_of 83 (by decide +kernel) rfl
theorem gm_fl_B_23 : Cond.fieldLink R_B 23 "BeltSteps$Belt" "toldAt" "J" ∈ gtb := gtb_of 84 (by decide +kernel) rfl
theorem gm_fl_B_27 : Cond.fieldLink R_B 27 "BeltSteps$Belt" "gearBefore" "I" ∈ gtb := gtb_of 85 (by decide +kernel) rfl
theorem gm_fl_B_30 : Cond.fieldLink R_B 30 "BeltSteps$Belt" "wayAtTelling" "J" ∈ gtb := gtb_of 86 (by decide +kernel) rfl
theorem gm_fl_B_33 : Cond.fieldLink R_B 33 "BeltSteps$Belt" "gears" "[I" ∈ gtb := gtb_of 87 (by decide +kernel) rfl
theorem gm_fl_B_37 : Cond.fieldLink R_B 37 "BeltSteps$Belt" "paces" "[J" ∈ gtb := gtb_of 88 (by decide +kernel) rfl
theorem gm_fl_B_41 : Cond.fieldLink R_B 41 "BeltSteps$Belt" "ways" "[J" ∈ gtb := gtb_of 89 (by decide +kernel) rfl
theorem gm_ac_long : Cond.arrayClass .long ∈ gtb := gtb_of 117 (by decide +kernel) rfl
theorem gm_ml_S_48 : Cond.methodLink R_S 48 y_B_layStages ∈ gtb := gtb_of 118 (by decide +kernel) rfl
theorem gm_im_B_layStages : Cond.instanceMethod y_B_layStages ∈ gtb := gtb_of 119 (by decide +kernel) rfl
theorem gm_sel_B_layStages : Cond.selects R_B y_B_layStages y_B_layStages ∈ gtb := gtb_of 120 (by decide +kernel) rfl
theorem gm_code_B_layStages : Cond.code y_B_layStages b_B_layStages 5 none ∈ gtb := gtb_of 121 (by decide +kernel) rfl
theorem gm_k_B_78 : Cond.constantLong R_B 78 (8) ∈ gtb := gtb_of 128 (by decide +kernel) rfl
theorem gm_k_B_80 : Cond.constantLong R_B 80 (20) ∈ gtb := gtb_of 129 (by decide +kernel) rfl
theorem gm_ml_L_20 : Cond.methodLink R_L 20 y_S_join ∈ gtb := gtb_of 130 (by decide +kernel) rfl
theorem gm_im_S_join : Cond.instanceMethod y_S_join ∈ gtb := gtb_of 131 (by decide +kernel) rfl
theorem gm_sel_S_join : Cond.selects R_S y_S_join y_S_join ∈ gtb := gtb_of 132 (by decide +kernel) rfl
theorem gm_code_S_join : Cond.code y_S_join b_S_join 6 (some .int) ∈ gtb := gtb_of 133 (by decide +kernel) rfl
theorem gm_ml_S_54 : Cond.methodLink R_S 54 y_S_beltNumbered ∈ gtb := gtb_of 134 (by decide +kernel) rfl
theorem gm_im_S_beltNumbered : Cond.instanceMethod y_S_beltNumbered ∈ gtb := gtb_of 136 (by decide +kernel) rfl
theorem gm_code_S_beltNumbered : Cond.code y_S_beltNumbered b_S_beltNumbered 2 (some (.object "BeltSteps$Belt")) ∈ gtb := gtb_of 137 (by decide +kernel) rfl
theorem gm_ml_L_25 : Cond.methodLink R_L 25 y_S_feed ∈ gtb := gtb_of 138 (by decide +kernel) rfl
theorem gm_im_S_feed : Cond.instanceMethod y_S_feed ∈ gtb := gtb_of 139 (by decide +kernel) rfl
theorem gm_sel_S_feed : Cond.selects R_S y_S_feed y_S_feed ∈ gtb := gtb_of 140 (by decide +kernel) rfl
theorem gm_code_S_feed : Cond.code y_S_feed b_S_feed 8 (some .int) ∈ gtb := gtb_of 141 (by decide +kernel) rfl
theorem gm_ml_S_62 : Cond.methodLink R_S 62 y_S_isNowOrLater ∈ gtb := gtb_of 142 (by decide +kernel) rfl
theorem gm_im_S_isNowOrLater : Cond.instanceMethod y_S_isNowOrLater ∈ gtb := gtb_of 144 (by decide +kernel) rfl
theorem gm_code_S_isNowOrLater : Cond.code y_S_isNowOrLater b_S_isNowOrLater 3 (some .boolean) ∈ gtb := gtb_of 145 (by decide +kernel) rfl
theorem gm_k_S_149 : Cond.constantLong R_S 149 (1000000) ∈ gtb := gtb_of 146 (by decide +kernel) rfl
theorem gm_inst_I : Cond.instantiable R_I 8 ∈ gtb := gtb_of 147 (by decide +kernel) rfl
theorem gm_ml_S_66 : Cond.methodLink R_S 66 y_I_init ∈ gtb := gtb_of 148 (by decide +kernel) rfl
theorem gm_im_I_init : Cond.instanceMethod y_I_init ∈ gtb := gtb_of 149 (by decide +kernel) rfl
theorem gm_code_I_init : Cond.code y_I_init b_I_init 7 none ∈ gtb := gtb_of 150 (by decide +kernel) rfl
theorem gm_ml_I_3 : Cond.methodLink R_I 3 objectInit ∈ gtb := gtb_of 151 (by decide +kernel) rfl
theorem gm_fl_I_25 : Cond.fieldLink R_I 25 "BeltSteps$Item" "number" "I" ∈ gtb := gtb_of 152 (by decide +kernel) rfl
theorem gm_fl_S_73 : Cond.fieldLink R_S 73 "BeltSteps$Item" "number" "I" ∈ gtb := gtb_of 153 (by decide +kernel) rfl
theorem gm_fl_I_29 : Cond.fieldLink R_I 29 "BeltSteps$Item" "length" "J" ∈ gtb := gtb_of 154 (by decide +kernel) rfl
theorem gm_fl_S_138 : Cond.fieldLink R_S 138 "BeltSteps$Item" "length" "J" ∈ gtb := gtb_of 155 (by decide +kernel) rfl
theorem gm_fl_I_32 : Cond.fieldLink R_I 32 "BeltSteps$Item" "belt" "LBeltSteps$Belt;" ∈ gtb := gtb_of 156 (by decide +kernel) rfl
theorem gm_fl_S_135 : Cond.fieldLink R_S 135 "BeltSteps$Item" "belt" "LBeltSteps$Belt;" ∈ gtb := gtb_of 157 (by decide +kernel) rfl
theorem gm_fl_I_9 : Cond.fieldLink R_I 9 "BeltSteps$Item" "waiting" "Z" ∈ gtb := gtb_of 158 (by decide +kernel) rfl
theorem gm_fl_S_198 : Cond.fieldLink R_S 198 "BeltSteps$Item" "waiting" "Z" ∈ gtb := gtb_of 159 (by decide +kernel) rfl
theorem gm_fl_I_36 : Cond.fieldLink R_I 36 "BeltSteps$Item" "turn" "J" ∈ gtb := gtb_of 160 (by decide +kernel) rfl
theorem gm_fl_S_164 : Cond.fieldLink R_S 164 "BeltSteps$Item" "turn" "J" ∈ gtb := gtb_of 161 (by decide +kernel) rfl
theorem gm_fl_I_15 : Cond.fieldLink R_I 15 "BeltSteps$Item" "start" "J" ∈ gtb := gtb_of 162 (by decide +kernel) rfl
theorem gm_fl_S_121 : Cond.fieldLink R_S 121 "BeltSteps$Item" "start" "J" ∈ gtb := gtb_of 163 (by decide +kernel) rfl
theorem gm_fl_I_19 : Cond.fieldLink R_I 19 "BeltSteps$Item" "frontTold" "Z" ∈ gtb := gtb_of 164 (by decide +kernel) rfl
theorem gm_fl_S_180 : Cond.fieldLink R_S 180 "BeltSteps$Item" "frontTold" "Z" ∈ gtb := gtb_of 165 (by decide +kernel) rfl
theorem gm_fl_I_22 : Cond.fieldLink R_I 22 "BeltSteps$Item" "endTold" "Z" ∈ gtb := gtb_of 166 (by decide +kernel) rfl
theorem gm_fl_S_191 : Cond.fieldLink R_S 191 "BeltSteps$Item" "endTold" "Z" ∈ gtb := gtb_of 167 (by decide +kernel) rfl
theorem gm_ml_S_69 : Cond.methodLink R_S 69 y_I_comeOnto ∈ gtb := gtb_of 185 (by decide +kernel) rfl
theorem gm_im_I_comeOnto : Cond.instanceMethod y_I_comeOnto ∈ gtb := gtb_of 186 (by decide +kernel) rfl
theorem gm_sel_I_comeOnto : Cond.selects R_I y_I_comeOnto y_I_comeOnto ∈ gtb := gtb_of 187 (by decide +kernel) rfl
theorem gm_code_I_comeOnto : Cond.code y_I_comeOnto b_I_comeOnto 6 none ∈ gtb := gtb_of 188 (by decide +kernel) rfl
theorem gm_ml_I_39 : Cond.methodLink R_I 39 y_B_wayAt ∈ gtb := gtb_of 189 (by decide +kernel) rfl
theorem gm_im_B_wayAt : Cond.instanceMethod y_B_wayAt ∈ gtb := gtb_of 190 (by decide +kernel) rfl
theorem gm_sel_B_wayAt : Cond.selects R_B y_B_wayAt y_B_wayAt ∈ gtb := gtb_of 191 (by decide +kernel) rfl
theorem gm_code_B_wayAt : Cond.code y_B_wayAt b_B_wayAt 4 (some .long) ∈ gtb := gtb_of 192 (by decide +kernel) rfl
theorem gm_ml_B_82 : Cond.methodLink R_B 82 y_B_stageAt ∈ gtb := gtb_of 193 (by decide +kernel) rfl
theorem gm_im_B_stageAt : Cond.instanceMethod y_B_stageAt ∈ gtb := gtb_of 194 (by decide +kernel) rfl
theorem gm_sel_B_stageAt : Cond.selects R_B y_B_stageAt y_B_stageAt ∈ gtb := gtb_of 195 (by decide +kernel) rfl
theorem gm_code_B_stageAt : Cond.code y_B_stageAt b_B_stageAt 5 (some .int) ∈ gtb := gtb_of 196 (by decide +kernel) rfl
theorem gm_ml_I_45 : Cond.methodLink R_I 45 y_I_aim ∈ gtb := gtb_of 197 (by decide +kernel) rfl
theorem gm_im_I_aim : Cond.instanceMethod y_I_aim ∈ gtb := gtb_of 198 (by decide +kernel) rfl
theorem gm_sel_I_aim : Cond.selects R_I y_I_aim y_I_aim ∈ gtb := gtb_of 199 (by decide +kernel) rfl
theorem gm_code_I_aim : Cond.code y_I_aim b_I_aim 3 none ∈ gtb := gtb_of 200 (by decide +kernel) rfl
theorem gm_ml_I_67 : Cond.methodLink R_I 67 y_B_timeOfWay ∈ gtb := gtb_of 204 (by decide +kernel) rfl
theorem gm_im_B_timeOfWay : Cond.instanceMethod y_B_timeOfWay ∈ gtb := gtb_of 205 (by decide +kernel) rfl
theorem gm_sel_B_timeOfWay : Cond.selects R_B y_B_timeOfWay y_B_timeOfWay ∈ gtb := gtb_of 206 (by decide +kernel) rfl
theorem gm_code_B_timeOfWay : Cond.code y_B_timeOfWay b_B_timeOfWay 10 (some .long) ∈ gtb := gtb_of 207 (by decide +kernel) rfl
theorem gm_k_B_85 : Cond.constantLong R_B 85 (1000000000000) ∈ gtb := gtb_of 208 (by decide +kernel) rfl
theorem gm_ml_L_30 : Cond.methodLink R_L 30 y_S_step ∈ gtb := gtb_of 209 (by decide +kernel) rfl
theorem gm_im_S_step : Cond.instanceMethod y_S_step ∈ gtb := gtb_of 210 (by decide +kernel) rfl
theorem gm_sel_S_step : Cond.selects R_S y_S_step y_S_step ∈ gtb := gtb_of 211 (by decide +kernel) rfl
theorem gm_code_S_step : Cond.code y_S_step b_S_step 3 (some .int) ∈ gtb := gtb_of 212 (by decide +kernel) rfl
theorem gm_ml_S_74 : Cond.methodLink R_S 74 y_S_passTo ∈ gtb := gtb_of 213 (by decide +kernel) rfl
theorem gm_im_S_passTo : Cond.instanceMethod y_S_passTo ∈ gtb := gtb_of 215 (by decide +kernel) rfl
theorem gm_code_S_passTo : Cond.code y_S_passTo b_S_passTo 6 none ∈ gtb := gtb_of 216 (by decide +kernel) rfl
theorem gm_k_S_151 : Cond.constant R_S 151 (100000) ∈ gtb := gtb_of 217 (by decide +kernel) rfl
theorem gm_ml_S_152 : Cond.methodLink R_S 152 y_S_nextTurn ∈ gtb := gtb_of 218 (by decide +kernel) rfl
theorem gm_im_S_nextTurn : Cond.instanceMethod y_S_nextTurn ∈ gtb := gtb_of 220 (by decide +kernel) rfl
theorem gm_code_S_nextTurn : Cond.code y_S_nextTurn b_S_nextTurn 4 (some .long) ∈ gtb := gtb_of 221 (by decide +kernel) rfl
theorem gm_k_S_162 : Cond.constantLong R_S 162 (1000000000000) ∈ gtb := gtb_of 222 (by decide +kernel) rfl
theorem gm_ml_S_156 : Cond.methodLink R_S 156 y_S_moveItems ∈ gtb := gtb_of 223 (by decide +kernel) rfl
theorem gm_im_S_moveItems : Cond.instanceMethod y_S_moveItems ∈ gtb := gtb_of 225 (by decide +kernel) rfl
theorem gm_code_S_moveItems : Cond.code y_S_moveItems b_S_moveItems 4 none ∈ gtb := gtb_of 226 (by decide +kernel) rfl
theorem gm_ml_S_167 : Cond.methodLink R_S 167 y_I_moveOver ∈ gtb := gtb_of 227 (by decide +kernel) rfl
theorem gm_im_I_moveOver : Cond.instanceMethod y_I_moveOver ∈ gtb := gtb_of 228 (by decide +kernel) rfl
theorem gm_sel_I_moveOver : Cond.selects R_I y_I_moveOver y_I_moveOver ∈ gtb := gtb_of 229 (by decide +kernel) rfl
theorem gm_code_I_moveOver : Cond.code y_I_moveOver b_I_moveOver 5 none ∈ gtb := gtb_of 230 (by decide +kernel) rfl
theorem gm_ml_I_48 : Cond.methodLink R_I 48 y_I_comeOnto ∈ gtb := gtb_of 231 (by decide +kernel) rfl
theorem gm_k_I_56 : Cond.constantLong R_I 56 (1000000000000) ∈ gtb := gtb_of 232 (by decide +kernel) rfl
theorem gm_ml_S_159 : Cond.methodLink R_S 159 y_S_tellEdges ∈ gtb := gtb_of 233 (by decide +kernel) rfl
theorem gm_im_S_tellEdges : Cond.instanceMethod y_S_tellEdges ∈ gtb := gtb_of 235 (by decide +kernel) rfl
theorem gm_code_S_tellEdges : Cond.code y_S_tellEdges b_S_tellEdges 4 none ∈ gtb := gtb_of 236 (by decide +kernel) rfl
theorem gm_ml_S_170 : Cond.methodLink R_S 170 y_S_tellEdgesOf ∈ gtb := gtb_of 237 (by decide +kernel) rfl
theorem gm_im_S_tellEdgesOf : Cond.instanceMethod y_S_tellEdgesOf ∈ gtb := gtb_of 239 (by decide +kernel) rfl
theorem gm_code_S_tellEdgesOf : Cond.code y_S_tellEdgesOf b_S_tellEdgesOf 10 none ∈ gtb := gtb_of 240 (by decide +kernel) rfl
theorem gm_ml_S_174 : Cond.methodLink R_S 174 y_B_wayAt ∈ gtb := gtb_of 241 (by decide +kernel) rfl
theorem gm_ml_S_183 : Cond.methodLink R_S 183 y_S_isShort ∈ gtb := gtb_of 242 (by decide +kernel) rfl
theorem gm_im_S_isShort : Cond.instanceMethod y_S_isShort ∈ gtb := gtb_of 244 (by decide +kernel) rfl
theorem gm_code_S_isShort : Cond.code y_S_isShort b_S_isShort 11 (some .boolean) ∈ gtb := gtb_of 245 (by decide +kernel) rfl
theorem gm_ml_S_141 : Cond.methodLink R_S 141 y_I_isOn ∈ gtb := gtb_of 246 (by decide +kernel) rfl
theorem gm_im_I_isOn : Cond.instanceMethod y_I_isOn ∈ gtb := gtb_of 247 (by decide +kernel) rfl
theorem gm_sel_I_isOn : Cond.selects R_I y_I_isOn y_I_isOn ∈ gtb := gtb_of 248 (by decide +kernel) rfl
theorem gm_code_I_isOn : Cond.code y_I_isOn b_I_isOn 2 (some .boolean) ∈ gtb := gtb_of 249 (by decide +kernel) rfl
theorem gm_k_S_194 : Cond.constantLong R_S 194 (50000) ∈ gtb := gtb_of 250 (by decide +kernel) rfl
theorem gm_ml_S_187 : Cond.methodLink R_S 187 y_E_add ∈ gtb := gtb_of 251 (by decide +kernel) rfl
theorem gm_im_E_add : Cond.instanceMethod y_E_add ∈ gtb := gtb_of 252 (by decide +kernel) rfl
theorem gm_sel_E_add : Cond.selects R_E y_E_add y_E_add ∈ gtb := gtb_of 253 (by decide +kernel) rfl
theorem gm_code_E_add : Cond.code y_E_add b_E_add 7 none ∈ gtb := gtb_of 254 (by decide +kernel) rfl
theorem gm_ml_S_124 : Cond.methodLink R_S 124 y_I_aim ∈ gtb := gtb_of 255 (by decide +kernel) rfl
theorem gm_ml_S_78 : Cond.methodLink R_S 78 y_E_takeNew ∈ gtb := gtb_of 256 (by decide +kernel) rfl
theorem gm_im_E_takeNew : Cond.instanceMethod y_E_takeNew ∈ gtb := gtb_of 257 (by decide +kernel) rfl
theorem gm_sel_E_takeNew : Cond.selects R_E y_E_takeNew y_E_takeNew ∈ gtb := gtb_of 258 (by decide +kernel) rfl
theorem gm_code_E_takeNew : Cond.code y_E_takeNew b_E_takeNew 2 (some .int) ∈ gtb := gtb_of 259 (by decide +kernel) rfl
theorem gm_ml_L_35 : Cond.methodLink R_L 35 y_S_edge ∈ gtb := gtb_of 260 (by decide +kernel) rfl
theorem gm_im_S_edge : Cond.instanceMethod y_S_edge ∈ gtb := gtb_of 261 (by decide +kernel) rfl
theorem gm_sel_S_edge : Cond.selects R_S y_S_edge y_S_edge ∈ gtb := gtb_of 262 (by decide +kernel) rfl
theorem gm_code_S_edge : Cond.code y_S_edge b_S_edge 3 (some .int) ∈ gtb := gtb_of 263 (by decide +kernel) rfl
theorem gm_ml_S_82 : Cond.methodLink R_S 82 y_E_read ∈ gtb := gtb_of 264 (by decide +kernel) rfl
theorem gm_im_E_read : Cond.instanceMethod y_E_read ∈ gtb := gtb_of 265 (by decide +kernel) rfl
theorem gm_sel_E_read : Cond.selects R_E y_E_read y_E_read ∈ gtb := gtb_of 266 (by decide +kernel) rfl
theorem gm_code_E_read : Cond.code y_E_read b_E_read 3 (some .int) ∈ gtb := gtb_of 267 (by decide +kernel) rfl
theorem gm_ml_L_39 : Cond.methodLink R_L 39 y_S_stop ∈ gtb := gtb_of 268 (by decide +kernel) rfl
theorem gm_im_S_stop : Cond.instanceMethod y_S_stop ∈ gtb := gtb_of 269 (by decide +kernel) rfl
theorem gm_sel_S_stop : Cond.selects R_S y_S_stop y_S_stop ∈ gtb := gtb_of 270 (by decide +kernel) rfl
theorem gm_code_S_stop : Cond.code y_S_stop b_S_stop 7 (some .int) ∈ gtb := gtb_of 271 (by decide +kernel) rfl
theorem gm_ml_S_93 : Cond.methodLink R_S 93 y_B_tell ∈ gtb := gtb_of 272 (by decide +kernel) rfl
theorem gm_im_B_tell : Cond.instanceMethod y_B_tell ∈ gtb := gtb_of 273 (by decide +kernel) rfl
theorem gm_sel_B_tell : Cond.selects R_B y_B_tell y_B_tell ∈ gtb := gtb_of 274 (by decide +kernel) rfl
theorem gm_code_B_tell : Cond.code y_B_tell b_B_tell 4 none ∈ gtb := gtb_of 275 (by decide +kernel) rfl
theorem gm_ml_B_58 : Cond.methodLink R_B 58 y_B_wayAt ∈ gtb := gtb_of 276 (by decide +kernel) rfl
theorem gm_ml_B_62 : Cond.methodLink R_B 62 y_B_gearAt ∈ gtb := gtb_of 277 (by decide +kernel) rfl
theorem gm_im_B_gearAt : Cond.instanceMethod y_B_gearAt ∈ gtb := gtb_of 278 (by decide +kernel) rfl
theorem gm_sel_B_gearAt : Cond.selects R_B y_B_gearAt y_B_gearAt ∈ gtb := gtb_of 279 (by decide +kernel) rfl
theorem gm_code_B_gearAt : Cond.code y_B_gearAt b_B_gearAt 3 (some .int) ∈ gtb := gtb_of 280 (by decide +kernel) rfl
theorem gm_ml_B_66 : Cond.methodLink R_B 66 y_B_layStages ∈ gtb := gtb_of 281 (by decide +kernel) rfl
theorem gm_ml_S_97 : Cond.methodLink R_S 97 y_S_aimItemsOn ∈ gtb := gtb_of 282 (by decide +kernel) rfl
theorem gm_im_S_aimItemsOn : Cond.instanceMethod y_S_aimItemsOn ∈ gtb := gtb_of 284 (by decide +kernel) rfl
theorem gm_code_S_aimItemsOn : Cond.code y_S_aimItemsOn b_S_aimItemsOn 3 none ∈ gtb := gtb_of 285 (by decide +kernel) rfl
theorem gm_ml_L_44 : Cond.methodLink R_L 44 y_S_slip ∈ gtb := gtb_of 286 (by decide +kernel) rfl
theorem gm_im_S_slip : Cond.instanceMethod y_S_slip ∈ gtb := gtb_of 287 (by decide +kernel) rfl
theorem gm_sel_S_slip : Cond.selects R_S y_S_slip y_S_slip ∈ gtb := gtb_of 288 (by decide +kernel) rfl
theorem gm_code_S_slip : Cond.code y_S_slip b_S_slip 7 (some .int) ∈ gtb := gtb_of 289 (by decide +kernel) rfl
theorem gm_ml_S_101 : Cond.methodLink R_S 101 y_S_itemNumbered ∈ gtb := gtb_of 290 (by decide +kernel) rfl
theorem gm_im_S_itemNumbered : Cond.instanceMethod y_S_itemNumbered ∈ gtb := gtb_of 292 (by decide +kernel) rfl
theorem gm_code_S_itemNumbered : Cond.code y_S_itemNumbered b_S_itemNumbered 2 (some (.object "BeltSteps$Item")) ∈ gtb := gtb_of 293 (by decide +kernel) rfl
theorem gm_k_S_105 : Cond.constantLong R_S 105 (1000000000) ∈ gtb := gtb_of 294 (by decide +kernel) rfl
theorem gm_ml_S_107 : Cond.methodLink R_S 107 y_I_isOnABelt ∈ gtb := gtb_of 295 (by decide +kernel) rfl
theorem gm_im_I_isOnABelt : Cond.instanceMethod y_I_isOnABelt ∈ gtb := gtb_of 296 (by decide +kernel) rfl
theorem gm_sel_I_isOnABelt : Cond.selects R_I y_I_isOnABelt y_I_isOnABelt ∈ gtb := gtb_of 297 (by decide +kernel) rfl
theorem gm_code_I_isOnABelt : Cond.code y_I_isOnABelt b_I_isOnABelt 1 (some .boolean) ∈ gtb := gtb_of 298 (by decide +kernel) rfl
theorem gm_ml_S_111 : Cond.methodLink R_S 111 y_I_placeAt ∈ gtb := gtb_of 299 (by decide +kernel) rfl
theorem gm_im_I_placeAt : Cond.instanceMethod y_I_placeAt ∈ gtb := gtb_of 300 (by decide +kernel) rfl
theorem gm_sel_I_placeAt : Cond.selects R_I y_I_placeAt y_I_placeAt ∈ gtb := gtb_of 301 (by decide +kernel) rfl
theorem gm_code_I_placeAt : Cond.code y_I_placeAt b_I_placeAt 3 (some .long) ∈ gtb := gtb_of 302 (by decide +kernel) rfl
theorem gm_ml_L_49 : Cond.methodLink R_L 49 y_S_place ∈ gtb := gtb_of 304 (by decide +kernel) rfl
theorem gm_im_S_place : Cond.instanceMethod y_S_place ∈ gtb := gtb_of 305 (by decide +kernel) rfl
theorem gm_sel_S_place : Cond.selects R_S y_S_place y_S_place ∈ gtb := gtb_of 306 (by decide +kernel) rfl
theorem gm_code_S_place : Cond.code y_S_place b_S_place 5 (some .long) ∈ gtb := gtb_of 307 (by decide +kernel) rfl
theorem gm_k_S_127 : Cond.constantLong R_S 127 (-11) ∈ gtb := gtb_of 308 (by decide +kernel) rfl
theorem gm_k_S_129 : Cond.constantLong R_S 129 (-12) ∈ gtb := gtb_of 309 (by decide +kernel) rfl
theorem gm_ml_S_131 : Cond.methodLink R_S 131 y_S_placeAhead ∈ gtb := gtb_of 310 (by decide +kernel) rfl
theorem gm_st_S_placeAhead : Cond.static y_S_placeAhead ∈ gtb := gtb_of 311 (by decide +kernel) rfl
theorem gm_code_S_placeAhead : Cond.code y_S_placeAhead b_S_placeAhead 12 (some .long) ∈ gtb := gtb_of 312 (by decide +kernel) rfl
theorem gm_k_S_196 : Cond.constantLong R_S 196 (-1) ∈ gtb := gtb_of 313 (by decide +kernel) rfl
theorem gm_k_S_201 : Cond.constantLong R_S 201 (-2) ∈ gtb := gtb_of 314 (by decide +kernel) rfl
theorem gm_ml_S_204 : Cond.methodLink R_S 204 y_B_timeOfWay ∈ gtb := gtb_of 315 (by decide +kernel) rfl
theorem gm_ml_L_54 : Cond.methodLink R_L 54 y_S_gap ∈ gtb := gtb_of 316 (by decide +kernel) rfl
theorem gm_im_S_gap : Cond.instanceMethod y_S_gap ∈ gtb := gtb_of 317 (by decide +kernel) rfl
theorem gm_sel_S_gap : Cond.selects R_S y_S_gap y_S_gap ∈ gtb := gtb_of 318 (by decide +kernel) rfl
theorem gm_code_S_gap : Cond.code y_S_gap b_S_gap 5 (some .int) ∈ gtb := gtb_of 319 (by decide +kernel) rfl
theorem gm_ml_L_58 : Cond.methodLink R_L 58 y_S_count ∈ gtb := gtb_of 320 (by decide +kernel) rfl
theorem gm_im_S_count : Cond.instanceMethod y_S_count ∈ gtb := gtb_of 321 (by decide +kernel) rfl
theorem gm_sel_S_count : Cond.selects R_S y_S_count y_S_count ∈ gtb := gtb_of 322 (by decide +kernel) rfl
theorem gm_code_S_count : Cond.code y_S_count b_S_count 5 (some .int) ∈ gtb := gtb_of 323 (by decide +kernel) rfl
theorem gm_ml_L_63 : Cond.methodLink R_L 63 y_S_gear ∈ gtb := gtb_of 324 (by decide +kernel) rfl
theorem gm_im_S_gear : Cond.instanceMethod y_S_gear ∈ gtb := gtb_of 325 (by decide +kernel) rfl
theorem gm_sel_S_gear : Cond.selects R_S y_S_gear y_S_gear ∈ gtb := gtb_of 326 (by decide +kernel) rfl
theorem gm_code_S_gear : Cond.code y_S_gear b_S_gear 5 (some .int) ∈ gtb := gtb_of 327 (by decide +kernel) rfl
theorem gm_ml_S_145 : Cond.methodLink R_S 145 y_B_gearAt ∈ gtb := gtb_of 328 (by decide +kernel) rfl
theorem gm_cl_L_10 : Cond.classLink R_L 10 R_M ∈ gtb := gtb_of 329 (by decide +kernel) rfl
theorem gm_inst_M : Cond.instantiable R_M 25 ∈ gtb := gtb_of 330 (by decide +kernel) rfl
theorem gm_ml_L_12 : Cond.methodLink R_L 12 y_M_init ∈ gtb := gtb_of 331 (by decide +kernel) rfl
theorem gm_im_M_init : Cond.instanceMethod y_M_init ∈ gtb := gtb_of 332 (by decide +kernel) rfl
theorem gm_code_M_init : Cond.code y_M_init b_M_init 1 none ∈ gtb := gtb_of 333 (by decide +kernel) rfl
theorem gm_ml_M_1 : Cond.methodLink R_M 1 objectInit ∈ gtb := gtb_of 334 (by decide +kernel) rfl
theorem gm_fl_M_69 : Cond.fieldLink R_M 69 "BeltStepsModel" "thrown" "I" ∈ gtb := gtb_of 335 (by decide +kernel) rfl
theorem gm_fl_M_79 : Cond.fieldLink R_M 79 "BeltStepsModel" "now" "J" ∈ gtb := gtb_of 336 (by decide +kernel) rfl
theorem gm_fl_M_73 : Cond.fieldLink R_M 73 "BeltStepsModel" "belts" "I" ∈ gtb := gtb_of 337 (by decide +kernel) rfl
theorem gm_fl_M_7 : Cond.fieldLink R_M 7 "BeltStepsModel" "longs" "[J" ∈ gtb := gtb_of 338 (by decide +kernel) rfl
theorem gm_fl_M_13 : Cond.fieldLink R_M 13 "BeltStepsModel" "speeds" "[J" ∈ gtb := gtb_of 339 (by decide +kernel) rfl
theorem gm_fl_M_16 : Cond.fieldLink R_M 16 "BeltStepsModel" "leads" "[I" ∈ gtb := gtb_of 340 (by decide +kernel) rfl
theorem gm_fl_M_20 : Cond.fieldLink R_M 20 "BeltStepsModel" "toldAt" "[J" ∈ gtb := gtb_of 341 (by decide +kernel) rfl
theorem gm_fl_M_23 : Cond.fieldLink R_M 23 "BeltStepsModel" "runs" "[Z" ∈ gtb := gtb_of 342 (by decide +kernel) rfl
theorem gm_fl_M_27 : Cond.fieldLink R_M 27 "BeltStepsModel" "before" "[I" ∈ gtb := gtb_of 343 (by decide +kernel) rfl
theorem gm_fl_M_30 : Cond.fieldLink R_M 30 "BeltStepsModel" "times" "[I" ∈ gtb := gtb_of 344 (by decide +kernel) rfl
theorem gm_fl_M_33 : Cond.fieldLink R_M 33 "BeltStepsModel" "rates" "[J" ∈ gtb := gtb_of 345 (by decide +kernel) rfl
theorem gm_fl_M_76 : Cond.fieldLink R_M 76 "BeltStepsModel" "items" "I" ∈ gtb := gtb_of 346 (by decide +kernel) rfl
theorem gm_fl_M_36 : Cond.fieldLink R_M 36 "BeltStepsModel" "size" "[J" ∈ gtb := gtb_of 347 (by decide +kernel) rfl
theorem gm_fl_M_39 : Cond.fieldLink R_M 39 "BeltStepsModel" "comes" "[J" ∈ gtb := gtb_of 348 (by decide +kernel) rfl
theorem gm_fl_M_42 : Cond.fieldLink R_M 42 "BeltStepsModel" "on" "[I" ∈ gtb := gtb_of 349 (by decide +kernel) rfl
theorem gm_fl_M_45 : Cond.fieldLink R_M 45 "BeltStepsModel" "place" "[J" ∈ gtb := gtb_of 350 (by decide +kernel) rfl
theorem gm_fl_M_48 : Cond.fieldLink R_M 48 "BeltStepsModel" "left" "[Z" ∈ gtb := gtb_of 351 (by decide +kernel) rfl
theorem gm_fl_M_51 : Cond.fieldLink R_M 51 "BeltStepsModel" "front" "[Z" ∈ gtb := gtb_of 352 (by decide +kernel) rfl
theorem gm_fl_M_54 : Cond.fieldLink R_M 54 "BeltStepsModel" "back" "[Z" ∈ gtb := gtb_of 353 (by decide +kernel) rfl
theorem gm_fl_M_116 : Cond.fieldLink R_M 116 "BeltStepsModel" "edges" "I" ∈ gtb := gtb_of 354 (by decide +kernel) rfl
theorem gm_fl_M_142 : Cond.fieldLink R_M 142 "BeltStepsModel" "known" "I" ∈ gtb := gtb_of 355 (by decide +kernel) rfl
theorem gm_fl_M_57 : Cond.fieldLink R_M 57 "BeltStepsModel" "edgeTime" "[J" ∈ gtb := gtb_of 356 (by decide +kernel) rfl
theorem gm_fl_M_60 : Cond.fieldLink R_M 60 "BeltStepsModel" "edgeBelt" "[I" ∈ gtb := gtb_of 357 (by decide +kernel) rfl
theorem gm_fl_M_63 : Cond.fieldLink R_M 63 "BeltStepsModel" "edgeItem" "[I" ∈ gtb := gtb_of 358 (by decide +kernel) rfl
theorem gm_fl_M_66 : Cond.fieldLink R_M 66 "BeltStepsModel" "edgeKind" "[I" ∈ gtb := gtb_of 359 (by decide +kernel) rfl
theorem gm_ac_boolean : Cond.arrayClass .boolean ∈ gtb := gtb_of 411 (by decide +kernel) rfl
theorem gm_ml_L_19 : Cond.methodLink R_L 19 y_M_belt ∈ gtb := gtb_of 412 (by decide +kernel) rfl
theorem gm_im_M_belt : Cond.instanceMethod y_M_belt ∈ gtb := gtb_of 413 (by decide +kernel) rfl
theorem gm_sel_M_belt : Cond.selects R_M y_M_belt y_M_belt ∈ gtb := gtb_of 414 (by decide +kernel) rfl
theorem gm_code_M_belt : Cond.code y_M_belt b_M_belt 5 (some .int) ∈ gtb := gtb_of 415 (by decide +kernel) rfl
theorem gm_k_M_89 : Cond.constantLong R_M 89 (100000) ∈ gtb := gtb_of 416 (by decide +kernel) rfl
theorem gm_k_M_91 : Cond.constantLong R_M 91 (100000000) ∈ gtb := gtb_of 417 (by decide +kernel) rfl
theorem gm_ml_M_85 : Cond.methodLink R_M 85 y_M_in ∈ gtb := gtb_of 418 (by decide +kernel) rfl
theorem gm_st_M_in : Cond.static y_M_in ∈ gtb := gtb_of 419 (by decide +kernel) rfl
theorem gm_code_M_in : Cond.code y_M_in b_M_in 6 (some .boolean) ∈ gtb := gtb_of 420 (by decide +kernel) rfl
theorem gm_k_M_93 : Cond.constantLong R_M 93 (5000) ∈ gtb := gtb_of 421 (by decide +kernel) rfl
theorem gm_ml_L_24 : Cond.methodLink R_L 24 y_M_join ∈ gtb := gtb_of 422 (by decide +kernel) rfl
theorem gm_im_M_join : Cond.instanceMethod y_M_join ∈ gtb := gtb_of 423 (by decide +kernel) rfl
theorem gm_sel_M_join : Cond.selects R_M y_M_join y_M_join ∈ gtb := gtb_of 424 (by decide +kernel) rfl
theorem gm_code_M_join : Cond.code y_M_join b_M_join 4 (some .int) ∈ gtb := gtb_of 425 (by decide +kernel) rfl
theorem gm_ml_M_95 : Cond.methodLink R_M 95 y_M_isBelt ∈ gtb := gtb_of 426 (by decide +kernel) rfl
theorem gm_im_M_isBelt : Cond.instanceMethod y_M_isBelt ∈ gtb := gtb_of 428 (by decide +kernel) rfl
theorem gm_code_M_isBelt : Cond.code y_M_isBelt b_M_isBelt 2 (some .boolean) ∈ gtb := gtb_of 429 (by decide +kernel) rfl
theorem gm_ml_L_29 : Cond.methodLink R_L 29 y_M_feed ∈ gtb := gtb_of 430 (by decide +kernel) rfl
theorem gm_im_M_feed : Cond.instanceMethod y_M_feed ∈ gtb := gtb_of 431 (by decide +kernel) rfl
theorem gm_sel_M_feed : Cond.selects R_M y_M_feed y_M_feed ∈ gtb := gtb_of 432 (by decide +kernel) rfl
theorem gm_code_M_feed : Cond.code y_M_feed b_M_feed 6 (some .int) ∈ gtb := gtb_of 433 (by decide +kernel) rfl
theorem gm_ml_M_99 : Cond.methodLink R_M 99 y_M_isTime ∈ gtb := gtb_of 434 (by decide +kernel) rfl
theorem gm_im_M_isTime : Cond.instanceMethod y_M_isTime ∈ gtb := gtb_of 436 (by decide +kernel) rfl
theorem gm_code_M_isTime : Cond.code y_M_isTime b_M_isTime 3 (some .boolean) ∈ gtb := gtb_of 437 (by decide +kernel) rfl
theorem gm_k_M_83 : Cond.constantLong R_M 83 (1000000) ∈ gtb := gtb_of 438 (by decide +kernel) rfl
theorem gm_ml_L_34 : Cond.methodLink R_L 34 y_M_step ∈ gtb := gtb_of 439 (by decide +kernel) rfl
theorem gm_im_M_step : Cond.instanceMethod y_M_step ∈ gtb := gtb_of 440 (by decide +kernel) rfl
theorem gm_sel_M_step : Cond.selects R_M y_M_step y_M_step ∈ gtb := gtb_of 441 (by decide +kernel) rfl
theorem gm_code_M_step : Cond.code y_M_step b_M_step 4 (some .int) ∈ gtb := gtb_of 442 (by decide +kernel) rfl
theorem gm_ml_M_138 : Cond.methodLink R_M 138 y_M_pass ∈ gtb := gtb_of 443 (by decide +kernel) rfl
theorem gm_im_M_pass : Cond.instanceMethod y_M_pass ∈ gtb := gtb_of 445 (by decide +kernel) rfl
theorem gm_code_M_pass : Cond.code y_M_pass b_M_pass 4 none ∈ gtb := gtb_of 446 (by decide +kernel) rfl
theorem gm_ml_M_128 : Cond.methodLink R_M 128 y_M_rateAt ∈ gtb := gtb_of 447 (by decide +kernel) rfl
theorem gm_im_M_rateAt : Cond.instanceMethod y_M_rateAt ∈ gtb := gtb_of 449 (by decide +kernel) rfl
theorem gm_code_M_rateAt : Cond.code y_M_rateAt b_M_rateAt 4 (some .long) ∈ gtb := gtb_of 450 (by decide +kernel) rfl
theorem gm_ml_M_107 : Cond.methodLink R_M 107 y_M_gearAt ∈ gtb := gtb_of 451 (by decide +kernel) rfl
theorem gm_im_M_gearAt : Cond.instanceMethod y_M_gearAt ∈ gtb := gtb_of 453 (by decide +kernel) rfl
theorem gm_code_M_gearAt : Cond.code y_M_gearAt b_M_gearAt 8 (some .int) ∈ gtb := gtb_of 454 (by decide +kernel) rfl
theorem gm_k_M_103 : Cond.constantLong R_M 103 (20) ∈ gtb := gtb_of 455 (by decide +kernel) rfl
theorem gm_k_M_105 : Cond.constantLong R_M 105 (8) ∈ gtb := gtb_of 456 (by decide +kernel) rfl
theorem gm_ml_M_111 : Cond.methodLink R_M 111 y_M_isThere ∈ gtb := gtb_of 457 (by decide +kernel) rfl
theorem gm_im_M_isThere : Cond.instanceMethod y_M_isThere ∈ gtb := gtb_of 459 (by decide +kernel) rfl
theorem gm_code_M_isThere : Cond.code y_M_isThere b_M_isThere 2 (some .boolean) ∈ gtb := gtb_of 460 (by decide +kernel) rfl
theorem gm_ml_M_132 : Cond.methodLink R_M 132 y_M_goOver ∈ gtb := gtb_of 461 (by decide +kernel) rfl
theorem gm_im_M_goOver : Cond.instanceMethod y_M_goOver ∈ gtb := gtb_of 463 (by decide +kernel) rfl
theorem gm_code_M_goOver : Cond.code y_M_goOver b_M_goOver 3 none ∈ gtb := gtb_of 464 (by decide +kernel) rfl
theorem gm_ml_M_135 : Cond.methodLink R_M 135 y_M_look ∈ gtb := gtb_of 465 (by decide +kernel) rfl
theorem gm_im_M_look : Cond.instanceMethod y_M_look ∈ gtb := gtb_of 467 (by decide +kernel) rfl
theorem gm_code_M_look : Cond.code y_M_look b_M_look 4 none ∈ gtb := gtb_of 468 (by decide +kernel) rfl
theorem gm_k_M_119 : Cond.constantLong R_M 119 (2) ∈ gtb := gtb_of 469 (by decide +kernel) rfl
theorem gm_ml_M_121 : Cond.methodLink R_M 121 y_M_isShort ∈ gtb := gtb_of 470 (by decide +kernel) rfl
theorem gm_im_M_isShort : Cond.instanceMethod y_M_isShort ∈ gtb := gtb_of 472 (by decide +kernel) rfl
theorem gm_code_M_isShort : Cond.code y_M_isShort b_M_isShort 5 (some .boolean) ∈ gtb := gtb_of 473 (by decide +kernel) rfl
theorem gm_k_M_114 : Cond.constantLong R_M 114 (50000) ∈ gtb := gtb_of 474 (by decide +kernel) rfl
theorem gm_ml_M_124 : Cond.methodLink R_M 124 y_M_tell ∈ gtb := gtb_of 475 (by decide +kernel) rfl
theorem gm_im_M_tell : Cond.instanceMethod y_M_tell ∈ gtb := gtb_of 477 (by decide +kernel) rfl
theorem gm_code_M_tell : Cond.code y_M_tell b_M_tell 3 none ∈ gtb := gtb_of 478 (by decide +kernel) rfl
theorem gm_ml_L_38 : Cond.methodLink R_L 38 y_M_edge ∈ gtb := gtb_of 479 (by decide +kernel) rfl
theorem gm_im_M_edge : Cond.instanceMethod y_M_edge ∈ gtb := gtb_of 480 (by decide +kernel) rfl
theorem gm_sel_M_edge : Cond.selects R_M y_M_edge y_M_edge ∈ gtb := gtb_of 481 (by decide +kernel) rfl
theorem gm_code_M_edge : Cond.code y_M_edge b_M_edge 3 (some .int) ∈ gtb := gtb_of 482 (by decide +kernel) rfl
theorem gm_ml_L_43 : Cond.methodLink R_L 43 y_M_stop ∈ gtb := gtb_of 483 (by decide +kernel) rfl
theorem gm_im_M_stop : Cond.instanceMethod y_M_stop ∈ gtb := gtb_of 484 (by decide +kernel) rfl
theorem gm_sel_M_stop : Cond.selects R_M y_M_stop y_M_stop ∈ gtb := gtb_of 485 (by decide +kernel) rfl
theorem gm_code_M_stop : Cond.code y_M_stop b_M_stop 5 (some .int) ∈ gtb := gtb_of 486 (by decide +kernel) rfl
theorem gm_ml_L_48 : Cond.methodLink R_L 48 y_M_slip ∈ gtb := gtb_of 487 (by decide +kernel) rfl
theorem gm_im_M_slip : Cond.instanceMethod y_M_slip ∈ gtb := gtb_of 488 (by decide +kernel) rfl
theorem gm_sel_M_slip : Cond.selects R_M y_M_slip y_M_slip ∈ gtb := gtb_of 489 (by decide +kernel) rfl
theorem gm_code_M_slip : Cond.code y_M_slip b_M_slip 6 (some .int) ∈ gtb := gtb_of 490 (by decide +kernel) rfl
theorem gm_ml_M_145 : Cond.methodLink R_M 145 y_M_isItem ∈ gtb := gtb_of 491 (by decide +kernel) rfl
theorem gm_im_M_isItem : Cond.instanceMethod y_M_isItem ∈ gtb := gtb_of 493 (by decide +kernel) rfl
theorem gm_code_M_isItem : Cond.code y_M_isItem b_M_isItem 2 (some .boolean) ∈ gtb := gtb_of 494 (by decide +kernel) rfl
theorem gm_k_M_148 : Cond.constantLong R_M 148 (1000000000) ∈ gtb := gtb_of 495 (by decide +kernel) rfl
theorem gm_ml_L_53 : Cond.methodLink R_L 53 y_M_place ∈ gtb := gtb_of 496 (by decide +kernel) rfl
theorem gm_im_M_place : Cond.instanceMethod y_M_place ∈ gtb := gtb_of 497 (by decide +kernel) rfl
theorem gm_sel_M_place : Cond.selects R_M y_M_place y_M_place ∈ gtb := gtb_of 498 (by decide +kernel) rfl
theorem gm_code_M_place : Cond.code y_M_place b_M_place 9 (some .long) ∈ gtb := gtb_of 499 (by decide +kernel) rfl
theorem gm_k_M_150 : Cond.constantLong R_M 150 (-11) ∈ gtb := gtb_of 500 (by decide +kernel) rfl
theorem gm_k_M_152 : Cond.constantLong R_M 152 (-12) ∈ gtb := gtb_of 501 (by decide +kernel) rfl
theorem gm_k_M_154 : Cond.constantLong R_M 154 (-1) ∈ gtb := gtb_of 502 (by decide +kernel) rfl
theorem gm_k_M_156 : Cond.constantLong R_M 156 (-2) ∈ gtb := gtb_of 503 (by decide +kernel) rfl
theorem gm_ml_L_57 : Cond.methodLink R_L 57 y_M_gap ∈ gtb := gtb_of 504 (by decide +kernel) rfl
theorem gm_im_M_gap : Cond.instanceMethod y_M_gap ∈ gtb := gtb_of 505 (by decide +kernel) rfl
theorem gm_sel_M_gap : Cond.selects R_M y_M_gap y_M_gap ∈ gtb := gtb_of 506 (by decide +kernel) rfl
theorem gm_code_M_gap : Cond.code y_M_gap b_M_gap 3 (some .int) ∈ gtb := gtb_of 507 (by decide +kernel) rfl
theorem gm_ml_L_62 : Cond.methodLink R_L 62 y_M_count ∈ gtb := gtb_of 508 (by decide +kernel) rfl
theorem gm_im_M_count : Cond.instanceMethod y_M_count ∈ gtb := gtb_of 509 (by decide +kernel) rfl
theorem gm_sel_M_count : Cond.selects R_M y_M_count y_M_count ∈ gtb := gtb_of 510 (by decide +kernel) rfl
theorem gm_code_M_count : Cond.code y_M_count b_M_count 4 (some .int) ∈ gtb := gtb_of 511 (by decide +kernel) rfl
theorem gm_ml_L_66 : Cond.methodLink R_L 66 y_M_gear ∈ gtb := gtb_of 512 (by decide +kernel) rfl
theorem gm_im_M_gear : Cond.instanceMethod y_M_gear ∈ gtb := gtb_of 513 (by decide +kernel) rfl
theorem gm_sel_M_gear : Cond.selects R_M y_M_gear y_M_gear ∈ gtb := gtb_of 514 (by decide +kernel) rfl
theorem gm_code_M_gear : Cond.code y_M_gear b_M_gear 4 (some .int) ∈ gtb := gtb_of 515 (by decide +kernel) rfl
theorem gm_k_L_13 : Cond.constantLong R_L 13 (4294967295) ∈ gtb := gtb_of 516 (by decide +kernel) rfl
theorem gm_ml_B_69 : Cond.methodLink R_B 69 Lib.Math.min.name ∈ gtb := gtb_of 122 (by decide +kernel) rfl
theorem gm_st_min : Cond.static Lib.Math.min.name ∈ gtb := gtb_of 123 (by decide +kernel) rfl
theorem gm_code_min : Cond.code Lib.Math.min.name Lib.Math.min.code 2 (some .int) ∈ gtb := gtb_of 124 (by decide +kernel) rfl
theorem gm_ml_B_75 : Cond.methodLink R_B 75 Lib.Math.max.name ∈ gtb := gtb_of 125 (by decide +kernel) rfl
theorem gm_st_max : Cond.static Lib.Math.max.name ∈ gtb := gtb_of 126 (by decide +kernel) rfl
theorem gm_code_max : Cond.code Lib.Math.max.name Lib.Math.max.code 2 (some .int) ∈ gtb := gtb_of 127 (by decide +kernel) rfl
theorem gm_ml_I_61 : Cond.methodLink R_I 61 Lib.MathLoose.min_long.x ∈ gtb := gtb_of 201 (by decide +kernel) rfl
theorem gm_st_minl : Cond.static Lib.MathLoose.min_long.x ∈ gtb := gtb_of 202 (by decide +kernel) rfl
theorem gm_code_minl : Cond.code Lib.MathLoose.min_long.x Lib.MathLoose.min_long.code 4 (some .long) ∈ gtb := gtb_of 203 (by decide +kernel) rfl
theorem gm_ml_S_115 : Cond.methodLink R_S 115 Lib.MathLoose.min_long.x ∈ gtb := gtb_of 303 (by decide +kernel) rfl
theorem gm_sel_S_beltNumbered : Cond.selects R_S y_S_beltNumbered y_S_beltNumbered ∈ gtb := gtb_sel (by decide +kernel) rfl
theorem gm_sel_S_isNowOrLater : Cond.selects R_S y_S_isNowOrLater y_S_isNowOrLater ∈ gtb := gtb_sel (by decide +kernel) rfl
theorem gm_sel_S_passTo : Cond.selects R_S y_S_passTo y_S_passTo ∈ gtb := gtb_sel (by decide +kernel) rfl
theorem gm_sel_S_nextTurn : Cond.selects R_S y_S_nextTurn y_S_nextTurn ∈ gtb := gtb_sel (by decide +kernel) rfl
theorem gm_sel_S_moveItems : Cond.selects R_S y_S_moveItems y_S_moveItems ∈ gtb := gtb_sel (by decide +kernel) rfl
theorem gm_sel_S_tellEdges : Cond.selects R_S y_S_tellEdges y_S_tellEdges ∈ gtb := gtb_sel (by decide +kernel) rfl
theorem gm_sel_S_tellEdgesOf : Cond.selects R_S y_S_tellEdgesOf y_S_tellEdgesOf ∈ gtb := gtb_sel (by decide +kernel) rfl
theorem gm_sel_S_isShort : Cond.selects R_S y_S_isShort y_S_isShort ∈ gtb := gtb_sel (by decide +kernel) rfl
theorem gm_sel_S_aimItemsOn : Cond.selects R_S y_S_aimItemsOn y_S_aimItemsOn ∈ gtb := gtb_sel (by decide +kernel) rfl
theorem gm_sel_S_itemNumbered : Cond.selects R_S y_S_itemNumbered y_S_itemNumbered ∈ gtb := gtb_sel (by decide +kernel) rfl
theorem gm_sel_M_isBelt : Cond.selects R_M y_M_isBelt y_M_isBelt ∈ gtb := gtb_sel (by decide +kernel) rfl
theorem gm_sel_M_isTime : Cond.selects R_M y_M_isTime y_M_isTime ∈ gtb := gtb_sel (by decide +kernel) rfl
theorem gm_sel_M_pass : Cond.selects R_M y_M_pass y_M_pass ∈ gtb := gtb_sel (by decide +kernel) rfl
theorem gm_sel_M_rateAt : Cond.selects R_M y_M_rateAt y_M_rateAt ∈ gtb := gtb_sel (by decide +kernel) rfl
theorem gm_sel_M_gearAt : Cond.selects R_M y_M_gearAt y_M_gearAt ∈ gtb := gtb_sel (by decide +kernel) rfl
theorem gm_sel_M_isThere : Cond.selects R_M y_M_isThere y_M_isThere ∈ gtb := gtb_sel (by decide +kernel) rfl
theorem gm_sel_M_goOver : Cond.selects R_M y_M_goOver y_M_goOver ∈ gtb := gtb_sel (by decide +kernel) rfl
theorem gm_sel_M_look : Cond.selects R_M y_M_look y_M_look ∈ gtb := gtb_sel (by decide +kernel) rfl
theorem gm_sel_M_isShort : Cond.selects R_M y_M_isShort y_M_isShort ∈ gtb := gtb_sel (by decide +kernel) rfl
theorem gm_sel_M_tell : Cond.selects R_M y_M_tell y_M_tell ∈ gtb := gtb_sel (by decide +kernel) rfl
theorem gm_sel_M_isItem : Cond.selects R_M y_M_isItem y_M_isItem ∈ gtb := gtb_sel (by decide +kernel) rfl
theorem u_B : ∀ w ∈ u_ws R_B F_B 13, w ∈ gtb := by decide +kernel
theorem u_E : ∀ w ∈ u_ws R_E F_E 3, w ∈ gtb := by decide +kernel
theorem u_I : ∀ w ∈ u_ws R_I F_I 8, w ∈ gtb := by decide +kernel
theorem u_S : ∀ w ∈ u_ws R_S F_S 6, w ∈ gtb := by decide +kernel
theorem u_M : ∀ w ∈ u_ws R_M F_M 25, w ∈ gtb := by decide +kernel
end
section
theorem d_S_init_0 : decode b_S_init 0 = .ok (.aload_n 0, 1) := by decide +kernel
theorem d_S_init_1 : decode b_S_init 1 = .ok (.invokespecial 1, 3) := by decide +kernel
theorem d_S_init_4 : decode b_S_init 4 = .ok (.aload_n 0, 1) := by decide +kernel
theorem d_S_init_5 : decode b_S_init 5 = .ok (.bipush 12, 2) := by decide +kernel
theorem d_S_init_7 : decode b_S_init 7 = .ok (.anewarray 9, 3) := by decide +kernel
theorem d_S_init_10 : decode b_S_init 10 = .ok (.putfield 11, 3) := by decide +kernel
theorem d_S_init_13 : decode b_S_init 13 = .ok (.aload_n 0, 1) := by decide +kernel
theorem d_S_init_14 : decode b_S_init 14 = .ok (.iconst 0, 1) := by decide +kernel
theorem d_S_init_15 : decode b_S_init 15 = .ok (.putfield 15, 3) := by decide +kernel
theorem d_S_init_18 : decode b_S_init 18 = .ok (.aload_n 0, 1) := by decide +kernel
theorem d_S_init_19 : decode b_S_init 19 = .ok (.bipush 60, 2) := by decide +kernel
theorem d_S_init_21 : decode b_S_init 21 = .ok (.anewarray 19, 3) := by decide +kernel
theorem d_S_init_24 : decode b_S_init 24 = .ok (.putfield 21, 3) := by decide +kernel
theorem d_S_init_27 : decode b_S_init 27 = .ok (.aload_n 0, 1) := by decide +kernel
theorem d_S_init_28 : decode b_S_init 28 = .ok (.iconst 0, 1) := by decide +kernel
theorem d_S_init_29 : decode b_S_init 29 = .ok (.putfield 25, 3) := by decide +kernel
theorem d_S_init_32 : decode b_S_init 32 = .ok (.aload_n 0, 1) := by decide +kernel
theorem d_S_init_33 : decode b_S_init 33 = .ok (.new 28, 3) := by decide +kernel
theorem d_S_init_36 : decode b_S_init 36 = .ok (.dup, 1) := by decide +kernel
theorem d_S_init_37 : decode b_S_init 37 = .ok (.invokespecial 30, 3) := by decide +kernel
theorem d_S_init_40 : decode b_S_init 40 = .ok (.putfield 31, 3) := by decide +kernel
theorem d_S_init_43 : decode b_S_init 43 = .ok (.aload_n 0, 1) := by decide +kernel
theorem d_S_init_44 : decode b_S_init 44 = .ok (.lconst 0, 1) := by decide +kernel
theorem d_S_init_45 : decode b_S_init 45 = .ok (.putfield 35, 3) := by decide +kernel
theorem d_S_init_48 : decode b_S_init 48 = .ok (.return_, 1) := by decide +kernel
theorem d_E_init_0 : decode b_E_init 0 = .ok (.aload_n 0, 1) := by decide +kernel
theorem d_E_init_1 : decode b_E_init 1 = .ok (.invokespecial 3, 3) := by decide +kernel
theorem d_E_init_4 : decode b_E_init 4 = .ok (.aload_n 0, 1) := by decide +kernel
theorem d_E_init_5 : decode b_E_init 5 = .ok (.sipush 1600, 3) := by decide +kernel
theorem d_E_init_8 : decode b_E_init 8 = .ok (.newarray .int, 2) := by decide +kernel
theorem d_E_init_10 : decode b_E_init 10 = .ok (.putfield 11, 3) := by decide +kernel
theorem d_E_init_13 : decode b_E_init 13 = .ok (.aload_n 0, 1) := by decide +kernel
theorem d_E_init_14 : decode b_E_init 14 = .ok (.iconst 0, 1) := by decide +kernel
theorem d_E_init_15 : decode b_E_init 15 = .ok (.putfield 15, 3) := by decide +kernel
theorem d_E_init_18 : decode b_E_init 18 = .ok (.aload_n 0, 1) := by decide +kernel
theorem d_E_init_19 : decode b_E_init 19 = .ok (.iconst 0, 1) := by decide +kernel
theorem d_E_init_20 : decode b_E_init 20 = .ok (.putfield 19, 3) := by decide +kernel
theorem d_E_init_23 : decode b_E_init 23 = .ok (.return_, 1) := by decide +kernel
theorem d_S_belt_0 : decode b_S_belt 0 = .ok (.lload_n 1, 1) := by decide +kernel
theorem d_S_belt_1 : decode b_S_belt 1 = .ok (.ldc2_w 39, 3) := by decide +kernel
theorem d_S_belt_4 : decode b_S_belt 4 = .ok (.lcmp, 1) := by decide +kernel
theorem d_S_belt_5 : decode b_S_belt 5 = .ok (.ifCond .lt 11, 3) := by decide +kernel
theorem d_S_belt_8 : decode b_S_belt 8 = .ok (.lload_n 1, 1) := by decide +kernel
theorem d_S_belt_9 : decode b_S_belt 9 = .ok (.ldc2_w 41, 3) := by decide +kernel
theorem d_S_belt_12 : decode b_S_belt 12 = .ok (.lcmp, 1) := by decide +kernel
theorem d_S_belt_13 : decode b_S_belt 13 = .ok (.ifCond .le 6, 3) := by decide +kernel
theorem d_S_belt_16 : decode b_S_belt 16 = .ok (.bipush (-12), 2) := by decide +kernel
theorem d_S_belt_18 : decode b_S_belt 18 = .ok (.ireturn, 1) := by decide +kernel
theorem d_S_belt_19 : decode b_S_belt 19 = .ok (.lload_n 3, 1) := by decide +kernel
theorem d_S_belt_20 : decode b_S_belt 20 = .ok (.lconst 1, 1) := by decide +kernel
theorem d_S_belt_21 : decode b_S_belt 21 = .ok (.lcmp, 1) := by decide +kernel
theorem d_S_belt_22 : decode b_S_belt 22 = .ok (.ifCond .lt 11, 3) := by decide +kernel
theorem d_S_belt_25 : decode b_S_belt 25 = .ok (.lload_n 3, 1) := by decide +kernel
theorem d_S_belt_26 : decode b_S_belt 26 = .ok (.ldc2_w 43, 3) := by decide +kernel
theorem d_S_belt_29 : decode b_S_belt 29 = .ok (.lcmp, 1) := by decide +kernel
theorem d_S_belt_30 : decode b_S_belt 30 = .ok (.ifCond .le 6, 3) := by decide +kernel
theorem d_S_belt_33 : decode b_S_belt 33 = .ok (.bipush (-12), 2) := by decide +kernel
theorem d_S_belt_35 : decode b_S_belt 35 = .ok (.ireturn, 1) := by decide +kernel
theorem d_S_belt_36 : decode b_S_belt 36 = .ok (.aload_n 0, 1) := by decide +kernel
theorem d_S_belt_37 : decode b_S_belt 37 = .ok (.getfield 15, 3) := by decide +kernel
theorem d_S_belt_40 : decode b_S_belt 40 = .ok (.bipush 12, 2) := by decide +kernel
theorem d_S_belt_42 : decode b_S_belt 42 = .ok (.if_icmp .lt 6, 3) := by decide +kernel
theorem d_S_belt_45 : decode b_S_belt 45 = .ok (.bipush (-14), 2) := by decide +kernel
theorem d_S_belt_47 : decode b_S_belt 47 = .ok (.ireturn, 1) := by decide +kernel
theorem d_S_belt_48 : decode b_S_belt 48 = .ok (.new 9, 3) := by decide +kernel
theorem d_S_belt_51 : decode b_S_belt 51 = .ok (.dup, 1) := by decide +kernel
theorem d_S_belt_52 : decode b_S_belt 52 = .ok (.aload_n 0, 1) := by decide +kernel
theorem d_S_belt_53 : decode b_S_belt 53 = .ok (.getfield 15, 3) := by decide +kernel
theorem d_S_belt_56 : decode b_S_belt 56 = .ok (.lload_n 1, 1) := by decide +kernel
theorem d_S_belt_57 : decode b_S_belt 57 = .ok (.lload_n 3, 1) := by decide +kernel
theorem d_S_belt_58 : decode b_S_belt 58 = .ok (.invokespecial 45, 3) := by decide +kernel
theorem d_S_belt_61 : decode b_S_belt 61 = .ok (.astore 5, 2) := by decide +kernel
theorem d_S_belt_63 : decode b_S_belt 63 = .ok (.aload 5, 2) := by decide +kernel
theorem d_S_belt_65 : decode b_S_belt 65 = .ok (.invokevirtual 48, 3) := by decide +kernel
theorem d_S_belt_68 : decode b_S_belt 68 = .ok (.aload_n 0, 1) := by decide +kernel
theorem d_S_belt_69 : decode b_S_belt 69 = .ok (.getfield 11, 3) := by decide +kernel
theorem d_S_belt_72 : decode b_S_belt 72 = .ok (.aload_n 0, 1) := by decide +kernel
theorem d_S_belt_73 : decode b_S_belt 73 = .ok (.getfield 15, 3) := by decide +kernel
theorem d_S_belt_76 : decode b_S_belt 76 = .ok (.aload 5, 2) := by decide +kernel
theorem d_S_belt_78 : decode b_S_belt 78 = .ok (.aastore, 1) := by decide +kernel
theorem d_S_belt_79 : decode b_S_belt 79 = .ok (.aload_n 0, 1) := by decide +kernel
theorem d_S_belt_80 : decode b_S_belt 80 = .ok (.dup, 1) := by decide +kernel
theorem d_S_belt_81 : decode b_S_belt 81 = .ok (.getfield 15, 3) := by decide +kernel
theorem d_S_belt_84 : decode b_S_belt 84 = .ok (.iconst 1, 1) := by decide +kernel
theorem d_S_belt_85 : decode b_S_belt 85 = .ok (.iadd, 1) := by decide +kernel
theorem d_S_belt_86 : decode b_S_belt 86 = .ok (.putfield 15, 3) := by decide +kernel
theorem d_S_belt_89 : decode b_S_belt 89 = .ok (.aload 5, 2) := by decide +kernel
theorem d_S_belt_91 : decode b_S_belt 91 = .ok (.getfield 51, 3) := by decide +kernel
theorem d_S_belt_94 : decode b_S_belt 94 = .ok (.ireturn, 1) := by decide +kernel
theorem d_B_init_0 : decode b_B_init 0 = .ok (.aload_n 0, 1) := by decide +kernel
theorem d_B_init_1 : decode b_B_init 1 = .ok (.invokespecial 3, 3) := by decide +kernel
theorem d_B_init_4 : decode b_B_init 4 = .ok (.aload_n 0, 1) := by decide +kernel
theorem d_B_init_5 : decode b_B_init 5 = .ok (.aconst_null, 1) := by decide +kernel
theorem d_B_init_6 : decode b_B_init 6 = .ok (.putfield 9, 3) := by decide +kernel
theorem d_B_init_9 : decode b_B_init 9 = .ok (.aload_n 0, 1) := by decide +kernel
theorem d_B_init_10 : decode b_B_init 10 = .ok (.iconst 1, 1) := by decide +kernel
theorem d_B_init_11 : decode b_B_init 11 = .ok (.putfield 15, 3) := by decide +kernel
theorem d_B_init_14 : decode b_B_init 14 = .ok (.aload_n 0, 1) := by decide +kernel
theorem d_B_init_15 : decode b_B_init 15 = .ok (.iconst 0, 1) := by decide +kernel
theorem d_B_init_16 : decode b_B_init 16 = .ok (.putfield 19, 3) := by decide +kernel
theorem d_B_init_19 : decode b_B_init 19 = .ok (.aload_n 0, 1) := by decide +kernel
theorem d_B_init_20 : decode b_B_init 20 = .ok (.lconst 0, 1) := by decide +kernel
theorem d_B_init_21 : decode b_B_init 21 = .ok (.putfield 23, 3) := by decide +kernel
theorem d_B_init_24 : decode b_B_init 24 = .ok (.aload_n 0, 1) := by decide +kernel
theorem d_B_init_25 : decode b_B_init 25 = .ok (.bipush 8, 2) := by decide +kernel
theorem d_B_init_27 : decode b_B_init 27 = .ok (.putfield 27, 3) := by decide +kernel
theorem d_B_init_30 : decode b_B_init 30 = .ok (.aload_n 0, 1) := by decide +kernel
theorem d_B_init_31 : decode b_B_init 31 = .ok (.lconst 0, 1) := by decide +kernel
theorem d_B_init_32 : decode b_B_init 32 = .ok (.putfield 30, 3) := by decide +kernel
theorem d_B_init_35 : decode b_B_init 35 = .ok (.aload_n 0, 1) := by decide +kernel
theorem d_B_init_36 : decode b_B_init 36 = .ok (.bipush 8, 2) := by decide +kernel
theorem d_B_init_38 : decode b_B_init 38 = .ok (.newarray .int, 2) := by decide +kernel
theorem d_B_init_40 : decode b_B_init 40 = .ok (.putfield 33, 3) := by decide +kernel
theorem d_B_init_43 : decode b_B_init 43 = .ok (.aload_n 0, 1) := by decide +kernel
theorem d_B_init_44 : decode b_B_init 44 = .ok (.bipush 8, 2) := by decide +kernel
theorem d_B_init_46 : decode b_B_init 46 = .ok (.newarray .long, 2) := by decide +kernel
theorem d_B_init_48 : decode b_B_init 48 = .ok (.putfield 37, 3) := by decide +kernel
theorem d_B_init_51 : decode b_B_init 51 = .ok (.aload_n 0, 1) := by decide +kernel
theorem d_B_init_52 : decode b_B_init 52 = .ok (.bipush 8, 2) := by decide +kernel
theorem d_B_init_54 : decode b_B_init 54 = .ok (.newarray .long, 2) := by decide +kernel
theorem d_B_init_56 : decode b_B_init 56 = .ok (.putfield 41, 3) := by decide +kernel
theorem d_B_init_59 : decode b_B_init 59 = .ok (.aload_n 0, 1) := by decide +kernel
theorem d_B_init_60 : decode b_B_init 60 = .ok (.iload_n 1, 1) := by decide +kernel
theorem d_B_init_61 : decode b_B_init 61 = .ok (.putfield 44, 3) := by decide +kernel
theorem d_B_init_64 : decode b_B_init 64 = .ok (.aload_n 0, 1) := by decide +kernel
theorem d_B_init_65 : decode b_B_init 65 = .ok (.lload_n 2, 1) := by decide +kernel
theorem d_B_init_66 : decode b_B_init 66 = .ok (.putfield 47, 3) := by decide +kernel
theorem d_B_init_69 : decode b_B_init 69 = .ok (.aload_n 0, 1) := by decide +kernel
theorem d_B_init_70 : decode b_B_init 70 = .ok (.lload 4, 2) := by decide +kernel
theorem d_B_init_72 : decode b_B_init 72 = .ok (.putfield 50, 3) := by decide +kernel
theorem d_B_init_75 : decode b_B_init 75 = .ok (.aload_n 0, 1) := by decide +kernel
theorem d_B_init_76 : decode b_B_init 76 = .ok (.lload_n 2, 1) := by decide +kernel
theorem d_B_init_77 : decode b_B_init 77 = .ok (.ldc2_w 53, 3) := by decide +kernel
theorem d_B_init_80 : decode b_B_init 80 = .ok (.ldiv, 1) := by decide +kernel
theorem d_B_init_81 : decode b_B_init 81 = .ok (.putfield 55, 3) := by decide +kernel
theorem d_B_init_84 : decode b_B_init 84 = .ok (.return_, 1) := by decide +kernel
theorem d_B_layStages_0 : decode b_B_layStages 0 = .ok (.aload_n 0, 1) := by decide +kernel
theorem d_B_layStages_1 : decode b_B_layStages 1 = .ok (.getfield 30, 3) := by decide +kernel
theorem d_B_layStages_4 : decode b_B_layStages 4 = .ok (.lstore_n 1, 1) := by decide +kernel
theorem d_B_layStages_5 : decode b_B_layStages 5 = .ok (.iconst 0, 1) := by decide +kernel
theorem d_B_layStages_6 : decode b_B_layStages 6 = .ok (.istore_n 3, 1) := by decide +kernel
theorem d_B_layStages_7 : decode b_B_layStages 7 = .ok (.iload_n 3, 1) := by decide +kernel
theorem d_B_layStages_8 : decode b_B_layStages 8 = .ok (.bipush 8, 2) := by decide +kernel
theorem d_B_layStages_10 : decode b_B_layStages 10 = .ok (.if_icmp .ge 96, 3) := by decide +kernel
theorem d_B_layStages_13 : decode b_B_layStages 13 = .ok (.aload_n 0, 1) := by decide +kernel
theorem d_B_layStages_14 : decode b_B_layStages 14 = .ok (.getfield 15, 3) := by decide +kernel
theorem d_B_layStages_17 : decode b_B_layStages 17 = .ok (.ifCond .eq 14, 3) := by decide +kernel
theorem d_B_layStages_20 : decode b_B_layStages 20 = .ok (.aload_n 0, 1) := by decide +kernel
theorem d_B_layStages_21 : decode b_B_layStages 21 = .ok (.getfield 27, 3) := by decide +kernel
theorem d_B_layStages_24 : decode b_B_layStages 24 = .ok (.iload_n 3, 1) := by decide +kernel
theorem d_B_layStages_25 : decode b_B_layStages 25 = .ok (.iadd, 1) := by decide +kernel
theorem d_B_layStages_26 : decode b_B_layStages 26 = .ok (.iconst 1, 1) := by decide +kernel
theorem d_B_layStages_27 : decode b_B_layStages 27 = .ok (.iadd, 1) := by decide +kernel
theorem d_B_layStages_28 : decode b_B_layStages 28 = .ok (.goto 11, 3) := by decide +kernel
theorem d_B_layStages_31 : decode b_B_layStages 31 = .ok (.aload_n 0, 1) := by decide +kernel
theorem d_B_layStages_32 : decode b_B_layStages 32 = .ok (.getfield 27, 3) := by decide +kernel
theorem d_B_layStages_35 : decode b_B_layStages 35 = .ok (.iload_n 3, 1) := by decide +kernel
theorem d_B_layStages_36 : decode b_B_layStages 36 = .ok (.isub, 1) := by decide +kernel
theorem d_B_layStages_37 : decode b_B_layStages 37 = .ok (.iconst 1, 1) := by decide +kernel
theorem d_B_layStages_38 : decode b_B_layStages 38 = .ok (.isub, 1) := by decide +kernel
theorem d_B_layStages_39 : decode b_B_layStages 39 = .ok (.istore 4, 2) := by decide +kernel
theorem d_B_layStages_41 : decode b_B_layStages 41 = .ok (.aload_n 0, 1) := by decide +kernel
theorem d_B_layStages_42 : decode b_B_layStages 42 = .ok (.getfield 33, 3) := by decide +kernel
theorem d_B_layStages_45 : decode b_B_layStages 45 = .ok (.iload_n 3, 1) := by decide +kernel
theorem d_B_layStages_46 : decode b_B_layStages 46 = .ok (.iconst 0, 1) := by decide +kernel
theorem d_B_layStages_47 : decode b_B_layStages 47 = .ok (.bipush 8, 2) := by decide +kernel
theorem d_B_layStages_49 : decode b_B_layStages 49 = .ok (.iload 4, 2) := by decide +kernel
theorem d_B_layStages_51 : decode b_B_layStages 51 = .ok (.invokestatic 69, 3) := by decide +kernel
theorem d_B_layStages_54 : decode b_B_layStages 54 = .ok (.invokestatic 75, 3) := by decide +kernel
theorem d_B_layStages_57 : decode b_B_layStages 57 = .ok (.iastore, 1) := by decide +kernel
theorem d_B_layStages_58 : decode b_B_layStages 58 = .ok (.aload_n 0, 1) := by decide +kernel
theorem d_B_layStages_59 : decode b_B_layStages 59 = .ok (.getfield 37, 3) := by decide +kernel
theorem d_B_layStages_62 : decode b_B_layStages 62 = .ok (.iload_n 3, 1) := by decide +kernel
theorem d_B_layStages_63 : decode b_B_layStages 63 = .ok (.aload_n 0, 1) := by decide +kernel
theorem d_B_layStages_64 : decode b_B_layStages 64 = .ok (.getfield 50, 3) := by decide +kernel
theorem d_B_layStages_67 : decode b_B_layStages 67 = .ok (.aload_n 0, 1) := by decide +kernel
theorem d_B_layStages_68 : decode b_B_layStages 68 = .ok (.getfield 33, 3) := by decide +kernel
theorem d_B_layStages_71 : decode b_B_layStages 71 = .ok (.iload_n 3, 1) := by decide +kernel
theorem d_B_layStages_72 : decode b_B_layStages 72 = .ok (.iaload, 1) := by decide +kernel
theorem d_B_layStages_73 : decode b_B_layStages 73 = .ok (.i2l, 1) := by decide +kernel
theorem d_B_layStages_74 : decode b_B_layStages 74 = .ok (.lmul, 1) := by decide +kernel
theorem d_B_layStages_75 : decode b_B_layStages 75 = .ok (.ldc2_w 78, 3) := by decide +kernel
theorem d_B_layStages_78 : decode b_B_layStages 78 = .ok (.ldiv, 1) := by decide +kernel
theorem d_B_layStages_79 : decode b_B_layStages 79 = .ok (.lastore, 1) := by decide +kernel
theorem d_B_layStages_80 : decode b_B_layStages 80 = .ok (.aload_n 0, 1) := by decide +kernel
theorem d_B_layStages_81 : decode b_B_layStages 81 = .ok (.getfield 41, 3) := by decide +kernel
theorem d_B_layStages_84 : decode b_B_layStages 84 = .ok (.iload_n 3, 1) := by decide +kernel
theorem d_B_layStages_85 : decode b_B_layStages 85 = .ok (.lload_n 1, 1) := by decide +kernel
theorem d_B_layStages_86 : decode b_B_layStages 86 = .ok (.lastore, 1) := by decide +kernel
theorem d_B_layStages_87 : decode b_B_layStages 87 = .ok (.lload_n 1, 1) := by decide +kernel
theorem d_B_layStages_88 : decode b_B_layStages 88 = .ok (.aload_n 0, 1) := by decide +kernel
theorem d_B_layStages_89 : decode b_B_layStages 89 = .ok (.getfield 37, 3) := by decide +kernel
theorem d_B_layStages_92 : decode b_B_layStages 92 = .ok (.iload_n 3, 1) := by decide +kernel
theorem d_B_layStages_93 : decode b_B_layStages 93 = .ok (.laload, 1) := by decide +kernel
theorem d_B_layStages_94 : decode b_B_layStages 94 = .ok (.ldc2_w 80, 3) := by decide +kernel
theorem d_B_layStages_97 : decode b_B_layStages 97 = .ok (.lmul, 1) := by decide +kernel
theorem d_B_layStages_98 : decode b_B_layStages 98 = .ok (.ladd, 1) := by decide +kernel
theorem d_B_layStages_99 : decode b_B_layStages 99 = .ok (.lstore_n 1, 1) := by decide +kernel
theorem d_B_layStages_100 : decode b_B_layStages 100 = .ok (.iinc 3 1, 3) := by decide +kernel
theorem d_B_layStages_103 : decode b_B_layStages 103 = .ok (.goto (-96), 3) := by decide +kernel
theorem d_B_layStages_106 : decode b_B_layStages 106 = .ok (.return_, 1) := by decide +kernel
theorem d_S_join_0 : decode b_S_join 0 = .ok (.aload_n 0, 1) := by decide +kernel
theorem d_S_join_1 : decode b_S_join 1 = .ok (.iload_n 1, 1) := by decide +kernel
theorem d_S_join_2 : decode b_S_join 2 = .ok (.invokevirtual 54, 3) := by decide +kernel
theorem d_S_join_5 : decode b_S_join 5 = .ok (.astore_n 3, 1) := by decide +kernel
theorem d_S_join_6 : decode b_S_join 6 = .ok (.aload_n 0, 1) := by decide +kernel
theorem d_S_join_7 : decode b_S_join 7 = .ok (.iload_n 2, 1) := by decide +kernel
theorem d_S_join_8 : decode b_S_join 8 = .ok (.invokevirtual 54, 3) := by decide +kernel
theorem d_S_join_11 : decode b_S_join 11 = .ok (.astore 4, 2) := by decide +kernel
theorem d_S_join_13 : decode b_S_join 13 = .ok (.aload_n 3, 1) := by decide +kernel
theorem d_S_join_14 : decode b_S_join 14 = .ok (.ifnull 8, 3) := by decide +kernel
theorem d_S_join_17 : decode b_S_join 17 = .ok (.aload 4, 2) := by decide +kernel
theorem d_S_join_19 : decode b_S_join 19 = .ok (.ifnonnull 6, 3) := by decide +kernel
theorem d_S_join_22 : decode b_S_join 22 = .ok (.bipush (-11), 2) := by decide +kernel
theorem d_S_join_24 : decode b_S_join 24 = .ok (.ireturn, 1) := by decide +kernel
theorem d_S_join_25 : decode b_S_join 25 = .ok (.iload_n 2, 1) := by decide +kernel
theorem d_S_join_26 : decode b_S_join 26 = .ok (.iload_n 1, 1) := by decide +kernel
theorem d_S_join_27 : decode b_S_join 27 = .ok (.if_icmp .gt 6, 3) := by decide +kernel
theorem d_S_join_30 : decode b_S_join 30 = .ok (.bipush (-12), 2) := by decide +kernel
theorem d_S_join_32 : decode b_S_join 32 = .ok (.ireturn, 1) := by decide +kernel
theorem d_S_join_33 : decode b_S_join 33 = .ok (.aload_n 3, 1) := by decide +kernel
theorem d_S_join_34 : decode b_S_join 34 = .ok (.getfield 58, 3) := by decide +kernel
theorem d_S_join_37 : decode b_S_join 37 = .ok (.ifnonnull 7, 3) := by decide +kernel
theorem d_S_join_40 : decode b_S_join 40 = .ok (.iconst (-1), 1) := by decide +kernel
theorem d_S_join_41 : decode b_S_join 41 = .ok (.goto 10, 3) := by decide +kernel
theorem d_S_join_44 : decode b_S_join 44 = .ok (.aload_n 3, 1) := by decide +kernel
theorem d_S_join_45 : decode b_S_join 45 = .ok (.getfield 58, 3) := by decide +kernel
theorem d_S_join_48 : decode b_S_join 48 = .ok (.getfield 51, 3) := by decide +kernel
theorem d_S_join_51 : decode b_S_join 51 = .ok (.istore 5, 2) := by decide +kernel
theorem d_S_join_53 : decode b_S_join 53 = .ok (.aload_n 3, 1) := by decide +kernel
theorem d_S_join_54 : decode b_S_join 54 = .ok (.aload 4, 2) := by decide +kernel
theorem d_S_join_56 : decode b_S_join 56 = .ok (.putfield 58, 3) := by decide +kernel
theorem d_S_join_59 : decode b_S_join 59 = .ok (.iload 5, 2) := by decide +kernel
theorem d_S_join_61 : decode b_S_join 61 = .ok (.ireturn, 1) := by decide +kernel
theorem d_S_beltNumbered_0 : decode b_S_beltNumbered 0 = .ok (.iload_n 1, 1) := by decide +kernel
theorem d_S_beltNumbered_1 : decode b_S_beltNumbered 1 = .ok (.ifCond .lt 20, 3) := by decide +kernel
theorem d_S_beltNumbered_4 : decode b_S_beltNumbered 4 = .ok (.iload_n 1, 1) := by decide +kernel
theorem d_S_beltNumbered_5 : decode b_S_beltNumbered 5 = .ok (.aload_n 0, 1) := by decide +kernel
theorem d_S_beltNumbered_6 : decode b_S_beltNumbered 6 = .ok (.getfield 15, 3) := by decide +kernel
theorem d_S_beltNumbered_9 : decode b_S_beltNumbered 9 = .ok (.if_icmp .ge 12, 3) := by decide +kernel
theorem d_S_beltNumbered_12 : decode b_S_beltNumbered 12 = .ok (.aload_n 0, 1) := by decide +kernel
theorem d_S_beltNumbered_13 : decode b_S_beltNumbered 13 = .ok (.getfield 11, 3) := by decide +kernel
theorem d_S_beltNumbered_16 : decode b_S_beltNumbered 16 = .ok (.iload_n 1, 1) := by decide +kernel
theorem d_S_beltNumbered_17 : decode b_S_beltNumbered 17 = .ok (.aaload, 1) := by decide +kernel
theorem d_S_beltNumbered_18 : decode b_S_beltNumbered 18 = .ok (.goto 4, 3) := by decide +kernel
theorem d_S_beltNumbered_21 : decode b_S_beltNumbered 21 = .ok (.aconst_null, 1) := by decide +kernel
theorem d_S_beltNumbered_22 : decode b_S_beltNumbered 22 = .ok (.areturn, 1) := by decide +kernel
theorem d_S_feed_0 : decode b_S_feed 0 = .ok (.aload_n 0, 1) := by decide +kernel
theorem d_S_feed_1 : decode b_S_feed 1 = .ok (.iload_n 1, 1) := by decide +kernel
theorem d_S_feed_2 : decode b_S_feed 2 = .ok (.invokevirtual 54, 3) := by decide +kernel
theorem d_S_feed_5 : decode b_S_feed 5 = .ok (.astore 6, 2) := by decide +kernel
theorem d_S_feed_7 : decode b_S_feed 7 = .ok (.aload 6, 2) := by decide +kernel
theorem d_S_feed_9 : decode b_S_feed 9 = .ok (.ifnonnull 6, 3) := by decide +kernel
theorem d_S_feed_12 : decode b_S_feed 12 = .ok (.bipush (-11), 2) := by decide +kernel
theorem d_S_feed_14 : decode b_S_feed 14 = .ok (.ireturn, 1) := by decide +kernel
theorem d_S_feed_15 : decode b_S_feed 15 = .ok (.lload_n 2, 1) := by decide +kernel
theorem d_S_feed_16 : decode b_S_feed 16 = .ok (.lconst 1, 1) := by decide +kernel
theorem d_S_feed_17 : decode b_S_feed 17 = .ok (.lcmp, 1) := by decide +kernel
theorem d_S_feed_18 : decode b_S_feed 18 = .ok (.ifCond .lt 11, 3) := by decide +kernel
theorem d_S_feed_21 : decode b_S_feed 21 = .ok (.lload_n 2, 1) := by decide +kernel
theorem d_S_feed_22 : decode b_S_feed 22 = .ok (.ldc2_w 39, 3) := by decide +kernel
theorem d_S_feed_25 : decode b_S_feed 25 = .ok (.lcmp, 1) := by decide +kernel
theorem d_S_feed_26 : decode b_S_feed 26 = .ok (.ifCond .le 6, 3) := by decide +kernel
theorem d_S_feed_29 : decode b_S_feed 29 = .ok (.bipush (-12), 2) := by decide +kernel
theorem d_S_feed_31 : decode b_S_feed 31 = .ok (.ireturn, 1) := by decide +kernel
theorem d_S_feed_32 : decode b_S_feed 32 = .ok (.aload_n 0, 1) := by decide +kernel
theorem d_S_feed_33 : decode b_S_feed 33 = .ok (.lload 4, 2) := by decide +kernel
theorem d_S_feed_35 : decode b_S_feed 35 = .ok (.invokevirtual 62, 3) := by decide +kernel
theorem d_S_feed_38 : decode b_S_feed 38 = .ok (.ifCond .ne 6, 3) := by decide +kernel
theorem d_S_feed_41 : decode b_S_feed 41 = .ok (.bipush (-12), 2) := by decide +kernel
theorem d_S_feed_43 : decode b_S_feed 43 = .ok (.ireturn, 1) := by decide +kernel
theorem d_S_feed_44 : decode b_S_feed 44 = .ok (.aload_n 0, 1) := by decide +kernel
theorem d_S_feed_45 : decode b_S_feed 45 = .ok (.getfield 25, 3) := by decide +kernel
theorem d_S_feed_48 : decode b_S_feed 48 = .ok (.bipush 60, 2) := by decide +kernel
theorem d_S_feed_50 : decode b_S_feed 50 = .ok (.if_icmp .lt 6, 3) := by decide +kernel
theorem d_S_feed_53 : decode b_S_feed 53 = .ok (.bipush (-14), 2) := by decide +kernel
theorem d_S_feed_55 : decode b_S_feed 55 = .ok (.ireturn, 1) := by decide +kernel
theorem d_S_feed_56 : decode b_S_feed 56 = .ok (.new 19, 3) := by decide +kernel
theorem d_S_feed_59 : decode b_S_feed 59 = .ok (.dup, 1) := by decide +kernel
theorem d_S_feed_60 : decode b_S_feed 60 = .ok (.aload_n 0, 1) := by decide +kernel
theorem d_S_feed_61 : decode b_S_feed 61 = .ok (.getfield 25, 3) := by decide +kernel
theorem d_S_feed_64 : decode b_S_feed 64 = .ok (.iconst 1, 1) := by decide +kernel
theorem d_S_feed_65 : decode b_S_feed 65 = .ok (.iadd, 1) := by decide +kernel
theorem d_S_feed_66 : decode b_S_feed 66 = .ok (.lload_n 2, 1) := by decide +kernel
theorem d_S_feed_67 : decode b_S_feed 67 = .ok (.aload 6, 2) := by decide +kernel
theorem d_S_feed_69 : decode b_S_feed 69 = .ok (.lload 4, 2) := by decide +kernel
theorem d_S_feed_71 : decode b_S_feed 71 = .ok (.invokespecial 66, 3) := by decide +kernel
theorem d_S_feed_74 : decode b_S_feed 74 = .ok (.astore 7, 2) := by decide +kernel
theorem d_S_feed_76 : decode b_S_feed 76 = .ok (.lload 4, 2) := by decide +kernel
theorem d_S_feed_78 : decode b_S_feed 78 = .ok (.aload_n 0, 1) := by decide +kernel
theorem d_S_feed_79 : decode b_S_feed 79 = .ok (.getfield 35, 3) := by decide +kernel
theorem d_S_feed_82 : decode b_S_feed 82 = .ok (.lcmp, 1) := by decide +kernel
theorem d_S_feed_83 : decode b_S_feed 83 = .ok (.ifCond .ne 15, 3) := by decide +kernel
theorem d_S_feed_86 : decode b_S_feed 86 = .ok (.aload 7, 2) := by decide +kernel
theorem d_S_feed_88 : decode b_S_feed 88 = .ok (.aload 6, 2) := by decide +kernel
theorem d_S_feed_90 : decode b_S_feed 90 = .ok (.aload_n 0, 1) := by decide +kernel
theorem d_S_feed_91 : decode b_S_feed 91 = .ok (.getfield 35, 3) := by decide +kernel
theorem d_S_feed_94 : decode b_S_feed 94 = .ok (.lconst 0, 1) := by decide +kernel
theorem d_S_feed_95 : decode b_S_feed 95 = .ok (.invokevirtual 69, 3) := by decide +kernel
theorem d_S_feed_98 : decode b_S_feed 98 = .ok (.aload_n 0, 1) := by decide +kernel
theorem d_S_feed_99 : decode b_S_feed 99 = .ok (.getfield 21, 3) := by decide +kernel
theorem d_S_feed_102 : decode b_S_feed 102 = .ok (.aload_n 0, 1) := by decide +kernel
theorem d_S_feed_103 : decode b_S_feed 103 = .ok (.getfield 25, 3) := by decide +kernel
theorem d_S_feed_106 : decode b_S_feed 106 = .ok (.aload 7, 2) := by decide +kernel
theorem d_S_feed_108 : decode b_S_feed 108 = .ok (.aastore, 1) := by decide +kernel
theorem d_S_feed_109 : decode b_S_feed 109 = .ok (.aload_n 0, 1) := by decide +kernel
theorem d_S_feed_110 : decode b_S_feed 110 = .ok (.dup, 1) := by decide +kernel
theorem d_S_feed_111 : decode b_S_feed 111 = .ok (.getfield 25, 3) := by decide +kernel
theorem d_S_feed_114 : decode b_S_feed 114 = .ok (.iconst 1, 1) := by decide +kernel
theorem d_S_feed_115 : decode b_S_feed 115 = .ok (.iadd, 1) := by decide +kernel
theorem d_S_feed_116 : decode b_S_feed 116 = .ok (.putfield 25, 3) := by decide +kernel
theorem d_S_feed_119 : decode b_S_feed 119 = .ok (.aload 7, 2) := by decide +kernel
theorem d_S_feed_121 : decode b_S_feed 121 = .ok (.getfield 73, 3) := by decide +kernel
theorem d_S_feed_124 : decode b_S_feed 124 = .ok (.ireturn, 1) := by decide +kernel
theorem d_S_isNowOrLater_0 : decode b_S_isNowOrLater 0 = .ok (.lload_n 1, 1) := by decide +kernel
theorem d_S_isNowOrLater_1 : decode b_S_isNowOrLater 1 = .ok (.aload_n 0, 1) := by decide +kernel
theorem d_S_isNowOrLater_2 : decode b_S_isNowOrLater 2 = .ok (.getfield 35, 3) := by decide +kernel
theorem d_S_isNowOrLater_5 : decode b_S_isNowOrLater 5 = .ok (.lcmp, 1) := by decide +kernel
theorem d_S_isNowOrLater_6 : decode b_S_isNowOrLater 6 = .ok (.ifCond .lt 15, 3) := by decide +kernel
theorem d_S_isNowOrLater_9 : decode b_S_isNowOrLater 9 = .ok (.lload_n 1, 1) := by decide +kernel
theorem d_S_isNowOrLater_10 : decode b_S_isNowOrLater 10 = .ok (.ldc2_w 149, 3) := by decide +kernel
theorem d_S_isNowOrLater_13 : decode b_S_isNowOrLater 13 = .ok (.lcmp, 1) := by decide +kernel
theorem d_S_isNowOrLater_14 : decode b_S_isNowOrLater 14 = .ok (.ifCond .gt 7, 3) := by decide +kernel
theorem d_S_isNowOrLater_17 : decode b_S_isNowOrLater 17 = .ok (.iconst 1, 1) := by decide +kernel
theorem d_S_isNowOrLater_18 : decode b_S_isNowOrLater 18 = .ok (.goto 4, 3) := by decide +kernel
theorem d_S_isNowOrLater_21 : decode b_S_isNowOrLater 21 = .ok (.iconst 0, 1) := by decide +kernel
theorem d_S_isNowOrLater_22 : decode b_S_isNowOrLater 22 = .ok (.ireturn, 1) := by decide +kernel
theorem d_I_init_0 : decode b_I_init 0 = .ok (.aload_n 0, 1) := by decide +kernel
theorem d_I_init_1 : decode b_I_init 1 = .ok (.invokespecial 3, 3) := by decide +kernel
theorem d_I_init_4 : decode b_I_init 4 = .ok (.aload_n 0, 1) := by decide +kernel
theorem d_I_init_5 : decode b_I_init 5 = .ok (.iconst 1, 1) := by decide +kernel
theorem d_I_init_6 : decode b_I_init 6 = .ok (.putfield 9, 3) := by decide +kernel
theorem d_I_init_9 : decode b_I_init 9 = .ok (.aload_n 0, 1) := by decide +kernel
theorem d_I_init_10 : decode b_I_init 10 = .ok (.lconst 0, 1) := by decide +kernel
theorem d_I_init_11 : decode b_I_init 11 = .ok (.putfield 15, 3) := by decide +kernel
theorem d_I_init_14 : decode b_I_init 14 = .ok (.aload_n 0, 1) := by decide +kernel
theorem d_I_init_15 : decode b_I_init 15 = .ok (.iconst 0, 1) := by decide +kernel
theorem d_I_init_16 : decode b_I_init 16 = .ok (.putfield 19, 3) := by decide +kernel
theorem d_I_init_19 : decode b_I_init 19 = .ok (.aload_n 0, 1) := by decide +kernel
theorem d_I_init_20 : decode b_I_init 20 = .ok (.iconst 0, 1) := by decide +kernel
theorem d_I_init_21 : decode b_I_init 21 = .ok (.putfield 22, 3) := by decide +kernel
theorem d_I_init_24 : decode b_I_init 24 = .ok (.aload_n 0, 1) := by decide +kernel
theorem d_I_init_25 : decode b_I_init 25 = .ok (.iload_n 1, 1) := by decide +kernel
theorem d_I_init_26 : decode b_I_init 26 = .ok (.putfield 25, 3) := by decide +kernel
theorem d_I_init_29 : decode b_I_init 29 = .ok (.aload_n 0, 1) := by decide +kernel
theorem d_I_init_30 : decode b_I_init 30 = .ok (.lload_n 2, 1) := by decide +kernel
theorem d_I_init_31 : decode b_I_init 31 = .ok (.putfield 29, 3) := by decide +kernel
theorem d_I_init_34 : decode b_I_init 34 = .ok (.aload_n 0, 1) := by decide +kernel
theorem d_I_init_35 : decode b_I_init 35 = .ok (.aload 4, 2) := by decide +kernel
theorem d_I_init_37 : decode b_I_init 37 = .ok (.putfield 32, 3) := by decide +kernel
theorem d_I_init_40 : decode b_I_init 40 = .ok (.aload_n 0, 1) := by decide +kernel
theorem d_I_init_41 : decode b_I_init 41 = .ok (.lload 5, 2) := by decide +kernel
theorem d_I_init_43 : decode b_I_init 43 = .ok (.putfield 36, 3) := by decide +kernel
theorem d_I_init_46 : decode b_I_init 46 = .ok (.return_, 1) := by decide +kernel
theorem d_I_comeOnto_0 : decode b_I_comeOnto 0 = .ok (.aload_n 0, 1) := by decide +kernel
theorem d_I_comeOnto_1 : decode b_I_comeOnto 1 = .ok (.aload_n 1, 1) := by decide +kernel
theorem d_I_comeOnto_2 : decode b_I_comeOnto 2 = .ok (.putfield 32, 3) := by decide +kernel
theorem d_I_comeOnto_5 : decode b_I_comeOnto 5 = .ok (.aload_n 0, 1) := by decide +kernel
theorem d_I_comeOnto_6 : decode b_I_comeOnto 6 = .ok (.iconst 0, 1) := by decide +kernel
theorem d_I_comeOnto_7 : decode b_I_comeOnto 7 = .ok (.putfield 9, 3) := by decide +kernel
theorem d_I_comeOnto_10 : decode b_I_comeOnto 10 = .ok (.aload_n 0, 1) := by decide +kernel
theorem d_I_comeOnto_11 : decode b_I_comeOnto 11 = .ok (.aload_n 1, 1) := by decide +kernel
theorem d_I_comeOnto_12 : decode b_I_comeOnto 12 = .ok (.lload_n 2, 1) := by decide +kernel
theorem d_I_comeOnto_13 : decode b_I_comeOnto 13 = .ok (.invokevirtual 39, 3) := by decide +kernel
theorem d_I_comeOnto_16 : decode b_I_comeOnto 16 = .ok (.lload 4, 2) := by decide +kernel
theorem d_I_comeOnto_18 : decode b_I_comeOnto 18 = .ok (.lsub, 1) := by decide +kernel
theorem d_I_comeOnto_19 : decode b_I_comeOnto 19 = .ok (.putfield 15, 3) := by decide +kernel
theorem d_I_comeOnto_22 : decode b_I_comeOnto 22 = .ok (.aload_n 0, 1) := by decide +kernel
theorem d_I_comeOnto_23 : decode b_I_comeOnto 23 = .ok (.iconst 0, 1) := by decide +kernel
theorem d_I_comeOnto_24 : decode b_I_comeOnto 24 = .ok (.putfield 19, 3) := by decide +kernel
theorem d_I_comeOnto_27 : decode b_I_comeOnto 27 = .ok (.aload_n 0, 1) := by decide +kernel
theorem d_I_comeOnto_28 : decode b_I_comeOnto 28 = .ok (.iconst 0, 1) := by decide +kernel
theorem d_I_comeOnto_29 : decode b_I_comeOnto 29 = .ok (.putfield 22, 3) := by decide +kernel
theorem d_I_comeOnto_32 : decode b_I_comeOnto 32 = .ok (.aload_n 0, 1) := by decide +kernel
theorem d_I_comeOnto_33 : decode b_I_comeOnto 33 = .ok (.invokevirtual 45, 3) := by decide +kernel
theorem d_I_comeOnto_36 : decode b_I_comeOnto 36 = .ok (.return_, 1) := by decide +kernel
theorem d_B_wayAt_0 : decode b_B_wayAt 0 = .ok (.aload_n 0, 1) := by decide +kernel
theorem d_B_wayAt_1 : decode b_B_wayAt 1 = .ok (.lload_n 1, 1) := by decide +kernel
theorem d_B_wayAt_2 : decode b_B_wayAt 2 = .ok (.invokevirtual 82, 3) := by decide +kernel
theorem d_B_wayAt_5 : decode b_B_wayAt 5 = .ok (.istore_n 3, 1) := by decide +kernel
theorem d_B_wayAt_6 : decode b_B_wayAt 6 = .ok (.aload_n 0, 1) := by decide +kernel
theorem d_B_wayAt_7 : decode b_B_wayAt 7 = .ok (.getfield 41, 3) := by decide +kernel
theorem d_B_wayAt_10 : decode b_B_wayAt 10 = .ok (.iload_n 3, 1) := by decide +kernel
theorem d_B_wayAt_11 : decode b_B_wayAt 11 = .ok (.laload, 1) := by decide +kernel
theorem d_B_wayAt_12 : decode b_B_wayAt 12 = .ok (.lload_n 1, 1) := by decide +kernel
theorem d_B_wayAt_13 : decode b_B_wayAt 13 = .ok (.aload_n 0, 1) := by decide +kernel
theorem d_B_wayAt_14 : decode b_B_wayAt 14 = .ok (.getfield 23, 3) := by decide +kernel
theorem d_B_wayAt_17 : decode b_B_wayAt 17 = .ok (.lsub, 1) := by decide +kernel
theorem d_B_wayAt_18 : decode b_B_wayAt 18 = .ok (.iload_n 3, 1) := by decide +kernel
theorem d_B_wayAt_19 : decode b_B_wayAt 19 = .ok (.i2l, 1) := by decide +kernel
theorem d_B_wayAt_20 : decode b_B_wayAt 20 = .ok (.ldc2_w 80, 3) := by decide +kernel
theorem d_B_wayAt_23 : decode b_B_wayAt 23 = .ok (.lmul, 1) := by decide +kernel
theorem d_B_wayAt_24 : decode b_B_wayAt 24 = .ok (.lsub, 1) := by decide +kernel
theorem d_B_wayAt_25 : decode b_B_wayAt 25 = .ok (.aload_n 0, 1) := by decide +kernel
theorem d_B_wayAt_26 : decode b_B_wayAt 26 = .ok (.getfield 37, 3) := by decide +kernel
theorem d_B_wayAt_29 : decode b_B_wayAt 29 = .ok (.iload_n 3, 1) := by decide +kernel
theorem d_B_wayAt_30 : decode b_B_wayAt 30 = .ok (.laload, 1) := by decide +kernel
theorem d_B_wayAt_31 : decode b_B_wayAt 31 = .ok (.lmul, 1) := by decide +kernel
theorem d_B_wayAt_32 : decode b_B_wayAt 32 = .ok (.ladd, 1) := by decide +kernel
theorem d_B_wayAt_33 : decode b_B_wayAt 33 = .ok (.lreturn, 1) := by decide +kernel
theorem d_B_stageAt_0 : decode b_B_stageAt 0 = .ok (.lload_n 1, 1) := by decide +kernel
theorem d_B_stageAt_1 : decode b_B_stageAt 1 = .ok (.aload_n 0, 1) := by decide +kernel
theorem d_B_stageAt_2 : decode b_B_stageAt 2 = .ok (.getfield 23, 3) := by decide +kernel
theorem d_B_stageAt_5 : decode b_B_stageAt 5 = .ok (.lsub, 1) := by decide +kernel
theorem d_B_stageAt_6 : decode b_B_stageAt 6 = .ok (.ldc2_w 80, 3) := by decide +kernel
theorem d_B_stageAt_9 : decode b_B_stageAt 9 = .ok (.ldiv, 1) := by decide +kernel
theorem d_B_stageAt_10 : decode b_B_stageAt 10 = .ok (.lstore_n 3, 1) := by decide +kernel
theorem d_B_stageAt_11 : decode b_B_stageAt 11 = .ok (.lload_n 3, 1) := by decide +kernel
theorem d_B_stageAt_12 : decode b_B_stageAt 12 = .ok (.lconst 0, 1) := by decide +kernel
theorem d_B_stageAt_13 : decode b_B_stageAt 13 = .ok (.lcmp, 1) := by decide +kernel
theorem d_B_stageAt_14 : decode b_B_stageAt 14 = .ok (.ifCond .ge 5, 3) := by decide +kernel
theorem d_B_stageAt_17 : decode b_B_stageAt 17 = .ok (.iconst 0, 1) := by decide +kernel
theorem d_B_stageAt_18 : decode b_B_stageAt 18 = .ok (.ireturn, 1) := by decide +kernel
theorem d_B_stageAt_19 : decode b_B_stageAt 19 = .ok (.lload_n 3, 1) := by decide +kernel
theorem d_B_stageAt_20 : decode b_B_stageAt 20 = .ok (.ldc2_w 78, 3) := by decide +kernel
theorem d_B_stageAt_23 : decode b_B_stageAt 23 = .ok (.lcmp, 1) := by decide +kernel
theorem d_B_stageAt_24 : decode b_B_stageAt 24 = .ok (.ifCond .ge 8, 3) := by decide +kernel
theorem d_B_stageAt_27 : decode b_B_stageAt 27 = .ok (.lload_n 3, 1) := by decide +kernel
theorem d_B_stageAt_28 : decode b_B_stageAt 28 = .ok (.l2i, 1) := by decide +kernel
theorem d_B_stageAt_29 : decode b_B_stageAt 29 = .ok (.goto 5, 3) := by decide +kernel
theorem d_B_stageAt_32 : decode b_B_stageAt 32 = .ok (.bipush 7, 2) := by decide +kernel
theorem d_B_stageAt_34 : decode b_B_stageAt 34 = .ok (.ireturn, 1) := by decide +kernel
theorem d_I_aim_0 : decode b_I_aim 0 = .ok (.aload_n 0, 1) := by decide +kernel
theorem d_I_aim_1 : decode b_I_aim 1 = .ok (.getfield 32, 3) := by decide +kernel
theorem d_I_aim_4 : decode b_I_aim 4 = .ok (.ifnonnull 4, 3) := by decide +kernel
theorem d_I_aim_7 : decode b_I_aim 7 = .ok (.return_, 1) := by decide +kernel
theorem d_I_aim_8 : decode b_I_aim 8 = .ok (.aload_n 0, 1) := by decide +kernel
theorem d_I_aim_9 : decode b_I_aim 9 = .ok (.getfield 32, 3) := by decide +kernel
theorem d_I_aim_12 : decode b_I_aim 12 = .ok (.getfield 52, 3) := by decide +kernel
theorem d_I_aim_15 : decode b_I_aim 15 = .ok (.lstore_n 1, 1) := by decide +kernel
theorem d_I_aim_16 : decode b_I_aim 16 = .ok (.aload_n 0, 1) := by decide +kernel
theorem d_I_aim_17 : decode b_I_aim 17 = .ok (.getfield 19, 3) := by decide +kernel
theorem d_I_aim_20 : decode b_I_aim 20 = .ok (.ifCond .ne 14, 3) := by decide +kernel
theorem d_I_aim_23 : decode b_I_aim 23 = .ok (.aload_n 0, 1) := by decide +kernel
theorem d_I_aim_24 : decode b_I_aim 24 = .ok (.getfield 32, 3) := by decide +kernel
theorem d_I_aim_27 : decode b_I_aim 27 = .ok (.getfield 58, 3) := by decide +kernel
theorem d_I_aim_30 : decode b_I_aim 30 = .ok (.lstore_n 1, 1) := by decide +kernel
theorem d_I_aim_31 : decode b_I_aim 31 = .ok (.goto 33, 3) := by decide +kernel
theorem d_I_aim_34 : decode b_I_aim 34 = .ok (.aload_n 0, 1) := by decide +kernel
theorem d_I_aim_35 : decode b_I_aim 35 = .ok (.getfield 22, 3) := by decide +kernel
theorem d_I_aim_38 : decode b_I_aim 38 = .ok (.ifCond .ne 26, 3) := by decide +kernel
theorem d_I_aim_41 : decode b_I_aim 41 = .ok (.aload_n 0, 1) := by decide +kernel
theorem d_I_aim_42 : decode b_I_aim 42 = .ok (.getfield 32, 3) := by decide +kernel
theorem d_I_aim_45 : decode b_I_aim 45 = .ok (.getfield 58, 3) := by decide +kernel
theorem d_I_aim_48 : decode b_I_aim 48 = .ok (.aload_n 0, 1) := by decide +kernel
theorem d_I_aim_49 : decode b_I_aim 49 = .ok (.getfield 29, 3) := by decide +kernel
theorem d_I_aim_52 : decode b_I_aim 52 = .ok (.ladd, 1) := by decide +kernel
theorem d_I_aim_53 : decode b_I_aim 53 = .ok (.aload_n 0, 1) := by decide +kernel
theorem d_I_aim_54 : decode b_I_aim 54 = .ok (.getfield 32, 3) := by decide +kernel
theorem d_I_aim_57 : decode b_I_aim 57 = .ok (.getfield 52, 3) := by decide +kernel
theorem d_I_aim_60 : decode b_I_aim 60 = .ok (.invokestatic 61, 3) := by decide +kernel
theorem d_I_aim_63 : decode b_I_aim 63 = .ok (.lstore_n 1, 1) := by decide +kernel
theorem d_I_aim_64 : decode b_I_aim 64 = .ok (.aload_n 0, 1) := by decide +kernel
theorem d_I_aim_65 : decode b_I_aim 65 = .ok (.aload_n 0, 1) := by decide +kernel
theorem d_I_aim_66 : decode b_I_aim 66 = .ok (.getfield 32, 3) := by decide +kernel
theorem d_I_aim_69 : decode b_I_aim 69 = .ok (.aload_n 0, 1) := by decide +kernel
theorem d_I_aim_70 : decode b_I_aim 70 = .ok (.getfield 15, 3) := by decide +kernel
theorem d_I_aim_73 : decode b_I_aim 73 = .ok (.lload_n 1, 1) := by decide +kernel
theorem d_I_aim_74 : decode b_I_aim 74 = .ok (.ladd, 1) := by decide +kernel
theorem d_I_aim_75 : decode b_I_aim 75 = .ok (.invokevirtual 67, 3) := by decide +kernel
theorem d_I_aim_78 : decode b_I_aim 78 = .ok (.putfield 36, 3) := by decide +kernel
theorem d_I_aim_81 : decode b_I_aim 81 = .ok (.return_, 1) := by decide +kernel
theorem d_B_timeOfWay_0 : decode b_B_timeOfWay 0 = .ok (.iconst 0, 1) := by decide +kernel
theorem d_B_timeOfWay_1 : decode b_B_timeOfWay 1 = .ok (.istore_n 3, 1) := by decide +kernel
theorem d_B_timeOfWay_2 : decode b_B_timeOfWay 2 = .ok (.iload_n 3, 1) := by decide +kernel
theorem d_B_timeOfWay_3 : decode b_B_timeOfWay 3 = .ok (.bipush 7, 2) := by decide +kernel
theorem d_B_timeOfWay_5 : decode b_B_timeOfWay 5 = .ok (.if_icmp .ge 22, 3) := by decide +kernel
theorem d_B_timeOfWay_8 : decode b_B_timeOfWay 8 = .ok (.aload_n 0, 1) := by decide +kernel
theorem d_B_timeOfWay_9 : decode b_B_timeOfWay 9 = .ok (.getfield 41, 3) := by decide +kernel
theorem d_B_timeOfWay_12 : decode b_B_timeOfWay 12 = .ok (.iload_n 3, 1) := by decide +kernel
theorem d_B_timeOfWay_13 : decode b_B_timeOfWay 13 = .ok (.iconst 1, 1) := by decide +kernel
theorem d_B_timeOfWay_14 : decode b_B_timeOfWay 14 = .ok (.iadd, 1) := by decide +kernel
theorem d_B_timeOfWay_15 : decode b_B_timeOfWay 15 = .ok (.laload, 1) := by decide +kernel
theorem d_B_timeOfWay_16 : decode b_B_timeOfWay 16 = .ok (.lload_n 1, 1) := by decide +kernel
theorem d_B_timeOfWay_17 : decode b_B_timeOfWay 17 = .ok (.lcmp, 1) := by decide +kernel
theorem d_B_timeOfWay_18 : decode b_B_timeOfWay 18 = .ok (.ifCond .ge 9, 3) := by decide +kernel
theorem d_B_timeOfWay_21 : decode b_B_timeOfWay 21 = .ok (.iinc 3 1, 3) := by decide +kernel
theorem d_B_timeOfWay_24 : decode b_B_timeOfWay 24 = .ok (.goto (-22), 3) := by decide +kernel
theorem d_B_timeOfWay_27 : decode b_B_timeOfWay 27 = .ok (.aload_n 0, 1) := by decide +kernel
theorem d_B_timeOfWay_28 : decode b_B_timeOfWay 28 = .ok (.getfield 23, 3) := by decide +kernel
theorem d_B_timeOfWay_31 : decode b_B_timeOfWay 31 = .ok (.iload_n 3, 1) := by decide +kernel
theorem d_B_timeOfWay_32 : decode b_B_timeOfWay 32 = .ok (.i2l, 1) := by decide +kernel
theorem d_B_timeOfWay_33 : decode b_B_timeOfWay 33 = .ok (.ldc2_w 80, 3) := by decide +kernel
theorem d_B_timeOfWay_36 : decode b_B_timeOfWay 36 = .ok (.lmul, 1) := by decide +kernel
theorem d_B_timeOfWay_37 : decode b_B_timeOfWay 37 = .ok (.ladd, 1) := by decide +kernel
theorem d_B_timeOfWay_38 : decode b_B_timeOfWay 38 = .ok (.lstore 4, 2) := by decide +kernel
theorem d_B_timeOfWay_40 : decode b_B_timeOfWay 40 = .ok (.lload_n 1, 1) := by decide +kernel
theorem d_B_timeOfWay_41 : decode b_B_timeOfWay 41 = .ok (.aload_n 0, 1) := by decide +kernel
theorem d_B_timeOfWay_42 : decode b_B_timeOfWay 42 = .ok (.getfield 41, 3) := by decide +kernel
theorem d_B_timeOfWay_45 : decode b_B_timeOfWay 45 = .ok (.iload_n 3, 1) := by decide +kernel
theorem d_B_timeOfWay_46 : decode b_B_timeOfWay 46 = .ok (.laload, 1) := by decide +kernel
theorem d_B_timeOfWay_47 : decode b_B_timeOfWay 47 = .ok (.lsub, 1) := by decide +kernel
theorem d_B_timeOfWay_48 : decode b_B_timeOfWay 48 = .ok (.lstore 6, 2) := by decide +kernel
theorem d_B_timeOfWay_50 : decode b_B_timeOfWay 50 = .ok (.lload 6, 2) := by decide +kernel
theorem d_B_timeOfWay_52 : decode b_B_timeOfWay 52 = .ok (.lconst 0, 1) := by decide +kernel
theorem d_B_timeOfWay_53 : decode b_B_timeOfWay 53 = .ok (.lcmp, 1) := by decide +kernel
theorem d_B_timeOfWay_54 : decode b_B_timeOfWay 54 = .ok (.ifCond .gt 6, 3) := by decide +kernel
theorem d_B_timeOfWay_57 : decode b_B_timeOfWay 57 = .ok (.lload 4, 2) := by decide +kernel
theorem d_B_timeOfWay_59 : decode b_B_timeOfWay 59 = .ok (.lreturn, 1) := by decide +kernel
theorem d_B_timeOfWay_60 : decode b_B_timeOfWay 60 = .ok (.aload_n 0, 1) := by decide +kernel
theorem d_B_timeOfWay_61 : decode b_B_timeOfWay 61 = .ok (.getfield 37, 3) := by decide +kernel
theorem d_B_timeOfWay_64 : decode b_B_timeOfWay 64 = .ok (.iload_n 3, 1) := by decide +kernel
theorem d_B_timeOfWay_65 : decode b_B_timeOfWay 65 = .ok (.laload, 1) := by decide +kernel
theorem d_B_timeOfWay_66 : decode b_B_timeOfWay 66 = .ok (.lstore 8, 2) := by decide +kernel
theorem d_B_timeOfWay_68 : decode b_B_timeOfWay 68 = .ok (.lload 8, 2) := by decide +kernel
theorem d_B_timeOfWay_70 : decode b_B_timeOfWay 70 = .ok (.lconst 0, 1) := by decide +kernel
theorem d_B_timeOfWay_71 : decode b_B_timeOfWay 71 = .ok (.lcmp, 1) := by decide +kernel
theorem d_B_timeOfWay_72 : decode b_B_timeOfWay 72 = .ok (.ifCond .le 19, 3) := by decide +kernel
theorem d_B_timeOfWay_75 : decode b_B_timeOfWay 75 = .ok (.lload 4, 2) := by decide +kernel
theorem d_B_timeOfWay_77 : decode b_B_timeOfWay 77 = .ok (.lload 6, 2) := by decide +kernel
theorem d_B_timeOfWay_79 : decode b_B_timeOfWay 79 = .ok (.lload 8, 2) := by decide +kernel
theorem d_B_timeOfWay_81 : decode b_B_timeOfWay 81 = .ok (.ladd, 1) := by decide +kernel
theorem d_B_timeOfWay_82 : decode b_B_timeOfWay 82 = .ok (.lconst 1, 1) := by decide +kernel
theorem d_B_timeOfWay_83 : decode b_B_timeOfWay 83 = .ok (.lsub, 1) := by decide +kernel
theorem d_B_timeOfWay_84 : decode b_B_timeOfWay 84 = .ok (.lload 8, 2) := by decide +kernel
theorem d_B_timeOfWay_86 : decode b_B_timeOfWay 86 = .ok (.ldiv, 1) := by decide +kernel
theorem d_B_timeOfWay_87 : decode b_B_timeOfWay 87 = .ok (.ladd, 1) := by decide +kernel
theorem d_B_timeOfWay_88 : decode b_B_timeOfWay 88 = .ok (.goto 6, 3) := by decide +kernel
theorem d_B_timeOfWay_91 : decode b_B_timeOfWay 91 = .ok (.ldc2_w 85, 3) := by decide +kernel
theorem d_B_timeOfWay_94 : decode b_B_timeOfWay 94 = .ok (.lreturn, 1) := by decide +kernel
theorem d_S_step_0 : decode b_S_step 0 = .ok (.aload_n 0, 1) := by decide +kernel
theorem d_S_step_1 : decode b_S_step 1 = .ok (.lload_n 1, 1) := by decide +kernel
theorem d_S_step_2 : decode b_S_step 2 = .ok (.invokevirtual 62, 3) := by decide +kernel
theorem d_S_step_5 : decode b_S_step 5 = .ok (.ifCond .ne 6, 3) := by decide +kernel
theorem d_S_step_8 : decode b_S_step 8 = .ok (.bipush (-12), 2) := by decide +kernel
theorem d_S_step_10 : decode b_S_step 10 = .ok (.ireturn, 1) := by decide +kernel
theorem d_S_step_11 : decode b_S_step 11 = .ok (.aload_n 0, 1) := by decide +kernel
theorem d_S_step_12 : decode b_S_step 12 = .ok (.lload_n 1, 1) := by decide +kernel
theorem d_S_step_13 : decode b_S_step 13 = .ok (.invokevirtual 74, 3) := by decide +kernel
theorem d_S_step_16 : decode b_S_step 16 = .ok (.aload_n 0, 1) := by decide +kernel
theorem d_S_step_17 : decode b_S_step 17 = .ok (.getfield 31, 3) := by decide +kernel
theorem d_S_step_20 : decode b_S_step 20 = .ok (.invokevirtual 78, 3) := by decide +kernel
theorem d_S_step_23 : decode b_S_step 23 = .ok (.ireturn, 1) := by decide +kernel
theorem d_S_passTo_0 : decode b_S_passTo 0 = .ok (.iconst 0, 1) := by decide +kernel
theorem d_S_passTo_1 : decode b_S_passTo 1 = .ok (.istore_n 3, 1) := by decide +kernel
theorem d_S_passTo_2 : decode b_S_passTo 2 = .ok (.iload_n 3, 1) := by decide +kernel
theorem d_S_passTo_3 : decode b_S_passTo 3 = .ok (.ldc 151, 2) := by decide +kernel
theorem d_S_passTo_5 : decode b_S_passTo 5 = .ok (.if_icmp .ge 37, 3) := by decide +kernel
theorem d_S_passTo_8 : decode b_S_passTo 8 = .ok (.aload_n 0, 1) := by decide +kernel
theorem d_S_passTo_9 : decode b_S_passTo 9 = .ok (.invokevirtual 152, 3) := by decide +kernel
theorem d_S_passTo_12 : decode b_S_passTo 12 = .ok (.lstore 4, 2) := by decide +kernel
theorem d_S_passTo_14 : decode b_S_passTo 14 = .ok (.lload 4, 2) := by decide +kernel
theorem d_S_passTo_16 : decode b_S_passTo 16 = .ok (.lload_n 1, 1) := by decide +kernel
theorem d_S_passTo_17 : decode b_S_passTo 17 = .ok (.lcmp, 1) := by decide +kernel
theorem d_S_passTo_18 : decode b_S_passTo 18 = .ok (.ifCond .le 6, 3) := by decide +kernel
theorem d_S_passTo_21 : decode b_S_passTo 21 = .ok (.goto 21, 3) := by decide +kernel
theorem d_S_passTo_24 : decode b_S_passTo 24 = .ok (.aload_n 0, 1) := by decide +kernel
theorem d_S_passTo_25 : decode b_S_passTo 25 = .ok (.lload 4, 2) := by decide +kernel
theorem d_S_passTo_27 : decode b_S_passTo 27 = .ok (.invokevirtual 156, 3) := by decide +kernel
theorem d_S_passTo_30 : decode b_S_passTo 30 = .ok (.aload_n 0, 1) := by decide +kernel
theorem d_S_passTo_31 : decode b_S_passTo 31 = .ok (.lload 4, 2) := by decide +kernel
theorem d_S_passTo_33 : decode b_S_passTo 33 = .ok (.invokevirtual 159, 3) := by decide +kernel
theorem d_S_passTo_36 : decode b_S_passTo 36 = .ok (.iinc 3 1, 3) := by decide +kernel
theorem d_S_passTo_39 : decode b_S_passTo 39 = .ok (.goto (-37), 3) := by decide +kernel
theorem d_S_passTo_42 : decode b_S_passTo 42 = .ok (.aload_n 0, 1) := by decide +kernel
theorem d_S_passTo_43 : decode b_S_passTo 43 = .ok (.lload_n 1, 1) := by decide +kernel
theorem d_S_passTo_44 : decode b_S_passTo 44 = .ok (.putfield 35, 3) := by decide +kernel
theorem d_S_passTo_47 : decode b_S_passTo 47 = .ok (.return_, 1) := by decide +kernel
theorem d_S_nextTurn_0 : decode b_S_nextTurn 0 = .ok (.ldc2_w 162, 3) := by decide +kernel
theorem d_S_nextTurn_3 : decode b_S_nextTurn 3 = .ok (.lstore_n 1, 1) := by decide +kernel
theorem d_S_nextTurn_4 : decode b_S_nextTurn 4 = .ok (.iconst 0, 1) := by decide +kernel
theorem d_S_nextTurn_5 : decode b_S_nextTurn 5 = .ok (.istore_n 3, 1) := by decide +kernel
theorem d_S_nextTurn_6 : decode b_S_nextTurn 6 = .ok (.iload_n 3, 1) := by decide +kernel
theorem d_S_nextTurn_7 : decode b_S_nextTurn 7 = .ok (.aload_n 0, 1) := by decide +kernel
theorem d_S_nextTurn_8 : decode b_S_nextTurn 8 = .ok (.getfield 25, 3) := by decide +kernel
theorem d_S_nextTurn_11 : decode b_S_nextTurn 11 = .ok (.if_icmp .ge 33, 3) := by decide +kernel
theorem d_S_nextTurn_14 : decode b_S_nextTurn 14 = .ok (.aload_n 0, 1) := by decide +kernel
theorem d_S_nextTurn_15 : decode b_S_nextTurn 15 = .ok (.getfield 21, 3) := by decide +kernel
theorem d_S_nextTurn_18 : decode b_S_nextTurn 18 = .ok (.iload_n 3, 1) := by decide +kernel
theorem d_S_nextTurn_19 : decode b_S_nextTurn 19 = .ok (.aaload, 1) := by decide +kernel
theorem d_S_nextTurn_20 : decode b_S_nextTurn 20 = .ok (.getfield 164, 3) := by decide +kernel
theorem d_S_nextTurn_23 : decode b_S_nextTurn 23 = .ok (.lload_n 1, 1) := by decide +kernel
theorem d_S_nextTurn_24 : decode b_S_nextTurn 24 = .ok (.lcmp, 1) := by decide +kernel
theorem d_S_nextTurn_25 : decode b_S_nextTurn 25 = .ok (.ifCond .ge 13, 3) := by decide +kernel
theorem d_S_nextTurn_28 : decode b_S_nextTurn 28 = .ok (.aload_n 0, 1) := by decide +kernel
theorem d_S_nextTurn_29 : decode b_S_nextTurn 29 = .ok (.getfield 21, 3) := by decide +kernel
theorem d_S_nextTurn_32 : decode b_S_nextTurn 32 = .ok (.iload_n 3, 1) := by decide +kernel
theorem d_S_nextTurn_33 : decode b_S_nextTurn 33 = .ok (.aaload, 1) := by decide +kernel
theorem d_S_nextTurn_34 : decode b_S_nextTurn 34 = .ok (.getfield 164, 3) := by decide +kernel
theorem d_S_nextTurn_37 : decode b_S_nextTurn 37 = .ok (.lstore_n 1, 1) := by decide +kernel
theorem d_S_nextTurn_38 : decode b_S_nextTurn 38 = .ok (.iinc 3 1, 3) := by decide +kernel
theorem d_S_nextTurn_41 : decode b_S_nextTurn 41 = .ok (.goto (-35), 3) := by decide +kernel
theorem d_S_nextTurn_44 : decode b_S_nextTurn 44 = .ok (.lload_n 1, 1) := by decide +kernel
theorem d_S_nextTurn_45 : decode b_S_nextTurn 45 = .ok (.lreturn, 1) := by decide +kernel
theorem d_S_moveItems_0 : decode b_S_moveItems 0 = .ok (.iconst 0, 1) := by decide +kernel
theorem d_S_moveItems_1 : decode b_S_moveItems 1 = .ok (.istore_n 3, 1) := by decide +kernel
theorem d_S_moveItems_2 : decode b_S_moveItems 2 = .ok (.iload_n 3, 1) := by decide +kernel
theorem d_S_moveItems_3 : decode b_S_moveItems 3 = .ok (.aload_n 0, 1) := by decide +kernel
theorem d_S_moveItems_4 : decode b_S_moveItems 4 = .ok (.getfield 25, 3) := by decide +kernel
theorem d_S_moveItems_7 : decode b_S_moveItems 7 = .ok (.if_icmp .ge 33, 3) := by decide +kernel
theorem d_S_moveItems_10 : decode b_S_moveItems 10 = .ok (.aload_n 0, 1) := by decide +kernel
theorem d_S_moveItems_11 : decode b_S_moveItems 11 = .ok (.getfield 21, 3) := by decide +kernel
theorem d_S_moveItems_14 : decode b_S_moveItems 14 = .ok (.iload_n 3, 1) := by decide +kernel
theorem d_S_moveItems_15 : decode b_S_moveItems 15 = .ok (.aaload, 1) := by decide +kernel
theorem d_S_moveItems_16 : decode b_S_moveItems 16 = .ok (.getfield 164, 3) := by decide +kernel
theorem d_S_moveItems_19 : decode b_S_moveItems 19 = .ok (.lload_n 1, 1) := by decide +kernel
theorem d_S_moveItems_20 : decode b_S_moveItems 20 = .ok (.lcmp, 1) := by decide +kernel
theorem d_S_moveItems_21 : decode b_S_moveItems 21 = .ok (.ifCond .ne 13, 3) := by decide +kernel
theorem d_S_moveItems_24 : decode b_S_moveItems 24 = .ok (.aload_n 0, 1) := by decide +kernel
theorem d_S_moveItems_25 : decode b_S_moveItems 25 = .ok (.getfield 21, 3) := by decide +kernel
end
section
theorem d_S_moveItems_28 : decode b_S_moveItems 28 = .ok (.iload_n 3, 1) := by decide +kernel
theorem d_S_moveItems_29 : decode b_S_moveItems 29 = .ok (.aaload, 1) := by decide +kernel
theorem d_S_moveItems_30 : decode b_S_moveItems 30 = .ok (.lload_n 1, 1) := by decide +kernel
theorem d_S_moveItems_31 : decode b_S_moveItems 31 = .ok (.invokevirtual 167, 3) := by decide +kernel
theorem d_S_moveItems_34 : decode b_S_moveItems 34 = .ok (.iinc 3 1, 3) := by decide +kernel
theorem d_S_moveItems_37 : decode b_S_moveItems 37 = .ok (.goto (-35), 3) := by decide +kernel
theorem d_S_moveItems_40 : decode b_S_moveItems 40 = .ok (.return_, 1) := by decide +kernel
theorem d_I_moveOver_0 : decode b_I_moveOver 0 = .ok (.aload_n 0, 1) := by decide +kernel
theorem d_I_moveOver_1 : decode b_I_moveOver 1 = .ok (.getfield 32, 3) := by decide +kernel
theorem d_I_moveOver_4 : decode b_I_moveOver 4 = .ok (.ifnonnull 4, 3) := by decide +kernel
theorem d_I_moveOver_7 : decode b_I_moveOver 7 = .ok (.return_, 1) := by decide +kernel
theorem d_I_moveOver_8 : decode b_I_moveOver 8 = .ok (.aload_n 0, 1) := by decide +kernel
theorem d_I_moveOver_9 : decode b_I_moveOver 9 = .ok (.getfield 9, 3) := by decide +kernel
theorem d_I_moveOver_12 : decode b_I_moveOver 12 = .ok (.ifCond .eq 14, 3) := by decide +kernel
theorem d_I_moveOver_15 : decode b_I_moveOver 15 = .ok (.aload_n 0, 1) := by decide +kernel
theorem d_I_moveOver_16 : decode b_I_moveOver 16 = .ok (.aload_n 0, 1) := by decide +kernel
theorem d_I_moveOver_17 : decode b_I_moveOver 17 = .ok (.getfield 32, 3) := by decide +kernel
theorem d_I_moveOver_20 : decode b_I_moveOver 20 = .ok (.lload_n 1, 1) := by decide +kernel
theorem d_I_moveOver_21 : decode b_I_moveOver 21 = .ok (.lconst 0, 1) := by decide +kernel
theorem d_I_moveOver_22 : decode b_I_moveOver 22 = .ok (.invokevirtual 48, 3) := by decide +kernel
theorem d_I_moveOver_25 : decode b_I_moveOver 25 = .ok (.return_, 1) := by decide +kernel
theorem d_I_moveOver_26 : decode b_I_moveOver 26 = .ok (.aload_n 0, 1) := by decide +kernel
theorem d_I_moveOver_27 : decode b_I_moveOver 27 = .ok (.getfield 32, 3) := by decide +kernel
theorem d_I_moveOver_30 : decode b_I_moveOver 30 = .ok (.lload_n 1, 1) := by decide +kernel
theorem d_I_moveOver_31 : decode b_I_moveOver 31 = .ok (.invokevirtual 39, 3) := by decide +kernel
theorem d_I_moveOver_34 : decode b_I_moveOver 34 = .ok (.aload_n 0, 1) := by decide +kernel
theorem d_I_moveOver_35 : decode b_I_moveOver 35 = .ok (.getfield 15, 3) := by decide +kernel
theorem d_I_moveOver_38 : decode b_I_moveOver 38 = .ok (.lsub, 1) := by decide +kernel
theorem d_I_moveOver_39 : decode b_I_moveOver 39 = .ok (.aload_n 0, 1) := by decide +kernel
theorem d_I_moveOver_40 : decode b_I_moveOver 40 = .ok (.getfield 32, 3) := by decide +kernel
theorem d_I_moveOver_43 : decode b_I_moveOver 43 = .ok (.getfield 52, 3) := by decide +kernel
theorem d_I_moveOver_46 : decode b_I_moveOver 46 = .ok (.lsub, 1) := by decide +kernel
theorem d_I_moveOver_47 : decode b_I_moveOver 47 = .ok (.lstore_n 3, 1) := by decide +kernel
theorem d_I_moveOver_48 : decode b_I_moveOver 48 = .ok (.lload_n 3, 1) := by decide +kernel
theorem d_I_moveOver_49 : decode b_I_moveOver 49 = .ok (.lconst 0, 1) := by decide +kernel
theorem d_I_moveOver_50 : decode b_I_moveOver 50 = .ok (.lcmp, 1) := by decide +kernel
theorem d_I_moveOver_51 : decode b_I_moveOver 51 = .ok (.ifCond .ge 4, 3) := by decide +kernel
theorem d_I_moveOver_54 : decode b_I_moveOver 54 = .ok (.return_, 1) := by decide +kernel
theorem d_I_moveOver_55 : decode b_I_moveOver 55 = .ok (.aload_n 0, 1) := by decide +kernel
theorem d_I_moveOver_56 : decode b_I_moveOver 56 = .ok (.getfield 32, 3) := by decide +kernel
theorem d_I_moveOver_59 : decode b_I_moveOver 59 = .ok (.getfield 53, 3) := by decide +kernel
theorem d_I_moveOver_62 : decode b_I_moveOver 62 = .ok (.ifnonnull 18, 3) := by decide +kernel
theorem d_I_moveOver_65 : decode b_I_moveOver 65 = .ok (.aload_n 0, 1) := by decide +kernel
theorem d_I_moveOver_66 : decode b_I_moveOver 66 = .ok (.aconst_null, 1) := by decide +kernel
theorem d_I_moveOver_67 : decode b_I_moveOver 67 = .ok (.putfield 32, 3) := by decide +kernel
theorem d_I_moveOver_70 : decode b_I_moveOver 70 = .ok (.aload_n 0, 1) := by decide +kernel
theorem d_I_moveOver_71 : decode b_I_moveOver 71 = .ok (.ldc2_w 56, 3) := by decide +kernel
theorem d_I_moveOver_74 : decode b_I_moveOver 74 = .ok (.putfield 36, 3) := by decide +kernel
theorem d_I_moveOver_77 : decode b_I_moveOver 77 = .ok (.goto 16, 3) := by decide +kernel
theorem d_I_moveOver_80 : decode b_I_moveOver 80 = .ok (.aload_n 0, 1) := by decide +kernel
theorem d_I_moveOver_81 : decode b_I_moveOver 81 = .ok (.aload_n 0, 1) := by decide +kernel
theorem d_I_moveOver_82 : decode b_I_moveOver 82 = .ok (.getfield 32, 3) := by decide +kernel
theorem d_I_moveOver_85 : decode b_I_moveOver 85 = .ok (.getfield 53, 3) := by decide +kernel
theorem d_I_moveOver_88 : decode b_I_moveOver 88 = .ok (.lload_n 1, 1) := by decide +kernel
theorem d_I_moveOver_89 : decode b_I_moveOver 89 = .ok (.lload_n 3, 1) := by decide +kernel
theorem d_I_moveOver_90 : decode b_I_moveOver 90 = .ok (.invokevirtual 48, 3) := by decide +kernel
theorem d_I_moveOver_93 : decode b_I_moveOver 93 = .ok (.return_, 1) := by decide +kernel
theorem d_S_tellEdges_0 : decode b_S_tellEdges 0 = .ok (.iconst 0, 1) := by decide +kernel
theorem d_S_tellEdges_1 : decode b_S_tellEdges 1 = .ok (.istore_n 3, 1) := by decide +kernel
theorem d_S_tellEdges_2 : decode b_S_tellEdges 2 = .ok (.iload_n 3, 1) := by decide +kernel
theorem d_S_tellEdges_3 : decode b_S_tellEdges 3 = .ok (.aload_n 0, 1) := by decide +kernel
theorem d_S_tellEdges_4 : decode b_S_tellEdges 4 = .ok (.getfield 25, 3) := by decide +kernel
theorem d_S_tellEdges_7 : decode b_S_tellEdges 7 = .ok (.if_icmp .ge 34, 3) := by decide +kernel
theorem d_S_tellEdges_10 : decode b_S_tellEdges 10 = .ok (.aload_n 0, 1) := by decide +kernel
theorem d_S_tellEdges_11 : decode b_S_tellEdges 11 = .ok (.getfield 21, 3) := by decide +kernel
theorem d_S_tellEdges_14 : decode b_S_tellEdges 14 = .ok (.iload_n 3, 1) := by decide +kernel
theorem d_S_tellEdges_15 : decode b_S_tellEdges 15 = .ok (.aaload, 1) := by decide +kernel
theorem d_S_tellEdges_16 : decode b_S_tellEdges 16 = .ok (.getfield 164, 3) := by decide +kernel
theorem d_S_tellEdges_19 : decode b_S_tellEdges 19 = .ok (.lload_n 1, 1) := by decide +kernel
theorem d_S_tellEdges_20 : decode b_S_tellEdges 20 = .ok (.lcmp, 1) := by decide +kernel
theorem d_S_tellEdges_21 : decode b_S_tellEdges 21 = .ok (.ifCond .ne 14, 3) := by decide +kernel
theorem d_S_tellEdges_24 : decode b_S_tellEdges 24 = .ok (.aload_n 0, 1) := by decide +kernel
theorem d_S_tellEdges_25 : decode b_S_tellEdges 25 = .ok (.aload_n 0, 1) := by decide +kernel
theorem d_S_tellEdges_26 : decode b_S_tellEdges 26 = .ok (.getfield 21, 3) := by decide +kernel
theorem d_S_tellEdges_29 : decode b_S_tellEdges 29 = .ok (.iload_n 3, 1) := by decide +kernel
theorem d_S_tellEdges_30 : decode b_S_tellEdges 30 = .ok (.aaload, 1) := by decide +kernel
theorem d_S_tellEdges_31 : decode b_S_tellEdges 31 = .ok (.lload_n 1, 1) := by decide +kernel
theorem d_S_tellEdges_32 : decode b_S_tellEdges 32 = .ok (.invokevirtual 170, 3) := by decide +kernel
theorem d_S_tellEdges_35 : decode b_S_tellEdges 35 = .ok (.iinc 3 1, 3) := by decide +kernel
theorem d_S_tellEdges_38 : decode b_S_tellEdges 38 = .ok (.goto (-36), 3) := by decide +kernel
theorem d_S_tellEdges_41 : decode b_S_tellEdges 41 = .ok (.return_, 1) := by decide +kernel
theorem d_S_tellEdgesOf_0 : decode b_S_tellEdgesOf 0 = .ok (.aload_n 1, 1) := by decide +kernel
theorem d_S_tellEdgesOf_1 : decode b_S_tellEdgesOf 1 = .ok (.getfield 135, 3) := by decide +kernel
theorem d_S_tellEdgesOf_4 : decode b_S_tellEdgesOf 4 = .ok (.astore 4, 2) := by decide +kernel
theorem d_S_tellEdgesOf_6 : decode b_S_tellEdgesOf 6 = .ok (.aload 4, 2) := by decide +kernel
theorem d_S_tellEdgesOf_8 : decode b_S_tellEdgesOf 8 = .ok (.ifnonnull 4, 3) := by decide +kernel
theorem d_S_tellEdgesOf_11 : decode b_S_tellEdgesOf 11 = .ok (.return_, 1) := by decide +kernel
theorem d_S_tellEdgesOf_12 : decode b_S_tellEdgesOf 12 = .ok (.aload 4, 2) := by decide +kernel
theorem d_S_tellEdgesOf_14 : decode b_S_tellEdgesOf 14 = .ok (.lload_n 2, 1) := by decide +kernel
theorem d_S_tellEdgesOf_15 : decode b_S_tellEdgesOf 15 = .ok (.invokevirtual 174, 3) := by decide +kernel
theorem d_S_tellEdgesOf_18 : decode b_S_tellEdgesOf 18 = .ok (.lstore 5, 2) := by decide +kernel
theorem d_S_tellEdgesOf_20 : decode b_S_tellEdgesOf 20 = .ok (.lload 5, 2) := by decide +kernel
theorem d_S_tellEdgesOf_22 : decode b_S_tellEdgesOf 22 = .ok (.aload_n 1, 1) := by decide +kernel
theorem d_S_tellEdgesOf_23 : decode b_S_tellEdgesOf 23 = .ok (.getfield 121, 3) := by decide +kernel
theorem d_S_tellEdgesOf_26 : decode b_S_tellEdgesOf 26 = .ok (.lsub, 1) := by decide +kernel
theorem d_S_tellEdgesOf_27 : decode b_S_tellEdgesOf 27 = .ok (.aload 4, 2) := by decide +kernel
theorem d_S_tellEdgesOf_29 : decode b_S_tellEdgesOf 29 = .ok (.getfield 177, 3) := by decide +kernel
theorem d_S_tellEdgesOf_32 : decode b_S_tellEdgesOf 32 = .ok (.lsub, 1) := by decide +kernel
theorem d_S_tellEdgesOf_33 : decode b_S_tellEdgesOf 33 = .ok (.lstore 7, 2) := by decide +kernel
theorem d_S_tellEdgesOf_35 : decode b_S_tellEdgesOf 35 = .ok (.aload_n 1, 1) := by decide +kernel
theorem d_S_tellEdgesOf_36 : decode b_S_tellEdgesOf 36 = .ok (.getfield 180, 3) := by decide +kernel
theorem d_S_tellEdgesOf_39 : decode b_S_tellEdgesOf 39 = .ok (.ifCond .ne 51, 3) := by decide +kernel
theorem d_S_tellEdgesOf_42 : decode b_S_tellEdgesOf 42 = .ok (.lload 7, 2) := by decide +kernel
theorem d_S_tellEdgesOf_44 : decode b_S_tellEdgesOf 44 = .ok (.lconst 0, 1) := by decide +kernel
theorem d_S_tellEdgesOf_45 : decode b_S_tellEdgesOf 45 = .ok (.lcmp, 1) := by decide +kernel
theorem d_S_tellEdgesOf_46 : decode b_S_tellEdgesOf 46 = .ok (.ifCond .lt 44, 3) := by decide +kernel
theorem d_S_tellEdgesOf_49 : decode b_S_tellEdgesOf 49 = .ok (.aload_n 0, 1) := by decide +kernel
theorem d_S_tellEdgesOf_50 : decode b_S_tellEdgesOf 50 = .ok (.aload_n 1, 1) := by decide +kernel
theorem d_S_tellEdgesOf_51 : decode b_S_tellEdgesOf 51 = .ok (.lload 5, 2) := by decide +kernel
theorem d_S_tellEdgesOf_53 : decode b_S_tellEdgesOf 53 = .ok (.invokevirtual 183, 3) := by decide +kernel
theorem d_S_tellEdgesOf_56 : decode b_S_tellEdgesOf 56 = .ok (.ifCond .eq 7, 3) := by decide +kernel
theorem d_S_tellEdgesOf_59 : decode b_S_tellEdgesOf 59 = .ok (.iconst 2, 1) := by decide +kernel
theorem d_S_tellEdgesOf_60 : decode b_S_tellEdgesOf 60 = .ok (.goto 4, 3) := by decide +kernel
theorem d_S_tellEdgesOf_63 : decode b_S_tellEdgesOf 63 = .ok (.iconst 0, 1) := by decide +kernel
theorem d_S_tellEdgesOf_64 : decode b_S_tellEdgesOf 64 = .ok (.istore 9, 2) := by decide +kernel
theorem d_S_tellEdgesOf_66 : decode b_S_tellEdgesOf 66 = .ok (.aload_n 0, 1) := by decide +kernel
theorem d_S_tellEdgesOf_67 : decode b_S_tellEdgesOf 67 = .ok (.getfield 31, 3) := by decide +kernel
theorem d_S_tellEdgesOf_70 : decode b_S_tellEdgesOf 70 = .ok (.lload_n 2, 1) := by decide +kernel
theorem d_S_tellEdgesOf_71 : decode b_S_tellEdgesOf 71 = .ok (.aload 4, 2) := by decide +kernel
theorem d_S_tellEdgesOf_73 : decode b_S_tellEdgesOf 73 = .ok (.getfield 51, 3) := by decide +kernel
theorem d_S_tellEdgesOf_76 : decode b_S_tellEdgesOf 76 = .ok (.aload_n 1, 1) := by decide +kernel
theorem d_S_tellEdgesOf_77 : decode b_S_tellEdgesOf 77 = .ok (.getfield 73, 3) := by decide +kernel
theorem d_S_tellEdgesOf_80 : decode b_S_tellEdgesOf 80 = .ok (.iload 9, 2) := by decide +kernel
theorem d_S_tellEdgesOf_82 : decode b_S_tellEdgesOf 82 = .ok (.invokevirtual 187, 3) := by decide +kernel
theorem d_S_tellEdgesOf_85 : decode b_S_tellEdgesOf 85 = .ok (.aload_n 1, 1) := by decide +kernel
theorem d_S_tellEdgesOf_86 : decode b_S_tellEdgesOf 86 = .ok (.iconst 1, 1) := by decide +kernel
theorem d_S_tellEdgesOf_87 : decode b_S_tellEdgesOf 87 = .ok (.putfield 180, 3) := by decide +kernel
theorem d_S_tellEdgesOf_90 : decode b_S_tellEdgesOf 90 = .ok (.aload_n 1, 1) := by decide +kernel
theorem d_S_tellEdgesOf_91 : decode b_S_tellEdgesOf 91 = .ok (.getfield 180, 3) := by decide +kernel
theorem d_S_tellEdgesOf_94 : decode b_S_tellEdgesOf 94 = .ok (.ifCond .eq 43, 3) := by decide +kernel
theorem d_S_tellEdgesOf_97 : decode b_S_tellEdgesOf 97 = .ok (.aload_n 1, 1) := by decide +kernel
theorem d_S_tellEdgesOf_98 : decode b_S_tellEdgesOf 98 = .ok (.getfield 191, 3) := by decide +kernel
theorem d_S_tellEdgesOf_101 : decode b_S_tellEdgesOf 101 = .ok (.ifCond .ne 36, 3) := by decide +kernel
theorem d_S_tellEdgesOf_104 : decode b_S_tellEdgesOf 104 = .ok (.lload 7, 2) := by decide +kernel
theorem d_S_tellEdgesOf_106 : decode b_S_tellEdgesOf 106 = .ok (.aload_n 1, 1) := by decide +kernel
theorem d_S_tellEdgesOf_107 : decode b_S_tellEdgesOf 107 = .ok (.getfield 138, 3) := by decide +kernel
theorem d_S_tellEdgesOf_110 : decode b_S_tellEdgesOf 110 = .ok (.lcmp, 1) := by decide +kernel
theorem d_S_tellEdgesOf_111 : decode b_S_tellEdgesOf 111 = .ok (.ifCond .lt 26, 3) := by decide +kernel
theorem d_S_tellEdgesOf_114 : decode b_S_tellEdgesOf 114 = .ok (.aload_n 0, 1) := by decide +kernel
theorem d_S_tellEdgesOf_115 : decode b_S_tellEdgesOf 115 = .ok (.getfield 31, 3) := by decide +kernel
theorem d_S_tellEdgesOf_118 : decode b_S_tellEdgesOf 118 = .ok (.lload_n 2, 1) := by decide +kernel
theorem d_S_tellEdgesOf_119 : decode b_S_tellEdgesOf 119 = .ok (.aload 4, 2) := by decide +kernel
theorem d_S_tellEdgesOf_121 : decode b_S_tellEdgesOf 121 = .ok (.getfield 51, 3) := by decide +kernel
theorem d_S_tellEdgesOf_124 : decode b_S_tellEdgesOf 124 = .ok (.aload_n 1, 1) := by decide +kernel
theorem d_S_tellEdgesOf_125 : decode b_S_tellEdgesOf 125 = .ok (.getfield 73, 3) := by decide +kernel
theorem d_S_tellEdgesOf_128 : decode b_S_tellEdgesOf 128 = .ok (.iconst 1, 1) := by decide +kernel
theorem d_S_tellEdgesOf_129 : decode b_S_tellEdgesOf 129 = .ok (.invokevirtual 187, 3) := by decide +kernel
theorem d_S_tellEdgesOf_132 : decode b_S_tellEdgesOf 132 = .ok (.aload_n 1, 1) := by decide +kernel
theorem d_S_tellEdgesOf_133 : decode b_S_tellEdgesOf 133 = .ok (.iconst 1, 1) := by decide +kernel
theorem d_S_tellEdgesOf_134 : decode b_S_tellEdgesOf 134 = .ok (.putfield 191, 3) := by decide +kernel
theorem d_S_tellEdgesOf_137 : decode b_S_tellEdgesOf 137 = .ok (.aload_n 1, 1) := by decide +kernel
theorem d_S_tellEdgesOf_138 : decode b_S_tellEdgesOf 138 = .ok (.invokevirtual 124, 3) := by decide +kernel
theorem d_S_tellEdgesOf_141 : decode b_S_tellEdgesOf 141 = .ok (.return_, 1) := by decide +kernel
theorem d_S_isShort_0 : decode b_S_isShort 0 = .ok (.lload_n 2, 1) := by decide +kernel
theorem d_S_isShort_1 : decode b_S_isShort 1 = .ok (.aload_n 1, 1) := by decide +kernel
theorem d_S_isShort_2 : decode b_S_isShort 2 = .ok (.getfield 121, 3) := by decide +kernel
theorem d_S_isShort_5 : decode b_S_isShort 5 = .ok (.lsub, 1) := by decide +kernel
theorem d_S_isShort_6 : decode b_S_isShort 6 = .ok (.lstore 4, 2) := by decide +kernel
theorem d_S_isShort_8 : decode b_S_isShort 8 = .ok (.iconst 0, 1) := by decide +kernel
theorem d_S_isShort_9 : decode b_S_isShort 9 = .ok (.istore 6, 2) := by decide +kernel
theorem d_S_isShort_11 : decode b_S_isShort 11 = .ok (.iload 6, 2) := by decide +kernel
theorem d_S_isShort_13 : decode b_S_isShort 13 = .ok (.aload_n 0, 1) := by decide +kernel
theorem d_S_isShort_14 : decode b_S_isShort 14 = .ok (.getfield 25, 3) := by decide +kernel
theorem d_S_isShort_17 : decode b_S_isShort 17 = .ok (.if_icmp .ge 108, 3) := by decide +kernel
theorem d_S_isShort_20 : decode b_S_isShort 20 = .ok (.aload_n 0, 1) := by decide +kernel
theorem d_S_isShort_21 : decode b_S_isShort 21 = .ok (.getfield 21, 3) := by decide +kernel
theorem d_S_isShort_24 : decode b_S_isShort 24 = .ok (.iload 6, 2) := by decide +kernel
theorem d_S_isShort_26 : decode b_S_isShort 26 = .ok (.aaload, 1) := by decide +kernel
theorem d_S_isShort_27 : decode b_S_isShort 27 = .ok (.astore 7, 2) := by decide +kernel
theorem d_S_isShort_29 : decode b_S_isShort 29 = .ok (.aload 7, 2) := by decide +kernel
theorem d_S_isShort_31 : decode b_S_isShort 31 = .ok (.aload_n 1, 1) := by decide +kernel
theorem d_S_isShort_32 : decode b_S_isShort 32 = .ok (.if_acmp .eq 87, 3) := by decide +kernel
theorem d_S_isShort_35 : decode b_S_isShort 35 = .ok (.aload 7, 2) := by decide +kernel
theorem d_S_isShort_37 : decode b_S_isShort 37 = .ok (.aload_n 1, 1) := by decide +kernel
theorem d_S_isShort_38 : decode b_S_isShort 38 = .ok (.getfield 135, 3) := by decide +kernel
theorem d_S_isShort_41 : decode b_S_isShort 41 = .ok (.invokevirtual 141, 3) := by decide +kernel
theorem d_S_isShort_44 : decode b_S_isShort 44 = .ok (.ifCond .ne 6, 3) := by decide +kernel
theorem d_S_isShort_47 : decode b_S_isShort 47 = .ok (.goto 72, 3) := by decide +kernel
theorem d_S_isShort_50 : decode b_S_isShort 50 = .ok (.lload_n 2, 1) := by decide +kernel
theorem d_S_isShort_51 : decode b_S_isShort 51 = .ok (.aload 7, 2) := by decide +kernel
theorem d_S_isShort_53 : decode b_S_isShort 53 = .ok (.getfield 121, 3) := by decide +kernel
theorem d_S_isShort_56 : decode b_S_isShort 56 = .ok (.lsub, 1) := by decide +kernel
theorem d_S_isShort_57 : decode b_S_isShort 57 = .ok (.lstore 8, 2) := by decide +kernel
theorem d_S_isShort_59 : decode b_S_isShort 59 = .ok (.lload 8, 2) := by decide +kernel
theorem d_S_isShort_61 : decode b_S_isShort 61 = .ok (.lload 4, 2) := by decide +kernel
theorem d_S_isShort_63 : decode b_S_isShort 63 = .ok (.lcmp, 1) := by decide +kernel
theorem d_S_isShort_64 : decode b_S_isShort 64 = .ok (.ifCond .gt 23, 3) := by decide +kernel
theorem d_S_isShort_67 : decode b_S_isShort 67 = .ok (.lload 8, 2) := by decide +kernel
theorem d_S_isShort_69 : decode b_S_isShort 69 = .ok (.lload 4, 2) := by decide +kernel
theorem d_S_isShort_71 : decode b_S_isShort 71 = .ok (.lcmp, 1) := by decide +kernel
theorem d_S_isShort_72 : decode b_S_isShort 72 = .ok (.ifCond .ne 19, 3) := by decide +kernel
theorem d_S_isShort_75 : decode b_S_isShort 75 = .ok (.aload 7, 2) := by decide +kernel
theorem d_S_isShort_77 : decode b_S_isShort 77 = .ok (.getfield 73, 3) := by decide +kernel
theorem d_S_isShort_80 : decode b_S_isShort 80 = .ok (.aload_n 1, 1) := by decide +kernel
theorem d_S_isShort_81 : decode b_S_isShort 81 = .ok (.getfield 73, 3) := by decide +kernel
theorem d_S_isShort_84 : decode b_S_isShort 84 = .ok (.if_icmp .ge 7, 3) := by decide +kernel
theorem d_S_isShort_87 : decode b_S_isShort 87 = .ok (.iconst 1, 1) := by decide +kernel
theorem d_S_isShort_88 : decode b_S_isShort 88 = .ok (.goto 4, 3) := by decide +kernel
theorem d_S_isShort_91 : decode b_S_isShort 91 = .ok (.iconst 0, 1) := by decide +kernel
theorem d_S_isShort_92 : decode b_S_isShort 92 = .ok (.istore 10, 2) := by decide +kernel
theorem d_S_isShort_94 : decode b_S_isShort 94 = .ok (.iload 10, 2) := by decide +kernel
theorem d_S_isShort_96 : decode b_S_isShort 96 = .ok (.ifCond .eq 23, 3) := by decide +kernel
theorem d_S_isShort_99 : decode b_S_isShort 99 = .ok (.lload 8, 2) := by decide +kernel
theorem d_S_isShort_101 : decode b_S_isShort 101 = .ok (.aload 7, 2) := by decide +kernel
theorem d_S_isShort_103 : decode b_S_isShort 103 = .ok (.getfield 138, 3) := by decide +kernel
theorem d_S_isShort_106 : decode b_S_isShort 106 = .ok (.lsub, 1) := by decide +kernel
theorem d_S_isShort_107 : decode b_S_isShort 107 = .ok (.lload 4, 2) := by decide +kernel
theorem d_S_isShort_109 : decode b_S_isShort 109 = .ok (.lsub, 1) := by decide +kernel
theorem d_S_isShort_110 : decode b_S_isShort 110 = .ok (.ldc2_w 194, 3) := by decide +kernel
theorem d_S_isShort_113 : decode b_S_isShort 113 = .ok (.lcmp, 1) := by decide +kernel
theorem d_S_isShort_114 : decode b_S_isShort 114 = .ok (.ifCond .ge 5, 3) := by decide +kernel
theorem d_S_isShort_117 : decode b_S_isShort 117 = .ok (.iconst 1, 1) := by decide +kernel
theorem d_S_isShort_118 : decode b_S_isShort 118 = .ok (.ireturn, 1) := by decide +kernel
theorem d_S_isShort_119 : decode b_S_isShort 119 = .ok (.iinc 6 1, 3) := by decide +kernel
theorem d_S_isShort_122 : decode b_S_isShort 122 = .ok (.goto (-111), 3) := by decide +kernel
theorem d_S_isShort_125 : decode b_S_isShort 125 = .ok (.iconst 0, 1) := by decide +kernel
theorem d_S_isShort_126 : decode b_S_isShort 126 = .ok (.ireturn, 1) := by decide +kernel
theorem d_I_isOn_0 : decode b_I_isOn 0 = .ok (.aload_n 0, 1) := by decide +kernel
theorem d_I_isOn_1 : decode b_I_isOn 1 = .ok (.getfield 32, 3) := by decide +kernel
theorem d_I_isOn_4 : decode b_I_isOn 4 = .ok (.aload_n 1, 1) := by decide +kernel
theorem d_I_isOn_5 : decode b_I_isOn 5 = .ok (.if_acmp .ne 14, 3) := by decide +kernel
theorem d_I_isOn_8 : decode b_I_isOn 8 = .ok (.aload_n 0, 1) := by decide +kernel
theorem d_I_isOn_9 : decode b_I_isOn 9 = .ok (.getfield 9, 3) := by decide +kernel
theorem d_I_isOn_12 : decode b_I_isOn 12 = .ok (.ifCond .ne 7, 3) := by decide +kernel
theorem d_I_isOn_15 : decode b_I_isOn 15 = .ok (.iconst 1, 1) := by decide +kernel
theorem d_I_isOn_16 : decode b_I_isOn 16 = .ok (.goto 4, 3) := by decide +kernel
theorem d_I_isOn_19 : decode b_I_isOn 19 = .ok (.iconst 0, 1) := by decide +kernel
theorem d_I_isOn_20 : decode b_I_isOn 20 = .ok (.ireturn, 1) := by decide +kernel
theorem d_E_add_0 : decode b_E_add 0 = .ok (.aload_n 0, 1) := by decide +kernel
theorem d_E_add_1 : decode b_E_add 1 = .ok (.getfield 15, 3) := by decide +kernel
theorem d_E_add_4 : decode b_E_add 4 = .ok (.sipush 400, 3) := by decide +kernel
theorem d_E_add_7 : decode b_E_add 7 = .ok (.if_icmp .ge 52, 3) := by decide +kernel
theorem d_E_add_10 : decode b_E_add 10 = .ok (.aload_n 0, 1) := by decide +kernel
theorem d_E_add_11 : decode b_E_add 11 = .ok (.getfield 15, 3) := by decide +kernel
theorem d_E_add_14 : decode b_E_add 14 = .ok (.iconst 4, 1) := by decide +kernel
theorem d_E_add_15 : decode b_E_add 15 = .ok (.imul, 1) := by decide +kernel
theorem d_E_add_16 : decode b_E_add 16 = .ok (.istore 6, 2) := by decide +kernel
theorem d_E_add_18 : decode b_E_add 18 = .ok (.aload_n 0, 1) := by decide +kernel
theorem d_E_add_19 : decode b_E_add 19 = .ok (.getfield 11, 3) := by decide +kernel
theorem d_E_add_22 : decode b_E_add 22 = .ok (.iload 6, 2) := by decide +kernel
theorem d_E_add_24 : decode b_E_add 24 = .ok (.lload_n 1, 1) := by decide +kernel
theorem d_E_add_25 : decode b_E_add 25 = .ok (.l2i, 1) := by decide +kernel
theorem d_E_add_26 : decode b_E_add 26 = .ok (.iastore, 1) := by decide +kernel
theorem d_E_add_27 : decode b_E_add 27 = .ok (.aload_n 0, 1) := by decide +kernel
theorem d_E_add_28 : decode b_E_add 28 = .ok (.getfield 11, 3) := by decide +kernel
theorem d_E_add_31 : decode b_E_add 31 = .ok (.iload 6, 2) := by decide +kernel
theorem d_E_add_33 : decode b_E_add 33 = .ok (.iconst 1, 1) := by decide +kernel
theorem d_E_add_34 : decode b_E_add 34 = .ok (.iadd, 1) := by decide +kernel
theorem d_E_add_35 : decode b_E_add 35 = .ok (.iload_n 3, 1) := by decide +kernel
theorem d_E_add_36 : decode b_E_add 36 = .ok (.iastore, 1) := by decide +kernel
theorem d_E_add_37 : decode b_E_add 37 = .ok (.aload_n 0, 1) := by decide +kernel
theorem d_E_add_38 : decode b_E_add 38 = .ok (.getfield 11, 3) := by decide +kernel
theorem d_E_add_41 : decode b_E_add 41 = .ok (.iload 6, 2) := by decide +kernel
theorem d_E_add_43 : decode b_E_add 43 = .ok (.iconst 2, 1) := by decide +kernel
theorem d_E_add_44 : decode b_E_add 44 = .ok (.iadd, 1) := by decide +kernel
theorem d_E_add_45 : decode b_E_add 45 = .ok (.iload 4, 2) := by decide +kernel
theorem d_E_add_47 : decode b_E_add 47 = .ok (.iastore, 1) := by decide +kernel
theorem d_E_add_48 : decode b_E_add 48 = .ok (.aload_n 0, 1) := by decide +kernel
theorem d_E_add_49 : decode b_E_add 49 = .ok (.getfield 11, 3) := by decide +kernel
theorem d_E_add_52 : decode b_E_add 52 = .ok (.iload 6, 2) := by decide +kernel
theorem d_E_add_54 : decode b_E_add 54 = .ok (.iconst 3, 1) := by decide +kernel
theorem d_E_add_55 : decode b_E_add 55 = .ok (.iadd, 1) := by decide +kernel
theorem d_E_add_56 : decode b_E_add 56 = .ok (.iload 5, 2) := by decide +kernel
theorem d_E_add_58 : decode b_E_add 58 = .ok (.iastore, 1) := by decide +kernel
theorem d_E_add_59 : decode b_E_add 59 = .ok (.aload_n 0, 1) := by decide +kernel
theorem d_E_add_60 : decode b_E_add 60 = .ok (.dup, 1) := by decide +kernel
theorem d_E_add_61 : decode b_E_add 61 = .ok (.getfield 15, 3) := by decide +kernel
theorem d_E_add_64 : decode b_E_add 64 = .ok (.iconst 1, 1) := by decide +kernel
theorem d_E_add_65 : decode b_E_add 65 = .ok (.iadd, 1) := by decide +kernel
theorem d_E_add_66 : decode b_E_add 66 = .ok (.putfield 15, 3) := by decide +kernel
theorem d_E_add_69 : decode b_E_add 69 = .ok (.return_, 1) := by decide +kernel
theorem d_E_takeNew_0 : decode b_E_takeNew 0 = .ok (.aload_n 0, 1) := by decide +kernel
theorem d_E_takeNew_1 : decode b_E_takeNew 1 = .ok (.getfield 15, 3) := by decide +kernel
theorem d_E_takeNew_4 : decode b_E_takeNew 4 = .ok (.aload_n 0, 1) := by decide +kernel
theorem d_E_takeNew_5 : decode b_E_takeNew 5 = .ok (.getfield 19, 3) := by decide +kernel
theorem d_E_takeNew_8 : decode b_E_takeNew 8 = .ok (.isub, 1) := by decide +kernel
theorem d_E_takeNew_9 : decode b_E_takeNew 9 = .ok (.istore_n 1, 1) := by decide +kernel
theorem d_E_takeNew_10 : decode b_E_takeNew 10 = .ok (.aload_n 0, 1) := by decide +kernel
theorem d_E_takeNew_11 : decode b_E_takeNew 11 = .ok (.aload_n 0, 1) := by decide +kernel
theorem d_E_takeNew_12 : decode b_E_takeNew 12 = .ok (.getfield 15, 3) := by decide +kernel
theorem d_E_takeNew_15 : decode b_E_takeNew 15 = .ok (.putfield 19, 3) := by decide +kernel
theorem d_E_takeNew_18 : decode b_E_takeNew 18 = .ok (.iload_n 1, 1) := by decide +kernel
theorem d_E_takeNew_19 : decode b_E_takeNew 19 = .ok (.ireturn, 1) := by decide +kernel
theorem d_S_edge_0 : decode b_S_edge 0 = .ok (.aload_n 0, 1) := by decide +kernel
theorem d_S_edge_1 : decode b_S_edge 1 = .ok (.getfield 31, 3) := by decide +kernel
theorem d_S_edge_4 : decode b_S_edge 4 = .ok (.iload_n 1, 1) := by decide +kernel
theorem d_S_edge_5 : decode b_S_edge 5 = .ok (.iload_n 2, 1) := by decide +kernel
theorem d_S_edge_6 : decode b_S_edge 6 = .ok (.invokevirtual 82, 3) := by decide +kernel
theorem d_S_edge_9 : decode b_S_edge 9 = .ok (.ireturn, 1) := by decide +kernel
theorem d_E_read_0 : decode b_E_read 0 = .ok (.iload_n 1, 1) := by decide +kernel
theorem d_E_read_1 : decode b_E_read 1 = .ok (.ifCond .lt 18, 3) := by decide +kernel
theorem d_E_read_4 : decode b_E_read 4 = .ok (.iload_n 1, 1) := by decide +kernel
theorem d_E_read_5 : decode b_E_read 5 = .ok (.sipush 400, 3) := by decide +kernel
theorem d_E_read_8 : decode b_E_read 8 = .ok (.if_icmp .ge 11, 3) := by decide +kernel
theorem d_E_read_11 : decode b_E_read 11 = .ok (.iload_n 1, 1) := by decide +kernel
theorem d_E_read_12 : decode b_E_read 12 = .ok (.aload_n 0, 1) := by decide +kernel
theorem d_E_read_13 : decode b_E_read 13 = .ok (.getfield 15, 3) := by decide +kernel
theorem d_E_read_16 : decode b_E_read 16 = .ok (.if_icmp .lt 5, 3) := by decide +kernel
theorem d_E_read_19 : decode b_E_read 19 = .ok (.iconst (-1), 1) := by decide +kernel
theorem d_E_read_20 : decode b_E_read 20 = .ok (.ireturn, 1) := by decide +kernel
theorem d_E_read_21 : decode b_E_read 21 = .ok (.iload_n 2, 1) := by decide +kernel
theorem d_E_read_22 : decode b_E_read 22 = .ok (.ifCond .lt 8, 3) := by decide +kernel
theorem d_E_read_25 : decode b_E_read 25 = .ok (.iload_n 2, 1) := by decide +kernel
theorem d_E_read_26 : decode b_E_read 26 = .ok (.iconst 4, 1) := by decide +kernel
theorem d_E_read_27 : decode b_E_read 27 = .ok (.if_icmp .lt 5, 3) := by decide +kernel
theorem d_E_read_30 : decode b_E_read 30 = .ok (.iconst (-1), 1) := by decide +kernel
theorem d_E_read_31 : decode b_E_read 31 = .ok (.ireturn, 1) := by decide +kernel
theorem d_E_read_32 : decode b_E_read 32 = .ok (.aload_n 0, 1) := by decide +kernel
theorem d_E_read_33 : decode b_E_read 33 = .ok (.getfield 11, 3) := by decide +kernel
theorem d_E_read_36 : decode b_E_read 36 = .ok (.iload_n 1, 1) := by decide +kernel
theorem d_E_read_37 : decode b_E_read 37 = .ok (.iconst 4, 1) := by decide +kernel
theorem d_E_read_38 : decode b_E_read 38 = .ok (.imul, 1) := by decide +kernel
theorem d_E_read_39 : decode b_E_read 39 = .ok (.iload_n 2, 1) := by decide +kernel
theorem d_E_read_40 : decode b_E_read 40 = .ok (.iadd, 1) := by decide +kernel
theorem d_E_read_41 : decode b_E_read 41 = .ok (.iaload, 1) := by decide +kernel
theorem d_E_read_42 : decode b_E_read 42 = .ok (.ireturn, 1) := by decide +kernel
theorem d_S_stop_0 : decode b_S_stop 0 = .ok (.aload_n 0, 1) := by decide +kernel
theorem d_S_stop_1 : decode b_S_stop 1 = .ok (.iload_n 1, 1) := by decide +kernel
theorem d_S_stop_2 : decode b_S_stop 2 = .ok (.invokevirtual 54, 3) := by decide +kernel
theorem d_S_stop_5 : decode b_S_stop 5 = .ok (.astore 5, 2) := by decide +kernel
theorem d_S_stop_7 : decode b_S_stop 7 = .ok (.aload 5, 2) := by decide +kernel
theorem d_S_stop_9 : decode b_S_stop 9 = .ok (.ifnonnull 6, 3) := by decide +kernel
theorem d_S_stop_12 : decode b_S_stop 12 = .ok (.bipush (-11), 2) := by decide +kernel
theorem d_S_stop_14 : decode b_S_stop 14 = .ok (.ireturn, 1) := by decide +kernel
theorem d_S_stop_15 : decode b_S_stop 15 = .ok (.aload_n 0, 1) := by decide +kernel
theorem d_S_stop_16 : decode b_S_stop 16 = .ok (.lload_n 3, 1) := by decide +kernel
theorem d_S_stop_17 : decode b_S_stop 17 = .ok (.invokevirtual 62, 3) := by decide +kernel
theorem d_S_stop_20 : decode b_S_stop 20 = .ok (.ifCond .ne 6, 3) := by decide +kernel
theorem d_S_stop_23 : decode b_S_stop 23 = .ok (.bipush (-12), 2) := by decide +kernel
theorem d_S_stop_25 : decode b_S_stop 25 = .ok (.ireturn, 1) := by decide +kernel
theorem d_S_stop_26 : decode b_S_stop 26 = .ok (.aload 5, 2) := by decide +kernel
theorem d_S_stop_28 : decode b_S_stop 28 = .ok (.getfield 86, 3) := by decide +kernel
theorem d_S_stop_31 : decode b_S_stop 31 = .ok (.iload_n 2, 1) := by decide +kernel
theorem d_S_stop_32 : decode b_S_stop 32 = .ok (.if_icmp .eq 7, 3) := by decide +kernel
theorem d_S_stop_35 : decode b_S_stop 35 = .ok (.iconst 1, 1) := by decide +kernel
theorem d_S_stop_36 : decode b_S_stop 36 = .ok (.goto 4, 3) := by decide +kernel
theorem d_S_stop_39 : decode b_S_stop 39 = .ok (.iconst 0, 1) := by decide +kernel
theorem d_S_stop_40 : decode b_S_stop 40 = .ok (.istore 6, 2) := by decide +kernel
theorem d_S_stop_42 : decode b_S_stop 42 = .ok (.iload 6, 2) := by decide +kernel
theorem d_S_stop_44 : decode b_S_stop 44 = .ok (.ifCond .eq 16, 3) := by decide +kernel
theorem d_S_stop_47 : decode b_S_stop 47 = .ok (.aload 5, 2) := by decide +kernel
theorem d_S_stop_49 : decode b_S_stop 49 = .ok (.getfield 90, 3) := by decide +kernel
theorem d_S_stop_52 : decode b_S_stop 52 = .ok (.bipush 100, 2) := by decide +kernel
theorem d_S_stop_54 : decode b_S_stop 54 = .ok (.if_icmp .lt 6, 3) := by decide +kernel
theorem d_S_stop_57 : decode b_S_stop 57 = .ok (.bipush (-14), 2) := by decide +kernel
theorem d_S_stop_59 : decode b_S_stop 59 = .ok (.ireturn, 1) := by decide +kernel
theorem d_S_stop_60 : decode b_S_stop 60 = .ok (.aload_n 0, 1) := by decide +kernel
theorem d_S_stop_61 : decode b_S_stop 61 = .ok (.lload_n 3, 1) := by decide +kernel
theorem d_S_stop_62 : decode b_S_stop 62 = .ok (.invokevirtual 74, 3) := by decide +kernel
theorem d_S_stop_65 : decode b_S_stop 65 = .ok (.iload 6, 2) := by decide +kernel
theorem d_S_stop_67 : decode b_S_stop 67 = .ok (.ifCond .ne 5, 3) := by decide +kernel
theorem d_S_stop_70 : decode b_S_stop 70 = .ok (.iconst 0, 1) := by decide +kernel
theorem d_S_stop_71 : decode b_S_stop 71 = .ok (.ireturn, 1) := by decide +kernel
theorem d_S_stop_72 : decode b_S_stop 72 = .ok (.aload 5, 2) := by decide +kernel
theorem d_S_stop_74 : decode b_S_stop 74 = .ok (.iload_n 2, 1) := by decide +kernel
theorem d_S_stop_75 : decode b_S_stop 75 = .ok (.lload_n 3, 1) := by decide +kernel
theorem d_S_stop_76 : decode b_S_stop 76 = .ok (.invokevirtual 93, 3) := by decide +kernel
theorem d_S_stop_79 : decode b_S_stop 79 = .ok (.aload_n 0, 1) := by decide +kernel
theorem d_S_stop_80 : decode b_S_stop 80 = .ok (.aload 5, 2) := by decide +kernel
theorem d_S_stop_82 : decode b_S_stop 82 = .ok (.invokevirtual 97, 3) := by decide +kernel
theorem d_S_stop_85 : decode b_S_stop 85 = .ok (.iconst 1, 1) := by decide +kernel
theorem d_S_stop_86 : decode b_S_stop 86 = .ok (.ireturn, 1) := by decide +kernel
theorem d_B_tell_0 : decode b_B_tell 0 = .ok (.aload_n 0, 1) := by decide +kernel
theorem d_B_tell_1 : decode b_B_tell 1 = .ok (.aload_n 0, 1) := by decide +kernel
theorem d_B_tell_2 : decode b_B_tell 2 = .ok (.lload_n 2, 1) := by decide +kernel
theorem d_B_tell_3 : decode b_B_tell 3 = .ok (.invokevirtual 58, 3) := by decide +kernel
theorem d_B_tell_6 : decode b_B_tell 6 = .ok (.putfield 30, 3) := by decide +kernel
theorem d_B_tell_9 : decode b_B_tell 9 = .ok (.lload_n 2, 1) := by decide +kernel
theorem d_B_tell_10 : decode b_B_tell 10 = .ok (.aload_n 0, 1) := by decide +kernel
theorem d_B_tell_11 : decode b_B_tell 11 = .ok (.getfield 23, 3) := by decide +kernel
theorem d_B_tell_14 : decode b_B_tell 14 = .ok (.lcmp, 1) := by decide +kernel
theorem d_B_tell_15 : decode b_B_tell 15 = .ok (.ifCond .le 14, 3) := by decide +kernel
theorem d_B_tell_18 : decode b_B_tell 18 = .ok (.aload_n 0, 1) := by decide +kernel
theorem d_B_tell_19 : decode b_B_tell 19 = .ok (.aload_n 0, 1) := by decide +kernel
theorem d_B_tell_20 : decode b_B_tell 20 = .ok (.lload_n 2, 1) := by decide +kernel
theorem d_B_tell_21 : decode b_B_tell 21 = .ok (.lconst 1, 1) := by decide +kernel
theorem d_B_tell_22 : decode b_B_tell 22 = .ok (.lsub, 1) := by decide +kernel
theorem d_B_tell_23 : decode b_B_tell 23 = .ok (.invokevirtual 62, 3) := by decide +kernel
theorem d_B_tell_26 : decode b_B_tell 26 = .ok (.putfield 27, 3) := by decide +kernel
theorem d_B_tell_29 : decode b_B_tell 29 = .ok (.aload_n 0, 1) := by decide +kernel
theorem d_B_tell_30 : decode b_B_tell 30 = .ok (.lload_n 2, 1) := by decide +kernel
theorem d_B_tell_31 : decode b_B_tell 31 = .ok (.putfield 23, 3) := by decide +kernel
theorem d_B_tell_34 : decode b_B_tell 34 = .ok (.aload_n 0, 1) := by decide +kernel
theorem d_B_tell_35 : decode b_B_tell 35 = .ok (.iload_n 1, 1) := by decide +kernel
theorem d_B_tell_36 : decode b_B_tell 36 = .ok (.putfield 15, 3) := by decide +kernel
theorem d_B_tell_39 : decode b_B_tell 39 = .ok (.aload_n 0, 1) := by decide +kernel
theorem d_B_tell_40 : decode b_B_tell 40 = .ok (.dup, 1) := by decide +kernel
theorem d_B_tell_41 : decode b_B_tell 41 = .ok (.getfield 19, 3) := by decide +kernel
theorem d_B_tell_44 : decode b_B_tell 44 = .ok (.iconst 1, 1) := by decide +kernel
theorem d_B_tell_45 : decode b_B_tell 45 = .ok (.iadd, 1) := by decide +kernel
theorem d_B_tell_46 : decode b_B_tell 46 = .ok (.putfield 19, 3) := by decide +kernel
theorem d_B_tell_49 : decode b_B_tell 49 = .ok (.aload_n 0, 1) := by decide +kernel
theorem d_B_tell_50 : decode b_B_tell 50 = .ok (.invokevirtual 66, 3) := by decide +kernel
theorem d_B_tell_53 : decode b_B_tell 53 = .ok (.return_, 1) := by decide +kernel
theorem d_B_gearAt_0 : decode b_B_gearAt 0 = .ok (.aload_n 0, 1) := by decide +kernel
theorem d_B_gearAt_1 : decode b_B_gearAt 1 = .ok (.getfield 33, 3) := by decide +kernel
theorem d_B_gearAt_4 : decode b_B_gearAt 4 = .ok (.aload_n 0, 1) := by decide +kernel
theorem d_B_gearAt_5 : decode b_B_gearAt 5 = .ok (.lload_n 1, 1) := by decide +kernel
theorem d_B_gearAt_6 : decode b_B_gearAt 6 = .ok (.invokevirtual 82, 3) := by decide +kernel
theorem d_B_gearAt_9 : decode b_B_gearAt 9 = .ok (.iaload, 1) := by decide +kernel
theorem d_B_gearAt_10 : decode b_B_gearAt 10 = .ok (.ireturn, 1) := by decide +kernel
theorem d_S_aimItemsOn_0 : decode b_S_aimItemsOn 0 = .ok (.iconst 0, 1) := by decide +kernel
theorem d_S_aimItemsOn_1 : decode b_S_aimItemsOn 1 = .ok (.istore_n 2, 1) := by decide +kernel
theorem d_S_aimItemsOn_2 : decode b_S_aimItemsOn 2 = .ok (.iload_n 2, 1) := by decide +kernel
theorem d_S_aimItemsOn_3 : decode b_S_aimItemsOn 3 = .ok (.aload_n 0, 1) := by decide +kernel
theorem d_S_aimItemsOn_4 : decode b_S_aimItemsOn 4 = .ok (.getfield 25, 3) := by decide +kernel
theorem d_S_aimItemsOn_7 : decode b_S_aimItemsOn 7 = .ok (.if_icmp .ge 31, 3) := by decide +kernel
theorem d_S_aimItemsOn_10 : decode b_S_aimItemsOn 10 = .ok (.aload_n 0, 1) := by decide +kernel
theorem d_S_aimItemsOn_11 : decode b_S_aimItemsOn 11 = .ok (.getfield 21, 3) := by decide +kernel
theorem d_S_aimItemsOn_14 : decode b_S_aimItemsOn 14 = .ok (.iload_n 2, 1) := by decide +kernel
theorem d_S_aimItemsOn_15 : decode b_S_aimItemsOn 15 = .ok (.aaload, 1) := by decide +kernel
theorem d_S_aimItemsOn_16 : decode b_S_aimItemsOn 16 = .ok (.aload_n 1, 1) := by decide +kernel
theorem d_S_aimItemsOn_17 : decode b_S_aimItemsOn 17 = .ok (.invokevirtual 141, 3) := by decide +kernel
theorem d_S_aimItemsOn_20 : decode b_S_aimItemsOn 20 = .ok (.ifCond .eq 12, 3) := by decide +kernel
theorem d_S_aimItemsOn_23 : decode b_S_aimItemsOn 23 = .ok (.aload_n 0, 1) := by decide +kernel
theorem d_S_aimItemsOn_24 : decode b_S_aimItemsOn 24 = .ok (.getfield 21, 3) := by decide +kernel
theorem d_S_aimItemsOn_27 : decode b_S_aimItemsOn 27 = .ok (.iload_n 2, 1) := by decide +kernel
theorem d_S_aimItemsOn_28 : decode b_S_aimItemsOn 28 = .ok (.aaload, 1) := by decide +kernel
theorem d_S_aimItemsOn_29 : decode b_S_aimItemsOn 29 = .ok (.invokevirtual 124, 3) := by decide +kernel
theorem d_S_aimItemsOn_32 : decode b_S_aimItemsOn 32 = .ok (.iinc 2 1, 3) := by decide +kernel
theorem d_S_aimItemsOn_35 : decode b_S_aimItemsOn 35 = .ok (.goto (-33), 3) := by decide +kernel
theorem d_S_aimItemsOn_38 : decode b_S_aimItemsOn 38 = .ok (.return_, 1) := by decide +kernel
theorem d_S_slip_0 : decode b_S_slip 0 = .ok (.aload_n 0, 1) := by decide +kernel
theorem d_S_slip_1 : decode b_S_slip 1 = .ok (.iload_n 1, 1) := by decide +kernel
theorem d_S_slip_2 : decode b_S_slip 2 = .ok (.invokevirtual 101, 3) := by decide +kernel
theorem d_S_slip_5 : decode b_S_slip 5 = .ok (.astore 4, 2) := by decide +kernel
theorem d_S_slip_7 : decode b_S_slip 7 = .ok (.aload 4, 2) := by decide +kernel
theorem d_S_slip_9 : decode b_S_slip 9 = .ok (.ifnonnull 6, 3) := by decide +kernel
theorem d_S_slip_12 : decode b_S_slip 12 = .ok (.bipush (-11), 2) := by decide +kernel
theorem d_S_slip_14 : decode b_S_slip 14 = .ok (.ireturn, 1) := by decide +kernel
theorem d_S_slip_15 : decode b_S_slip 15 = .ok (.lload_n 2, 1) := by decide +kernel
theorem d_S_slip_16 : decode b_S_slip 16 = .ok (.lconst 0, 1) := by decide +kernel
theorem d_S_slip_17 : decode b_S_slip 17 = .ok (.lcmp, 1) := by decide +kernel
theorem d_S_slip_18 : decode b_S_slip 18 = .ok (.ifCond .lt 11, 3) := by decide +kernel
theorem d_S_slip_21 : decode b_S_slip 21 = .ok (.lload_n 2, 1) := by decide +kernel
theorem d_S_slip_22 : decode b_S_slip 22 = .ok (.ldc2_w 105, 3) := by decide +kernel
theorem d_S_slip_25 : decode b_S_slip 25 = .ok (.lcmp, 1) := by decide +kernel
theorem d_S_slip_26 : decode b_S_slip 26 = .ok (.ifCond .le 6, 3) := by decide +kernel
theorem d_S_slip_29 : decode b_S_slip 29 = .ok (.bipush (-12), 2) := by decide +kernel
theorem d_S_slip_31 : decode b_S_slip 31 = .ok (.ireturn, 1) := by decide +kernel
theorem d_S_slip_32 : decode b_S_slip 32 = .ok (.aload 4, 2) := by decide +kernel
theorem d_S_slip_34 : decode b_S_slip 34 = .ok (.invokevirtual 107, 3) := by decide +kernel
theorem d_S_slip_37 : decode b_S_slip 37 = .ok (.ifCond .ne 6, 3) := by decide +kernel
theorem d_S_slip_40 : decode b_S_slip 40 = .ok (.bipush (-13), 2) := by decide +kernel
theorem d_S_slip_42 : decode b_S_slip 42 = .ok (.ireturn, 1) := by decide +kernel
theorem d_S_slip_43 : decode b_S_slip 43 = .ok (.lload_n 2, 1) := by decide +kernel
theorem d_S_slip_44 : decode b_S_slip 44 = .ok (.aload 4, 2) := by decide +kernel
theorem d_S_slip_46 : decode b_S_slip 46 = .ok (.aload_n 0, 1) := by decide +kernel
theorem d_S_slip_47 : decode b_S_slip 47 = .ok (.getfield 35, 3) := by decide +kernel
theorem d_S_slip_50 : decode b_S_slip 50 = .ok (.invokevirtual 111, 3) := by decide +kernel
theorem d_S_slip_53 : decode b_S_slip 53 = .ok (.invokestatic 115, 3) := by decide +kernel
theorem d_S_slip_56 : decode b_S_slip 56 = .ok (.lstore 5, 2) := by decide +kernel
theorem d_S_slip_58 : decode b_S_slip 58 = .ok (.aload 4, 2) := by decide +kernel
theorem d_S_slip_60 : decode b_S_slip 60 = .ok (.dup, 1) := by decide +kernel
theorem d_S_slip_61 : decode b_S_slip 61 = .ok (.getfield 121, 3) := by decide +kernel
theorem d_S_slip_64 : decode b_S_slip 64 = .ok (.lload 5, 2) := by decide +kernel
theorem d_S_slip_66 : decode b_S_slip 66 = .ok (.ladd, 1) := by decide +kernel
theorem d_S_slip_67 : decode b_S_slip 67 = .ok (.putfield 121, 3) := by decide +kernel
theorem d_S_slip_70 : decode b_S_slip 70 = .ok (.aload 4, 2) := by decide +kernel
theorem d_S_slip_72 : decode b_S_slip 72 = .ok (.invokevirtual 124, 3) := by decide +kernel
theorem d_S_slip_75 : decode b_S_slip 75 = .ok (.lload 5, 2) := by decide +kernel
theorem d_S_slip_77 : decode b_S_slip 77 = .ok (.l2i, 1) := by decide +kernel
theorem d_S_slip_78 : decode b_S_slip 78 = .ok (.ireturn, 1) := by decide +kernel
theorem d_S_itemNumbered_0 : decode b_S_itemNumbered 0 = .ok (.iload_n 1, 1) := by decide +kernel
theorem d_S_itemNumbered_1 : decode b_S_itemNumbered 1 = .ok (.iconst 1, 1) := by decide +kernel
theorem d_S_itemNumbered_2 : decode b_S_itemNumbered 2 = .ok (.if_icmp .lt 22, 3) := by decide +kernel
theorem d_S_itemNumbered_5 : decode b_S_itemNumbered 5 = .ok (.iload_n 1, 1) := by decide +kernel
theorem d_S_itemNumbered_6 : decode b_S_itemNumbered 6 = .ok (.aload_n 0, 1) := by decide +kernel
theorem d_S_itemNumbered_7 : decode b_S_itemNumbered 7 = .ok (.getfield 25, 3) := by decide +kernel
theorem d_S_itemNumbered_10 : decode b_S_itemNumbered 10 = .ok (.if_icmp .gt 14, 3) := by decide +kernel
theorem d_S_itemNumbered_13 : decode b_S_itemNumbered 13 = .ok (.aload_n 0, 1) := by decide +kernel
theorem d_S_itemNumbered_14 : decode b_S_itemNumbered 14 = .ok (.getfield 21, 3) := by decide +kernel
theorem d_S_itemNumbered_17 : decode b_S_itemNumbered 17 = .ok (.iload_n 1, 1) := by decide +kernel
theorem d_S_itemNumbered_18 : decode b_S_itemNumbered 18 = .ok (.iconst 1, 1) := by decide +kernel
theorem d_S_itemNumbered_19 : decode b_S_itemNumbered 19 = .ok (.isub, 1) := by decide +kernel
theorem d_S_itemNumbered_20 : decode b_S_itemNumbered 20 = .ok (.aaload, 1) := by decide +kernel
theorem d_S_itemNumbered_21 : decode b_S_itemNumbered 21 = .ok (.goto 4, 3) := by decide +kernel
theorem d_S_itemNumbered_24 : decode b_S_itemNumbered 24 = .ok (.aconst_null, 1) := by decide +kernel
theorem d_S_itemNumbered_25 : decode b_S_itemNumbered 25 = .ok (.areturn, 1) := by decide +kernel
theorem d_I_isOnABelt_0 : decode b_I_isOnABelt 0 = .ok (.aload_n 0, 1) := by decide +kernel
theorem d_I_isOnABelt_1 : decode b_I_isOnABelt 1 = .ok (.getfield 32, 3) := by decide +kernel
theorem d_I_isOnABelt_4 : decode b_I_isOnABelt 4 = .ok (.ifnull 14, 3) := by decide +kernel
theorem d_I_isOnABelt_7 : decode b_I_isOnABelt 7 = .ok (.aload_n 0, 1) := by decide +kernel
theorem d_I_isOnABelt_8 : decode b_I_isOnABelt 8 = .ok (.getfield 9, 3) := by decide +kernel
theorem d_I_isOnABelt_11 : decode b_I_isOnABelt 11 = .ok (.ifCond .ne 7, 3) := by decide +kernel
theorem d_I_isOnABelt_14 : decode b_I_isOnABelt 14 = .ok (.iconst 1, 1) := by decide +kernel
theorem d_I_isOnABelt_15 : decode b_I_isOnABelt 15 = .ok (.goto 4, 3) := by decide +kernel
theorem d_I_isOnABelt_18 : decode b_I_isOnABelt 18 = .ok (.iconst 0, 1) := by decide +kernel
theorem d_I_isOnABelt_19 : decode b_I_isOnABelt 19 = .ok (.ireturn, 1) := by decide +kernel
theorem d_I_placeAt_0 : decode b_I_placeAt 0 = .ok (.aload_n 0, 1) := by decide +kernel
theorem d_I_placeAt_1 : decode b_I_placeAt 1 = .ok (.getfield 32, 3) := by decide +kernel
theorem d_I_placeAt_4 : decode b_I_placeAt 4 = .ok (.ifnonnull 7, 3) := by decide +kernel
theorem d_I_placeAt_7 : decode b_I_placeAt 7 = .ok (.lconst 0, 1) := by decide +kernel
theorem d_I_placeAt_8 : decode b_I_placeAt 8 = .ok (.goto 16, 3) := by decide +kernel
theorem d_I_placeAt_11 : decode b_I_placeAt 11 = .ok (.aload_n 0, 1) := by decide +kernel
theorem d_I_placeAt_12 : decode b_I_placeAt 12 = .ok (.getfield 32, 3) := by decide +kernel
theorem d_I_placeAt_15 : decode b_I_placeAt 15 = .ok (.lload_n 1, 1) := by decide +kernel
theorem d_I_placeAt_16 : decode b_I_placeAt 16 = .ok (.invokevirtual 39, 3) := by decide +kernel
theorem d_I_placeAt_19 : decode b_I_placeAt 19 = .ok (.aload_n 0, 1) := by decide +kernel
theorem d_I_placeAt_20 : decode b_I_placeAt 20 = .ok (.getfield 15, 3) := by decide +kernel
theorem d_I_placeAt_23 : decode b_I_placeAt 23 = .ok (.lsub, 1) := by decide +kernel
theorem d_I_placeAt_24 : decode b_I_placeAt 24 = .ok (.lreturn, 1) := by decide +kernel
theorem d_S_place_0 : decode b_S_place 0 = .ok (.aload_n 0, 1) := by decide +kernel
theorem d_S_place_1 : decode b_S_place 1 = .ok (.iload_n 1, 1) := by decide +kernel
theorem d_S_place_2 : decode b_S_place 2 = .ok (.invokevirtual 101, 3) := by decide +kernel
theorem d_S_place_5 : decode b_S_place 5 = .ok (.astore 4, 2) := by decide +kernel
theorem d_S_place_7 : decode b_S_place 7 = .ok (.aload 4, 2) := by decide +kernel
theorem d_S_place_9 : decode b_S_place 9 = .ok (.ifnonnull 7, 3) := by decide +kernel
theorem d_S_place_12 : decode b_S_place 12 = .ok (.ldc2_w 127, 3) := by decide +kernel
theorem d_S_place_15 : decode b_S_place 15 = .ok (.lreturn, 1) := by decide +kernel
theorem d_S_place_16 : decode b_S_place 16 = .ok (.aload_n 0, 1) := by decide +kernel
theorem d_S_place_17 : decode b_S_place 17 = .ok (.lload_n 2, 1) := by decide +kernel
theorem d_S_place_18 : decode b_S_place 18 = .ok (.invokevirtual 62, 3) := by decide +kernel
theorem d_S_place_21 : decode b_S_place 21 = .ok (.ifCond .ne 7, 3) := by decide +kernel
theorem d_S_place_24 : decode b_S_place 24 = .ok (.ldc2_w 129, 3) := by decide +kernel
theorem d_S_place_27 : decode b_S_place 27 = .ok (.lreturn, 1) := by decide +kernel
theorem d_S_place_28 : decode b_S_place 28 = .ok (.aload 4, 2) := by decide +kernel
theorem d_S_place_30 : decode b_S_place 30 = .ok (.lload_n 2, 1) := by decide +kernel
theorem d_S_place_31 : decode b_S_place 31 = .ok (.invokestatic 131, 3) := by decide +kernel
theorem d_S_place_34 : decode b_S_place 34 = .ok (.lreturn, 1) := by decide +kernel
theorem d_S_placeAhead_0 : decode b_S_placeAhead 0 = .ok (.aload_n 0, 1) := by decide +kernel
theorem d_S_placeAhead_1 : decode b_S_placeAhead 1 = .ok (.getfield 135, 3) := by decide +kernel
theorem d_S_placeAhead_4 : decode b_S_placeAhead 4 = .ok (.astore_n 3, 1) := by decide +kernel
theorem d_S_placeAhead_5 : decode b_S_placeAhead 5 = .ok (.aload_n 3, 1) := by decide +kernel
theorem d_S_placeAhead_6 : decode b_S_placeAhead 6 = .ok (.ifnonnull 7, 3) := by decide +kernel
theorem d_S_placeAhead_9 : decode b_S_placeAhead 9 = .ok (.ldc2_w 196, 3) := by decide +kernel
theorem d_S_placeAhead_12 : decode b_S_placeAhead 12 = .ok (.lreturn, 1) := by decide +kernel
theorem d_S_placeAhead_13 : decode b_S_placeAhead 13 = .ok (.aload_n 0, 1) := by decide +kernel
theorem d_S_placeAhead_14 : decode b_S_placeAhead 14 = .ok (.getfield 198, 3) := by decide +kernel
theorem d_S_placeAhead_17 : decode b_S_placeAhead 17 = .ok (.ifCond .eq 16, 3) := by decide +kernel
theorem d_S_placeAhead_20 : decode b_S_placeAhead 20 = .ok (.lload_n 1, 1) := by decide +kernel
theorem d_S_placeAhead_21 : decode b_S_placeAhead 21 = .ok (.aload_n 0, 1) := by decide +kernel
theorem d_S_placeAhead_22 : decode b_S_placeAhead 22 = .ok (.getfield 164, 3) := by decide +kernel
theorem d_S_placeAhead_25 : decode b_S_placeAhead 25 = .ok (.lcmp, 1) := by decide +kernel
theorem d_S_placeAhead_26 : decode b_S_placeAhead 26 = .ok (.ifCond .ge 7, 3) := by decide +kernel
theorem d_S_placeAhead_29 : decode b_S_placeAhead 29 = .ok (.ldc2_w 201, 3) := by decide +kernel
theorem d_S_placeAhead_32 : decode b_S_placeAhead 32 = .ok (.lreturn, 1) := by decide +kernel
theorem d_S_placeAhead_33 : decode b_S_placeAhead 33 = .ok (.aload_n 0, 1) := by decide +kernel
theorem d_S_placeAhead_34 : decode b_S_placeAhead 34 = .ok (.getfield 198, 3) := by decide +kernel
theorem d_S_placeAhead_37 : decode b_S_placeAhead 37 = .ok (.ifCond .eq 14, 3) := by decide +kernel
theorem d_S_placeAhead_40 : decode b_S_placeAhead 40 = .ok (.aload_n 3, 1) := by decide +kernel
theorem d_S_placeAhead_41 : decode b_S_placeAhead 41 = .ok (.aload_n 0, 1) := by decide +kernel
theorem d_S_placeAhead_42 : decode b_S_placeAhead 42 = .ok (.getfield 164, 3) := by decide +kernel
theorem d_S_placeAhead_45 : decode b_S_placeAhead 45 = .ok (.invokevirtual 174, 3) := by decide +kernel
theorem d_S_placeAhead_48 : decode b_S_placeAhead 48 = .ok (.goto 7, 3) := by decide +kernel
theorem d_S_placeAhead_51 : decode b_S_placeAhead 51 = .ok (.aload_n 0, 1) := by decide +kernel
theorem d_S_placeAhead_52 : decode b_S_placeAhead 52 = .ok (.getfield 121, 3) := by decide +kernel
theorem d_S_placeAhead_55 : decode b_S_placeAhead 55 = .ok (.lstore 4, 2) := by decide +kernel
theorem d_S_placeAhead_57 : decode b_S_placeAhead 57 = .ok (.iconst 0, 1) := by decide +kernel
theorem d_S_placeAhead_58 : decode b_S_placeAhead 58 = .ok (.istore 6, 2) := by decide +kernel
theorem d_S_placeAhead_60 : decode b_S_placeAhead 60 = .ok (.iload 6, 2) := by decide +kernel
theorem d_S_placeAhead_62 : decode b_S_placeAhead 62 = .ok (.bipush 12, 2) := by decide +kernel
theorem d_S_placeAhead_64 : decode b_S_placeAhead 64 = .ok (.if_icmp .ge 94, 3) := by decide +kernel
theorem d_S_placeAhead_67 : decode b_S_placeAhead 67 = .ok (.aload_n 3, 1) := by decide +kernel
theorem d_S_placeAhead_68 : decode b_S_placeAhead 68 = .ok (.lload 4, 2) := by decide +kernel
theorem d_S_placeAhead_70 : decode b_S_placeAhead 70 = .ok (.aload_n 3, 1) := by decide +kernel
theorem d_S_placeAhead_71 : decode b_S_placeAhead 71 = .ok (.getfield 203, 3) := by decide +kernel
theorem d_S_placeAhead_74 : decode b_S_placeAhead 74 = .ok (.ladd, 1) := by decide +kernel
theorem d_S_placeAhead_75 : decode b_S_placeAhead 75 = .ok (.invokevirtual 204, 3) := by decide +kernel
theorem d_S_placeAhead_78 : decode b_S_placeAhead 78 = .ok (.lstore 7, 2) := by decide +kernel
theorem d_S_placeAhead_80 : decode b_S_placeAhead 80 = .ok (.lload_n 1, 1) := by decide +kernel
theorem d_S_placeAhead_81 : decode b_S_placeAhead 81 = .ok (.lload 7, 2) := by decide +kernel
theorem d_S_placeAhead_83 : decode b_S_placeAhead 83 = .ok (.lcmp, 1) := by decide +kernel
theorem d_S_placeAhead_84 : decode b_S_placeAhead 84 = .ok (.ifCond .ge 22, 3) := by decide +kernel
theorem d_S_placeAhead_87 : decode b_S_placeAhead 87 = .ok (.aload_n 3, 1) := by decide +kernel
theorem d_S_placeAhead_88 : decode b_S_placeAhead 88 = .ok (.getfield 51, 3) := by decide +kernel
theorem d_S_placeAhead_91 : decode b_S_placeAhead 91 = .ok (.i2l, 1) := by decide +kernel
theorem d_S_placeAhead_92 : decode b_S_placeAhead 92 = .ok (.ldc2_w 105, 3) := by decide +kernel
theorem d_S_placeAhead_95 : decode b_S_placeAhead 95 = .ok (.lmul, 1) := by decide +kernel
theorem d_S_placeAhead_96 : decode b_S_placeAhead 96 = .ok (.aload_n 3, 1) := by decide +kernel
theorem d_S_placeAhead_97 : decode b_S_placeAhead 97 = .ok (.lload_n 1, 1) := by decide +kernel
theorem d_S_placeAhead_98 : decode b_S_placeAhead 98 = .ok (.invokevirtual 174, 3) := by decide +kernel
theorem d_S_placeAhead_101 : decode b_S_placeAhead 101 = .ok (.ladd, 1) := by decide +kernel
theorem d_S_placeAhead_102 : decode b_S_placeAhead 102 = .ok (.lload 4, 2) := by decide +kernel
theorem d_S_placeAhead_104 : decode b_S_placeAhead 104 = .ok (.lsub, 1) := by decide +kernel
theorem d_S_placeAhead_105 : decode b_S_placeAhead 105 = .ok (.lreturn, 1) := by decide +kernel
theorem d_S_placeAhead_106 : decode b_S_placeAhead 106 = .ok (.aload_n 3, 1) := by decide +kernel
theorem d_S_placeAhead_107 : decode b_S_placeAhead 107 = .ok (.getfield 58, 3) := by decide +kernel
theorem d_S_placeAhead_110 : decode b_S_placeAhead 110 = .ok (.astore 9, 2) := by decide +kernel
theorem d_S_placeAhead_112 : decode b_S_placeAhead 112 = .ok (.aload 9, 2) := by decide +kernel
theorem d_S_placeAhead_114 : decode b_S_placeAhead 114 = .ok (.ifnonnull 7, 3) := by decide +kernel
theorem d_S_placeAhead_117 : decode b_S_placeAhead 117 = .ok (.ldc2_w 196, 3) := by decide +kernel
theorem d_S_placeAhead_120 : decode b_S_placeAhead 120 = .ok (.lreturn, 1) := by decide +kernel
theorem d_S_placeAhead_121 : decode b_S_placeAhead 121 = .ok (.aload_n 3, 1) := by decide +kernel
theorem d_S_placeAhead_122 : decode b_S_placeAhead 122 = .ok (.lload 7, 2) := by decide +kernel
theorem d_S_placeAhead_124 : decode b_S_placeAhead 124 = .ok (.invokevirtual 174, 3) := by decide +kernel
theorem d_S_placeAhead_127 : decode b_S_placeAhead 127 = .ok (.lload 4, 2) := by decide +kernel
theorem d_S_placeAhead_129 : decode b_S_placeAhead 129 = .ok (.lsub, 1) := by decide +kernel
theorem d_S_placeAhead_130 : decode b_S_placeAhead 130 = .ok (.aload_n 3, 1) := by decide +kernel
theorem d_S_placeAhead_131 : decode b_S_placeAhead 131 = .ok (.getfield 203, 3) := by decide +kernel
theorem d_S_placeAhead_134 : decode b_S_placeAhead 134 = .ok (.lsub, 1) := by decide +kernel
theorem d_S_placeAhead_135 : decode b_S_placeAhead 135 = .ok (.lstore 10, 2) := by decide +kernel
theorem d_S_placeAhead_137 : decode b_S_placeAhead 137 = .ok (.aload 9, 2) := by decide +kernel
theorem d_S_placeAhead_139 : decode b_S_placeAhead 139 = .ok (.lload 7, 2) := by decide +kernel
theorem d_S_placeAhead_141 : decode b_S_placeAhead 141 = .ok (.invokevirtual 174, 3) := by decide +kernel
theorem d_S_placeAhead_144 : decode b_S_placeAhead 144 = .ok (.lload 10, 2) := by decide +kernel
theorem d_S_placeAhead_146 : decode b_S_placeAhead 146 = .ok (.lsub, 1) := by decide +kernel
theorem d_S_placeAhead_147 : decode b_S_placeAhead 147 = .ok (.lstore 4, 2) := by decide +kernel
theorem d_S_placeAhead_149 : decode b_S_placeAhead 149 = .ok (.aload 9, 2) := by decide +kernel
theorem d_S_placeAhead_151 : decode b_S_placeAhead 151 = .ok (.astore_n 3, 1) := by decide +kernel
end
section
theorem d_S_placeAhead_152 : decode b_S_placeAhead 152 = .ok (.iinc 6 1, 3) := by decide +kernel
theorem d_S_placeAhead_155 : decode b_S_placeAhead 155 = .ok (.goto (-95), 3) := by decide +kernel
theorem d_S_placeAhead_158 : decode b_S_placeAhead 158 = .ok (.ldc2_w 196, 3) := by decide +kernel
theorem d_S_placeAhead_161 : decode b_S_placeAhead 161 = .ok (.lreturn, 1) := by decide +kernel
theorem d_S_gap_0 : decode b_S_gap 0 = .ok (.aload_n 0, 1) := by decide +kernel
theorem d_S_gap_1 : decode b_S_gap 1 = .ok (.iload_n 1, 1) := by decide +kernel
theorem d_S_gap_2 : decode b_S_gap 2 = .ok (.invokevirtual 101, 3) := by decide +kernel
theorem d_S_gap_5 : decode b_S_gap 5 = .ok (.astore_n 3, 1) := by decide +kernel
theorem d_S_gap_6 : decode b_S_gap 6 = .ok (.aload_n 0, 1) := by decide +kernel
theorem d_S_gap_7 : decode b_S_gap 7 = .ok (.iload_n 2, 1) := by decide +kernel
theorem d_S_gap_8 : decode b_S_gap 8 = .ok (.invokevirtual 101, 3) := by decide +kernel
theorem d_S_gap_11 : decode b_S_gap 11 = .ok (.astore 4, 2) := by decide +kernel
theorem d_S_gap_13 : decode b_S_gap 13 = .ok (.aload_n 3, 1) := by decide +kernel
theorem d_S_gap_14 : decode b_S_gap 14 = .ok (.ifnull 8, 3) := by decide +kernel
theorem d_S_gap_17 : decode b_S_gap 17 = .ok (.aload 4, 2) := by decide +kernel
theorem d_S_gap_19 : decode b_S_gap 19 = .ok (.ifnonnull 6, 3) := by decide +kernel
theorem d_S_gap_22 : decode b_S_gap 22 = .ok (.bipush (-11), 2) := by decide +kernel
theorem d_S_gap_24 : decode b_S_gap 24 = .ok (.ireturn, 1) := by decide +kernel
theorem d_S_gap_25 : decode b_S_gap 25 = .ok (.iload_n 1, 1) := by decide +kernel
theorem d_S_gap_26 : decode b_S_gap 26 = .ok (.iload_n 2, 1) := by decide +kernel
theorem d_S_gap_27 : decode b_S_gap 27 = .ok (.if_icmp .ne 6, 3) := by decide +kernel
theorem d_S_gap_30 : decode b_S_gap 30 = .ok (.bipush (-12), 2) := by decide +kernel
theorem d_S_gap_32 : decode b_S_gap 32 = .ok (.ireturn, 1) := by decide +kernel
theorem d_S_gap_33 : decode b_S_gap 33 = .ok (.aload_n 3, 1) := by decide +kernel
theorem d_S_gap_34 : decode b_S_gap 34 = .ok (.invokevirtual 107, 3) := by decide +kernel
theorem d_S_gap_37 : decode b_S_gap 37 = .ok (.ifCond .eq 11, 3) := by decide +kernel
theorem d_S_gap_40 : decode b_S_gap 40 = .ok (.aload 4, 2) := by decide +kernel
theorem d_S_gap_42 : decode b_S_gap 42 = .ok (.invokevirtual 107, 3) := by decide +kernel
theorem d_S_gap_45 : decode b_S_gap 45 = .ok (.ifCond .ne 6, 3) := by decide +kernel
theorem d_S_gap_48 : decode b_S_gap 48 = .ok (.bipush (-13), 2) := by decide +kernel
theorem d_S_gap_50 : decode b_S_gap 50 = .ok (.ireturn, 1) := by decide +kernel
theorem d_S_gap_51 : decode b_S_gap 51 = .ok (.aload_n 3, 1) := by decide +kernel
theorem d_S_gap_52 : decode b_S_gap 52 = .ok (.getfield 135, 3) := by decide +kernel
theorem d_S_gap_55 : decode b_S_gap 55 = .ok (.aload 4, 2) := by decide +kernel
theorem d_S_gap_57 : decode b_S_gap 57 = .ok (.getfield 135, 3) := by decide +kernel
theorem d_S_gap_60 : decode b_S_gap 60 = .ok (.if_acmp .eq 6, 3) := by decide +kernel
theorem d_S_gap_63 : decode b_S_gap 63 = .ok (.bipush (-13), 2) := by decide +kernel
theorem d_S_gap_65 : decode b_S_gap 65 = .ok (.ireturn, 1) := by decide +kernel
theorem d_S_gap_66 : decode b_S_gap 66 = .ok (.aload 4, 2) := by decide +kernel
theorem d_S_gap_68 : decode b_S_gap 68 = .ok (.aload_n 0, 1) := by decide +kernel
theorem d_S_gap_69 : decode b_S_gap 69 = .ok (.getfield 35, 3) := by decide +kernel
theorem d_S_gap_72 : decode b_S_gap 72 = .ok (.invokevirtual 111, 3) := by decide +kernel
theorem d_S_gap_75 : decode b_S_gap 75 = .ok (.aload 4, 2) := by decide +kernel
theorem d_S_gap_77 : decode b_S_gap 77 = .ok (.getfield 138, 3) := by decide +kernel
theorem d_S_gap_80 : decode b_S_gap 80 = .ok (.lsub, 1) := by decide +kernel
theorem d_S_gap_81 : decode b_S_gap 81 = .ok (.aload_n 3, 1) := by decide +kernel
theorem d_S_gap_82 : decode b_S_gap 82 = .ok (.aload_n 0, 1) := by decide +kernel
theorem d_S_gap_83 : decode b_S_gap 83 = .ok (.getfield 35, 3) := by decide +kernel
theorem d_S_gap_86 : decode b_S_gap 86 = .ok (.invokevirtual 111, 3) := by decide +kernel
theorem d_S_gap_89 : decode b_S_gap 89 = .ok (.lsub, 1) := by decide +kernel
theorem d_S_gap_90 : decode b_S_gap 90 = .ok (.l2i, 1) := by decide +kernel
theorem d_S_gap_91 : decode b_S_gap 91 = .ok (.ireturn, 1) := by decide +kernel
theorem d_S_count_0 : decode b_S_count 0 = .ok (.aload_n 0, 1) := by decide +kernel
theorem d_S_count_1 : decode b_S_count 1 = .ok (.iload_n 1, 1) := by decide +kernel
theorem d_S_count_2 : decode b_S_count 2 = .ok (.invokevirtual 54, 3) := by decide +kernel
theorem d_S_count_5 : decode b_S_count 5 = .ok (.astore_n 2, 1) := by decide +kernel
theorem d_S_count_6 : decode b_S_count 6 = .ok (.aload_n 2, 1) := by decide +kernel
theorem d_S_count_7 : decode b_S_count 7 = .ok (.ifnonnull 6, 3) := by decide +kernel
theorem d_S_count_10 : decode b_S_count 10 = .ok (.bipush (-11), 2) := by decide +kernel
theorem d_S_count_12 : decode b_S_count 12 = .ok (.ireturn, 1) := by decide +kernel
theorem d_S_count_13 : decode b_S_count 13 = .ok (.iconst 0, 1) := by decide +kernel
theorem d_S_count_14 : decode b_S_count 14 = .ok (.istore_n 3, 1) := by decide +kernel
theorem d_S_count_15 : decode b_S_count 15 = .ok (.iconst 0, 1) := by decide +kernel
theorem d_S_count_16 : decode b_S_count 16 = .ok (.istore 4, 2) := by decide +kernel
theorem d_S_count_18 : decode b_S_count 18 = .ok (.iload 4, 2) := by decide +kernel
theorem d_S_count_20 : decode b_S_count 20 = .ok (.aload_n 0, 1) := by decide +kernel
theorem d_S_count_21 : decode b_S_count 21 = .ok (.getfield 25, 3) := by decide +kernel
theorem d_S_count_24 : decode b_S_count 24 = .ok (.if_icmp .ge 26, 3) := by decide +kernel
theorem d_S_count_27 : decode b_S_count 27 = .ok (.aload_n 0, 1) := by decide +kernel
theorem d_S_count_28 : decode b_S_count 28 = .ok (.getfield 21, 3) := by decide +kernel
theorem d_S_count_31 : decode b_S_count 31 = .ok (.iload 4, 2) := by decide +kernel
theorem d_S_count_33 : decode b_S_count 33 = .ok (.aaload, 1) := by decide +kernel
theorem d_S_count_34 : decode b_S_count 34 = .ok (.aload_n 2, 1) := by decide +kernel
theorem d_S_count_35 : decode b_S_count 35 = .ok (.invokevirtual 141, 3) := by decide +kernel
theorem d_S_count_38 : decode b_S_count 38 = .ok (.ifCond .eq 6, 3) := by decide +kernel
theorem d_S_count_41 : decode b_S_count 41 = .ok (.iinc 3 1, 3) := by decide +kernel
theorem d_S_count_44 : decode b_S_count 44 = .ok (.iinc 4 1, 3) := by decide +kernel
theorem d_S_count_47 : decode b_S_count 47 = .ok (.goto (-29), 3) := by decide +kernel
theorem d_S_count_50 : decode b_S_count 50 = .ok (.iload_n 3, 1) := by decide +kernel
theorem d_S_count_51 : decode b_S_count 51 = .ok (.ireturn, 1) := by decide +kernel
theorem d_S_gear_0 : decode b_S_gear 0 = .ok (.aload_n 0, 1) := by decide +kernel
theorem d_S_gear_1 : decode b_S_gear 1 = .ok (.iload_n 1, 1) := by decide +kernel
theorem d_S_gear_2 : decode b_S_gear 2 = .ok (.invokevirtual 54, 3) := by decide +kernel
theorem d_S_gear_5 : decode b_S_gear 5 = .ok (.astore 4, 2) := by decide +kernel
theorem d_S_gear_7 : decode b_S_gear 7 = .ok (.aload 4, 2) := by decide +kernel
theorem d_S_gear_9 : decode b_S_gear 9 = .ok (.ifnonnull 6, 3) := by decide +kernel
theorem d_S_gear_12 : decode b_S_gear 12 = .ok (.bipush (-11), 2) := by decide +kernel
theorem d_S_gear_14 : decode b_S_gear 14 = .ok (.ireturn, 1) := by decide +kernel
theorem d_S_gear_15 : decode b_S_gear 15 = .ok (.aload_n 0, 1) := by decide +kernel
theorem d_S_gear_16 : decode b_S_gear 16 = .ok (.lload_n 2, 1) := by decide +kernel
theorem d_S_gear_17 : decode b_S_gear 17 = .ok (.invokevirtual 62, 3) := by decide +kernel
theorem d_S_gear_20 : decode b_S_gear 20 = .ok (.ifCond .ne 6, 3) := by decide +kernel
theorem d_S_gear_23 : decode b_S_gear 23 = .ok (.bipush (-12), 2) := by decide +kernel
theorem d_S_gear_25 : decode b_S_gear 25 = .ok (.ireturn, 1) := by decide +kernel
theorem d_S_gear_26 : decode b_S_gear 26 = .ok (.aload 4, 2) := by decide +kernel
theorem d_S_gear_28 : decode b_S_gear 28 = .ok (.lload_n 2, 1) := by decide +kernel
theorem d_S_gear_29 : decode b_S_gear 29 = .ok (.invokevirtual 145, 3) := by decide +kernel
theorem d_S_gear_32 : decode b_S_gear 32 = .ok (.ireturn, 1) := by decide +kernel
theorem d_M_init_0 : decode b_M_init 0 = .ok (.aload_n 0, 1) := by decide +kernel
theorem d_M_init_1 : decode b_M_init 1 = .ok (.invokespecial 1, 3) := by decide +kernel
theorem d_M_init_4 : decode b_M_init 4 = .ok (.aload_n 0, 1) := by decide +kernel
theorem d_M_init_5 : decode b_M_init 5 = .ok (.bipush 12, 2) := by decide +kernel
theorem d_M_init_7 : decode b_M_init 7 = .ok (.newarray .long, 2) := by decide +kernel
theorem d_M_init_9 : decode b_M_init 9 = .ok (.putfield 7, 3) := by decide +kernel
theorem d_M_init_12 : decode b_M_init 12 = .ok (.aload_n 0, 1) := by decide +kernel
theorem d_M_init_13 : decode b_M_init 13 = .ok (.bipush 12, 2) := by decide +kernel
theorem d_M_init_15 : decode b_M_init 15 = .ok (.newarray .long, 2) := by decide +kernel
theorem d_M_init_17 : decode b_M_init 17 = .ok (.putfield 13, 3) := by decide +kernel
theorem d_M_init_20 : decode b_M_init 20 = .ok (.aload_n 0, 1) := by decide +kernel
theorem d_M_init_21 : decode b_M_init 21 = .ok (.bipush 12, 2) := by decide +kernel
theorem d_M_init_23 : decode b_M_init 23 = .ok (.newarray .int, 2) := by decide +kernel
theorem d_M_init_25 : decode b_M_init 25 = .ok (.putfield 16, 3) := by decide +kernel
theorem d_M_init_28 : decode b_M_init 28 = .ok (.aload_n 0, 1) := by decide +kernel
theorem d_M_init_29 : decode b_M_init 29 = .ok (.bipush 12, 2) := by decide +kernel
theorem d_M_init_31 : decode b_M_init 31 = .ok (.newarray .long, 2) := by decide +kernel
theorem d_M_init_33 : decode b_M_init 33 = .ok (.putfield 20, 3) := by decide +kernel
theorem d_M_init_36 : decode b_M_init 36 = .ok (.aload_n 0, 1) := by decide +kernel
theorem d_M_init_37 : decode b_M_init 37 = .ok (.bipush 12, 2) := by decide +kernel
theorem d_M_init_39 : decode b_M_init 39 = .ok (.newarray .boolean, 2) := by decide +kernel
theorem d_M_init_41 : decode b_M_init 41 = .ok (.putfield 23, 3) := by decide +kernel
theorem d_M_init_44 : decode b_M_init 44 = .ok (.aload_n 0, 1) := by decide +kernel
theorem d_M_init_45 : decode b_M_init 45 = .ok (.bipush 12, 2) := by decide +kernel
theorem d_M_init_47 : decode b_M_init 47 = .ok (.newarray .int, 2) := by decide +kernel
theorem d_M_init_49 : decode b_M_init 49 = .ok (.putfield 27, 3) := by decide +kernel
theorem d_M_init_52 : decode b_M_init 52 = .ok (.aload_n 0, 1) := by decide +kernel
theorem d_M_init_53 : decode b_M_init 53 = .ok (.bipush 12, 2) := by decide +kernel
theorem d_M_init_55 : decode b_M_init 55 = .ok (.newarray .int, 2) := by decide +kernel
theorem d_M_init_57 : decode b_M_init 57 = .ok (.putfield 30, 3) := by decide +kernel
theorem d_M_init_60 : decode b_M_init 60 = .ok (.aload_n 0, 1) := by decide +kernel
theorem d_M_init_61 : decode b_M_init 61 = .ok (.bipush 12, 2) := by decide +kernel
theorem d_M_init_63 : decode b_M_init 63 = .ok (.newarray .long, 2) := by decide +kernel
theorem d_M_init_65 : decode b_M_init 65 = .ok (.putfield 33, 3) := by decide +kernel
theorem d_M_init_68 : decode b_M_init 68 = .ok (.aload_n 0, 1) := by decide +kernel
theorem d_M_init_69 : decode b_M_init 69 = .ok (.bipush 61, 2) := by decide +kernel
theorem d_M_init_71 : decode b_M_init 71 = .ok (.newarray .long, 2) := by decide +kernel
theorem d_M_init_73 : decode b_M_init 73 = .ok (.putfield 36, 3) := by decide +kernel
theorem d_M_init_76 : decode b_M_init 76 = .ok (.aload_n 0, 1) := by decide +kernel
theorem d_M_init_77 : decode b_M_init 77 = .ok (.bipush 61, 2) := by decide +kernel
theorem d_M_init_79 : decode b_M_init 79 = .ok (.newarray .long, 2) := by decide +kernel
theorem d_M_init_81 : decode b_M_init 81 = .ok (.putfield 39, 3) := by decide +kernel
theorem d_M_init_84 : decode b_M_init 84 = .ok (.aload_n 0, 1) := by decide +kernel
theorem d_M_init_85 : decode b_M_init 85 = .ok (.bipush 61, 2) := by decide +kernel
theorem d_M_init_87 : decode b_M_init 87 = .ok (.newarray .int, 2) := by decide +kernel
theorem d_M_init_89 : decode b_M_init 89 = .ok (.putfield 42, 3) := by decide +kernel
theorem d_M_init_92 : decode b_M_init 92 = .ok (.aload_n 0, 1) := by decide +kernel
theorem d_M_init_93 : decode b_M_init 93 = .ok (.bipush 61, 2) := by decide +kernel
theorem d_M_init_95 : decode b_M_init 95 = .ok (.newarray .long, 2) := by decide +kernel
theorem d_M_init_97 : decode b_M_init 97 = .ok (.putfield 45, 3) := by decide +kernel
theorem d_M_init_100 : decode b_M_init 100 = .ok (.aload_n 0, 1) := by decide +kernel
theorem d_M_init_101 : decode b_M_init 101 = .ok (.bipush 61, 2) := by decide +kernel
theorem d_M_init_103 : decode b_M_init 103 = .ok (.newarray .boolean, 2) := by decide +kernel
theorem d_M_init_105 : decode b_M_init 105 = .ok (.putfield 48, 3) := by decide +kernel
theorem d_M_init_108 : decode b_M_init 108 = .ok (.aload_n 0, 1) := by decide +kernel
theorem d_M_init_109 : decode b_M_init 109 = .ok (.bipush 61, 2) := by decide +kernel
theorem d_M_init_111 : decode b_M_init 111 = .ok (.newarray .boolean, 2) := by decide +kernel
theorem d_M_init_113 : decode b_M_init 113 = .ok (.putfield 51, 3) := by decide +kernel
theorem d_M_init_116 : decode b_M_init 116 = .ok (.aload_n 0, 1) := by decide +kernel
theorem d_M_init_117 : decode b_M_init 117 = .ok (.bipush 61, 2) := by decide +kernel
theorem d_M_init_119 : decode b_M_init 119 = .ok (.newarray .boolean, 2) := by decide +kernel
theorem d_M_init_121 : decode b_M_init 121 = .ok (.putfield 54, 3) := by decide +kernel
theorem d_M_init_124 : decode b_M_init 124 = .ok (.aload_n 0, 1) := by decide +kernel
theorem d_M_init_125 : decode b_M_init 125 = .ok (.sipush 400, 3) := by decide +kernel
theorem d_M_init_128 : decode b_M_init 128 = .ok (.newarray .long, 2) := by decide +kernel
theorem d_M_init_130 : decode b_M_init 130 = .ok (.putfield 57, 3) := by decide +kernel
theorem d_M_init_133 : decode b_M_init 133 = .ok (.aload_n 0, 1) := by decide +kernel
theorem d_M_init_134 : decode b_M_init 134 = .ok (.sipush 400, 3) := by decide +kernel
theorem d_M_init_137 : decode b_M_init 137 = .ok (.newarray .int, 2) := by decide +kernel
theorem d_M_init_139 : decode b_M_init 139 = .ok (.putfield 60, 3) := by decide +kernel
theorem d_M_init_142 : decode b_M_init 142 = .ok (.aload_n 0, 1) := by decide +kernel
theorem d_M_init_143 : decode b_M_init 143 = .ok (.sipush 400, 3) := by decide +kernel
theorem d_M_init_146 : decode b_M_init 146 = .ok (.newarray .int, 2) := by decide +kernel
theorem d_M_init_148 : decode b_M_init 148 = .ok (.putfield 63, 3) := by decide +kernel
theorem d_M_init_151 : decode b_M_init 151 = .ok (.aload_n 0, 1) := by decide +kernel
theorem d_M_init_152 : decode b_M_init 152 = .ok (.sipush 400, 3) := by decide +kernel
theorem d_M_init_155 : decode b_M_init 155 = .ok (.newarray .int, 2) := by decide +kernel
theorem d_M_init_157 : decode b_M_init 157 = .ok (.putfield 66, 3) := by decide +kernel
theorem d_M_init_160 : decode b_M_init 160 = .ok (.return_, 1) := by decide +kernel
theorem d_M_belt_0 : decode b_M_belt 0 = .ok (.aload_n 0, 1) := by decide +kernel
theorem d_M_belt_1 : decode b_M_belt 1 = .ok (.iconst 0, 1) := by decide +kernel
theorem d_M_belt_2 : decode b_M_belt 2 = .ok (.putfield 69, 3) := by decide +kernel
theorem d_M_belt_5 : decode b_M_belt 5 = .ok (.lload_n 1, 1) := by decide +kernel
theorem d_M_belt_6 : decode b_M_belt 6 = .ok (.ldc2_w 89, 3) := by decide +kernel
theorem d_M_belt_9 : decode b_M_belt 9 = .ok (.ldc2_w 91, 3) := by decide +kernel
theorem d_M_belt_12 : decode b_M_belt 12 = .ok (.invokestatic 85, 3) := by decide +kernel
theorem d_M_belt_15 : decode b_M_belt 15 = .ok (.ifCond .eq 14, 3) := by decide +kernel
theorem d_M_belt_18 : decode b_M_belt 18 = .ok (.lload_n 3, 1) := by decide +kernel
theorem d_M_belt_19 : decode b_M_belt 19 = .ok (.lconst 1, 1) := by decide +kernel
theorem d_M_belt_20 : decode b_M_belt 20 = .ok (.ldc2_w 93, 3) := by decide +kernel
theorem d_M_belt_23 : decode b_M_belt 23 = .ok (.invokestatic 85, 3) := by decide +kernel
theorem d_M_belt_26 : decode b_M_belt 26 = .ok (.ifCond .ne 6, 3) := by decide +kernel
theorem d_M_belt_29 : decode b_M_belt 29 = .ok (.bipush (-12), 2) := by decide +kernel
theorem d_M_belt_31 : decode b_M_belt 31 = .ok (.ireturn, 1) := by decide +kernel
theorem d_M_belt_32 : decode b_M_belt 32 = .ok (.aload_n 0, 1) := by decide +kernel
theorem d_M_belt_33 : decode b_M_belt 33 = .ok (.getfield 73, 3) := by decide +kernel
theorem d_M_belt_36 : decode b_M_belt 36 = .ok (.bipush 12, 2) := by decide +kernel
theorem d_M_belt_38 : decode b_M_belt 38 = .ok (.if_icmp .ne 6, 3) := by decide +kernel
theorem d_M_belt_41 : decode b_M_belt 41 = .ok (.bipush (-14), 2) := by decide +kernel
theorem d_M_belt_43 : decode b_M_belt 43 = .ok (.ireturn, 1) := by decide +kernel
theorem d_M_belt_44 : decode b_M_belt 44 = .ok (.aload_n 0, 1) := by decide +kernel
theorem d_M_belt_45 : decode b_M_belt 45 = .ok (.getfield 7, 3) := by decide +kernel
theorem d_M_belt_48 : decode b_M_belt 48 = .ok (.aload_n 0, 1) := by decide +kernel
theorem d_M_belt_49 : decode b_M_belt 49 = .ok (.getfield 73, 3) := by decide +kernel
theorem d_M_belt_52 : decode b_M_belt 52 = .ok (.lload_n 1, 1) := by decide +kernel
theorem d_M_belt_53 : decode b_M_belt 53 = .ok (.lastore, 1) := by decide +kernel
theorem d_M_belt_54 : decode b_M_belt 54 = .ok (.aload_n 0, 1) := by decide +kernel
theorem d_M_belt_55 : decode b_M_belt 55 = .ok (.getfield 13, 3) := by decide +kernel
theorem d_M_belt_58 : decode b_M_belt 58 = .ok (.aload_n 0, 1) := by decide +kernel
theorem d_M_belt_59 : decode b_M_belt 59 = .ok (.getfield 73, 3) := by decide +kernel
theorem d_M_belt_62 : decode b_M_belt 62 = .ok (.lload_n 3, 1) := by decide +kernel
theorem d_M_belt_63 : decode b_M_belt 63 = .ok (.lastore, 1) := by decide +kernel
theorem d_M_belt_64 : decode b_M_belt 64 = .ok (.aload_n 0, 1) := by decide +kernel
theorem d_M_belt_65 : decode b_M_belt 65 = .ok (.getfield 16, 3) := by decide +kernel
theorem d_M_belt_68 : decode b_M_belt 68 = .ok (.aload_n 0, 1) := by decide +kernel
theorem d_M_belt_69 : decode b_M_belt 69 = .ok (.getfield 73, 3) := by decide +kernel
theorem d_M_belt_72 : decode b_M_belt 72 = .ok (.iconst (-1), 1) := by decide +kernel
theorem d_M_belt_73 : decode b_M_belt 73 = .ok (.iastore, 1) := by decide +kernel
theorem d_M_belt_74 : decode b_M_belt 74 = .ok (.aload_n 0, 1) := by decide +kernel
theorem d_M_belt_75 : decode b_M_belt 75 = .ok (.getfield 23, 3) := by decide +kernel
theorem d_M_belt_78 : decode b_M_belt 78 = .ok (.aload_n 0, 1) := by decide +kernel
theorem d_M_belt_79 : decode b_M_belt 79 = .ok (.getfield 73, 3) := by decide +kernel
theorem d_M_belt_82 : decode b_M_belt 82 = .ok (.iconst 1, 1) := by decide +kernel
theorem d_M_belt_83 : decode b_M_belt 83 = .ok (.bastore, 1) := by decide +kernel
theorem d_M_belt_84 : decode b_M_belt 84 = .ok (.aload_n 0, 1) := by decide +kernel
theorem d_M_belt_85 : decode b_M_belt 85 = .ok (.getfield 27, 3) := by decide +kernel
theorem d_M_belt_88 : decode b_M_belt 88 = .ok (.aload_n 0, 1) := by decide +kernel
theorem d_M_belt_89 : decode b_M_belt 89 = .ok (.getfield 73, 3) := by decide +kernel
theorem d_M_belt_92 : decode b_M_belt 92 = .ok (.bipush 8, 2) := by decide +kernel
theorem d_M_belt_94 : decode b_M_belt 94 = .ok (.iastore, 1) := by decide +kernel
theorem d_M_belt_95 : decode b_M_belt 95 = .ok (.aload_n 0, 1) := by decide +kernel
theorem d_M_belt_96 : decode b_M_belt 96 = .ok (.dup, 1) := by decide +kernel
theorem d_M_belt_97 : decode b_M_belt 97 = .ok (.getfield 73, 3) := by decide +kernel
theorem d_M_belt_100 : decode b_M_belt 100 = .ok (.iconst 1, 1) := by decide +kernel
theorem d_M_belt_101 : decode b_M_belt 101 = .ok (.iadd, 1) := by decide +kernel
theorem d_M_belt_102 : decode b_M_belt 102 = .ok (.putfield 73, 3) := by decide +kernel
theorem d_M_belt_105 : decode b_M_belt 105 = .ok (.aload_n 0, 1) := by decide +kernel
theorem d_M_belt_106 : decode b_M_belt 106 = .ok (.getfield 73, 3) := by decide +kernel
theorem d_M_belt_109 : decode b_M_belt 109 = .ok (.iconst 1, 1) := by decide +kernel
theorem d_M_belt_110 : decode b_M_belt 110 = .ok (.isub, 1) := by decide +kernel
theorem d_M_belt_111 : decode b_M_belt 111 = .ok (.ireturn, 1) := by decide +kernel
theorem d_M_in_0 : decode b_M_in 0 = .ok (.lload_n 0, 1) := by decide +kernel
theorem d_M_in_1 : decode b_M_in 1 = .ok (.lload_n 2, 1) := by decide +kernel
theorem d_M_in_2 : decode b_M_in 2 = .ok (.lcmp, 1) := by decide +kernel
theorem d_M_in_3 : decode b_M_in 3 = .ok (.ifCond .lt 14, 3) := by decide +kernel
theorem d_M_in_6 : decode b_M_in 6 = .ok (.lload_n 0, 1) := by decide +kernel
theorem d_M_in_7 : decode b_M_in 7 = .ok (.lload 4, 2) := by decide +kernel
theorem d_M_in_9 : decode b_M_in 9 = .ok (.lcmp, 1) := by decide +kernel
theorem d_M_in_10 : decode b_M_in 10 = .ok (.ifCond .gt 7, 3) := by decide +kernel
theorem d_M_in_13 : decode b_M_in 13 = .ok (.iconst 1, 1) := by decide +kernel
theorem d_M_in_14 : decode b_M_in 14 = .ok (.goto 4, 3) := by decide +kernel
theorem d_M_in_17 : decode b_M_in 17 = .ok (.iconst 0, 1) := by decide +kernel
theorem d_M_in_18 : decode b_M_in 18 = .ok (.ireturn, 1) := by decide +kernel
theorem d_M_join_0 : decode b_M_join 0 = .ok (.aload_n 0, 1) := by decide +kernel
theorem d_M_join_1 : decode b_M_join 1 = .ok (.iconst 0, 1) := by decide +kernel
theorem d_M_join_2 : decode b_M_join 2 = .ok (.putfield 69, 3) := by decide +kernel
theorem d_M_join_5 : decode b_M_join 5 = .ok (.aload_n 0, 1) := by decide +kernel
theorem d_M_join_6 : decode b_M_join 6 = .ok (.iload_n 1, 1) := by decide +kernel
theorem d_M_join_7 : decode b_M_join 7 = .ok (.invokevirtual 95, 3) := by decide +kernel
theorem d_M_join_10 : decode b_M_join 10 = .ok (.ifCond .eq 11, 3) := by decide +kernel
theorem d_M_join_13 : decode b_M_join 13 = .ok (.aload_n 0, 1) := by decide +kernel
theorem d_M_join_14 : decode b_M_join 14 = .ok (.iload_n 2, 1) := by decide +kernel
theorem d_M_join_15 : decode b_M_join 15 = .ok (.invokevirtual 95, 3) := by decide +kernel
theorem d_M_join_18 : decode b_M_join 18 = .ok (.ifCond .ne 6, 3) := by decide +kernel
theorem d_M_join_21 : decode b_M_join 21 = .ok (.bipush (-11), 2) := by decide +kernel
theorem d_M_join_23 : decode b_M_join 23 = .ok (.ireturn, 1) := by decide +kernel
theorem d_M_join_24 : decode b_M_join 24 = .ok (.iload_n 2, 1) := by decide +kernel
theorem d_M_join_25 : decode b_M_join 25 = .ok (.iload_n 1, 1) := by decide +kernel
theorem d_M_join_26 : decode b_M_join 26 = .ok (.if_icmp .gt 6, 3) := by decide +kernel
theorem d_M_join_29 : decode b_M_join 29 = .ok (.bipush (-12), 2) := by decide +kernel
theorem d_M_join_31 : decode b_M_join 31 = .ok (.ireturn, 1) := by decide +kernel
theorem d_M_join_32 : decode b_M_join 32 = .ok (.aload_n 0, 1) := by decide +kernel
theorem d_M_join_33 : decode b_M_join 33 = .ok (.getfield 16, 3) := by decide +kernel
theorem d_M_join_36 : decode b_M_join 36 = .ok (.iload_n 1, 1) := by decide +kernel
theorem d_M_join_37 : decode b_M_join 37 = .ok (.iaload, 1) := by decide +kernel
theorem d_M_join_38 : decode b_M_join 38 = .ok (.istore_n 3, 1) := by decide +kernel
theorem d_M_join_39 : decode b_M_join 39 = .ok (.aload_n 0, 1) := by decide +kernel
theorem d_M_join_40 : decode b_M_join 40 = .ok (.getfield 16, 3) := by decide +kernel
theorem d_M_join_43 : decode b_M_join 43 = .ok (.iload_n 1, 1) := by decide +kernel
theorem d_M_join_44 : decode b_M_join 44 = .ok (.iload_n 2, 1) := by decide +kernel
theorem d_M_join_45 : decode b_M_join 45 = .ok (.iastore, 1) := by decide +kernel
theorem d_M_join_46 : decode b_M_join 46 = .ok (.iload_n 3, 1) := by decide +kernel
theorem d_M_join_47 : decode b_M_join 47 = .ok (.ireturn, 1) := by decide +kernel
theorem d_M_isBelt_0 : decode b_M_isBelt 0 = .ok (.iload_n 1, 1) := by decide +kernel
theorem d_M_isBelt_1 : decode b_M_isBelt 1 = .ok (.ifCond .lt 15, 3) := by decide +kernel
theorem d_M_isBelt_4 : decode b_M_isBelt 4 = .ok (.iload_n 1, 1) := by decide +kernel
theorem d_M_isBelt_5 : decode b_M_isBelt 5 = .ok (.aload_n 0, 1) := by decide +kernel
theorem d_M_isBelt_6 : decode b_M_isBelt 6 = .ok (.getfield 73, 3) := by decide +kernel
theorem d_M_isBelt_9 : decode b_M_isBelt 9 = .ok (.if_icmp .ge 7, 3) := by decide +kernel
theorem d_M_isBelt_12 : decode b_M_isBelt 12 = .ok (.iconst 1, 1) := by decide +kernel
theorem d_M_isBelt_13 : decode b_M_isBelt 13 = .ok (.goto 4, 3) := by decide +kernel
theorem d_M_isBelt_16 : decode b_M_isBelt 16 = .ok (.iconst 0, 1) := by decide +kernel
theorem d_M_isBelt_17 : decode b_M_isBelt 17 = .ok (.ireturn, 1) := by decide +kernel
theorem d_M_feed_0 : decode b_M_feed 0 = .ok (.aload_n 0, 1) := by decide +kernel
theorem d_M_feed_1 : decode b_M_feed 1 = .ok (.iconst 0, 1) := by decide +kernel
theorem d_M_feed_2 : decode b_M_feed 2 = .ok (.putfield 69, 3) := by decide +kernel
theorem d_M_feed_5 : decode b_M_feed 5 = .ok (.aload_n 0, 1) := by decide +kernel
theorem d_M_feed_6 : decode b_M_feed 6 = .ok (.iload_n 1, 1) := by decide +kernel
theorem d_M_feed_7 : decode b_M_feed 7 = .ok (.invokevirtual 95, 3) := by decide +kernel
theorem d_M_feed_10 : decode b_M_feed 10 = .ok (.ifCond .ne 6, 3) := by decide +kernel
theorem d_M_feed_13 : decode b_M_feed 13 = .ok (.bipush (-11), 2) := by decide +kernel
theorem d_M_feed_15 : decode b_M_feed 15 = .ok (.ireturn, 1) := by decide +kernel
theorem d_M_feed_16 : decode b_M_feed 16 = .ok (.lload_n 2, 1) := by decide +kernel
theorem d_M_feed_17 : decode b_M_feed 17 = .ok (.lconst 1, 1) := by decide +kernel
theorem d_M_feed_18 : decode b_M_feed 18 = .ok (.ldc2_w 89, 3) := by decide +kernel
theorem d_M_feed_21 : decode b_M_feed 21 = .ok (.invokestatic 85, 3) := by decide +kernel
theorem d_M_feed_24 : decode b_M_feed 24 = .ok (.ifCond .eq 12, 3) := by decide +kernel
theorem d_M_feed_27 : decode b_M_feed 27 = .ok (.aload_n 0, 1) := by decide +kernel
theorem d_M_feed_28 : decode b_M_feed 28 = .ok (.lload 4, 2) := by decide +kernel
theorem d_M_feed_30 : decode b_M_feed 30 = .ok (.invokevirtual 99, 3) := by decide +kernel
theorem d_M_feed_33 : decode b_M_feed 33 = .ok (.ifCond .ne 6, 3) := by decide +kernel
theorem d_M_feed_36 : decode b_M_feed 36 = .ok (.bipush (-12), 2) := by decide +kernel
theorem d_M_feed_38 : decode b_M_feed 38 = .ok (.ireturn, 1) := by decide +kernel
theorem d_M_feed_39 : decode b_M_feed 39 = .ok (.aload_n 0, 1) := by decide +kernel
theorem d_M_feed_40 : decode b_M_feed 40 = .ok (.getfield 76, 3) := by decide +kernel
theorem d_M_feed_43 : decode b_M_feed 43 = .ok (.bipush 60, 2) := by decide +kernel
theorem d_M_feed_45 : decode b_M_feed 45 = .ok (.if_icmp .ne 6, 3) := by decide +kernel
theorem d_M_feed_48 : decode b_M_feed 48 = .ok (.bipush (-14), 2) := by decide +kernel
theorem d_M_feed_50 : decode b_M_feed 50 = .ok (.ireturn, 1) := by decide +kernel
theorem d_M_feed_51 : decode b_M_feed 51 = .ok (.aload_n 0, 1) := by decide +kernel
theorem d_M_feed_52 : decode b_M_feed 52 = .ok (.dup, 1) := by decide +kernel
theorem d_M_feed_53 : decode b_M_feed 53 = .ok (.getfield 76, 3) := by decide +kernel
theorem d_M_feed_56 : decode b_M_feed 56 = .ok (.iconst 1, 1) := by decide +kernel
theorem d_M_feed_57 : decode b_M_feed 57 = .ok (.iadd, 1) := by decide +kernel
theorem d_M_feed_58 : decode b_M_feed 58 = .ok (.putfield 76, 3) := by decide +kernel
theorem d_M_feed_61 : decode b_M_feed 61 = .ok (.aload_n 0, 1) := by decide +kernel
theorem d_M_feed_62 : decode b_M_feed 62 = .ok (.getfield 36, 3) := by decide +kernel
theorem d_M_feed_65 : decode b_M_feed 65 = .ok (.aload_n 0, 1) := by decide +kernel
theorem d_M_feed_66 : decode b_M_feed 66 = .ok (.getfield 76, 3) := by decide +kernel
theorem d_M_feed_69 : decode b_M_feed 69 = .ok (.lload_n 2, 1) := by decide +kernel
theorem d_M_feed_70 : decode b_M_feed 70 = .ok (.lastore, 1) := by decide +kernel
theorem d_M_feed_71 : decode b_M_feed 71 = .ok (.aload_n 0, 1) := by decide +kernel
theorem d_M_feed_72 : decode b_M_feed 72 = .ok (.getfield 39, 3) := by decide +kernel
theorem d_M_feed_75 : decode b_M_feed 75 = .ok (.aload_n 0, 1) := by decide +kernel
theorem d_M_feed_76 : decode b_M_feed 76 = .ok (.getfield 76, 3) := by decide +kernel
theorem d_M_feed_79 : decode b_M_feed 79 = .ok (.lload 4, 2) := by decide +kernel
theorem d_M_feed_81 : decode b_M_feed 81 = .ok (.lastore, 1) := by decide +kernel
theorem d_M_feed_82 : decode b_M_feed 82 = .ok (.aload_n 0, 1) := by decide +kernel
theorem d_M_feed_83 : decode b_M_feed 83 = .ok (.getfield 42, 3) := by decide +kernel
theorem d_M_feed_86 : decode b_M_feed 86 = .ok (.aload_n 0, 1) := by decide +kernel
theorem d_M_feed_87 : decode b_M_feed 87 = .ok (.getfield 76, 3) := by decide +kernel
theorem d_M_feed_90 : decode b_M_feed 90 = .ok (.iload_n 1, 1) := by decide +kernel
theorem d_M_feed_91 : decode b_M_feed 91 = .ok (.iastore, 1) := by decide +kernel
theorem d_M_feed_92 : decode b_M_feed 92 = .ok (.aload_n 0, 1) := by decide +kernel
theorem d_M_feed_93 : decode b_M_feed 93 = .ok (.getfield 76, 3) := by decide +kernel
theorem d_M_feed_96 : decode b_M_feed 96 = .ok (.ireturn, 1) := by decide +kernel
theorem d_M_isTime_0 : decode b_M_isTime 0 = .ok (.lload_n 1, 1) := by decide +kernel
theorem d_M_isTime_1 : decode b_M_isTime 1 = .ok (.aload_n 0, 1) := by decide +kernel
theorem d_M_isTime_2 : decode b_M_isTime 2 = .ok (.getfield 79, 3) := by decide +kernel
theorem d_M_isTime_5 : decode b_M_isTime 5 = .ok (.ldc2_w 83, 3) := by decide +kernel
theorem d_M_isTime_8 : decode b_M_isTime 8 = .ok (.invokestatic 85, 3) := by decide +kernel
theorem d_M_isTime_11 : decode b_M_isTime 11 = .ok (.ireturn, 1) := by decide +kernel
theorem d_M_step_0 : decode b_M_step 0 = .ok (.aload_n 0, 1) := by decide +kernel
theorem d_M_step_1 : decode b_M_step 1 = .ok (.iconst 0, 1) := by decide +kernel
theorem d_M_step_2 : decode b_M_step 2 = .ok (.putfield 69, 3) := by decide +kernel
theorem d_M_step_5 : decode b_M_step 5 = .ok (.aload_n 0, 1) := by decide +kernel
theorem d_M_step_6 : decode b_M_step 6 = .ok (.lload_n 1, 1) := by decide +kernel
theorem d_M_step_7 : decode b_M_step 7 = .ok (.invokevirtual 99, 3) := by decide +kernel
theorem d_M_step_10 : decode b_M_step 10 = .ok (.ifCond .ne 6, 3) := by decide +kernel
theorem d_M_step_13 : decode b_M_step 13 = .ok (.bipush (-12), 2) := by decide +kernel
theorem d_M_step_15 : decode b_M_step 15 = .ok (.ireturn, 1) := by decide +kernel
theorem d_M_step_16 : decode b_M_step 16 = .ok (.aload_n 0, 1) := by decide +kernel
theorem d_M_step_17 : decode b_M_step 17 = .ok (.lload_n 1, 1) := by decide +kernel
theorem d_M_step_18 : decode b_M_step 18 = .ok (.invokevirtual 138, 3) := by decide +kernel
theorem d_M_step_21 : decode b_M_step 21 = .ok (.aload_n 0, 1) := by decide +kernel
theorem d_M_step_22 : decode b_M_step 22 = .ok (.getfield 116, 3) := by decide +kernel
theorem d_M_step_25 : decode b_M_step 25 = .ok (.aload_n 0, 1) := by decide +kernel
theorem d_M_step_26 : decode b_M_step 26 = .ok (.getfield 142, 3) := by decide +kernel
theorem d_M_step_29 : decode b_M_step 29 = .ok (.isub, 1) := by decide +kernel
theorem d_M_step_30 : decode b_M_step 30 = .ok (.istore_n 3, 1) := by decide +kernel
theorem d_M_step_31 : decode b_M_step 31 = .ok (.aload_n 0, 1) := by decide +kernel
theorem d_M_step_32 : decode b_M_step 32 = .ok (.aload_n 0, 1) := by decide +kernel
theorem d_M_step_33 : decode b_M_step 33 = .ok (.getfield 116, 3) := by decide +kernel
theorem d_M_step_36 : decode b_M_step 36 = .ok (.putfield 142, 3) := by decide +kernel
theorem d_M_step_39 : decode b_M_step 39 = .ok (.iload_n 3, 1) := by decide +kernel
theorem d_M_step_40 : decode b_M_step 40 = .ok (.ireturn, 1) := by decide +kernel
theorem d_M_pass_0 : decode b_M_pass 0 = .ok (.aload_n 0, 1) := by decide +kernel
theorem d_M_pass_1 : decode b_M_pass 1 = .ok (.getfield 79, 3) := by decide +kernel
theorem d_M_pass_4 : decode b_M_pass 4 = .ok (.lload_n 1, 1) := by decide +kernel
theorem d_M_pass_5 : decode b_M_pass 5 = .ok (.lcmp, 1) := by decide +kernel
theorem d_M_pass_6 : decode b_M_pass 6 = .ok (.ifCond .ge 112, 3) := by decide +kernel
theorem d_M_pass_9 : decode b_M_pass 9 = .ok (.iconst 0, 1) := by decide +kernel
theorem d_M_pass_10 : decode b_M_pass 10 = .ok (.istore_n 3, 1) := by decide +kernel
theorem d_M_pass_11 : decode b_M_pass 11 = .ok (.iload_n 3, 1) := by decide +kernel
theorem d_M_pass_12 : decode b_M_pass 12 = .ok (.aload_n 0, 1) := by decide +kernel
theorem d_M_pass_13 : decode b_M_pass 13 = .ok (.getfield 73, 3) := by decide +kernel
theorem d_M_pass_16 : decode b_M_pass 16 = .ok (.if_icmp .ge 24, 3) := by decide +kernel
theorem d_M_pass_19 : decode b_M_pass 19 = .ok (.aload_n 0, 1) := by decide +kernel
theorem d_M_pass_20 : decode b_M_pass 20 = .ok (.getfield 33, 3) := by decide +kernel
theorem d_M_pass_23 : decode b_M_pass 23 = .ok (.iload_n 3, 1) := by decide +kernel
theorem d_M_pass_24 : decode b_M_pass 24 = .ok (.aload_n 0, 1) := by decide +kernel
theorem d_M_pass_25 : decode b_M_pass 25 = .ok (.iload_n 3, 1) := by decide +kernel
theorem d_M_pass_26 : decode b_M_pass 26 = .ok (.aload_n 0, 1) := by decide +kernel
theorem d_M_pass_27 : decode b_M_pass 27 = .ok (.getfield 79, 3) := by decide +kernel
theorem d_M_pass_30 : decode b_M_pass 30 = .ok (.invokevirtual 128, 3) := by decide +kernel
theorem d_M_pass_33 : decode b_M_pass 33 = .ok (.lastore, 1) := by decide +kernel
theorem d_M_pass_34 : decode b_M_pass 34 = .ok (.iinc 3 1, 3) := by decide +kernel
theorem d_M_pass_37 : decode b_M_pass 37 = .ok (.goto (-26), 3) := by decide +kernel
theorem d_M_pass_40 : decode b_M_pass 40 = .ok (.iconst 1, 1) := by decide +kernel
theorem d_M_pass_41 : decode b_M_pass 41 = .ok (.istore_n 3, 1) := by decide +kernel
theorem d_M_pass_42 : decode b_M_pass 42 = .ok (.iload_n 3, 1) := by decide +kernel
theorem d_M_pass_43 : decode b_M_pass 43 = .ok (.aload_n 0, 1) := by decide +kernel
theorem d_M_pass_44 : decode b_M_pass 44 = .ok (.getfield 76, 3) := by decide +kernel
theorem d_M_pass_47 : decode b_M_pass 47 = .ok (.if_icmp .gt 50, 3) := by decide +kernel
theorem d_M_pass_50 : decode b_M_pass 50 = .ok (.aload_n 0, 1) := by decide +kernel
theorem d_M_pass_51 : decode b_M_pass 51 = .ok (.getfield 45, 3) := by decide +kernel
theorem d_M_pass_54 : decode b_M_pass 54 = .ok (.iload_n 3, 1) := by decide +kernel
theorem d_M_pass_55 : decode b_M_pass 55 = .ok (.aload_n 0, 1) := by decide +kernel
theorem d_M_pass_56 : decode b_M_pass 56 = .ok (.iload_n 3, 1) := by decide +kernel
theorem d_M_pass_57 : decode b_M_pass 57 = .ok (.invokevirtual 111, 3) := by decide +kernel
theorem d_M_pass_60 : decode b_M_pass 60 = .ok (.ifCond .eq 24, 3) := by decide +kernel
theorem d_M_pass_63 : decode b_M_pass 63 = .ok (.aload_n 0, 1) := by decide +kernel
theorem d_M_pass_64 : decode b_M_pass 64 = .ok (.getfield 45, 3) := by decide +kernel
theorem d_M_pass_67 : decode b_M_pass 67 = .ok (.iload_n 3, 1) := by decide +kernel
theorem d_M_pass_68 : decode b_M_pass 68 = .ok (.laload, 1) := by decide +kernel
theorem d_M_pass_69 : decode b_M_pass 69 = .ok (.aload_n 0, 1) := by decide +kernel
theorem d_M_pass_70 : decode b_M_pass 70 = .ok (.getfield 33, 3) := by decide +kernel
theorem d_M_pass_73 : decode b_M_pass 73 = .ok (.aload_n 0, 1) := by decide +kernel
theorem d_M_pass_74 : decode b_M_pass 74 = .ok (.getfield 42, 3) := by decide +kernel
theorem d_M_pass_77 : decode b_M_pass 77 = .ok (.iload_n 3, 1) := by decide +kernel
theorem d_M_pass_78 : decode b_M_pass 78 = .ok (.iaload, 1) := by decide +kernel
theorem d_M_pass_79 : decode b_M_pass 79 = .ok (.laload, 1) := by decide +kernel
theorem d_M_pass_80 : decode b_M_pass 80 = .ok (.ladd, 1) := by decide +kernel
theorem d_M_pass_81 : decode b_M_pass 81 = .ok (.goto 9, 3) := by decide +kernel
theorem d_M_pass_84 : decode b_M_pass 84 = .ok (.aload_n 0, 1) := by decide +kernel
theorem d_M_pass_85 : decode b_M_pass 85 = .ok (.getfield 45, 3) := by decide +kernel
theorem d_M_pass_88 : decode b_M_pass 88 = .ok (.iload_n 3, 1) := by decide +kernel
theorem d_M_pass_89 : decode b_M_pass 89 = .ok (.laload, 1) := by decide +kernel
theorem d_M_pass_90 : decode b_M_pass 90 = .ok (.lastore, 1) := by decide +kernel
theorem d_M_pass_91 : decode b_M_pass 91 = .ok (.iinc 3 1, 3) := by decide +kernel
theorem d_M_pass_94 : decode b_M_pass 94 = .ok (.goto (-52), 3) := by decide +kernel
theorem d_M_pass_97 : decode b_M_pass 97 = .ok (.aload_n 0, 1) := by decide +kernel
theorem d_M_pass_98 : decode b_M_pass 98 = .ok (.dup, 1) := by decide +kernel
theorem d_M_pass_99 : decode b_M_pass 99 = .ok (.getfield 79, 3) := by decide +kernel
theorem d_M_pass_102 : decode b_M_pass 102 = .ok (.lconst 1, 1) := by decide +kernel
theorem d_M_pass_103 : decode b_M_pass 103 = .ok (.ladd, 1) := by decide +kernel
theorem d_M_pass_104 : decode b_M_pass 104 = .ok (.putfield 79, 3) := by decide +kernel
theorem d_M_pass_107 : decode b_M_pass 107 = .ok (.aload_n 0, 1) := by decide +kernel
theorem d_M_pass_108 : decode b_M_pass 108 = .ok (.invokevirtual 132, 3) := by decide +kernel
theorem d_M_pass_111 : decode b_M_pass 111 = .ok (.aload_n 0, 1) := by decide +kernel
theorem d_M_pass_112 : decode b_M_pass 112 = .ok (.invokevirtual 135, 3) := by decide +kernel
theorem d_M_pass_115 : decode b_M_pass 115 = .ok (.goto (-115), 3) := by decide +kernel
theorem d_M_pass_118 : decode b_M_pass 118 = .ok (.return_, 1) := by decide +kernel
theorem d_M_rateAt_0 : decode b_M_rateAt 0 = .ok (.aload_n 0, 1) := by decide +kernel
theorem d_M_rateAt_1 : decode b_M_rateAt 1 = .ok (.getfield 13, 3) := by decide +kernel
theorem d_M_rateAt_4 : decode b_M_rateAt 4 = .ok (.iload_n 1, 1) := by decide +kernel
theorem d_M_rateAt_5 : decode b_M_rateAt 5 = .ok (.laload, 1) := by decide +kernel
theorem d_M_rateAt_6 : decode b_M_rateAt 6 = .ok (.aload_n 0, 1) := by decide +kernel
theorem d_M_rateAt_7 : decode b_M_rateAt 7 = .ok (.iload_n 1, 1) := by decide +kernel
theorem d_M_rateAt_8 : decode b_M_rateAt 8 = .ok (.lload_n 2, 1) := by decide +kernel
theorem d_M_rateAt_9 : decode b_M_rateAt 9 = .ok (.invokevirtual 107, 3) := by decide +kernel
theorem d_M_rateAt_12 : decode b_M_rateAt 12 = .ok (.i2l, 1) := by decide +kernel
theorem d_M_rateAt_13 : decode b_M_rateAt 13 = .ok (.lmul, 1) := by decide +kernel
theorem d_M_rateAt_14 : decode b_M_rateAt 14 = .ok (.ldc2_w 105, 3) := by decide +kernel
theorem d_M_rateAt_17 : decode b_M_rateAt 17 = .ok (.ldiv, 1) := by decide +kernel
theorem d_M_rateAt_18 : decode b_M_rateAt 18 = .ok (.lreturn, 1) := by decide +kernel
theorem d_M_gearAt_0 : decode b_M_gearAt 0 = .ok (.lload_n 2, 1) := by decide +kernel
theorem d_M_gearAt_1 : decode b_M_gearAt 1 = .ok (.aload_n 0, 1) := by decide +kernel
theorem d_M_gearAt_2 : decode b_M_gearAt 2 = .ok (.getfield 20, 3) := by decide +kernel
theorem d_M_gearAt_5 : decode b_M_gearAt 5 = .ok (.iload_n 1, 1) := by decide +kernel
theorem d_M_gearAt_6 : decode b_M_gearAt 6 = .ok (.laload, 1) := by decide +kernel
theorem d_M_gearAt_7 : decode b_M_gearAt 7 = .ok (.lsub, 1) := by decide +kernel
theorem d_M_gearAt_8 : decode b_M_gearAt 8 = .ok (.ldc2_w 103, 3) := by decide +kernel
theorem d_M_gearAt_11 : decode b_M_gearAt 11 = .ok (.ldiv, 1) := by decide +kernel
theorem d_M_gearAt_12 : decode b_M_gearAt 12 = .ok (.lconst 1, 1) := by decide +kernel
theorem d_M_gearAt_13 : decode b_M_gearAt 13 = .ok (.ladd, 1) := by decide +kernel
theorem d_M_gearAt_14 : decode b_M_gearAt 14 = .ok (.lstore 4, 2) := by decide +kernel
theorem d_M_gearAt_16 : decode b_M_gearAt 16 = .ok (.aload_n 0, 1) := by decide +kernel
theorem d_M_gearAt_17 : decode b_M_gearAt 17 = .ok (.getfield 23, 3) := by decide +kernel
theorem d_M_gearAt_20 : decode b_M_gearAt 20 = .ok (.iload_n 1, 1) := by decide +kernel
theorem d_M_gearAt_21 : decode b_M_gearAt 21 = .ok (.baload, 1) := by decide +kernel
theorem d_M_gearAt_22 : decode b_M_gearAt 22 = .ok (.ifCond .eq 16, 3) := by decide +kernel
theorem d_M_gearAt_25 : decode b_M_gearAt 25 = .ok (.aload_n 0, 1) := by decide +kernel
theorem d_M_gearAt_26 : decode b_M_gearAt 26 = .ok (.getfield 27, 3) := by decide +kernel
theorem d_M_gearAt_29 : decode b_M_gearAt 29 = .ok (.iload_n 1, 1) := by decide +kernel
theorem d_M_gearAt_30 : decode b_M_gearAt 30 = .ok (.iaload, 1) := by decide +kernel
theorem d_M_gearAt_31 : decode b_M_gearAt 31 = .ok (.i2l, 1) := by decide +kernel
theorem d_M_gearAt_32 : decode b_M_gearAt 32 = .ok (.lload 4, 2) := by decide +kernel
theorem d_M_gearAt_34 : decode b_M_gearAt 34 = .ok (.ladd, 1) := by decide +kernel
theorem d_M_gearAt_35 : decode b_M_gearAt 35 = .ok (.goto 13, 3) := by decide +kernel
theorem d_M_gearAt_38 : decode b_M_gearAt 38 = .ok (.aload_n 0, 1) := by decide +kernel
theorem d_M_gearAt_39 : decode b_M_gearAt 39 = .ok (.getfield 27, 3) := by decide +kernel
theorem d_M_gearAt_42 : decode b_M_gearAt 42 = .ok (.iload_n 1, 1) := by decide +kernel
theorem d_M_gearAt_43 : decode b_M_gearAt 43 = .ok (.iaload, 1) := by decide +kernel
theorem d_M_gearAt_44 : decode b_M_gearAt 44 = .ok (.i2l, 1) := by decide +kernel
theorem d_M_gearAt_45 : decode b_M_gearAt 45 = .ok (.lload 4, 2) := by decide +kernel
theorem d_M_gearAt_47 : decode b_M_gearAt 47 = .ok (.lsub, 1) := by decide +kernel
theorem d_M_gearAt_48 : decode b_M_gearAt 48 = .ok (.lstore 6, 2) := by decide +kernel
theorem d_M_gearAt_50 : decode b_M_gearAt 50 = .ok (.lload 6, 2) := by decide +kernel
theorem d_M_gearAt_52 : decode b_M_gearAt 52 = .ok (.ldc2_w 105, 3) := by decide +kernel
theorem d_M_gearAt_55 : decode b_M_gearAt 55 = .ok (.lcmp, 1) := by decide +kernel
theorem d_M_gearAt_56 : decode b_M_gearAt 56 = .ok (.ifCond .le 8, 3) := by decide +kernel
theorem d_M_gearAt_59 : decode b_M_gearAt 59 = .ok (.bipush 8, 2) := by decide +kernel
theorem d_M_gearAt_61 : decode b_M_gearAt 61 = .ok (.goto 17, 3) := by decide +kernel
theorem d_M_gearAt_64 : decode b_M_gearAt 64 = .ok (.lload 6, 2) := by decide +kernel
theorem d_M_gearAt_66 : decode b_M_gearAt 66 = .ok (.lconst 0, 1) := by decide +kernel
theorem d_M_gearAt_67 : decode b_M_gearAt 67 = .ok (.lcmp, 1) := by decide +kernel
theorem d_M_gearAt_68 : decode b_M_gearAt 68 = .ok (.ifCond .ge 7, 3) := by decide +kernel
theorem d_M_gearAt_71 : decode b_M_gearAt 71 = .ok (.iconst 0, 1) := by decide +kernel
theorem d_M_gearAt_72 : decode b_M_gearAt 72 = .ok (.goto 6, 3) := by decide +kernel
theorem d_M_gearAt_75 : decode b_M_gearAt 75 = .ok (.lload 6, 2) := by decide +kernel
theorem d_M_gearAt_77 : decode b_M_gearAt 77 = .ok (.l2i, 1) := by decide +kernel
theorem d_M_gearAt_78 : decode b_M_gearAt 78 = .ok (.ireturn, 1) := by decide +kernel
theorem d_M_isThere_0 : decode b_M_isThere 0 = .ok (.aload_n 0, 1) := by decide +kernel
theorem d_M_isThere_1 : decode b_M_isThere 1 = .ok (.getfield 48, 3) := by decide +kernel
theorem d_M_isThere_4 : decode b_M_isThere 4 = .ok (.iload_n 1, 1) := by decide +kernel
theorem d_M_isThere_5 : decode b_M_isThere 5 = .ok (.baload, 1) := by decide +kernel
theorem d_M_isThere_6 : decode b_M_isThere 6 = .ok (.ifCond .ne 21, 3) := by decide +kernel
theorem d_M_isThere_9 : decode b_M_isThere 9 = .ok (.aload_n 0, 1) := by decide +kernel
theorem d_M_isThere_10 : decode b_M_isThere 10 = .ok (.getfield 39, 3) := by decide +kernel
theorem d_M_isThere_13 : decode b_M_isThere 13 = .ok (.iload_n 1, 1) := by decide +kernel
theorem d_M_isThere_14 : decode b_M_isThere 14 = .ok (.laload, 1) := by decide +kernel
theorem d_M_isThere_15 : decode b_M_isThere 15 = .ok (.aload_n 0, 1) := by decide +kernel
theorem d_M_isThere_16 : decode b_M_isThere 16 = .ok (.getfield 79, 3) := by decide +kernel
theorem d_M_isThere_19 : decode b_M_isThere 19 = .ok (.lcmp, 1) := by decide +kernel
theorem d_M_isThere_20 : decode b_M_isThere 20 = .ok (.ifCond .gt 7, 3) := by decide +kernel
theorem d_M_isThere_23 : decode b_M_isThere 23 = .ok (.iconst 1, 1) := by decide +kernel
theorem d_M_isThere_24 : decode b_M_isThere 24 = .ok (.goto 4, 3) := by decide +kernel
theorem d_M_isThere_27 : decode b_M_isThere 27 = .ok (.iconst 0, 1) := by decide +kernel
theorem d_M_isThere_28 : decode b_M_isThere 28 = .ok (.ireturn, 1) := by decide +kernel
theorem d_M_goOver_0 : decode b_M_goOver 0 = .ok (.iconst 1, 1) := by decide +kernel
theorem d_M_goOver_1 : decode b_M_goOver 1 = .ok (.istore_n 1, 1) := by decide +kernel
theorem d_M_goOver_2 : decode b_M_goOver 2 = .ok (.iload_n 1, 1) := by decide +kernel
theorem d_M_goOver_3 : decode b_M_goOver 3 = .ok (.aload_n 0, 1) := by decide +kernel
theorem d_M_goOver_4 : decode b_M_goOver 4 = .ok (.getfield 76, 3) := by decide +kernel
theorem d_M_goOver_7 : decode b_M_goOver 7 = .ok (.if_icmp .gt 125, 3) := by decide +kernel
theorem d_M_goOver_10 : decode b_M_goOver 10 = .ok (.aload_n 0, 1) := by decide +kernel
theorem d_M_goOver_11 : decode b_M_goOver 11 = .ok (.iload_n 1, 1) := by decide +kernel
theorem d_M_goOver_12 : decode b_M_goOver 12 = .ok (.invokevirtual 111, 3) := by decide +kernel
theorem d_M_goOver_15 : decode b_M_goOver 15 = .ok (.ifCond .eq 111, 3) := by decide +kernel
theorem d_M_goOver_18 : decode b_M_goOver 18 = .ok (.aload_n 0, 1) := by decide +kernel
theorem d_M_goOver_19 : decode b_M_goOver 19 = .ok (.getfield 45, 3) := by decide +kernel
theorem d_M_goOver_22 : decode b_M_goOver 22 = .ok (.iload_n 1, 1) := by decide +kernel
theorem d_M_goOver_23 : decode b_M_goOver 23 = .ok (.laload, 1) := by decide +kernel
theorem d_M_goOver_24 : decode b_M_goOver 24 = .ok (.aload_n 0, 1) := by decide +kernel
theorem d_M_goOver_25 : decode b_M_goOver 25 = .ok (.getfield 7, 3) := by decide +kernel
theorem d_M_goOver_28 : decode b_M_goOver 28 = .ok (.aload_n 0, 1) := by decide +kernel
theorem d_M_goOver_29 : decode b_M_goOver 29 = .ok (.getfield 42, 3) := by decide +kernel
theorem d_M_goOver_32 : decode b_M_goOver 32 = .ok (.iload_n 1, 1) := by decide +kernel
theorem d_M_goOver_33 : decode b_M_goOver 33 = .ok (.iaload, 1) := by decide +kernel
theorem d_M_goOver_34 : decode b_M_goOver 34 = .ok (.laload, 1) := by decide +kernel
theorem d_M_goOver_35 : decode b_M_goOver 35 = .ok (.lcmp, 1) := by decide +kernel
theorem d_M_goOver_36 : decode b_M_goOver 36 = .ok (.ifCond .lt 90, 3) := by decide +kernel
theorem d_M_goOver_39 : decode b_M_goOver 39 = .ok (.aload_n 0, 1) := by decide +kernel
theorem d_M_goOver_40 : decode b_M_goOver 40 = .ok (.getfield 45, 3) := by decide +kernel
theorem d_M_goOver_43 : decode b_M_goOver 43 = .ok (.iload_n 1, 1) := by decide +kernel
theorem d_M_goOver_44 : decode b_M_goOver 44 = .ok (.aload_n 0, 1) := by decide +kernel
theorem d_M_goOver_45 : decode b_M_goOver 45 = .ok (.getfield 45, 3) := by decide +kernel
theorem d_M_goOver_48 : decode b_M_goOver 48 = .ok (.iload_n 1, 1) := by decide +kernel
theorem d_M_goOver_49 : decode b_M_goOver 49 = .ok (.laload, 1) := by decide +kernel
theorem d_M_goOver_50 : decode b_M_goOver 50 = .ok (.aload_n 0, 1) := by decide +kernel
theorem d_M_goOver_51 : decode b_M_goOver 51 = .ok (.getfield 7, 3) := by decide +kernel
theorem d_M_goOver_54 : decode b_M_goOver 54 = .ok (.aload_n 0, 1) := by decide +kernel
theorem d_M_goOver_55 : decode b_M_goOver 55 = .ok (.getfield 42, 3) := by decide +kernel
theorem d_M_goOver_58 : decode b_M_goOver 58 = .ok (.iload_n 1, 1) := by decide +kernel
theorem d_M_goOver_59 : decode b_M_goOver 59 = .ok (.iaload, 1) := by decide +kernel
theorem d_M_goOver_60 : decode b_M_goOver 60 = .ok (.laload, 1) := by decide +kernel
theorem d_M_goOver_61 : decode b_M_goOver 61 = .ok (.lsub, 1) := by decide +kernel
theorem d_M_goOver_62 : decode b_M_goOver 62 = .ok (.lastore, 1) := by decide +kernel
theorem d_M_goOver_63 : decode b_M_goOver 63 = .ok (.aload_n 0, 1) := by decide +kernel
theorem d_M_goOver_64 : decode b_M_goOver 64 = .ok (.getfield 16, 3) := by decide +kernel
theorem d_M_goOver_67 : decode b_M_goOver 67 = .ok (.aload_n 0, 1) := by decide +kernel
theorem d_M_goOver_68 : decode b_M_goOver 68 = .ok (.getfield 42, 3) := by decide +kernel
theorem d_M_goOver_71 : decode b_M_goOver 71 = .ok (.iload_n 1, 1) := by decide +kernel
theorem d_M_goOver_72 : decode b_M_goOver 72 = .ok (.iaload, 1) := by decide +kernel
theorem d_M_goOver_73 : decode b_M_goOver 73 = .ok (.iaload, 1) := by decide +kernel
theorem d_M_goOver_74 : decode b_M_goOver 74 = .ok (.istore_n 2, 1) := by decide +kernel
theorem d_M_goOver_75 : decode b_M_goOver 75 = .ok (.aload_n 0, 1) := by decide +kernel
theorem d_M_goOver_76 : decode b_M_goOver 76 = .ok (.getfield 48, 3) := by decide +kernel
theorem d_M_goOver_79 : decode b_M_goOver 79 = .ok (.iload_n 1, 1) := by decide +kernel
theorem d_M_goOver_80 : decode b_M_goOver 80 = .ok (.iload_n 2, 1) := by decide +kernel
theorem d_M_goOver_81 : decode b_M_goOver 81 = .ok (.iconst (-1), 1) := by decide +kernel
theorem d_M_goOver_82 : decode b_M_goOver 82 = .ok (.if_icmp .ne 7, 3) := by decide +kernel
theorem d_M_goOver_85 : decode b_M_goOver 85 = .ok (.iconst 1, 1) := by decide +kernel
theorem d_M_goOver_86 : decode b_M_goOver 86 = .ok (.goto 4, 3) := by decide +kernel
theorem d_M_goOver_89 : decode b_M_goOver 89 = .ok (.iconst 0, 1) := by decide +kernel
theorem d_M_goOver_90 : decode b_M_goOver 90 = .ok (.bastore, 1) := by decide +kernel
theorem d_M_goOver_91 : decode b_M_goOver 91 = .ok (.aload_n 0, 1) := by decide +kernel
theorem d_M_goOver_92 : decode b_M_goOver 92 = .ok (.getfield 42, 3) := by decide +kernel
theorem d_M_goOver_95 : decode b_M_goOver 95 = .ok (.iload_n 1, 1) := by decide +kernel
theorem d_M_goOver_96 : decode b_M_goOver 96 = .ok (.iload_n 2, 1) := by decide +kernel
theorem d_M_goOver_97 : decode b_M_goOver 97 = .ok (.iconst (-1), 1) := by decide +kernel
theorem d_M_goOver_98 : decode b_M_goOver 98 = .ok (.if_icmp .ne 12, 3) := by decide +kernel
theorem d_M_goOver_101 : decode b_M_goOver 101 = .ok (.aload_n 0, 1) := by decide +kernel
theorem d_M_goOver_102 : decode b_M_goOver 102 = .ok (.getfield 42, 3) := by decide +kernel
theorem d_M_goOver_105 : decode b_M_goOver 105 = .ok (.iload_n 1, 1) := by decide +kernel
theorem d_M_goOver_106 : decode b_M_goOver 106 = .ok (.iaload, 1) := by decide +kernel
theorem d_M_goOver_107 : decode b_M_goOver 107 = .ok (.goto 4, 3) := by decide +kernel
theorem d_M_goOver_110 : decode b_M_goOver 110 = .ok (.iload_n 2, 1) := by decide +kernel
theorem d_M_goOver_111 : decode b_M_goOver 111 = .ok (.iastore, 1) := by decide +kernel
theorem d_M_goOver_112 : decode b_M_goOver 112 = .ok (.aload_n 0, 1) := by decide +kernel
theorem d_M_goOver_113 : decode b_M_goOver 113 = .ok (.getfield 51, 3) := by decide +kernel
theorem d_M_goOver_116 : decode b_M_goOver 116 = .ok (.iload_n 1, 1) := by decide +kernel
theorem d_M_goOver_117 : decode b_M_goOver 117 = .ok (.iconst 0, 1) := by decide +kernel
theorem d_M_goOver_118 : decode b_M_goOver 118 = .ok (.bastore, 1) := by decide +kernel
theorem d_M_goOver_119 : decode b_M_goOver 119 = .ok (.aload_n 0, 1) := by decide +kernel
theorem d_M_goOver_120 : decode b_M_goOver 120 = .ok (.getfield 54, 3) := by decide +kernel
theorem d_M_goOver_123 : decode b_M_goOver 123 = .ok (.iload_n 1, 1) := by decide +kernel
theorem d_M_goOver_124 : decode b_M_goOver 124 = .ok (.iconst 0, 1) := by decide +kernel
theorem d_M_goOver_125 : decode b_M_goOver 125 = .ok (.bastore, 1) := by decide +kernel
theorem d_M_goOver_126 : decode b_M_goOver 126 = .ok (.iinc 1 1, 3) := by decide +kernel
theorem d_M_goOver_129 : decode b_M_goOver 129 = .ok (.goto (-127), 3) := by decide +kernel
end
section
theorem d_M_goOver_132 : decode b_M_goOver 132 = .ok (.return_, 1) := by decide +kernel
theorem d_M_look_0 : decode b_M_look 0 = .ok (.iconst 1, 1) := by decide +kernel
theorem d_M_look_1 : decode b_M_look 1 = .ok (.istore_n 1, 1) := by decide +kernel
theorem d_M_look_2 : decode b_M_look 2 = .ok (.iload_n 1, 1) := by decide +kernel
theorem d_M_look_3 : decode b_M_look 3 = .ok (.aload_n 0, 1) := by decide +kernel
theorem d_M_look_4 : decode b_M_look 4 = .ok (.getfield 76, 3) := by decide +kernel
theorem d_M_look_7 : decode b_M_look 7 = .ok (.if_icmp .gt 127, 3) := by decide +kernel
theorem d_M_look_10 : decode b_M_look 10 = .ok (.aload_n 0, 1) := by decide +kernel
theorem d_M_look_11 : decode b_M_look 11 = .ok (.iload_n 1, 1) := by decide +kernel
theorem d_M_look_12 : decode b_M_look 12 = .ok (.invokevirtual 111, 3) := by decide +kernel
theorem d_M_look_15 : decode b_M_look 15 = .ok (.ifCond .eq 113, 3) := by decide +kernel
theorem d_M_look_18 : decode b_M_look 18 = .ok (.aload_n 0, 1) := by decide +kernel
theorem d_M_look_19 : decode b_M_look 19 = .ok (.getfield 7, 3) := by decide +kernel
theorem d_M_look_22 : decode b_M_look 22 = .ok (.aload_n 0, 1) := by decide +kernel
theorem d_M_look_23 : decode b_M_look 23 = .ok (.getfield 42, 3) := by decide +kernel
theorem d_M_look_26 : decode b_M_look 26 = .ok (.iload_n 1, 1) := by decide +kernel
theorem d_M_look_27 : decode b_M_look 27 = .ok (.iaload, 1) := by decide +kernel
theorem d_M_look_28 : decode b_M_look 28 = .ok (.laload, 1) := by decide +kernel
theorem d_M_look_29 : decode b_M_look 29 = .ok (.ldc2_w 119, 3) := by decide +kernel
theorem d_M_look_32 : decode b_M_look 32 = .ok (.ldiv, 1) := by decide +kernel
theorem d_M_look_33 : decode b_M_look 33 = .ok (.lstore_n 2, 1) := by decide +kernel
theorem d_M_look_34 : decode b_M_look 34 = .ok (.aload_n 0, 1) := by decide +kernel
theorem d_M_look_35 : decode b_M_look 35 = .ok (.getfield 51, 3) := by decide +kernel
theorem d_M_look_38 : decode b_M_look 38 = .ok (.iload_n 1, 1) := by decide +kernel
theorem d_M_look_39 : decode b_M_look 39 = .ok (.baload, 1) := by decide +kernel
theorem d_M_look_40 : decode b_M_look 40 = .ok (.ifCond .ne 39, 3) := by decide +kernel
theorem d_M_look_43 : decode b_M_look 43 = .ok (.aload_n 0, 1) := by decide +kernel
theorem d_M_look_44 : decode b_M_look 44 = .ok (.getfield 45, 3) := by decide +kernel
theorem d_M_look_47 : decode b_M_look 47 = .ok (.iload_n 1, 1) := by decide +kernel
theorem d_M_look_48 : decode b_M_look 48 = .ok (.laload, 1) := by decide +kernel
theorem d_M_look_49 : decode b_M_look 49 = .ok (.lload_n 2, 1) := by decide +kernel
theorem d_M_look_50 : decode b_M_look 50 = .ok (.lcmp, 1) := by decide +kernel
theorem d_M_look_51 : decode b_M_look 51 = .ok (.ifCond .lt 28, 3) := by decide +kernel
theorem d_M_look_54 : decode b_M_look 54 = .ok (.aload_n 0, 1) := by decide +kernel
theorem d_M_look_55 : decode b_M_look 55 = .ok (.iload_n 1, 1) := by decide +kernel
theorem d_M_look_56 : decode b_M_look 56 = .ok (.aload_n 0, 1) := by decide +kernel
theorem d_M_look_57 : decode b_M_look 57 = .ok (.iload_n 1, 1) := by decide +kernel
theorem d_M_look_58 : decode b_M_look 58 = .ok (.invokevirtual 121, 3) := by decide +kernel
theorem d_M_look_61 : decode b_M_look 61 = .ok (.ifCond .eq 7, 3) := by decide +kernel
theorem d_M_look_64 : decode b_M_look 64 = .ok (.iconst 2, 1) := by decide +kernel
theorem d_M_look_65 : decode b_M_look 65 = .ok (.goto 4, 3) := by decide +kernel
theorem d_M_look_68 : decode b_M_look 68 = .ok (.iconst 0, 1) := by decide +kernel
theorem d_M_look_69 : decode b_M_look 69 = .ok (.invokevirtual 124, 3) := by decide +kernel
theorem d_M_look_72 : decode b_M_look 72 = .ok (.aload_n 0, 1) := by decide +kernel
theorem d_M_look_73 : decode b_M_look 73 = .ok (.getfield 51, 3) := by decide +kernel
theorem d_M_look_76 : decode b_M_look 76 = .ok (.iload_n 1, 1) := by decide +kernel
theorem d_M_look_77 : decode b_M_look 77 = .ok (.iconst 1, 1) := by decide +kernel
theorem d_M_look_78 : decode b_M_look 78 = .ok (.bastore, 1) := by decide +kernel
theorem d_M_look_79 : decode b_M_look 79 = .ok (.aload_n 0, 1) := by decide +kernel
theorem d_M_look_80 : decode b_M_look 80 = .ok (.getfield 51, 3) := by decide +kernel
theorem d_M_look_83 : decode b_M_look 83 = .ok (.iload_n 1, 1) := by decide +kernel
theorem d_M_look_84 : decode b_M_look 84 = .ok (.baload, 1) := by decide +kernel
theorem d_M_look_85 : decode b_M_look 85 = .ok (.ifCond .eq 43, 3) := by decide +kernel
theorem d_M_look_88 : decode b_M_look 88 = .ok (.aload_n 0, 1) := by decide +kernel
theorem d_M_look_89 : decode b_M_look 89 = .ok (.getfield 54, 3) := by decide +kernel
theorem d_M_look_92 : decode b_M_look 92 = .ok (.iload_n 1, 1) := by decide +kernel
theorem d_M_look_93 : decode b_M_look 93 = .ok (.baload, 1) := by decide +kernel
theorem d_M_look_94 : decode b_M_look 94 = .ok (.ifCond .ne 34, 3) := by decide +kernel
theorem d_M_look_97 : decode b_M_look 97 = .ok (.aload_n 0, 1) := by decide +kernel
theorem d_M_look_98 : decode b_M_look 98 = .ok (.getfield 45, 3) := by decide +kernel
theorem d_M_look_101 : decode b_M_look 101 = .ok (.iload_n 1, 1) := by decide +kernel
theorem d_M_look_102 : decode b_M_look 102 = .ok (.laload, 1) := by decide +kernel
theorem d_M_look_103 : decode b_M_look 103 = .ok (.aload_n 0, 1) := by decide +kernel
theorem d_M_look_104 : decode b_M_look 104 = .ok (.getfield 36, 3) := by decide +kernel
theorem d_M_look_107 : decode b_M_look 107 = .ok (.iload_n 1, 1) := by decide +kernel
theorem d_M_look_108 : decode b_M_look 108 = .ok (.laload, 1) := by decide +kernel
theorem d_M_look_109 : decode b_M_look 109 = .ok (.lsub, 1) := by decide +kernel
theorem d_M_look_110 : decode b_M_look 110 = .ok (.lload_n 2, 1) := by decide +kernel
theorem d_M_look_111 : decode b_M_look 111 = .ok (.lcmp, 1) := by decide +kernel
theorem d_M_look_112 : decode b_M_look 112 = .ok (.ifCond .lt 16, 3) := by decide +kernel
theorem d_M_look_115 : decode b_M_look 115 = .ok (.aload_n 0, 1) := by decide +kernel
theorem d_M_look_116 : decode b_M_look 116 = .ok (.iload_n 1, 1) := by decide +kernel
theorem d_M_look_117 : decode b_M_look 117 = .ok (.iconst 1, 1) := by decide +kernel
theorem d_M_look_118 : decode b_M_look 118 = .ok (.invokevirtual 124, 3) := by decide +kernel
theorem d_M_look_121 : decode b_M_look 121 = .ok (.aload_n 0, 1) := by decide +kernel
theorem d_M_look_122 : decode b_M_look 122 = .ok (.getfield 54, 3) := by decide +kernel
theorem d_M_look_125 : decode b_M_look 125 = .ok (.iload_n 1, 1) := by decide +kernel
theorem d_M_look_126 : decode b_M_look 126 = .ok (.iconst 1, 1) := by decide +kernel
theorem d_M_look_127 : decode b_M_look 127 = .ok (.bastore, 1) := by decide +kernel
theorem d_M_look_128 : decode b_M_look 128 = .ok (.iinc 1 1, 3) := by decide +kernel
theorem d_M_look_131 : decode b_M_look 131 = .ok (.goto (-129), 3) := by decide +kernel
theorem d_M_look_134 : decode b_M_look 134 = .ok (.return_, 1) := by decide +kernel
theorem d_M_isShort_0 : decode b_M_isShort 0 = .ok (.iconst 0, 1) := by decide +kernel
theorem d_M_isShort_1 : decode b_M_isShort 1 = .ok (.istore_n 2, 1) := by decide +kernel
theorem d_M_isShort_2 : decode b_M_isShort 2 = .ok (.iconst 1, 1) := by decide +kernel
theorem d_M_isShort_3 : decode b_M_isShort 3 = .ok (.istore_n 3, 1) := by decide +kernel
theorem d_M_isShort_4 : decode b_M_isShort 4 = .ok (.iload_n 3, 1) := by decide +kernel
theorem d_M_isShort_5 : decode b_M_isShort 5 = .ok (.aload_n 0, 1) := by decide +kernel
theorem d_M_isShort_6 : decode b_M_isShort 6 = .ok (.getfield 76, 3) := by decide +kernel
theorem d_M_isShort_9 : decode b_M_isShort 9 = .ok (.if_icmp .gt 123, 3) := by decide +kernel
theorem d_M_isShort_12 : decode b_M_isShort 12 = .ok (.iload_n 3, 1) := by decide +kernel
theorem d_M_isShort_13 : decode b_M_isShort 13 = .ok (.iload_n 1, 1) := by decide +kernel
theorem d_M_isShort_14 : decode b_M_isShort 14 = .ok (.if_icmp .eq 112, 3) := by decide +kernel
theorem d_M_isShort_17 : decode b_M_isShort 17 = .ok (.aload_n 0, 1) := by decide +kernel
theorem d_M_isShort_18 : decode b_M_isShort 18 = .ok (.iload_n 3, 1) := by decide +kernel
theorem d_M_isShort_19 : decode b_M_isShort 19 = .ok (.invokevirtual 111, 3) := by decide +kernel
theorem d_M_isShort_22 : decode b_M_isShort 22 = .ok (.ifCond .eq 104, 3) := by decide +kernel
theorem d_M_isShort_25 : decode b_M_isShort 25 = .ok (.aload_n 0, 1) := by decide +kernel
theorem d_M_isShort_26 : decode b_M_isShort 26 = .ok (.getfield 42, 3) := by decide +kernel
theorem d_M_isShort_29 : decode b_M_isShort 29 = .ok (.iload_n 3, 1) := by decide +kernel
theorem d_M_isShort_30 : decode b_M_isShort 30 = .ok (.iaload, 1) := by decide +kernel
theorem d_M_isShort_31 : decode b_M_isShort 31 = .ok (.aload_n 0, 1) := by decide +kernel
theorem d_M_isShort_32 : decode b_M_isShort 32 = .ok (.getfield 42, 3) := by decide +kernel
theorem d_M_isShort_35 : decode b_M_isShort 35 = .ok (.iload_n 1, 1) := by decide +kernel
theorem d_M_isShort_36 : decode b_M_isShort 36 = .ok (.iaload, 1) := by decide +kernel
theorem d_M_isShort_37 : decode b_M_isShort 37 = .ok (.if_icmp .ne 89, 3) := by decide +kernel
theorem d_M_isShort_40 : decode b_M_isShort 40 = .ok (.aload_n 0, 1) := by decide +kernel
theorem d_M_isShort_41 : decode b_M_isShort 41 = .ok (.getfield 45, 3) := by decide +kernel
theorem d_M_isShort_44 : decode b_M_isShort 44 = .ok (.iload_n 3, 1) := by decide +kernel
theorem d_M_isShort_45 : decode b_M_isShort 45 = .ok (.laload, 1) := by decide +kernel
theorem d_M_isShort_46 : decode b_M_isShort 46 = .ok (.aload_n 0, 1) := by decide +kernel
theorem d_M_isShort_47 : decode b_M_isShort 47 = .ok (.getfield 45, 3) := by decide +kernel
theorem d_M_isShort_50 : decode b_M_isShort 50 = .ok (.iload_n 1, 1) := by decide +kernel
theorem d_M_isShort_51 : decode b_M_isShort 51 = .ok (.laload, 1) := by decide +kernel
theorem d_M_isShort_52 : decode b_M_isShort 52 = .ok (.lcmp, 1) := by decide +kernel
theorem d_M_isShort_53 : decode b_M_isShort 53 = .ok (.ifCond .gt 24, 3) := by decide +kernel
theorem d_M_isShort_56 : decode b_M_isShort 56 = .ok (.aload_n 0, 1) := by decide +kernel
theorem d_M_isShort_57 : decode b_M_isShort 57 = .ok (.getfield 45, 3) := by decide +kernel
theorem d_M_isShort_60 : decode b_M_isShort 60 = .ok (.iload_n 3, 1) := by decide +kernel
theorem d_M_isShort_61 : decode b_M_isShort 61 = .ok (.laload, 1) := by decide +kernel
theorem d_M_isShort_62 : decode b_M_isShort 62 = .ok (.aload_n 0, 1) := by decide +kernel
theorem d_M_isShort_63 : decode b_M_isShort 63 = .ok (.getfield 45, 3) := by decide +kernel
theorem d_M_isShort_66 : decode b_M_isShort 66 = .ok (.iload_n 1, 1) := by decide +kernel
theorem d_M_isShort_67 : decode b_M_isShort 67 = .ok (.laload, 1) := by decide +kernel
theorem d_M_isShort_68 : decode b_M_isShort 68 = .ok (.lcmp, 1) := by decide +kernel
theorem d_M_isShort_69 : decode b_M_isShort 69 = .ok (.ifCond .ne 12, 3) := by decide +kernel
theorem d_M_isShort_72 : decode b_M_isShort 72 = .ok (.iload_n 3, 1) := by decide +kernel
theorem d_M_isShort_73 : decode b_M_isShort 73 = .ok (.iload_n 1, 1) := by decide +kernel
theorem d_M_isShort_74 : decode b_M_isShort 74 = .ok (.if_icmp .ge 7, 3) := by decide +kernel
theorem d_M_isShort_77 : decode b_M_isShort 77 = .ok (.iconst 1, 1) := by decide +kernel
theorem d_M_isShort_78 : decode b_M_isShort 78 = .ok (.goto 4, 3) := by decide +kernel
theorem d_M_isShort_81 : decode b_M_isShort 81 = .ok (.iconst 0, 1) := by decide +kernel
theorem d_M_isShort_82 : decode b_M_isShort 82 = .ok (.istore 4, 2) := by decide +kernel
theorem d_M_isShort_84 : decode b_M_isShort 84 = .ok (.iload_n 2, 1) := by decide +kernel
theorem d_M_isShort_85 : decode b_M_isShort 85 = .ok (.ifCond .ne 35, 3) := by decide +kernel
theorem d_M_isShort_88 : decode b_M_isShort 88 = .ok (.iload 4, 2) := by decide +kernel
theorem d_M_isShort_90 : decode b_M_isShort 90 = .ok (.ifCond .eq 34, 3) := by decide +kernel
theorem d_M_isShort_93 : decode b_M_isShort 93 = .ok (.aload_n 0, 1) := by decide +kernel
theorem d_M_isShort_94 : decode b_M_isShort 94 = .ok (.getfield 45, 3) := by decide +kernel
theorem d_M_isShort_97 : decode b_M_isShort 97 = .ok (.iload_n 3, 1) := by decide +kernel
theorem d_M_isShort_98 : decode b_M_isShort 98 = .ok (.laload, 1) := by decide +kernel
theorem d_M_isShort_99 : decode b_M_isShort 99 = .ok (.aload_n 0, 1) := by decide +kernel
theorem d_M_isShort_100 : decode b_M_isShort 100 = .ok (.getfield 36, 3) := by decide +kernel
theorem d_M_isShort_103 : decode b_M_isShort 103 = .ok (.iload_n 3, 1) := by decide +kernel
theorem d_M_isShort_104 : decode b_M_isShort 104 = .ok (.laload, 1) := by decide +kernel
theorem d_M_isShort_105 : decode b_M_isShort 105 = .ok (.lsub, 1) := by decide +kernel
theorem d_M_isShort_106 : decode b_M_isShort 106 = .ok (.aload_n 0, 1) := by decide +kernel
theorem d_M_isShort_107 : decode b_M_isShort 107 = .ok (.getfield 45, 3) := by decide +kernel
theorem d_M_isShort_110 : decode b_M_isShort 110 = .ok (.iload_n 1, 1) := by decide +kernel
theorem d_M_isShort_111 : decode b_M_isShort 111 = .ok (.laload, 1) := by decide +kernel
theorem d_M_isShort_112 : decode b_M_isShort 112 = .ok (.ldc2_w 114, 3) := by decide +kernel
theorem d_M_isShort_115 : decode b_M_isShort 115 = .ok (.ladd, 1) := by decide +kernel
theorem d_M_isShort_116 : decode b_M_isShort 116 = .ok (.lcmp, 1) := by decide +kernel
theorem d_M_isShort_117 : decode b_M_isShort 117 = .ok (.ifCond .ge 7, 3) := by decide +kernel
theorem d_M_isShort_120 : decode b_M_isShort 120 = .ok (.iconst 1, 1) := by decide +kernel
theorem d_M_isShort_121 : decode b_M_isShort 121 = .ok (.goto 4, 3) := by decide +kernel
theorem d_M_isShort_124 : decode b_M_isShort 124 = .ok (.iconst 0, 1) := by decide +kernel
theorem d_M_isShort_125 : decode b_M_isShort 125 = .ok (.istore_n 2, 1) := by decide +kernel
theorem d_M_isShort_126 : decode b_M_isShort 126 = .ok (.iinc 3 1, 3) := by decide +kernel
theorem d_M_isShort_129 : decode b_M_isShort 129 = .ok (.goto (-125), 3) := by decide +kernel
theorem d_M_isShort_132 : decode b_M_isShort 132 = .ok (.iload_n 2, 1) := by decide +kernel
theorem d_M_isShort_133 : decode b_M_isShort 133 = .ok (.ireturn, 1) := by decide +kernel
theorem d_M_tell_0 : decode b_M_tell 0 = .ok (.aload_n 0, 1) := by decide +kernel
theorem d_M_tell_1 : decode b_M_tell 1 = .ok (.getfield 116, 3) := by decide +kernel
theorem d_M_tell_4 : decode b_M_tell 4 = .ok (.sipush 400, 3) := by decide +kernel
theorem d_M_tell_7 : decode b_M_tell 7 = .ok (.if_icmp .ge 51, 3) := by decide +kernel
theorem d_M_tell_10 : decode b_M_tell 10 = .ok (.aload_n 0, 1) := by decide +kernel
theorem d_M_tell_11 : decode b_M_tell 11 = .ok (.getfield 57, 3) := by decide +kernel
theorem d_M_tell_14 : decode b_M_tell 14 = .ok (.aload_n 0, 1) := by decide +kernel
theorem d_M_tell_15 : decode b_M_tell 15 = .ok (.getfield 116, 3) := by decide +kernel
theorem d_M_tell_18 : decode b_M_tell 18 = .ok (.aload_n 0, 1) := by decide +kernel
theorem d_M_tell_19 : decode b_M_tell 19 = .ok (.getfield 79, 3) := by decide +kernel
theorem d_M_tell_22 : decode b_M_tell 22 = .ok (.lastore, 1) := by decide +kernel
theorem d_M_tell_23 : decode b_M_tell 23 = .ok (.aload_n 0, 1) := by decide +kernel
theorem d_M_tell_24 : decode b_M_tell 24 = .ok (.getfield 60, 3) := by decide +kernel
theorem d_M_tell_27 : decode b_M_tell 27 = .ok (.aload_n 0, 1) := by decide +kernel
theorem d_M_tell_28 : decode b_M_tell 28 = .ok (.getfield 116, 3) := by decide +kernel
theorem d_M_tell_31 : decode b_M_tell 31 = .ok (.aload_n 0, 1) := by decide +kernel
theorem d_M_tell_32 : decode b_M_tell 32 = .ok (.getfield 42, 3) := by decide +kernel
theorem d_M_tell_35 : decode b_M_tell 35 = .ok (.iload_n 1, 1) := by decide +kernel
theorem d_M_tell_36 : decode b_M_tell 36 = .ok (.iaload, 1) := by decide +kernel
theorem d_M_tell_37 : decode b_M_tell 37 = .ok (.iastore, 1) := by decide +kernel
theorem d_M_tell_38 : decode b_M_tell 38 = .ok (.aload_n 0, 1) := by decide +kernel
theorem d_M_tell_39 : decode b_M_tell 39 = .ok (.getfield 63, 3) := by decide +kernel
theorem d_M_tell_42 : decode b_M_tell 42 = .ok (.aload_n 0, 1) := by decide +kernel
theorem d_M_tell_43 : decode b_M_tell 43 = .ok (.getfield 116, 3) := by decide +kernel
theorem d_M_tell_46 : decode b_M_tell 46 = .ok (.iload_n 1, 1) := by decide +kernel
theorem d_M_tell_47 : decode b_M_tell 47 = .ok (.iastore, 1) := by decide +kernel
theorem d_M_tell_48 : decode b_M_tell 48 = .ok (.aload_n 0, 1) := by decide +kernel
theorem d_M_tell_49 : decode b_M_tell 49 = .ok (.getfield 66, 3) := by decide +kernel
theorem d_M_tell_52 : decode b_M_tell 52 = .ok (.aload_n 0, 1) := by decide +kernel
theorem d_M_tell_53 : decode b_M_tell 53 = .ok (.getfield 116, 3) := by decide +kernel
theorem d_M_tell_56 : decode b_M_tell 56 = .ok (.iload_n 2, 1) := by decide +kernel
theorem d_M_tell_57 : decode b_M_tell 57 = .ok (.iastore, 1) := by decide +kernel
theorem d_M_tell_58 : decode b_M_tell 58 = .ok (.aload_n 0, 1) := by decide +kernel
theorem d_M_tell_59 : decode b_M_tell 59 = .ok (.dup, 1) := by decide +kernel
theorem d_M_tell_60 : decode b_M_tell 60 = .ok (.getfield 116, 3) := by decide +kernel
theorem d_M_tell_63 : decode b_M_tell 63 = .ok (.iconst 1, 1) := by decide +kernel
theorem d_M_tell_64 : decode b_M_tell 64 = .ok (.iadd, 1) := by decide +kernel
theorem d_M_tell_65 : decode b_M_tell 65 = .ok (.putfield 116, 3) := by decide +kernel
theorem d_M_tell_68 : decode b_M_tell 68 = .ok (.return_, 1) := by decide +kernel
theorem d_M_edge_0 : decode b_M_edge 0 = .ok (.aload_n 0, 1) := by decide +kernel
theorem d_M_edge_1 : decode b_M_edge 1 = .ok (.iconst 0, 1) := by decide +kernel
theorem d_M_edge_2 : decode b_M_edge 2 = .ok (.putfield 69, 3) := by decide +kernel
theorem d_M_edge_5 : decode b_M_edge 5 = .ok (.iload_n 1, 1) := by decide +kernel
theorem d_M_edge_6 : decode b_M_edge 6 = .ok (.ifCond .lt 27, 3) := by decide +kernel
theorem d_M_edge_9 : decode b_M_edge 9 = .ok (.iload_n 1, 1) := by decide +kernel
theorem d_M_edge_10 : decode b_M_edge 10 = .ok (.aload_n 0, 1) := by decide +kernel
theorem d_M_edge_11 : decode b_M_edge 11 = .ok (.getfield 116, 3) := by decide +kernel
theorem d_M_edge_14 : decode b_M_edge 14 = .ok (.if_icmp .ge 19, 3) := by decide +kernel
theorem d_M_edge_17 : decode b_M_edge 17 = .ok (.iload_n 1, 1) := by decide +kernel
theorem d_M_edge_18 : decode b_M_edge 18 = .ok (.sipush 400, 3) := by decide +kernel
theorem d_M_edge_21 : decode b_M_edge 21 = .ok (.if_icmp .ge 12, 3) := by decide +kernel
theorem d_M_edge_24 : decode b_M_edge 24 = .ok (.iload_n 2, 1) := by decide +kernel
theorem d_M_edge_25 : decode b_M_edge 25 = .ok (.ifCond .lt 8, 3) := by decide +kernel
theorem d_M_edge_28 : decode b_M_edge 28 = .ok (.iload_n 2, 1) := by decide +kernel
theorem d_M_edge_29 : decode b_M_edge 29 = .ok (.iconst 3, 1) := by decide +kernel
theorem d_M_edge_30 : decode b_M_edge 30 = .ok (.if_icmp .le 5, 3) := by decide +kernel
theorem d_M_edge_33 : decode b_M_edge 33 = .ok (.iconst (-1), 1) := by decide +kernel
theorem d_M_edge_34 : decode b_M_edge 34 = .ok (.ireturn, 1) := by decide +kernel
theorem d_M_edge_35 : decode b_M_edge 35 = .ok (.iload_n 2, 1) := by decide +kernel
theorem d_M_edge_36 : decode b_M_edge 36 = .ok (.ifCond .ne 13, 3) := by decide +kernel
theorem d_M_edge_39 : decode b_M_edge 39 = .ok (.aload_n 0, 1) := by decide +kernel
theorem d_M_edge_40 : decode b_M_edge 40 = .ok (.getfield 57, 3) := by decide +kernel
theorem d_M_edge_43 : decode b_M_edge 43 = .ok (.iload_n 1, 1) := by decide +kernel
theorem d_M_edge_44 : decode b_M_edge 44 = .ok (.laload, 1) := by decide +kernel
theorem d_M_edge_45 : decode b_M_edge 45 = .ok (.l2i, 1) := by decide +kernel
theorem d_M_edge_46 : decode b_M_edge 46 = .ok (.goto 37, 3) := by decide +kernel
theorem d_M_edge_49 : decode b_M_edge 49 = .ok (.iload_n 2, 1) := by decide +kernel
theorem d_M_edge_50 : decode b_M_edge 50 = .ok (.iconst 1, 1) := by decide +kernel
theorem d_M_edge_51 : decode b_M_edge 51 = .ok (.if_icmp .ne 12, 3) := by decide +kernel
theorem d_M_edge_54 : decode b_M_edge 54 = .ok (.aload_n 0, 1) := by decide +kernel
theorem d_M_edge_55 : decode b_M_edge 55 = .ok (.getfield 60, 3) := by decide +kernel
theorem d_M_edge_58 : decode b_M_edge 58 = .ok (.iload_n 1, 1) := by decide +kernel
theorem d_M_edge_59 : decode b_M_edge 59 = .ok (.iaload, 1) := by decide +kernel
theorem d_M_edge_60 : decode b_M_edge 60 = .ok (.goto 23, 3) := by decide +kernel
theorem d_M_edge_63 : decode b_M_edge 63 = .ok (.iload_n 2, 1) := by decide +kernel
theorem d_M_edge_64 : decode b_M_edge 64 = .ok (.iconst 2, 1) := by decide +kernel
theorem d_M_edge_65 : decode b_M_edge 65 = .ok (.if_icmp .ne 12, 3) := by decide +kernel
theorem d_M_edge_68 : decode b_M_edge 68 = .ok (.aload_n 0, 1) := by decide +kernel
theorem d_M_edge_69 : decode b_M_edge 69 = .ok (.getfield 63, 3) := by decide +kernel
theorem d_M_edge_72 : decode b_M_edge 72 = .ok (.iload_n 1, 1) := by decide +kernel
theorem d_M_edge_73 : decode b_M_edge 73 = .ok (.iaload, 1) := by decide +kernel
theorem d_M_edge_74 : decode b_M_edge 74 = .ok (.goto 9, 3) := by decide +kernel
theorem d_M_edge_77 : decode b_M_edge 77 = .ok (.aload_n 0, 1) := by decide +kernel
theorem d_M_edge_78 : decode b_M_edge 78 = .ok (.getfield 66, 3) := by decide +kernel
theorem d_M_edge_81 : decode b_M_edge 81 = .ok (.iload_n 1, 1) := by decide +kernel
theorem d_M_edge_82 : decode b_M_edge 82 = .ok (.iaload, 1) := by decide +kernel
theorem d_M_edge_83 : decode b_M_edge 83 = .ok (.ireturn, 1) := by decide +kernel
theorem d_M_stop_0 : decode b_M_stop 0 = .ok (.aload_n 0, 1) := by decide +kernel
theorem d_M_stop_1 : decode b_M_stop 1 = .ok (.iconst 0, 1) := by decide +kernel
theorem d_M_stop_2 : decode b_M_stop 2 = .ok (.putfield 69, 3) := by decide +kernel
theorem d_M_stop_5 : decode b_M_stop 5 = .ok (.aload_n 0, 1) := by decide +kernel
theorem d_M_stop_6 : decode b_M_stop 6 = .ok (.iload_n 1, 1) := by decide +kernel
theorem d_M_stop_7 : decode b_M_stop 7 = .ok (.invokevirtual 95, 3) := by decide +kernel
theorem d_M_stop_10 : decode b_M_stop 10 = .ok (.ifCond .ne 6, 3) := by decide +kernel
theorem d_M_stop_13 : decode b_M_stop 13 = .ok (.bipush (-11), 2) := by decide +kernel
theorem d_M_stop_15 : decode b_M_stop 15 = .ok (.ireturn, 1) := by decide +kernel
theorem d_M_stop_16 : decode b_M_stop 16 = .ok (.aload_n 0, 1) := by decide +kernel
theorem d_M_stop_17 : decode b_M_stop 17 = .ok (.lload_n 3, 1) := by decide +kernel
theorem d_M_stop_18 : decode b_M_stop 18 = .ok (.invokevirtual 99, 3) := by decide +kernel
theorem d_M_stop_21 : decode b_M_stop 21 = .ok (.ifCond .ne 6, 3) := by decide +kernel
theorem d_M_stop_24 : decode b_M_stop 24 = .ok (.bipush (-12), 2) := by decide +kernel
theorem d_M_stop_26 : decode b_M_stop 26 = .ok (.ireturn, 1) := by decide +kernel
theorem d_M_stop_27 : decode b_M_stop 27 = .ok (.aload_n 0, 1) := by decide +kernel
theorem d_M_stop_28 : decode b_M_stop 28 = .ok (.getfield 23, 3) := by decide +kernel
theorem d_M_stop_31 : decode b_M_stop 31 = .ok (.iload_n 1, 1) := by decide +kernel
theorem d_M_stop_32 : decode b_M_stop 32 = .ok (.baload, 1) := by decide +kernel
theorem d_M_stop_33 : decode b_M_stop 33 = .ok (.iload_n 2, 1) := by decide +kernel
theorem d_M_stop_34 : decode b_M_stop 34 = .ok (.if_icmp .eq 17, 3) := by decide +kernel
theorem d_M_stop_37 : decode b_M_stop 37 = .ok (.aload_n 0, 1) := by decide +kernel
theorem d_M_stop_38 : decode b_M_stop 38 = .ok (.getfield 30, 3) := by decide +kernel
theorem d_M_stop_41 : decode b_M_stop 41 = .ok (.iload_n 1, 1) := by decide +kernel
theorem d_M_stop_42 : decode b_M_stop 42 = .ok (.iaload, 1) := by decide +kernel
theorem d_M_stop_43 : decode b_M_stop 43 = .ok (.bipush 100, 2) := by decide +kernel
theorem d_M_stop_45 : decode b_M_stop 45 = .ok (.if_icmp .ne 6, 3) := by decide +kernel
theorem d_M_stop_48 : decode b_M_stop 48 = .ok (.bipush (-14), 2) := by decide +kernel
theorem d_M_stop_50 : decode b_M_stop 50 = .ok (.ireturn, 1) := by decide +kernel
theorem d_M_stop_51 : decode b_M_stop 51 = .ok (.aload_n 0, 1) := by decide +kernel
theorem d_M_stop_52 : decode b_M_stop 52 = .ok (.lload_n 3, 1) := by decide +kernel
theorem d_M_stop_53 : decode b_M_stop 53 = .ok (.invokevirtual 138, 3) := by decide +kernel
theorem d_M_stop_56 : decode b_M_stop 56 = .ok (.aload_n 0, 1) := by decide +kernel
theorem d_M_stop_57 : decode b_M_stop 57 = .ok (.getfield 23, 3) := by decide +kernel
theorem d_M_stop_60 : decode b_M_stop 60 = .ok (.iload_n 1, 1) := by decide +kernel
theorem d_M_stop_61 : decode b_M_stop 61 = .ok (.baload, 1) := by decide +kernel
theorem d_M_stop_62 : decode b_M_stop 62 = .ok (.iload_n 2, 1) := by decide +kernel
theorem d_M_stop_63 : decode b_M_stop 63 = .ok (.if_icmp .ne 5, 3) := by decide +kernel
theorem d_M_stop_66 : decode b_M_stop 66 = .ok (.iconst 0, 1) := by decide +kernel
theorem d_M_stop_67 : decode b_M_stop 67 = .ok (.ireturn, 1) := by decide +kernel
theorem d_M_stop_68 : decode b_M_stop 68 = .ok (.aload_n 0, 1) := by decide +kernel
theorem d_M_stop_69 : decode b_M_stop 69 = .ok (.getfield 27, 3) := by decide +kernel
theorem d_M_stop_72 : decode b_M_stop 72 = .ok (.iload_n 1, 1) := by decide +kernel
theorem d_M_stop_73 : decode b_M_stop 73 = .ok (.lload_n 3, 1) := by decide +kernel
theorem d_M_stop_74 : decode b_M_stop 74 = .ok (.lconst 0, 1) := by decide +kernel
theorem d_M_stop_75 : decode b_M_stop 75 = .ok (.lcmp, 1) := by decide +kernel
theorem d_M_stop_76 : decode b_M_stop 76 = .ok (.ifCond .ne 8, 3) := by decide +kernel
theorem d_M_stop_79 : decode b_M_stop 79 = .ok (.bipush 8, 2) := by decide +kernel
theorem d_M_stop_81 : decode b_M_stop 81 = .ok (.goto 31, 3) := by decide +kernel
theorem d_M_stop_84 : decode b_M_stop 84 = .ok (.lload_n 3, 1) := by decide +kernel
theorem d_M_stop_85 : decode b_M_stop 85 = .ok (.aload_n 0, 1) := by decide +kernel
theorem d_M_stop_86 : decode b_M_stop 86 = .ok (.getfield 20, 3) := by decide +kernel
theorem d_M_stop_89 : decode b_M_stop 89 = .ok (.iload_n 1, 1) := by decide +kernel
theorem d_M_stop_90 : decode b_M_stop 90 = .ok (.laload, 1) := by decide +kernel
theorem d_M_stop_91 : decode b_M_stop 91 = .ok (.lcmp, 1) := by decide +kernel
theorem d_M_stop_92 : decode b_M_stop 92 = .ok (.ifCond .le 14, 3) := by decide +kernel
theorem d_M_stop_95 : decode b_M_stop 95 = .ok (.aload_n 0, 1) := by decide +kernel
theorem d_M_stop_96 : decode b_M_stop 96 = .ok (.iload_n 1, 1) := by decide +kernel
theorem d_M_stop_97 : decode b_M_stop 97 = .ok (.lload_n 3, 1) := by decide +kernel
theorem d_M_stop_98 : decode b_M_stop 98 = .ok (.lconst 1, 1) := by decide +kernel
theorem d_M_stop_99 : decode b_M_stop 99 = .ok (.lsub, 1) := by decide +kernel
theorem d_M_stop_100 : decode b_M_stop 100 = .ok (.invokevirtual 107, 3) := by decide +kernel
theorem d_M_stop_103 : decode b_M_stop 103 = .ok (.goto 9, 3) := by decide +kernel
theorem d_M_stop_106 : decode b_M_stop 106 = .ok (.aload_n 0, 1) := by decide +kernel
theorem d_M_stop_107 : decode b_M_stop 107 = .ok (.getfield 27, 3) := by decide +kernel
theorem d_M_stop_110 : decode b_M_stop 110 = .ok (.iload_n 1, 1) := by decide +kernel
theorem d_M_stop_111 : decode b_M_stop 111 = .ok (.iaload, 1) := by decide +kernel
theorem d_M_stop_112 : decode b_M_stop 112 = .ok (.iastore, 1) := by decide +kernel
theorem d_M_stop_113 : decode b_M_stop 113 = .ok (.aload_n 0, 1) := by decide +kernel
theorem d_M_stop_114 : decode b_M_stop 114 = .ok (.getfield 20, 3) := by decide +kernel
theorem d_M_stop_117 : decode b_M_stop 117 = .ok (.iload_n 1, 1) := by decide +kernel
theorem d_M_stop_118 : decode b_M_stop 118 = .ok (.lload_n 3, 1) := by decide +kernel
theorem d_M_stop_119 : decode b_M_stop 119 = .ok (.lastore, 1) := by decide +kernel
theorem d_M_stop_120 : decode b_M_stop 120 = .ok (.aload_n 0, 1) := by decide +kernel
theorem d_M_stop_121 : decode b_M_stop 121 = .ok (.getfield 23, 3) := by decide +kernel
theorem d_M_stop_124 : decode b_M_stop 124 = .ok (.iload_n 1, 1) := by decide +kernel
theorem d_M_stop_125 : decode b_M_stop 125 = .ok (.iload_n 2, 1) := by decide +kernel
theorem d_M_stop_126 : decode b_M_stop 126 = .ok (.bastore, 1) := by decide +kernel
theorem d_M_stop_127 : decode b_M_stop 127 = .ok (.aload_n 0, 1) := by decide +kernel
theorem d_M_stop_128 : decode b_M_stop 128 = .ok (.getfield 30, 3) := by decide +kernel
theorem d_M_stop_131 : decode b_M_stop 131 = .ok (.iload_n 1, 1) := by decide +kernel
theorem d_M_stop_132 : decode b_M_stop 132 = .ok (.dup2, 1) := by decide +kernel
theorem d_M_stop_133 : decode b_M_stop 133 = .ok (.iaload, 1) := by decide +kernel
theorem d_M_stop_134 : decode b_M_stop 134 = .ok (.iconst 1, 1) := by decide +kernel
theorem d_M_stop_135 : decode b_M_stop 135 = .ok (.iadd, 1) := by decide +kernel
theorem d_M_stop_136 : decode b_M_stop 136 = .ok (.iastore, 1) := by decide +kernel
theorem d_M_stop_137 : decode b_M_stop 137 = .ok (.iconst 1, 1) := by decide +kernel
theorem d_M_stop_138 : decode b_M_stop 138 = .ok (.ireturn, 1) := by decide +kernel
theorem d_M_slip_0 : decode b_M_slip 0 = .ok (.aload_n 0, 1) := by decide +kernel
theorem d_M_slip_1 : decode b_M_slip 1 = .ok (.iconst 0, 1) := by decide +kernel
theorem d_M_slip_2 : decode b_M_slip 2 = .ok (.putfield 69, 3) := by decide +kernel
theorem d_M_slip_5 : decode b_M_slip 5 = .ok (.aload_n 0, 1) := by decide +kernel
theorem d_M_slip_6 : decode b_M_slip 6 = .ok (.iload_n 1, 1) := by decide +kernel
theorem d_M_slip_7 : decode b_M_slip 7 = .ok (.invokevirtual 145, 3) := by decide +kernel
theorem d_M_slip_10 : decode b_M_slip 10 = .ok (.ifCond .ne 6, 3) := by decide +kernel
theorem d_M_slip_13 : decode b_M_slip 13 = .ok (.bipush (-11), 2) := by decide +kernel
theorem d_M_slip_15 : decode b_M_slip 15 = .ok (.ireturn, 1) := by decide +kernel
theorem d_M_slip_16 : decode b_M_slip 16 = .ok (.lload_n 2, 1) := by decide +kernel
theorem d_M_slip_17 : decode b_M_slip 17 = .ok (.lconst 0, 1) := by decide +kernel
theorem d_M_slip_18 : decode b_M_slip 18 = .ok (.ldc2_w 148, 3) := by decide +kernel
theorem d_M_slip_21 : decode b_M_slip 21 = .ok (.invokestatic 85, 3) := by decide +kernel
theorem d_M_slip_24 : decode b_M_slip 24 = .ok (.ifCond .ne 6, 3) := by decide +kernel
theorem d_M_slip_27 : decode b_M_slip 27 = .ok (.bipush (-12), 2) := by decide +kernel
theorem d_M_slip_29 : decode b_M_slip 29 = .ok (.ireturn, 1) := by decide +kernel
theorem d_M_slip_30 : decode b_M_slip 30 = .ok (.aload_n 0, 1) := by decide +kernel
theorem d_M_slip_31 : decode b_M_slip 31 = .ok (.iload_n 1, 1) := by decide +kernel
theorem d_M_slip_32 : decode b_M_slip 32 = .ok (.invokevirtual 111, 3) := by decide +kernel
theorem d_M_slip_35 : decode b_M_slip 35 = .ok (.ifCond .ne 6, 3) := by decide +kernel
theorem d_M_slip_38 : decode b_M_slip 38 = .ok (.bipush (-13), 2) := by decide +kernel
theorem d_M_slip_40 : decode b_M_slip 40 = .ok (.ireturn, 1) := by decide +kernel
theorem d_M_slip_41 : decode b_M_slip 41 = .ok (.lload_n 2, 1) := by decide +kernel
theorem d_M_slip_42 : decode b_M_slip 42 = .ok (.aload_n 0, 1) := by decide +kernel
theorem d_M_slip_43 : decode b_M_slip 43 = .ok (.getfield 45, 3) := by decide +kernel
theorem d_M_slip_46 : decode b_M_slip 46 = .ok (.iload_n 1, 1) := by decide +kernel
theorem d_M_slip_47 : decode b_M_slip 47 = .ok (.laload, 1) := by decide +kernel
theorem d_M_slip_48 : decode b_M_slip 48 = .ok (.lcmp, 1) := by decide +kernel
theorem d_M_slip_49 : decode b_M_slip 49 = .ok (.ifCond .ge 7, 3) := by decide +kernel
theorem d_M_slip_52 : decode b_M_slip 52 = .ok (.lload_n 2, 1) := by decide +kernel
theorem d_M_slip_53 : decode b_M_slip 53 = .ok (.goto 9, 3) := by decide +kernel
theorem d_M_slip_56 : decode b_M_slip 56 = .ok (.aload_n 0, 1) := by decide +kernel
theorem d_M_slip_57 : decode b_M_slip 57 = .ok (.getfield 45, 3) := by decide +kernel
theorem d_M_slip_60 : decode b_M_slip 60 = .ok (.iload_n 1, 1) := by decide +kernel
theorem d_M_slip_61 : decode b_M_slip 61 = .ok (.laload, 1) := by decide +kernel
theorem d_M_slip_62 : decode b_M_slip 62 = .ok (.lstore 4, 2) := by decide +kernel
theorem d_M_slip_64 : decode b_M_slip 64 = .ok (.aload_n 0, 1) := by decide +kernel
theorem d_M_slip_65 : decode b_M_slip 65 = .ok (.getfield 45, 3) := by decide +kernel
theorem d_M_slip_68 : decode b_M_slip 68 = .ok (.iload_n 1, 1) := by decide +kernel
theorem d_M_slip_69 : decode b_M_slip 69 = .ok (.aload_n 0, 1) := by decide +kernel
theorem d_M_slip_70 : decode b_M_slip 70 = .ok (.getfield 45, 3) := by decide +kernel
theorem d_M_slip_73 : decode b_M_slip 73 = .ok (.iload_n 1, 1) := by decide +kernel
theorem d_M_slip_74 : decode b_M_slip 74 = .ok (.laload, 1) := by decide +kernel
theorem d_M_slip_75 : decode b_M_slip 75 = .ok (.lload 4, 2) := by decide +kernel
theorem d_M_slip_77 : decode b_M_slip 77 = .ok (.lsub, 1) := by decide +kernel
theorem d_M_slip_78 : decode b_M_slip 78 = .ok (.lastore, 1) := by decide +kernel
theorem d_M_slip_79 : decode b_M_slip 79 = .ok (.lload 4, 2) := by decide +kernel
theorem d_M_slip_81 : decode b_M_slip 81 = .ok (.l2i, 1) := by decide +kernel
theorem d_M_slip_82 : decode b_M_slip 82 = .ok (.ireturn, 1) := by decide +kernel
theorem d_M_isItem_0 : decode b_M_isItem 0 = .ok (.iload_n 1, 1) := by decide +kernel
theorem d_M_isItem_1 : decode b_M_isItem 1 = .ok (.ifCond .le 15, 3) := by decide +kernel
theorem d_M_isItem_4 : decode b_M_isItem 4 = .ok (.iload_n 1, 1) := by decide +kernel
theorem d_M_isItem_5 : decode b_M_isItem 5 = .ok (.aload_n 0, 1) := by decide +kernel
theorem d_M_isItem_6 : decode b_M_isItem 6 = .ok (.getfield 76, 3) := by decide +kernel
theorem d_M_isItem_9 : decode b_M_isItem 9 = .ok (.if_icmp .gt 7, 3) := by decide +kernel
theorem d_M_isItem_12 : decode b_M_isItem 12 = .ok (.iconst 1, 1) := by decide +kernel
theorem d_M_isItem_13 : decode b_M_isItem 13 = .ok (.goto 4, 3) := by decide +kernel
theorem d_M_isItem_16 : decode b_M_isItem 16 = .ok (.iconst 0, 1) := by decide +kernel
theorem d_M_isItem_17 : decode b_M_isItem 17 = .ok (.ireturn, 1) := by decide +kernel
theorem d_M_place_0 : decode b_M_place 0 = .ok (.aload_n 0, 1) := by decide +kernel
theorem d_M_place_1 : decode b_M_place 1 = .ok (.iconst 0, 1) := by decide +kernel
theorem d_M_place_2 : decode b_M_place 2 = .ok (.putfield 69, 3) := by decide +kernel
theorem d_M_place_5 : decode b_M_place 5 = .ok (.aload_n 0, 1) := by decide +kernel
theorem d_M_place_6 : decode b_M_place 6 = .ok (.iload_n 1, 1) := by decide +kernel
theorem d_M_place_7 : decode b_M_place 7 = .ok (.invokevirtual 145, 3) := by decide +kernel
theorem d_M_place_10 : decode b_M_place 10 = .ok (.ifCond .ne 7, 3) := by decide +kernel
theorem d_M_place_13 : decode b_M_place 13 = .ok (.ldc2_w 150, 3) := by decide +kernel
theorem d_M_place_16 : decode b_M_place 16 = .ok (.lreturn, 1) := by decide +kernel
theorem d_M_place_17 : decode b_M_place 17 = .ok (.aload_n 0, 1) := by decide +kernel
theorem d_M_place_18 : decode b_M_place 18 = .ok (.lload_n 2, 1) := by decide +kernel
theorem d_M_place_19 : decode b_M_place 19 = .ok (.invokevirtual 99, 3) := by decide +kernel
theorem d_M_place_22 : decode b_M_place 22 = .ok (.ifCond .ne 7, 3) := by decide +kernel
theorem d_M_place_25 : decode b_M_place 25 = .ok (.ldc2_w 152, 3) := by decide +kernel
theorem d_M_place_28 : decode b_M_place 28 = .ok (.lreturn, 1) := by decide +kernel
theorem d_M_place_29 : decode b_M_place 29 = .ok (.aload_n 0, 1) := by decide +kernel
theorem d_M_place_30 : decode b_M_place 30 = .ok (.getfield 48, 3) := by decide +kernel
theorem d_M_place_33 : decode b_M_place 33 = .ok (.iload_n 1, 1) := by decide +kernel
theorem d_M_place_34 : decode b_M_place 34 = .ok (.baload, 1) := by decide +kernel
theorem d_M_place_35 : decode b_M_place 35 = .ok (.ifCond .eq 7, 3) := by decide +kernel
theorem d_M_place_38 : decode b_M_place 38 = .ok (.ldc2_w 154, 3) := by decide +kernel
theorem d_M_place_41 : decode b_M_place 41 = .ok (.lreturn, 1) := by decide +kernel
theorem d_M_place_42 : decode b_M_place 42 = .ok (.aload_n 0, 1) := by decide +kernel
theorem d_M_place_43 : decode b_M_place 43 = .ok (.getfield 39, 3) := by decide +kernel
theorem d_M_place_46 : decode b_M_place 46 = .ok (.iload_n 1, 1) := by decide +kernel
theorem d_M_place_47 : decode b_M_place 47 = .ok (.laload, 1) := by decide +kernel
theorem d_M_place_48 : decode b_M_place 48 = .ok (.lload_n 2, 1) := by decide +kernel
theorem d_M_place_49 : decode b_M_place 49 = .ok (.lcmp, 1) := by decide +kernel
theorem d_M_place_50 : decode b_M_place 50 = .ok (.ifCond .le 7, 3) := by decide +kernel
theorem d_M_place_53 : decode b_M_place 53 = .ok (.ldc2_w 156, 3) := by decide +kernel
theorem d_M_place_56 : decode b_M_place 56 = .ok (.lreturn, 1) := by decide +kernel
theorem d_M_place_57 : decode b_M_place 57 = .ok (.aload_n 0, 1) := by decide +kernel
theorem d_M_place_58 : decode b_M_place 58 = .ok (.getfield 42, 3) := by decide +kernel
theorem d_M_place_61 : decode b_M_place 61 = .ok (.iload_n 1, 1) := by decide +kernel
theorem d_M_place_62 : decode b_M_place 62 = .ok (.iaload, 1) := by decide +kernel
theorem d_M_place_63 : decode b_M_place 63 = .ok (.istore 4, 2) := by decide +kernel
theorem d_M_place_65 : decode b_M_place 65 = .ok (.aload_n 0, 1) := by decide +kernel
theorem d_M_place_66 : decode b_M_place 66 = .ok (.getfield 45, 3) := by decide +kernel
theorem d_M_place_69 : decode b_M_place 69 = .ok (.iload_n 1, 1) := by decide +kernel
theorem d_M_place_70 : decode b_M_place 70 = .ok (.laload, 1) := by decide +kernel
theorem d_M_place_71 : decode b_M_place 71 = .ok (.lstore 5, 2) := by decide +kernel
theorem d_M_place_73 : decode b_M_place 73 = .ok (.aload_n 0, 1) := by decide +kernel
theorem d_M_place_74 : decode b_M_place 74 = .ok (.getfield 39, 3) := by decide +kernel
theorem d_M_place_77 : decode b_M_place 77 = .ok (.iload_n 1, 1) := by decide +kernel
theorem d_M_place_78 : decode b_M_place 78 = .ok (.laload, 1) := by decide +kernel
theorem d_M_place_79 : decode b_M_place 79 = .ok (.aload_n 0, 1) := by decide +kernel
theorem d_M_place_80 : decode b_M_place 80 = .ok (.getfield 79, 3) := by decide +kernel
theorem d_M_place_83 : decode b_M_place 83 = .ok (.lcmp, 1) := by decide +kernel
theorem d_M_place_84 : decode b_M_place 84 = .ok (.ifCond .le 12, 3) := by decide +kernel
theorem d_M_place_87 : decode b_M_place 87 = .ok (.aload_n 0, 1) := by decide +kernel
theorem d_M_place_88 : decode b_M_place 88 = .ok (.getfield 39, 3) := by decide +kernel
theorem d_M_place_91 : decode b_M_place 91 = .ok (.iload_n 1, 1) := by decide +kernel
theorem d_M_place_92 : decode b_M_place 92 = .ok (.laload, 1) := by decide +kernel
theorem d_M_place_93 : decode b_M_place 93 = .ok (.goto 7, 3) := by decide +kernel
theorem d_M_place_96 : decode b_M_place 96 = .ok (.aload_n 0, 1) := by decide +kernel
theorem d_M_place_97 : decode b_M_place 97 = .ok (.getfield 79, 3) := by decide +kernel
theorem d_M_place_100 : decode b_M_place 100 = .ok (.lstore 7, 2) := by decide +kernel
theorem d_M_place_102 : decode b_M_place 102 = .ok (.lload 7, 2) := by decide +kernel
theorem d_M_place_104 : decode b_M_place 104 = .ok (.lload_n 2, 1) := by decide +kernel
theorem d_M_place_105 : decode b_M_place 105 = .ok (.lcmp, 1) := by decide +kernel
theorem d_M_place_106 : decode b_M_place 106 = .ok (.ifCond .ge 69, 3) := by decide +kernel
theorem d_M_place_109 : decode b_M_place 109 = .ok (.lload 5, 2) := by decide +kernel
theorem d_M_place_111 : decode b_M_place 111 = .ok (.aload_n 0, 1) := by decide +kernel
theorem d_M_place_112 : decode b_M_place 112 = .ok (.iload 4, 2) := by decide +kernel
theorem d_M_place_114 : decode b_M_place 114 = .ok (.lload 7, 2) := by decide +kernel
theorem d_M_place_116 : decode b_M_place 116 = .ok (.invokevirtual 128, 3) := by decide +kernel
theorem d_M_place_119 : decode b_M_place 119 = .ok (.ladd, 1) := by decide +kernel
theorem d_M_place_120 : decode b_M_place 120 = .ok (.lstore 5, 2) := by decide +kernel
theorem d_M_place_122 : decode b_M_place 122 = .ok (.lload 5, 2) := by decide +kernel
theorem d_M_place_124 : decode b_M_place 124 = .ok (.aload_n 0, 1) := by decide +kernel
theorem d_M_place_125 : decode b_M_place 125 = .ok (.getfield 7, 3) := by decide +kernel
theorem d_M_place_128 : decode b_M_place 128 = .ok (.iload 4, 2) := by decide +kernel
theorem d_M_place_130 : decode b_M_place 130 = .ok (.laload, 1) := by decide +kernel
theorem d_M_place_131 : decode b_M_place 131 = .ok (.lcmp, 1) := by decide +kernel
theorem d_M_place_132 : decode b_M_place 132 = .ok (.ifCond .lt 34, 3) := by decide +kernel
theorem d_M_place_135 : decode b_M_place 135 = .ok (.lload 5, 2) := by decide +kernel
theorem d_M_place_137 : decode b_M_place 137 = .ok (.aload_n 0, 1) := by decide +kernel
theorem d_M_place_138 : decode b_M_place 138 = .ok (.getfield 7, 3) := by decide +kernel
theorem d_M_place_141 : decode b_M_place 141 = .ok (.iload 4, 2) := by decide +kernel
theorem d_M_place_143 : decode b_M_place 143 = .ok (.laload, 1) := by decide +kernel
theorem d_M_place_144 : decode b_M_place 144 = .ok (.lsub, 1) := by decide +kernel
theorem d_M_place_145 : decode b_M_place 145 = .ok (.lstore 5, 2) := by decide +kernel
theorem d_M_place_147 : decode b_M_place 147 = .ok (.aload_n 0, 1) := by decide +kernel
theorem d_M_place_148 : decode b_M_place 148 = .ok (.getfield 16, 3) := by decide +kernel
theorem d_M_place_151 : decode b_M_place 151 = .ok (.iload 4, 2) := by decide +kernel
theorem d_M_place_153 : decode b_M_place 153 = .ok (.iaload, 1) := by decide +kernel
theorem d_M_place_154 : decode b_M_place 154 = .ok (.istore 4, 2) := by decide +kernel
theorem d_M_place_156 : decode b_M_place 156 = .ok (.iload 4, 2) := by decide +kernel
theorem d_M_place_158 : decode b_M_place 158 = .ok (.iconst (-1), 1) := by decide +kernel
theorem d_M_place_159 : decode b_M_place 159 = .ok (.if_icmp .ne 7, 3) := by decide +kernel
theorem d_M_place_162 : decode b_M_place 162 = .ok (.ldc2_w 154, 3) := by decide +kernel
theorem d_M_place_165 : decode b_M_place 165 = .ok (.lreturn, 1) := by decide +kernel
theorem d_M_place_166 : decode b_M_place 166 = .ok (.lload 7, 2) := by decide +kernel
theorem d_M_place_168 : decode b_M_place 168 = .ok (.lconst 1, 1) := by decide +kernel
theorem d_M_place_169 : decode b_M_place 169 = .ok (.ladd, 1) := by decide +kernel
theorem d_M_place_170 : decode b_M_place 170 = .ok (.lstore 7, 2) := by decide +kernel
theorem d_M_place_172 : decode b_M_place 172 = .ok (.goto (-70), 3) := by decide +kernel
theorem d_M_place_175 : decode b_M_place 175 = .ok (.ldc2_w 148, 3) := by decide +kernel
theorem d_M_place_178 : decode b_M_place 178 = .ok (.iload 4, 2) := by decide +kernel
theorem d_M_place_180 : decode b_M_place 180 = .ok (.i2l, 1) := by decide +kernel
theorem d_M_place_181 : decode b_M_place 181 = .ok (.lmul, 1) := by decide +kernel
theorem d_M_place_182 : decode b_M_place 182 = .ok (.lload 5, 2) := by decide +kernel
theorem d_M_place_184 : decode b_M_place 184 = .ok (.ladd, 1) := by decide +kernel
theorem d_M_place_185 : decode b_M_place 185 = .ok (.lreturn, 1) := by decide +kernel
theorem d_M_gap_0 : decode b_M_gap 0 = .ok (.aload_n 0, 1) := by decide +kernel
theorem d_M_gap_1 : decode b_M_gap 1 = .ok (.iconst 0, 1) := by decide +kernel
theorem d_M_gap_2 : decode b_M_gap 2 = .ok (.putfield 69, 3) := by decide +kernel
theorem d_M_gap_5 : decode b_M_gap 5 = .ok (.aload_n 0, 1) := by decide +kernel
theorem d_M_gap_6 : decode b_M_gap 6 = .ok (.iload_n 1, 1) := by decide +kernel
theorem d_M_gap_7 : decode b_M_gap 7 = .ok (.invokevirtual 145, 3) := by decide +kernel
theorem d_M_gap_10 : decode b_M_gap 10 = .ok (.ifCond .eq 11, 3) := by decide +kernel
theorem d_M_gap_13 : decode b_M_gap 13 = .ok (.aload_n 0, 1) := by decide +kernel
theorem d_M_gap_14 : decode b_M_gap 14 = .ok (.iload_n 2, 1) := by decide +kernel
theorem d_M_gap_15 : decode b_M_gap 15 = .ok (.invokevirtual 145, 3) := by decide +kernel
theorem d_M_gap_18 : decode b_M_gap 18 = .ok (.ifCond .ne 6, 3) := by decide +kernel
theorem d_M_gap_21 : decode b_M_gap 21 = .ok (.bipush (-11), 2) := by decide +kernel
theorem d_M_gap_23 : decode b_M_gap 23 = .ok (.ireturn, 1) := by decide +kernel
theorem d_M_gap_24 : decode b_M_gap 24 = .ok (.iload_n 1, 1) := by decide +kernel
theorem d_M_gap_25 : decode b_M_gap 25 = .ok (.iload_n 2, 1) := by decide +kernel
theorem d_M_gap_26 : decode b_M_gap 26 = .ok (.if_icmp .ne 6, 3) := by decide +kernel
theorem d_M_gap_29 : decode b_M_gap 29 = .ok (.bipush (-12), 2) := by decide +kernel
theorem d_M_gap_31 : decode b_M_gap 31 = .ok (.ireturn, 1) := by decide +kernel
theorem d_M_gap_32 : decode b_M_gap 32 = .ok (.aload_n 0, 1) := by decide +kernel
theorem d_M_gap_33 : decode b_M_gap 33 = .ok (.iload_n 1, 1) := by decide +kernel
theorem d_M_gap_34 : decode b_M_gap 34 = .ok (.invokevirtual 111, 3) := by decide +kernel
theorem d_M_gap_37 : decode b_M_gap 37 = .ok (.ifCond .eq 26, 3) := by decide +kernel
theorem d_M_gap_40 : decode b_M_gap 40 = .ok (.aload_n 0, 1) := by decide +kernel
theorem d_M_gap_41 : decode b_M_gap 41 = .ok (.iload_n 2, 1) := by decide +kernel
theorem d_M_gap_42 : decode b_M_gap 42 = .ok (.invokevirtual 111, 3) := by decide +kernel
theorem d_M_gap_45 : decode b_M_gap 45 = .ok (.ifCond .eq 18, 3) := by decide +kernel
theorem d_M_gap_48 : decode b_M_gap 48 = .ok (.aload_n 0, 1) := by decide +kernel
theorem d_M_gap_49 : decode b_M_gap 49 = .ok (.getfield 42, 3) := by decide +kernel
theorem d_M_gap_52 : decode b_M_gap 52 = .ok (.iload_n 1, 1) := by decide +kernel
theorem d_M_gap_53 : decode b_M_gap 53 = .ok (.iaload, 1) := by decide +kernel
theorem d_M_gap_54 : decode b_M_gap 54 = .ok (.aload_n 0, 1) := by decide +kernel
theorem d_M_gap_55 : decode b_M_gap 55 = .ok (.getfield 42, 3) := by decide +kernel
theorem d_M_gap_58 : decode b_M_gap 58 = .ok (.iload_n 2, 1) := by decide +kernel
theorem d_M_gap_59 : decode b_M_gap 59 = .ok (.iaload, 1) := by decide +kernel
theorem d_M_gap_60 : decode b_M_gap 60 = .ok (.if_icmp .eq 6, 3) := by decide +kernel
theorem d_M_gap_63 : decode b_M_gap 63 = .ok (.bipush (-13), 2) := by decide +kernel
theorem d_M_gap_65 : decode b_M_gap 65 = .ok (.ireturn, 1) := by decide +kernel
theorem d_M_gap_66 : decode b_M_gap 66 = .ok (.aload_n 0, 1) := by decide +kernel
theorem d_M_gap_67 : decode b_M_gap 67 = .ok (.getfield 45, 3) := by decide +kernel
theorem d_M_gap_70 : decode b_M_gap 70 = .ok (.iload_n 2, 1) := by decide +kernel
theorem d_M_gap_71 : decode b_M_gap 71 = .ok (.laload, 1) := by decide +kernel
theorem d_M_gap_72 : decode b_M_gap 72 = .ok (.aload_n 0, 1) := by decide +kernel
theorem d_M_gap_73 : decode b_M_gap 73 = .ok (.getfield 36, 3) := by decide +kernel
theorem d_M_gap_76 : decode b_M_gap 76 = .ok (.iload_n 2, 1) := by decide +kernel
theorem d_M_gap_77 : decode b_M_gap 77 = .ok (.laload, 1) := by decide +kernel
theorem d_M_gap_78 : decode b_M_gap 78 = .ok (.lsub, 1) := by decide +kernel
theorem d_M_gap_79 : decode b_M_gap 79 = .ok (.aload_n 0, 1) := by decide +kernel
theorem d_M_gap_80 : decode b_M_gap 80 = .ok (.getfield 45, 3) := by decide +kernel
theorem d_M_gap_83 : decode b_M_gap 83 = .ok (.iload_n 1, 1) := by decide +kernel
theorem d_M_gap_84 : decode b_M_gap 84 = .ok (.laload, 1) := by decide +kernel
theorem d_M_gap_85 : decode b_M_gap 85 = .ok (.lsub, 1) := by decide +kernel
theorem d_M_gap_86 : decode b_M_gap 86 = .ok (.l2i, 1) := by decide +kernel
theorem d_M_gap_87 : decode b_M_gap 87 = .ok (.ireturn, 1) := by decide +kernel
theorem d_M_count_0 : decode b_M_count 0 = .ok (.aload_n 0, 1) := by decide +kernel
theorem d_M_count_1 : decode b_M_count 1 = .ok (.iconst 0, 1) := by decide +kernel
theorem d_M_count_2 : decode b_M_count 2 = .ok (.putfield 69, 3) := by decide +kernel
theorem d_M_count_5 : decode b_M_count 5 = .ok (.aload_n 0, 1) := by decide +kernel
theorem d_M_count_6 : decode b_M_count 6 = .ok (.iload_n 1, 1) := by decide +kernel
theorem d_M_count_7 : decode b_M_count 7 = .ok (.invokevirtual 95, 3) := by decide +kernel
theorem d_M_count_10 : decode b_M_count 10 = .ok (.ifCond .ne 6, 3) := by decide +kernel
theorem d_M_count_13 : decode b_M_count 13 = .ok (.bipush (-11), 2) := by decide +kernel
theorem d_M_count_15 : decode b_M_count 15 = .ok (.ireturn, 1) := by decide +kernel
theorem d_M_count_16 : decode b_M_count 16 = .ok (.iconst 0, 1) := by decide +kernel
theorem d_M_count_17 : decode b_M_count 17 = .ok (.istore_n 2, 1) := by decide +kernel
theorem d_M_count_18 : decode b_M_count 18 = .ok (.iconst 1, 1) := by decide +kernel
theorem d_M_count_19 : decode b_M_count 19 = .ok (.istore_n 3, 1) := by decide +kernel
theorem d_M_count_20 : decode b_M_count 20 = .ok (.iload_n 3, 1) := by decide +kernel
theorem d_M_count_21 : decode b_M_count 21 = .ok (.aload_n 0, 1) := by decide +kernel
theorem d_M_count_22 : decode b_M_count 22 = .ok (.getfield 76, 3) := by decide +kernel
theorem d_M_count_25 : decode b_M_count 25 = .ok (.if_icmp .gt 35, 3) := by decide +kernel
theorem d_M_count_28 : decode b_M_count 28 = .ok (.aload_n 0, 1) := by decide +kernel
theorem d_M_count_29 : decode b_M_count 29 = .ok (.iload_n 3, 1) := by decide +kernel
theorem d_M_count_30 : decode b_M_count 30 = .ok (.invokevirtual 111, 3) := by decide +kernel
theorem d_M_count_33 : decode b_M_count 33 = .ok (.ifCond .eq 19, 3) := by decide +kernel
theorem d_M_count_36 : decode b_M_count 36 = .ok (.aload_n 0, 1) := by decide +kernel
theorem d_M_count_37 : decode b_M_count 37 = .ok (.getfield 42, 3) := by decide +kernel
theorem d_M_count_40 : decode b_M_count 40 = .ok (.iload_n 3, 1) := by decide +kernel
theorem d_M_count_41 : decode b_M_count 41 = .ok (.iaload, 1) := by decide +kernel
theorem d_M_count_42 : decode b_M_count 42 = .ok (.iload_n 1, 1) := by decide +kernel
theorem d_M_count_43 : decode b_M_count 43 = .ok (.if_icmp .ne 9, 3) := by decide +kernel
theorem d_M_count_46 : decode b_M_count 46 = .ok (.iload_n 2, 1) := by decide +kernel
theorem d_M_count_47 : decode b_M_count 47 = .ok (.iconst 1, 1) := by decide +kernel
theorem d_M_count_48 : decode b_M_count 48 = .ok (.iadd, 1) := by decide +kernel
theorem d_M_count_49 : decode b_M_count 49 = .ok (.goto 4, 3) := by decide +kernel
theorem d_M_count_52 : decode b_M_count 52 = .ok (.iload_n 2, 1) := by decide +kernel
theorem d_M_count_53 : decode b_M_count 53 = .ok (.istore_n 2, 1) := by decide +kernel
theorem d_M_count_54 : decode b_M_count 54 = .ok (.iinc 3 1, 3) := by decide +kernel
theorem d_M_count_57 : decode b_M_count 57 = .ok (.goto (-37), 3) := by decide +kernel
theorem d_M_count_60 : decode b_M_count 60 = .ok (.iload_n 2, 1) := by decide +kernel
theorem d_M_count_61 : decode b_M_count 61 = .ok (.ireturn, 1) := by decide +kernel
theorem d_M_gear_0 : decode b_M_gear 0 = .ok (.aload_n 0, 1) := by decide +kernel
theorem d_M_gear_1 : decode b_M_gear 1 = .ok (.iconst 0, 1) := by decide +kernel
theorem d_M_gear_2 : decode b_M_gear 2 = .ok (.putfield 69, 3) := by decide +kernel
theorem d_M_gear_5 : decode b_M_gear 5 = .ok (.aload_n 0, 1) := by decide +kernel
theorem d_M_gear_6 : decode b_M_gear 6 = .ok (.iload_n 1, 1) := by decide +kernel
theorem d_M_gear_7 : decode b_M_gear 7 = .ok (.invokevirtual 95, 3) := by decide +kernel
theorem d_M_gear_10 : decode b_M_gear 10 = .ok (.ifCond .ne 6, 3) := by decide +kernel
theorem d_M_gear_13 : decode b_M_gear 13 = .ok (.bipush (-11), 2) := by decide +kernel
theorem d_M_gear_15 : decode b_M_gear 15 = .ok (.ireturn, 1) := by decide +kernel
theorem d_M_gear_16 : decode b_M_gear 16 = .ok (.aload_n 0, 1) := by decide +kernel
end
section
theorem d_M_gear_17 : decode b_M_gear 17 = .ok (.lload_n 2, 1) := by decide +kernel
theorem d_M_gear_18 : decode b_M_gear 18 = .ok (.invokevirtual 99, 3) := by decide +kernel
theorem d_M_gear_21 : decode b_M_gear 21 = .ok (.ifCond .eq 12, 3) := by decide +kernel
theorem d_M_gear_24 : decode b_M_gear 24 = .ok (.aload_n 0, 1) := by decide +kernel
theorem d_M_gear_25 : decode b_M_gear 25 = .ok (.iload_n 1, 1) := by decide +kernel
theorem d_M_gear_26 : decode b_M_gear 26 = .ok (.lload_n 2, 1) := by decide +kernel
theorem d_M_gear_27 : decode b_M_gear 27 = .ok (.invokevirtual 107, 3) := by decide +kernel
theorem d_M_gear_30 : decode b_M_gear 30 = .ok (.goto 5, 3) := by decide +kernel
theorem d_M_gear_33 : decode b_M_gear 33 = .ok (.bipush (-12), 2) := by decide +kernel
theorem d_M_gear_35 : decode b_M_gear 35 = .ok (.ireturn, 1) := by decide +kernel
end
section
/-! Generic layer: the owned heap as a partial function g (address to cell), the judgement Go over it. -/
def gf (g : Nat → Option va_E) : Nat → va_E := fun a => (g a).getD (.inr (0, []))
theorem gf_some {g : Nat → Option va_E} {a : Nat} {e : va_E} (h : g a = some e) : gf g a = e := by simp [gf, h]
theorem gf_up (g : Nat → Option va_E) (a : Nat) (e : va_E) : gf (va_up g a (some e)) = va_up (gf g) a e := by
  funext j
  by_cases h : j = a <;> simp [gf, va_up, h]
def PW (D : va_G) (cl : List vw_C) (A : Nat → Prop) (g : Nat → Option va_E) (H : Heap) : Prop :=
  ∃ L : List Nat, (∀ a, a ∈ L ↔ ∃ e, g a = some e) ∧ va_P D cl (va_pl L (gf g)) H ∧ va_D A (va_pl L (gf g))
theorem PW.at {D : va_G} {cl : List vw_C} {A : Nat → Prop} {g : Nat → Option va_E} {H : Heap} {a : Nat} {e : va_E} (h : PW D cl A g H) (ha : g a = some e) :
    ∃ (L : List Nat) (k : Nat), (∀ a, a ∈ L ↔ ∃ e, g a = some e) ∧ va_P D cl (va_pl L (gf g)) H ∧ va_D A (va_pl L (gf g)) ∧ a ∈ L ∧ (va_pl L (gf g))[k]? = some (a, e) := by
  obtain ⟨L, hL, hP, hD⟩ := h
  have hm : a ∈ L := (hL a).mpr ⟨e, ha⟩
  obtain ⟨k, hk⟩ := va_pl_get (X := []) (f := gf g) hm
  rw [List.nil_append, gf_some ha] at hk
  exact ⟨L, k, hL, hP, hD, hm, hk⟩
theorem PW.set {D : va_G} {cl : List vw_C} {A : Nat → Prop} {g : Nat → Option va_E} {H1 : Heap} {a k : Nat} {e e1 : va_E} {L : List Nat} (ha : g a = some e) (hL : ∀ a, a ∈ L ↔ ∃ e, g a = some e) (hD : va_D A (va_pl L (gf g))) (hm : a ∈ L) (hk : (va_pl L (gf g))[k]? = some (a, e)) (hP1 : va_P D cl ((va_pl L (gf g)).set k (a, e1)) H1) (hD1 : va_D A ((va_pl L (gf g)).set k (a, e1))) : PW D cl A (va_up g a (some e1)) H1 := by
  have hs : (va_pl L (gf g)).set k (a, e1) = va_pl L (va_up (gf g) a e1) := by
    have := va_pl_set (A := A) (X := []) (L := L) (f := gf g) (a := a) (k := k) (e := e1) hD hm (by rw [List.nil_append, gf_some ha]; exact hk)
    simpa using this
  rw [hs, ← gf_up] at hP1 hD1
  refine ⟨L, fun b => ?_, hP1, hD1⟩
  by_cases hb : b = a
  · subst hb
    exact ⟨fun _ => ⟨e1, va_up_self _ _ _⟩, fun _ => hm⟩
  · rw [va_up_ne _ _ hb]
    exact hL b
theorem PW.push {D : va_G} {cl : List vw_C} {A : Nat → Prop} {g : Nat → Option va_E} {H1 : Heap} {a : Nat} {e : va_E} {L : List Nat} (hL : ∀ a, a ∈ L ↔ ∃ e, g a = some e) (hP1 : va_P D cl (va_pl L (gf g) ++ [(a, e)]) H1) (hD1 : va_D A (va_pl L (gf g) ++ [(a, e)])) : g a = none ∧ PW D cl A (va_up g a (some e)) H1 := by
  have hf : a ∉ L := va_pl_fresh2 (X := []) (by rw [List.nil_append]; exact hD1)
  have hg : g a = none := by
    cases h : g a with
    | none => rfl
    | some e0 => exact absurd ((hL a).mpr ⟨e0, h⟩) hf
  rw [va_pl_push hf, ← gf_up] at hP1 hD1
  refine ⟨hg, L ++ [a], fun b => ?_, hP1, hD1⟩
  rw [List.mem_append, List.mem_singleton]
  by_cases hb : b = a
  · subst hb
    exact ⟨fun _ => ⟨e, va_up_self _ _ _⟩, fun _ => Or.inr rfl⟩
  · rw [va_up_ne _ _ hb, hL b]
    exact ⟨fun h => h.elim id (fun q => absurd q hb), Or.inl⟩
theorem PW.weaken {D : va_G} {cl : List vw_C} {A B : Nat → Prop} {g : Nat → Option va_E} {H : Heap} (h : PW D cl A g H) (hAB : ∀ q e, g q = some e → A q → B q) : PW D cl B g H := by
  obtain ⟨L, hL, hP, hD⟩ := h
  refine ⟨L, hL, hP, hD.weaken fun k q hk hA => ?_⟩
  obtain ⟨b, hb, rfl⟩ := List.mem_map.mp (List.mem_of_getElem? hk)
  obtain ⟨e, he⟩ := (hL b).mp hb
  exact hAB b e he hA
theorem PW.inA {D : va_G} {cl : List vw_C} {A : Nat → Prop} {g : Nat → Option va_E} {H : Heap} {a : Nat} {e : va_E} (h : PW D cl A g H) (ha : g a = some e) : A a := by
  obtain ⟨L, k, -, -, hD, -, hk⟩ := h.at ha
  exact hD.2 k _ hk
theorem PW.lt {D : va_G} {cl : List vw_C} {A : Nat → Prop} {g : Nat → Option va_E} {H : Heap} {a : Nat} {e : va_E} (h : PW D cl A g H) (ha : g a = some e) : a < H.size := by
  obtain ⟨L, k, -, hP, -, -, hk⟩ := h.at ha
  exact (hP k _ hk).lt
def gA (g : Nat → Option va_E) (sz : Nat) : Nat → Prop := fun q => (∃ e, g q = some e) ∨ sz ≤ q
/-- what the tables say of the classes, the arrays, and the three words that don't go with a call -/
def Kx (D : va_G) (cl : List vw_C) (tys : List (ClassId × FieldType)) (U : State) : Prop := va_K D cl tys U ∧ va_AO "BeltSteps$Belt" U ∧ va_AO "BeltSteps$Item" U ∧ va_Nw (.methodLinkNest "BeltSteps" 30 y_E_init "BeltSteps") U
theorem Kx.warm {D : va_G} {cl : List vw_C} {tys : List (ClassId × FieldType)} {s U : State} (hW : s.WarmedH U.vm) (h : Kx D cl tys s) : Kx D cl tys U := ⟨va_K.moved hW.alike h.1, va_AO.moved hW.alike h.2.1, va_AO.moved hW.alike h.2.2.1, va_Nw.warmM hW h.2.2.2⟩
def Cx (p : Program) (s : State) (m : MethodId) (args : Array Value) (c : Code) (D : va_G) (cl : List vw_C) (A : Nat → Prop) (nL : Nat) (cc : ByteArray) (own : String) (Ts : List Cond) (tys : List (ClassId × FieldType)) : Prop :=
  CallFix p m c cc nL s args Ts own ∧ Kx D cl tys s ∧ ∀ q, s.heap.size ≤ q → A q
def Go (p : Program) (l : Launch) (e : Env) (R : Room) (s : State) (m : MethodId) (args : Array Value) (below : List Frame) (meth : Method) (c : Code) (D : va_G) (cl : List vw_C) (A : Nat → Prop) (nL : Nat) (Q : State → Prop) (g : Nat → Option va_E) (cells slots pc : Nat) (lv : List (Nat × Value)) (st : List Value) : Prop :=
  ∀ (H : Heap) (locs : List Loc) (ls : Array Slot), PW D cl A g H → va_S A s.heap H locs → lv_has ls nL lv → W p l e R s m args below meth c H locs cells slots Q (F0 m pc ls st)
section GO
variable {p : Program} {l : Launch} {e : Env} {R : Room} {s : State} {m : MethodId} {args : Array Value} {below : List Frame} {meth : Method} {c : Code} {D : va_G} {cl : List vw_C} {A : Nat → Prop} {nL : Nat} {Q : State → Prop} {g : Nat → Option va_E} {cells slots pc : Nat} {lv : List (Nat × Value)} {rest : List Value} {cc : ByteArray} {own : String} {Ts : List Cond} {tys : List (ClassId × FieldType)} {a : Nat}

theorem go_iconst (X : Cx p s m args c D cl A nL cc own Ts tys) {n : Int} {v : Int32} (hdg : decode cc pc = .ok (.iconst n, 1)) (hv : Int32.ofInt n = v) (k : Go p l e R s m args below meth c D cl A nL Q g cells slots (pc + 1) lv (.int v :: rest)) : Go p l e R s m args below meth c D cl A nL Q g cells slots pc lv (rest) :=
  fun H locs ls hP hS hl => lv_iconst X.1.1 X.1.2.1 hdg hv (k H locs ls hP hS hl)
theorem go_bipush (X : Cx p s m args c D cl A nL cc own Ts tys) {n : Int} {v : Int32} (hdg : decode cc pc = .ok (.bipush n, 2)) (hv : (Int8.ofInt n).toInt32 = v) (k : Go p l e R s m args below meth c D cl A nL Q g cells slots (pc + 2) lv (.int v :: rest)) : Go p l e R s m args below meth c D cl A nL Q g cells slots pc lv (rest) :=
  fun H locs ls hP hS hl => lv_bipush X.1.1 X.1.2.1 hdg hv (k H locs ls hP hS hl)
theorem go_sipush (X : Cx p s m args c D cl A nL cc own Ts tys) {n : Int} {v : Int32} (hdg : decode cc pc = .ok (.sipush n, 3)) (hv : (Int16.ofInt n).toInt32 = v) (k : Go p l e R s m args below meth c D cl A nL Q g cells slots (pc + 3) lv (.int v :: rest)) : Go p l e R s m args below meth c D cl A nL Q g cells slots pc lv (rest) :=
  fun H locs ls hP hS hl => lv_sipush X.1.1 X.1.2.1 hdg hv (k H locs ls hP hS hl)
theorem go_lconst (X : Cx p s m args c D cl A nL cc own Ts tys) {n : Fin 2} {v : Int64} (hdg : decode cc pc = .ok (.lconst n, 1)) (hv : Int64.ofNat (n : Nat) = v) (k : Go p l e R s m args below meth c D cl A nL Q g cells slots (pc + 1) lv (.long v :: rest)) : Go p l e R s m args below meth c D cl A nL Q g cells slots pc lv (rest) :=
  fun H locs ls hP hS hl => lv_lconst X.1.1 X.1.2.1 hdg hv (k H locs ls hP hS hl)
theorem go_null (X : Cx p s m args c D cl A nL cc own Ts tys)  (hdg : decode cc pc = .ok (.aconst_null, 1)) (k : Go p l e R s m args below meth c D cl A nL Q g cells slots (pc + 1) lv (.null :: rest)) : Go p l e R s m args below meth c D cl A nL Q g cells slots pc lv (rest) :=
  fun H locs ls hP hS hl => lv_null X.1.1 X.1.2.1 hdg (k H locs ls hP hS hl)
theorem go_ldc (X : Cx p s m args c D cl A nL cc own Ts tys) {index : Nat} {v : Int32} (hdg : decode cc pc = .ok (.ldc index, 2)) (hc : Cond.constant own index v ∈ Ts) (k : Go p l e R s m args below meth c D cl A nL Q g cells slots (pc + 2) lv (.int v :: rest)) : Go p l e R s m args below meth c D cl A nL Q g cells slots pc lv (rest) :=
  fun H locs ls hP hS hl => lv_ldc X.1.1 X.1.2.1 X.1.2.2.2.1 (X.1.2.2.2.2 _ hc) hdg (k H locs ls hP hS hl)
theorem go_ldc2 (X : Cx p s m args c D cl A nL cc own Ts tys) {index : Nat} {v : Int64} (hdg : decode cc pc = .ok (.ldc2_w index, 3)) (hc : Cond.constantLong own index v ∈ Ts) (k : Go p l e R s m args below meth c D cl A nL Q g cells slots (pc + 3) lv (.long v :: rest)) : Go p l e R s m args below meth c D cl A nL Q g cells slots pc lv (rest) :=
  fun H locs ls hP hS hl => lv_ldc2 X.1.1 X.1.2.1 X.1.2.2.2.1 (X.1.2.2.2.2 _ hc) hdg (k H locs ls hP hS hl)
theorem go_iload_n (X : Cx p s m args c D cl A nL cc own Ts tys) {j : Fin 4} {i z : Nat} {x : Int32} (hdg : decode cc pc = .ok (.iload_n j, 1)) (hi : (j : Nat) = i) (hk : lv[z]? = some (i, .int x)) (k : Go p l e R s m args below meth c D cl A nL Q g cells slots (pc + 1) lv (.int x :: rest)) : Go p l e R s m args below meth c D cl A nL Q g cells slots pc lv (rest) :=
  fun H locs ls hP hS hl => lv_iload_n X.1.1 X.1.2.1 hdg hi (lv_at hl z hk) (k H locs ls hP hS hl)
theorem go_iload (X : Cx p s m args c D cl A nL cc own Ts tys) {i z : Nat} {x : Int32} (hdg : decode cc pc = .ok (.iload i, 2)) (hk : lv[z]? = some (i, .int x)) (k : Go p l e R s m args below meth c D cl A nL Q g cells slots (pc + 2) lv (.int x :: rest)) : Go p l e R s m args below meth c D cl A nL Q g cells slots pc lv (rest) :=
  fun H locs ls hP hS hl => lv_iload X.1.1 X.1.2.1 hdg (lv_at hl z hk) (k H locs ls hP hS hl)
theorem go_istore_n (X : Cx p s m args c D cl A nL cc own Ts tys) {j : Fin 4} {i : Nat} {x : Int32} {lv' : List (Nat × Value)} (hdg : decode cc pc = .ok (.istore_n j, 1)) (hi : (j : Nat) = i) (hn : i < nL) (hl' : (i, Value.int x) :: lv.filter (fun q => !(q.1 == i) && !(q.1 + 1 == i && q.2.category == 2)) = lv') (k : Go p l e R s m args below meth c D cl A nL Q g cells slots (pc + 1) lv' rest) : Go p l e R s m args below meth c D cl A nL Q g cells slots pc lv (.int x :: rest) :=
  fun H locs ls hP hS hl => lv_istore_n X.1.1 X.1.2.1 hdg hi hl hn hl' (fun ls' hl2 => k H locs ls' hP hS hl2)
theorem go_istore (X : Cx p s m args c D cl A nL cc own Ts tys) {i : Nat} {x : Int32} {lv' : List (Nat × Value)} (hdg : decode cc pc = .ok (.istore i, 2)) (hn : i < nL) (hl' : (i, Value.int x) :: lv.filter (fun q => !(q.1 == i) && !(q.1 + 1 == i && q.2.category == 2)) = lv') (k : Go p l e R s m args below meth c D cl A nL Q g cells slots (pc + 2) lv' rest) : Go p l e R s m args below meth c D cl A nL Q g cells slots pc lv (.int x :: rest) :=
  fun H locs ls hP hS hl => lv_istore X.1.1 X.1.2.1 hdg hl hn hl' (fun ls' hl2 => k H locs ls' hP hS hl2)
theorem go_lload_n (X : Cx p s m args c D cl A nL cc own Ts tys) {j : Fin 4} {i z : Nat} {x : Int64} (hdg : decode cc pc = .ok (.lload_n j, 1)) (hi : (j : Nat) = i) (hk : lv[z]? = some (i, .long x)) (k : Go p l e R s m args below meth c D cl A nL Q g cells slots (pc + 1) lv (.long x :: rest)) : Go p l e R s m args below meth c D cl A nL Q g cells slots pc lv (rest) :=
  fun H locs ls hP hS hl => lv_lload_n X.1.1 X.1.2.1 hdg hi (lv_at hl z hk) (k H locs ls hP hS hl)
theorem go_lload (X : Cx p s m args c D cl A nL cc own Ts tys) {i z : Nat} {x : Int64} (hdg : decode cc pc = .ok (.lload i, 2)) (hk : lv[z]? = some (i, .long x)) (k : Go p l e R s m args below meth c D cl A nL Q g cells slots (pc + 2) lv (.long x :: rest)) : Go p l e R s m args below meth c D cl A nL Q g cells slots pc lv (rest) :=
  fun H locs ls hP hS hl => lv_lload X.1.1 X.1.2.1 hdg (lv_at hl z hk) (k H locs ls hP hS hl)
theorem go_lstore_n (X : Cx p s m args c D cl A nL cc own Ts tys) {j : Fin 4} {i : Nat} {x : Int64} {lv' : List (Nat × Value)} (hdg : decode cc pc = .ok (.lstore_n j, 1)) (hi : (j : Nat) = i) (hn : i + 1 < nL) (hl' : (i, Value.long x) :: lv.filter (fun q => !(q.1 == i) && (!(q.1 == i + 1) && !(q.1 + 1 == i && q.2.category == 2))) = lv') (k : Go p l e R s m args below meth c D cl A nL Q g cells slots (pc + 1) lv' rest) : Go p l e R s m args below meth c D cl A nL Q g cells slots pc lv (.long x :: rest) :=
  fun H locs ls hP hS hl => lv_lstore_n X.1.1 X.1.2.1 hdg hi hl hn hl' (fun ls' hl2 => k H locs ls' hP hS hl2)
theorem go_lstore (X : Cx p s m args c D cl A nL cc own Ts tys) {i : Nat} {x : Int64} {lv' : List (Nat × Value)} (hdg : decode cc pc = .ok (.lstore i, 2)) (hn : i + 1 < nL) (hl' : (i, Value.long x) :: lv.filter (fun q => !(q.1 == i) && (!(q.1 == i + 1) && !(q.1 + 1 == i && q.2.category == 2))) = lv') (k : Go p l e R s m args below meth c D cl A nL Q g cells slots (pc + 2) lv' rest) : Go p l e R s m args below meth c D cl A nL Q g cells slots pc lv (.long x :: rest) :=
  fun H locs ls hP hS hl => lv_lstore X.1.1 X.1.2.1 hdg hl hn hl' (fun ls' hl2 => k H locs ls' hP hS hl2)
theorem go_aload_n (X : Cx p s m args c D cl A nL cc own Ts tys) {j : Fin 4} {i z : Nat} {x : Nat} (hdg : decode cc pc = .ok (.aload_n j, 1)) (hi : (j : Nat) = i) (hk : lv[z]? = some (i, .ref x)) (k : Go p l e R s m args below meth c D cl A nL Q g cells slots (pc + 1) lv (.ref x :: rest)) : Go p l e R s m args below meth c D cl A nL Q g cells slots pc lv (rest) :=
  fun H locs ls hP hS hl => lv_aload_n X.1.1 X.1.2.1 hdg hi (lv_at hl z hk) (k H locs ls hP hS hl)
theorem go_aload (X : Cx p s m args c D cl A nL cc own Ts tys) {i z : Nat} {x : Nat} (hdg : decode cc pc = .ok (.aload i, 2)) (hk : lv[z]? = some (i, .ref x)) (k : Go p l e R s m args below meth c D cl A nL Q g cells slots (pc + 2) lv (.ref x :: rest)) : Go p l e R s m args below meth c D cl A nL Q g cells slots pc lv (rest) :=
  fun H locs ls hP hS hl => lv_aload X.1.1 X.1.2.1 hdg (lv_at hl z hk) (k H locs ls hP hS hl)
theorem go_astore_n (X : Cx p s m args c D cl A nL cc own Ts tys) {j : Fin 4} {i : Nat} {x : Nat} {lv' : List (Nat × Value)} (hdg : decode cc pc = .ok (.astore_n j, 1)) (hi : (j : Nat) = i) (hn : i < nL) (hl' : (i, Value.ref x) :: lv.filter (fun q => !(q.1 == i) && !(q.1 + 1 == i && q.2.category == 2)) = lv') (k : Go p l e R s m args below meth c D cl A nL Q g cells slots (pc + 1) lv' rest) : Go p l e R s m args below meth c D cl A nL Q g cells slots pc lv (.ref x :: rest) :=
  fun H locs ls hP hS hl => lv_astore_n X.1.1 X.1.2.1 hdg hi hl hn hl' (fun ls' hl2 => k H locs ls' hP hS hl2)
theorem go_astore (X : Cx p s m args c D cl A nL cc own Ts tys) {i : Nat} {x : Nat} {lv' : List (Nat × Value)} (hdg : decode cc pc = .ok (.astore i, 2)) (hn : i < nL) (hl' : (i, Value.ref x) :: lv.filter (fun q => !(q.1 == i) && !(q.1 + 1 == i && q.2.category == 2)) = lv') (k : Go p l e R s m args below meth c D cl A nL Q g cells slots (pc + 2) lv' rest) : Go p l e R s m args below meth c D cl A nL Q g cells slots pc lv (.ref x :: rest) :=
  fun H locs ls hP hS hl => lv_astore X.1.1 X.1.2.1 hdg hl hn hl' (fun ls' hl2 => k H locs ls' hP hS hl2)
theorem go_aload_nN (X : Cx p s m args c D cl A nL cc own Ts tys) {j : Fin 4} {i z : Nat} (hdg : decode cc pc = .ok (.aload_n j, 1)) (hi : (j : Nat) = i) (hk : lv[z]? = some (i, .null)) (k : Go p l e R s m args below meth c D cl A nL Q g cells slots (pc + 1) lv (.null :: rest)) : Go p l e R s m args below meth c D cl A nL Q g cells slots pc lv (rest) :=
  fun H locs ls hP hS hl => lv_aload_nN X.1.1 X.1.2.1 hdg hi (lv_at hl z hk) (k H locs ls hP hS hl)
theorem go_aloadN (X : Cx p s m args c D cl A nL cc own Ts tys) {i z : Nat} (hdg : decode cc pc = .ok (.aload i, 2)) (hk : lv[z]? = some (i, .null)) (k : Go p l e R s m args below meth c D cl A nL Q g cells slots (pc + 2) lv (.null :: rest)) : Go p l e R s m args below meth c D cl A nL Q g cells slots pc lv (rest) :=
  fun H locs ls hP hS hl => lv_aloadN X.1.1 X.1.2.1 hdg (lv_at hl z hk) (k H locs ls hP hS hl)
theorem go_astore_nN (X : Cx p s m args c D cl A nL cc own Ts tys) {j : Fin 4} {i : Nat} {lv' : List (Nat × Value)} (hdg : decode cc pc = .ok (.astore_n j, 1)) (hi : (j : Nat) = i) (hn : i < nL) (hl' : (i, Value.null) :: lv.filter (fun q => !(q.1 == i) && !(q.1 + 1 == i && q.2.category == 2)) = lv') (k : Go p l e R s m args below meth c D cl A nL Q g cells slots (pc + 1) lv' rest) : Go p l e R s m args below meth c D cl A nL Q g cells slots pc lv (.null :: rest) :=
  fun H locs ls hP hS hl => lv_astore_nN X.1.1 X.1.2.1 hdg hi hl hn hl' (fun ls' hl2 => k H locs ls' hP hS hl2)
theorem go_astoreN (X : Cx p s m args c D cl A nL cc own Ts tys) {i : Nat} {lv' : List (Nat × Value)} (hdg : decode cc pc = .ok (.astore i, 2)) (hn : i < nL) (hl' : (i, Value.null) :: lv.filter (fun q => !(q.1 == i) && !(q.1 + 1 == i && q.2.category == 2)) = lv') (k : Go p l e R s m args below meth c D cl A nL Q g cells slots (pc + 2) lv' rest) : Go p l e R s m args below meth c D cl A nL Q g cells slots pc lv (.null :: rest) :=
  fun H locs ls hP hS hl => lv_astoreN X.1.1 X.1.2.1 hdg hl hn hl' (fun ls' hl2 => k H locs ls' hP hS hl2)
theorem go_iinc (X : Cx p s m args c D cl A nL cc own Ts tys) {i j : Nat} {n : Int} {x v : Int32} {lv' : List (Nat × Value)} (hdg : decode cc pc = .ok (.iinc i n, 3)) (hk : lv[j]? = some (i, .int x)) (hv : x + Int32.ofInt n = v) (hn : i < nL) (hl' : (i, Value.int v) :: lv.filter (fun q => !(q.1 == i) && !(q.1 + 1 == i && q.2.category == 2)) = lv') (k : Go p l e R s m args below meth c D cl A nL Q g cells slots (pc + 3) lv' rest) : Go p l e R s m args below meth c D cl A nL Q g cells slots pc lv rest :=
  fun H locs ls hP hS hl => lv_iinc X.1.1 X.1.2.1 hdg hl hk hv hn hl' (fun ls' hl2 => k H locs ls' hP hS hl2)
theorem go_iadd (X : Cx p s m args c D cl A nL cc own Ts tys) {x y : Int32} (hdg : decode cc pc = .ok (.iadd, 1)) (k : Go p l e R s m args below meth c D cl A nL Q g cells slots (pc + 1) lv (.int (x + y) :: rest)) : Go p l e R s m args below meth c D cl A nL Q g cells slots pc lv (.int y :: .int x :: rest) :=
  fun H locs ls hP hS hl => lv_iadd X.1.1 X.1.2.1 hdg (k H locs ls hP hS hl)
theorem go_ladd (X : Cx p s m args c D cl A nL cc own Ts tys) {x y : Int64} (hdg : decode cc pc = .ok (.ladd, 1)) (k : Go p l e R s m args below meth c D cl A nL Q g cells slots (pc + 1) lv (.long (x + y) :: rest)) : Go p l e R s m args below meth c D cl A nL Q g cells slots pc lv (.long y :: .long x :: rest) :=
  fun H locs ls hP hS hl => lv_ladd X.1.1 X.1.2.1 hdg (k H locs ls hP hS hl)
theorem go_isub (X : Cx p s m args c D cl A nL cc own Ts tys) {x y : Int32} (hdg : decode cc pc = .ok (.isub, 1)) (k : Go p l e R s m args below meth c D cl A nL Q g cells slots (pc + 1) lv (.int (x - y) :: rest)) : Go p l e R s m args below meth c D cl A nL Q g cells slots pc lv (.int y :: .int x :: rest) :=
  fun H locs ls hP hS hl => lv_isub X.1.1 X.1.2.1 hdg (k H locs ls hP hS hl)
theorem go_lsub (X : Cx p s m args c D cl A nL cc own Ts tys) {x y : Int64} (hdg : decode cc pc = .ok (.lsub, 1)) (k : Go p l e R s m args below meth c D cl A nL Q g cells slots (pc + 1) lv (.long (x - y) :: rest)) : Go p l e R s m args below meth c D cl A nL Q g cells slots pc lv (.long y :: .long x :: rest) :=
  fun H locs ls hP hS hl => lv_lsub X.1.1 X.1.2.1 hdg (k H locs ls hP hS hl)
theorem go_imul (X : Cx p s m args c D cl A nL cc own Ts tys) {x y : Int32} (hdg : decode cc pc = .ok (.imul, 1)) (k : Go p l e R s m args below meth c D cl A nL Q g cells slots (pc + 1) lv (.int (x * y) :: rest)) : Go p l e R s m args below meth c D cl A nL Q g cells slots pc lv (.int y :: .int x :: rest) :=
  fun H locs ls hP hS hl => lv_imul X.1.1 X.1.2.1 hdg (k H locs ls hP hS hl)
theorem go_lmul (X : Cx p s m args c D cl A nL cc own Ts tys) {x y : Int64} (hdg : decode cc pc = .ok (.lmul, 1)) (k : Go p l e R s m args below meth c D cl A nL Q g cells slots (pc + 1) lv (.long (x * y) :: rest)) : Go p l e R s m args below meth c D cl A nL Q g cells slots pc lv (.long y :: .long x :: rest) :=
  fun H locs ls hP hS hl => lv_lmul X.1.1 X.1.2.1 hdg (k H locs ls hP hS hl)
theorem go_iand (X : Cx p s m args c D cl A nL cc own Ts tys) {x y : Int32} (hdg : decode cc pc = .ok (.iand, 1)) (k : Go p l e R s m args below meth c D cl A nL Q g cells slots (pc + 1) lv (.int (x &&& y) :: rest)) : Go p l e R s m args below meth c D cl A nL Q g cells slots pc lv (.int y :: .int x :: rest) :=
  fun H locs ls hP hS hl => lv_iand X.1.1 X.1.2.1 hdg (k H locs ls hP hS hl)
theorem go_land (X : Cx p s m args c D cl A nL cc own Ts tys) {x y : Int64} (hdg : decode cc pc = .ok (.land, 1)) (k : Go p l e R s m args below meth c D cl A nL Q g cells slots (pc + 1) lv (.long (x &&& y) :: rest)) : Go p l e R s m args below meth c D cl A nL Q g cells slots pc lv (.long y :: .long x :: rest) :=
  fun H locs ls hP hS hl => lv_land X.1.1 X.1.2.1 hdg (k H locs ls hP hS hl)
theorem go_ior (X : Cx p s m args c D cl A nL cc own Ts tys) {x y : Int32} (hdg : decode cc pc = .ok (.ior, 1)) (k : Go p l e R s m args below meth c D cl A nL Q g cells slots (pc + 1) lv (.int (x ||| y) :: rest)) : Go p l e R s m args below meth c D cl A nL Q g cells slots pc lv (.int y :: .int x :: rest) :=
  fun H locs ls hP hS hl => lv_ior X.1.1 X.1.2.1 hdg (k H locs ls hP hS hl)
theorem go_lor (X : Cx p s m args c D cl A nL cc own Ts tys) {x y : Int64} (hdg : decode cc pc = .ok (.lor, 1)) (k : Go p l e R s m args below meth c D cl A nL Q g cells slots (pc + 1) lv (.long (x ||| y) :: rest)) : Go p l e R s m args below meth c D cl A nL Q g cells slots pc lv (.long y :: .long x :: rest) :=
  fun H locs ls hP hS hl => lv_lor X.1.1 X.1.2.1 hdg (k H locs ls hP hS hl)
theorem go_ixor (X : Cx p s m args c D cl A nL cc own Ts tys) {x y : Int32} (hdg : decode cc pc = .ok (.ixor, 1)) (k : Go p l e R s m args below meth c D cl A nL Q g cells slots (pc + 1) lv (.int (x ^^^ y) :: rest)) : Go p l e R s m args below meth c D cl A nL Q g cells slots pc lv (.int y :: .int x :: rest) :=
  fun H locs ls hP hS hl => lv_ixor X.1.1 X.1.2.1 hdg (k H locs ls hP hS hl)
theorem go_lxor (X : Cx p s m args c D cl A nL cc own Ts tys) {x y : Int64} (hdg : decode cc pc = .ok (.lxor, 1)) (k : Go p l e R s m args below meth c D cl A nL Q g cells slots (pc + 1) lv (.long (x ^^^ y) :: rest)) : Go p l e R s m args below meth c D cl A nL Q g cells slots pc lv (.long y :: .long x :: rest) :=
  fun H locs ls hP hS hl => lv_lxor X.1.1 X.1.2.1 hdg (k H locs ls hP hS hl)
theorem go_idiv (X : Cx p s m args c D cl A nL cc own Ts tys) {x y : Int32} (hdg : decode cc pc = .ok (.idiv, 1)) (hne : ¬ y = 0) (k : Go p l e R s m args below meth c D cl A nL Q g cells slots (pc + 1) lv (.int (x / y) :: rest)) : Go p l e R s m args below meth c D cl A nL Q g cells slots pc lv (.int y :: .int x :: rest) :=
  fun H locs ls hP hS hl => lv_idiv X.1.1 X.1.2.1 hdg hne (k H locs ls hP hS hl)
theorem go_ldiv (X : Cx p s m args c D cl A nL cc own Ts tys) {x y : Int64} (hdg : decode cc pc = .ok (.ldiv, 1)) (hne : ¬ y = 0) (k : Go p l e R s m args below meth c D cl A nL Q g cells slots (pc + 1) lv (.long (x / y) :: rest)) : Go p l e R s m args below meth c D cl A nL Q g cells slots pc lv (.long y :: .long x :: rest) :=
  fun H locs ls hP hS hl => lv_ldiv X.1.1 X.1.2.1 hdg hne (k H locs ls hP hS hl)
theorem go_i2l (X : Cx p s m args c D cl A nL cc own Ts tys) {x : Int32} {v : Int64} (hdg : decode cc pc = .ok (.i2l, 1)) (hv : x.toInt64 = v) (k : Go p l e R s m args below meth c D cl A nL Q g cells slots (pc + 1) lv (.long v :: rest)) : Go p l e R s m args below meth c D cl A nL Q g cells slots pc lv (.int x :: rest) :=
  fun H locs ls hP hS hl => lv_i2l X.1.1 X.1.2.1 hdg hv (k H locs ls hP hS hl)
theorem go_l2i (X : Cx p s m args c D cl A nL cc own Ts tys) {x : Int64} {v : Int32} (hdg : decode cc pc = .ok (.l2i, 1)) (hv : x.toInt32 = v) (k : Go p l e R s m args below meth c D cl A nL Q g cells slots (pc + 1) lv (.int v :: rest)) : Go p l e R s m args below meth c D cl A nL Q g cells slots pc lv (.long x :: rest) :=
  fun H locs ls hP hS hl => lv_l2i X.1.1 X.1.2.1 hdg hv (k H locs ls hP hS hl)
theorem go_lcmp (X : Cx p s m args c D cl A nL cc own Ts tys) {x y : Int64} (hdg : decode cc pc = .ok (.lcmp, 1)) (k : Go p l e R s m args below meth c D cl A nL Q g cells slots (pc + 1) lv (.int (lg_cmp x y) :: rest)) : Go p l e R s m args below meth c D cl A nL Q g cells slots pc lv (.long y :: .long x :: rest) :=
  fun H locs ls hP hS hl => W.lcmp X.1.1 X.1.2.1 hdg (k H locs ls hP hS hl)
theorem go_dup (X : Cx p s m args c D cl A nL cc own Ts tys) {va : Value} (hdg : decode cc pc = .ok (.dup, 1)) (hva : va.category = 1) (k : Go p l e R s m args below meth c D cl A nL Q g cells slots (pc + 1) lv (va :: va :: rest)) : Go p l e R s m args below meth c D cl A nL Q g cells slots pc lv (va :: rest) :=
  fun H locs ls hP hS hl => lv_dup X.1.1 X.1.2.1 hdg hva (k H locs ls hP hS hl)
theorem go_dup_x1 (X : Cx p s m args c D cl A nL cc own Ts tys) {va vb : Value} (hdg : decode cc pc = .ok (.dup_x1, 1)) (hva : va.category = 1) (hvb : vb.category = 1) (k : Go p l e R s m args below meth c D cl A nL Q g cells slots (pc + 1) lv (va :: vb :: va :: rest)) : Go p l e R s m args below meth c D cl A nL Q g cells slots pc lv (va :: vb :: rest) :=
  fun H locs ls hP hS hl => lv_dup_x1 X.1.1 X.1.2.1 hdg hva hvb (k H locs ls hP hS hl)
theorem go_dup2 (X : Cx p s m args c D cl A nL cc own Ts tys) {va vb : Value} (hdg : decode cc pc = .ok (.dup2, 1)) (hva : va.category = 1) (hvb : vb.category = 1) (k : Go p l e R s m args below meth c D cl A nL Q g cells slots (pc + 1) lv (va :: vb :: va :: vb :: rest)) : Go p l e R s m args below meth c D cl A nL Q g cells slots pc lv (va :: vb :: rest) :=
  fun H locs ls hP hS hl => lv_dup2_11 X.1.1 X.1.2.1 hdg hva hvb (k H locs ls hP hS hl)
theorem go_pop (X : Cx p s m args c D cl A nL cc own Ts tys) {va : Value} (hdg : decode cc pc = .ok (.pop, 1)) (hva : va.category = 1) (k : Go p l e R s m args below meth c D cl A nL Q g cells slots (pc + 1) lv (rest)) : Go p l e R s m args below meth c D cl A nL Q g cells slots pc lv (va :: rest) :=
  fun H locs ls hP hS hl => lv_pop X.1.1 X.1.2.1 hdg hva (k H locs ls hP hS hl)
theorem go_if_eq (X : Cx p s m args c D cl A nL cc own Ts tys) {x : Int32} {off : Int} {tgt : Nat} (hdg : decode cc pc = .ok (.ifCond .eq off, 3)) (ht : (pc : Int) + off = (tgt : Int)) (kt : x = 0 → Go p l e R s m args below meth c D cl A nL Q g cells slots tgt lv rest) (kf : ¬ x = 0 → Go p l e R s m args below meth c D cl A nL Q g cells slots (pc + 3) lv rest) : Go p l e R s m args below meth c D cl A nL Q g cells slots pc lv (.int x :: rest) :=
  fun H locs ls hP hS hl => lv_if_eq X.1.1 X.1.2.1 hdg ht (fun q => kt q H locs ls hP hS hl) (fun q => kf q H locs ls hP hS hl)
theorem go_icmp_eq (X : Cx p s m args c D cl A nL cc own Ts tys) {x y : Int32} {off : Int} {tgt : Nat} (hdg : decode cc pc = .ok (.if_icmp .eq off, 3)) (ht : (pc : Int) + off = (tgt : Int)) (kt : x = y → Go p l e R s m args below meth c D cl A nL Q g cells slots tgt lv rest) (kf : ¬ x = y → Go p l e R s m args below meth c D cl A nL Q g cells slots (pc + 3) lv rest) : Go p l e R s m args below meth c D cl A nL Q g cells slots pc lv (.int y :: .int x :: rest) :=
  fun H locs ls hP hS hl => lv_icmp_eq X.1.1 X.1.2.1 hdg ht (fun q => kt q H locs ls hP hS hl) (fun q => kf q H locs ls hP hS hl)
theorem go_lif_eq (X : Cx p s m args c D cl A nL cc own Ts tys) {x y : Int64} {off : Int} {tgt : Nat} (hd1 : decode cc pc = .ok (.lcmp, 1)) (hdg : decode cc (pc + 1) = .ok (.ifCond .eq off, 3)) (ht : ((pc + 1 : Nat) : Int) + off = (tgt : Int)) (kt : x = y → Go p l e R s m args below meth c D cl A nL Q g cells slots tgt lv rest) (kf : ¬ x = y → Go p l e R s m args below meth c D cl A nL Q g cells slots (pc + 1 + 3) lv rest) : Go p l e R s m args below meth c D cl A nL Q g cells slots pc lv (.long y :: .long x :: rest) :=
  go_lcmp X hd1 (go_if_eq X hdg ht (fun q => kt ((lg_cmp_eq _ _).mp q)) (fun q => kf (fun w => q ((lg_cmp_eq _ _).mpr w))))
theorem go_if_ne (X : Cx p s m args c D cl A nL cc own Ts tys) {x : Int32} {off : Int} {tgt : Nat} (hdg : decode cc pc = .ok (.ifCond .ne off, 3)) (ht : (pc : Int) + off = (tgt : Int)) (kt : ¬ x = 0 → Go p l e R s m args below meth c D cl A nL Q g cells slots tgt lv rest) (kf : x = 0 → Go p l e R s m args below meth c D cl A nL Q g cells slots (pc + 3) lv rest) : Go p l e R s m args below meth c D cl A nL Q g cells slots pc lv (.int x :: rest) :=
  fun H locs ls hP hS hl => lv_if_ne X.1.1 X.1.2.1 hdg ht (fun q => kt q H locs ls hP hS hl) (fun q => kf q H locs ls hP hS hl)
theorem go_icmp_ne (X : Cx p s m args c D cl A nL cc own Ts tys) {x y : Int32} {off : Int} {tgt : Nat} (hdg : decode cc pc = .ok (.if_icmp .ne off, 3)) (ht : (pc : Int) + off = (tgt : Int)) (kt : ¬ x = y → Go p l e R s m args below meth c D cl A nL Q g cells slots tgt lv rest) (kf : x = y → Go p l e R s m args below meth c D cl A nL Q g cells slots (pc + 3) lv rest) : Go p l e R s m args below meth c D cl A nL Q g cells slots pc lv (.int y :: .int x :: rest) :=
  fun H locs ls hP hS hl => lv_icmp_ne X.1.1 X.1.2.1 hdg ht (fun q => kt q H locs ls hP hS hl) (fun q => kf q H locs ls hP hS hl)
theorem go_lif_ne (X : Cx p s m args c D cl A nL cc own Ts tys) {x y : Int64} {off : Int} {tgt : Nat} (hd1 : decode cc pc = .ok (.lcmp, 1)) (hdg : decode cc (pc + 1) = .ok (.ifCond .ne off, 3)) (ht : ((pc + 1 : Nat) : Int) + off = (tgt : Int)) (kt : ¬ x = y → Go p l e R s m args below meth c D cl A nL Q g cells slots tgt lv rest) (kf : x = y → Go p l e R s m args below meth c D cl A nL Q g cells slots (pc + 1 + 3) lv rest) : Go p l e R s m args below meth c D cl A nL Q g cells slots pc lv (.long y :: .long x :: rest) :=
  go_lcmp X hd1 (go_if_ne X hdg ht (fun q => kt (fun w => q ((lg_cmp_eq _ _).mpr w))) (fun q => kf ((lg_cmp_eq _ _).mp q)))
theorem go_if_lt (X : Cx p s m args c D cl A nL cc own Ts tys) {x : Int32} {off : Int} {tgt : Nat} (hdg : decode cc pc = .ok (.ifCond .lt off, 3)) (ht : (pc : Int) + off = (tgt : Int)) (kt : x < 0 → Go p l e R s m args below meth c D cl A nL Q g cells slots tgt lv rest) (kf : ¬ x < 0 → Go p l e R s m args below meth c D cl A nL Q g cells slots (pc + 3) lv rest) : Go p l e R s m args below meth c D cl A nL Q g cells slots pc lv (.int x :: rest) :=
  fun H locs ls hP hS hl => lv_if_lt X.1.1 X.1.2.1 hdg ht (fun q => kt q H locs ls hP hS hl) (fun q => kf q H locs ls hP hS hl)
theorem go_icmp_lt (X : Cx p s m args c D cl A nL cc own Ts tys) {x y : Int32} {off : Int} {tgt : Nat} (hdg : decode cc pc = .ok (.if_icmp .lt off, 3)) (ht : (pc : Int) + off = (tgt : Int)) (kt : x < y → Go p l e R s m args below meth c D cl A nL Q g cells slots tgt lv rest) (kf : ¬ x < y → Go p l e R s m args below meth c D cl A nL Q g cells slots (pc + 3) lv rest) : Go p l e R s m args below meth c D cl A nL Q g cells slots pc lv (.int y :: .int x :: rest) :=
  fun H locs ls hP hS hl => lv_icmp_lt X.1.1 X.1.2.1 hdg ht (fun q => kt q H locs ls hP hS hl) (fun q => kf q H locs ls hP hS hl)
theorem go_lif_lt (X : Cx p s m args c D cl A nL cc own Ts tys) {x y : Int64} {off : Int} {tgt : Nat} (hd1 : decode cc pc = .ok (.lcmp, 1)) (hdg : decode cc (pc + 1) = .ok (.ifCond .lt off, 3)) (ht : ((pc + 1 : Nat) : Int) + off = (tgt : Int)) (kt : x < y → Go p l e R s m args below meth c D cl A nL Q g cells slots tgt lv rest) (kf : ¬ x < y → Go p l e R s m args below meth c D cl A nL Q g cells slots (pc + 1 + 3) lv rest) : Go p l e R s m args below meth c D cl A nL Q g cells slots pc lv (.long y :: .long x :: rest) :=
  go_lcmp X hd1 (go_if_lt X hdg ht (fun q => kt ((lg_cmp_lt _ _).mp q)) (fun q => kf (fun w => q ((lg_cmp_lt _ _).mpr w))))
theorem go_if_ge (X : Cx p s m args c D cl A nL cc own Ts tys) {x : Int32} {off : Int} {tgt : Nat} (hdg : decode cc pc = .ok (.ifCond .ge off, 3)) (ht : (pc : Int) + off = (tgt : Int)) (kt : 0 ≤ x → Go p l e R s m args below meth c D cl A nL Q g cells slots tgt lv rest) (kf : ¬ 0 ≤ x → Go p l e R s m args below meth c D cl A nL Q g cells slots (pc + 3) lv rest) : Go p l e R s m args below meth c D cl A nL Q g cells slots pc lv (.int x :: rest) :=
  fun H locs ls hP hS hl => lv_if_ge X.1.1 X.1.2.1 hdg ht (fun q => kt q H locs ls hP hS hl) (fun q => kf q H locs ls hP hS hl)
theorem go_icmp_ge (X : Cx p s m args c D cl A nL cc own Ts tys) {x y : Int32} {off : Int} {tgt : Nat} (hdg : decode cc pc = .ok (.if_icmp .ge off, 3)) (ht : (pc : Int) + off = (tgt : Int)) (kt : y ≤ x → Go p l e R s m args below meth c D cl A nL Q g cells slots tgt lv rest) (kf : ¬ y ≤ x → Go p l e R s m args below meth c D cl A nL Q g cells slots (pc + 3) lv rest) : Go p l e R s m args below meth c D cl A nL Q g cells slots pc lv (.int y :: .int x :: rest) :=
  fun H locs ls hP hS hl => lv_icmp_ge X.1.1 X.1.2.1 hdg ht (fun q => kt q H locs ls hP hS hl) (fun q => kf q H locs ls hP hS hl)
theorem go_lif_ge (X : Cx p s m args c D cl A nL cc own Ts tys) {x y : Int64} {off : Int} {tgt : Nat} (hd1 : decode cc pc = .ok (.lcmp, 1)) (hdg : decode cc (pc + 1) = .ok (.ifCond .ge off, 3)) (ht : ((pc + 1 : Nat) : Int) + off = (tgt : Int)) (kt : y ≤ x → Go p l e R s m args below meth c D cl A nL Q g cells slots tgt lv rest) (kf : ¬ y ≤ x → Go p l e R s m args below meth c D cl A nL Q g cells slots (pc + 1 + 3) lv rest) : Go p l e R s m args below meth c D cl A nL Q g cells slots pc lv (.long y :: .long x :: rest) :=
  go_lcmp X hd1 (go_if_ge X hdg ht (fun q => kt ((lg_cmp_ge _ _).mp q)) (fun q => kf (fun w => q ((lg_cmp_ge _ _).mpr w))))
theorem go_if_gt (X : Cx p s m args c D cl A nL cc own Ts tys) {x : Int32} {off : Int} {tgt : Nat} (hdg : decode cc pc = .ok (.ifCond .gt off, 3)) (ht : (pc : Int) + off = (tgt : Int)) (kt : 0 < x → Go p l e R s m args below meth c D cl A nL Q g cells slots tgt lv rest) (kf : ¬ 0 < x → Go p l e R s m args below meth c D cl A nL Q g cells slots (pc + 3) lv rest) : Go p l e R s m args below meth c D cl A nL Q g cells slots pc lv (.int x :: rest) :=
  fun H locs ls hP hS hl => lv_if_gt X.1.1 X.1.2.1 hdg ht (fun q => kt q H locs ls hP hS hl) (fun q => kf q H locs ls hP hS hl)
theorem go_icmp_gt (X : Cx p s m args c D cl A nL cc own Ts tys) {x y : Int32} {off : Int} {tgt : Nat} (hdg : decode cc pc = .ok (.if_icmp .gt off, 3)) (ht : (pc : Int) + off = (tgt : Int)) (kt : y < x → Go p l e R s m args below meth c D cl A nL Q g cells slots tgt lv rest) (kf : ¬ y < x → Go p l e R s m args below meth c D cl A nL Q g cells slots (pc + 3) lv rest) : Go p l e R s m args below meth c D cl A nL Q g cells slots pc lv (.int y :: .int x :: rest) :=
  fun H locs ls hP hS hl => lv_icmp_gt X.1.1 X.1.2.1 hdg ht (fun q => kt q H locs ls hP hS hl) (fun q => kf q H locs ls hP hS hl)
theorem go_lif_gt (X : Cx p s m args c D cl A nL cc own Ts tys) {x y : Int64} {off : Int} {tgt : Nat} (hd1 : decode cc pc = .ok (.lcmp, 1)) (hdg : decode cc (pc + 1) = .ok (.ifCond .gt off, 3)) (ht : ((pc + 1 : Nat) : Int) + off = (tgt : Int)) (kt : y < x → Go p l e R s m args below meth c D cl A nL Q g cells slots tgt lv rest) (kf : ¬ y < x → Go p l e R s m args below meth c D cl A nL Q g cells slots (pc + 1 + 3) lv rest) : Go p l e R s m args below meth c D cl A nL Q g cells slots pc lv (.long y :: .long x :: rest) :=
  go_lcmp X hd1 (go_if_gt X hdg ht (fun q => kt ((lg_cmp_gt _ _).mp q)) (fun q => kf (fun w => q ((lg_cmp_gt _ _).mpr w))))
theorem go_if_le (X : Cx p s m args c D cl A nL cc own Ts tys) {x : Int32} {off : Int} {tgt : Nat} (hdg : decode cc pc = .ok (.ifCond .le off, 3)) (ht : (pc : Int) + off = (tgt : Int)) (kt : x ≤ 0 → Go p l e R s m args below meth c D cl A nL Q g cells slots tgt lv rest) (kf : ¬ x ≤ 0 → Go p l e R s m args below meth c D cl A nL Q g cells slots (pc + 3) lv rest) : Go p l e R s m args below meth c D cl A nL Q g cells slots pc lv (.int x :: rest) :=
  fun H locs ls hP hS hl => lv_if_le X.1.1 X.1.2.1 hdg ht (fun q => kt q H locs ls hP hS hl) (fun q => kf q H locs ls hP hS hl)
theorem go_icmp_le (X : Cx p s m args c D cl A nL cc own Ts tys) {x y : Int32} {off : Int} {tgt : Nat} (hdg : decode cc pc = .ok (.if_icmp .le off, 3)) (ht : (pc : Int) + off = (tgt : Int)) (kt : x ≤ y → Go p l e R s m args below meth c D cl A nL Q g cells slots tgt lv rest) (kf : ¬ x ≤ y → Go p l e R s m args below meth c D cl A nL Q g cells slots (pc + 3) lv rest) : Go p l e R s m args below meth c D cl A nL Q g cells slots pc lv (.int y :: .int x :: rest) :=
  fun H locs ls hP hS hl => lv_icmp_le X.1.1 X.1.2.1 hdg ht (fun q => kt q H locs ls hP hS hl) (fun q => kf q H locs ls hP hS hl)
theorem go_lif_le (X : Cx p s m args c D cl A nL cc own Ts tys) {x y : Int64} {off : Int} {tgt : Nat} (hd1 : decode cc pc = .ok (.lcmp, 1)) (hdg : decode cc (pc + 1) = .ok (.ifCond .le off, 3)) (ht : ((pc + 1 : Nat) : Int) + off = (tgt : Int)) (kt : x ≤ y → Go p l e R s m args below meth c D cl A nL Q g cells slots tgt lv rest) (kf : ¬ x ≤ y → Go p l e R s m args below meth c D cl A nL Q g cells slots (pc + 1 + 3) lv rest) : Go p l e R s m args below meth c D cl A nL Q g cells slots pc lv (.long y :: .long x :: rest) :=
  go_lcmp X hd1 (go_if_le X hdg ht (fun q => kt ((lg_cmp_le _ _).mp q)) (fun q => kf (fun w => q ((lg_cmp_le _ _).mpr w))))
theorem go_goto (X : Cx p s m args c D cl A nL cc own Ts tys) {off : Int} {tgt : Nat} (hdg : decode cc pc = .ok (.goto off, 3)) (ht : (pc : Int) + off = (tgt : Int)) (k : Go p l e R s m args below meth c D cl A nL Q g cells slots tgt lv rest) : Go p l e R s m args below meth c D cl A nL Q g cells slots pc lv rest :=
  fun H locs ls hP hS hl => lv_goto X.1.1 X.1.2.1 hdg ht (k H locs ls hP hS hl)
theorem go_ifnonnull (X : Cx p s m args c D cl A nL cc own Ts tys) {x : Nat} {off : Int} {tgt : Nat} (hdg : decode cc pc = .ok (.ifnonnull off, 3)) (ht : (pc : Int) + off = (tgt : Int)) (k : Go p l e R s m args below meth c D cl A nL Q g cells slots tgt lv rest) : Go p l e R s m args below meth c D cl A nL Q g cells slots pc lv (.ref x :: rest) :=
  fun H locs ls hP hS hl => lv_ifnonnull X.1.1 X.1.2.1 hdg ht (k H locs ls hP hS hl)
theorem go_ifnull (X : Cx p s m args c D cl A nL cc own Ts tys) {x : Nat} {off : Int} (hdg : decode cc pc = .ok (.ifnull off, 3)) (k : Go p l e R s m args below meth c D cl A nL Q g cells slots (pc + 3) lv rest) : Go p l e R s m args below meth c D cl A nL Q g cells slots pc lv (.ref x :: rest) :=
  fun H locs ls hP hS hl => lv_ifnull X.1.1 X.1.2.1 hdg (k H locs ls hP hS hl)
theorem go_ifnullN (X : Cx p s m args c D cl A nL cc own Ts tys) {off : Int} {tgt : Nat} (hdg : decode cc pc = .ok (.ifnull off, 3)) (ht : (pc : Int) + off = (tgt : Int)) (k : Go p l e R s m args below meth c D cl A nL Q g cells slots tgt lv rest) : Go p l e R s m args below meth c D cl A nL Q g cells slots pc lv (.null :: rest) :=
  fun H locs ls hP hS hl => lv_ifnullN X.1.1 X.1.2.1 hdg ht (k H locs ls hP hS hl)
theorem go_ifnonnullN (X : Cx p s m args c D cl A nL cc own Ts tys) {off : Int} (hdg : decode cc pc = .ok (.ifnonnull off, 3)) (k : Go p l e R s m args below meth c D cl A nL Q g cells slots (pc + 3) lv rest) : Go p l e R s m args below meth c D cl A nL Q g cells slots pc lv (.null :: rest) :=
  fun H locs ls hP hS hl => lv_ifnonnullN X.1.1 X.1.2.1 hdg (k H locs ls hP hS hl)
theorem go_acmp_eq (X : Cx p s m args c D cl A nL cc own Ts tys) {rx ry : Option Nat} {off : Int} {tgt : Nat} (hdg : decode cc pc = .ok (.if_acmp .eq off, 3)) (ht : (pc : Int) + off = (tgt : Int)) (kt : rx = ry → Go p l e R s m args below meth c D cl A nL Q g cells slots tgt lv rest) (kf : ¬ rx = ry → Go p l e R s m args below meth c D cl A nL Q g cells slots (pc + 3) lv rest) : Go p l e R s m args below meth c D cl A nL Q g cells slots pc lv (va_rf ry :: va_rf rx :: rest) :=
  fun H locs ls hP hS hl => lv_acmp_eq X.1.1 X.1.2.1 hdg ht (fun q => kt q H locs ls hP hS hl) (fun q => kf q H locs ls hP hS hl)
theorem go_acmp_ne (X : Cx p s m args c D cl A nL cc own Ts tys) {rx ry : Option Nat} {off : Int} {tgt : Nat} (hdg : decode cc pc = .ok (.if_acmp .ne off, 3)) (ht : (pc : Int) + off = (tgt : Int)) (kt : ¬ rx = ry → Go p l e R s m args below meth c D cl A nL Q g cells slots tgt lv rest) (kf : rx = ry → Go p l e R s m args below meth c D cl A nL Q g cells slots (pc + 3) lv rest) : Go p l e R s m args below meth c D cl A nL Q g cells slots pc lv (va_rf ry :: va_rf rx :: rest) :=
  fun H locs ls hP hS hl => lv_acmp_ne X.1.1 X.1.2.1 hdg ht (fun q => kt q H locs ls hP hS hl) (fun q => kf q H locs ls hP hS hl)
theorem go_get (X : Cx p s m args c D cl A nL cc own Ts tys) {ref C : String} {T : u_T} {N ci index : Nat} {fs : List Value} (hin : ∀ w ∈ u_ws C T N, w ∈ Ts) (hc : cl[ci]? = some (C, T, N)) (i : Nat) (hi : i < N) (hlink : Cond.fieldLink own index ref (T i).2.1 (T i).2.2.1 ∈ Ts) (hsame : (T i).1 = ref) {v : Value} (hdg : decode cc pc = .ok (.getfield index, 3)) (ha : g a = some (.inr (ci, fs))) (hv : fs[i]? = some v) (k : Go p l e R s m args below meth c D cl A nL Q g cells slots (pc + 3) lv (v :: rest)) : Go p l e R s m args below meth c D cl A nL Q g cells slots pc lv (.ref a :: rest) := by
  intro H locs ls hP hS hl
  obtain ⟨L, q0, hL, hP0, hD, hm, hk⟩ := hP.at ha
  exact va_get X.1.1 X.1.2.1 X.1.2.2.2.2 hin X.1.2.2.2.1 X.2.1.1 hP0 q0 hk hc i hi (X.1.2.2.2.2 _ hlink) (fun x h => by rw [← hsame]; exact h) hv hdg (k H locs ls hP hS hl)
theorem go_put (X : Cx p s m args c D cl A nL cc own Ts tys) {ref C : String} {T : u_T} {N ci index : Nat} {fs : List Value} (hin : ∀ w ∈ u_ws C T N, w ∈ Ts) (hc : cl[ci]? = some (C, T, N)) (i : Nat) (hi : i < N) (hlink : Cond.fieldLink own index ref (T i).2.1 (T i).2.2.1 ∈ Ts) (hsame : (T i).1 = ref) (ty0 : Nat → FieldType) (hty : ∀ k, k < N → parseFieldDescriptor (T k).2.2.1 = some (ty0 k)) (hnm : ∀ a, a < N → ∀ b, b < N → a ≠ b → (T a).2.1 ≠ (T b).2.1) (hfin : (T i).2.2.2 = false) {v : Value} (hn : narrow (ty0 i) v = v) (hfit : fits (ty0 i) v = true) (hdg : decode cc pc = .ok (.putfield index, 3)) (ha : g a = some (.inr (ci, fs))) (hl0 : i < fs.length) (k : Go p l e R s m args below meth c D cl A nL Q (va_up g a (some (.inr (ci, fs.set i v)))) cells slots (pc + 3) lv rest) : Go p l e R s m args below meth c D cl A nL Q g cells slots pc lv (v :: .ref a :: rest) := by
  intro H locs ls hP hS hl
  obtain ⟨L, q0, hL, hP0, hD, hm, hk⟩ := hP.at ha
  exact va_put X.1.1 X.1.2.1 X.1.2.2.2.2 hin ty0 hty hnm X.1.2.2.2.1 X.2.1.1 hP0 hD hS q0 hk hc i hi (X.1.2.2.2.2 _ hlink) (fun x h => by rw [← hsame]; exact h) hfin (hty i hi) hn hfit hl0 hdg (fun H1 locs1 hP1 hD1 hS1 => k H1 locs1 ls (PW.set ha hL hD hm hk hP1 hD1) hS1 hl)
theorem go_putF (X : Cx p s m args c D cl A nL cc own Ts tys) {ref C : String} {T : u_T} {N ci index : Nat} {fs : List Value} (hin : ∀ w ∈ u_ws C T N, w ∈ Ts) (hc : cl[ci]? = some (C, T, N)) (i : Nat) (hi : i < N) (hlink : Cond.fieldLink own index ref (T i).2.1 (T i).2.2.1 ∈ Ts) (hsame : (T i).1 = ref) (ty0 : Nat → FieldType) (hty : ∀ k, k < N → parseFieldDescriptor (T k).2.2.1 = some (ty0 k)) (hnm : ∀ a, a < N → ∀ b, b < N → a ≠ b → (T a).2.1 ≠ (T b).2.1) (hfin : (T i).2.2.2 = true) (hin2 : meth.name = "<init>") (hdecl : (T i).1 = own) {v : Value} (hn : narrow (ty0 i) v = v) (hfit : fits (ty0 i) v = true) (hdg : decode cc pc = .ok (.putfield index, 3)) (ha : g a = some (.inr (ci, fs))) (hl0 : i < fs.length) (k : Go p l e R s m args below meth c D cl A nL Q (va_up g a (some (.inr (ci, fs.set i v)))) cells slots (pc + 3) lv rest) : Go p l e R s m args below meth c D cl A nL Q g cells slots pc lv (v :: .ref a :: rest) := by
  intro H locs ls hP hS hl
  obtain ⟨L, q0, hL, hP0, hD, hm, hk⟩ := hP.at ha
  exact va_putF X.1.1 X.1.2.1 X.1.2.2.2.2 hin ty0 hty hnm X.1.2.2.2.1 X.2.1.1 hP0 hD hS q0 hk hc i hi (X.1.2.2.2.2 _ hlink) (fun x h => by rw [← hsame]; exact h) hfin hin2 hdecl (hty i hi) hn hfit hl0 hdg (fun H1 locs1 hP1 hD1 hS1 => k H1 locs1 ls (PW.set ha hL hD hm hk hP1 hD1) hS1 hl)
theorem go_getN (X : Cx p s m args c D cl A nL cc own Ts tys) {host : String} {ref C : String} {T : u_T} {N ci index : Nat} {fs : List Value} (hin : ∀ w ∈ u_ws C T N, w ∈ Ts) (hc : cl[ci]? = some (C, T, N)) (i : Nat) (hi : i < N) (hlink : Cond.fieldLinkNest own index ref (T i).2.1 (T i).2.2.1 host ∈ Ts) (hsame : (T i).1 = ref) {v : Value} (hdg : decode cc pc = .ok (.getfield index, 3)) (ha : g a = some (.inr (ci, fs))) (hv : fs[i]? = some v) (k : Go p l e R s m args below meth c D cl A nL Q g cells slots (pc + 3) lv (v :: rest)) : Go p l e R s m args below meth c D cl A nL Q g cells slots pc lv (.ref a :: rest) := by
  intro H locs ls hP hS hl
  obtain ⟨L, q0, hL, hP0, hD, hm, hk⟩ := hP.at ha
  exact va_getN X.1.1 X.1.2.1 X.1.2.2.2.2 hin X.1.2.2.2.1 X.2.1.1 hP0 q0 hk hc i hi (X.1.2.2.2.2 _ hlink) (fun x h => by rw [← hsame]; exact h) hv hdg (k H locs ls hP hS hl)
theorem go_putN (X : Cx p s m args c D cl A nL cc own Ts tys) {host : String} {ref C : String} {T : u_T} {N ci index : Nat} {fs : List Value} (hin : ∀ w ∈ u_ws C T N, w ∈ Ts) (hc : cl[ci]? = some (C, T, N)) (i : Nat) (hi : i < N) (hlink : Cond.fieldLinkNest own index ref (T i).2.1 (T i).2.2.1 host ∈ Ts) (hsame : (T i).1 = ref) (ty0 : Nat → FieldType) (hty : ∀ k, k < N → parseFieldDescriptor (T k).2.2.1 = some (ty0 k)) (hnm : ∀ a, a < N → ∀ b, b < N → a ≠ b → (T a).2.1 ≠ (T b).2.1) (hfin : (T i).2.2.2 = false) {v : Value} (hn : narrow (ty0 i) v = v) (hfit : fits (ty0 i) v = true) (hdg : decode cc pc = .ok (.putfield index, 3)) (ha : g a = some (.inr (ci, fs))) (hl0 : i < fs.length) (k : Go p l e R s m args below meth c D cl A nL Q (va_up g a (some (.inr (ci, fs.set i v)))) cells slots (pc + 3) lv rest) : Go p l e R s m args below meth c D cl A nL Q g cells slots pc lv (v :: .ref a :: rest) := by
  intro H locs ls hP hS hl
  obtain ⟨L, q0, hL, hP0, hD, hm, hk⟩ := hP.at ha
  exact va_putN X.1.1 X.1.2.1 X.1.2.2.2.2 hin ty0 hty hnm X.1.2.2.2.1 X.2.1.1 hP0 hD hS q0 hk hc i hi (X.1.2.2.2.2 _ hlink) (fun x h => by rw [← hsame]; exact h) hfin (hty i hi) hn hfit hl0 hdg (fun H1 locs1 hP1 hD1 hS1 => k H1 locs1 ls (PW.set ha hL hD hm hk hP1 hD1) hS1 hl)
theorem go_iald (X : Cx p s m args c D cl A nL cc own Ts tys) (t0 : Nat) {cA : ClassId} {n : Nat} {f : Nat → Int32} {i : Int32} (ht : tys[t0]? = some (cA, .int)) (hdg : decode cc pc = .ok (.iaload, 1)) (ha : g a = some (.inl (cA, n, .inl f))) (hin : vp_in i n) (k : Go p l e R s m args below meth c D cl A nL Q g cells slots (pc + 1) lv (.int (f i.toNatClampNeg) :: rest)) : Go p l e R s m args below meth c D cl A nL Q g cells slots pc lv (.int i :: .ref a :: rest) := by
  intro H locs ls hP hS hl
  obtain ⟨L, q0, hL, hP0, hD, hm, hk⟩ := hP.at ha
  exact va_iald X.1.1 X.1.2.1 X.2.1.1 hP0 q0 t0 hk ht hin hdg (k H locs ls hP hS hl)
theorem go_iast (X : Cx p s m args c D cl A nL cc own Ts tys) (t0 : Nat) {cA : ClassId} {n : Nat} {f : Nat → Int32} {i : Int32} {x : Int32} (ht : tys[t0]? = some (cA, .int)) (hdg : decode cc pc = .ok (.iastore, 1)) (ha : g a = some (.inl (cA, n, .inl f))) (hin : vp_in i n) (k : Go p l e R s m args below meth c D cl A nL Q (va_up g a (some (.inl (cA, n, .inl (upd f i.toNatClampNeg x))))) cells slots (pc + 1) lv rest) : Go p l e R s m args below meth c D cl A nL Q g cells slots pc lv (.int x :: .int i :: .ref a :: rest) := by
  intro H locs ls hP hS hl
  obtain ⟨L, q0, hL, hP0, hD, hm, hk⟩ := hP.at ha
  exact va_iast X.1.1 X.1.2.1 X.2.1.1 hP0 hD hS q0 t0 hk ht hin hdg (fun H1 locs1 hP1 hD1 hS1 => k H1 locs1 ls (PW.set ha hL hD hm hk hP1 hD1) hS1 hl)
theorem go_lald (X : Cx p s m args c D cl A nL cc own Ts tys) (t0 : Nat) {cA : ClassId} {n : Nat} {f : Nat → Int64} {i : Int32} (ht : tys[t0]? = some (cA, .long)) (hdg : decode cc pc = .ok (.laload, 1)) (ha : g a = some (.inl (cA, n, .inr (.inl f)))) (hin : vp_in i n) (k : Go p l e R s m args below meth c D cl A nL Q g cells slots (pc + 1) lv (.long (f i.toNatClampNeg) :: rest)) : Go p l e R s m args below meth c D cl A nL Q g cells slots pc lv (.int i :: .ref a :: rest) := by
  intro H locs ls hP hS hl
  obtain ⟨L, q0, hL, hP0, hD, hm, hk⟩ := hP.at ha
  exact va_lald X.1.1 X.1.2.1 X.2.1.1 hP0 q0 t0 hk ht hin hdg (k H locs ls hP hS hl)
theorem go_last (X : Cx p s m args c D cl A nL cc own Ts tys) (t0 : Nat) {cA : ClassId} {n : Nat} {f : Nat → Int64} {i : Int32} {x : Int64} (ht : tys[t0]? = some (cA, .long)) (hdg : decode cc pc = .ok (.lastore, 1)) (ha : g a = some (.inl (cA, n, .inr (.inl f)))) (hin : vp_in i n) (k : Go p l e R s m args below meth c D cl A nL Q (va_up g a (some (.inl (cA, n, .inr (.inl (vp_updL f i.toNatClampNeg x)))))) cells slots (pc + 1) lv rest) : Go p l e R s m args below meth c D cl A nL Q g cells slots pc lv (.long x :: .int i :: .ref a :: rest) := by
  intro H locs ls hP hS hl
  obtain ⟨L, q0, hL, hP0, hD, hm, hk⟩ := hP.at ha
  exact va_last X.1.1 X.1.2.1 X.2.1.1 hP0 hD hS q0 t0 hk ht hin hdg (fun H1 locs1 hP1 hD1 hS1 => k H1 locs1 ls (PW.set ha hL hD hm hk hP1 hD1) hS1 hl)
theorem go_zald (X : Cx p s m args c D cl A nL cc own Ts tys) (t0 : Nat) {cA : ClassId} {n : Nat} {f : Nat → Int32} {i : Int32} (ht : tys[t0]? = some (cA, .boolean)) (hdg : decode cc pc = .ok (.baload, 1)) (ha : g a = some (.inl (cA, n, .inl f))) (hin : vp_in i n) (k : Go p l e R s m args below meth c D cl A nL Q g cells slots (pc + 1) lv (.int (f i.toNatClampNeg) :: rest)) : Go p l e R s m args below meth c D cl A nL Q g cells slots pc lv (.int i :: .ref a :: rest) := by
  intro H locs ls hP hS hl
  obtain ⟨L, q0, hL, hP0, hD, hm, hk⟩ := hP.at ha
  exact va_zald X.1.1 X.1.2.1 X.2.1.1 hP0 q0 t0 hk ht hin hdg (k H locs ls hP hS hl)
theorem go_zast (X : Cx p s m args c D cl A nL cc own Ts tys) (t0 : Nat) {cA : ClassId} {n : Nat} {f : Nat → Int32} {i : Int32} {x : Int32} (ht : tys[t0]? = some (cA, .boolean)) (hdg : decode cc pc = .ok (.bastore, 1)) (ha : g a = some (.inl (cA, n, .inl f))) (hin : vp_in i n) (k : Go p l e R s m args below meth c D cl A nL Q (va_up g a (some (.inl (cA, n, .inl (upd f i.toNatClampNeg (vp_nar .boolean x)))))) cells slots (pc + 1) lv rest) : Go p l e R s m args below meth c D cl A nL Q g cells slots pc lv (.int x :: .int i :: .ref a :: rest) := by
  intro H locs ls hP hS hl
  obtain ⟨L, q0, hL, hP0, hD, hm, hk⟩ := hP.at ha
  exact va_zast X.1.1 X.1.2.1 X.2.1.1 hP0 hD hS q0 t0 hk ht hin hdg (fun H1 locs1 hP1 hD1 hS1 => k H1 locs1 ls (PW.set ha hL hD hm hk hP1 hD1) hS1 hl)
theorem go_aald (X : Cx p s m args c D cl A nL cc own Ts tys) (t0 : Nat) {cA : ClassId} {C : String} {n : Nat} {f : Nat → Option Nat} {i : Int32} (ht : tys[t0]? = some (cA, .object C)) (hdg : decode cc pc = .ok (.aaload, 1)) (ha : g a = some (.inl (cA, n, .inr (.inr (.inr (.inr f)))))) (hin : vp_in i n) (k : Go p l e R s m args below meth c D cl A nL Q g cells slots (pc + 1) lv (va_rf (f i.toNatClampNeg) :: rest)) : Go p l e R s m args below meth c D cl A nL Q g cells slots pc lv (.int i :: .ref a :: rest) := by
  intro H locs ls hP hS hl
  obtain ⟨L, q0, hL, hP0, hD, hm, hk⟩ := hP.at ha
  exact va_aldq X.1.1 X.1.2.1 X.2.1.1 hP0 q0 t0 hk ht hin hdg (k H locs ls hP hS hl)
theorem go_aast (X : Cx p s m args c D cl A nL cc own Ts tys) (t0 ci : Nat) {cA : ClassId} {r : vw_C} {n v : Nat} {vs : List Value} {f : Nat → Option Nat} {i : Int32} (ht : tys[t0]? = some (cA, .object r.1)) (hc : cl[ci]? = some r) (hdg : decode cc pc = .ok (.aastore, 1)) (ha : g a = some (.inl (cA, n, .inr (.inr (.inr (.inr f)))))) (hv : g v = some (.inr (ci, vs))) (hin : vp_in i n) (k : Go p l e R s m args below meth c D cl A nL Q (va_up g a (some (.inl (cA, n, .inr (.inr (.inr (.inr (va_up f i.toNatClampNeg (some v))))))))) cells slots (pc + 1) lv rest) : Go p l e R s m args below meth c D cl A nL Q g cells slots pc lv (.ref v :: .int i :: .ref a :: rest) := by
  intro H locs ls hP hS hl
  obtain ⟨L, q0, hL, hP0, hD, hm, hk⟩ := hP.at ha
  obtain ⟨qk, hqk⟩ := va_pl_get (X := []) (f := gf g) ((hL v).mpr ⟨_, hv⟩)
  rw [List.nil_append, gf_some hv] at hqk
  exact va_astq X.1.1 X.1.2.1 X.2.1.1 hP0 hD hS q0 t0 qk ci hk ht hqk hc hin hdg (fun H1 locs1 hP1 hD1 hS1 => k H1 locs1 ls (PW.set ha hL hD hm hk hP1 hD1) hS1 hl)
theorem go_alen (X : Cx p s m args c D cl A nL cc own Ts tys) (t0 : Nat) {cA : ClassId} {x : vp_A} {ty : FieldType} {v : Int32} (ht : tys[t0]? = some (cA, ty)) (hdg : decode cc pc = .ok (.arraylength, 1)) (ha : g a = some (.inl (cA, x))) (hv : Int32.ofNat x.1 = v) (k : Go p l e R s m args below meth c D cl A nL Q g cells slots (pc + 1) lv (.int v :: rest)) : Go p l e R s m args below meth c D cl A nL Q g cells slots pc lv (.ref a :: rest) := by
  intro H locs ls hP hS hl
  obtain ⟨L, q0, hL, hP0, hD, hm, hk⟩ := hP.at ha
  exact va_alen X.1.1 X.1.2.1 X.2.1.1 hP0 q0 t0 hk ht hv hdg (k H locs ls hP hS hl)
theorem go_newa (X : Cx p s m args c D cl A nL cc own Ts tys) (t0 : Nat) {atype : ArrayType} {ty : FieldType} {cA : ClassId} {n : Int32} {N : Nat} {a0 : vp_A} (ht : tys[t0]? = some (cA, ty)) (hty : newarray.typeOf atype = ty) (hrf : ∀ C, ty ≠ .object C) (harr : Cond.arrayClass (newarray.typeOf atype) ∈ Ts) (ha0 : ∀ cA : ClassId, vp_cell cA a0 = arrV cA N (fun _ => defaultValue ty)) (hn : ¬ n < 0) (hN : n.toNatClampNeg = N) (hbytes : N * componentBytes ty ≤ 536870912) (hcells : cells + 1 ≤ R.cells) (hslots : slots + N ≤ R.slots) (hdg : decode cc pc = .ok (.newarray atype, 2)) (k : ∀ q : Nat, g q = none → Go p l e R s m args below meth c D cl A nL Q (va_up g q (some (.inl (cA, a0)))) (cells + 1) (slots + N) (pc + 2) lv (.ref q :: rest)) : Go p l e R s m args below meth c D cl A nL Q g cells slots pc lv (.int n :: rest) := by
  intro H locs ls hP hS hl
  obtain ⟨L, hL, hP0, hD⟩ := hP
  refine va_newa X.1.1 X.1.2.1 (X.1.2.2.2.2 _ harr) hty X.2.1.1 hP0 hD hS X.2.2 ha0 hn hN hbytes hcells hslots hdg (fun q cB H1 hK1 hP1 hD1 hS1 => ?_)
  have hB := (hK1.2 tys.length (cB, ty) (by simp)).2
  have hA := (X.2.1.1.2 t0 (cA, ty) ht).2
  have hAB : cB = cA := by
    cases ty with
    | object C => exact absurd rfl (hrf C)
    | _ => exact Option.some.inj (hB.symm.trans hA)
  subst hAB
  obtain ⟨hq, hP2⟩ := PW.push hL hP1 hD1
  exact k q hq H1 locs ls hP2 hS1 hl
theorem go_newq (X : Cx p s m args c D cl A nL cc own Ts tys) (t0 : Nat) {C : String} {index : Nat} {cA : ClassId} {n : Int32} {N : Nat} (ht : tys[t0]? = some (cA, .object C)) (hclink : Cond.classLink own index C ∈ Ts) (hover : va_AO C s) (hn : ¬ n < 0) (hN : n.toNatClampNeg = N) (hbytes : N * 4 ≤ 536870912) (hcells : cells + 1 ≤ R.cells) (hslots : slots + N ≤ R.slots) (hdg : decode cc pc = .ok (.anewarray index, 3)) (k : ∀ q : Nat, g q = none → Go p l e R s m args below meth c D cl A nL Q (va_up g q (some (.inl (cA, N, .inr (.inr (.inr (.inr (fun _ => none)))))))) (cells + 1) (slots + N) (pc + 3) lv (.ref q :: rest)) : Go p l e R s m args below meth c D cl A nL Q g cells slots pc lv (.int n :: rest) := by
  intro H locs ls hP hS hl
  obtain ⟨L, hL, hP0, hD⟩ := hP
  refine va_newq X.1.1 X.1.2.1 X.1.2.2.2.1 (X.1.2.2.2.2 _ hclink) hover X.2.1.1 hP0 hD hS X.2.2 hn hN hbytes hcells hslots hdg (fun q cB H1 hK1 hP1 hD1 hS1 => ?_)
  obtain ⟨_, _, _, _, _, hB⟩ := (hK1.2 tys.length (cB, .object C) (by simp)).2
  obtain ⟨_, _, _, _, _, hA⟩ := (X.2.1.1.2 t0 (cA, .object C) ht).2
  have hAB : cB = cA := Option.some.inj (hB.symm.trans hA)
  subst hAB
  obtain ⟨hq, hP2⟩ := PW.push hL hP1 hD1
  exact k q hq H1 locs ls hP2 hS1 hl
theorem go_new (X : Cx p s m args c D cl A nL cc own Ts tys) {C : String} {T : u_T} {N ci index : Nat} {fs : List Value} (hin : ∀ w ∈ u_ws C T N, w ∈ Ts) (ty0 : Nat → FieldType) (hty : ∀ k, k < N → parseFieldDescriptor (T k).2.2.1 = some (ty0 k)) (hcl : Cond.classLink own index C ∈ Ts) (hinst : Cond.instantiable C N ∈ Ts) (hini : Cond.initialized C ∈ Ts) (hc : cl[ci]? = some (C, T, N)) (hfs : ∀ j, j < N → defaultValue (ty0 j) = vp_V fs j) (hcells : cells + 1 ≤ R.cells) (hslots : slots + N ≤ R.slots) (hdg : decode cc pc = .ok (.new index, 3)) (k : ∀ q : Nat, g q = none → Go p l e R s m args below meth c D cl A nL Q (va_up g q (some (.inr (ci, fs)))) (cells + 1) (slots + N) (pc + 3) lv (.ref q :: rest)) : Go p l e R s m args below meth c D cl A nL Q g cells slots pc lv rest := by
  intro H locs ls hP hS hl
  obtain ⟨L, hL, hP0, hD⟩ := hP
  refine va_new X.1.1 X.1.2.1 X.1.2.2.2.2 hin ty0 hty X.1.2.2.2.1 (X.1.2.2.2.2 _ hcl) (X.1.2.2.2.2 _ hinst) (X.1.2.2.2.2 _ hini) X.2.1.1 hP0 hD hS X.2.2 hc hfs hcells hslots hdg (fun q H1 hP1 hD1 hS1 => ?_)
  obtain ⟨hq, hP2⟩ := PW.push hL hP1 hD1
  exact k q hq H1 locs ls hP2 hS1 hl
theorem go_widen {k n : Nat} (h1 : cells ≤ k) (h2 : slots ≤ n) (kk : Go p l e R s m args below meth c D cl A nL Q g k n pc lv rest) : Go p l e R s m args below meth c D cl A nL Q g cells slots pc lv rest :=
  fun H locs ls hP hS hl => W.widen h1 h2 (kk H locs ls hP hS hl)
theorem go_sub {lv' : List (Nat × Value)} (ks : List Nat) (h : lv_pick lv ks = lv') (k : Go p l e R s m args below meth c D cl A nL Q g cells slots pc lv' rest) : Go p l e R s m args below meth c D cl A nL Q g cells slots pc lv rest :=
  fun H locs ls hP hS hl => k H locs ls hP hS (lv_sub hl ks h)
theorem go_objInit (X : Cx p s m args c D cl A nL cc own Ts tys) {idx : Nat} (hlink : Cond.methodLink own idx objectInit ∈ Ts) (hinst : Cond.instanceMethod objectInit ∈ Ts) (hcode : Cond.code objectInit ⟨#[0xb1]⟩ 1 none ∈ Ts) (hd : decode cc pc = .ok (.invokespecial idx, 3)) (hframes : 1 ≤ R.frames) (hlocals : (rest.map fun v => v.category).sum + 12 ≤ R.locals) (k : Go p l e R s m args below meth c D cl A nL Q g cells slots (pc + 3) lv rest) : Go p l e R s m args below meth c D cl A nL Q g cells slots pc lv (.ref a :: rest) := by
  intro H locs ls hP hS hl
  refine W.objInit X.1.1 X.1.2.1 X.1.2.2.2.1 (X.1.2.2.2.2 _ hlink) (X.1.2.2.2.2 _ hinst) (X.1.2.2.2.2 _ hcode) rfl (by rw [X.1.2.2.1]; exact hl.1) rfl hd hframes (by show 2 * 0 + _ + 12 ≤ _; omega) ?_
  exact k H locs ls hP hS hl
def CtI (l : Launch) (D : va_G) (cl : List vw_C) (tys : List (ClassId × FieldType)) (y : MethodName) (b : ByteArray) (nM : Nat) (ret : Option FieldType) (rm : Room) (av : List Value) (g : Nat → Option va_E) (post : Int32 → (Nat → Option va_E) → Prop) : Prop :=
  ∀ sz : Nat, Met l y (Cond.code y b nM ret :: gtb) rm (va_Pc av (fun U => U.heap.size = sz ∧ PW D cl (fun _ => True) g U.heap ∧ Kx D cl tys U)) (va_Qi post (fun (g' : Nat → Option va_E) (t : State) => PW D cl (gA g sz) g' t.heap) (gA g sz)) rm.cells rm.slots (gA g sz)
def CtL (l : Launch) (D : va_G) (cl : List vw_C) (tys : List (ClassId × FieldType)) (y : MethodName) (b : ByteArray) (nM : Nat) (ret : Option FieldType) (rm : Room) (av : List Value) (g : Nat → Option va_E) (post : Int64 → (Nat → Option va_E) → Prop) : Prop :=
  ∀ sz : Nat, Met l y (Cond.code y b nM ret :: gtb) rm (va_Pc av (fun U => U.heap.size = sz ∧ PW D cl (fun _ => True) g U.heap ∧ Kx D cl tys U)) (va_Ql post (fun (g' : Nat → Option va_E) (t : State) => PW D cl (gA g sz) g' t.heap) (gA g sz)) rm.cells rm.slots (gA g sz)
def CtV (l : Launch) (D : va_G) (cl : List vw_C) (tys : List (ClassId × FieldType)) (y : MethodName) (b : ByteArray) (nM : Nat) (ret : Option FieldType) (rm : Room) (av : List Value) (g : Nat → Option va_E) (post : (Nat → Option va_E) → Prop) : Prop :=
  ∀ sz : Nat, Met l y (Cond.code y b nM ret :: gtb) rm (va_Pc av (fun U => U.heap.size = sz ∧ PW D cl (fun _ => True) g U.heap ∧ Kx D cl tys U)) (va_Qv post (fun (g' : Nat → Option va_E) (t : State) => PW D cl (gA g sz) g' t.heap) (gA g sz)) rm.cells rm.slots (gA g sz)
def CtR (l : Launch) (D : va_G) (cl : List vw_C) (tys : List (ClassId × FieldType)) (y : MethodName) (b : ByteArray) (nM : Nat) (ret : Option FieldType) (rm : Room) (av : List Value) (g : Nat → Option va_E) (post : Option Nat → (Nat → Option va_E) → Prop) : Prop :=
  ∀ sz : Nat, Met l y (Cond.code y b nM ret :: gtb) rm (va_Pc av (fun U => U.heap.size = sz ∧ PW D cl (fun _ => True) g U.heap ∧ Kx D cl tys U)) (va_Qq post (fun (g' : Nat → Option va_E) (t : State) => PW D cl (gA g sz) g' t.heap) (gA g sz)) rm.cells rm.slots (gA g sz)
theorem gA_in {s : State} {H : Heap} {locs : List Loc} {D : va_G} {cl : List vw_C} {A : Nat → Prop} {g : Nat → Option va_E} (hP : PW D cl A g H) (hS : va_S A s.heap H locs) (hA : ∀ q, s.heap.size ≤ q → A q) : ∀ q, gA g H.size q → A q := by
  intro q h
  rcases h with ⟨e, h⟩ | h
  · exact hP.inA h
  · exact hA q (Nat.le_trans hS.1 h)
theorem pw_blind {D : va_G} {cl : List vw_C} {tys : List (ClassId × FieldType)} {g : Nat → Option va_E} {av : List Value} {sz : Nat} : FrameBlind (va_Pc av (fun U => U.heap.size = sz ∧ PW D cl (fun _ => True) g U.heap ∧ Kx D cl tys U)) := by
  intro b U f mk q
  obtain ⟨q0, q1, qP, qK⟩ := q
  exact ⟨q0, q1, qP, ⟨va_K.moved (u := U) (U := U.calling f mk b) (Vm.Alike.refl U.vm) qK.1, va_AO.moved (u := U) (U := U.calling f mk b) (Vm.Alike.refl U.vm) qK.2.1, va_AO.moved (u := U) (U := U.calling f mk b) (Vm.Alike.refl U.vm) qK.2.2.1, va_Nw.same rfl rfl qK.2.2.2⟩⟩
theorem pw_preS {s : State} {H : Heap} {D : va_G} {cl : List vw_C} {tys : List (ClassId × FieldType)} {A : Nat → Prop} {g : Nat → Option va_E} {av : List Value} (hK : Kx D cl tys s) (hP : PW D cl A g H) : PreS s H (va_Pc av (fun U => U.heap.size = H.size ∧ PW D cl (fun _ => True) g U.heap ∧ Kx D cl tys U)) av :=
  ⟨pw_blind, fun U hU hW => ⟨rfl, by rw [hU], by rw [hU]; exact hP.weaken (fun _ _ _ _ => trivial), hK.warm hW⟩⟩
theorem pw_preV {s : State} {H : Heap} {D : va_G} {cl : List vw_C} {tys : List (ClassId × FieldType)} {A : Nat → Prop} {g : Nat → Option va_E} {As : List Value} {b ci : Nat} {r : vw_C} {fs : List Value} (hK : Kx D cl tys s) (hP : PW D cl A g H) (hc : cl[ci]? = some r) (hb : g b = some (.inr (ci, fs))) : PreV s H r.1 b (va_Pc (.ref b :: As) (fun U => U.heap.size = H.size ∧ PW D cl (fun _ => True) g U.heap ∧ Kx D cl tys U)) As := by
  obtain ⟨L, q0, hL, hP0, hD, hm, hk⟩ := hP.at hb
  exact ⟨pw_blind, va_recv hK.1 hP0 hc hk, fun U hU hW => ⟨rfl, by rw [hU], by rw [hU]; exact hP.weaken (fun _ _ _ _ => trivial), hK.warm hW⟩⟩
theorem gd_all {w : Cond} (h : w ∈ gtb) : w ∈ gtb ∧ ((w.onTables && w.keeps) = true ∨ ∃ ty, w = .arrayClass ty) := ⟨h, good_of_word (List.mem_filter.mp h).2⟩
/-- what a method's call needs of the tables, once for each method -/
def CwV (C : String) (y : MethodName) (b : ByteArray) (nM : Nat) (ret : Option FieldType) (n : Nat) : Prop := Cond.instanceMethod y ∈ gtb ∧ Cond.selects C y y ∈ gtb ∧ Cond.initialized C ∈ gtb ∧ Cond.code y b nM ret ∈ gtb ∧ y.cls = C ∧ y.cls ≠ "java/lang/invoke/MethodHandle" ∧ y.cls ≠ "java/lang/invoke/VarHandle" ∧ (parseMethodDescriptor y.desc).map (fun d => d.parameters.length) = some n
def CwS (own : String) (y : MethodName) (b : ByteArray) (nM : Nat) (ret : Option FieldType) (n : Nat) : Prop := Cond.static y ∈ gtb ∧ Cond.initialized own ∈ gtb ∧ Cond.code y b nM ret ∈ gtb ∧ y.cls = own ∧ y.cls ≠ "java/lang/invoke/MethodHandle" ∧ y.cls ≠ "java/lang/invoke/VarHandle" ∧ (parseMethodDescriptor y.desc).map (fun d => d.parameters.length) = some n
def CwI (y : MethodName) (b : ByteArray) (nM : Nat) (n : Nat) : Prop := Cond.instanceMethod y ∈ gtb ∧ Cond.initialized y.cls ∈ gtb ∧ Cond.code y b nM none ∈ gtb ∧ y.name = "<init>" ∧ y.cls ≠ "java/lang/invoke/MethodHandle" ∧ y.cls ≠ "java/lang/invoke/VarHandle" ∧ (parseMethodDescriptor y.desc).map (fun d => d.parameters.length) = some n
theorem gd_code {y : MethodName} {b : ByteArray} {nM : Nat} {ret : Option FieldType} (hc : Cond.code y b nM ret ∈ gtb) : GoodIn gtb (Cond.code y b nM ret :: gtb) := fun w hw => gd_all ((List.mem_cons.mp hw).elim (fun h => by rw [h]; exact hc) id)
theorem gd_V {own C : String} {index : Nat} {y : MethodName} {b : ByteArray} {nM n : Nat} {ret : Option FieldType} (hml : Cond.methodLink own index y ∈ gtb) (h : CwV C y b nM ret n) : GoodIn gtb (wsV own index C y (Cond.code y b nM ret :: gtb)) := by
  intro w hw
  obtain ⟨h1, h2, h3, h4, -⟩ := h
  refine gd_all ?_
  rcases List.mem_append.mp hw with hw | hw
  · simp only [List.mem_cons, List.not_mem_nil, or_false] at hw
    rcases hw with rfl | rfl | rfl | rfl <;> assumption
  · exact (List.mem_cons.mp hw).elim (fun h => by rw [h]; exact h4) id
theorem gd_S {own : String} {index : Nat} {y : MethodName} {b : ByteArray} {nM n : Nat} {ret : Option FieldType} (hml : Cond.methodLink own index y ∈ gtb) (h : CwS own y b nM ret n) : GoodIn gtb (wsS own index y (Cond.code y b nM ret :: gtb)) := by
  intro w hw
  obtain ⟨h1, h2, h3, -⟩ := h
  refine gd_all ?_
  rcases List.mem_append.mp hw with hw | hw
  · simp only [List.mem_cons, List.not_mem_nil, or_false] at hw
    rcases hw with rfl | rfl | rfl <;> assumption
  · exact (List.mem_cons.mp hw).elim (fun h => by rw [h]; exact h3) id
theorem go_callI_V (X : Cx p s m args c D cl A nL cc own gtb tys) {y : MethodName} {bytes : ByteArray} {nM n index : Nat} {ret : Option FieldType} {rm : Room} {b ci : Nat} {r0 : vw_C} {fs : List Value} {As st0 : List Value} {post : Int32 → (Nat → Option va_E) → Prop} (hM : CtI l D cl tys y bytes nM ret rm (.ref b :: As) g post) (hml : Cond.methodLink own index y ∈ gtb) (hw : CwV r0.1 y bytes nM ret n) (hR : rm.frames + 1 ≤ R.frames ∧ 8 + (nM + 11) + rm.locals ≤ R.locals) (hc : cl[ci]? = some r0) (hb : g b = some (.inr (ci, fs))) (hn : As.length = n) (hst : st0 = As.reverse ++ .ref b :: rest) (hW : (rest.map fun v => v.category).sum ≤ 8) (hdg : decode cc pc = .ok (.invokevirtual index, 3)) (hf : cells + rm.cells ≤ R.cells ∧ slots + rm.slots ≤ R.slots) (k : ∀ (r : Int32) (g' : Nat → Option va_E), post r g' → Go p l e R s m args below meth c D cl A nL Q g' (cells + rm.cells) (slots + rm.slots) (pc + 3) lv (.int r :: rest)) : Go p l e R s m args below meth c D cl A nL Q g cells slots pc lv st0 := by
  intro H locs ls hP hS hl
  refine va_calli (va_runV (rest := rest) X.1 (hM H.size) (cwV n X.1.2.2.2.2 (gd_V hml hw) rfl rfl rfl hw.2.2.2.2 hR) (pw_preV X.2.1 hP hc hb) rfl hn hl.1 hst (lv_room hW) hdg hf) hS (fun q _ h => gA_in hP hS X.2.2 q h) (fun q h => gA_in hP hS X.2.2 q h) (fun r u t H1 locs1 ht hvm hw hB hz1 hk1 hS1 => ?_)
  have hP1 : PW D cl (gA g H.size) u t.heap := hB
  rw [ht] at hP1
  exact k r u hw H1 locs1 ls (hP1.weaken (fun q _ _ h => gA_in hP hS X.2.2 q h)) hS1 hl
theorem go_callI_S (X : Cx p s m args c D cl A nL cc own gtb tys) {y : MethodName} {bytes : ByteArray} {nM n index : Nat} {ret : Option FieldType} {rm : Room} {As st0 : List Value} {post : Int32 → (Nat → Option va_E) → Prop} (hM : CtI l D cl tys y bytes nM ret rm As g post) (hml : Cond.methodLink own index y ∈ gtb) (hw : CwS own y bytes nM ret n) (hR : rm.frames + 1 ≤ R.frames ∧ 8 + (nM + 11) + rm.locals ≤ R.locals)  (hn : As.length = n) (hst : st0 = As.reverse ++ rest) (hW : (rest.map fun v => v.category).sum ≤ 8) (hdg : decode cc pc = .ok (.invokestatic index, 3)) (hf : cells + rm.cells ≤ R.cells ∧ slots + rm.slots ≤ R.slots) (k : ∀ (r : Int32) (g' : Nat → Option va_E), post r g' → Go p l e R s m args below meth c D cl A nL Q g' (cells + rm.cells) (slots + rm.slots) (pc + 3) lv (.int r :: rest)) : Go p l e R s m args below meth c D cl A nL Q g cells slots pc lv st0 := by
  intro H locs ls hP hS hl
  refine va_calli (va_runS (rest := rest) X.1 (hM H.size) (cwS n X.1.2.2.2.2 (gd_S hml hw) rfl rfl rfl hw.2.2.2 hR) (pw_preS X.2.1 hP) rfl hn hl.1 hst (lv_room hW) hdg hf) hS (fun q _ h => gA_in hP hS X.2.2 q h) (fun q h => gA_in hP hS X.2.2 q h) (fun r u t H1 locs1 ht hvm hw hB hz1 hk1 hS1 => ?_)
  have hP1 : PW D cl (gA g H.size) u t.heap := hB
  rw [ht] at hP1
  exact k r u hw H1 locs1 ls (hP1.weaken (fun q _ _ h => gA_in hP hS X.2.2 q h)) hS1 hl
theorem go_callL_V (X : Cx p s m args c D cl A nL cc own gtb tys) {y : MethodName} {bytes : ByteArray} {nM n index : Nat} {ret : Option FieldType} {rm : Room} {b ci : Nat} {r0 : vw_C} {fs : List Value} {As st0 : List Value} {post : Int64 → (Nat → Option va_E) → Prop} (hM : CtL l D cl tys y bytes nM ret rm (.ref b :: As) g post) (hml : Cond.methodLink own index y ∈ gtb) (hw : CwV r0.1 y bytes nM ret n) (hR : rm.frames + 1 ≤ R.frames ∧ 8 + (nM + 11) + rm.locals ≤ R.locals) (hc : cl[ci]? = some r0) (hb : g b = some (.inr (ci, fs))) (hn : As.length = n) (hst : st0 = As.reverse ++ .ref b :: rest) (hW : (rest.map fun v => v.category).sum ≤ 8) (hdg : decode cc pc = .ok (.invokevirtual index, 3)) (hf : cells + rm.cells ≤ R.cells ∧ slots + rm.slots ≤ R.slots) (k : ∀ (r : Int64) (g' : Nat → Option va_E), post r g' → Go p l e R s m args below meth c D cl A nL Q g' (cells + rm.cells) (slots + rm.slots) (pc + 3) lv (.long r :: rest)) : Go p l e R s m args below meth c D cl A nL Q g cells slots pc lv st0 := by
  intro H locs ls hP hS hl
  refine va_calll (va_runV (rest := rest) X.1 (hM H.size) (cwV n X.1.2.2.2.2 (gd_V hml hw) rfl rfl rfl hw.2.2.2.2 hR) (pw_preV X.2.1 hP hc hb) rfl hn hl.1 hst (lv_room hW) hdg hf) hS (fun q _ h => gA_in hP hS X.2.2 q h) (fun q h => gA_in hP hS X.2.2 q h) (fun r u t H1 locs1 ht hvm hw hB hz1 hk1 hS1 => ?_)
  have hP1 : PW D cl (gA g H.size) u t.heap := hB
  rw [ht] at hP1
  exact k r u hw H1 locs1 ls (hP1.weaken (fun q _ _ h => gA_in hP hS X.2.2 q h)) hS1 hl
theorem go_callL_S (X : Cx p s m args c D cl A nL cc own gtb tys) {y : MethodName} {bytes : ByteArray} {nM n index : Nat} {ret : Option FieldType} {rm : Room} {As st0 : List Value} {post : Int64 → (Nat → Option va_E) → Prop} (hM : CtL l D cl tys y bytes nM ret rm As g post) (hml : Cond.methodLink own index y ∈ gtb) (hw : CwS own y bytes nM ret n) (hR : rm.frames + 1 ≤ R.frames ∧ 8 + (nM + 11) + rm.locals ≤ R.locals)  (hn : As.length = n) (hst : st0 = As.reverse ++ rest) (hW : (rest.map fun v => v.category).sum ≤ 8) (hdg : decode cc pc = .ok (.invokestatic index, 3)) (hf : cells + rm.cells ≤ R.cells ∧ slots + rm.slots ≤ R.slots) (k : ∀ (r : Int64) (g' : Nat → Option va_E), post r g' → Go p l e R s m args below meth c D cl A nL Q g' (cells + rm.cells) (slots + rm.slots) (pc + 3) lv (.long r :: rest)) : Go p l e R s m args below meth c D cl A nL Q g cells slots pc lv st0 := by
  intro H locs ls hP hS hl
  refine va_calll (va_runS (rest := rest) X.1 (hM H.size) (cwS n X.1.2.2.2.2 (gd_S hml hw) rfl rfl rfl hw.2.2.2 hR) (pw_preS X.2.1 hP) rfl hn hl.1 hst (lv_room hW) hdg hf) hS (fun q _ h => gA_in hP hS X.2.2 q h) (fun q h => gA_in hP hS X.2.2 q h) (fun r u t H1 locs1 ht hvm hw hB hz1 hk1 hS1 => ?_)
  have hP1 : PW D cl (gA g H.size) u t.heap := hB
  rw [ht] at hP1
  exact k r u hw H1 locs1 ls (hP1.weaken (fun q _ _ h => gA_in hP hS X.2.2 q h)) hS1 hl
theorem go_callV_V (X : Cx p s m args c D cl A nL cc own gtb tys) {y : MethodName} {bytes : ByteArray} {nM n index : Nat} {ret : Option FieldType} {rm : Room} {b ci : Nat} {r0 : vw_C} {fs : List Value} {As st0 : List Value} {post : (Nat → Option va_E) → Prop} (hM : CtV l D cl tys y bytes nM ret rm (.ref b :: As) g post) (hml : Cond.methodLink own index y ∈ gtb) (hw : CwV r0.1 y bytes nM ret n) (hR : rm.frames + 1 ≤ R.frames ∧ 8 + (nM + 11) + rm.locals ≤ R.locals) (hc : cl[ci]? = some r0) (hb : g b = some (.inr (ci, fs))) (hn : As.length = n) (hst : st0 = As.reverse ++ .ref b :: rest) (hW : (rest.map fun v => v.category).sum ≤ 8) (hdg : decode cc pc = .ok (.invokevirtual index, 3)) (hf : cells + rm.cells ≤ R.cells ∧ slots + rm.slots ≤ R.slots) (k : ∀ (g' : Nat → Option va_E), post g' → Go p l e R s m args below meth c D cl A nL Q g' (cells + rm.cells) (slots + rm.slots) (pc + 3) lv (rest)) : Go p l e R s m args below meth c D cl A nL Q g cells slots pc lv st0 := by
  intro H locs ls hP hS hl
  refine va_callv (va_runV (rest := rest) X.1 (hM H.size) (cwV n X.1.2.2.2.2 (gd_V hml hw) rfl rfl rfl hw.2.2.2.2 hR) (pw_preV X.2.1 hP hc hb) rfl hn hl.1 hst (lv_room hW) hdg hf) hS (fun q _ h => gA_in hP hS X.2.2 q h) (fun q h => gA_in hP hS X.2.2 q h) (fun u t H1 locs1 ht hvm hw hB hz1 hk1 hS1 => ?_)
  have hP1 : PW D cl (gA g H.size) u t.heap := hB
  rw [ht] at hP1
  exact k u hw H1 locs1 ls (hP1.weaken (fun q _ _ h => gA_in hP hS X.2.2 q h)) hS1 hl
theorem go_callV_S (X : Cx p s m args c D cl A nL cc own gtb tys) {y : MethodName} {bytes : ByteArray} {nM n index : Nat} {ret : Option FieldType} {rm : Room} {As st0 : List Value} {post : (Nat → Option va_E) → Prop} (hM : CtV l D cl tys y bytes nM ret rm As g post) (hml : Cond.methodLink own index y ∈ gtb) (hw : CwS own y bytes nM ret n) (hR : rm.frames + 1 ≤ R.frames ∧ 8 + (nM + 11) + rm.locals ≤ R.locals)  (hn : As.length = n) (hst : st0 = As.reverse ++ rest) (hW : (rest.map fun v => v.category).sum ≤ 8) (hdg : decode cc pc = .ok (.invokestatic index, 3)) (hf : cells + rm.cells ≤ R.cells ∧ slots + rm.slots ≤ R.slots) (k : ∀ (g' : Nat → Option va_E), post g' → Go p l e R s m args below meth c D cl A nL Q g' (cells + rm.cells) (slots + rm.slots) (pc + 3) lv (rest)) : Go p l e R s m args below meth c D cl A nL Q g cells slots pc lv st0 := by
  intro H locs ls hP hS hl
  refine va_callv (va_runS (rest := rest) X.1 (hM H.size) (cwS n X.1.2.2.2.2 (gd_S hml hw) rfl rfl rfl hw.2.2.2 hR) (pw_preS X.2.1 hP) rfl hn hl.1 hst (lv_room hW) hdg hf) hS (fun q _ h => gA_in hP hS X.2.2 q h) (fun q h => gA_in hP hS X.2.2 q h) (fun u t H1 locs1 ht hvm hw hB hz1 hk1 hS1 => ?_)
  have hP1 : PW D cl (gA g H.size) u t.heap := hB
  rw [ht] at hP1
  exact k u hw H1 locs1 ls (hP1.weaken (fun q _ _ h => gA_in hP hS X.2.2 q h)) hS1 hl
theorem go_callV_I (X : Cx p s m args c D cl A nL cc own gtb tys) {y : MethodName} {bytes : ByteArray} {nM n index : Nat} {rm : Room} {b : Nat} {As st0 : List Value} {post : (Nat → Option va_E) → Prop} (hM : CtV l D cl tys y bytes nM none rm (.ref b :: As) g post) (hml : Cond.methodLink own index y ∈ gtb) (hw : CwI y bytes nM n) (hR : rm.frames + 1 ≤ R.frames ∧ 8 + (nM + 11) + rm.locals ≤ R.locals)  (hn : As.length = n) (hst : st0 = As.reverse ++ .ref b :: rest) (hW : (rest.map fun v => v.category).sum ≤ 8) (hdg : decode cc pc = .ok (.invokespecial index, 3)) (hf : cells + rm.cells ≤ R.cells ∧ slots + rm.slots ≤ R.slots) (k : ∀ (g' : Nat → Option va_E), post g' → Go p l e R s m args below meth c D cl A nL Q g' (cells + rm.cells) (slots + rm.slots) (pc + 3) lv (rest)) : Go p l e R s m args below meth c D cl A nL Q g cells slots pc lv st0 := by
  intro H locs ls hP hS hl
  refine va_callv (va_runI (rest := rest) X.1 (hM H.size) (cwI n X.1.2.2.2.2 (gd_code hw.2.2.1) rfl rfl rfl (X.1.2.2.2.2 _ hw.2.1) (X.1.2.2.2.2 _ hml) (X.1.2.2.2.2 _ hw.1) hw.2.2.2.1 hw.2.2.2.2 hR) (pw_preS X.2.1 hP) rfl hn hl.1 hst (lv_room hW) hdg hf) hS (fun q _ h => gA_in hP hS X.2.2 q h) (fun q h => gA_in hP hS X.2.2 q h) (fun u t H1 locs1 ht hvm hw hB hz1 hk1 hS1 => ?_)
  have hP1 : PW D cl (gA g H.size) u t.heap := hB
  rw [ht] at hP1
  exact k u hw H1 locs1 ls (hP1.weaken (fun q _ _ h => gA_in hP hS X.2.2 q h)) hS1 hl
theorem go_callV_IN (X : Cx p s m args c D cl A nL cc own gtb tys) {y : MethodName} {bytes : ByteArray} {nM n index : Nat} {rm : Room} {b : Nat} {As st0 : List Value} {post : (Nat → Option va_E) → Prop} (hM : CtV l D cl tys y bytes nM none rm (.ref b :: As) g post) {host : String} (hml : va_Nw (.methodLinkNest own index y host) s) (hw : CwI y bytes nM n) (hR : rm.frames + 1 ≤ R.frames ∧ 8 + (nM + 11) + rm.locals ≤ R.locals)  (hn : As.length = n) (hst : st0 = As.reverse ++ .ref b :: rest) (hW : (rest.map fun v => v.category).sum ≤ 8) (hdg : decode cc pc = .ok (.invokespecial index, 3)) (hf : cells + rm.cells ≤ R.cells ∧ slots + rm.slots ≤ R.slots) (k : ∀ (g' : Nat → Option va_E), post g' → Go p l e R s m args below meth c D cl A nL Q g' (cells + rm.cells) (slots + rm.slots) (pc + 3) lv (rest)) : Go p l e R s m args below meth c D cl A nL Q g cells slots pc lv st0 := by
  intro H locs ls hP hS hl
  refine va_callv (va_runIN (rest := rest) X.1 (hM H.size) (⟨va_cnB n X.1.2.2.2.2 (gd_code hw.2.2.1) rfl rfl rfl hml (X.1.2.2.2.2 _ hw.2.1) hw.2.2.2.2 hR, hw.2.2.2.1, X.1.2.2.2.2 _ hw.1⟩) (pw_preS X.2.1 hP) rfl hn hl.1 hst (lv_room hW) hdg hf) hS (fun q _ h => gA_in hP hS X.2.2 q h) (fun q h => gA_in hP hS X.2.2 q h) (fun u t H1 locs1 ht hvm hw hB hz1 hk1 hS1 => ?_)
  have hP1 : PW D cl (gA g H.size) u t.heap := hB
  rw [ht] at hP1
  exact k u hw H1 locs1 ls (hP1.weaken (fun q _ _ h => gA_in hP hS X.2.2 q h)) hS1 hl
theorem go_callR_V (X : Cx p s m args c D cl A nL cc own gtb tys) {y : MethodName} {bytes : ByteArray} {nM n index : Nat} {ret : Option FieldType} {rm : Room} {b ci : Nat} {r0 : vw_C} {fs : List Value} {As st0 : List Value} {post : Option Nat → (Nat → Option va_E) → Prop} (hM : CtR l D cl tys y bytes nM ret rm (.ref b :: As) g post) (hml : Cond.methodLink own index y ∈ gtb) (hw : CwV r0.1 y bytes nM ret n) (hR : rm.frames + 1 ≤ R.frames ∧ 8 + (nM + 11) + rm.locals ≤ R.locals) (hc : cl[ci]? = some r0) (hb : g b = some (.inr (ci, fs))) (hn : As.length = n) (hst : st0 = As.reverse ++ .ref b :: rest) (hW : (rest.map fun v => v.category).sum ≤ 8) (hdg : decode cc pc = .ok (.invokevirtual index, 3)) (hf : cells + rm.cells ≤ R.cells ∧ slots + rm.slots ≤ R.slots) (k : ∀ (r : Option Nat) (g' : Nat → Option va_E), post r g' → Go p l e R s m args below meth c D cl A nL Q g' (cells + rm.cells) (slots + rm.slots) (pc + 3) lv (va_rf r :: rest)) : Go p l e R s m args below meth c D cl A nL Q g cells slots pc lv st0 := by
  intro H locs ls hP hS hl
  refine va_callq (va_runV (rest := rest) X.1 (hM H.size) (cwV n X.1.2.2.2.2 (gd_V hml hw) rfl rfl rfl hw.2.2.2.2 hR) (pw_preV X.2.1 hP hc hb) rfl hn hl.1 hst (lv_room hW) hdg hf) hS (fun q _ h => gA_in hP hS X.2.2 q h) (fun q h => gA_in hP hS X.2.2 q h) (fun r u t H1 locs1 ht hvm hw hB hz1 hk1 hS1 => ?_)
  have hP1 : PW D cl (gA g H.size) u t.heap := hB
  rw [ht] at hP1
  exact k r u hw H1 locs1 ls (hP1.weaken (fun q _ _ h => gA_in hP hS X.2.2 q h)) hS1 hl
theorem go_callR_S (X : Cx p s m args c D cl A nL cc own gtb tys) {y : MethodName} {bytes : ByteArray} {nM n index : Nat} {ret : Option FieldType} {rm : Room} {As st0 : List Value} {post : Option Nat → (Nat → Option va_E) → Prop} (hM : CtR l D cl tys y bytes nM ret rm As g post) (hml : Cond.methodLink own index y ∈ gtb) (hw : CwS own y bytes nM ret n) (hR : rm.frames + 1 ≤ R.frames ∧ 8 + (nM + 11) + rm.locals ≤ R.locals)  (hn : As.length = n) (hst : st0 = As.reverse ++ rest) (hW : (rest.map fun v => v.category).sum ≤ 8) (hdg : decode cc pc = .ok (.invokestatic index, 3)) (hf : cells + rm.cells ≤ R.cells ∧ slots + rm.slots ≤ R.slots) (k : ∀ (r : Option Nat) (g' : Nat → Option va_E), post r g' → Go p l e R s m args below meth c D cl A nL Q g' (cells + rm.cells) (slots + rm.slots) (pc + 3) lv (va_rf r :: rest)) : Go p l e R s m args below meth c D cl A nL Q g cells slots pc lv st0 := by
  intro H locs ls hP hS hl
  refine va_callq (va_runS (rest := rest) X.1 (hM H.size) (cwS n X.1.2.2.2.2 (gd_S hml hw) rfl rfl rfl hw.2.2.2 hR) (pw_preS X.2.1 hP) rfl hn hl.1 hst (lv_room hW) hdg hf) hS (fun q _ h => gA_in hP hS X.2.2 q h) (fun q h => gA_in hP hS X.2.2 q h) (fun r u t H1 locs1 ht hvm hw hB hz1 hk1 hS1 => ?_)
  have hP1 : PW D cl (gA g H.size) u t.heap := hB
  rw [ht] at hP1
  exact k r u hw H1 locs1 ls (hP1.weaken (fun q _ _ h => gA_in hP hS X.2.2 q h)) hS1 hl
theorem go_retI {g0 : Nat → Option va_E} (X : Cx p s m args c D cl (gA g0 s.heap.size) nL cc own Ts tys) {v : Int32} {post : Int32 → (Nat → Option va_E) → Prop} (hr : meth.sig.returnType = some .int) (hlocks : meth.locks = false) (hdg : decode cc pc = .ok (.ireturn, 1)) (hp : post v g) : Go p l e R s m args below meth c D cl (gA g0 s.heap.size) nL (MQ below (va_Qi post (fun (g' : Nat → Option va_E) (t : State) => PW D cl (gA g0 s.heap.size) g' t.heap) (gA g0 s.heap.size)) args s cells slots (gA g0 s.heap.size)) g cells slots pc lv [.int v] :=
  fun H locs ls hP hS hl => W.iret X.1.1 X.1.2.1 hr (fun t ht hW => ⟨⟨v, g, rfl, hp, by show PW _ _ _ _ t.heap; rw [ht]; exact hP⟩, hS.F ht⟩) hS.2.2 hdg hlocks
theorem go_retZ {g0 : Nat → Option va_E} (X : Cx p s m args c D cl (gA g0 s.heap.size) nL cc own Ts tys) {v : Int32} {ty : FieldType} {post : Int32 → (Nat → Option va_E) → Prop} (hr : meth.sig.returnType = some ty) (hn : narrow ty (.int v) = .int v) (hlocks : meth.locks = false) (hdg : decode cc pc = .ok (.ireturn, 1)) (hp : post v g) : Go p l e R s m args below meth c D cl (gA g0 s.heap.size) nL (MQ below (va_Qi post (fun (g' : Nat → Option va_E) (t : State) => PW D cl (gA g0 s.heap.size) g' t.heap) (gA g0 s.heap.size)) args s cells slots (gA g0 s.heap.size)) g cells slots pc lv [.int v] :=
  fun H locs ls hP hS hl => W.zret X.1.1 X.1.2.1 hr hn (fun t ht hW => ⟨⟨v, g, rfl, hp, by show PW _ _ _ _ t.heap; rw [ht]; exact hP⟩, hS.F ht⟩) hS.2.2 hdg hlocks
theorem go_retL {g0 : Nat → Option va_E} (X : Cx p s m args c D cl (gA g0 s.heap.size) nL cc own Ts tys) {v : Int64} {post : Int64 → (Nat → Option va_E) → Prop} (hr : meth.sig.returnType = some .long) (hlocks : meth.locks = false) (hdg : decode cc pc = .ok (.lreturn, 1)) (hp : post v g) : Go p l e R s m args below meth c D cl (gA g0 s.heap.size) nL (MQ below (va_Ql post (fun (g' : Nat → Option va_E) (t : State) => PW D cl (gA g0 s.heap.size) g' t.heap) (gA g0 s.heap.size)) args s cells slots (gA g0 s.heap.size)) g cells slots pc lv [.long v] :=
  fun H locs ls hP hS hl => W.lret X.1.1 X.1.2.1 hr (fun t ht hW => ⟨⟨v, g, rfl, hp, by show PW _ _ _ _ t.heap; rw [ht]; exact hP⟩, hS.F ht⟩) hS.2.2 hdg hlocks
theorem go_retV {g0 : Nat → Option va_E} (X : Cx p s m args c D cl (gA g0 s.heap.size) nL cc own Ts tys) {post : (Nat → Option va_E) → Prop} (hr : meth.sig.returnType = none) (hlocks : meth.locks = false) (hdg : decode cc pc = .ok (.return_, 1)) (hp : post g) : Go p l e R s m args below meth c D cl (gA g0 s.heap.size) nL (MQ below (va_Qv post (fun (g' : Nat → Option va_E) (t : State) => PW D cl (gA g0 s.heap.size) g' t.heap) (gA g0 s.heap.size)) args s cells slots (gA g0 s.heap.size)) g cells slots pc lv [] :=
  fun H locs ls hP hS hl => W.vret X.1.1 X.1.2.1 hr (fun t ht hW => ⟨⟨g, rfl, hp, by show PW _ _ _ _ t.heap; rw [ht]; exact hP⟩, hS.F ht⟩) hS.2.2 hdg hlocks
theorem go_retR {g0 : Nat → Option va_E} (X : Cx p s m args c D cl (gA g0 s.heap.size) nL cc own Ts tys) {v : Option Nat} {rc : String} {post : Option Nat → (Nat → Option va_E) → Prop} (hr : meth.sig.returnType = some (.object rc)) (hlocks : meth.locks = false) (hdg : decode cc pc = .ok (.areturn, 1)) (hp : post v g) : Go p l e R s m args below meth c D cl (gA g0 s.heap.size) nL (MQ below (va_Qq post (fun (g' : Nat → Option va_E) (t : State) => PW D cl (gA g0 s.heap.size) g' t.heap) (gA g0 s.heap.size)) args s cells slots (gA g0 s.heap.size)) g cells slots pc lv [va_rf v] :=
  fun H locs ls hP hS hl => W.aret X.1.1 X.1.2.1 hr (Or.inl ⟨rc, rfl⟩) (by cases v with | none => exact Or.inl rfl | some b => exact Or.inr ⟨b, rfl⟩) (fun t ht hW => ⟨⟨v, g, rfl, hp, by show PW _ _ _ _ t.heap; rw [ht]; exact hP⟩, hS.F ht⟩) hS.2.2 hdg hlocks
theorem CtI.of {l : Launch} {D : va_G} {cl : List vw_C} {tys : List (ClassId × FieldType)} {y : MethodName} {rm : Room} {av : List Value} {g : Nat → Option va_E} {post : Int32 → (Nat → Option va_E) → Prop} {cc : ByteArray} {nL : Nat} {ret : Option FieldType} (hy : plainName y.cls = true) (hlen : (lg_sl av).length ≤ nL)
    (body : ∀ (p : Program) (e : Env) (s : State) (m : MethodId) (below : List Frame) (meth : Method) (c : Code), Cx p s m av.toArray c D cl (gA g s.heap.size) nL cc y.cls gtb tys → meth.sig.returnType = ret → meth.locks = false → meth.name = y.name →
      Go p l e rm s m av.toArray below meth c D cl (gA g s.heap.size) nL (MQ below (va_Qi post (fun (g' : Nat → Option va_E) (t : State) => PW D cl (gA g s.heap.size) g' t.heap) (gA g s.heap.size)) av.toArray s rm.cells rm.slots (gA g s.heap.size)) g 0 0 0 (lv_args 0 av) []) : CtI l D cl tys y cc nL ret rm av g post := by
  intro sz
  refine Met.ofW (cc := cc) (maxL := nL) (ret := ret) hy rfl ?_
  intro p e s m args below meth c s₁ B hml hv
  obtain ⟨rfl, hsz, hP, hK⟩ := hv
  subst hsz
  have hts := atoms_spec (ws := Cond.code y cc nL ret :: gtb) B.pre
  have hown : s.vm.findClass y.cls = some m.cls := findClass_of_methodNamed B.named
  have hl := lv_entry av (n := nL) hlen
  rw [lg_entry_eq]
  exact body p e s m below meth c ⟨⟨B.exec, B.bytes, hml, hown, fun w h => hts w (List.mem_cons_of_mem _ h)⟩, hK, fun q h => Or.inr h⟩ B.returns B.notSynchronized (name_of_methodNamed B.named B.method).1 s.heap [] _ (hP.weaken (fun q e h _ => Or.inl ⟨e, h⟩)) va_S.rf hl
theorem CtL.of {l : Launch} {D : va_G} {cl : List vw_C} {tys : List (ClassId × FieldType)} {y : MethodName} {rm : Room} {av : List Value} {g : Nat → Option va_E} {post : Int64 → (Nat → Option va_E) → Prop} {cc : ByteArray} {nL : Nat} {ret : Option FieldType} (hy : plainName y.cls = true) (hlen : (lg_sl av).length ≤ nL)
    (body : ∀ (p : Program) (e : Env) (s : State) (m : MethodId) (below : List Frame) (meth : Method) (c : Code), Cx p s m av.toArray c D cl (gA g s.heap.size) nL cc y.cls gtb tys → meth.sig.returnType = ret → meth.locks = false → meth.name = y.name →
      Go p l e rm s m av.toArray below meth c D cl (gA g s.heap.size) nL (MQ below (va_Ql post (fun (g' : Nat → Option va_E) (t : State) => PW D cl (gA g s.heap.size) g' t.heap) (gA g s.heap.size)) av.toArray s rm.cells rm.slots (gA g s.heap.size)) g 0 0 0 (lv_args 0 av) []) : CtL l D cl tys y cc nL ret rm av g post := by
  intro sz
  refine Met.ofW (cc := cc) (maxL := nL) (ret := ret) hy rfl ?_
  intro p e s m args below meth c s₁ B hml hv
  obtain ⟨rfl, hsz, hP, hK⟩ := hv
  subst hsz
  have hts := atoms_spec (ws := Cond.code y cc nL ret :: gtb) B.pre
  have hown : s.vm.findClass y.cls = some m.cls := findClass_of_methodNamed B.named
  have hl := lv_entry av (n := nL) hlen
  rw [lg_entry_eq]
  exact body p e s m below meth c ⟨⟨B.exec, B.bytes, hml, hown, fun w h => hts w (List.mem_cons_of_mem _ h)⟩, hK, fun q h => Or.inr h⟩ B.returns B.notSynchronized (name_of_methodNamed B.named B.method).1 s.heap [] _ (hP.weaken (fun q e h _ => Or.inl ⟨e, h⟩)) va_S.rf hl
theorem CtV.of {l : Launch} {D : va_G} {cl : List vw_C} {tys : List (ClassId × FieldType)} {y : MethodName} {rm : Room} {av : List Value} {g : Nat → Option va_E} {post : (Nat → Option va_E) → Prop} {cc : ByteArray} {nL : Nat} {ret : Option FieldType} (hy : plainName y.cls = true) (hlen : (lg_sl av).length ≤ nL)
    (body : ∀ (p : Program) (e : Env) (s : State) (m : MethodId) (below : List Frame) (meth : Method) (c : Code), Cx p s m av.toArray c D cl (gA g s.heap.size) nL cc y.cls gtb tys → meth.sig.returnType = ret → meth.locks = false → meth.name = y.name →
      Go p l e rm s m av.toArray below meth c D cl (gA g s.heap.size) nL (MQ below (va_Qv post (fun (g' : Nat → Option va_E) (t : State) => PW D cl (gA g s.heap.size) g' t.heap) (gA g s.heap.size)) av.toArray s rm.cells rm.slots (gA g s.heap.size)) g 0 0 0 (lv_args 0 av) []) : CtV l D cl tys y cc nL ret rm av g post := by
  intro sz
  refine Met.ofW (cc := cc) (maxL := nL) (ret := ret) hy rfl ?_
  intro p e s m args below meth c s₁ B hml hv
  obtain ⟨rfl, hsz, hP, hK⟩ := hv
  subst hsz
  have hts := atoms_spec (ws := Cond.code y cc nL ret :: gtb) B.pre
  have hown : s.vm.findClass y.cls = some m.cls := findClass_of_methodNamed B.named
  have hl := lv_entry av (n := nL) hlen
  rw [lg_entry_eq]
  exact body p e s m below meth c ⟨⟨B.exec, B.bytes, hml, hown, fun w h => hts w (List.mem_cons_of_mem _ h)⟩, hK, fun q h => Or.inr h⟩ B.returns B.notSynchronized (name_of_methodNamed B.named B.method).1 s.heap [] _ (hP.weaken (fun q e h _ => Or.inl ⟨e, h⟩)) va_S.rf hl
theorem CtR.of {l : Launch} {D : va_G} {cl : List vw_C} {tys : List (ClassId × FieldType)} {y : MethodName} {rm : Room} {av : List Value} {g : Nat → Option va_E} {post : Option Nat → (Nat → Option va_E) → Prop} {cc : ByteArray} {nL : Nat} {ret : Option FieldType} (hy : plainName y.cls = true) (hlen : (lg_sl av).length ≤ nL)
    (body : ∀ (p : Program) (e : Env) (s : State) (m : MethodId) (below : List Frame) (meth : Method) (c : Code), Cx p s m av.toArray c D cl (gA g s.heap.size) nL cc y.cls gtb tys → meth.sig.returnType = ret → meth.locks = false → meth.name = y.name →
      Go p l e rm s m av.toArray below meth c D cl (gA g s.heap.size) nL (MQ below (va_Qq post (fun (g' : Nat → Option va_E) (t : State) => PW D cl (gA g s.heap.size) g' t.heap) (gA g s.heap.size)) av.toArray s rm.cells rm.slots (gA g s.heap.size)) g 0 0 0 (lv_args 0 av) []) : CtR l D cl tys y cc nL ret rm av g post := by
  intro sz
  refine Met.ofW (cc := cc) (maxL := nL) (ret := ret) hy rfl ?_
  intro p e s m args below meth c s₁ B hml hv
  obtain ⟨rfl, hsz, hP, hK⟩ := hv
  subst hsz
  have hts := atoms_spec (ws := Cond.code y cc nL ret :: gtb) B.pre
  have hown : s.vm.findClass y.cls = some m.cls := findClass_of_methodNamed B.named
  have hl := lv_entry av (n := nL) hlen
  rw [lg_entry_eq]
  exact body p e s m below meth c ⟨⟨B.exec, B.bytes, hml, hown, fun w h => hts w (List.mem_cons_of_mem _ h)⟩, hK, fun q h => Or.inr h⟩ B.returns B.notSynchronized (name_of_methodNamed B.named B.method).1 s.heap [] _ (hP.weaken (fun q e h _ => Or.inl ⟨e, h⟩)) va_S.rf hl
theorem go_topi {x : Int32} (k : ∀ y : Int32, y = x → Go p l e R s m args below meth c D cl A nL Q g cells slots pc lv (.int y :: rest)) : Go p l e R s m args below meth c D cl A nL Q g cells slots pc lv (.int x :: rest) := k x rfl
theorem go_topl {x : Int64} (k : ∀ y : Int64, y = x → Go p l e R s m args below meth c D cl A nL Q g cells slots pc lv (.long y :: rest)) : Go p l e R s m args below meth c D cl A nL Q g cells slots pc lv (.long x :: rest) := k x rfl
theorem go_gen {g1 : Nat → Option va_E} (k : ∀ g2 : Nat → Option va_E, g2 = g1 → Go p l e R s m args below meth c D cl A nL Q g2 cells slots pc lv rest) : Go p l e R s m args below meth c D cl A nL Q g1 cells slots pc lv rest := k g1 rfl
theorem go_mmin (X : Cx p s m args c D cl A nL cc own Ts tys) {index : Nat} {x y : Int32} (hlink : Cond.methodLink own index Lib.Math.min.name ∈ Ts) (hstat : Cond.static Lib.Math.min.name ∈ Ts) (hini : Cond.initialized "java/lang/Math" ∈ Ts) (hcode : Cond.code Lib.Math.min.name Lib.Math.min.code 2 (some .int) ∈ Ts) (hdg : decode cc pc = .ok (.invokestatic index, 3)) (hframes : 1 ≤ R.frames) (hlocals : (rest.map fun v => v.category).sum + 13 ≤ R.locals) (hc : cells ≤ R.cells) (hs : slots ≤ R.slots) (k : Go p l e R s m args below meth c D cl A nL Q g cells slots (pc + 3) lv (.int (if y < x then y else x) :: rest)) : Go p l e R s m args below meth c D cl A nL Q g cells slots pc lv (.int y :: .int x :: rest) := by
  intro H locs ls hP hS hl
  exact va_mmin X.1.1 X.1.2.1 (X.1.2.2.1.trans hl.1.symm) X.1.2.2.2.1 (X.1.2.2.2.2 _ hlink) (X.1.2.2.2.2 _ hstat) (X.1.2.2.2.2 _ hini) (X.1.2.2.2.2 _ hcode) hframes hlocals hc hs hdg (k H locs ls hP hS hl)
theorem go_mmax (X : Cx p s m args c D cl A nL cc own Ts tys) {index : Nat} {x y : Int32} (hlink : Cond.methodLink own index Lib.Math.max.name ∈ Ts) (hstat : Cond.static Lib.Math.max.name ∈ Ts) (hini : Cond.initialized "java/lang/Math" ∈ Ts) (hcode : Cond.code Lib.Math.max.name Lib.Math.max.code 2 (some .int) ∈ Ts) (hdg : decode cc pc = .ok (.invokestatic index, 3)) (hframes : 1 ≤ R.frames) (hlocals : (rest.map fun v => v.category).sum + 13 ≤ R.locals) (hc : cells ≤ R.cells) (hs : slots ≤ R.slots) (k : Go p l e R s m args below meth c D cl A nL Q g cells slots (pc + 3) lv (.int (if x < y then y else x) :: rest)) : Go p l e R s m args below meth c D cl A nL Q g cells slots pc lv (.int y :: .int x :: rest) := by
  intro H locs ls hP hS hl
  exact va_mmax X.1.1 X.1.2.1 (X.1.2.2.1.trans hl.1.symm) X.1.2.2.2.1 (X.1.2.2.2.2 _ hlink) (X.1.2.2.2.2 _ hstat) (X.1.2.2.2.2 _ hini) (X.1.2.2.2.2 _ hcode) hframes hlocals hc hs hdg (k H locs ls hP hS hl)
theorem go_mmin_long (X : Cx p s m args c D cl A nL cc own Ts tys) {index : Nat} {x y : Int64} (hlink : Cond.methodLink own index Lib.MathLoose.min_long.x ∈ Ts) (hstat : Cond.static Lib.MathLoose.min_long.x ∈ Ts) (hini : Cond.initialized "java/lang/Math" ∈ Ts) (hcode : Cond.code Lib.MathLoose.min_long.x Lib.MathLoose.min_long.code 4 (some .long) ∈ Ts) (hdg : decode cc pc = .ok (.invokestatic index, 3)) (hframes : 1 ≤ R.frames) (hlocals : (rest.map fun v => v.category).sum + 15 ≤ R.locals) (hc : cells ≤ R.cells) (hs : slots ≤ R.slots) (k : Go p l e R s m args below meth c D cl A nL Q g cells slots (pc + 3) lv (.long (if y < x then y else x) :: rest)) : Go p l e R s m args below meth c D cl A nL Q g cells slots pc lv (.long y :: .long x :: rest) := by
  intro H locs ls hP hS hl
  exact va_mmin_long X.1.1 X.1.2.1 (X.1.2.2.1.trans hl.1.symm) X.1.2.2.2.1 (X.1.2.2.2.2 _ hlink) (X.1.2.2.2.2 _ hstat) (X.1.2.2.2.2 _ hini) (X.1.2.2.2.2 _ hcode) hframes hlocals hc hs hdg (k H locs ls hP hS hl)
end GO
end
section
/-! The classes whose objects the worlds hold, the array types, a room and the call's words for each method. -/
abbrev classes : List vw_C := [(R_B, F_B, 13), (R_E, F_E, 3), (R_I, F_I, 8), (R_S, F_S, 6), (R_M, F_M, 25)]
abbrev tyL (dA : Nat → ClassId) : List (ClassId × FieldType) := [(dA 0, .int), (dA 1, .long), (dA 2, .boolean), (dA 3, .object "BeltSteps$Belt"), (dA 4, .object "BeltSteps$Item")]
theorem ne_fresh {g : Nat → Option va_E} {a b : Nat} {e : va_E} (h : g a = some e) (hb : g b = none) : a ≠ b := by
  intro q
  rw [q, hb] at h
  cases h
theorem ne_kind1 {g : Nat → Option va_E} {a b : Nat} {o : Nat × List Value} {x : ClassId × vp_A} (h : g a = some (.inr o)) (h2 : g b = some (.inl x)) : a ≠ b := by
  intro q
  rw [q, h2] at h
  cases h
theorem ne_kind2 {g : Nat → Option va_E} {a b : Nat} {o : Nat × List Value} {x : ClassId × vp_A} (h : g a = some (.inl x)) (h2 : g b = some (.inr o)) : a ≠ b := by
  intro q
  rw [q, h2] at h
  cases h
theorem ne_cls {g : Nat → Option va_E} {a b c1 c2 : Nat} {f1 f2 : List Value} (h : g a = some (.inr (c1, f1))) (h2 : g b = some (.inr (c2, f2))) (hc : c1 ≠ c2) : a ≠ b := by
  intro q
  rw [q, h2] at h
  cases h
  exact hc rfl
theorem ne_arr01 {g : Nat → Option va_E} {a b : Nat} {c1 c2 : ClassId} {n1 n2 : Nat} {f : Nat → Int32} {x : (Nat → Int64) ⊕ (Nat → UInt32) ⊕ (Nat → UInt64) ⊕ (Nat → Option Nat)} (h : g a = some (.inl (c1, n1, .inl f))) (h2 : g b = some (.inl (c2, n2, .inr x))) : a ≠ b := by
  intro q
  rw [q, h2] at h
  cases h
theorem ne_arr10 {g : Nat → Option va_E} {a b : Nat} {c1 c2 : ClassId} {n1 n2 : Nat} {f : Nat → Int32} {x : (Nat → Int64) ⊕ (Nat → UInt32) ⊕ (Nat → UInt64) ⊕ (Nat → Option Nat)} (h : g a = some (.inl (c2, n2, .inr x))) (h2 : g b = some (.inl (c1, n1, .inl f))) : a ≠ b := (ne_arr01 h2 h).symm
theorem ne_arr02 {g : Nat → Option va_E} {a b : Nat} {c1 c2 : ClassId} {n1 n2 : Nat} {f : Nat → Int32} {x : (Nat → Int64) ⊕ (Nat → UInt32) ⊕ (Nat → UInt64) ⊕ (Nat → Option Nat)} (h : g a = some (.inl (c1, n1, .inl f))) (h2 : g b = some (.inl (c2, n2, .inr x))) : a ≠ b := ne_arr01 h h2
theorem ne_arr20 {g : Nat → Option va_E} {a b : Nat} {c1 c2 : ClassId} {n1 n2 : Nat} {f : Nat → Int32} {x : (Nat → Int64) ⊕ (Nat → UInt32) ⊕ (Nat → UInt64) ⊕ (Nat → Option Nat)} (h : g a = some (.inl (c2, n2, .inr x))) (h2 : g b = some (.inl (c1, n1, .inl f))) : a ≠ b := ne_arr10 h h2
theorem ne_arr12 {g : Nat → Option va_E} {a b : Nat} {c1 c2 : ClassId} {n1 n2 : Nat} {f : Nat → Int64} {x : (Nat → UInt32) ⊕ (Nat → UInt64) ⊕ (Nat → Option Nat)} (h : g a = some (.inl (c1, n1, .inr (.inl f)))) (h2 : g b = some (.inl (c2, n2, .inr (.inr x)))) : a ≠ b := by
  intro q
  rw [q, h2] at h
  cases h
theorem ne_arr21 {g : Nat → Option va_E} {a b : Nat} {c1 c2 : ClassId} {n1 n2 : Nat} {f : Nat → Int64} {x : (Nat → UInt32) ⊕ (Nat → UInt64) ⊕ (Nat → Option Nat)} (h : g a = some (.inl (c2, n2, .inr (.inr x)))) (h2 : g b = some (.inl (c1, n1, .inr (.inl f)))) : a ≠ b := (ne_arr12 h2 h).symm
section GOQ
variable {p : Program} {l : Launch} {e : Env} {R : Room} {s : State} {m : MethodId} {args : Array Value} {below : List Frame} {meth : Method} {c : Code} {D : va_G} {cl : List vw_C} {A : Nat → Prop} {nL : Nat} {Q : State → Prop} {g : Nat → Option va_E} {cells slots pc : Nat} {lv : List (Nat × Value)} {rest : List Value} {cc : ByteArray} {own : String} {Ts : List Cond} {tys : List (ClassId × FieldType)} {a : Nat}
theorem go_aload_nQ (X : Cx p s m args c D cl A nL cc own Ts tys) {j : Fin 4} {i z : Nat} {r : Option Nat} (hdg : decode cc pc = .ok (.aload_n j, 1)) (hi : (j : Nat) = i) (hk : lv[z]? = some (i, va_rf r)) (k : Go p l e R s m args below meth c D cl A nL Q g cells slots (pc + 1) lv (va_rf r :: rest)) : Go p l e R s m args below meth c D cl A nL Q g cells slots pc lv rest := by
  cases r with
  | none => exact go_aload_nN X hdg hi hk k
  | some b => exact go_aload_n X hdg hi hk k
theorem go_aloadQ (X : Cx p s m args c D cl A nL cc own Ts tys) {i z : Nat} {r : Option Nat} (hdg : decode cc pc = .ok (.aload i, 2)) (hk : lv[z]? = some (i, va_rf r)) (k : Go p l e R s m args below meth c D cl A nL Q g cells slots (pc + 2) lv (va_rf r :: rest)) : Go p l e R s m args below meth c D cl A nL Q g cells slots pc lv rest := by
  cases r with
  | none => exact go_aloadN X hdg hk k
  | some b => exact go_aload X hdg hk k
theorem go_astore_nQ (X : Cx p s m args c D cl A nL cc own Ts tys) {j : Fin 4} {i : Nat} {r : Option Nat} {lv' : List (Nat × Value)} (hdg : decode cc pc = .ok (.astore_n j, 1)) (hi : (j : Nat) = i) (hn : i < nL) (hl' : (i, va_rf r) :: lv.filter (fun q => !(q.1 == i) && !(q.1 + 1 == i && q.2.category == 2)) = lv') (k : Go p l e R s m args below meth c D cl A nL Q g cells slots (pc + 1) lv' rest) : Go p l e R s m args below meth c D cl A nL Q g cells slots pc lv (va_rf r :: rest) := by
  cases r with
  | none => exact go_astore_nN X hdg hi hn hl' k
  | some b => exact go_astore_n X hdg hi hn hl' k
theorem go_astoreQ (X : Cx p s m args c D cl A nL cc own Ts tys) {i : Nat} {r : Option Nat} {lv' : List (Nat × Value)} (hdg : decode cc pc = .ok (.astore i, 2)) (hn : i < nL) (hl' : (i, va_rf r) :: lv.filter (fun q => !(q.1 == i) && !(q.1 + 1 == i && q.2.category == 2)) = lv') (k : Go p l e R s m args below meth c D cl A nL Q g cells slots (pc + 2) lv' rest) : Go p l e R s m args below meth c D cl A nL Q g cells slots pc lv (va_rf r :: rest) := by
  cases r with
  | none => exact go_astoreN X hdg hn hl' k
  | some b => exact go_astore X hdg hn hl' k
end GOQ
abbrev rm_S_init : Room := { frames := 2, cells := 4, slots := 1675, locals := 40 }
theorem cw_S_init : CwI y_S_init b_S_init 1 0 := ⟨gm_im_S_init, gm_ini_S, gm_code_S_init, rfl, by decide +kernel⟩
abbrev rm_E_init : Room := { frames := 1, cells := 1, slots := 1600, locals := 20 }
theorem cw_E_init : CwI y_E_init b_E_init 1 0 := ⟨gm_im_E_init, gm_ini_E, gm_code_E_init, rfl, by decide +kernel⟩
abbrev rm_S_belt : Room := { frames := 2, cells := 4, slots := 37, locals := 47 }
theorem cw_S_belt : CwV R_S y_S_belt b_S_belt 6 (some .int) 2 := ⟨gm_im_S_belt, gm_sel_S_belt, gm_ini_S, gm_code_S_belt, by decide +kernel⟩
abbrev rm_B_init : Room := { frames := 1, cells := 3, slots := 24, locals := 20 }
theorem cw_B_init : CwI y_B_init b_B_init 6 3 := ⟨gm_im_B_init, gm_ini_B, gm_code_B_init, rfl, by decide +kernel⟩
abbrev rm_B_layStages : Room := { frames := 1, cells := 0, slots := 0, locals := 23 }
theorem cw_B_layStages : CwV R_B y_B_layStages b_B_layStages 5 none 0 := ⟨gm_im_B_layStages, gm_sel_B_layStages, gm_ini_B, gm_code_B_layStages, by decide +kernel⟩
abbrev rm_S_join : Room := { frames := 1, cells := 0, slots := 0, locals := 21 }
theorem cw_S_join : CwV R_S y_S_join b_S_join 6 (some .int) 2 := ⟨gm_im_S_join, gm_sel_S_join, gm_ini_S, gm_code_S_join, by decide +kernel⟩
abbrev rm_S_beltNumbered : Room := { frames := 0, cells := 0, slots := 0, locals := 0 }
theorem cw_S_beltNumbered : CwV R_S y_S_beltNumbered b_S_beltNumbered 2 (some (.object "BeltSteps$Belt")) 1 := ⟨gm_im_S_beltNumbered, gm_sel_S_beltNumbered, gm_ini_S, gm_code_S_beltNumbered, by decide +kernel⟩
abbrev rm_S_feed : Room := { frames := 3, cells := 1, slots := 8, locals := 76 }
theorem cw_S_feed : CwV R_S y_S_feed b_S_feed 8 (some .int) 3 := ⟨gm_im_S_feed, gm_sel_S_feed, gm_ini_S, gm_code_S_feed, by decide +kernel⟩
abbrev rm_S_isNowOrLater : Room := { frames := 0, cells := 0, slots := 0, locals := 0 }
theorem cw_S_isNowOrLater : CwV R_S y_S_isNowOrLater b_S_isNowOrLater 3 (some .boolean) 1 := ⟨gm_im_S_isNowOrLater, gm_sel_S_isNowOrLater, gm_ini_S, gm_code_S_isNowOrLater, by decide +kernel⟩
abbrev rm_I_init : Room := { frames := 1, cells := 0, slots := 0, locals := 20 }
theorem cw_I_init : CwI y_I_init b_I_init 7 4 := ⟨gm_im_I_init, gm_ini_I, gm_code_I_init, rfl, by decide +kernel⟩
abbrev rm_I_comeOnto : Room := { frames := 2, cells := 0, slots := 0, locals := 51 }
theorem cw_I_comeOnto : CwV R_I y_I_comeOnto b_I_comeOnto 6 none 3 := ⟨gm_im_I_comeOnto, gm_sel_I_comeOnto, gm_ini_I, gm_code_I_comeOnto, by decide +kernel⟩
abbrev rm_B_wayAt : Room := { frames := 1, cells := 0, slots := 0, locals := 24 }
theorem cw_B_wayAt : CwV R_B y_B_wayAt b_B_wayAt 4 (some .long) 1 := ⟨gm_im_B_wayAt, gm_sel_B_wayAt, gm_ini_B, gm_code_B_wayAt, by decide +kernel⟩
abbrev rm_B_stageAt : Room := { frames := 0, cells := 0, slots := 0, locals := 0 }
theorem cw_B_stageAt : CwV R_B y_B_stageAt b_B_stageAt 5 (some .int) 1 := ⟨gm_im_B_stageAt, gm_sel_B_stageAt, gm_ini_B, gm_code_B_stageAt, by decide +kernel⟩
abbrev rm_I_aim : Room := { frames := 1, cells := 0, slots := 0, locals := 29 }
theorem cw_I_aim : CwV R_I y_I_aim b_I_aim 3 none 0 := ⟨gm_im_I_aim, gm_sel_I_aim, gm_ini_I, gm_code_I_aim, by decide +kernel⟩
abbrev rm_B_timeOfWay : Room := { frames := 0, cells := 0, slots := 0, locals := 0 }
theorem cw_B_timeOfWay : CwV R_B y_B_timeOfWay b_B_timeOfWay 10 (some .long) 1 := ⟨gm_im_B_timeOfWay, gm_sel_B_timeOfWay, gm_ini_B, gm_code_B_timeOfWay, by decide +kernel⟩
abbrev rm_S_step : Room := { frames := 6, cells := 0, slots := 0, locals := 148 }
theorem cw_S_step : CwV R_S y_S_step b_S_step 3 (some .int) 1 := ⟨gm_im_S_step, gm_sel_S_step, gm_ini_S, gm_code_S_step, by decide +kernel⟩
abbrev rm_S_passTo : Room := { frames := 5, cells := 0, slots := 0, locals := 123 }
theorem cw_S_passTo : CwV R_S y_S_passTo b_S_passTo 6 none 1 := ⟨gm_im_S_passTo, gm_sel_S_passTo, gm_ini_S, gm_code_S_passTo, by decide +kernel⟩
abbrev rm_S_nextTurn : Room := { frames := 0, cells := 0, slots := 0, locals := 0 }
theorem cw_S_nextTurn : CwV R_S y_S_nextTurn b_S_nextTurn 4 (some .long) 0 := ⟨gm_im_S_nextTurn, gm_sel_S_nextTurn, gm_ini_S, gm_code_S_nextTurn, by decide +kernel⟩
abbrev rm_S_moveItems : Room := { frames := 4, cells := 0, slots := 0, locals := 100 }
theorem cw_S_moveItems : CwV R_S y_S_moveItems b_S_moveItems 4 none 1 := ⟨gm_im_S_moveItems, gm_sel_S_moveItems, gm_ini_S, gm_code_S_moveItems, by decide +kernel⟩
abbrev rm_I_moveOver : Room := { frames := 3, cells := 0, slots := 0, locals := 76 }
theorem cw_I_moveOver : CwV R_I y_I_moveOver b_I_moveOver 5 none 1 := ⟨gm_im_I_moveOver, gm_sel_I_moveOver, gm_ini_I, gm_code_I_moveOver, by decide +kernel⟩
abbrev rm_S_tellEdges : Room := { frames := 3, cells := 0, slots := 0, locals := 80 }
theorem cw_S_tellEdges : CwV R_S y_S_tellEdges b_S_tellEdges 4 none 1 := ⟨gm_im_S_tellEdges, gm_sel_S_tellEdges, gm_ini_S, gm_code_S_tellEdges, by decide +kernel⟩
abbrev rm_S_tellEdgesOf : Room := { frames := 2, cells := 0, slots := 0, locals := 51 }
theorem cw_S_tellEdgesOf : CwV R_S y_S_tellEdgesOf b_S_tellEdgesOf 10 none 2 := ⟨gm_im_S_tellEdgesOf, gm_sel_S_tellEdgesOf, gm_ini_S, gm_code_S_tellEdgesOf, by decide +kernel⟩
abbrev rm_S_isShort : Room := { frames := 1, cells := 0, slots := 0, locals := 21 }
theorem cw_S_isShort : CwV R_S y_S_isShort b_S_isShort 11 (some .boolean) 2 := ⟨gm_im_S_isShort, gm_sel_S_isShort, gm_ini_S, gm_code_S_isShort, by decide +kernel⟩
abbrev rm_I_isOn : Room := { frames := 0, cells := 0, slots := 0, locals := 0 }
theorem cw_I_isOn : CwV R_I y_I_isOn b_I_isOn 2 (some .boolean) 1 := ⟨gm_im_I_isOn, gm_sel_I_isOn, gm_ini_I, gm_code_I_isOn, by decide +kernel⟩
abbrev rm_E_add : Room := { frames := 0, cells := 0, slots := 0, locals := 0 }
theorem cw_E_add : CwV R_E y_E_add b_E_add 7 none 4 := ⟨gm_im_E_add, gm_sel_E_add, gm_ini_E, gm_code_E_add, by decide +kernel⟩
abbrev rm_E_takeNew : Room := { frames := 0, cells := 0, slots := 0, locals := 0 }
theorem cw_E_takeNew : CwV R_E y_E_takeNew b_E_takeNew 2 (some .int) 0 := ⟨gm_im_E_takeNew, gm_sel_E_takeNew, gm_ini_E, gm_code_E_takeNew, by decide +kernel⟩
abbrev rm_S_edge : Room := { frames := 1, cells := 0, slots := 0, locals := 22 }
theorem cw_S_edge : CwV R_S y_S_edge b_S_edge 3 (some .int) 2 := ⟨gm_im_S_edge, gm_sel_S_edge, gm_ini_S, gm_code_S_edge, by decide +kernel⟩
abbrev rm_E_read : Room := { frames := 0, cells := 0, slots := 0, locals := 0 }
theorem cw_E_read : CwV R_E y_E_read b_E_read 3 (some .int) 2 := ⟨gm_im_E_read, gm_sel_E_read, gm_ini_E, gm_code_E_read, by decide +kernel⟩
abbrev rm_S_stop : Room := { frames := 6, cells := 0, slots := 0, locals := 148 }
theorem cw_S_stop : CwV R_S y_S_stop b_S_stop 7 (some .int) 3 := ⟨gm_im_S_stop, gm_sel_S_stop, gm_ini_S, gm_code_S_stop, by decide +kernel⟩
abbrev rm_B_tell : Room := { frames := 2, cells := 0, slots := 0, locals := 47 }
theorem cw_B_tell : CwV R_B y_B_tell b_B_tell 4 none 2 := ⟨gm_im_B_tell, gm_sel_B_tell, gm_ini_B, gm_code_B_tell, by decide +kernel⟩
abbrev rm_B_gearAt : Room := { frames := 1, cells := 0, slots := 0, locals := 24 }
theorem cw_B_gearAt : CwV R_B y_B_gearAt b_B_gearAt 3 (some .int) 1 := ⟨gm_im_B_gearAt, gm_sel_B_gearAt, gm_ini_B, gm_code_B_gearAt, by decide +kernel⟩
abbrev rm_S_aimItemsOn : Room := { frames := 2, cells := 0, slots := 0, locals := 51 }
theorem cw_S_aimItemsOn : CwV R_S y_S_aimItemsOn b_S_aimItemsOn 3 none 1 := ⟨gm_im_S_aimItemsOn, gm_sel_S_aimItemsOn, gm_ini_S, gm_code_S_aimItemsOn, by decide +kernel⟩
abbrev rm_S_slip : Room := { frames := 3, cells := 0, slots := 0, locals := 69 }
theorem cw_S_slip : CwV R_S y_S_slip b_S_slip 7 (some .int) 2 := ⟨gm_im_S_slip, gm_sel_S_slip, gm_ini_S, gm_code_S_slip, by decide +kernel⟩
abbrev rm_S_itemNumbered : Room := { frames := 0, cells := 0, slots := 0, locals := 0 }
theorem cw_S_itemNumbered : CwV R_S y_S_itemNumbered b_S_itemNumbered 2 (some (.object "BeltSteps$Item")) 1 := ⟨gm_im_S_itemNumbered, gm_sel_S_itemNumbered, gm_ini_S, gm_code_S_itemNumbered, by decide +kernel⟩
abbrev rm_I_isOnABelt : Room := { frames := 0, cells := 0, slots := 0, locals := 0 }
theorem cw_I_isOnABelt : CwV R_I y_I_isOnABelt b_I_isOnABelt 1 (some .boolean) 0 := ⟨gm_im_I_isOnABelt, gm_sel_I_isOnABelt, gm_ini_I, gm_code_I_isOnABelt, by decide +kernel⟩
abbrev rm_I_placeAt : Room := { frames := 2, cells := 0, slots := 0, locals := 47 }
theorem cw_I_placeAt : CwV R_I y_I_placeAt b_I_placeAt 3 (some .long) 1 := ⟨gm_im_I_placeAt, gm_sel_I_placeAt, gm_ini_I, gm_code_I_placeAt, by decide +kernel⟩
abbrev rm_S_place : Room := { frames := 3, cells := 0, slots := 0, locals := 78 }
theorem cw_S_place : CwV R_S y_S_place b_S_place 5 (some .long) 2 := ⟨gm_im_S_place, gm_sel_S_place, gm_ini_S, gm_code_S_place, by decide +kernel⟩
abbrev rm_S_placeAhead : Room := { frames := 2, cells := 0, slots := 0, locals := 47 }
theorem cw_S_placeAhead : CwS R_S y_S_placeAhead b_S_placeAhead 12 (some .long) 2 := ⟨gm_st_S_placeAhead, gm_ini_S, gm_code_S_placeAhead, by decide +kernel⟩
abbrev rm_S_gap : Room := { frames := 3, cells := 0, slots := 0, locals := 69 }
theorem cw_S_gap : CwV R_S y_S_gap b_S_gap 5 (some .int) 2 := ⟨gm_im_S_gap, gm_sel_S_gap, gm_ini_S, gm_code_S_gap, by decide +kernel⟩
abbrev rm_S_count : Room := { frames := 1, cells := 0, slots := 0, locals := 21 }
theorem cw_S_count : CwV R_S y_S_count b_S_count 5 (some .int) 1 := ⟨gm_im_S_count, gm_sel_S_count, gm_ini_S, gm_code_S_count, by decide +kernel⟩
abbrev rm_S_gear : Room := { frames := 2, cells := 0, slots := 0, locals := 46 }
theorem cw_S_gear : CwV R_S y_S_gear b_S_gear 5 (some .int) 2 := ⟨gm_im_S_gear, gm_sel_S_gear, gm_ini_S, gm_code_S_gear, by decide +kernel⟩
abbrev rm_M_init : Room := { frames := 1, cells := 19, slots := 2123, locals := 20 }
theorem cw_M_init : CwI y_M_init b_M_init 1 0 := ⟨gm_im_M_init, gm_ini_M, gm_code_M_init, rfl, by decide +kernel⟩
abbrev rm_M_belt : Room := { frames := 1, cells := 0, slots := 0, locals := 25 }
theorem cw_M_belt : CwV R_M y_M_belt b_M_belt 5 (some .int) 2 := ⟨gm_im_M_belt, gm_sel_M_belt, gm_ini_M, gm_code_M_belt, by decide +kernel⟩
abbrev rm_M_in : Room := { frames := 0, cells := 0, slots := 0, locals := 0 }
theorem cw_M_in : CwS R_M y_M_in b_M_in 6 (some .boolean) 3 := ⟨gm_st_M_in, gm_ini_M, gm_code_M_in, by decide +kernel⟩
abbrev rm_M_join : Room := { frames := 1, cells := 0, slots := 0, locals := 21 }
theorem cw_M_join : CwV R_M y_M_join b_M_join 4 (some .int) 2 := ⟨gm_im_M_join, gm_sel_M_join, gm_ini_M, gm_code_M_join, by decide +kernel⟩
abbrev rm_M_isBelt : Room := { frames := 0, cells := 0, slots := 0, locals := 0 }
theorem cw_M_isBelt : CwV R_M y_M_isBelt b_M_isBelt 2 (some .boolean) 1 := ⟨gm_im_M_isBelt, gm_sel_M_isBelt, gm_ini_M, gm_code_M_isBelt, by decide +kernel⟩
abbrev rm_M_feed : Room := { frames := 2, cells := 0, slots := 0, locals := 47 }
theorem cw_M_feed : CwV R_M y_M_feed b_M_feed 6 (some .int) 3 := ⟨gm_im_M_feed, gm_sel_M_feed, gm_ini_M, gm_code_M_feed, by decide +kernel⟩
abbrev rm_M_isTime : Room := { frames := 1, cells := 0, slots := 0, locals := 25 }
theorem cw_M_isTime : CwV R_M y_M_isTime b_M_isTime 3 (some .boolean) 1 := ⟨gm_im_M_isTime, gm_sel_M_isTime, gm_ini_M, gm_code_M_isTime, by decide +kernel⟩
abbrev rm_M_step : Room := { frames := 4, cells := 0, slots := 0, locals := 91 }
theorem cw_M_step : CwV R_M y_M_step b_M_step 4 (some .int) 1 := ⟨gm_im_M_step, gm_sel_M_step, gm_ini_M, gm_code_M_step, by decide +kernel⟩
abbrev rm_M_pass : Room := { frames := 3, cells := 0, slots := 0, locals := 68 }
theorem cw_M_pass : CwV R_M y_M_pass b_M_pass 4 none 1 := ⟨gm_im_M_pass, gm_sel_M_pass, gm_ini_M, gm_code_M_pass, by decide +kernel⟩
abbrev rm_M_rateAt : Room := { frames := 1, cells := 0, slots := 0, locals := 27 }
theorem cw_M_rateAt : CwV R_M y_M_rateAt b_M_rateAt 4 (some .long) 2 := ⟨gm_im_M_rateAt, gm_sel_M_rateAt, gm_ini_M, gm_code_M_rateAt, by decide +kernel⟩
abbrev rm_M_gearAt : Room := { frames := 0, cells := 0, slots := 0, locals := 0 }
theorem cw_M_gearAt : CwV R_M y_M_gearAt b_M_gearAt 8 (some .int) 2 := ⟨gm_im_M_gearAt, gm_sel_M_gearAt, gm_ini_M, gm_code_M_gearAt, by decide +kernel⟩
abbrev rm_M_isThere : Room := { frames := 0, cells := 0, slots := 0, locals := 0 }
theorem cw_M_isThere : CwV R_M y_M_isThere b_M_isThere 2 (some .boolean) 1 := ⟨gm_im_M_isThere, gm_sel_M_isThere, gm_ini_M, gm_code_M_isThere, by decide +kernel⟩
abbrev rm_M_goOver : Room := { frames := 1, cells := 0, slots := 0, locals := 21 }
theorem cw_M_goOver : CwV R_M y_M_goOver b_M_goOver 3 none 0 := ⟨gm_im_M_goOver, gm_sel_M_goOver, gm_ini_M, gm_code_M_goOver, by decide +kernel⟩
abbrev rm_M_look : Room := { frames := 2, cells := 0, slots := 0, locals := 45 }
theorem cw_M_look : CwV R_M y_M_look b_M_look 4 none 0 := ⟨gm_im_M_look, gm_sel_M_look, gm_ini_M, gm_code_M_look, by decide +kernel⟩
abbrev rm_M_isShort : Room := { frames := 1, cells := 0, slots := 0, locals := 21 }
theorem cw_M_isShort : CwV R_M y_M_isShort b_M_isShort 5 (some .boolean) 1 := ⟨gm_im_M_isShort, gm_sel_M_isShort, gm_ini_M, gm_code_M_isShort, by decide +kernel⟩
abbrev rm_M_tell : Room := { frames := 0, cells := 0, slots := 0, locals := 0 }
theorem cw_M_tell : CwV R_M y_M_tell b_M_tell 3 none 2 := ⟨gm_im_M_tell, gm_sel_M_tell, gm_ini_M, gm_code_M_tell, by decide +kernel⟩
abbrev rm_M_edge : Room := { frames := 0, cells := 0, slots := 0, locals := 0 }
theorem cw_M_edge : CwV R_M y_M_edge b_M_edge 3 (some .int) 2 := ⟨gm_im_M_edge, gm_sel_M_edge, gm_ini_M, gm_code_M_edge, by decide +kernel⟩
abbrev rm_M_stop : Room := { frames := 4, cells := 0, slots := 0, locals := 91 }
theorem cw_M_stop : CwV R_M y_M_stop b_M_stop 5 (some .int) 3 := ⟨gm_im_M_stop, gm_sel_M_stop, gm_ini_M, gm_code_M_stop, by decide +kernel⟩
abbrev rm_M_slip : Room := { frames := 1, cells := 0, slots := 0, locals := 25 }
theorem cw_M_slip : CwV R_M y_M_slip b_M_slip 6 (some .int) 2 := ⟨gm_im_M_slip, gm_sel_M_slip, gm_ini_M, gm_code_M_slip, by decide +kernel⟩
abbrev rm_M_isItem : Room := { frames := 0, cells := 0, slots := 0, locals := 0 }
theorem cw_M_isItem : CwV R_M y_M_isItem b_M_isItem 2 (some .boolean) 1 := ⟨gm_im_M_isItem, gm_sel_M_isItem, gm_ini_M, gm_code_M_isItem, by decide +kernel⟩
abbrev rm_M_place : Room := { frames := 2, cells := 0, slots := 0, locals := 50 }
theorem cw_M_place : CwV R_M y_M_place b_M_place 9 (some .long) 2 := ⟨gm_im_M_place, gm_sel_M_place, gm_ini_M, gm_code_M_place, by decide +kernel⟩
abbrev rm_M_gap : Room := { frames := 1, cells := 0, slots := 0, locals := 21 }
theorem cw_M_gap : CwV R_M y_M_gap b_M_gap 3 (some .int) 2 := ⟨gm_im_M_gap, gm_sel_M_gap, gm_ini_M, gm_code_M_gap, by decide +kernel⟩
abbrev rm_M_count : Room := { frames := 1, cells := 0, slots := 0, locals := 21 }
theorem cw_M_count : CwV R_M y_M_count b_M_count 4 (some .int) 1 := ⟨gm_im_M_count, gm_sel_M_count, gm_ini_M, gm_code_M_count, by decide +kernel⟩
abbrev rm_M_gear : Room := { frames := 2, cells := 0, slots := 0, locals := 47 }
theorem cw_M_gear : CwV R_M y_M_gear b_M_gear 4 (some .int) 2 := ⟨gm_im_M_gear, gm_sel_M_gear, gm_ini_M, gm_code_M_gear, by decide +kernel⟩
end
section
/-! Belt: the pure pictures of its methods (in machine words), and their contracts. -/
abbrev beltE (num : Int32) (len spd sen : Int64) (onto : Option Nat) (run tel : Int32) (told : Int64) (gb : Int32) (wat : Int64) (ag ap aw : Nat) : va_E := .inr (0, [.int num, .long len, .long spd, .long sen, va_rf onto, .int run, .int tel, .long told, .int gb, .long wat, .ref ag, .ref ap, .ref aw])
abbrev intE (dA : Nat → ClassId) (n : Nat) (f : Nat → Int32) : va_E := .inl (dA 0, n, .inl f)
abbrev lonE (dA : Nat → ClassId) (n : Nat) (f : Nat → Int64) : va_E := .inl (dA 1, n, .inr (.inl f))
abbrev booE (dA : Nat → ClassId) (n : Nat) (f : Nat → Int32) : va_E := .inl (dA 2, n, .inl f)
def stageF (told t : Int64) : Int32 := if 0 ≤ (t - told) / 20 then (if 8 ≤ (t - told) / 20 then 7 else ((t - told) / 20).toInt32) else 0
theorem stageF_in (told t : Int64) : vp_in (stageF told t) 8 := by
  rw [vp_in_iff]
  unfold stageF
  generalize (t - told) / 20 = q
  by_cases h1 : 0 ≤ q
  · rw [if_pos h1]
    by_cases h2 : 8 ≤ q
    · rw [if_pos h2]; decide
    · rw [if_neg h2]
      have a1 : 0 ≤ q.toInt := by simpa using Int64.le_iff_toInt_le.mp h1
      have a2 : ¬ 8 ≤ q.toInt := fun h => h2 (Int64.le_iff_toInt_le.mpr (by simpa using h))
      rw [Int64.toInt_toInt32, Int.bmod_eq_of_le (by omega) (by omega)]
      omega
  · rw [if_neg h1]; decide
def wayF (told : Int64) (fp fw : Nat → Int64) (t : Int64) : Int64 := fw (stageF told t).toNatClampNeg + (t - told - (stageF told t).toInt64 * 20) * fp (stageF told t).toNatClampNeg
def stgF (fw : Nat → Int64) (w : Int64) : Nat → Nat → Nat
  | 0, k => k
  | n + 1, k => if fw (k + 1) < w then stgF fw w n (k + 1) else k
def towA (told : Int64) (fp fw : Nat → Int64) (w : Int64) (k : Nat) : Int64 := if 0 < w - fw k then (if fp k ≤ 0 then 1000000000000 else told + (nI k).toInt64 * 20 + (w - fw k + fp k - 1) / fp k) else told + (nI k).toInt64 * 20
def towF (told : Int64) (fp fw : Nat → Int64) (w : Int64) : Int64 := towA told fp fw w (stgF fw w 7 0)
section BELT
variable {num : Int32} {len spd sen : Int64} {onto : Option Nat} {run tel : Int32} {told : Int64} {gb : Int32} {wat : Int64} {ag ap aw a : Nat} {fg : Nat → Int32} {fp fw : Nat → Int64}
set_option maxHeartbeats 4000000 in
set_option maxRecDepth 100000 in
theorem c_B_stageAt {l : Launch} {D : va_G} {dA : Nat → ClassId} {g : Nat → Option va_E}  (hB : g a = some (beltE num len spd sen onto run tel told gb wat ag ap aw)) (t : Int64) : CtI l D classes (tyL dA) y_B_stageAt b_B_stageAt 5 (some .int) rm_B_stageAt [.ref a, .long t] g (fun r g' => g = g' ∧ r = stageF told t) := by
  refine CtI.of (by decide) (Nat.le_of_ble_eq_true rfl) ?_
  intro p e s m below meth c X hr hlk hnm
  refine go_lload_n X (z := 1) d_B_stageAt_0 rfl rfl ?_
  refine go_aload_n X (z := 0) d_B_stageAt_1 rfl rfl ?_
  refine go_get X u_B rfl 7 (by decide) gm_fl_B_23 rfl d_B_stageAt_2 hB rfl ?_
  refine go_lsub X d_B_stageAt_5 ?_
  refine go_ldc2 X d_B_stageAt_6 gm_k_B_80 ?_
  refine go_ldiv X d_B_stageAt_9 (by decide) ?_
  refine go_topl (fun x1 ex1 => ?_)
  refine go_lstore_n X (lv' := [(3, .long x1), (0, .ref a), (1, .long t)]) d_B_stageAt_10 rfl (by decide) rfl ?_
  refine go_lload_n X (z := 0) d_B_stageAt_11 rfl rfl ?_
  refine go_lconst X (v := 0) d_B_stageAt_12 (by decide) ?_
  refine go_lif_ge X (tgt := 19) d_B_stageAt_13 d_B_stageAt_14 rfl (fun c2 => ?_) (fun c2 => ?_)
  · refine go_lload_n X (z := 0) d_B_stageAt_19 rfl rfl ?_
    refine go_ldc2 X d_B_stageAt_20 gm_k_B_78 ?_
    refine go_lif_ge X (tgt := 32) d_B_stageAt_23 d_B_stageAt_24 rfl (fun c3 => ?_) (fun c3 => ?_)
    · refine go_bipush X (v := 7) d_B_stageAt_32 (by decide) ?_
      exact go_retI X hr hlk d_B_stageAt_34 ⟨rfl, by subst_vars; simp only [stageF, if_pos c2, if_pos c3]⟩
    · refine go_lload_n X (z := 0) d_B_stageAt_27 rfl rfl ?_
      refine go_l2i X d_B_stageAt_28 rfl ?_
      refine go_goto X (tgt := 34) d_B_stageAt_29 rfl ?_
      exact go_retI X hr hlk d_B_stageAt_34 ⟨rfl, by subst_vars; simp only [stageF, if_pos c2, if_neg c3]⟩
  · refine go_iconst X (v := 0) d_B_stageAt_17 (by decide) ?_
    exact go_retI X hr hlk d_B_stageAt_18 ⟨rfl, by subst_vars; simp only [stageF, if_neg c2]⟩
set_option maxHeartbeats 4000000 in
set_option maxRecDepth 100000 in
theorem c_B_gearAt {l : Launch} {D : va_G} {dA : Nat → ClassId} {g : Nat → Option va_E}  (hB : g a = some (beltE num len spd sen onto run tel told gb wat ag ap aw)) (hG : g ag = some (intE dA 8 fg)) (t : Int64) : CtI l D classes (tyL dA) y_B_gearAt b_B_gearAt 3 (some .int) rm_B_gearAt [.ref a, .long t] g (fun r g' => g = g' ∧ r = fg (stageF told t).toNatClampNeg) := by
  refine CtI.of (by decide) (Nat.le_of_ble_eq_true rfl) ?_
  intro p e s m below meth c X hr hlk hnm
  refine go_aload_n X (z := 0) d_B_gearAt_0 rfl rfl ?_
  refine go_get X u_B rfl 10 (by decide) gm_fl_B_33 rfl d_B_gearAt_1 hB rfl ?_
  refine go_aload_n X (z := 0) d_B_gearAt_4 rfl rfl ?_
  refine go_lload_n X (z := 1) d_B_gearAt_5 rfl rfl ?_
  refine go_callI_V X (As := [.long t]) (rest := [.ref ag]) (c_B_stageAt hB t) gm_ml_B_82 cw_B_stageAt ⟨by decide, by decide⟩ rfl hB rfl rfl (Nat.le_of_ble_eq_true rfl) d_B_gearAt_6 ⟨by decide, by decide⟩ (fun r1 g1 hp => ?_)
  obtain ⟨rfl, rfl⟩ := hp
  refine go_iald X 0 rfl d_B_gearAt_9 hG (stageF_in told t) ?_
  exact go_retI X hr hlk d_B_gearAt_10 ⟨rfl, rfl⟩
set_option maxHeartbeats 4000000 in
set_option maxRecDepth 100000 in
theorem c_B_wayAt {l : Launch} {D : va_G} {dA : Nat → ClassId} {g : Nat → Option va_E}  (hB : g a = some (beltE num len spd sen onto run tel told gb wat ag ap aw)) (hP : g ap = some (lonE dA 8 fp)) (hW : g aw = some (lonE dA 8 fw)) (t : Int64) : CtL l D classes (tyL dA) y_B_wayAt b_B_wayAt 4 (some .long) rm_B_wayAt [.ref a, .long t] g (fun r g' => g = g' ∧ r = wayF told fp fw t) := by
  refine CtL.of (by decide) (Nat.le_of_ble_eq_true rfl) ?_
  intro p e s m below meth c X hr hlk hnm
  refine go_aload_n X (z := 0) d_B_wayAt_0 rfl rfl ?_
  refine go_lload_n X (z := 1) d_B_wayAt_1 rfl rfl ?_
  refine go_callI_V X (As := [.long t]) (rest := []) (c_B_stageAt hB t) gm_ml_B_82 cw_B_stageAt ⟨by decide, by decide⟩ rfl hB rfl rfl (Nat.le_of_ble_eq_true rfl) d_B_wayAt_2 ⟨by decide, by decide⟩ (fun r1 g1 hp => ?_)
  obtain ⟨rfl, rfl⟩ := hp
  refine go_topi (fun x1 ex1 => ?_)
  refine go_istore_n X (lv' := [(3, .int x1), (0, .ref a), (1, .long t)]) d_B_wayAt_5 rfl (by decide) rfl ?_
  refine go_aload_n X (z := 1) d_B_wayAt_6 rfl rfl ?_
  refine go_get X u_B rfl 12 (by decide) gm_fl_B_41 rfl d_B_wayAt_7 hB rfl ?_
  refine go_iload_n X (z := 0) d_B_wayAt_10 rfl rfl ?_
  refine go_lald X 1 rfl d_B_wayAt_11 hW (by rw [ex1]; exact stageF_in told t) ?_
  refine go_lload_n X (z := 2) d_B_wayAt_12 rfl rfl ?_
  refine go_aload_n X (z := 1) d_B_wayAt_13 rfl rfl ?_
  refine go_get X u_B rfl 7 (by decide) gm_fl_B_23 rfl d_B_wayAt_14 hB rfl ?_
  refine go_lsub X d_B_wayAt_17 ?_
  refine go_iload_n X (z := 0) d_B_wayAt_18 rfl rfl ?_
  refine go_i2l X d_B_wayAt_19 rfl ?_
  refine go_ldc2 X d_B_wayAt_20 gm_k_B_80 ?_
  refine go_lmul X d_B_wayAt_23 ?_
  refine go_lsub X d_B_wayAt_24 ?_
  refine go_aload_n X (z := 1) d_B_wayAt_25 rfl rfl ?_
  refine go_get X u_B rfl 11 (by decide) gm_fl_B_37 rfl d_B_wayAt_26 hB rfl ?_
  refine go_iload_n X (z := 0) d_B_wayAt_29 rfl rfl ?_
  refine go_lald X 1 rfl d_B_wayAt_30 hP (by rw [ex1]; exact stageF_in told t) ?_
  refine go_lmul X d_B_wayAt_31 ?_
  refine go_ladd X d_B_wayAt_32 ?_
  exact go_retL X hr hlk d_B_wayAt_33 ⟨rfl, by subst ex1; rfl⟩
set_option maxHeartbeats 4000000 in
set_option maxRecDepth 100000 in
theorem c_B_timeOfWay {l : Launch} {D : va_G} {dA : Nat → ClassId} {g : Nat → Option va_E}  (hB : g a = some (beltE num len spd sen onto run tel told gb wat ag ap aw)) (hP : g ap = some (lonE dA 8 fp)) (hW : g aw = some (lonE dA 8 fw)) (t : Int64) : CtL l D classes (tyL dA) y_B_timeOfWay b_B_timeOfWay 10 (some .long) rm_B_timeOfWay [.ref a, .long t] g (fun r g' => g = g' ∧ r = towF told fp fw t) := by
  refine CtL.of (by decide) (Nat.le_of_ble_eq_true rfl) ?_
  intro p e s m below meth c X hr hlk hnm
  have tail : ∀ k : Nat, k < 8 → towF told fp fw t = towA told fp fw t k → Go p l e rm_B_timeOfWay s m [.ref a, .long t].toArray below meth c D classes (gA g s.heap.size) 10 (MQ below (va_Ql (fun r g' => g = g' ∧ r = towF told fp fw t) (fun (g' : Nat → Option va_E) (t : State) => PW D classes (gA g s.heap.size) g' t.heap) (gA g s.heap.size)) [.ref a, .long t].toArray s 0 0 (gA g s.heap.size)) g 0 0 27 [(3, .int ((nI k))), (0, .ref a), (1, .long t)] [] := by
    intro k hk he
    refine go_aload_n X (z := 1) d_B_timeOfWay_27 rfl rfl ?_
    refine go_get X u_B rfl 7 (by decide) gm_fl_B_23 rfl d_B_timeOfWay_28 hB rfl ?_
    refine go_iload_n X (z := 0) d_B_timeOfWay_31 rfl rfl ?_
    refine go_i2l X d_B_timeOfWay_32 rfl ?_
    refine go_ldc2 X d_B_timeOfWay_33 gm_k_B_80 ?_
    refine go_lmul X d_B_timeOfWay_36 ?_
    refine go_ladd X d_B_timeOfWay_37 ?_
    refine go_topl (fun x1 ex1 => ?_)
    refine go_lstore X (lv' := [(4, .long x1), (3, .int ((nI k))), (0, .ref a), (1, .long t)]) d_B_timeOfWay_38 (by decide) rfl ?_
    refine go_lload_n X (z := 3) d_B_timeOfWay_40 rfl rfl ?_
    refine go_aload_n X (z := 2) d_B_timeOfWay_41 rfl rfl ?_
    refine go_get X u_B rfl 12 (by decide) gm_fl_B_41 rfl d_B_timeOfWay_42 hB rfl ?_
    refine go_iload_n X (z := 1) d_B_timeOfWay_45 rfl rfl ?_
    refine go_lald X 1 rfl d_B_timeOfWay_46 hW (vp_in_nI hk (by decide)) ?_
    rw [nI_clamp (show k < 2 ^ 31 by omega)]
    refine go_lsub X d_B_timeOfWay_47 ?_
    refine go_topl (fun x2 ex2 => ?_)
    refine go_lstore X (lv' := [(6, .long x2), (4, .long x1), (3, .int ((nI k))), (0, .ref a), (1, .long t)]) d_B_timeOfWay_48 (by decide) rfl ?_
    refine go_lload X (z := 0) d_B_timeOfWay_50 rfl ?_
    refine go_lconst X (v := 0) d_B_timeOfWay_52 (by decide) ?_
    refine go_lif_gt X (tgt := 60) d_B_timeOfWay_53 d_B_timeOfWay_54 rfl (fun c3 => ?_) (fun c3 => ?_)
    · refine go_aload_n X (z := 3) d_B_timeOfWay_60 rfl rfl ?_
      refine go_get X u_B rfl 11 (by decide) gm_fl_B_37 rfl d_B_timeOfWay_61 hB rfl ?_
      refine go_iload_n X (z := 2) d_B_timeOfWay_64 rfl rfl ?_
      refine go_lald X 1 rfl d_B_timeOfWay_65 hP (vp_in_nI hk (by decide)) ?_
      rw [nI_clamp (show k < 2 ^ 31 by omega)]
      refine go_topl (fun x4 ex4 => ?_)
      refine go_lstore X (lv' := [(8, .long x4), (6, .long x2), (4, .long x1), (3, .int ((nI k))), (0, .ref a), (1, .long t)]) d_B_timeOfWay_66 (by decide) rfl ?_
      refine go_lload X (z := 0) d_B_timeOfWay_68 rfl ?_
      refine go_lconst X (v := 0) d_B_timeOfWay_70 (by decide) ?_
      refine go_lif_le X (tgt := 91) d_B_timeOfWay_71 d_B_timeOfWay_72 rfl (fun c5 => ?_) (fun c5 => ?_)
      · refine go_ldc2 X d_B_timeOfWay_91 gm_k_B_85 ?_
        exact go_retL X hr hlk d_B_timeOfWay_94 ⟨rfl, by rw [he]; subst_vars; simp only [towA, if_pos c3, if_pos c5]⟩
      · refine go_lload X (z := 2) d_B_timeOfWay_75 rfl ?_
        refine go_lload X (z := 1) d_B_timeOfWay_77 rfl ?_
        refine go_lload X (z := 0) d_B_timeOfWay_79 rfl ?_
        refine go_ladd X d_B_timeOfWay_81 ?_
        refine go_lconst X (v := 1) d_B_timeOfWay_82 (by decide) ?_
        refine go_lsub X d_B_timeOfWay_83 ?_
        refine go_lload X (z := 0) d_B_timeOfWay_84 rfl ?_
        refine go_ldiv X d_B_timeOfWay_86 (fun h => c5 (by rw [h]; decide)) ?_
        refine go_ladd X d_B_timeOfWay_87 ?_
        refine go_goto X (tgt := 94) d_B_timeOfWay_88 rfl ?_
        exact go_retL X hr hlk d_B_timeOfWay_94 ⟨rfl, by rw [he]; subst_vars; simp only [towA, if_pos c3, if_neg c5]⟩
    · refine go_lload X (z := 1) d_B_timeOfWay_57 rfl ?_
      exact go_retL X hr hlk d_B_timeOfWay_59 ⟨rfl, by rw [he]; subst_vars; simp only [towA, if_neg c3]⟩
  have loop : ∀ n k : Nat, k + n = 7 → towF told fp fw t = towA told fp fw t (stgF fw t n k) → Go p l e rm_B_timeOfWay s m [.ref a, .long t].toArray below meth c D classes (gA g s.heap.size) 10 (MQ below (va_Ql (fun r g' => g = g' ∧ r = towF told fp fw t) (fun (g' : Nat → Option va_E) (t : State) => PW D classes (gA g s.heap.size) g' t.heap) (gA g s.heap.size)) [.ref a, .long t].toArray s 0 0 (gA g s.heap.size)) g 0 0 2 [(3, .int ((nI k))), (0, .ref a), (1, .long t)] [] := by
    intro n
    induction n with
    | zero =>
      intro k hk he
      have hk7 : k = 7 := by omega
      subst hk7
      refine go_iload_n X (z := 0) d_B_timeOfWay_2 rfl rfl ?_
      refine go_bipush X (v := 7) d_B_timeOfWay_3 (by decide) ?_
      refine go_icmp_ge X (tgt := 27) d_B_timeOfWay_5 rfl (fun _ => ?_) (fun h => absurd (by decide) h)
      exact tail 7 (by decide) he
    | succ n ih =>
      intro k hk he
      refine go_iload_n X (z := 0) d_B_timeOfWay_2 rfl rfl ?_
      refine go_bipush X (v := 7) d_B_timeOfWay_3 (by decide) ?_
      refine go_icmp_ge X (tgt := 27) d_B_timeOfWay_5 rfl (fun h => absurd h (nI_ge (a := k) (b := 7) (by omega) (by decide))) (fun _ => ?_)
      refine go_aload_n X (z := 1) d_B_timeOfWay_8 rfl rfl ?_
      refine go_get X u_B rfl 12 (by decide) gm_fl_B_41 rfl d_B_timeOfWay_9 hB rfl ?_
      refine go_iload_n X (z := 0) d_B_timeOfWay_12 rfl rfl ?_
      refine go_iconst X (v := 1) d_B_timeOfWay_13 (by decide) ?_
      refine go_iadd X d_B_timeOfWay_14 ?_
      refine go_lald X 1 rfl d_B_timeOfWay_15 hW (by rw [nI_1]; exact vp_in_nI (by omega) (by decide)) ?_
      rw [nI_1, nI_clamp (show k + 1 < 2 ^ 31 by omega)]
      refine go_lload_n X (z := 2) d_B_timeOfWay_16 rfl rfl ?_
      refine go_lif_ge X (tgt := 27) d_B_timeOfWay_17 d_B_timeOfWay_18 rfl (fun c201 => ?_) (fun c201 => ?_)
      · exact tail k (by omega) (by rw [he]; simp only [stgF]; rw [if_neg (Int64.not_lt.mpr c201)])
      · refine go_iinc X (j := 0) (v := nI (k + 1)) d_B_timeOfWay_21 rfl (nI_1 k) (by decide) rfl ?_
        refine go_goto X (tgt := 2) d_B_timeOfWay_24 rfl ?_
        exact ih (k + 1) (by omega) (by rw [he]; simp only [stgF]; rw [if_pos (Int64.not_le.mp c201)])
  refine go_iconst X (v := 0) d_B_timeOfWay_0 (by decide) ?_
  refine go_istore_n X (lv' := [(3, .int (nI 0)), (0, .ref a), (1, .long t)]) d_B_timeOfWay_1 rfl (by decide) rfl ?_
  exact loop 7 0 rfl rfl
end BELT
end
section
/-! Belt: layStages, tell, the constructor. -/
def gearM (run gb : Int32) (k : Nat) : Int32 := if run = 0 then gb - nI k - 1 else gb + nI k + 1
def gearF (run gb : Int32) (k : Nat) : Int32 := if 0 < (if gearM run gb k < 8 then gearM run gb k else 8) then (if gearM run gb k < 8 then gearM run gb k else 8) else 0
def paceF (spd : Int64) (q : Int32) : Int64 := spd * q.toInt64 / 8
def wayS (wat spd : Int64) (run gb : Int32) : Nat → Int64
  | 0 => wat
  | k + 1 => wayS wat spd run gb k + paceF spd (gearF run gb k) * 20
def Laid (dA : Nat → ClassId) (ag ap aw : Nat) (spd : Int64) (run gb : Int32) (wat : Int64) (n : Nat) (g g' : Nat → Option va_E) : Prop :=
  ∃ (fg : Nat → Int32) (fp fw : Nat → Int64), g' ag = some (intE dA 8 fg) ∧ g' ap = some (lonE dA 8 fp) ∧ g' aw = some (lonE dA 8 fw) ∧ (∀ j, j < n → fg j = gearF run gb j ∧ fp j = paceF spd (gearF run gb j) ∧ fw j = wayS wat spd run gb j) ∧ ∀ q, q ≠ ag → q ≠ ap → q ≠ aw → g' q = g q
theorem laid_step {run gb : Int32} {spd wat : Int64} {fg : Nat → Int32} {fp fw : Nat → Int64} {k : Nat} {x1 : Int32} {x2 x3 : Int64} (h : ∀ j, j < k → fg j = gearF run gb j ∧ fp j = paceF spd (gearF run gb j) ∧ fw j = wayS wat spd run gb j) (h1 : x1 = gearF run gb k) (h2 : x2 = paceF spd (gearF run gb k)) (h3 : x3 = wayS wat spd run gb k) : ∀ j, j < k + 1 → upd fg k x1 j = gearF run gb j ∧ vp_updL fp k x2 j = paceF spd (gearF run gb j) ∧ vp_updL fw k x3 j = wayS wat spd run gb j := by
  intro j hj
  by_cases hk : j = k
  · subst hk
    rw [pk_us, pk_uLs, pk_uLs]
    exact ⟨h1, h2, h3⟩
  · rw [pk_un hk, pk_uLn hk, pk_uLn hk]
    exact h j (by omega)
section BELT2
variable {num : Int32} {len spd sen : Int64} {onto : Option Nat} {run tel : Int32} {told : Int64} {gb : Int32} {wat : Int64} {ag ap aw a : Nat} {fg : Nat → Int32} {fp fw : Nat → Int64}
set_option maxHeartbeats 4000000 in
set_option maxRecDepth 100000 in
theorem c_B_layStages {l : Launch} {D : va_G} {dA : Nat → ClassId} {g : Nat → Option va_E}  (hB : g a = some (beltE num len spd sen onto run tel told gb wat ag ap aw)) (hG : g ag = some (intE dA 8 fg)) (hP : g ap = some (lonE dA 8 fp)) (hW : g aw = some (lonE dA 8 fw)) (hpw : ap ≠ aw) : CtV l D classes (tyL dA) y_B_layStages b_B_layStages 5 none rm_B_layStages [.ref a] g (fun g' => Laid dA ag ap aw spd run gb wat 8 g g') := by
  refine CtV.of (by decide) (Nat.le_of_ble_eq_true rfl) ?_
  intro p e s m below meth c X hr hlk hnm
  have loop : ∀ (n k : Nat) (g1 : Nat → Option va_E) (fg : Nat → Int32) (fp fw : Nat → Int64), k + n = 8 → g1 a = some (beltE num len spd sen onto run tel told gb wat ag ap aw) → g1 ag = some (intE dA 8 fg) → g1 ap = some (lonE dA 8 fp) → g1 aw = some (lonE dA 8 fw) → (∀ j, j < k → fg j = gearF run gb j ∧ fp j = paceF spd (gearF run gb j) ∧ fw j = wayS wat spd run gb j) → (∀ q, q ≠ ag → q ≠ ap → q ≠ aw → g1 q = g q) → Go p l e rm_B_layStages s m [.ref a].toArray below meth c D classes (gA g s.heap.size) 5 (MQ below (va_Qv (fun g' => Laid dA ag ap aw spd run gb wat 8 g g') (fun (g' : Nat → Option va_E) (t : State) => PW D classes (gA g s.heap.size) g' t.heap) (gA g s.heap.size)) [.ref a].toArray s 0 0 (gA g s.heap.size)) g1 0 0 7 [(3, .int ((nI k))), (0, .ref a), (1, .long ((wayS wat spd run gb k)))] [] := by
    intro n
    induction n with
    | zero =>
      intro k g1 fg fp fw hk hB hG hP hW hI hF
      have hk8 : k = 8 := by omega
      subst hk8
      refine go_iload_n X (z := 0) d_B_layStages_7 rfl rfl ?_
      refine go_bipush X (v := 8) d_B_layStages_8 (by decide) ?_
      refine go_icmp_ge X (tgt := 106) d_B_layStages_10 rfl (fun _ => ?_) (fun h => absurd (by decide) h)
      exact go_retV X hr hlk d_B_layStages_106 ⟨fg, fp, fw, hG, hP, hW, hI, hF⟩
    | succ n ih =>
      intro k g1 fg fp fw hk hB hG hP hW hI hF
      have hk31 : (nI k).toNatClampNeg = k := nI_clamp (by omega)
      refine go_iload_n X (z := 0) d_B_layStages_7 rfl rfl ?_
      refine go_bipush X (v := 8) d_B_layStages_8 (by decide) ?_
      refine go_icmp_ge X (tgt := 106) d_B_layStages_10 rfl (fun h => absurd h (nI_ge (a := k) (b := 8) (by omega) (by decide))) (fun _ => ?_)
      refine go_aload_n X (z := 1) d_B_layStages_13 rfl rfl ?_
      refine go_get X u_B rfl 5 (by decide) gm_fl_B_15 rfl d_B_layStages_14 hB rfl ?_
      refine go_if_eq X (tgt := 31) d_B_layStages_17 rfl (fun c1 => ?_) (fun c1 => ?_)
      · refine go_aload_n X (z := 1) d_B_layStages_31 rfl rfl ?_
        refine go_get X u_B rfl 8 (by decide) gm_fl_B_27 rfl d_B_layStages_32 hB rfl ?_
        refine go_iload_n X (z := 0) d_B_layStages_35 rfl rfl ?_
        refine go_isub X d_B_layStages_36 ?_
        refine go_iconst X (v := 1) d_B_layStages_37 (by decide) ?_
        refine go_isub X d_B_layStages_38 ?_
        refine go_topi (fun x2 ex2 => ?_)
        refine go_istore X (lv' := [(4, .int x2), (3, .int ((nI k))), (0, .ref a), (1, .long ((wayS wat spd run gb k)))]) d_B_layStages_39 (by decide) rfl ?_
        refine go_aload_n X (z := 2) d_B_layStages_41 rfl rfl ?_
        refine go_get X u_B rfl 10 (by decide) gm_fl_B_33 rfl d_B_layStages_42 hB rfl ?_
        refine go_iload_n X (z := 1) d_B_layStages_45 rfl rfl ?_
        refine go_iconst X (v := 0) d_B_layStages_46 (by decide) ?_
        refine go_bipush X (v := 8) d_B_layStages_47 (by decide) ?_
        refine go_iload X (z := 0) d_B_layStages_49 rfl ?_
        refine go_mmin X gm_ml_B_69 gm_st_min gm_ini_J gm_code_min d_B_layStages_51 (by decide) (Nat.le_of_ble_eq_true rfl) (by decide) (by decide) ?_
        refine go_mmax X gm_ml_B_75 gm_st_max gm_ini_J gm_code_max d_B_layStages_54 (by decide) (Nat.le_of_ble_eq_true rfl) (by decide) (by decide) ?_
        refine go_topi (fun x3 ex3 => ?_)
        refine go_iast X 0 rfl d_B_layStages_57 hG (vp_in_nI (by omega) (by decide)) ?_
        refine go_gen (fun g4 eg4 => ?_)
        have eg4 : g4 = va_up g1 ag (some (.inl (dA 0, 8, .inl (upd fg k x3)))) := by rw [eg4, hk31]
        have h5 : g4 a = some (.inr (0, [.int num, .long len, .long spd, .long sen, va_rf onto, .int run, .int tel, .long told, .int gb, .long wat, .ref ag, .ref ap, .ref aw])) := by rw [eg4, va_up_ne _ _ (ne_kind1 hB hG)]; exact hB
        have h6 : g4 ap = some (.inl (dA 1, 8, .inr (.inl fp))) := by rw [eg4, va_up_ne _ _ (ne_arr10 hP hG)]; exact hP
        have h7 : g4 aw = some (.inl (dA 1, 8, .inr (.inl fw))) := by rw [eg4, va_up_ne _ _ (ne_arr10 hW hG)]; exact hW
        have h8 : g4 ag = some (.inl (dA 0, 8, .inl (upd fg k x3))) := by rw [eg4]; exact va_up_self _ _ _
        refine go_aload_n X (z := 2) d_B_layStages_58 rfl rfl ?_
        refine go_get X u_B rfl 11 (by decide) gm_fl_B_37 rfl d_B_layStages_59 h5 rfl ?_
        refine go_iload_n X (z := 1) d_B_layStages_62 rfl rfl ?_
        refine go_aload_n X (z := 2) d_B_layStages_63 rfl rfl ?_
        refine go_get X u_B rfl 2 (by decide) gm_fl_B_50 rfl d_B_layStages_64 h5 rfl ?_
        refine go_aload_n X (z := 2) d_B_layStages_67 rfl rfl ?_
        refine go_get X u_B rfl 10 (by decide) gm_fl_B_33 rfl d_B_layStages_68 h5 rfl ?_
        refine go_iload_n X (z := 1) d_B_layStages_71 rfl rfl ?_
        refine go_iald X 0 rfl d_B_layStages_72 h8 (vp_in_nI (by omega) (by decide)) ?_
        rw [hk31]
        rw [pk_us]
        refine go_i2l X d_B_layStages_73 rfl ?_
        refine go_lmul X d_B_layStages_74 ?_
        refine go_ldc2 X d_B_layStages_75 gm_k_B_78 ?_
        refine go_ldiv X d_B_layStages_78 (by decide) ?_
        refine go_topl (fun x9 ex9 => ?_)
        refine go_last X 1 rfl d_B_layStages_79 h6 (vp_in_nI (by omega) (by decide)) ?_
        refine go_gen (fun g10 eg10 => ?_)
        have eg10 : g10 = va_up g4 ap (some (.inl (dA 1, 8, .inr (.inl (vp_updL fp k x9))))) := by rw [eg10, hk31]
        have h11 : g10 a = some (.inr (0, [.int num, .long len, .long spd, .long sen, va_rf onto, .int run, .int tel, .long told, .int gb, .long wat, .ref ag, .ref ap, .ref aw])) := by rw [eg10, va_up_ne _ _ (ne_kind1 h5 h6)]; exact h5
        have h12 : g10 ag = some (.inl (dA 0, 8, .inl (upd fg k x3))) := by rw [eg10, va_up_ne _ _ (ne_arr01 h8 h6)]; exact h8
        have h13 : g10 aw = some (.inl (dA 1, 8, .inr (.inl fw))) := by rw [eg10, va_up_ne _ _ (Ne.symm hpw)]; exact h7
        have h14 : g10 ap = some (.inl (dA 1, 8, .inr (.inl (vp_updL fp k x9)))) := by rw [eg10]; exact va_up_self _ _ _
        refine go_aload_n X (z := 2) d_B_layStages_80 rfl rfl ?_
        refine go_get X u_B rfl 12 (by decide) gm_fl_B_41 rfl d_B_layStages_81 h11 rfl ?_
        refine go_iload_n X (z := 1) d_B_layStages_84 rfl rfl ?_
        refine go_lload_n X (z := 3) d_B_layStages_85 rfl rfl ?_
        refine go_topl (fun x15 ex15 => ?_)
        refine go_last X 1 rfl d_B_layStages_86 h13 (vp_in_nI (by omega) (by decide)) ?_
        refine go_gen (fun g16 eg16 => ?_)
        have eg16 : g16 = va_up g10 aw (some (.inl (dA 1, 8, .inr (.inl (vp_updL fw k x15))))) := by rw [eg16, hk31]
        have h17 : g16 a = some (.inr (0, [.int num, .long len, .long spd, .long sen, va_rf onto, .int run, .int tel, .long told, .int gb, .long wat, .ref ag, .ref ap, .ref aw])) := by rw [eg16, va_up_ne _ _ (ne_kind1 h11 h13)]; exact h11
        have h18 : g16 ag = some (.inl (dA 0, 8, .inl (upd fg k x3))) := by rw [eg16, va_up_ne _ _ (ne_arr01 h12 h13)]; exact h12
        have h19 : g16 ap = some (.inl (dA 1, 8, .inr (.inl (vp_updL fp k x9)))) := by rw [eg16, va_up_ne _ _ hpw]; exact h14
        have h20 : g16 aw = some (.inl (dA 1, 8, .inr (.inl (vp_updL fw k x15)))) := by rw [eg16]; exact va_up_self _ _ _
        refine go_lload_n X (z := 3) d_B_layStages_87 rfl rfl ?_
        refine go_aload_n X (z := 2) d_B_layStages_88 rfl rfl ?_
        refine go_get X u_B rfl 11 (by decide) gm_fl_B_37 rfl d_B_layStages_89 h17 rfl ?_
        refine go_iload_n X (z := 1) d_B_layStages_92 rfl rfl ?_
        refine go_lald X 1 rfl d_B_layStages_93 h19 (vp_in_nI (by omega) (by decide)) ?_
        rw [hk31]
        rw [pk_uLs]
        refine go_ldc2 X d_B_layStages_94 gm_k_B_80 ?_
        refine go_lmul X d_B_layStages_97 ?_
        refine go_ladd X d_B_layStages_98 ?_
        refine go_topl (fun x21 ex21 => ?_)
        refine go_lstore_n X (lv' := [(1, .long x21), (4, .int x2), (3, .int ((nI k))), (0, .ref a)]) d_B_layStages_99 rfl (by decide) rfl ?_
        have q1 : x3 = gearF run gb k := by rw [ex3, ex2]; simp only [gearF, gearM, c1, ↓reduceIte]
        have q2 : x9 = paceF spd (gearF run gb k) := by rw [ex9, q1]; rfl
        have q3 : x21 = wayS wat spd run gb (k + 1) := by rw [ex21, q2]; rfl
        subst q3
        refine go_iinc X (j := 2) (v := nI (k + 1)) d_B_layStages_100 rfl (nI_1 k) (by decide) rfl ?_
        refine go_goto X (tgt := 7) d_B_layStages_103 rfl ?_
        refine go_sub (lv' := [(3, .int (nI (k + 1))), (0, .ref a), (1, .long (wayS wat spd run gb (k + 1)))]) [0, 3, 1] rfl ?_
        exact ih (k + 1) _ _ _ _ (by omega) h17 h18 h19 h20 (laid_step hI q1 q2 ex15) (fun q n1 n2 n3 => by rw [eg16, va_up_ne _ _ n3, eg10, va_up_ne _ _ n2, eg4, va_up_ne _ _ n1]; exact hF q n1 n2 n3)
      · refine go_aload_n X (z := 1) d_B_layStages_20 rfl rfl ?_
        refine go_get X u_B rfl 8 (by decide) gm_fl_B_27 rfl d_B_layStages_21 hB rfl ?_
        refine go_iload_n X (z := 0) d_B_layStages_24 rfl rfl ?_
        refine go_iadd X d_B_layStages_25 ?_
        refine go_iconst X (v := 1) d_B_layStages_26 (by decide) ?_
        refine go_iadd X d_B_layStages_27 ?_
        refine go_goto X (tgt := 39) d_B_layStages_28 rfl ?_
        refine go_topi (fun x22 ex22 => ?_)
        refine go_istore X (lv' := [(4, .int x22), (3, .int ((nI k))), (0, .ref a), (1, .long ((wayS wat spd run gb k)))]) d_B_layStages_39 (by decide) rfl ?_
        refine go_aload_n X (z := 2) d_B_layStages_41 rfl rfl ?_
        refine go_get X u_B rfl 10 (by decide) gm_fl_B_33 rfl d_B_layStages_42 hB rfl ?_
        refine go_iload_n X (z := 1) d_B_layStages_45 rfl rfl ?_
        refine go_iconst X (v := 0) d_B_layStages_46 (by decide) ?_
        refine go_bipush X (v := 8) d_B_layStages_47 (by decide) ?_
        refine go_iload X (z := 0) d_B_layStages_49 rfl ?_
        refine go_mmin X gm_ml_B_69 gm_st_min gm_ini_J gm_code_min d_B_layStages_51 (by decide) (Nat.le_of_ble_eq_true rfl) (by decide) (by decide) ?_
        refine go_mmax X gm_ml_B_75 gm_st_max gm_ini_J gm_code_max d_B_layStages_54 (by decide) (Nat.le_of_ble_eq_true rfl) (by decide) (by decide) ?_
        refine go_topi (fun x23 ex23 => ?_)
        refine go_iast X 0 rfl d_B_layStages_57 hG (vp_in_nI (by omega) (by decide)) ?_
        refine go_gen (fun g24 eg24 => ?_)
        have eg24 : g24 = va_up g1 ag (some (.inl (dA 0, 8, .inl (upd fg k x23)))) := by rw [eg24, hk31]
        have h25 : g24 a = some (.inr (0, [.int num, .long len, .long spd, .long sen, va_rf onto, .int run, .int tel, .long told, .int gb, .long wat, .ref ag, .ref ap, .ref aw])) := by rw [eg24, va_up_ne _ _ (ne_kind1 hB hG)]; exact hB
        have h26 : g24 ap = some (.inl (dA 1, 8, .inr (.inl fp))) := by rw [eg24, va_up_ne _ _ (ne_arr10 hP hG)]; exact hP
        have h27 : g24 aw = some (.inl (dA 1, 8, .inr (.inl fw))) := by rw [eg24, va_up_ne _ _ (ne_arr10 hW hG)]; exact hW
        have h28 : g24 ag = some (.inl (dA 0, 8, .inl (upd fg k x23))) := by rw [eg24]; exact va_up_self _ _ _
        refine go_aload_n X (z := 2) d_B_layStages_58 rfl rfl ?_
        refine go_get X u_B rfl 11 (by decide) gm_fl_B_37 rfl d_B_layStages_59 h25 rfl ?_
        refine go_iload_n X (z := 1) d_B_layStages_62 rfl rfl ?_
        refine go_aload_n X (z := 2) d_B_layStages_63 rfl rfl ?_
        refine go_get X u_B rfl 2 (by decide) gm_fl_B_50 rfl d_B_layStages_64 h25 rfl ?_
        refine go_aload_n X (z := 2) d_B_layStages_67 rfl rfl ?_
        refine go_get X u_B rfl 10 (by decide) gm_fl_B_33 rfl d_B_layStages_68 h25 rfl ?_
        refine go_iload_n X (z := 1) d_B_layStages_71 rfl rfl ?_
        refine go_iald X 0 rfl d_B_layStages_72 h28 (vp_in_nI (by omega) (by decide)) ?_
        rw [hk31]
        rw [pk_us]
        refine go_i2l X d_B_layStages_73 rfl ?_
        refine go_lmul X d_B_layStages_74 ?_
        refine go_ldc2 X d_B_layStages_75 gm_k_B_78 ?_
        refine go_ldiv X d_B_layStages_78 (by decide) ?_
        refine go_topl (fun x29 ex29 => ?_)
        refine go_last X 1 rfl d_B_layStages_79 h26 (vp_in_nI (by omega) (by decide)) ?_
        refine go_gen (fun g30 eg30 => ?_)
        have eg30 : g30 = va_up g24 ap (some (.inl (dA 1, 8, .inr (.inl (vp_updL fp k x29))))) := by rw [eg30, hk31]
        have h31 : g30 a = some (.inr (0, [.int num, .long len, .long spd, .long sen, va_rf onto, .int run, .int tel, .long told, .int gb, .long wat, .ref ag, .ref ap, .ref aw])) := by rw [eg30, va_up_ne _ _ (ne_kind1 h25 h26)]; exact h25
        have h32 : g30 ag = some (.inl (dA 0, 8, .inl (upd fg k x23))) := by rw [eg30, va_up_ne _ _ (ne_arr01 h28 h26)]; exact h28
        have h33 : g30 aw = some (.inl (dA 1, 8, .inr (.inl fw))) := by rw [eg30, va_up_ne _ _ (Ne.symm hpw)]; exact h27
        have h34 : g30 ap = some (.inl (dA 1, 8, .inr (.inl (vp_updL fp k x29)))) := by rw [eg30]; exact va_up_self _ _ _
        refine go_aload_n X (z := 2) d_B_layStages_80 rfl rfl ?_
        refine go_get X u_B rfl 12 (by decide) gm_fl_B_41 rfl d_B_layStages_81 h31 rfl ?_
        refine go_iload_n X (z := 1) d_B_layStages_84 rfl rfl ?_
        refine go_lload_n X (z := 3) d_B_layStages_85 rfl rfl ?_
        refine go_topl (fun x35 ex35 => ?_)
        refine go_last X 1 rfl d_B_layStages_86 h33 (vp_in_nI (by omega) (by decide)) ?_
        refine go_gen (fun g36 eg36 => ?_)
        have eg36 : g36 = va_up g30 aw (some (.inl (dA 1, 8, .inr (.inl (vp_updL fw k x35))))) := by rw [eg36, hk31]
        have h37 : g36 a = some (.inr (0, [.int num, .long len, .long spd, .long sen, va_rf onto, .int run, .int tel, .long told, .int gb, .long wat, .ref ag, .ref ap, .ref aw])) := by rw [eg36, va_up_ne _ _ (ne_kind1 h31 h33)]; exact h31
        have h38 : g36 ag = some (.inl (dA 0, 8, .inl (upd fg k x23))) := by rw [eg36, va_up_ne _ _ (ne_arr01 h32 h33)]; exact h32
        have h39 : g36 ap = some (.inl (dA 1, 8, .inr (.inl (vp_updL fp k x29)))) := by rw [eg36, va_up_ne _ _ hpw]; exact h34
        have h40 : g36 aw = some (.inl (dA 1, 8, .inr (.inl (vp_updL fw k x35)))) := by rw [eg36]; exact va_up_self _ _ _
        refine go_lload_n X (z := 3) d_B_layStages_87 rfl rfl ?_
        refine go_aload_n X (z := 2) d_B_layStages_88 rfl rfl ?_
        refine go_get X u_B rfl 11 (by decide) gm_fl_B_37 rfl d_B_layStages_89 h37 rfl ?_
        refine go_iload_n X (z := 1) d_B_layStages_92 rfl rfl ?_
        refine go_lald X 1 rfl d_B_layStages_93 h39 (vp_in_nI (by omega) (by decide)) ?_
        rw [hk31]
        rw [pk_uLs]
        refine go_ldc2 X d_B_layStages_94 gm_k_B_80 ?_
        refine go_lmul X d_B_layStages_97 ?_
        refine go_ladd X d_B_layStages_98 ?_
        refine go_topl (fun x41 ex41 => ?_)
        refine go_lstore_n X (lv' := [(1, .long x41), (4, .int x22), (3, .int ((nI k))), (0, .ref a)]) d_B_layStages_99 rfl (by decide) rfl ?_
        have q1 : x23 = gearF run gb k := by rw [ex23, ex22]; simp only [gearF, gearM, c1, ↓reduceIte]
        have q2 : x29 = paceF spd (gearF run gb k) := by rw [ex29, q1]; rfl
        have q3 : x41 = wayS wat spd run gb (k + 1) := by rw [ex41, q2]; rfl
        subst q3
        refine go_iinc X (j := 2) (v := nI (k + 1)) d_B_layStages_100 rfl (nI_1 k) (by decide) rfl ?_
        refine go_goto X (tgt := 7) d_B_layStages_103 rfl ?_
        refine go_sub (lv' := [(3, .int (nI (k + 1))), (0, .ref a), (1, .long (wayS wat spd run gb (k + 1)))]) [0, 3, 1] rfl ?_
        exact ih (k + 1) _ _ _ _ (by omega) h37 h38 h39 h40 (laid_step hI q1 q2 ex35) (fun q n1 n2 n3 => by rw [eg36, va_up_ne _ _ n3, eg30, va_up_ne _ _ n2, eg24, va_up_ne _ _ n1]; exact hF q n1 n2 n3)
  refine go_aload_n X (z := 0) d_B_layStages_0 rfl rfl ?_
  refine go_get X u_B rfl 9 (by decide) gm_fl_B_30 rfl d_B_layStages_1 hB rfl ?_
  refine go_lstore_n X (lv' := [(1, .long wat), (0, .ref a)]) d_B_layStages_4 rfl (by decide) rfl ?_
  refine go_iconst X (v := 0) d_B_layStages_5 (by decide) ?_
  refine go_istore_n X (lv' := [(3, .int 0), (1, .long wat), (0, .ref a)]) d_B_layStages_6 rfl (by decide) rfl ?_
  refine go_sub (lv' := [(3, .int (nI 0)), (0, .ref a), (1, .long (wayS wat spd run gb 0))]) [0, 2, 1] rfl ?_
  exact loop 8 0 g fg fp fw rfl hB hG hP hW (fun j h => absurd h (Nat.not_lt_zero j)) (fun _ _ _ _ => rfl)
set_option maxHeartbeats 4000000 in
set_option maxRecDepth 100000 in
theorem c_B_tell {l : Launch} {D : va_G} {dA : Nat → ClassId} {g : Nat → Option va_E}  (hB : g a = some (beltE num len spd sen onto run tel told gb wat ag ap aw)) (hG : g ag = some (intE dA 8 fg)) (hP : g ap = some (lonE dA 8 fp)) (hW : g aw = some (lonE dA 8 fw)) (hpw : ap ≠ aw) {on : Int32} {t : Int64} (hon : narrow .boolean (.int on) = .int on) (hof : fits .boolean (.int on) = true) : CtV l D classes (tyL dA) y_B_tell b_B_tell 4 none rm_B_tell [.ref a, .int on, .long t] g (fun g' => ∃ g1 : Nat → Option va_E, g1 = va_up g a (some (beltE num len spd sen onto on (tel + 1) t (if t ≤ told then gb else fg (stageF told (t - 1)).toNatClampNeg) (wayF told fp fw t) ag ap aw)) ∧ Laid dA ag ap aw spd on (if t ≤ told then gb else fg (stageF told (t - 1)).toNatClampNeg) (wayF told fp fw t) 8 g1 g') := by
  refine CtV.of (by decide) (Nat.le_of_ble_eq_true rfl) ?_
  intro p e s m below meth c X hr hlk hnm
  refine go_aload_n X (z := 0) d_B_tell_0 rfl rfl ?_
  refine go_aload_n X (z := 0) d_B_tell_1 rfl rfl ?_
  refine go_lload_n X (z := 2) d_B_tell_2 rfl rfl ?_
  refine go_callL_V X (As := [.long t]) (rest := [.ref a]) (c_B_wayAt hB hP hW t) gm_ml_B_58 cw_B_wayAt ⟨by decide, by decide⟩ rfl hB rfl rfl (Nat.le_of_ble_eq_true rfl) d_B_tell_3 ⟨by decide, by decide⟩ (fun r1 gq hp => ?_)
  obtain ⟨rfl, rfl⟩ := hp
  refine go_topl (fun x1 ex1 => ?_)
  refine go_put X u_B rfl 9 (by decide) gm_fl_B_30 rfl t_B t_B_ok n_B rfl rfl rfl d_B_tell_6 hB (Nat.le_of_ble_eq_true rfl) ?_
  refine go_gen (fun g2 eg2 => ?_)
  have eg2 : g2 = va_up g a (some (.inr (0, [.int num, .long len, .long spd, .long sen, va_rf onto, .int run, .int tel, .long told, .int gb, .long x1, .ref ag, .ref ap, .ref aw]))) := eg2
  have h3 : g2 ag = some (.inl (dA 0, 8, .inl fg)) := by rw [eg2, va_up_ne _ _ (ne_kind2 hG hB)]; exact hG
  have h4 : g2 ap = some (.inl (dA 1, 8, .inr (.inl fp))) := by rw [eg2, va_up_ne _ _ (ne_kind2 hP hB)]; exact hP
  have h5 : g2 aw = some (.inl (dA 1, 8, .inr (.inl fw))) := by rw [eg2, va_up_ne _ _ (ne_kind2 hW hB)]; exact hW
  have h6 : g2 a = some (.inr (0, [.int num, .long len, .long spd, .long sen, va_rf onto, .int run, .int tel, .long told, .int gb, .long x1, .ref ag, .ref ap, .ref aw])) := by rw [eg2]; exact va_up_self _ _ _
  refine go_lload_n X (z := 2) d_B_tell_9 rfl rfl ?_
  refine go_aload_n X (z := 0) d_B_tell_10 rfl rfl ?_
  refine go_get X u_B rfl 7 (by decide) gm_fl_B_23 rfl d_B_tell_11 h6 rfl ?_
  refine go_lif_le X (tgt := 29) d_B_tell_14 d_B_tell_15 rfl (fun c7 => ?_) (fun c7 => ?_)
  · refine go_aload_n X (z := 0) d_B_tell_29 rfl rfl ?_
    refine go_lload_n X (z := 2) d_B_tell_30 rfl rfl ?_
    refine go_put X u_B rfl 7 (by decide) gm_fl_B_23 rfl t_B t_B_ok n_B rfl rfl rfl d_B_tell_31 h6 (Nat.le_of_ble_eq_true rfl) ?_
    refine go_gen (fun g8 eg8 => ?_)
    have eg8 : g8 = va_up g2 a (some (.inr (0, [.int num, .long len, .long spd, .long sen, va_rf onto, .int run, .int tel, .long t, .int gb, .long x1, .ref ag, .ref ap, .ref aw]))) := eg8
    have h9 : g8 ag = some (.inl (dA 0, 8, .inl fg)) := by rw [eg8, va_up_ne _ _ (ne_kind2 h3 h6)]; exact h3
    have h10 : g8 ap = some (.inl (dA 1, 8, .inr (.inl fp))) := by rw [eg8, va_up_ne _ _ (ne_kind2 h4 h6)]; exact h4
    have h11 : g8 aw = some (.inl (dA 1, 8, .inr (.inl fw))) := by rw [eg8, va_up_ne _ _ (ne_kind2 h5 h6)]; exact h5
    have h12 : g8 a = some (.inr (0, [.int num, .long len, .long spd, .long sen, va_rf onto, .int run, .int tel, .long t, .int gb, .long x1, .ref ag, .ref ap, .ref aw])) := by rw [eg8]; exact va_up_self _ _ _
    refine go_aload_n X (z := 0) d_B_tell_34 rfl rfl ?_
    refine go_iload_n X (z := 1) d_B_tell_35 rfl rfl ?_
    refine go_put X u_B rfl 5 (by decide) gm_fl_B_15 rfl t_B t_B_ok n_B rfl hon hof d_B_tell_36 h12 (Nat.le_of_ble_eq_true rfl) ?_
    refine go_gen (fun g13 eg13 => ?_)
    have eg13 : g13 = va_up g8 a (some (.inr (0, [.int num, .long len, .long spd, .long sen, va_rf onto, .int on, .int tel, .long t, .int gb, .long x1, .ref ag, .ref ap, .ref aw]))) := eg13
    have h14 : g13 ag = some (.inl (dA 0, 8, .inl fg)) := by rw [eg13, va_up_ne _ _ (ne_kind2 h9 h12)]; exact h9
    have h15 : g13 ap = some (.inl (dA 1, 8, .inr (.inl fp))) := by rw [eg13, va_up_ne _ _ (ne_kind2 h10 h12)]; exact h10
    have h16 : g13 aw = some (.inl (dA 1, 8, .inr (.inl fw))) := by rw [eg13, va_up_ne _ _ (ne_kind2 h11 h12)]; exact h11
    have h17 : g13 a = some (.inr (0, [.int num, .long len, .long spd, .long sen, va_rf onto, .int on, .int tel, .long t, .int gb, .long x1, .ref ag, .ref ap, .ref aw])) := by rw [eg13]; exact va_up_self _ _ _
    refine go_aload_n X (z := 0) d_B_tell_39 rfl rfl ?_
    refine go_dup X d_B_tell_40 rfl ?_
    refine go_get X u_B rfl 6 (by decide) gm_fl_B_19 rfl d_B_tell_41 h17 rfl ?_
    refine go_iconst X (v := 1) d_B_tell_44 (by decide) ?_
    refine go_iadd X d_B_tell_45 ?_
    refine go_topi (fun x18 ex18 => ?_)
    refine go_put X u_B rfl 6 (by decide) gm_fl_B_19 rfl t_B t_B_ok n_B rfl rfl rfl d_B_tell_46 h17 (Nat.le_of_ble_eq_true rfl) ?_
    refine go_gen (fun g19 eg19 => ?_)
    have eg19 : g19 = va_up g13 a (some (.inr (0, [.int num, .long len, .long spd, .long sen, va_rf onto, .int on, .int x18, .long t, .int gb, .long x1, .ref ag, .ref ap, .ref aw]))) := eg19
    have h20 : g19 ag = some (.inl (dA 0, 8, .inl fg)) := by rw [eg19, va_up_ne _ _ (ne_kind2 h14 h17)]; exact h14
    have h21 : g19 ap = some (.inl (dA 1, 8, .inr (.inl fp))) := by rw [eg19, va_up_ne _ _ (ne_kind2 h15 h17)]; exact h15
    have h22 : g19 aw = some (.inl (dA 1, 8, .inr (.inl fw))) := by rw [eg19, va_up_ne _ _ (ne_kind2 h16 h17)]; exact h16
    have h23 : g19 a = some (.inr (0, [.int num, .long len, .long spd, .long sen, va_rf onto, .int on, .int x18, .long t, .int gb, .long x1, .ref ag, .ref ap, .ref aw])) := by rw [eg19]; exact va_up_self _ _ _
    refine go_aload_n X (z := 0) d_B_tell_49 rfl rfl ?_
    refine go_callV_V X (As := []) (rest := []) (c_B_layStages h23 h20 h21 h22 hpw) gm_ml_B_66 cw_B_layStages ⟨by decide, by decide⟩ rfl h23 rfl rfl (Nat.le_of_ble_eq_true rfl) d_B_tell_50 ⟨by decide, by decide⟩ (fun gz hz => ?_)
    exact go_retV X hr hlk d_B_tell_53 ⟨g19, by rw [eg19, eg13, eg8, eg2, bx_uu, bx_uu, bx_uu, if_pos c7]; subst_vars; rfl, by rw [if_pos c7]; subst_vars; exact hz⟩
  · refine go_aload_n X (z := 0) d_B_tell_18 rfl rfl ?_
    refine go_aload_n X (z := 0) d_B_tell_19 rfl rfl ?_
    refine go_lload_n X (z := 2) d_B_tell_20 rfl rfl ?_
    refine go_lconst X (v := 1) d_B_tell_21 (by decide) ?_
    refine go_lsub X d_B_tell_22 ?_
    refine go_callI_V X (As := [.long (t - 1)]) (rest := [.ref a]) (c_B_gearAt h6 h3 (t - 1)) gm_ml_B_62 cw_B_gearAt ⟨by decide, by decide⟩ rfl h6 rfl rfl (Nat.le_of_ble_eq_true rfl) d_B_tell_23 ⟨by decide, by decide⟩ (fun r2 gq2 hp2 => ?_)
    obtain ⟨rfl, rfl⟩ := hp2
    refine go_topi (fun x24 ex24 => ?_)
    refine go_put X u_B rfl 8 (by decide) gm_fl_B_27 rfl t_B t_B_ok n_B rfl rfl rfl d_B_tell_26 h6 (Nat.le_of_ble_eq_true rfl) ?_
    refine go_gen (fun g25 eg25 => ?_)
    have eg25 : g25 = va_up g2 a (some (.inr (0, [.int num, .long len, .long spd, .long sen, va_rf onto, .int run, .int tel, .long told, .int x24, .long x1, .ref ag, .ref ap, .ref aw]))) := eg25
    have h26 : g25 ag = some (.inl (dA 0, 8, .inl fg)) := by rw [eg25, va_up_ne _ _ (ne_kind2 h3 h6)]; exact h3
    have h27 : g25 ap = some (.inl (dA 1, 8, .inr (.inl fp))) := by rw [eg25, va_up_ne _ _ (ne_kind2 h4 h6)]; exact h4
    have h28 : g25 aw = some (.inl (dA 1, 8, .inr (.inl fw))) := by rw [eg25, va_up_ne _ _ (ne_kind2 h5 h6)]; exact h5
    have h29 : g25 a = some (.inr (0, [.int num, .long len, .long spd, .long sen, va_rf onto, .int run, .int tel, .long told, .int x24, .long x1, .ref ag, .ref ap, .ref aw])) := by rw [eg25]; exact va_up_self _ _ _
    refine go_aload_n X (z := 0) d_B_tell_29 rfl rfl ?_
    refine go_lload_n X (z := 2) d_B_tell_30 rfl rfl ?_
    refine go_put X u_B rfl 7 (by decide) gm_fl_B_23 rfl t_B t_B_ok n_B rfl rfl rfl d_B_tell_31 h29 (Nat.le_of_ble_eq_true rfl) ?_
    refine go_gen (fun g30 eg30 => ?_)
    have eg30 : g30 = va_up g25 a (some (.inr (0, [.int num, .long len, .long spd, .long sen, va_rf onto, .int run, .int tel, .long t, .int x24, .long x1, .ref ag, .ref ap, .ref aw]))) := eg30
    have h31 : g30 ag = some (.inl (dA 0, 8, .inl fg)) := by rw [eg30, va_up_ne _ _ (ne_kind2 h26 h29)]; exact h26
    have h32 : g30 ap = some (.inl (dA 1, 8, .inr (.inl fp))) := by rw [eg30, va_up_ne _ _ (ne_kind2 h27 h29)]; exact h27
    have h33 : g30 aw = some (.inl (dA 1, 8, .inr (.inl fw))) := by rw [eg30, va_up_ne _ _ (ne_kind2 h28 h29)]; exact h28
    have h34 : g30 a = some (.inr (0, [.int num, .long len, .long spd, .long sen, va_rf onto, .int run, .int tel, .long t, .int x24, .long x1, .ref ag, .ref ap, .ref aw])) := by rw [eg30]; exact va_up_self _ _ _
    refine go_aload_n X (z := 0) d_B_tell_34 rfl rfl ?_
    refine go_iload_n X (z := 1) d_B_tell_35 rfl rfl ?_
    refine go_put X u_B rfl 5 (by decide) gm_fl_B_15 rfl t_B t_B_ok n_B rfl hon hof d_B_tell_36 h34 (Nat.le_of_ble_eq_true rfl) ?_
    refine go_gen (fun g35 eg35 => ?_)
    have eg35 : g35 = va_up g30 a (some (.inr (0, [.int num, .long len, .long spd, .long sen, va_rf onto, .int on, .int tel, .long t, .int x24, .long x1, .ref ag, .ref ap, .ref aw]))) := eg35
    have h36 : g35 ag = some (.inl (dA 0, 8, .inl fg)) := by rw [eg35, va_up_ne _ _ (ne_kind2 h31 h34)]; exact h31
    have h37 : g35 ap = some (.inl (dA 1, 8, .inr (.inl fp))) := by rw [eg35, va_up_ne _ _ (ne_kind2 h32 h34)]; exact h32
    have h38 : g35 aw = some (.inl (dA 1, 8, .inr (.inl fw))) := by rw [eg35, va_up_ne _ _ (ne_kind2 h33 h34)]; exact h33
    have h39 : g35 a = some (.inr (0, [.int num, .long len, .long spd, .long sen, va_rf onto, .int on, .int tel, .long t, .int x24, .long x1, .ref ag, .ref ap, .ref aw])) := by rw [eg35]; exact va_up_self _ _ _
    refine go_aload_n X (z := 0) d_B_tell_39 rfl rfl ?_
    refine go_dup X d_B_tell_40 rfl ?_
    refine go_get X u_B rfl 6 (by decide) gm_fl_B_19 rfl d_B_tell_41 h39 rfl ?_
    refine go_iconst X (v := 1) d_B_tell_44 (by decide) ?_
    refine go_iadd X d_B_tell_45 ?_
    refine go_topi (fun x40 ex40 => ?_)
    refine go_put X u_B rfl 6 (by decide) gm_fl_B_19 rfl t_B t_B_ok n_B rfl rfl rfl d_B_tell_46 h39 (Nat.le_of_ble_eq_true rfl) ?_
    refine go_gen (fun g41 eg41 => ?_)
    have eg41 : g41 = va_up g35 a (some (.inr (0, [.int num, .long len, .long spd, .long sen, va_rf onto, .int on, .int x40, .long t, .int x24, .long x1, .ref ag, .ref ap, .ref aw]))) := eg41
    have h42 : g41 ag = some (.inl (dA 0, 8, .inl fg)) := by rw [eg41, va_up_ne _ _ (ne_kind2 h36 h39)]; exact h36
    have h43 : g41 ap = some (.inl (dA 1, 8, .inr (.inl fp))) := by rw [eg41, va_up_ne _ _ (ne_kind2 h37 h39)]; exact h37
    have h44 : g41 aw = some (.inl (dA 1, 8, .inr (.inl fw))) := by rw [eg41, va_up_ne _ _ (ne_kind2 h38 h39)]; exact h38
    have h45 : g41 a = some (.inr (0, [.int num, .long len, .long spd, .long sen, va_rf onto, .int on, .int x40, .long t, .int x24, .long x1, .ref ag, .ref ap, .ref aw])) := by rw [eg41]; exact va_up_self _ _ _
    refine go_aload_n X (z := 0) d_B_tell_49 rfl rfl ?_
    refine go_callV_V X (As := []) (rest := []) (c_B_layStages h45 h42 h43 h44 hpw) gm_ml_B_66 cw_B_layStages ⟨by decide, by decide⟩ rfl h45 rfl rfl (Nat.le_of_ble_eq_true rfl) d_B_tell_50 ⟨by decide, by decide⟩ (fun gz hz => ?_)
    exact go_retV X hr hlk d_B_tell_53 ⟨g41, by rw [eg41, eg35, eg30, eg25, eg2, bx_uu, bx_uu, bx_uu, bx_uu, if_neg c7]; subst_vars; rfl, by rw [if_neg c7]; subst_vars; exact hz⟩
end BELT2
end
section
/-! EdgeList; the constructors of Belt and Item. -/
theorem va_up_id {g : Nat → Option va_E} {a : Nat} {e : va_E} (h : g a = some e) : va_up g a (some e) = g := by
  funext j
  by_cases hj : j = a
  · subst hj
    rw [va_up_self, h]
  · rw [va_up_ne _ _ hj]
theorem up_mid {g : Nat → Option va_E} {a q : Nat} {x e y : Option va_E} : va_up (va_up (va_up g a x) q e) a y = va_up (va_up g q e) a y := by
  funext j
  by_cases h1 : j = a <;> by_cases h2 : j = q <;> simp [va_up, h1, h2]
theorem up_none {g : Nat → Option va_E} {a q : Nat} {e : va_E} (h : va_up g a (some e) q = none) : q ≠ a ∧ g q = none := by
  by_cases hq : q = a
  · subst hq
    rw [va_up_self] at h
    cases h
  · rw [va_up_ne _ _ hq] at h
    exact ⟨hq, h⟩
abbrev edgeE (ar : Nat) (total taken : Int32) : va_E := .inr (1, [.ref ar, .int total, .int taken])
abbrev itemE (num : Int32) (len : Int64) (bt : Option Nat) (wt : Int32) (turn start : Int64) (ft et : Int32) : va_E := .inr (2, [.int num, .long len, va_rf bt, .int wt, .long turn, .long start, .int ft, .int et])
theorem row_ix (n j : Nat) : nI (n * 4) + nI j = nI (n * 4 + j) := nI_add _ _
def rowF (fr : Nat → Int32) (n : Nat) (t b i k : Int32) : Nat → Int32 := upd (upd (upd (upd fr (n * 4) t) (n * 4 + 1) b) (n * 4 + 2) i) (n * 4 + 3) k
def readF (fr : Nat → Int32) (total i what : Int32) : Int32 := if i < 0 then -1 else if 400 ≤ i then -1 else if i < total then (if what < 0 then -1 else if what < 4 then fr (i * 4 + what).toNatClampNeg else -1) else -1
theorem read_in {i what : Int32} (h1 : ¬ i < 0) (h2 : ¬ 400 ≤ i) (h3 : ¬ what < 0) (h4 : what < 4) : vp_in (i * 4 + what) 1600 := by
  obtain ⟨n, hn, rfl⟩ := nI_of h1
  obtain ⟨k, hk, rfl⟩ := nI_of h3
  have a1 : ¬ 400 ≤ n := fun h => h2 (nI_le (a := 400) h hn)
  have a2 : k < 4 := by
    rcases Nat.lt_or_ge k 4 with h | h
    · exact h
    · exact absurd h4 (nI_nlt (b := 4) h hk)
  rw [show nI n * 4 + nI k = nI (n * 4 + k) by rw [show (4 : Int32) = nI 4 from rfl, pk_mul, nI_add]]
  exact vp_in_nI (by omega) (by decide)
theorem ge400 {n : Nat} (hn : n < 2 ^ 31) (c : (400 : Int32) ≤ nI n) : 400 ≤ n := by
  rcases Nat.lt_or_ge n 400 with h | h
  · exact absurd c (nI_ge (a := n) (b := 400) h (by decide))
  · exact h
theorem lt400 {n : Nat} (hn : n < 2 ^ 31) (c : ¬ (400 : Int32) ≤ nI n) : n < 400 := by
  rcases Nat.lt_or_ge n 400 with h | h
  · exact h
  · exact absurd (nI_le (a := 400) (b := n) h hn) c
section EDGE
variable {ar a n : Nat} {total taken : Int32} {fr : Nat → Int32}
set_option maxHeartbeats 4000000 in
set_option maxRecDepth 100000 in
theorem c_E_takeNew {l : Launch} {D : va_G} {dA : Nat → ClassId} {g : Nat → Option va_E}  (hE : g a = some (edgeE ar total taken)) : CtI l D classes (tyL dA) y_E_takeNew b_E_takeNew 2 (some .int) rm_E_takeNew [.ref a] g (fun r g' => g' = va_up g a (some (edgeE ar total total)) ∧ r = total - taken) := by
  refine CtI.of (by decide) (Nat.le_of_ble_eq_true rfl) ?_
  intro p e s m below meth c X hr hlk hnm
  refine go_aload_n X (z := 0) d_E_takeNew_0 rfl rfl ?_
  refine go_get X u_E rfl 1 (by decide) gm_fl_E_15 rfl d_E_takeNew_1 hE rfl ?_
  refine go_aload_n X (z := 0) d_E_takeNew_4 rfl rfl ?_
  refine go_get X u_E rfl 2 (by decide) gm_fl_E_19 rfl d_E_takeNew_5 hE rfl ?_
  refine go_isub X d_E_takeNew_8 ?_
  refine go_topi (fun x1 ex1 => ?_)
  refine go_istore_n X (lv' := [(1, .int x1), (0, .ref a)]) d_E_takeNew_9 rfl (by decide) rfl ?_
  refine go_aload_n X (z := 1) d_E_takeNew_10 rfl rfl ?_
  refine go_aload_n X (z := 1) d_E_takeNew_11 rfl rfl ?_
  refine go_get X u_E rfl 1 (by decide) gm_fl_E_15 rfl d_E_takeNew_12 hE rfl ?_
  refine go_put X u_E rfl 2 (by decide) gm_fl_E_19 rfl t_E t_E_ok n_E rfl rfl rfl d_E_takeNew_15 hE (Nat.le_of_ble_eq_true rfl) ?_
  refine go_gen (fun g2 eg2 => ?_)
  have eg2 : g2 = va_up g a (some (.inr (1, [.ref ar, .int total, .int total]))) := eg2
  have h3 : g2 a = some (.inr (1, [.ref ar, .int total, .int total])) := by rw [eg2]; exact va_up_self _ _ _
  refine go_iload_n X (z := 0) d_E_takeNew_18 rfl rfl ?_
  exact go_retI X hr hlk d_E_takeNew_19 ⟨eg2, ex1⟩
set_option maxHeartbeats 4000000 in
set_option maxRecDepth 100000 in
theorem c_E_read {l : Launch} {D : va_G} {dA : Nat → ClassId} {g : Nat → Option va_E}  (hE : g a = some (edgeE ar total taken)) (hR : g ar = some (intE dA 1600 fr)) (i what : Int32) : CtI l D classes (tyL dA) y_E_read b_E_read 3 (some .int) rm_E_read [.ref a, .int i, .int what] g (fun r g' => g = g' ∧ r = readF fr total i what) := by
  refine CtI.of (by decide) (Nat.le_of_ble_eq_true rfl) ?_
  intro p e s m below meth c X hr hlk hnm
  refine go_iload_n X (z := 1) d_E_read_0 rfl rfl ?_
  refine go_if_lt X (tgt := 19) d_E_read_1 rfl (fun c1 => ?_) (fun c1 => ?_)
  · refine go_iconst X (v := (-1)) d_E_read_19 (by decide) ?_
    exact go_retI X hr hlk d_E_read_20 ⟨rfl, by subst_vars; simp only [readF, if_pos c1]⟩
  · refine go_iload_n X (z := 1) d_E_read_4 rfl rfl ?_
    refine go_sipush X (v := 400) d_E_read_5 (by decide) ?_
    refine go_icmp_ge X (tgt := 19) d_E_read_8 rfl (fun c2 => ?_) (fun c2 => ?_)
    · refine go_iconst X (v := (-1)) d_E_read_19 (by decide) ?_
      exact go_retI X hr hlk d_E_read_20 ⟨rfl, by subst_vars; simp only [readF, if_neg c1, if_pos c2]⟩
    · refine go_iload_n X (z := 1) d_E_read_11 rfl rfl ?_
      refine go_aload_n X (z := 0) d_E_read_12 rfl rfl ?_
      refine go_get X u_E rfl 1 (by decide) gm_fl_E_15 rfl d_E_read_13 hE rfl ?_
      refine go_icmp_lt X (tgt := 21) d_E_read_16 rfl (fun c3 => ?_) (fun c3 => ?_)
      · refine go_iload_n X (z := 2) d_E_read_21 rfl rfl ?_
        refine go_if_lt X (tgt := 30) d_E_read_22 rfl (fun c4 => ?_) (fun c4 => ?_)
        · refine go_iconst X (v := (-1)) d_E_read_30 (by decide) ?_
          exact go_retI X hr hlk d_E_read_31 ⟨rfl, by subst_vars; simp only [readF, if_neg c1, if_neg c2, if_pos c3, if_pos c4]⟩
        · refine go_iload_n X (z := 2) d_E_read_25 rfl rfl ?_
          refine go_iconst X (v := 4) d_E_read_26 (by decide) ?_
          refine go_icmp_lt X (tgt := 32) d_E_read_27 rfl (fun c5 => ?_) (fun c5 => ?_)
          · refine go_aload_n X (z := 0) d_E_read_32 rfl rfl ?_
            refine go_get X u_E rfl 0 (by decide) gm_fl_E_11 rfl d_E_read_33 hE rfl ?_
            refine go_iload_n X (z := 1) d_E_read_36 rfl rfl ?_
            refine go_iconst X (v := 4) d_E_read_37 (by decide) ?_
            refine go_imul X d_E_read_38 ?_
            refine go_iload_n X (z := 2) d_E_read_39 rfl rfl ?_
            refine go_iadd X d_E_read_40 ?_
            refine go_iald X 0 rfl d_E_read_41 hR (read_in c1 c2 c4 c5) ?_
            exact go_retI X hr hlk d_E_read_42 ⟨rfl, by subst_vars; simp only [readF, if_neg c1, if_neg c2, if_pos c3, if_neg c4, if_pos c5]⟩
          · refine go_iconst X (v := (-1)) d_E_read_30 (by decide) ?_
            exact go_retI X hr hlk d_E_read_31 ⟨rfl, by subst_vars; simp only [readF, if_neg c1, if_neg c2, if_pos c3, if_neg c4, if_neg c5]⟩
      · refine go_iconst X (v := (-1)) d_E_read_19 (by decide) ?_
        exact go_retI X hr hlk d_E_read_20 ⟨rfl, by subst_vars; simp only [readF, if_neg c1, if_neg c2, if_neg c3]⟩
set_option maxHeartbeats 4000000 in
set_option maxRecDepth 100000 in
theorem c_E_add {l : Launch} {D : va_G} {dA : Nat → ClassId} {g : Nat → Option va_E}  (hE : g a = some (edgeE ar (nI n) taken)) (hR : g ar = some (intE dA 1600 fr)) (hn : n < 2 ^ 31) (t : Int64) (b i k : Int32) : CtV l D classes (tyL dA) y_E_add b_E_add 7 none rm_E_add [.ref a, .long t, .int b, .int i, .int k] g (fun g' => g' = va_up (va_up g ar (some (intE dA 1600 (if 400 ≤ n then fr else rowF fr n t.toInt32 b i k)))) a (some (edgeE ar (nI (n + 1)) taken))) := by
  refine CtV.of (by decide) (Nat.le_of_ble_eq_true rfl) ?_
  intro p e s m below meth c X hr hlk hnm
  refine go_aload_n X (z := 0) d_E_add_0 rfl rfl ?_
  refine go_get X u_E rfl 1 (by decide) gm_fl_E_15 rfl d_E_add_1 hE rfl ?_
  refine go_sipush X (v := 400) d_E_add_4 (by decide) ?_
  refine go_icmp_ge X (tgt := 59) d_E_add_7 rfl (fun c1 => ?_) (fun c1 => ?_)
  · refine go_aload_n X (z := 0) d_E_add_59 rfl rfl ?_
    refine go_dup X d_E_add_60 rfl ?_
    refine go_get X u_E rfl 1 (by decide) gm_fl_E_15 rfl d_E_add_61 hE rfl ?_
    refine go_iconst X (v := 1) d_E_add_64 (by decide) ?_
    refine go_iadd X d_E_add_65 ?_
    refine go_topi (fun x2 ex2 => ?_)
    refine go_put X u_E rfl 1 (by decide) gm_fl_E_15 rfl t_E t_E_ok n_E rfl rfl rfl d_E_add_66 hE (Nat.le_of_ble_eq_true rfl) ?_
    refine go_gen (fun g3 eg3 => ?_)
    have eg3 : g3 = va_up g a (some (.inr (1, [.ref ar, .int x2, .int taken]))) := eg3
    have h4 : g3 ar = some (.inl (dA 0, 1600, .inl fr)) := by rw [eg3, va_up_ne _ _ (ne_kind2 hR hE)]; exact hR
    have h5 : g3 a = some (.inr (1, [.ref ar, .int x2, .int taken])) := by rw [eg3]; exact va_up_self _ _ _
    exact go_retV X hr hlk d_E_add_69 (by rw [eg3, if_pos (ge400 hn c1), va_up_id hR, ex2, nI_1])
  · have hlt : n < 400 := lt400 hn c1
    refine go_aload_n X (z := 0) d_E_add_10 rfl rfl ?_
    refine go_get X u_E rfl 1 (by decide) gm_fl_E_15 rfl d_E_add_11 hE rfl ?_
    refine go_iconst X (v := 4) d_E_add_14 (by decide) ?_
    refine go_imul X d_E_add_15 ?_
    refine go_topi (fun x6 ex6 => ?_)
    refine go_istore X (lv' := [(6, .int x6), (0, .ref a), (1, .long t), (3, .int b), (4, .int i), (5, .int k)]) d_E_add_16 (by decide) rfl ?_
    have q1 : x6 = nI (n * 4) := by rw [ex6]; exact pk_mul n 4
    subst q1
    refine go_aload_n X (z := 1) d_E_add_18 rfl rfl ?_
    refine go_get X u_E rfl 0 (by decide) gm_fl_E_11 rfl d_E_add_19 hE rfl ?_
    refine go_iload X (z := 0) d_E_add_22 rfl ?_
    refine go_lload_n X (z := 2) d_E_add_24 rfl rfl ?_
    refine go_l2i X d_E_add_25 rfl ?_
    refine go_iast X 0 rfl d_E_add_26 hR (vp_in_nI (by omega) (by decide)) ?_
    refine go_gen (fun g7 eg7 => ?_)
    have eg7 : g7 = va_up g ar (some (.inl (dA 0, 1600, .inl (upd fr (n * 4) t.toInt32)))) := by rw [eg7, nI_clamp (show n * 4 < 2 ^ 31 by omega)]
    have h8 : g7 a = some (.inr (1, [.ref ar, .int ((nI n)), .int taken])) := by rw [eg7, va_up_ne _ _ (ne_kind1 hE hR)]; exact hE
    have h9 : g7 ar = some (.inl (dA 0, 1600, .inl (upd fr (n * 4) t.toInt32))) := by rw [eg7]; exact va_up_self _ _ _
    refine go_aload_n X (z := 1) d_E_add_27 rfl rfl ?_
    refine go_get X u_E rfl 0 (by decide) gm_fl_E_11 rfl d_E_add_28 h8 rfl ?_
    refine go_iload X (z := 0) d_E_add_31 rfl ?_
    refine go_iconst X (v := 1) d_E_add_33 (by decide) ?_
    refine go_iadd X d_E_add_34 ?_
    refine go_iload_n X (z := 3) d_E_add_35 rfl rfl ?_
    refine go_iast X 0 rfl d_E_add_36 h9 (by rw [show nI (n * 4) + 1 = nI (n * 4 + 1) from row_ix n 1]; exact vp_in_nI (by omega) (by decide)) ?_
    refine go_gen (fun g10 eg10 => ?_)
    have eg10 : g10 = va_up g7 ar (some (.inl (dA 0, 1600, .inl (upd (upd fr (n * 4) t.toInt32) (n * 4 + 1) b)))) := by rw [eg10, show nI (n * 4) + 1 = nI (n * 4 + 1) from row_ix n 1, nI_clamp (show n * 4 + 1 < 2 ^ 31 by omega)]
    have h11 : g10 a = some (.inr (1, [.ref ar, .int ((nI n)), .int taken])) := by rw [eg10, va_up_ne _ _ (ne_kind1 h8 h9)]; exact h8
    have h12 : g10 ar = some (.inl (dA 0, 1600, .inl (upd (upd fr (n * 4) t.toInt32) (n * 4 + 1) b))) := by rw [eg10]; exact va_up_self _ _ _
    refine go_aload_n X (z := 1) d_E_add_37 rfl rfl ?_
    refine go_get X u_E rfl 0 (by decide) gm_fl_E_11 rfl d_E_add_38 h11 rfl ?_
    refine go_iload X (z := 0) d_E_add_41 rfl ?_
    refine go_iconst X (v := 2) d_E_add_43 (by decide) ?_
    refine go_iadd X d_E_add_44 ?_
    refine go_iload X (z := 4) d_E_add_45 rfl ?_
    refine go_iast X 0 rfl d_E_add_47 h12 (by rw [show nI (n * 4) + 2 = nI (n * 4 + 2) from row_ix n 2]; exact vp_in_nI (by omega) (by decide)) ?_
    refine go_gen (fun g13 eg13 => ?_)
    have eg13 : g13 = va_up g10 ar (some (.inl (dA 0, 1600, .inl (upd (upd (upd fr (n * 4) t.toInt32) (n * 4 + 1) b) (n * 4 + 2) i)))) := by rw [eg13, show nI (n * 4) + 2 = nI (n * 4 + 2) from row_ix n 2, nI_clamp (show n * 4 + 2 < 2 ^ 31 by omega)]
    have h14 : g13 a = some (.inr (1, [.ref ar, .int ((nI n)), .int taken])) := by rw [eg13, va_up_ne _ _ (ne_kind1 h11 h12)]; exact h11
    have h15 : g13 ar = some (.inl (dA 0, 1600, .inl (upd (upd (upd fr (n * 4) t.toInt32) (n * 4 + 1) b) (n * 4 + 2) i))) := by rw [eg13]; exact va_up_self _ _ _
    refine go_aload_n X (z := 1) d_E_add_48 rfl rfl ?_
    refine go_get X u_E rfl 0 (by decide) gm_fl_E_11 rfl d_E_add_49 h14 rfl ?_
    refine go_iload X (z := 0) d_E_add_52 rfl ?_
    refine go_iconst X (v := 3) d_E_add_54 (by decide) ?_
    refine go_iadd X d_E_add_55 ?_
    refine go_iload X (z := 5) d_E_add_56 rfl ?_
    refine go_iast X 0 rfl d_E_add_58 h15 (by rw [show nI (n * 4) + 3 = nI (n * 4 + 3) from row_ix n 3]; exact vp_in_nI (by omega) (by decide)) ?_
    refine go_gen (fun g16 eg16 => ?_)
    have eg16 : g16 = va_up g13 ar (some (.inl (dA 0, 1600, .inl (upd (upd (upd (upd fr (n * 4) t.toInt32) (n * 4 + 1) b) (n * 4 + 2) i) (n * 4 + 3) k)))) := by rw [eg16, show nI (n * 4) + 3 = nI (n * 4 + 3) from row_ix n 3, nI_clamp (show n * 4 + 3 < 2 ^ 31 by omega)]
    have h17 : g16 a = some (.inr (1, [.ref ar, .int ((nI n)), .int taken])) := by rw [eg16, va_up_ne _ _ (ne_kind1 h14 h15)]; exact h14
    have h18 : g16 ar = some (.inl (dA 0, 1600, .inl (upd (upd (upd (upd fr (n * 4) t.toInt32) (n * 4 + 1) b) (n * 4 + 2) i) (n * 4 + 3) k))) := by rw [eg16]; exact va_up_self _ _ _
    refine go_aload_n X (z := 1) d_E_add_59 rfl rfl ?_
    refine go_dup X d_E_add_60 rfl ?_
    refine go_get X u_E rfl 1 (by decide) gm_fl_E_15 rfl d_E_add_61 h17 rfl ?_
    refine go_iconst X (v := 1) d_E_add_64 (by decide) ?_
    refine go_iadd X d_E_add_65 ?_
    refine go_topi (fun x19 ex19 => ?_)
    refine go_put X u_E rfl 1 (by decide) gm_fl_E_15 rfl t_E t_E_ok n_E rfl rfl rfl d_E_add_66 h17 (Nat.le_of_ble_eq_true rfl) ?_
    refine go_gen (fun g20 eg20 => ?_)
    have eg20 : g20 = va_up g16 a (some (.inr (1, [.ref ar, .int x19, .int taken]))) := eg20
    have h21 : g20 ar = some (.inl (dA 0, 1600, .inl (upd (upd (upd (upd fr (n * 4) t.toInt32) (n * 4 + 1) b) (n * 4 + 2) i) (n * 4 + 3) k))) := by rw [eg20, va_up_ne _ _ (ne_kind2 h18 h17)]; exact h18
    have h22 : g20 a = some (.inr (1, [.ref ar, .int x19, .int taken])) := by rw [eg20]; exact va_up_self _ _ _
    exact go_retV X hr hlk d_E_add_69 (by rw [eg20, eg16, eg13, eg10, eg7, if_neg (fun h => c1 (nI_le (a := 400) (b := n) h hn)), bx_uu, bx_uu, bx_uu, ex19, nI_1]; subst_vars; rfl)
set_option maxHeartbeats 4000000 in
set_option maxRecDepth 100000 in
theorem c_E_init {l : Launch} {D : va_G} {dA : Nat → ClassId} {g : Nat → Option va_E}  (hE : g a = some (.inr (1, [.null, .int 0, .int 0]))) : CtV l D classes (tyL dA) y_E_init b_E_init 1 none rm_E_init [.ref a] g (fun g' => ∃ ar, g ar = none ∧ g' = va_up (va_up g ar (some (intE dA 1600 (fun _ => 0)))) a (some (edgeE ar 0 0))) := by
  refine CtV.of (by decide) (Nat.le_of_ble_eq_true rfl) ?_
  intro p e s m below meth c X hr hlk hnm
  refine go_aload_n X (z := 0) d_E_init_0 rfl rfl ?_
  refine go_objInit X gm_ml_E_3 gm_im_O_init gm_code_O_init d_E_init_1 (by decide) (Nat.le_of_ble_eq_true rfl) ?_
  refine go_aload_n X (z := 0) d_E_init_4 rfl rfl ?_
  refine go_sipush X (v := 1600) d_E_init_5 (by decide) ?_
  refine go_newa X 0 (atype := .int) (N := 1600) (a0 := (1600, .inl (fun _ => 0))) rfl rfl (fun _ h => by cases h) gm_ac_int (fun _ => rfl) (by decide) (by decide) (by decide) (by decide) (by decide) d_E_init_8 (fun q1 hq1 => ?_)
  refine go_gen (fun g2 eg2 => ?_)
  have eg2 : g2 = va_up g q1 (some (.inl (dA 0, 1600, .inl (fun _ => 0)))) := eg2
  have h3 : g2 a = some (.inr (1, [.null, .int 0, .int 0])) := by rw [eg2, va_up_ne _ _ (ne_fresh hE hq1)]; exact hE
  have h4 : g2 q1 = some (.inl (dA 0, 1600, .inl (fun _ => 0))) := by rw [eg2]; exact va_up_self _ _ _
  refine go_putF X u_E rfl 0 (by decide) gm_fl_E_11 rfl t_E t_E_ok n_E rfl hnm rfl rfl rfl d_E_init_10 h3 (Nat.le_of_ble_eq_true rfl) ?_
  refine go_gen (fun g5 eg5 => ?_)
  have eg5 : g5 = va_up g2 a (some (.inr (1, [.ref q1, .int 0, .int 0]))) := eg5
  have h6 : g5 q1 = some (.inl (dA 0, 1600, .inl (fun _ => 0))) := by rw [eg5, va_up_ne _ _ (ne_kind2 h4 h3)]; exact h4
  have h7 : g5 a = some (.inr (1, [.ref q1, .int 0, .int 0])) := by rw [eg5]; exact va_up_self _ _ _
  refine go_aload_n X (z := 0) d_E_init_13 rfl rfl ?_
  refine go_iconst X (v := 0) d_E_init_14 (by decide) ?_
  refine go_put X u_E rfl 1 (by decide) gm_fl_E_15 rfl t_E t_E_ok n_E rfl rfl rfl d_E_init_15 h7 (Nat.le_of_ble_eq_true rfl) ?_
  refine go_gen (fun g8 eg8 => ?_)
  have eg8 : g8 = va_up g5 a (some (.inr (1, [.ref q1, .int 0, .int 0]))) := eg8
  have h9 : g8 q1 = some (.inl (dA 0, 1600, .inl (fun _ => 0))) := by rw [eg8, va_up_ne _ _ (ne_kind2 h6 h7)]; exact h6
  have h10 : g8 a = some (.inr (1, [.ref q1, .int 0, .int 0])) := by rw [eg8]; exact va_up_self _ _ _
  refine go_aload_n X (z := 0) d_E_init_18 rfl rfl ?_
  refine go_iconst X (v := 0) d_E_init_19 (by decide) ?_
  refine go_put X u_E rfl 2 (by decide) gm_fl_E_19 rfl t_E t_E_ok n_E rfl rfl rfl d_E_init_20 h10 (Nat.le_of_ble_eq_true rfl) ?_
  refine go_gen (fun g11 eg11 => ?_)
  have eg11 : g11 = va_up g8 a (some (.inr (1, [.ref q1, .int 0, .int 0]))) := eg11
  have h12 : g11 q1 = some (.inl (dA 0, 1600, .inl (fun _ => 0))) := by rw [eg11, va_up_ne _ _ (ne_kind2 h9 h10)]; exact h9
  have h13 : g11 a = some (.inr (1, [.ref q1, .int 0, .int 0])) := by rw [eg11]; exact va_up_self _ _ _
  exact go_retV X hr hlk d_E_init_23 ⟨q1, hq1, by rw [eg11, eg8, eg5, eg2, bx_uu, bx_uu]⟩
end EDGE
set_option maxHeartbeats 4000000 in
set_option maxRecDepth 100000 in
theorem c_I_init {l : Launch} {D : va_G} {dA : Nat → ClassId} {g : Nat → Option va_E}  {a b : Nat} {num : Int32} {len at0 : Int64} (hI : g a = some (.inr (2, [.int 0, .long 0, .null, .int 0, .long 0, .long 0, .int 0, .int 0]))) : CtV l D classes (tyL dA) y_I_init b_I_init 7 none rm_I_init [.ref a, .int num, .long len, .ref b, .long at0] g (fun g' => g' = va_up g a (some (itemE num len (some b) 1 at0 0 0 0))) := by
  refine CtV.of (by decide) (Nat.le_of_ble_eq_true rfl) ?_
  intro p e s m below meth c X hr hlk hnm
  refine go_aload_n X (z := 0) d_I_init_0 rfl rfl ?_
  refine go_objInit X gm_ml_I_3 gm_im_O_init gm_code_O_init d_I_init_1 (by decide) (Nat.le_of_ble_eq_true rfl) ?_
  refine go_aload_n X (z := 0) d_I_init_4 rfl rfl ?_
  refine go_iconst X (v := 1) d_I_init_5 (by decide) ?_
  refine go_put X u_I rfl 3 (by decide) gm_fl_I_9 rfl t_I t_I_ok n_I rfl rfl rfl d_I_init_6 hI (Nat.le_of_ble_eq_true rfl) ?_
  refine go_gen (fun g1 eg1 => ?_)
  have eg1 : g1 = va_up g a (some (.inr (2, [.int 0, .long 0, .null, .int 1, .long 0, .long 0, .int 0, .int 0]))) := eg1
  have h2 : g1 a = some (.inr (2, [.int 0, .long 0, .null, .int 1, .long 0, .long 0, .int 0, .int 0])) := by rw [eg1]; exact va_up_self _ _ _
  refine go_aload_n X (z := 0) d_I_init_9 rfl rfl ?_
  refine go_lconst X (v := 0) d_I_init_10 (by decide) ?_
  refine go_put X u_I rfl 5 (by decide) gm_fl_I_15 rfl t_I t_I_ok n_I rfl rfl rfl d_I_init_11 h2 (Nat.le_of_ble_eq_true rfl) ?_
  refine go_gen (fun g3 eg3 => ?_)
  have eg3 : g3 = va_up g1 a (some (.inr (2, [.int 0, .long 0, .null, .int 1, .long 0, .long 0, .int 0, .int 0]))) := eg3
  have h4 : g3 a = some (.inr (2, [.int 0, .long 0, .null, .int 1, .long 0, .long 0, .int 0, .int 0])) := by rw [eg3]; exact va_up_self _ _ _
  refine go_aload_n X (z := 0) d_I_init_14 rfl rfl ?_
  refine go_iconst X (v := 0) d_I_init_15 (by decide) ?_
  refine go_put X u_I rfl 6 (by decide) gm_fl_I_19 rfl t_I t_I_ok n_I rfl rfl rfl d_I_init_16 h4 (Nat.le_of_ble_eq_true rfl) ?_
  refine go_gen (fun g5 eg5 => ?_)
  have eg5 : g5 = va_up g3 a (some (.inr (2, [.int 0, .long 0, .null, .int 1, .long 0, .long 0, .int 0, .int 0]))) := eg5
  have h6 : g5 a = some (.inr (2, [.int 0, .long 0, .null, .int 1, .long 0, .long 0, .int 0, .int 0])) := by rw [eg5]; exact va_up_self _ _ _
  refine go_aload_n X (z := 0) d_I_init_19 rfl rfl ?_
  refine go_iconst X (v := 0) d_I_init_20 (by decide) ?_
  refine go_put X u_I rfl 7 (by decide) gm_fl_I_22 rfl t_I t_I_ok n_I rfl rfl rfl d_I_init_21 h6 (Nat.le_of_ble_eq_true rfl) ?_
  refine go_gen (fun g7 eg7 => ?_)
  have eg7 : g7 = va_up g5 a (some (.inr (2, [.int 0, .long 0, .null, .int 1, .long 0, .long 0, .int 0, .int 0]))) := eg7
  have h8 : g7 a = some (.inr (2, [.int 0, .long 0, .null, .int 1, .long 0, .long 0, .int 0, .int 0])) := by rw [eg7]; exact va_up_self _ _ _
  refine go_aload_n X (z := 0) d_I_init_24 rfl rfl ?_
  refine go_iload_n X (z := 1) d_I_init_25 rfl rfl ?_
  refine go_putF X u_I rfl 0 (by decide) gm_fl_I_25 rfl t_I t_I_ok n_I rfl hnm rfl rfl rfl d_I_init_26 h8 (Nat.le_of_ble_eq_true rfl) ?_
  refine go_gen (fun g9 eg9 => ?_)
  have eg9 : g9 = va_up g7 a (some (.inr (2, [.int num, .long 0, .null, .int 1, .long 0, .long 0, .int 0, .int 0]))) := eg9
  have h10 : g9 a = some (.inr (2, [.int num, .long 0, .null, .int 1, .long 0, .long 0, .int 0, .int 0])) := by rw [eg9]; exact va_up_self _ _ _
  refine go_aload_n X (z := 0) d_I_init_29 rfl rfl ?_
  refine go_lload_n X (z := 2) d_I_init_30 rfl rfl ?_
  refine go_putF X u_I rfl 1 (by decide) gm_fl_I_29 rfl t_I t_I_ok n_I rfl hnm rfl rfl rfl d_I_init_31 h10 (Nat.le_of_ble_eq_true rfl) ?_
  refine go_gen (fun g11 eg11 => ?_)
  have eg11 : g11 = va_up g9 a (some (.inr (2, [.int num, .long len, .null, .int 1, .long 0, .long 0, .int 0, .int 0]))) := eg11
  have h12 : g11 a = some (.inr (2, [.int num, .long len, .null, .int 1, .long 0, .long 0, .int 0, .int 0])) := by rw [eg11]; exact va_up_self _ _ _
  refine go_aload_n X (z := 0) d_I_init_34 rfl rfl ?_
  refine go_aload X (z := 3) d_I_init_35 rfl ?_
  refine go_put X u_I rfl 2 (by decide) gm_fl_I_32 rfl t_I t_I_ok n_I rfl rfl rfl d_I_init_37 h12 (Nat.le_of_ble_eq_true rfl) ?_
  refine go_gen (fun g13 eg13 => ?_)
  have eg13 : g13 = va_up g11 a (some (.inr (2, [.int num, .long len, .ref b, .int 1, .long 0, .long 0, .int 0, .int 0]))) := eg13
  have h14 : g13 a = some (.inr (2, [.int num, .long len, .ref b, .int 1, .long 0, .long 0, .int 0, .int 0])) := by rw [eg13]; exact va_up_self _ _ _
  refine go_aload_n X (z := 0) d_I_init_40 rfl rfl ?_
  refine go_lload X (z := 4) d_I_init_41 rfl ?_
  refine go_put X u_I rfl 4 (by decide) gm_fl_I_36 rfl t_I t_I_ok n_I rfl rfl rfl d_I_init_43 h14 (Nat.le_of_ble_eq_true rfl) ?_
  refine go_gen (fun g15 eg15 => ?_)
  have eg15 : g15 = va_up g13 a (some (.inr (2, [.int num, .long len, .ref b, .int 1, .long at0, .long 0, .int 0, .int 0]))) := eg15
  have h16 : g15 a = some (.inr (2, [.int num, .long len, .ref b, .int 1, .long at0, .long 0, .int 0, .int 0])) := by rw [eg15]; exact va_up_self _ _ _
  exact go_retV X hr hlk d_I_init_46 (by rw [eg15, eg13, eg11, eg9, eg7, eg5, eg3, eg1, bx_uu, bx_uu, bx_uu, bx_uu, bx_uu, bx_uu, bx_uu]; rfl)
set_option maxHeartbeats 4000000 in
set_option maxRecDepth 100000 in
theorem c_B_init {l : Launch} {D : va_G} {dA : Nat → ClassId} {g : Nat → Option va_E}  {a : Nat} {num : Int32} {len spd : Int64} (hB : g a = some (.inr (0, [.int 0, .long 0, .long 0, .long 0, .null, .int 0, .int 0, .long 0, .int 0, .long 0, .null, .null, .null]))) : CtV l D classes (tyL dA) y_B_init b_B_init 6 none rm_B_init [.ref a, .int num, .long len, .long spd] g (fun g' => ∃ ag ap aw, g ag = none ∧ g ap = none ∧ g aw = none ∧ ag ≠ ap ∧ ag ≠ aw ∧ ap ≠ aw ∧ g' = va_up (va_up (va_up (va_up g ag (some (intE dA 8 (fun _ => 0)))) ap (some (lonE dA 8 (fun _ => 0)))) aw (some (lonE dA 8 (fun _ => 0)))) a (some (beltE num len spd (len / 2) none 1 0 0 8 0 ag ap aw))) := by
  refine CtV.of (by decide) (Nat.le_of_ble_eq_true rfl) ?_
  intro p e s m below meth c X hr hlk hnm
  refine go_aload_n X (z := 0) d_B_init_0 rfl rfl ?_
  refine go_objInit X gm_ml_B_3 gm_im_O_init gm_code_O_init d_B_init_1 (by decide) (Nat.le_of_ble_eq_true rfl) ?_
  refine go_aload_n X (z := 0) d_B_init_4 rfl rfl ?_
  refine go_null X d_B_init_5 ?_
  refine go_put X u_B rfl 4 (by decide) gm_fl_B_9 rfl t_B t_B_ok n_B rfl rfl rfl d_B_init_6 hB (Nat.le_of_ble_eq_true rfl) ?_
  refine go_gen (fun g1 eg1 => ?_)
  have eg1 : g1 = va_up g a (some (.inr (0, [.int 0, .long 0, .long 0, .long 0, .null, .int 0, .int 0, .long 0, .int 0, .long 0, .null, .null, .null]))) := eg1
  have h2 : g1 a = some (.inr (0, [.int 0, .long 0, .long 0, .long 0, .null, .int 0, .int 0, .long 0, .int 0, .long 0, .null, .null, .null])) := by rw [eg1]; exact va_up_self _ _ _
  refine go_aload_n X (z := 0) d_B_init_9 rfl rfl ?_
  refine go_iconst X (v := 1) d_B_init_10 (by decide) ?_
  refine go_put X u_B rfl 5 (by decide) gm_fl_B_15 rfl t_B t_B_ok n_B rfl rfl rfl d_B_init_11 h2 (Nat.le_of_ble_eq_true rfl) ?_
  refine go_gen (fun g3 eg3 => ?_)
  have eg3 : g3 = va_up g1 a (some (.inr (0, [.int 0, .long 0, .long 0, .long 0, .null, .int 1, .int 0, .long 0, .int 0, .long 0, .null, .null, .null]))) := eg3
  have h4 : g3 a = some (.inr (0, [.int 0, .long 0, .long 0, .long 0, .null, .int 1, .int 0, .long 0, .int 0, .long 0, .null, .null, .null])) := by rw [eg3]; exact va_up_self _ _ _
  refine go_aload_n X (z := 0) d_B_init_14 rfl rfl ?_
  refine go_iconst X (v := 0) d_B_init_15 (by decide) ?_
  refine go_put X u_B rfl 6 (by decide) gm_fl_B_19 rfl t_B t_B_ok n_B rfl rfl rfl d_B_init_16 h4 (Nat.le_of_ble_eq_true rfl) ?_
  refine go_gen (fun g5 eg5 => ?_)
  have eg5 : g5 = va_up g3 a (some (.inr (0, [.int 0, .long 0, .long 0, .long 0, .null, .int 1, .int 0, .long 0, .int 0, .long 0, .null, .null, .null]))) := eg5
  have h6 : g5 a = some (.inr (0, [.int 0, .long 0, .long 0, .long 0, .null, .int 1, .int 0, .long 0, .int 0, .long 0, .null, .null, .null])) := by rw [eg5]; exact va_up_self _ _ _
  refine go_aload_n X (z := 0) d_B_init_19 rfl rfl ?_
  refine go_lconst X (v := 0) d_B_init_20 (by decide) ?_
  refine go_put X u_B rfl 7 (by decide) gm_fl_B_23 rfl t_B t_B_ok n_B rfl rfl rfl d_B_init_21 h6 (Nat.le_of_ble_eq_true rfl) ?_
  refine go_gen (fun g7 eg7 => ?_)
  have eg7 : g7 = va_up g5 a (some (.inr (0, [.int 0, .long 0, .long 0, .long 0, .null, .int 1, .int 0, .long 0, .int 0, .long 0, .null, .null, .null]))) := eg7
  have h8 : g7 a = some (.inr (0, [.int 0, .long 0, .long 0, .long 0, .null, .int 1, .int 0, .long 0, .int 0, .long 0, .null, .null, .null])) := by rw [eg7]; exact va_up_self _ _ _
  refine go_aload_n X (z := 0) d_B_init_24 rfl rfl ?_
  refine go_bipush X (v := 8) d_B_init_25 (by decide) ?_
  refine go_put X u_B rfl 8 (by decide) gm_fl_B_27 rfl t_B t_B_ok n_B rfl rfl rfl d_B_init_27 h8 (Nat.le_of_ble_eq_true rfl) ?_
  refine go_gen (fun g9 eg9 => ?_)
  have eg9 : g9 = va_up g7 a (some (.inr (0, [.int 0, .long 0, .long 0, .long 0, .null, .int 1, .int 0, .long 0, .int 8, .long 0, .null, .null, .null]))) := eg9
  have h10 : g9 a = some (.inr (0, [.int 0, .long 0, .long 0, .long 0, .null, .int 1, .int 0, .long 0, .int 8, .long 0, .null, .null, .null])) := by rw [eg9]; exact va_up_self _ _ _
  refine go_aload_n X (z := 0) d_B_init_30 rfl rfl ?_
  refine go_lconst X (v := 0) d_B_init_31 (by decide) ?_
  refine go_put X u_B rfl 9 (by decide) gm_fl_B_30 rfl t_B t_B_ok n_B rfl rfl rfl d_B_init_32 h10 (Nat.le_of_ble_eq_true rfl) ?_
  refine go_gen (fun g11 eg11 => ?_)
  have eg11 : g11 = va_up g9 a (some (.inr (0, [.int 0, .long 0, .long 0, .long 0, .null, .int 1, .int 0, .long 0, .int 8, .long 0, .null, .null, .null]))) := eg11
  have h12 : g11 a = some (.inr (0, [.int 0, .long 0, .long 0, .long 0, .null, .int 1, .int 0, .long 0, .int 8, .long 0, .null, .null, .null])) := by rw [eg11]; exact va_up_self _ _ _
  refine go_aload_n X (z := 0) d_B_init_35 rfl rfl ?_
  refine go_bipush X (v := 8) d_B_init_36 (by decide) ?_
  refine go_newa X 0 (atype := .int) (N := 8) (a0 := (8, .inl (fun _ => 0))) rfl rfl (fun _ h => by cases h) gm_ac_int (fun _ => rfl) (by decide) (by decide) (by decide) (by decide) (by decide) d_B_init_38 (fun q13 hq13 => ?_)
  refine go_gen (fun g14 eg14 => ?_)
  have eg14 : g14 = va_up g11 q13 (some (.inl (dA 0, 8, .inl (fun _ => 0)))) := eg14
  have h15 : g14 a = some (.inr (0, [.int 0, .long 0, .long 0, .long 0, .null, .int 1, .int 0, .long 0, .int 8, .long 0, .null, .null, .null])) := by rw [eg14, va_up_ne _ _ (ne_fresh h12 hq13)]; exact h12
  have h16 : g14 q13 = some (.inl (dA 0, 8, .inl (fun _ => 0))) := by rw [eg14]; exact va_up_self _ _ _
  refine go_putF X u_B rfl 10 (by decide) gm_fl_B_33 rfl t_B t_B_ok n_B rfl hnm rfl rfl rfl d_B_init_40 h15 (Nat.le_of_ble_eq_true rfl) ?_
  refine go_gen (fun g17 eg17 => ?_)
  have eg17 : g17 = va_up g14 a (some (.inr (0, [.int 0, .long 0, .long 0, .long 0, .null, .int 1, .int 0, .long 0, .int 8, .long 0, .ref q13, .null, .null]))) := eg17
  have h18 : g17 q13 = some (.inl (dA 0, 8, .inl (fun _ => 0))) := by rw [eg17, va_up_ne _ _ (ne_kind2 h16 h15)]; exact h16
  have h19 : g17 a = some (.inr (0, [.int 0, .long 0, .long 0, .long 0, .null, .int 1, .int 0, .long 0, .int 8, .long 0, .ref q13, .null, .null])) := by rw [eg17]; exact va_up_self _ _ _
  refine go_aload_n X (z := 0) d_B_init_43 rfl rfl ?_
  refine go_bipush X (v := 8) d_B_init_44 (by decide) ?_
  refine go_newa X 1 (atype := .long) (N := 8) (a0 := (8, .inr (.inl (fun _ => 0)))) rfl rfl (fun _ h => by cases h) gm_ac_long (fun _ => rfl) (by decide) (by decide) (by decide) (by decide) (by decide) d_B_init_46 (fun q20 hq20 => ?_)
  refine go_gen (fun g21 eg21 => ?_)
  have eg21 : g21 = va_up g17 q20 (some (.inl (dA 1, 8, .inr (.inl (fun _ => 0))))) := eg21
  have h22 : g21 a = some (.inr (0, [.int 0, .long 0, .long 0, .long 0, .null, .int 1, .int 0, .long 0, .int 8, .long 0, .ref q13, .null, .null])) := by rw [eg21, va_up_ne _ _ (ne_fresh h19 hq20)]; exact h19
  have h23 : g21 q13 = some (.inl (dA 0, 8, .inl (fun _ => 0))) := by rw [eg21, va_up_ne _ _ (ne_fresh h18 hq20)]; exact h18
  have h24 : g21 q20 = some (.inl (dA 1, 8, .inr (.inl (fun _ => 0)))) := by rw [eg21]; exact va_up_self _ _ _
  refine go_putF X u_B rfl 11 (by decide) gm_fl_B_37 rfl t_B t_B_ok n_B rfl hnm rfl rfl rfl d_B_init_48 h22 (Nat.le_of_ble_eq_true rfl) ?_
  refine go_gen (fun g25 eg25 => ?_)
  have eg25 : g25 = va_up g21 a (some (.inr (0, [.int 0, .long 0, .long 0, .long 0, .null, .int 1, .int 0, .long 0, .int 8, .long 0, .ref q13, .ref q20, .null]))) := eg25
  have h26 : g25 q13 = some (.inl (dA 0, 8, .inl (fun _ => 0))) := by rw [eg25, va_up_ne _ _ (ne_kind2 h23 h22)]; exact h23
  have h27 : g25 q20 = some (.inl (dA 1, 8, .inr (.inl (fun _ => 0)))) := by rw [eg25, va_up_ne _ _ (ne_kind2 h24 h22)]; exact h24
  have h28 : g25 a = some (.inr (0, [.int 0, .long 0, .long 0, .long 0, .null, .int 1, .int 0, .long 0, .int 8, .long 0, .ref q13, .ref q20, .null])) := by rw [eg25]; exact va_up_self _ _ _
  refine go_aload_n X (z := 0) d_B_init_51 rfl rfl ?_
  refine go_bipush X (v := 8) d_B_init_52 (by decide) ?_
  refine go_newa X 1 (atype := .long) (N := 8) (a0 := (8, .inr (.inl (fun _ => 0)))) rfl rfl (fun _ h => by cases h) gm_ac_long (fun _ => rfl) (by decide) (by decide) (by decide) (by decide) (by decide) d_B_init_54 (fun q29 hq29 => ?_)
  refine go_gen (fun g30 eg30 => ?_)
  have eg30 : g30 = va_up g25 q29 (some (.inl (dA 1, 8, .inr (.inl (fun _ => 0))))) := eg30
  have h31 : g30 a = some (.inr (0, [.int 0, .long 0, .long 0, .long 0, .null, .int 1, .int 0, .long 0, .int 8, .long 0, .ref q13, .ref q20, .null])) := by rw [eg30, va_up_ne _ _ (ne_fresh h28 hq29)]; exact h28
  have h32 : g30 q13 = some (.inl (dA 0, 8, .inl (fun _ => 0))) := by rw [eg30, va_up_ne _ _ (ne_fresh h26 hq29)]; exact h26
  have h33 : g30 q20 = some (.inl (dA 1, 8, .inr (.inl (fun _ => 0)))) := by rw [eg30, va_up_ne _ _ (ne_fresh h27 hq29)]; exact h27
  have h34 : g30 q29 = some (.inl (dA 1, 8, .inr (.inl (fun _ => 0)))) := by rw [eg30]; exact va_up_self _ _ _
  refine go_putF X u_B rfl 12 (by decide) gm_fl_B_41 rfl t_B t_B_ok n_B rfl hnm rfl rfl rfl d_B_init_56 h31 (Nat.le_of_ble_eq_true rfl) ?_
  refine go_gen (fun g35 eg35 => ?_)
  have eg35 : g35 = va_up g30 a (some (.inr (0, [.int 0, .long 0, .long 0, .long 0, .null, .int 1, .int 0, .long 0, .int 8, .long 0, .ref q13, .ref q20, .ref q29]))) := eg35
  have h36 : g35 q13 = some (.inl (dA 0, 8, .inl (fun _ => 0))) := by rw [eg35, va_up_ne _ _ (ne_kind2 h32 h31)]; exact h32
  have h37 : g35 q20 = some (.inl (dA 1, 8, .inr (.inl (fun _ => 0)))) := by rw [eg35, va_up_ne _ _ (ne_kind2 h33 h31)]; exact h33
  have h38 : g35 q29 = some (.inl (dA 1, 8, .inr (.inl (fun _ => 0)))) := by rw [eg35, va_up_ne _ _ (ne_kind2 h34 h31)]; exact h34
  have h39 : g35 a = some (.inr (0, [.int 0, .long 0, .long 0, .long 0, .null, .int 1, .int 0, .long 0, .int 8, .long 0, .ref q13, .ref q20, .ref q29])) := by rw [eg35]; exact va_up_self _ _ _
  refine go_aload_n X (z := 0) d_B_init_59 rfl rfl ?_
  refine go_iload_n X (z := 1) d_B_init_60 rfl rfl ?_
  refine go_putF X u_B rfl 0 (by decide) gm_fl_B_44 rfl t_B t_B_ok n_B rfl hnm rfl rfl rfl d_B_init_61 h39 (Nat.le_of_ble_eq_true rfl) ?_
  refine go_gen (fun g40 eg40 => ?_)
  have eg40 : g40 = va_up g35 a (some (.inr (0, [.int num, .long 0, .long 0, .long 0, .null, .int 1, .int 0, .long 0, .int 8, .long 0, .ref q13, .ref q20, .ref q29]))) := eg40
  have h41 : g40 q13 = some (.inl (dA 0, 8, .inl (fun _ => 0))) := by rw [eg40, va_up_ne _ _ (ne_kind2 h36 h39)]; exact h36
  have h42 : g40 q20 = some (.inl (dA 1, 8, .inr (.inl (fun _ => 0)))) := by rw [eg40, va_up_ne _ _ (ne_kind2 h37 h39)]; exact h37
  have h43 : g40 q29 = some (.inl (dA 1, 8, .inr (.inl (fun _ => 0)))) := by rw [eg40, va_up_ne _ _ (ne_kind2 h38 h39)]; exact h38
  have h44 : g40 a = some (.inr (0, [.int num, .long 0, .long 0, .long 0, .null, .int 1, .int 0, .long 0, .int 8, .long 0, .ref q13, .ref q20, .ref q29])) := by rw [eg40]; exact va_up_self _ _ _
  refine go_aload_n X (z := 0) d_B_init_64 rfl rfl ?_
  refine go_lload_n X (z := 2) d_B_init_65 rfl rfl ?_
  refine go_putF X u_B rfl 1 (by decide) gm_fl_B_47 rfl t_B t_B_ok n_B rfl hnm rfl rfl rfl d_B_init_66 h44 (Nat.le_of_ble_eq_true rfl) ?_
  refine go_gen (fun g45 eg45 => ?_)
  have eg45 : g45 = va_up g40 a (some (.inr (0, [.int num, .long len, .long 0, .long 0, .null, .int 1, .int 0, .long 0, .int 8, .long 0, .ref q13, .ref q20, .ref q29]))) := eg45
  have h46 : g45 q13 = some (.inl (dA 0, 8, .inl (fun _ => 0))) := by rw [eg45, va_up_ne _ _ (ne_kind2 h41 h44)]; exact h41
  have h47 : g45 q20 = some (.inl (dA 1, 8, .inr (.inl (fun _ => 0)))) := by rw [eg45, va_up_ne _ _ (ne_kind2 h42 h44)]; exact h42
  have h48 : g45 q29 = some (.inl (dA 1, 8, .inr (.inl (fun _ => 0)))) := by rw [eg45, va_up_ne _ _ (ne_kind2 h43 h44)]; exact h43
  have h49 : g45 a = some (.inr (0, [.int num, .long len, .long 0, .long 0, .null, .int 1, .int 0, .long 0, .int 8, .long 0, .ref q13, .ref q20, .ref q29])) := by rw [eg45]; exact va_up_self _ _ _
  refine go_aload_n X (z := 0) d_B_init_69 rfl rfl ?_
  refine go_lload X (z := 3) d_B_init_70 rfl ?_
  refine go_putF X u_B rfl 2 (by decide) gm_fl_B_50 rfl t_B t_B_ok n_B rfl hnm rfl rfl rfl d_B_init_72 h49 (Nat.le_of_ble_eq_true rfl) ?_
  refine go_gen (fun g50 eg50 => ?_)
  have eg50 : g50 = va_up g45 a (some (.inr (0, [.int num, .long len, .long spd, .long 0, .null, .int 1, .int 0, .long 0, .int 8, .long 0, .ref q13, .ref q20, .ref q29]))) := eg50
  have h51 : g50 q13 = some (.inl (dA 0, 8, .inl (fun _ => 0))) := by rw [eg50, va_up_ne _ _ (ne_kind2 h46 h49)]; exact h46
  have h52 : g50 q20 = some (.inl (dA 1, 8, .inr (.inl (fun _ => 0)))) := by rw [eg50, va_up_ne _ _ (ne_kind2 h47 h49)]; exact h47
  have h53 : g50 q29 = some (.inl (dA 1, 8, .inr (.inl (fun _ => 0)))) := by rw [eg50, va_up_ne _ _ (ne_kind2 h48 h49)]; exact h48
  have h54 : g50 a = some (.inr (0, [.int num, .long len, .long spd, .long 0, .null, .int 1, .int 0, .long 0, .int 8, .long 0, .ref q13, .ref q20, .ref q29])) := by rw [eg50]; exact va_up_self _ _ _
  refine go_aload_n X (z := 0) d_B_init_75 rfl rfl ?_
  refine go_lload_n X (z := 2) d_B_init_76 rfl rfl ?_
  refine go_ldc2 X d_B_init_77 gm_k_B_53 ?_
  refine go_ldiv X d_B_init_80 (by decide) ?_
  refine go_topl (fun x55 ex55 => ?_)
  refine go_putF X u_B rfl 3 (by decide) gm_fl_B_55 rfl t_B t_B_ok n_B rfl hnm rfl rfl rfl d_B_init_81 h54 (Nat.le_of_ble_eq_true rfl) ?_
  refine go_gen (fun g56 eg56 => ?_)
  have eg56 : g56 = va_up g50 a (some (.inr (0, [.int num, .long len, .long spd, .long x55, .null, .int 1, .int 0, .long 0, .int 8, .long 0, .ref q13, .ref q20, .ref q29]))) := eg56
  have h57 : g56 q13 = some (.inl (dA 0, 8, .inl (fun _ => 0))) := by rw [eg56, va_up_ne _ _ (ne_kind2 h51 h54)]; exact h51
  have h58 : g56 q20 = some (.inl (dA 1, 8, .inr (.inl (fun _ => 0)))) := by rw [eg56, va_up_ne _ _ (ne_kind2 h52 h54)]; exact h52
  have h59 : g56 q29 = some (.inl (dA 1, 8, .inr (.inl (fun _ => 0)))) := by rw [eg56, va_up_ne _ _ (ne_kind2 h53 h54)]; exact h53
  have h60 : g56 a = some (.inr (0, [.int num, .long len, .long spd, .long x55, .null, .int 1, .int 0, .long 0, .int 8, .long 0, .ref q13, .ref q20, .ref q29])) := by rw [eg56]; exact va_up_self _ _ _
  rw [eg11, eg9, eg7, eg5, eg3, eg1] at hq13
  simp only [bx_uu, up_mid] at hq13
  obtain ⟨n0a, z0⟩ := up_none hq13
  rw [eg17, eg14, eg11, eg9, eg7, eg5, eg3, eg1] at hq20
  simp only [bx_uu, up_mid] at hq20
  obtain ⟨n1a, z1⟩ := up_none hq20
  obtain ⟨n1q13, z1⟩ := up_none z1
  rw [eg25, eg21, eg17, eg14, eg11, eg9, eg7, eg5, eg3, eg1] at hq29
  simp only [bx_uu, up_mid] at hq29
  obtain ⟨n2a, z2⟩ := up_none hq29
  obtain ⟨n2q20, z2⟩ := up_none z2
  obtain ⟨n2q13, z2⟩ := up_none z2
  exact go_retV X hr hlk d_B_init_84 ⟨q13, q20, q29, z0, z1, z2, n1q13.symm, n2q13.symm, n2q20.symm, by rw [eg56, eg50, eg45, eg40, eg35, eg30, eg25, eg21, eg17, eg14, eg11, eg9, eg7, eg5, eg3, eg1]; simp only [bx_uu, up_mid]; subst_vars; rfl⟩
end
section
/-! Item: pictures and contracts. -/
def aimF (blen sen len : Int64) (ft et : Int32) : Int64 := if ft = 0 then sen else if et = 0 then (if blen < sen + len then blen else sen + len) else blen
def comeE (num : Int32) (len : Int64) (b : Nat) (sen told : Int64) (fp fw : Nat → Int64) (t pl : Int64) : va_E := itemE num len (some b) 0 (towF told fp fw (wayF told fp fw t - pl + sen)) (wayF told fp fw t - pl) 0 0
section ITEM
variable {i b : Nat} {num : Int32} {len : Int64} {bt : Option Nat} {wt : Int32} {turn start : Int64} {ft et : Int32}
variable {bnum : Int32} {blen spd sen : Int64} {onto : Option Nat} {run tel : Int32} {told : Int64} {gb : Int32} {wat : Int64} {ag ap aw : Nat} {fp fw : Nat → Int64}
variable {b2 : Nat} {bnum2 : Int32} {blen2 spd2 sen2 : Int64} {onto2 : Option Nat} {run2 tel2 : Int32} {told2 : Int64} {gb2 : Int32} {wat2 : Int64} {ag2 ap2 aw2 : Nat} {fp2 fw2 : Nat → Int64}
set_option maxHeartbeats 4000000 in
set_option maxRecDepth 100000 in
theorem c_I_isOnABelt_n {l : Launch} {D : va_G} {dA : Nat → ClassId} {g : Nat → Option va_E}  (hI : g i = some (itemE num len none wt turn start ft et)) : CtI l D classes (tyL dA) y_I_isOnABelt b_I_isOnABelt 1 (some .boolean) rm_I_isOnABelt [.ref i] g (fun r g' => g = g' ∧ r = 0) := by
  refine CtI.of (by decide) (Nat.le_of_ble_eq_true rfl) ?_
  intro p e s m below meth c X hr hlk hnm
  refine go_aload_n X (z := 0) d_I_isOnABelt_0 rfl rfl ?_
  refine go_get X u_I rfl 2 (by decide) gm_fl_I_32 rfl d_I_isOnABelt_1 hI rfl ?_
  refine go_ifnullN X (tgt := 18) d_I_isOnABelt_4 rfl ?_
  refine go_iconst X (v := 0) d_I_isOnABelt_18 (by decide) ?_
  exact go_retZ X hr rfl hlk d_I_isOnABelt_19 ⟨rfl, rfl⟩
set_option maxHeartbeats 4000000 in
set_option maxRecDepth 100000 in
theorem c_I_isOnABelt_s {l : Launch} {D : va_G} {dA : Nat → ClassId} {g : Nat → Option va_E}  (hI : g i = some (itemE num len (some b) wt turn start ft et)) : CtI l D classes (tyL dA) y_I_isOnABelt b_I_isOnABelt 1 (some .boolean) rm_I_isOnABelt [.ref i] g (fun r g' => g = g' ∧ r = if wt = 0 then 1 else 0) := by
  refine CtI.of (by decide) (Nat.le_of_ble_eq_true rfl) ?_
  intro p e s m below meth c X hr hlk hnm
  refine go_aload_n X (z := 0) d_I_isOnABelt_0 rfl rfl ?_
  refine go_get X u_I rfl 2 (by decide) gm_fl_I_32 rfl d_I_isOnABelt_1 hI rfl ?_
  refine go_ifnull X d_I_isOnABelt_4 ?_
  refine go_aload_n X (z := 0) d_I_isOnABelt_7 rfl rfl ?_
  refine go_get X u_I rfl 3 (by decide) gm_fl_I_9 rfl d_I_isOnABelt_8 hI rfl ?_
  refine go_if_ne X (tgt := 18) d_I_isOnABelt_11 rfl (fun c1 => ?_) (fun c1 => ?_)
  · refine go_iconst X (v := 0) d_I_isOnABelt_18 (by decide) ?_
    exact go_retZ X hr rfl hlk d_I_isOnABelt_19 ⟨rfl, by simp only [if_neg c1]⟩
  · refine go_iconst X (v := 1) d_I_isOnABelt_14 (by decide) ?_
    refine go_goto X (tgt := 19) d_I_isOnABelt_15 rfl ?_
    exact go_retZ X hr rfl hlk d_I_isOnABelt_19 ⟨rfl, by simp only [if_pos c1]⟩
set_option maxHeartbeats 4000000 in
set_option maxRecDepth 100000 in
theorem c_I_isOn {l : Launch} {D : va_G} {dA : Nat → ClassId} {g : Nat → Option va_E}  (hI : g i = some (itemE num len bt wt turn start ft et)) (b : Nat) : CtI l D classes (tyL dA) y_I_isOn b_I_isOn 2 (some .boolean) rm_I_isOn [.ref i, .ref b] g (fun r g' => g = g' ∧ r = if bt = some b then (if wt = 0 then 1 else 0) else 0) := by
  refine CtI.of (by decide) (Nat.le_of_ble_eq_true rfl) ?_
  intro p e s m below meth c X hr hlk hnm
  refine go_aload_n X (z := 0) d_I_isOn_0 rfl rfl ?_
  refine go_get X u_I rfl 2 (by decide) gm_fl_I_32 rfl d_I_isOn_1 hI rfl ?_
  refine go_aload_n X (z := 1) d_I_isOn_4 rfl rfl ?_
  refine go_acmp_ne X (ry := (some b)) (rx := bt) (tgt := 19) d_I_isOn_5 rfl (fun c1 => ?_) (fun c1 => ?_)
  · refine go_iconst X (v := 0) d_I_isOn_19 (by decide) ?_
    exact go_retZ X hr rfl hlk d_I_isOn_20 ⟨rfl, by simp only [if_neg c1]⟩
  · refine go_aload_n X (z := 0) d_I_isOn_8 rfl rfl ?_
    refine go_get X u_I rfl 3 (by decide) gm_fl_I_9 rfl d_I_isOn_9 hI rfl ?_
    refine go_if_ne X (tgt := 19) d_I_isOn_12 rfl (fun c2 => ?_) (fun c2 => ?_)
    · refine go_iconst X (v := 0) d_I_isOn_19 (by decide) ?_
      exact go_retZ X hr rfl hlk d_I_isOn_20 ⟨rfl, by simp only [if_pos c1, if_neg c2]⟩
    · refine go_iconst X (v := 1) d_I_isOn_15 (by decide) ?_
      refine go_goto X (tgt := 20) d_I_isOn_16 rfl ?_
      exact go_retZ X hr rfl hlk d_I_isOn_20 ⟨rfl, by simp only [if_pos c1, if_pos c2]⟩
set_option maxHeartbeats 4000000 in
set_option maxRecDepth 100000 in
theorem c_I_placeAt {l : Launch} {D : va_G} {dA : Nat → ClassId} {g : Nat → Option va_E}  (hI : g i = some (itemE num len (some b) wt turn start ft et)) (hB : g b = some (beltE bnum blen spd sen onto run tel told gb wat ag ap aw)) (hP : g ap = some (lonE dA 8 fp)) (hW : g aw = some (lonE dA 8 fw)) (t : Int64) : CtL l D classes (tyL dA) y_I_placeAt b_I_placeAt 3 (some .long) rm_I_placeAt [.ref i, .long t] g (fun r g' => g = g' ∧ r = wayF told fp fw t - start) := by
  refine CtL.of (by decide) (Nat.le_of_ble_eq_true rfl) ?_
  intro p e s m below meth c X hr hlk hnm
  refine go_aload_n X (z := 0) d_I_placeAt_0 rfl rfl ?_
  refine go_get X u_I rfl 2 (by decide) gm_fl_I_32 rfl d_I_placeAt_1 hI rfl ?_
  refine go_ifnonnull X (tgt := 11) d_I_placeAt_4 rfl ?_
  refine go_aload_n X (z := 0) d_I_placeAt_11 rfl rfl ?_
  refine go_get X u_I rfl 2 (by decide) gm_fl_I_32 rfl d_I_placeAt_12 hI rfl ?_
  refine go_lload_n X (z := 1) d_I_placeAt_15 rfl rfl ?_
  refine go_callL_V X (As := [.long t]) (rest := []) (c_B_wayAt hB hP hW t) gm_ml_I_39 cw_B_wayAt ⟨by decide, by decide⟩ rfl hB rfl rfl (Nat.le_of_ble_eq_true rfl) d_I_placeAt_16 ⟨by decide, by decide⟩ (fun ru1 gu1 hu1 => ?_)
  obtain ⟨rfl, rfl⟩ := hu1
  refine go_aload_n X (z := 0) d_I_placeAt_19 rfl rfl ?_
  refine go_get X u_I rfl 5 (by decide) gm_fl_I_15 rfl d_I_placeAt_20 hI rfl ?_
  refine go_lsub X d_I_placeAt_23 ?_
  exact go_retL X hr hlk d_I_placeAt_24 ⟨rfl, rfl⟩
set_option maxHeartbeats 4000000 in
set_option maxRecDepth 100000 in
theorem c_I_aim_n {l : Launch} {D : va_G} {dA : Nat → ClassId} {g : Nat → Option va_E}  (hI : g i = some (itemE num len none wt turn start ft et)) : CtV l D classes (tyL dA) y_I_aim b_I_aim 3 none rm_I_aim [.ref i] g (fun g' => g = g') := by
  refine CtV.of (by decide) (Nat.le_of_ble_eq_true rfl) ?_
  intro p e s m below meth c X hr hlk hnm
  refine go_aload_n X (z := 0) d_I_aim_0 rfl rfl ?_
  refine go_get X u_I rfl 2 (by decide) gm_fl_I_32 rfl d_I_aim_1 hI rfl ?_
  refine go_ifnonnullN X d_I_aim_4 ?_
  exact go_retV X hr hlk d_I_aim_7 rfl
set_option maxHeartbeats 4000000 in
set_option maxRecDepth 100000 in
theorem c_I_aim {l : Launch} {D : va_G} {dA : Nat → ClassId} {g : Nat → Option va_E}  (hI : g i = some (itemE num len (some b) wt turn start ft et)) (hB : g b = some (beltE bnum blen spd sen onto run tel told gb wat ag ap aw)) (hP : g ap = some (lonE dA 8 fp)) (hW : g aw = some (lonE dA 8 fw)) : CtV l D classes (tyL dA) y_I_aim b_I_aim 3 none rm_I_aim [.ref i] g (fun g' => g' = va_up g i (some (itemE num len (some b) wt (towF told fp fw (start + aimF blen sen len ft et)) start ft et))) := by
  refine CtV.of (by decide) (Nat.le_of_ble_eq_true rfl) ?_
  intro p e s m below meth c X hr hlk hnm
  refine go_aload_n X (z := 0) d_I_aim_0 rfl rfl ?_
  refine go_get X u_I rfl 2 (by decide) gm_fl_I_32 rfl d_I_aim_1 hI rfl ?_
  refine go_ifnonnull X (tgt := 8) d_I_aim_4 rfl ?_
  refine go_aload_n X (z := 0) d_I_aim_8 rfl rfl ?_
  refine go_get X u_I rfl 2 (by decide) gm_fl_I_32 rfl d_I_aim_9 hI rfl ?_
  refine go_get X u_B rfl 1 (by decide) gm_fl_I_52 rfl d_I_aim_12 hB rfl ?_
  refine go_lstore_n X (lv' := [(1, .long blen), (0, .ref i)]) d_I_aim_15 rfl (by decide) rfl ?_
  refine go_aload_n X (z := 1) d_I_aim_16 rfl rfl ?_
  refine go_get X u_I rfl 6 (by decide) gm_fl_I_19 rfl d_I_aim_17 hI rfl ?_
  refine go_if_ne X (tgt := 34) d_I_aim_20 rfl (fun c1 => ?_) (fun c1 => ?_)
  · refine go_aload_n X (z := 1) d_I_aim_34 rfl rfl ?_
    refine go_get X u_I rfl 7 (by decide) gm_fl_I_22 rfl d_I_aim_35 hI rfl ?_
    refine go_if_ne X (tgt := 64) d_I_aim_38 rfl (fun c2 => ?_) (fun c2 => ?_)
    · refine go_aload_n X (z := 1) d_I_aim_64 rfl rfl ?_
      refine go_aload_n X (z := 1) d_I_aim_65 rfl rfl ?_
      refine go_get X u_I rfl 2 (by decide) gm_fl_I_32 rfl d_I_aim_66 hI rfl ?_
      refine go_aload_n X (z := 1) d_I_aim_69 rfl rfl ?_
      refine go_get X u_I rfl 5 (by decide) gm_fl_I_15 rfl d_I_aim_70 hI rfl ?_
      refine go_lload_n X (z := 0) d_I_aim_73 rfl rfl ?_
      refine go_ladd X d_I_aim_74 ?_
      refine go_callL_V X (As := [.long (start + blen)]) (rest := [.ref i]) (c_B_timeOfWay hB hP hW (start + blen)) gm_ml_I_67 cw_B_timeOfWay ⟨by decide, by decide⟩ rfl hB rfl rfl (Nat.le_of_ble_eq_true rfl) d_I_aim_75 ⟨by decide, by decide⟩ (fun ru3 gu3 hu3 => ?_)
      obtain ⟨rfl, rfl⟩ := hu3
      refine go_topl (fun x4 ex4 => ?_)
      refine go_put X u_I rfl 4 (by decide) gm_fl_I_36 rfl t_I t_I_ok n_I rfl rfl rfl d_I_aim_78 hI (Nat.le_of_ble_eq_true rfl) ?_
      refine go_gen (fun g5 eg5 => ?_)
      have eg5 : g5 = va_up g i (some (.inr (2, [.int num, .long len, .ref b, .int wt, .long x4, .long start, .int ft, .int et]))) := eg5
      have h6 : g5 b = some (.inr (0, [.int bnum, .long blen, .long spd, .long sen, va_rf onto, .int run, .int tel, .long told, .int gb, .long wat, .ref ag, .ref ap, .ref aw])) := by rw [eg5, va_up_ne _ _ (ne_cls hB hI (by decide))]; exact hB
      have h7 : g5 ap = some (.inl (dA 1, 8, .inr (.inl fp))) := by rw [eg5, va_up_ne _ _ (ne_kind2 hP hI)]; exact hP
      have h8 : g5 aw = some (.inl (dA 1, 8, .inr (.inl fw))) := by rw [eg5, va_up_ne _ _ (ne_kind2 hW hI)]; exact hW
      have h9 : g5 i = some (.inr (2, [.int num, .long len, .ref b, .int wt, .long x4, .long start, .int ft, .int et])) := by rw [eg5]; exact va_up_self _ _ _
      exact go_retV X hr hlk d_I_aim_81 (by rw [eg5]; subst ex4; simp only [aimF, if_neg c1, if_neg c2] <;> rfl)
    · refine go_aload_n X (z := 1) d_I_aim_41 rfl rfl ?_
      refine go_get X u_I rfl 2 (by decide) gm_fl_I_32 rfl d_I_aim_42 hI rfl ?_
      refine go_get X u_B rfl 3 (by decide) gm_fl_I_58 rfl d_I_aim_45 hB rfl ?_
      refine go_aload_n X (z := 1) d_I_aim_48 rfl rfl ?_
      refine go_get X u_I rfl 1 (by decide) gm_fl_I_29 rfl d_I_aim_49 hI rfl ?_
      refine go_ladd X d_I_aim_52 ?_
      refine go_aload_n X (z := 1) d_I_aim_53 rfl rfl ?_
      refine go_get X u_I rfl 2 (by decide) gm_fl_I_32 rfl d_I_aim_54 hI rfl ?_
      refine go_get X u_B rfl 1 (by decide) gm_fl_I_52 rfl d_I_aim_57 hB rfl ?_
      refine go_mmin_long X gm_ml_I_61 gm_st_minl gm_ini_J gm_code_minl d_I_aim_60 (by decide) (Nat.le_of_ble_eq_true rfl) (by decide) (by decide) ?_
      refine go_topl (fun x10 ex10 => ?_)
      refine go_lstore_n X (lv' := [(1, .long x10), (0, .ref i)]) d_I_aim_63 rfl (by decide) rfl ?_
      refine go_aload_n X (z := 1) d_I_aim_64 rfl rfl ?_
      refine go_aload_n X (z := 1) d_I_aim_65 rfl rfl ?_
      refine go_get X u_I rfl 2 (by decide) gm_fl_I_32 rfl d_I_aim_66 hI rfl ?_
      refine go_aload_n X (z := 1) d_I_aim_69 rfl rfl ?_
      refine go_get X u_I rfl 5 (by decide) gm_fl_I_15 rfl d_I_aim_70 hI rfl ?_
      refine go_lload_n X (z := 0) d_I_aim_73 rfl rfl ?_
      refine go_ladd X d_I_aim_74 ?_
      refine go_callL_V X (As := [.long (start + x10)]) (rest := [.ref i]) (c_B_timeOfWay hB hP hW (start + x10)) gm_ml_I_67 cw_B_timeOfWay ⟨by decide, by decide⟩ rfl hB rfl rfl (Nat.le_of_ble_eq_true rfl) d_I_aim_75 ⟨by decide, by decide⟩ (fun ru11 gu11 hu11 => ?_)
      obtain ⟨rfl, rfl⟩ := hu11
      refine go_topl (fun x12 ex12 => ?_)
      refine go_put X u_I rfl 4 (by decide) gm_fl_I_36 rfl t_I t_I_ok n_I rfl rfl rfl d_I_aim_78 hI (Nat.le_of_ble_eq_true rfl) ?_
      refine go_gen (fun g13 eg13 => ?_)
      have eg13 : g13 = va_up g i (some (.inr (2, [.int num, .long len, .ref b, .int wt, .long x12, .long start, .int ft, .int et]))) := eg13
      have h14 : g13 b = some (.inr (0, [.int bnum, .long blen, .long spd, .long sen, va_rf onto, .int run, .int tel, .long told, .int gb, .long wat, .ref ag, .ref ap, .ref aw])) := by rw [eg13, va_up_ne _ _ (ne_cls hB hI (by decide))]; exact hB
      have h15 : g13 ap = some (.inl (dA 1, 8, .inr (.inl fp))) := by rw [eg13, va_up_ne _ _ (ne_kind2 hP hI)]; exact hP
      have h16 : g13 aw = some (.inl (dA 1, 8, .inr (.inl fw))) := by rw [eg13, va_up_ne _ _ (ne_kind2 hW hI)]; exact hW
      have h17 : g13 i = some (.inr (2, [.int num, .long len, .ref b, .int wt, .long x12, .long start, .int ft, .int et])) := by rw [eg13]; exact va_up_self _ _ _
      exact go_retV X hr hlk d_I_aim_81 (by rw [eg13]; subst ex10 ex12; simp only [aimF, if_neg c1, if_pos c2] <;> rfl)
  · refine go_aload_n X (z := 1) d_I_aim_23 rfl rfl ?_
    refine go_get X u_I rfl 2 (by decide) gm_fl_I_32 rfl d_I_aim_24 hI rfl ?_
    refine go_get X u_B rfl 3 (by decide) gm_fl_I_58 rfl d_I_aim_27 hB rfl ?_
    refine go_lstore_n X (lv' := [(1, .long sen), (0, .ref i)]) d_I_aim_30 rfl (by decide) rfl ?_
    refine go_goto X (tgt := 64) d_I_aim_31 rfl ?_
    refine go_aload_n X (z := 1) d_I_aim_64 rfl rfl ?_
    refine go_aload_n X (z := 1) d_I_aim_65 rfl rfl ?_
    refine go_get X u_I rfl 2 (by decide) gm_fl_I_32 rfl d_I_aim_66 hI rfl ?_
    refine go_aload_n X (z := 1) d_I_aim_69 rfl rfl ?_
    refine go_get X u_I rfl 5 (by decide) gm_fl_I_15 rfl d_I_aim_70 hI rfl ?_
    refine go_lload_n X (z := 0) d_I_aim_73 rfl rfl ?_
    refine go_ladd X d_I_aim_74 ?_
    refine go_callL_V X (As := [.long (start + sen)]) (rest := [.ref i]) (c_B_timeOfWay hB hP hW (start + sen)) gm_ml_I_67 cw_B_timeOfWay ⟨by decide, by decide⟩ rfl hB rfl rfl (Nat.le_of_ble_eq_true rfl) d_I_aim_75 ⟨by decide, by decide⟩ (fun ru18 gu18 hu18 => ?_)
    obtain ⟨rfl, rfl⟩ := hu18
    refine go_topl (fun x19 ex19 => ?_)
    refine go_put X u_I rfl 4 (by decide) gm_fl_I_36 rfl t_I t_I_ok n_I rfl rfl rfl d_I_aim_78 hI (Nat.le_of_ble_eq_true rfl) ?_
    refine go_gen (fun g20 eg20 => ?_)
    have eg20 : g20 = va_up g i (some (.inr (2, [.int num, .long len, .ref b, .int wt, .long x19, .long start, .int ft, .int et]))) := eg20
    have h21 : g20 b = some (.inr (0, [.int bnum, .long blen, .long spd, .long sen, va_rf onto, .int run, .int tel, .long told, .int gb, .long wat, .ref ag, .ref ap, .ref aw])) := by rw [eg20, va_up_ne _ _ (ne_cls hB hI (by decide))]; exact hB
    have h22 : g20 ap = some (.inl (dA 1, 8, .inr (.inl fp))) := by rw [eg20, va_up_ne _ _ (ne_kind2 hP hI)]; exact hP
    have h23 : g20 aw = some (.inl (dA 1, 8, .inr (.inl fw))) := by rw [eg20, va_up_ne _ _ (ne_kind2 hW hI)]; exact hW
    have h24 : g20 i = some (.inr (2, [.int num, .long len, .ref b, .int wt, .long x19, .long start, .int ft, .int et])) := by rw [eg20]; exact va_up_self _ _ _
    exact go_retV X hr hlk d_I_aim_81 (by rw [eg20]; subst ex19; simp only [aimF, if_pos c1] <;> rfl)
set_option maxHeartbeats 4000000 in
set_option maxRecDepth 100000 in
theorem c_I_comeOnto {l : Launch} {D : va_G} {dA : Nat → ClassId} {g : Nat → Option va_E}  (hI : g i = some (itemE num len bt wt turn start ft et)) (hB : g b = some (beltE bnum blen spd sen onto run tel told gb wat ag ap aw)) (hP : g ap = some (lonE dA 8 fp)) (hW : g aw = some (lonE dA 8 fw)) (t pl : Int64) : CtV l D classes (tyL dA) y_I_comeOnto b_I_comeOnto 6 none rm_I_comeOnto [.ref i, .ref b, .long t, .long pl] g (fun g' => g' = va_up g i (some (comeE num len b sen told fp fw t pl))) := by
  refine CtV.of (by decide) (Nat.le_of_ble_eq_true rfl) ?_
  intro p e s m below meth c X hr hlk hnm
  refine go_aload_n X (z := 0) d_I_comeOnto_0 rfl rfl ?_
  refine go_aload_n X (z := 1) d_I_comeOnto_1 rfl rfl ?_
  refine go_put X u_I rfl 2 (by decide) gm_fl_I_32 rfl t_I t_I_ok n_I rfl rfl rfl d_I_comeOnto_2 hI (Nat.le_of_ble_eq_true rfl) ?_
  refine go_gen (fun g1 eg1 => ?_)
  have eg1 : g1 = va_up g i (some (.inr (2, [.int num, .long len, .ref b, .int wt, .long turn, .long start, .int ft, .int et]))) := eg1
  have h2 : g1 b = some (.inr (0, [.int bnum, .long blen, .long spd, .long sen, va_rf onto, .int run, .int tel, .long told, .int gb, .long wat, .ref ag, .ref ap, .ref aw])) := by rw [eg1, va_up_ne _ _ (ne_cls hB hI (by decide))]; exact hB
  have h3 : g1 ap = some (.inl (dA 1, 8, .inr (.inl fp))) := by rw [eg1, va_up_ne _ _ (ne_kind2 hP hI)]; exact hP
  have h4 : g1 aw = some (.inl (dA 1, 8, .inr (.inl fw))) := by rw [eg1, va_up_ne _ _ (ne_kind2 hW hI)]; exact hW
  have h5 : g1 i = some (.inr (2, [.int num, .long len, .ref b, .int wt, .long turn, .long start, .int ft, .int et])) := by rw [eg1]; exact va_up_self _ _ _
  refine go_aload_n X (z := 0) d_I_comeOnto_5 rfl rfl ?_
  refine go_iconst X (v := 0) d_I_comeOnto_6 (by decide) ?_
  refine go_put X u_I rfl 3 (by decide) gm_fl_I_9 rfl t_I t_I_ok n_I rfl rfl rfl d_I_comeOnto_7 h5 (Nat.le_of_ble_eq_true rfl) ?_
  refine go_gen (fun g6 eg6 => ?_)
  have eg6 : g6 = va_up g1 i (some (.inr (2, [.int num, .long len, .ref b, .int 0, .long turn, .long start, .int ft, .int et]))) := eg6
  have h7 : g6 b = some (.inr (0, [.int bnum, .long blen, .long spd, .long sen, va_rf onto, .int run, .int tel, .long told, .int gb, .long wat, .ref ag, .ref ap, .ref aw])) := by rw [eg6, va_up_ne _ _ (ne_cls h2 h5 (by decide))]; exact h2
  have h8 : g6 ap = some (.inl (dA 1, 8, .inr (.inl fp))) := by rw [eg6, va_up_ne _ _ (ne_kind2 h3 h5)]; exact h3
  have h9 : g6 aw = some (.inl (dA 1, 8, .inr (.inl fw))) := by rw [eg6, va_up_ne _ _ (ne_kind2 h4 h5)]; exact h4
  have h10 : g6 i = some (.inr (2, [.int num, .long len, .ref b, .int 0, .long turn, .long start, .int ft, .int et])) := by rw [eg6]; exact va_up_self _ _ _
  refine go_aload_n X (z := 0) d_I_comeOnto_10 rfl rfl ?_
  refine go_aload_n X (z := 1) d_I_comeOnto_11 rfl rfl ?_
  refine go_lload_n X (z := 2) d_I_comeOnto_12 rfl rfl ?_
  refine go_callL_V X (As := [.long t]) (rest := [.ref i]) (c_B_wayAt h7 h8 h9 t) gm_ml_I_39 cw_B_wayAt ⟨by decide, by decide⟩ rfl h7 rfl rfl (Nat.le_of_ble_eq_true rfl) d_I_comeOnto_13 ⟨by decide, by decide⟩ (fun ru11 gu11 hu11 => ?_)
  obtain ⟨rfl, rfl⟩ := hu11
  refine go_lload X (z := 3) d_I_comeOnto_16 rfl ?_
  refine go_lsub X d_I_comeOnto_18 ?_
  refine go_topl (fun x12 ex12 => ?_)
  refine go_put X u_I rfl 5 (by decide) gm_fl_I_15 rfl t_I t_I_ok n_I rfl rfl rfl d_I_comeOnto_19 h10 (Nat.le_of_ble_eq_true rfl) ?_
  refine go_gen (fun g13 eg13 => ?_)
  have eg13 : g13 = va_up g6 i (some (.inr (2, [.int num, .long len, .ref b, .int 0, .long turn, .long x12, .int ft, .int et]))) := eg13
  have h14 : g13 b = some (.inr (0, [.int bnum, .long blen, .long spd, .long sen, va_rf onto, .int run, .int tel, .long told, .int gb, .long wat, .ref ag, .ref ap, .ref aw])) := by rw [eg13, va_up_ne _ _ (ne_cls h7 h10 (by decide))]; exact h7
  have h15 : g13 ap = some (.inl (dA 1, 8, .inr (.inl fp))) := by rw [eg13, va_up_ne _ _ (ne_kind2 h8 h10)]; exact h8
  have h16 : g13 aw = some (.inl (dA 1, 8, .inr (.inl fw))) := by rw [eg13, va_up_ne _ _ (ne_kind2 h9 h10)]; exact h9
  have h17 : g13 i = some (.inr (2, [.int num, .long len, .ref b, .int 0, .long turn, .long x12, .int ft, .int et])) := by rw [eg13]; exact va_up_self _ _ _
  refine go_aload_n X (z := 0) d_I_comeOnto_22 rfl rfl ?_
  refine go_iconst X (v := 0) d_I_comeOnto_23 (by decide) ?_
  refine go_put X u_I rfl 6 (by decide) gm_fl_I_19 rfl t_I t_I_ok n_I rfl rfl rfl d_I_comeOnto_24 h17 (Nat.le_of_ble_eq_true rfl) ?_
  refine go_gen (fun g18 eg18 => ?_)
  have eg18 : g18 = va_up g13 i (some (.inr (2, [.int num, .long len, .ref b, .int 0, .long turn, .long x12, .int 0, .int et]))) := eg18
  have h19 : g18 b = some (.inr (0, [.int bnum, .long blen, .long spd, .long sen, va_rf onto, .int run, .int tel, .long told, .int gb, .long wat, .ref ag, .ref ap, .ref aw])) := by rw [eg18, va_up_ne _ _ (ne_cls h14 h17 (by decide))]; exact h14
  have h20 : g18 ap = some (.inl (dA 1, 8, .inr (.inl fp))) := by rw [eg18, va_up_ne _ _ (ne_kind2 h15 h17)]; exact h15
  have h21 : g18 aw = some (.inl (dA 1, 8, .inr (.inl fw))) := by rw [eg18, va_up_ne _ _ (ne_kind2 h16 h17)]; exact h16
  have h22 : g18 i = some (.inr (2, [.int num, .long len, .ref b, .int 0, .long turn, .long x12, .int 0, .int et])) := by rw [eg18]; exact va_up_self _ _ _
  refine go_aload_n X (z := 0) d_I_comeOnto_27 rfl rfl ?_
  refine go_iconst X (v := 0) d_I_comeOnto_28 (by decide) ?_
  refine go_put X u_I rfl 7 (by decide) gm_fl_I_22 rfl t_I t_I_ok n_I rfl rfl rfl d_I_comeOnto_29 h22 (Nat.le_of_ble_eq_true rfl) ?_
  refine go_gen (fun g23 eg23 => ?_)
  have eg23 : g23 = va_up g18 i (some (.inr (2, [.int num, .long len, .ref b, .int 0, .long turn, .long x12, .int 0, .int 0]))) := eg23
  have h24 : g23 b = some (.inr (0, [.int bnum, .long blen, .long spd, .long sen, va_rf onto, .int run, .int tel, .long told, .int gb, .long wat, .ref ag, .ref ap, .ref aw])) := by rw [eg23, va_up_ne _ _ (ne_cls h19 h22 (by decide))]; exact h19
  have h25 : g23 ap = some (.inl (dA 1, 8, .inr (.inl fp))) := by rw [eg23, va_up_ne _ _ (ne_kind2 h20 h22)]; exact h20
  have h26 : g23 aw = some (.inl (dA 1, 8, .inr (.inl fw))) := by rw [eg23, va_up_ne _ _ (ne_kind2 h21 h22)]; exact h21
  have h27 : g23 i = some (.inr (2, [.int num, .long len, .ref b, .int 0, .long turn, .long x12, .int 0, .int 0])) := by rw [eg23]; exact va_up_self _ _ _
  refine go_aload_n X (z := 0) d_I_comeOnto_32 rfl rfl ?_
  refine go_callV_V X (As := []) (rest := []) (c_I_aim h27 h24 h25 h26) gm_ml_I_45 cw_I_aim ⟨by decide, by decide⟩ rfl h27 rfl rfl (Nat.le_of_ble_eq_true rfl) d_I_comeOnto_33 ⟨by decide, by decide⟩ (fun gz hz => ?_)
  exact go_retV X hr hlk d_I_comeOnto_36 (by rw [hz, eg23, eg18, eg13, eg6, eg1, bx_uu, bx_uu, bx_uu, bx_uu, bx_uu]; subst ex12; rfl)
set_option maxHeartbeats 4000000 in
set_option maxRecDepth 100000 in
theorem c_I_moveOver_n {l : Launch} {D : va_G} {dA : Nat → ClassId} {g : Nat → Option va_E}  (hI : g i = some (itemE num len none wt turn start ft et)) (t : Int64) : CtV l D classes (tyL dA) y_I_moveOver b_I_moveOver 5 none rm_I_moveOver [.ref i, .long t] g (fun g' => g = g') := by
  refine CtV.of (by decide) (Nat.le_of_ble_eq_true rfl) ?_
  intro p e s m below meth c X hr hlk hnm
  refine go_aload_n X (z := 0) d_I_moveOver_0 rfl rfl ?_
  refine go_get X u_I rfl 2 (by decide) gm_fl_I_32 rfl d_I_moveOver_1 hI rfl ?_
  refine go_ifnonnullN X d_I_moveOver_4 ?_
  exact go_retV X hr hlk d_I_moveOver_7 rfl
set_option maxHeartbeats 4000000 in
set_option maxRecDepth 100000 in
theorem c_I_moveOver_o {l : Launch} {D : va_G} {dA : Nat → ClassId} {g : Nat → Option va_E}  (hI : g i = some (itemE num len (some b) wt turn start ft et)) (hB : g b = some (beltE bnum blen spd sen none run tel told gb wat ag ap aw)) (hP : g ap = some (lonE dA 8 fp)) (hW : g aw = some (lonE dA 8 fw))  (t : Int64) : CtV l D classes (tyL dA) y_I_moveOver b_I_moveOver 5 none rm_I_moveOver [.ref i, .long t] g (fun g' => g' = va_up g i (some (if wt = 0 then (if 0 ≤ wayF told fp fw t - start - blen then itemE num len none wt 1000000000000 start ft et else itemE num len (some b) wt turn start ft et) else comeE num len b sen told fp fw t 0))) := by
  refine CtV.of (by decide) (Nat.le_of_ble_eq_true rfl) ?_
  intro p e s m below meth c X hr hlk hnm
  refine go_aload_n X (z := 0) d_I_moveOver_0 rfl rfl ?_
  refine go_get X u_I rfl 2 (by decide) gm_fl_I_32 rfl d_I_moveOver_1 hI rfl ?_
  refine go_ifnonnull X (tgt := 8) d_I_moveOver_4 rfl ?_
  refine go_aload_n X (z := 0) d_I_moveOver_8 rfl rfl ?_
  refine go_get X u_I rfl 3 (by decide) gm_fl_I_9 rfl d_I_moveOver_9 hI rfl ?_
  refine go_if_eq X (tgt := 26) d_I_moveOver_12 rfl (fun c1 => ?_) (fun c1 => ?_)
  · refine go_aload_n X (z := 0) d_I_moveOver_26 rfl rfl ?_
    refine go_get X u_I rfl 2 (by decide) gm_fl_I_32 rfl d_I_moveOver_27 hI rfl ?_
    refine go_lload_n X (z := 1) d_I_moveOver_30 rfl rfl ?_
    refine go_callL_V X (As := [.long t]) (rest := []) (c_B_wayAt hB hP hW t) gm_ml_I_39 cw_B_wayAt ⟨by decide, by decide⟩ rfl hB rfl rfl (Nat.le_of_ble_eq_true rfl) d_I_moveOver_31 ⟨by decide, by decide⟩ (fun ru2 gu2 hu2 => ?_)
    obtain ⟨rfl, rfl⟩ := hu2
    refine go_aload_n X (z := 0) d_I_moveOver_34 rfl rfl ?_
    refine go_get X u_I rfl 5 (by decide) gm_fl_I_15 rfl d_I_moveOver_35 hI rfl ?_
    refine go_lsub X d_I_moveOver_38 ?_
    refine go_aload_n X (z := 0) d_I_moveOver_39 rfl rfl ?_
    refine go_get X u_I rfl 2 (by decide) gm_fl_I_32 rfl d_I_moveOver_40 hI rfl ?_
    refine go_get X u_B rfl 1 (by decide) gm_fl_I_52 rfl d_I_moveOver_43 hB rfl ?_
    refine go_lsub X d_I_moveOver_46 ?_
    refine go_topl (fun x3 ex3 => ?_)
    refine go_lstore_n X (lv' := [(3, .long x3), (0, .ref i), (1, .long t)]) d_I_moveOver_47 rfl (by decide) rfl ?_
    refine go_lload_n X (z := 0) d_I_moveOver_48 rfl rfl ?_
    refine go_lconst X (v := 0) d_I_moveOver_49 (by decide) ?_
    refine go_lif_ge X (tgt := 55) d_I_moveOver_50 d_I_moveOver_51 rfl (fun c4 => ?_) (fun c4 => ?_)
    · refine go_aload_n X (z := 1) d_I_moveOver_55 rfl rfl ?_
      refine go_get X u_I rfl 2 (by decide) gm_fl_I_32 rfl d_I_moveOver_56 hI rfl ?_
      refine go_get X u_B rfl 4 (by decide) gm_fl_I_53 rfl d_I_moveOver_59 hB rfl ?_
      refine go_ifnonnullN X d_I_moveOver_62 ?_
      refine go_aload_n X (z := 1) d_I_moveOver_65 rfl rfl ?_
      refine go_null X d_I_moveOver_66 ?_
      refine go_put X u_I rfl 2 (by decide) gm_fl_I_32 rfl t_I t_I_ok n_I rfl rfl rfl d_I_moveOver_67 hI (Nat.le_of_ble_eq_true rfl) ?_
      refine go_gen (fun g5 eg5 => ?_)
      have eg5 : g5 = va_up g i (some (.inr (2, [.int num, .long len, .null, .int wt, .long turn, .long start, .int ft, .int et]))) := eg5
      have h6 : g5 b = some (.inr (0, [.int bnum, .long blen, .long spd, .long sen, .null, .int run, .int tel, .long told, .int gb, .long wat, .ref ag, .ref ap, .ref aw])) := by rw [eg5, va_up_ne _ _ (ne_cls hB hI (by decide))]; exact hB
      have h7 : g5 ap = some (.inl (dA 1, 8, .inr (.inl fp))) := by rw [eg5, va_up_ne _ _ (ne_kind2 hP hI)]; exact hP
      have h8 : g5 aw = some (.inl (dA 1, 8, .inr (.inl fw))) := by rw [eg5, va_up_ne _ _ (ne_kind2 hW hI)]; exact hW
      have h9 : g5 i = some (.inr (2, [.int num, .long len, .null, .int wt, .long turn, .long start, .int ft, .int et])) := by rw [eg5]; exact va_up_self _ _ _
      refine go_aload_n X (z := 1) d_I_moveOver_70 rfl rfl ?_
      refine go_ldc2 X d_I_moveOver_71 gm_k_I_56 ?_
      refine go_put X u_I rfl 4 (by decide) gm_fl_I_36 rfl t_I t_I_ok n_I rfl rfl rfl d_I_moveOver_74 h9 (Nat.le_of_ble_eq_true rfl) ?_
      refine go_gen (fun g10 eg10 => ?_)
      have eg10 : g10 = va_up g5 i (some (.inr (2, [.int num, .long len, .null, .int wt, .long 1000000000000, .long start, .int ft, .int et]))) := eg10
      have h11 : g10 b = some (.inr (0, [.int bnum, .long blen, .long spd, .long sen, .null, .int run, .int tel, .long told, .int gb, .long wat, .ref ag, .ref ap, .ref aw])) := by rw [eg10, va_up_ne _ _ (ne_cls h6 h9 (by decide))]; exact h6
      have h12 : g10 ap = some (.inl (dA 1, 8, .inr (.inl fp))) := by rw [eg10, va_up_ne _ _ (ne_kind2 h7 h9)]; exact h7
      have h13 : g10 aw = some (.inl (dA 1, 8, .inr (.inl fw))) := by rw [eg10, va_up_ne _ _ (ne_kind2 h8 h9)]; exact h8
      have h14 : g10 i = some (.inr (2, [.int num, .long len, .null, .int wt, .long 1000000000000, .long start, .int ft, .int et])) := by rw [eg10]; exact va_up_self _ _ _
      refine go_goto X (tgt := 93) d_I_moveOver_77 rfl ?_
      exact go_retV X hr hlk d_I_moveOver_93 (by rw [eg10, eg5, bx_uu]; subst ex3; simp only [if_pos c1, if_pos c4] <;> rfl)
    · exact go_retV X hr hlk d_I_moveOver_54 (by subst ex3; simp only [if_pos c1, if_neg c4]; exact (va_up_id hI).symm)
  · refine go_aload_n X (z := 0) d_I_moveOver_15 rfl rfl ?_
    refine go_aload_n X (z := 0) d_I_moveOver_16 rfl rfl ?_
    refine go_get X u_I rfl 2 (by decide) gm_fl_I_32 rfl d_I_moveOver_17 hI rfl ?_
    refine go_lload_n X (z := 1) d_I_moveOver_20 rfl rfl ?_
    refine go_lconst X (v := 0) d_I_moveOver_21 (by decide) ?_
    refine go_callV_V X (As := [.ref b, .long t, .long 0]) (rest := []) (c_I_comeOnto hI hB hP hW t 0) gm_ml_I_48 cw_I_comeOnto ⟨by decide, by decide⟩ rfl hI rfl rfl (Nat.le_of_ble_eq_true rfl) d_I_moveOver_22 ⟨by decide, by decide⟩ (fun gz hz => ?_)
    exact go_retV X hr hlk d_I_moveOver_25 (by rw [hz]; simp only [if_neg c1] <;> rfl)
set_option maxHeartbeats 4000000 in
set_option maxRecDepth 100000 in
theorem c_I_moveOver_s {l : Launch} {D : va_G} {dA : Nat → ClassId} {g : Nat → Option va_E}  (hI : g i = some (itemE num len (some b) wt turn start ft et)) (hB : g b = some (beltE bnum blen spd sen (some b2) run tel told gb wat ag ap aw)) (hP : g ap = some (lonE dA 8 fp)) (hW : g aw = some (lonE dA 8 fw)) (hB2 : g b2 = some (beltE bnum2 blen2 spd2 sen2 onto2 run2 tel2 told2 gb2 wat2 ag2 ap2 aw2)) (hP2 : g ap2 = some (lonE dA 8 fp2)) (hW2 : g aw2 = some (lonE dA 8 fw2)) (t : Int64) : CtV l D classes (tyL dA) y_I_moveOver b_I_moveOver 5 none rm_I_moveOver [.ref i, .long t] g (fun g' => g' = va_up g i (some (if wt = 0 then (if 0 ≤ wayF told fp fw t - start - blen then comeE num len b2 sen2 told2 fp2 fw2 t (wayF told fp fw t - start - blen) else itemE num len (some b) wt turn start ft et) else comeE num len b sen told fp fw t 0))) := by
  refine CtV.of (by decide) (Nat.le_of_ble_eq_true rfl) ?_
  intro p e s m below meth c X hr hlk hnm
  refine go_aload_n X (z := 0) d_I_moveOver_0 rfl rfl ?_
  refine go_get X u_I rfl 2 (by decide) gm_fl_I_32 rfl d_I_moveOver_1 hI rfl ?_
  refine go_ifnonnull X (tgt := 8) d_I_moveOver_4 rfl ?_
  refine go_aload_n X (z := 0) d_I_moveOver_8 rfl rfl ?_
  refine go_get X u_I rfl 3 (by decide) gm_fl_I_9 rfl d_I_moveOver_9 hI rfl ?_
  refine go_if_eq X (tgt := 26) d_I_moveOver_12 rfl (fun c1 => ?_) (fun c1 => ?_)
  · refine go_aload_n X (z := 0) d_I_moveOver_26 rfl rfl ?_
    refine go_get X u_I rfl 2 (by decide) gm_fl_I_32 rfl d_I_moveOver_27 hI rfl ?_
    refine go_lload_n X (z := 1) d_I_moveOver_30 rfl rfl ?_
    refine go_callL_V X (As := [.long t]) (rest := []) (c_B_wayAt hB hP hW t) gm_ml_I_39 cw_B_wayAt ⟨by decide, by decide⟩ rfl hB rfl rfl (Nat.le_of_ble_eq_true rfl) d_I_moveOver_31 ⟨by decide, by decide⟩ (fun ru2 gu2 hu2 => ?_)
    obtain ⟨rfl, rfl⟩ := hu2
    refine go_aload_n X (z := 0) d_I_moveOver_34 rfl rfl ?_
    refine go_get X u_I rfl 5 (by decide) gm_fl_I_15 rfl d_I_moveOver_35 hI rfl ?_
    refine go_lsub X d_I_moveOver_38 ?_
    refine go_aload_n X (z := 0) d_I_moveOver_39 rfl rfl ?_
    refine go_get X u_I rfl 2 (by decide) gm_fl_I_32 rfl d_I_moveOver_40 hI rfl ?_
    refine go_get X u_B rfl 1 (by decide) gm_fl_I_52 rfl d_I_moveOver_43 hB rfl ?_
    refine go_lsub X d_I_moveOver_46 ?_
    refine go_topl (fun x3 ex3 => ?_)
    refine go_lstore_n X (lv' := [(3, .long x3), (0, .ref i), (1, .long t)]) d_I_moveOver_47 rfl (by decide) rfl ?_
    refine go_lload_n X (z := 0) d_I_moveOver_48 rfl rfl ?_
    refine go_lconst X (v := 0) d_I_moveOver_49 (by decide) ?_
    refine go_lif_ge X (tgt := 55) d_I_moveOver_50 d_I_moveOver_51 rfl (fun c4 => ?_) (fun c4 => ?_)
    · refine go_aload_n X (z := 1) d_I_moveOver_55 rfl rfl ?_
      refine go_get X u_I rfl 2 (by decide) gm_fl_I_32 rfl d_I_moveOver_56 hI rfl ?_
      refine go_get X u_B rfl 4 (by decide) gm_fl_I_53 rfl d_I_moveOver_59 hB rfl ?_
      refine go_ifnonnull X (tgt := 80) d_I_moveOver_62 rfl ?_
      refine go_aload_n X (z := 1) d_I_moveOver_80 rfl rfl ?_
      refine go_aload_n X (z := 1) d_I_moveOver_81 rfl rfl ?_
      refine go_get X u_I rfl 2 (by decide) gm_fl_I_32 rfl d_I_moveOver_82 hI rfl ?_
      refine go_get X u_B rfl 4 (by decide) gm_fl_I_53 rfl d_I_moveOver_85 hB rfl ?_
      refine go_lload_n X (z := 2) d_I_moveOver_88 rfl rfl ?_
      refine go_lload_n X (z := 0) d_I_moveOver_89 rfl rfl ?_
      refine go_callV_V X (As := [.ref b2, .long t, .long x3]) (rest := []) (c_I_comeOnto hI hB2 hP2 hW2 t x3) gm_ml_I_48 cw_I_comeOnto ⟨by decide, by decide⟩ rfl hI rfl rfl (Nat.le_of_ble_eq_true rfl) d_I_moveOver_90 ⟨by decide, by decide⟩ (fun gz hz => ?_)
      exact go_retV X hr hlk d_I_moveOver_93 (by rw [hz]; subst ex3; simp only [if_pos c1, if_pos c4] <;> rfl)
    · exact go_retV X hr hlk d_I_moveOver_54 (by subst ex3; simp only [if_pos c1, if_neg c4]; exact (va_up_id hI).symm)
  · refine go_aload_n X (z := 0) d_I_moveOver_15 rfl rfl ?_
    refine go_aload_n X (z := 0) d_I_moveOver_16 rfl rfl ?_
    refine go_get X u_I rfl 2 (by decide) gm_fl_I_32 rfl d_I_moveOver_17 hI rfl ?_
    refine go_lload_n X (z := 1) d_I_moveOver_20 rfl rfl ?_
    refine go_lconst X (v := 0) d_I_moveOver_21 (by decide) ?_
    refine go_callV_V X (As := [.ref b, .long t, .long 0]) (rest := []) (c_I_comeOnto hI hB hP hW t 0) gm_ml_I_48 cw_I_comeOnto ⟨by decide, by decide⟩ rfl hI rfl rfl (Nat.le_of_ble_eq_true rfl) d_I_moveOver_22 ⟨by decide, by decide⟩ (fun gz hz => ?_)
    exact go_retV X hr hlk d_I_moveOver_25 (by rw [hz]; simp only [if_neg c1] <;> rfl)
end ITEM
end
section
/-! The class's state as mathematics, and the heap that holds it. A belt: (length, speed, sensor, onto, running, tellings, toldAt, gearBefore, wayAtTelling, gears, paces, ways); an item: (length, belt, waiting, turn, start, frontTold, endTold). Belts and items by their places. -/
abbrev BT : Type := Int64 × Int64 × Int64 × Option Nat × Int32 × Int32 × Int64 × Int32 × Int64 × (Nat → Int32) × (Nat → Int64) × (Nat → Int64)
abbrev IT : Type := Int64 × Option Nat × Int32 × Int64 × Int64 × Int32 × Int32
abbrev bLen (b : BT) : Int64 := b.1
abbrev bSpd (b : BT) : Int64 := b.2.1
abbrev bSen (b : BT) : Int64 := b.2.2.1
abbrev bOnto (b : BT) : Option Nat := b.2.2.2.1
abbrev bRun (b : BT) : Int32 := b.2.2.2.2.1
abbrev bTel (b : BT) : Int32 := b.2.2.2.2.2.1
abbrev bTold (b : BT) : Int64 := b.2.2.2.2.2.2.1
abbrev bGb (b : BT) : Int32 := b.2.2.2.2.2.2.2.1
abbrev bWat (b : BT) : Int64 := b.2.2.2.2.2.2.2.2.1
abbrev bFg (b : BT) : Nat → Int32 := b.2.2.2.2.2.2.2.2.2.1
abbrev bFp (b : BT) : Nat → Int64 := b.2.2.2.2.2.2.2.2.2.2.1
abbrev bFw (b : BT) : Nat → Int64 := b.2.2.2.2.2.2.2.2.2.2.2
abbrev iLen (x : IT) : Int64 := x.1
abbrev iBt (x : IT) : Option Nat := x.2.1
abbrev iWt (x : IT) : Int32 := x.2.2.1
abbrev iTurn (x : IT) : Int64 := x.2.2.2.1
abbrev iStart (x : IT) : Int64 := x.2.2.2.2.1
abbrev iFt (x : IT) : Int32 := x.2.2.2.2.2.1
abbrev iEt (x : IT) : Int32 := x.2.2.2.2.2.2
abbrev bA (ad : Nat → Nat) (i : Nat) : Nat := ad (5 + 4 * i)
abbrev bG (ad : Nat → Nat) (i : Nat) : Nat := ad (6 + 4 * i)
abbrev bP (ad : Nat → Nat) (i : Nat) : Nat := ad (7 + 4 * i)
abbrev bW (ad : Nat → Nat) (i : Nat) : Nat := ad (8 + 4 * i)
abbrev iA (ad : Nat → Nat) (i : Nat) : Nat := ad (60 + i)
abbrev bCell (ad : Nat → Nat) (i : Nat) (b : BT) : va_E := beltE (nI i) (bLen b) (bSpd b) (bSen b) ((bOnto b).map (bA ad)) (bRun b) (bTel b) (bTold b) (bGb b) (bWat b) (bG ad i) (bP ad i) (bW ad i)
abbrev iCell (ad : Nat → Nat) (i : Nat) (x : IT) : va_E := itemE (nI (i + 1)) (iLen x) ((iBt x).map (bA ad)) (iWt x) (iTurn x) (iStart x) (iFt x) (iEt x)
abbrev sCell (ad : Nat → Nat) (nb ni : Nat) (now : Int64) : va_E := .inr (3, [.ref (ad 1), .int (nI nb), .ref (ad 2), .int (nI ni), .ref (ad 3), .long now])
abbrev refE (dA : Nat → ClassId) (t n : Nat) (f : Nat → Option Nat) : va_E := .inl (dA t, n, .inr (.inr (.inr (.inr f))))
def okR (nb ni r : Nat) : Prop := r < 5 ∨ (5 ≤ r ∧ r < 5 + 4 * nb) ∨ (60 ≤ r ∧ r < 60 + ni)
def bTab (ad : Nat → Nat) (nb : Nat) : Nat → Option Nat := fun i => if i < nb then some (bA ad i) else none
def iTab (ad : Nat → Nat) (ni : Nat) : Nat → Option Nat := fun i => if i < ni then some (iA ad i) else none
def SRep (dA : Nat → ClassId) (ad : Nat → Nat) (g : Nat → Option va_E) (nb ni : Nat) (now : Int64) (B : Nat → BT) (I : Nat → IT) (n : Nat) (tk : Int32) (fr : Nat → Int32) : Prop :=
  (∀ r r', okR nb ni r → okR nb ni r' → ad r = ad r' → r = r') ∧
  g (ad 0) = some (sCell ad nb ni now) ∧ g (ad 1) = some (refE dA 3 12 (bTab ad nb)) ∧ g (ad 2) = some (refE dA 4 60 (iTab ad ni)) ∧ g (ad 3) = some (edgeE (ad 4) (nI n) tk) ∧ g (ad 4) = some (intE dA 1600 fr) ∧
  (∀ i, i < nb → g (bA ad i) = some (bCell ad i (B i)) ∧ g (bG ad i) = some (intE dA 8 (bFg (B i))) ∧ g (bP ad i) = some (lonE dA 8 (bFp (B i))) ∧ g (bW ad i) = some (lonE dA 8 (bFw (B i)))) ∧
  (∀ i, i < ni → g (iA ad i) = some (iCell ad i (I i))) ∧
  nb ≤ 12 ∧ ni ≤ 60 ∧ (∀ i, i < nb → ∀ j, bOnto (B i) = some j → j < nb) ∧ (∀ i, i < ni → ∀ j, iBt (I i) = some j → j < nb)
/-- what a call of the class leaves alone: all that isn't its own -/
def SFr (ad : Nat → Nat) (nb ni : Nat) (g g' : Nat → Option va_E) : Prop := ∀ a e, (∀ r, okR nb ni r → a ≠ ad r) → g a = some e → g' a = some e
theorem SFr.rfl' {ad : Nat → Nat} {nb ni : Nat} {g : Nat → Option va_E} : SFr ad nb ni g g := fun _ _ _ h => h
theorem SFr.trans {ad : Nat → Nat} {nb ni : Nat} {g g1 g2 : Nat → Option va_E} (h1 : SFr ad nb ni g g1) (h2 : SFr ad nb ni g1 g2) : SFr ad nb ni g g2 := fun a e h q => h2 a e h (h1 a e h q)
theorem SFr.up {ad : Nat → Nat} {nb ni r : Nat} {g : Nat → Option va_E} {e : Option va_E} (hr : okR nb ni r) : SFr ad nb ni g (va_up g (ad r) e) := fun a e0 h q => by rw [va_up_ne _ _ (h r hr)]; exact q
section SREP
variable {dA : Nat → ClassId} {ad : Nat → Nat} {g : Nat → Option va_E} {nb ni : Nat} {now : Int64} {B : Nat → BT} {I : Nat → IT} {n : Nat} {tk : Int32} {fr : Nat → Int32}
theorem SRep.ne (h : SRep dA ad g nb ni now B I n tk fr) {r r' : Nat} (h1 : okR nb ni r) (h2 : okR nb ni r') (hne : r ≠ r') : ad r ≠ ad r' := fun q => hne (h.1 r r' h1 h2 q)
theorem SRep.this (h : SRep dA ad g nb ni now B I n tk fr) : g (ad 0) = some (sCell ad nb ni now) := h.2.1
theorem SRep.bs (h : SRep dA ad g nb ni now B I n tk fr) : g (ad 1) = some (refE dA 3 12 (bTab ad nb)) := h.2.2.1
theorem SRep.is (h : SRep dA ad g nb ni now B I n tk fr) : g (ad 2) = some (refE dA 4 60 (iTab ad ni)) := h.2.2.2.1
theorem SRep.es (h : SRep dA ad g nb ni now B I n tk fr) : g (ad 3) = some (edgeE (ad 4) (nI n) tk) := h.2.2.2.2.1
theorem SRep.rs (h : SRep dA ad g nb ni now B I n tk fr) : g (ad 4) = some (intE dA 1600 fr) := h.2.2.2.2.2.1
theorem SRep.b (h : SRep dA ad g nb ni now B I n tk fr) {i : Nat} (hi : i < nb) : g (bA ad i) = some (bCell ad i (B i)) := (h.2.2.2.2.2.2.1 i hi).1
theorem SRep.bg (h : SRep dA ad g nb ni now B I n tk fr) {i : Nat} (hi : i < nb) : g (bG ad i) = some (intE dA 8 (bFg (B i))) := (h.2.2.2.2.2.2.1 i hi).2.1
theorem SRep.bp (h : SRep dA ad g nb ni now B I n tk fr) {i : Nat} (hi : i < nb) : g (bP ad i) = some (lonE dA 8 (bFp (B i))) := (h.2.2.2.2.2.2.1 i hi).2.2.1
theorem SRep.bw (h : SRep dA ad g nb ni now B I n tk fr) {i : Nat} (hi : i < nb) : g (bW ad i) = some (lonE dA 8 (bFw (B i))) := (h.2.2.2.2.2.2.1 i hi).2.2.2
theorem SRep.i (h : SRep dA ad g nb ni now B I n tk fr) {i : Nat} (hi : i < ni) : g (iA ad i) = some (iCell ad i (I i)) := h.2.2.2.2.2.2.2.1 i hi
theorem SRep.nb12 (h : SRep dA ad g nb ni now B I n tk fr) : nb ≤ 12 := h.2.2.2.2.2.2.2.2.1
theorem SRep.ni60 (h : SRep dA ad g nb ni now B I n tk fr) : ni ≤ 60 := h.2.2.2.2.2.2.2.2.2.1
theorem SRep.onto (h : SRep dA ad g nb ni now B I n tk fr) {i j : Nat} (hi : i < nb) (hj : bOnto (B i) = some j) : j < nb := h.2.2.2.2.2.2.2.2.2.2.1 i hi j hj
theorem SRep.bt (h : SRep dA ad g nb ni now B I n tk fr) {i j : Nat} (hi : i < ni) (hj : iBt (I i) = some j) : j < nb := h.2.2.2.2.2.2.2.2.2.2.2 i hi j hj
theorem ok0 {nb ni r : Nat} (h : r < 5) : okR nb ni r := Or.inl h
theorem okB {nb ni i k : Nat} (hi : i < nb) (hk : k < 4) : okR nb ni (5 + k + 4 * i) := Or.inr (Or.inl (by omega))
theorem okI {nb ni i : Nat} (hi : i < ni) : okR nb ni (60 + i) := Or.inr (Or.inr (by omega))
theorem SRep.pw (h : SRep dA ad g nb ni now B I n tk fr) {i : Nat} (hi : i < nb) : bP ad i ≠ bW ad i := h.ne (Or.inr (Or.inl (by omega))) (Or.inr (Or.inl (by omega))) (by omega)
/-- an item changes -/
theorem SRep.setI (h : SRep dA ad g nb ni now B I n tk fr) {i : Nat} (hi : i < ni) {x : IT} (hx : ∀ j, iBt x = some j → j < nb) : SRep dA ad (va_up g (iA ad i) (some (iCell ad i x))) nb ni now B (va_up I i x) n tk fr := by
  have hb := h.nb12
  have key : ∀ r, okR nb ni r → r ≠ 60 + i → va_up g (iA ad i) (some (iCell ad i x)) (ad r) = g (ad r) := fun r hr hne => va_up_ne _ _ (h.ne hr (okI hi) hne)
  refine ⟨h.1, ?_, ?_, ?_, ?_, ?_, ?_, ?_, h.nb12, h.ni60, fun k hk j => h.onto hk, ?_⟩
  · rw [key 0 (ok0 (by omega)) (by omega)]; exact h.this
  · rw [key 1 (ok0 (by omega)) (by omega)]; exact h.bs
  · rw [key 2 (ok0 (by omega)) (by omega)]; exact h.is
  · rw [key 3 (ok0 (by omega)) (by omega)]; exact h.es
  · rw [key 4 (ok0 (by omega)) (by omega)]; exact h.rs
  · intro k hk
    refine ⟨?_, ?_, ?_, ?_⟩
    · rw [key _ (Or.inr (Or.inl (by omega))) (by omega)]; exact h.b hk
    · rw [key _ (Or.inr (Or.inl (by omega))) (by omega)]; exact h.bg hk
    · rw [key _ (Or.inr (Or.inl (by omega))) (by omega)]; exact h.bp hk
    · rw [key _ (Or.inr (Or.inl (by omega))) (by omega)]; exact h.bw hk
  · intro k hk
    by_cases hki : k = i
    · subst hki
      rw [va_up_self, va_up_self]
    · rw [key _ (okI hk) (by omega), va_up_ne _ _ hki]; exact h.i hk
  · intro k hk j hj
    by_cases hki : k = i
    · subst hki
      rw [va_up_self] at hj
      exact hx j hj
    · rw [va_up_ne _ _ hki] at hj
      exact h.bt hk hj
/-- the time -/
theorem SRep.setNow (h : SRep dA ad g nb ni now B I n tk fr) {t : Int64} : SRep dA ad (va_up g (ad 0) (some (sCell ad nb ni t))) nb ni t B I n tk fr := by
  have hb := h.nb12
  have key : ∀ r, okR nb ni r → r ≠ 0 → va_up g (ad 0) (some (sCell ad nb ni t)) (ad r) = g (ad r) := fun r hr hne => va_up_ne _ _ (h.ne hr (ok0 (by omega)) hne)
  refine ⟨h.1, va_up_self _ _ _, ?_, ?_, ?_, ?_, ?_, ?_, h.nb12, h.ni60, fun k hk j => h.onto hk, fun k hk j => h.bt hk⟩
  · rw [key 1 (ok0 (by omega)) (by omega)]; exact h.bs
  · rw [key 2 (ok0 (by omega)) (by omega)]; exact h.is
  · rw [key 3 (ok0 (by omega)) (by omega)]; exact h.es
  · rw [key 4 (ok0 (by omega)) (by omega)]; exact h.rs
  · intro k hk
    refine ⟨?_, ?_, ?_, ?_⟩
    · rw [key _ (Or.inr (Or.inl (by omega))) (by omega)]; exact h.b hk
    · rw [key _ (Or.inr (Or.inl (by omega))) (by omega)]; exact h.bg hk
    · rw [key _ (Or.inr (Or.inl (by omega))) (by omega)]; exact h.bp hk
    · rw [key _ (Or.inr (Or.inl (by omega))) (by omega)]; exact h.bw hk
  · intro k hk
    rw [key _ (okI hk) (by omega)]; exact h.i hk
/-- the edges: the rows first, then the list's own cell -/
theorem SRep.setE (h : SRep dA ad g nb ni now B I n tk fr) {n' : Nat} {tk' : Int32} {fr' : Nat → Int32} : SRep dA ad (va_up (va_up g (ad 4) (some (intE dA 1600 fr'))) (ad 3) (some (edgeE (ad 4) (nI n') tk'))) nb ni now B I n' tk' fr' := by
  have hb := h.nb12
  have key : ∀ r, okR nb ni r → r ≠ 3 → r ≠ 4 → va_up (va_up g (ad 4) (some (intE dA 1600 fr'))) (ad 3) (some (edgeE (ad 4) (nI n') tk')) (ad r) = g (ad r) := fun r hr h3 h4 => by rw [va_up_ne _ _ (h.ne hr (ok0 (by omega)) h3), va_up_ne _ _ (h.ne hr (ok0 (by omega)) h4)]
  refine ⟨h.1, ?_, ?_, ?_, va_up_self _ _ _, ?_, ?_, ?_, h.nb12, h.ni60, fun k hk j => h.onto hk, fun k hk j => h.bt hk⟩
  · rw [key 0 (ok0 (by omega)) (by omega) (by omega)]; exact h.this
  · rw [key 1 (ok0 (by omega)) (by omega) (by omega)]; exact h.bs
  · rw [key 2 (ok0 (by omega)) (by omega) (by omega)]; exact h.is
  · rw [va_up_ne _ _ (h.ne (ok0 (by omega)) (ok0 (by omega)) (by omega)), va_up_self]
  · intro k hk
    refine ⟨?_, ?_, ?_, ?_⟩
    · rw [key _ (Or.inr (Or.inl (by omega))) (by omega) (by omega)]; exact h.b hk
    · rw [key _ (Or.inr (Or.inl (by omega))) (by omega) (by omega)]; exact h.bg hk
    · rw [key _ (Or.inr (Or.inl (by omega))) (by omega) (by omega)]; exact h.bp hk
    · rw [key _ (Or.inr (Or.inl (by omega))) (by omega) (by omega)]; exact h.bw hk
  · intro k hk
    rw [key _ (okI hk) (by omega) (by omega)]; exact h.i hk
/-- a belt changes, as any heap that holds it anew and all else as before -/
theorem SRep.setB (h : SRep dA ad g nb ni now B I n tk fr) {i : Nat} (hi : i < nb) {b : BT} {g' : Nat → Option va_E} (hon : ∀ j, bOnto b = some j → j < nb) (h0 : g' (bA ad i) = some (bCell ad i b)) (h1 : g' (bG ad i) = some (intE dA 8 (bFg b))) (h2 : g' (bP ad i) = some (lonE dA 8 (bFp b))) (h3 : g' (bW ad i) = some (lonE dA 8 (bFw b))) (ho : ∀ q, q ≠ bA ad i → q ≠ bG ad i → q ≠ bP ad i → q ≠ bW ad i → g' q = g q) : SRep dA ad g' nb ni now (va_up B i b) I n tk fr := by
  have hb := h.nb12
  have key : ∀ r, okR nb ni r → r ≠ 5 + 4 * i → r ≠ 6 + 4 * i → r ≠ 7 + 4 * i → r ≠ 8 + 4 * i → g' (ad r) = g (ad r) := fun r hr n0 n1 n2 n3 => ho _ (h.ne hr (Or.inr (Or.inl (by omega))) n0) (h.ne hr (Or.inr (Or.inl (by omega))) n1) (h.ne hr (Or.inr (Or.inl (by omega))) n2) (h.ne hr (Or.inr (Or.inl (by omega))) n3)
  refine ⟨h.1, ?_, ?_, ?_, ?_, ?_, ?_, ?_, h.nb12, h.ni60, ?_, fun k hk j => h.bt hk⟩
  · rw [key 0 (ok0 (by omega)) (by omega) (by omega) (by omega) (by omega)]; exact h.this
  · rw [key 1 (ok0 (by omega)) (by omega) (by omega) (by omega) (by omega)]; exact h.bs
  · rw [key 2 (ok0 (by omega)) (by omega) (by omega) (by omega) (by omega)]; exact h.is
  · rw [key 3 (ok0 (by omega)) (by omega) (by omega) (by omega) (by omega)]; exact h.es
  · rw [key 4 (ok0 (by omega)) (by omega) (by omega) (by omega) (by omega)]; exact h.rs
  · intro k hk
    by_cases hki : k = i
    · subst hki
      rw [va_up_self]
      exact ⟨h0, h1, h2, h3⟩
    · rw [va_up_ne _ _ hki]
      refine ⟨?_, ?_, ?_, ?_⟩
      · rw [key _ (Or.inr (Or.inl (by omega))) (by omega) (by omega) (by omega) (by omega)]; exact h.b hk
      · rw [key _ (Or.inr (Or.inl (by omega))) (by omega) (by omega) (by omega) (by omega)]; exact h.bg hk
      · rw [key _ (Or.inr (Or.inl (by omega))) (by omega) (by omega) (by omega) (by omega)]; exact h.bp hk
      · rw [key _ (Or.inr (Or.inl (by omega))) (by omega) (by omega) (by omega) (by omega)]; exact h.bw hk
  · intro k hk
    rw [key _ (okI hk) (by omega) (by omega) (by omega) (by omega)]; exact h.i hk
  · intro k hk j hj
    by_cases hki : k = i
    · subst hki
      rw [va_up_self] at hj
      exact hon j hj
    · rw [va_up_ne _ _ hki] at hj
      exact h.onto hk hj
end SREP
end
section
/-! The class's methods as functions of its state. -/
def wayB (b : BT) (t : Int64) : Int64 := wayF (bTold b) (bFp b) (bFw b) t
def towB (b : BT) (w : Int64) : Int64 := towF (bTold b) (bFp b) (bFw b) w
def aimI (B : Nat → BT) (x : IT) : IT := match iBt x with
  | none => x
  | some j => (iLen x, some j, iWt x, towB (B j) (iStart x + aimF (bLen (B j)) (bSen (B j)) (iLen x) (iFt x) (iEt x)), iStart x, iFt x, iEt x)
def comeI (B : Nat → BT) (x : IT) (j : Nat) (t pl : Int64) : IT := (iLen x, some j, 0, towB (B j) (wayB (B j) t - pl + bSen (B j)), wayB (B j) t - pl, 0, 0)
def moveI (B : Nat → BT) (x : IT) (t : Int64) : IT := match iBt x with
  | none => x
  | some j => if iWt x = 0 then (if 0 ≤ wayB (B j) t - iStart x - bLen (B j) then (match bOnto (B j) with
      | none => (iLen x, none, iWt x, 1000000000000, iStart x, iFt x, iEt x)
      | some k => comeI B x k t (wayB (B j) t - iStart x - bLen (B j))) else x) else comeI B x j t 0
def nextN (I : Nat → IT) : Nat → Int64
  | 0 => 1000000000000
  | k + 1 => if nextN I k ≤ iTurn (I k) then nextN I k else iTurn (I k)
def moveN (B : Nat → BT) (t : Int64) (I : Nat → IT) : Nat → (Nat → IT)
  | 0 => I
  | k + 1 => if iTurn (moveN B t I k k) = t then va_up (moveN B t I k) k (moveI B (moveN B t I k k) t) else moveN B t I k
def shK (I : Nat → IT) (i : Nat) (way : Int64) (k : Nat) : Prop := k ≠ i ∧ iBt (I k) = iBt (I i) ∧ iWt (I k) = 0 ∧ (way - iStart (I i) < way - iStart (I k) ∨ (way - iStart (I k) = way - iStart (I i) ∧ nI (k + 1) < nI (i + 1))) ∧ way - iStart (I k) - iLen (I k) - (way - iStart (I i)) < 50000
noncomputable def shF (I : Nat → IT) (ni i : Nat) (way : Int64) : Int32 := by
  classical
  exact if ∃ k, k < ni ∧ shK I i way k then 1 else 0
theorem shF_1 {I : Nat → IT} {ni i : Nat} {way : Int64} (h : ∃ k, k < ni ∧ shK I i way k) : shF I ni i way = 1 := if_pos h
theorem shF_0 {I : Nat → IT} {ni i : Nat} {way : Int64} (h : ¬ ∃ k, k < ni ∧ shK I i way k) : shF I ni i way = 0 := if_neg h
abbrev ET : Type := Nat × (Nat → Int32)
def addE (e : ET) (t : Int64) (b i k : Int32) : ET := (e.1 + 1, if 400 ≤ e.1 then e.2 else rowF e.2 e.1 t.toInt32 b i k)
def frI (x : IT) : IT := (iLen x, iBt x, iWt x, iTurn x, iStart x, 1, iEt x)
def enI (x : IT) : IT := (iLen x, iBt x, iWt x, iTurn x, iStart x, iFt x, 1)
noncomputable def tel1 (B : Nat → BT) (I : Nat → IT) (ni : Nat) (t : Int64) (i j : Nat) (e : ET) : IT × ET := if iFt (I i) = 0 then (if wayB (B j) t - iStart (I i) - bSen (B j) < 0 then (I i, e) else (frI (I i), addE e t (nI j) (nI (i + 1)) (if shF I ni i (wayB (B j) t) = 0 then 0 else 2))) else (I i, e)
def tel2 (B : Nat → BT) (x0 : IT) (t : Int64) (i j : Nat) (p : IT × ET) : IT × ET := if iFt p.1 = 0 then p else if iEt p.1 = 0 then (if wayB (B j) t - iStart x0 - bSen (B j) < iLen x0 then p else (enI p.1, addE p.2 t (nI j) (nI (i + 1)) 1)) else p
noncomputable def tellF (B : Nat → BT) (I : Nat → IT) (ni : Nat) (t : Int64) (i j : Nat) (e : ET) : IT × ET := (aimI B (tel2 B (I i) t i j (tel1 B I ni t i j e)).1, (tel2 B (I i) t i j (tel1 B I ni t i j e)).2)
noncomputable def tellO (B : Nat → BT) (I : Nat → IT) (ni : Nat) (t : Int64) (i : Nat) (e : ET) : (Nat → IT) × ET := match iBt (I i) with
  | none => (I, e)
  | some j => (va_up I i (tellF B I ni t i j e).1, (tellF B I ni t i j e).2)
noncomputable def tellN (B : Nat → BT) (ni : Nat) (t : Int64) (I : Nat → IT) (e : ET) : Nat → (Nat → IT) × ET
  | 0 => (I, e)
  | k + 1 => if iTurn ((tellN B ni t I e k).1 k) = t then tellO B (tellN B ni t I e k).1 ni t k (tellN B ni t I e k).2 else tellN B ni t I e k
def aimN (B : Nat → BT) (j : Nat) (I : Nat → IT) : Nat → (Nat → IT)
  | 0 => I
  | k + 1 => if iBt (aimN B j I k k) = some j then (if iWt (aimN B j I k k) = 0 then va_up (aimN B j I k) k (aimI B (aimN B j I k k)) else aimN B j I k) else aimN B j I k
noncomputable def pasN (B : Nat → BT) (ni : Nat) (t : Int64) : Nat → (Nat → IT) → ET → (Nat → IT) × ET
  | 0, I, e => (I, e)
  | f + 1, I, e => if nextN I ni ≤ t then pasN B ni t f (tellN B ni (nextN I ni) (moveN B (nextN I ni) I ni) e ni).1 (tellN B ni (nextN I ni) (moveN B (nextN I ni) I ni) e ni).2 else (I, e)
def paN (B : Nat → BT) (t : Int64) : Nat → Nat → Int64 → Int64
  | 0, _, _ => -1
  | f + 1, j, start => if towB (B j) (start + bLen (B j)) ≤ t then (match bOnto (B j) with
      | none => -1
      | some k => paN B t f k (wayB (B k) (towB (B j) (start + bLen (B j))) - (wayB (B j) (towB (B j) (start + bLen (B j))) - start - bLen (B j)))) else (nI j).toInt64 * 1000000000 + wayB (B j) t - start
def paF (B : Nat → BT) (x : IT) (t : Int64) : Int64 := match iBt x with
  | none => -1
  | some j => if iWt x = 0 then paN B t 12 j (iStart x) else (if iTurn x ≤ t then paN B t 12 j (wayB (B j) (iTurn x)) else -2)
def nolF (now t : Int64) : Int32 := if t < now then 0 else if 1000000 < t then 0 else 1
theorem aimI_bt (B : Nat → BT) (x : IT) : iBt (aimI B x) = iBt x := by
  unfold aimI
  cases h : iBt x with
  | none => exact h
  | some j => rfl
theorem iTab_at {ad : Nat → Nat} {ni k : Nat} (hk : k < ni) (h60 : ni ≤ 60) : va_rf (iTab ad ni (nI k).toNatClampNeg) = .ref (iA ad k) := by
  rw [nI_clamp (by omega)]
  show va_rf (if k < ni then some (iA ad k) else none) = _
  rw [if_pos hk]
  rfl
theorem bTab_at {ad : Nat → Nat} {nb k : Nat} (hk : k < nb) (h12 : nb ≤ 12) : va_rf (bTab ad nb (nI k).toNatClampNeg) = .ref (bA ad k) := by
  rw [nI_clamp (by omega)]
  show va_rf (if k < nb then some (bA ad k) else none) = _
  rw [if_pos hk]
  rfl
theorem moveI_ok {dA : Nat → ClassId} {ad : Nat → Nat} {g : Nat → Option va_E} {nb ni : Nat} {now : Int64} {B : Nat → BT} {I : Nat → IT} {n : Nat} {tk : Int32} {fr : Nat → Int32} (h : SRep dA ad g nb ni now B I n tk fr) {i : Nat} (hi : i < ni) (t : Int64) : ∀ j, iBt (moveI B (I i) t) = some j → j < nb := by
  intro j hj
  unfold moveI at hj
  cases hb : iBt (I i) with
  | none => rw [hb] at hj; simp only at hj; exact h.bt hi hj
  | some k =>
    have hk := h.bt hi hb
    rw [hb] at hj
    simp only at hj
    by_cases h1 : iWt (I i) = 0
    · rw [if_pos h1] at hj
      by_cases h2 : 0 ≤ wayB (B k) t - iStart (I i) - bLen (B k)
      · rw [if_pos h2] at hj
        cases ho : bOnto (B k) with
        | none => rw [ho] at hj; cases hj
        | some q => rw [ho] at hj; cases hj; exact h.onto hk ho
      · rw [if_neg h2] at hj
        exact h.bt hi hj
    · rw [if_neg h1] at hj
      cases hj
      exact hk
end
section
theorem CtI.mono {l : Launch} {D : va_G} {cl : List vw_C} {tys : List (ClassId × FieldType)} {y : MethodName} {b : ByteArray} {nM : Nat} {ret : Option FieldType} {rm : Room} {av : List Value} {g : Nat → Option va_E} {post post' : Int32 → (Nat → Option va_E) → Prop} (hM : CtI l D cl tys y b nM ret rm av g post) (h : ∀ r g', post r g' → post' r g') : CtI l D cl tys y b nM ret rm av g post' := by
  intro sz p e ha hc hk s m args below hf happ hP hK
  obtain ⟨n, o, h1, h2, h3, ⟨⟨r, u, e1, e2, e3⟩, hF⟩, hL⟩ := hM sz p e ha hc hk s m args below hf happ hP hK
  exact ⟨n, o, h1, h2, h3, ⟨⟨r, u, e1, h r u e2, e3⟩, hF⟩, hL⟩
theorem CtL.mono {l : Launch} {D : va_G} {cl : List vw_C} {tys : List (ClassId × FieldType)} {y : MethodName} {b : ByteArray} {nM : Nat} {ret : Option FieldType} {rm : Room} {av : List Value} {g : Nat → Option va_E} {post post' : Int64 → (Nat → Option va_E) → Prop} (hM : CtL l D cl tys y b nM ret rm av g post) (h : ∀ r g', post r g' → post' r g') : CtL l D cl tys y b nM ret rm av g post' := by
  intro sz p e ha hc hk s m args below hf happ hP hK
  obtain ⟨n, o, h1, h2, h3, ⟨⟨r, u, e1, e2, e3⟩, hF⟩, hL⟩ := hM sz p e ha hc hk s m args below hf happ hP hK
  exact ⟨n, o, h1, h2, h3, ⟨⟨r, u, e1, h r u e2, e3⟩, hF⟩, hL⟩
theorem CtV.mono {l : Launch} {D : va_G} {cl : List vw_C} {tys : List (ClassId × FieldType)} {y : MethodName} {b : ByteArray} {nM : Nat} {ret : Option FieldType} {rm : Room} {av : List Value} {g : Nat → Option va_E} {post post' : (Nat → Option va_E) → Prop} (hM : CtV l D cl tys y b nM ret rm av g post) (h : ∀ g', post g' → post' g') : CtV l D cl tys y b nM ret rm av g post' := by
  intro sz p e ha hc hk s m args below hf happ hP hK
  obtain ⟨n, o, h1, h2, h3, ⟨⟨u, e1, e2, e3⟩, hF⟩, hL⟩ := hM sz p e ha hc hk s m args below hf happ hP hK
  exact ⟨n, o, h1, h2, h3, ⟨⟨u, e1, h u e2, e3⟩, hF⟩, hL⟩
theorem CtR.mono {l : Launch} {D : va_G} {cl : List vw_C} {tys : List (ClassId × FieldType)} {y : MethodName} {b : ByteArray} {nM : Nat} {ret : Option FieldType} {rm : Room} {av : List Value} {g : Nat → Option va_E} {post post' : Option Nat → (Nat → Option va_E) → Prop} (hM : CtR l D cl tys y b nM ret rm av g post) (h : ∀ r g', post r g' → post' r g') : CtR l D cl tys y b nM ret rm av g post' := by
  intro sz p e ha hc hk s m args below hf happ hP hK
  obtain ⟨n, o, h1, h2, h3, ⟨⟨r, u, e1, e2, e3⟩, hF⟩, hL⟩ := hM sz p e ha hc hk s m args below hf happ hP hK
  exact ⟨n, o, h1, h2, h3, ⟨⟨r, u, e1, h r u e2, e3⟩, hF⟩, hL⟩
section SITEM
variable {l : Launch} {D : va_G} {dA : Nat → ClassId} {ad : Nat → Nat} {g : Nat → Option va_E} {nb ni : Nat} {now : Int64} {B : Nat → BT} {I : Nat → IT} {n : Nat} {tk : Int32} {fr : Nat → Int32}
theorem iC_s {i j : Nat} {x : IT} (hb : iBt x = some j) : iCell ad i x = itemE (nI (i + 1)) (iLen x) (some (bA ad j)) (iWt x) (iTurn x) (iStart x) (iFt x) (iEt x) := by
  show itemE _ _ ((iBt x).map (bA ad)) _ _ _ _ _ = _
  rw [hb]
  rfl
theorem iC_n {i : Nat} {x : IT} (hb : iBt x = none) : iCell ad i x = itemE (nI (i + 1)) (iLen x) none (iWt x) (iTurn x) (iStart x) (iFt x) (iEt x) := by
  show itemE _ _ ((iBt x).map (bA ad)) _ _ _ _ _ = _
  rw [hb]
  rfl
theorem bC_s {i j : Nat} {b : BT} (hb : bOnto b = some j) : bCell ad i b = beltE (nI i) (bLen b) (bSpd b) (bSen b) (some (bA ad j)) (bRun b) (bTel b) (bTold b) (bGb b) (bWat b) (bG ad i) (bP ad i) (bW ad i) := by
  show beltE _ _ _ _ ((bOnto b).map (bA ad)) _ _ _ _ _ _ _ _ = _
  rw [hb]
  rfl
theorem bC_n {i : Nat} {b : BT} (hb : bOnto b = none) : bCell ad i b = beltE (nI i) (bLen b) (bSpd b) (bSen b) none (bRun b) (bTel b) (bTold b) (bGb b) (bWat b) (bG ad i) (bP ad i) (bW ad i) := by
  show beltE _ _ _ _ ((bOnto b).map (bA ad)) _ _ _ _ _ _ _ _ = _
  rw [hb]
  rfl
theorem SRep.iS (h : SRep dA ad g nb ni now B I n tk fr) {i j : Nat} (hi : i < ni) (hb : iBt (I i) = some j) : g (iA ad i) = some (itemE (nI (i + 1)) (iLen (I i)) (some (bA ad j)) (iWt (I i)) (iTurn (I i)) (iStart (I i)) (iFt (I i)) (iEt (I i))) := by rw [h.i hi, iC_s hb]
theorem SRep.iN (h : SRep dA ad g nb ni now B I n tk fr) {i : Nat} (hi : i < ni) (hb : iBt (I i) = none) : g (iA ad i) = some (itemE (nI (i + 1)) (iLen (I i)) none (iWt (I i)) (iTurn (I i)) (iStart (I i)) (iFt (I i)) (iEt (I i))) := by rw [h.i hi, iC_n hb]
theorem SRep.bS (h : SRep dA ad g nb ni now B I n tk fr) {i j : Nat} (hi : i < nb) (hb : bOnto (B i) = some j) : g (bA ad i) = some (beltE (nI i) (bLen (B i)) (bSpd (B i)) (bSen (B i)) (some (bA ad j)) (bRun (B i)) (bTel (B i)) (bTold (B i)) (bGb (B i)) (bWat (B i)) (bG ad i) (bP ad i) (bW ad i)) := by rw [h.b hi, bC_s hb]
theorem SRep.bN (h : SRep dA ad g nb ni now B I n tk fr) {i : Nat} (hi : i < nb) (hb : bOnto (B i) = none) : g (bA ad i) = some (beltE (nI i) (bLen (B i)) (bSpd (B i)) (bSen (B i)) none (bRun (B i)) (bTel (B i)) (bTold (B i)) (bGb (B i)) (bWat (B i)) (bG ad i) (bP ad i) (bW ad i)) := by rw [h.b hi, bC_n hb]
/-- Item.moveOver on the state -/
theorem s_moveOver (h : SRep dA ad g nb ni now B I n tk fr) {i : Nat} (hi : i < ni) (t : Int64) : CtV l D classes (tyL dA) y_I_moveOver b_I_moveOver 5 none rm_I_moveOver [.ref (iA ad i), .long t] g (fun g' => g' = va_up g (iA ad i) (some (iCell ad i (moveI B (I i) t)))) := by
  cases hb : iBt (I i) with
  | none =>
    refine (c_I_moveOver_n (h.iN hi hb) t).mono (fun g' e => ?_)
    rw [← e, show moveI B (I i) t = I i by unfold moveI; rw [hb]]
    exact (va_up_id (h.i hi)).symm
  | some j =>
    have hj := h.bt hi hb
    cases ho : bOnto (B j) with
    | none =>
      refine (c_I_moveOver_o (h.iS hi hb) (h.bN hj ho) (h.bp hj) (h.bw hj) t).mono (fun g' e => ?_)
      rw [e]
      congr 2
      unfold moveI
      rw [hb]
      simp only [ho, wayB]
      by_cases h1 : iWt (I i) = 0
      · rw [if_pos h1, if_pos h1]
        by_cases h2 : 0 ≤ wayF (bTold (B j)) (bFp (B j)) (bFw (B j)) t - iStart (I i) - bLen (B j)
        · rw [if_pos h2, if_pos h2]; rfl
        · rw [if_neg h2, if_neg h2, iC_s hb]
      · rw [if_neg h1, if_neg h1]; rfl
    | some k =>
      have hk := h.onto hj ho
      refine (c_I_moveOver_s (h.iS hi hb) (h.bS hj ho) (h.bp hj) (h.bw hj) (h.b hk) (h.bp hk) (h.bw hk) t).mono (fun g' e => ?_)
      rw [e]
      congr 2
      unfold moveI
      rw [hb]
      simp only [ho, wayB]
      by_cases h1 : iWt (I i) = 0
      · rw [if_pos h1, if_pos h1]
        by_cases h2 : 0 ≤ wayF (bTold (B j)) (bFp (B j)) (bFw (B j)) t - iStart (I i) - bLen (B j)
        · rw [if_pos h2, if_pos h2]; rfl
        · rw [if_neg h2, if_neg h2, iC_s hb]
      · rw [if_neg h1, if_neg h1]; rfl
/-- Item.aim on the state -/
theorem s_aim (h : SRep dA ad g nb ni now B I n tk fr) {i : Nat} (hi : i < ni) : CtV l D classes (tyL dA) y_I_aim b_I_aim 3 none rm_I_aim [.ref (iA ad i)] g (fun g' => g' = va_up g (iA ad i) (some (iCell ad i (aimI B (I i))))) := by
  cases hb : iBt (I i) with
  | none =>
    refine (c_I_aim_n (h.iN hi hb)).mono (fun g' e => ?_)
    rw [← e, show aimI B (I i) = I i by unfold aimI; rw [hb]]
    exact (va_up_id (h.i hi)).symm
  | some j =>
    have hj := h.bt hi hb
    refine (c_I_aim (h.iS hi hb) (h.b hj) (h.bp hj) (h.bw hj)).mono (fun g' e => ?_)
    rw [e]
    congr 2
    unfold aimI
    rw [hb]
    rfl
/-- Item.comeOnto on the state -/
theorem s_comeOnto (h : SRep dA ad g nb ni now B I n tk fr) {i j : Nat} (hi : i < ni) (hj : j < nb) (t pl : Int64) : CtV l D classes (tyL dA) y_I_comeOnto b_I_comeOnto 6 none rm_I_comeOnto [.ref (iA ad i), .ref (bA ad j), .long t, .long pl] g (fun g' => g' = va_up g (iA ad i) (some (iCell ad i (comeI B (I i) j t pl)))) := by
  refine (c_I_comeOnto (h.i hi) (h.b hj) (h.bp hj) (h.bw hj) t pl).mono (fun g' e => ?_)
  rw [e]
  rfl
/-- Item.isOn, isOnABelt, placeAt on the state -/
theorem bA_inj (h : SRep dA ad g nb ni now B I n tk fr) {j k : Nat} (hj : j < nb) (hk : k < nb) (e : bA ad j = bA ad k) : j = k := by
  have := h.1 _ _ (okB (k := 0) hj (by omega)) (okB (k := 0) hk (by omega)) e
  omega
theorem bt_eq (h : SRep dA ad g nb ni now B I n tk fr) {i j : Nat} (hi : i < ni) (hj : j < nb) : ((iBt (I i)).map (bA ad) = some (bA ad j)) ↔ iBt (I i) = some j := by
  cases hb : iBt (I i) with
  | none => simp
  | some k =>
    constructor
    · intro q
      have q2 : bA ad k = bA ad j := Option.some.inj q
      rw [bA_inj h (h.bt hi hb) hj q2]
    · intro q
      rw [Option.some.inj q]
      rfl
def isOnF (I : Nat → IT) (i j : Nat) : Int32 := if iBt (I i) = some j then (if iWt (I i) = 0 then 1 else 0) else 0
theorem s_isOn (h : SRep dA ad g nb ni now B I n tk fr) {i j : Nat} (hi : i < ni) (hj : j < nb) : CtI l D classes (tyL dA) y_I_isOn b_I_isOn 2 (some .boolean) rm_I_isOn [.ref (iA ad i), .ref (bA ad j)] g (fun r g' => g = g' ∧ r = isOnF I i j) := by
  refine (c_I_isOn (h.i hi) (bA ad j)).mono (fun r g' e => ⟨e.1, ?_⟩)
  rw [e.2]
  unfold isOnF
  by_cases hb : iBt (I i) = some j
  · rw [if_pos hb, if_pos ((bt_eq h hi hj).mpr hb)]
  · rw [if_neg hb, if_neg (fun q => hb ((bt_eq h hi hj).mp q))]
def onF (x : IT) : Int32 := match iBt x with
  | none => 0
  | some _ => if iWt x = 0 then 1 else 0
theorem s_isOnABelt (h : SRep dA ad g nb ni now B I n tk fr) {i : Nat} (hi : i < ni) : CtI l D classes (tyL dA) y_I_isOnABelt b_I_isOnABelt 1 (some .boolean) rm_I_isOnABelt [.ref (iA ad i)] g (fun r g' => g = g' ∧ r = onF (I i)) := by
  cases hb : iBt (I i) with
  | none =>
    refine (c_I_isOnABelt_n (h.iN hi hb)).mono (fun r g' e => ⟨e.1, ?_⟩)
    rw [e.2]; unfold onF; rw [hb]
  | some j =>
    refine (c_I_isOnABelt_s (h.iS hi hb)).mono (fun r g' e => ⟨e.1, ?_⟩)
    rw [e.2]; unfold onF; rw [hb]
theorem s_placeAt (h : SRep dA ad g nb ni now B I n tk fr) {i j : Nat} (hi : i < ni) (hb : iBt (I i) = some j) (t : Int64) : CtL l D classes (tyL dA) y_I_placeAt b_I_placeAt 3 (some .long) rm_I_placeAt [.ref (iA ad i), .long t] g (fun r g' => g = g' ∧ r = wayB (B j) t - iStart (I i)) :=
  c_I_placeAt (h.iS hi hb) (h.b (h.bt hi hb)) (h.bp (h.bt hi hb)) (h.bw (h.bt hi hb)) t
theorem s_wayAt (h : SRep dA ad g nb ni now B I n tk fr) {j : Nat} (hj : j < nb) (t : Int64) : CtL l D classes (tyL dA) y_B_wayAt b_B_wayAt 4 (some .long) rm_B_wayAt [.ref (bA ad j), .long t] g (fun r g' => g = g' ∧ r = wayB (B j) t) := c_B_wayAt (h.b hj) (h.bp hj) (h.bw hj) t
theorem s_timeOfWay (h : SRep dA ad g nb ni now B I n tk fr) {j : Nat} (hj : j < nb) (w : Int64) : CtL l D classes (tyL dA) y_B_timeOfWay b_B_timeOfWay 10 (some .long) rm_B_timeOfWay [.ref (bA ad j), .long w] g (fun r g' => g = g' ∧ r = towB (B j) w) := c_B_timeOfWay (h.b hj) (h.bp hj) (h.bw hj) w
theorem s_gearAt (h : SRep dA ad g nb ni now B I n tk fr) {j : Nat} (hj : j < nb) (t : Int64) : CtI l D classes (tyL dA) y_B_gearAt b_B_gearAt 3 (some .int) rm_B_gearAt [.ref (bA ad j), .long t] g (fun r g' => g = g' ∧ r = bFg (B j) (stageF (bTold (B j)) t).toNatClampNeg) := c_B_gearAt (h.b hj) (h.bg hj) t
/-- EdgeList on the state -/
theorem s_add (h : SRep dA ad g nb ni now B I n tk fr) (hn : n < 2 ^ 31) (t : Int64) (b i k : Int32) : CtV l D classes (tyL dA) y_E_add b_E_add 7 none rm_E_add [.ref (ad 3), .long t, .int b, .int i, .int k] g (fun g' => SRep dA ad g' nb ni now B I (addE (n, fr) t b i k).1 tk (addE (n, fr) t b i k).2 ∧ SFr ad nb ni g g') := by
  refine (c_E_add h.es h.rs hn t b i k).mono (fun g' e => ?_)
  rw [e]
  refine ⟨h.setE, ?_⟩
  exact (SFr.up (ok0 (by omega))).trans (SFr.up (ok0 (by omega)))
end SITEM
end
section
/-! BeltSteps: its private methods. -/
theorem ix_of {x : Int32} {n : Nat} (h1 : ¬ x < 0) (h2 : ¬ nI n ≤ x) (hn : n < 2 ^ 31) : ∃ k, k < n ∧ x = nI k := by
  rcases pk_ix x hn with h | h | h
  · exact absurd h h1
  · exact absurd h h2
  · exact h
theorem ix_lt {x : Int32} {n : Nat} (h : x < 0) (hn : n < 2 ^ 31) : ∀ k, k < n → x ≠ nI k := fun k hk e => nI_pos (n := k) (by omega) (by rw [← e]; exact h)
theorem ix_ge {x : Int32} {n : Nat} (h : nI n ≤ x) (hn : n < 2 ^ 31) : ∀ k, k < n → x ≠ nI k := fun k hk e => nI_ge (a := k) (b := n) hk hn (by rw [← e]; exact h)
theorem i1_of {x : Int32} {n : Nat} (h1 : ¬ x < 1) (h2 : ¬ nI n < x) (hn : n < 2 ^ 30) : ∃ k, k < n ∧ x = nI (k + 1) := by
  have a1 : 1 ≤ x.toInt := by
    have := fun q => h1 (Int32.lt_iff_toInt_lt.mpr q)
    simp at this
    exact this
  have a2 : x.toInt ≤ n := by
    have := fun q => h2 (Int32.lt_iff_toInt_lt.mpr q)
    rw [nI_toInt (by omega)] at this
    exact Int.not_lt.mp this
  refine ⟨x.toInt.toNat - 1, by omega, ?_⟩
  apply Int32.toInt_inj.mp
  rw [nI_toInt (by omega)]
  omega
theorem i1_lt {x : Int32} {n : Nat} (h : x < 1) (hn : n < 2 ^ 30) : ∀ k, k < n → x ≠ nI (k + 1) := fun k hk e => nI_nlt (a := k + 1) (b := 1) (by omega) (by omega) (by rw [← e]; exact h)
theorem i1_gt {x : Int32} {n : Nat} (h : nI n < x) (hn : n < 2 ^ 30) : ∀ k, k < n → x ≠ nI (k + 1) := fun k hk e => nI_nlt (a := n) (b := k + 1) (by omega) (by omega) (by rw [← e]; exact h)
theorem isOn_1 {I : Nat → IT} {k j : Nat} (h : ¬ isOnF I k j = 0) : iBt (I k) = some j ∧ iWt (I k) = 0 := by
  unfold isOnF at h
  by_cases h1 : iBt (I k) = some j
  · by_cases h2 : iWt (I k) = 0
    · exact ⟨h1, h2⟩
    · rw [if_pos h1, if_neg h2] at h; exact absurd rfl h
  · rw [if_neg h1] at h; exact absurd rfl h
theorem isOn_0 {I : Nat → IT} {k j : Nat} {x y : Nat → IT} (h : isOnF I k j = 0) : (if iBt (I k) = some j then (if iWt (I k) = 0 then x else y) else y) = y := by
  unfold isOnF at h
  by_cases h1 : iBt (I k) = some j
  · by_cases h2 : iWt (I k) = 0
    · rw [if_pos h1, if_pos h2] at h; exact absurd h (by decide)
    · rw [if_pos h1, if_neg h2]
  · rw [if_neg h1]
section S1
variable {ad : Nat → Nat} {nb ni : Nat} {now : Int64} {B : Nat → BT} {I : Nat → IT} {n : Nat} {tk : Int32} {fr : Nat → Int32}
set_option maxHeartbeats 4000000 in
set_option maxRecDepth 100000 in
theorem c_S_beltNumbered {l : Launch} {D : va_G} {dA : Nat → ClassId} {g : Nat → Option va_E}  (h : SRep dA ad g nb ni now B I n tk fr) (x : Int32) : CtR l D classes (tyL dA) y_S_beltNumbered b_S_beltNumbered 2 (some (.object "BeltSteps$Belt")) rm_S_beltNumbered [.ref (ad 0), .int x] g (fun r g' => g = g' ∧ ((∃ k, k < nb ∧ x = nI k ∧ r = some (bA ad k)) ∨ (r = none ∧ ∀ k, k < nb → x ≠ nI k))) := by
  refine CtR.of (by decide) (Nat.le_of_ble_eq_true rfl) ?_
  intro p e s m below meth c X hr hlk hnm
  refine go_iload_n X (z := 1) d_S_beltNumbered_0 rfl rfl ?_
  refine go_if_lt X (tgt := 21) d_S_beltNumbered_1 rfl (fun c1 => ?_) (fun c1 => ?_)
  · refine go_null X d_S_beltNumbered_21 ?_
    exact go_retR X (v := none) hr hlk d_S_beltNumbered_22 ⟨rfl, Or.inr ⟨rfl, ix_lt c1 (by have := h.nb12; omega)⟩⟩
  · refine go_iload_n X (z := 1) d_S_beltNumbered_4 rfl rfl ?_
    refine go_aload_n X (z := 0) d_S_beltNumbered_5 rfl rfl ?_
    refine go_get X u_S rfl 1 (by decide) gm_fl_S_15 rfl d_S_beltNumbered_6 h.this rfl ?_
    refine go_icmp_ge X (tgt := 21) d_S_beltNumbered_9 rfl (fun c2 => ?_) (fun c2 => ?_)
    · refine go_null X d_S_beltNumbered_21 ?_
      exact go_retR X (v := none) hr hlk d_S_beltNumbered_22 ⟨rfl, Or.inr ⟨rfl, ix_ge c2 (by have := h.nb12; omega)⟩⟩
    · have hnb := h.nb12
      obtain ⟨k, hk, rfl⟩ := ix_of c1 c2 (by omega)
      refine go_aload_n X (z := 0) d_S_beltNumbered_12 rfl rfl ?_
      refine go_get X u_S rfl 0 (by decide) gm_fl_S_11 rfl d_S_beltNumbered_13 h.this rfl ?_
      refine go_iload_n X (z := 1) d_S_beltNumbered_16 rfl rfl ?_
      refine go_aald X 3 rfl d_S_beltNumbered_17 h.bs (vp_in_nI (by omega) (by decide)) ?_
      rw [bTab_at hk h.nb12]
      refine go_goto X (tgt := 22) d_S_beltNumbered_18 rfl ?_
      exact go_retR X (v := (some (bA ad k))) hr hlk d_S_beltNumbered_22 ⟨rfl, Or.inl ⟨k, hk, rfl, rfl⟩⟩
set_option maxHeartbeats 4000000 in
set_option maxRecDepth 100000 in
theorem c_S_itemNumbered {l : Launch} {D : va_G} {dA : Nat → ClassId} {g : Nat → Option va_E}  (h : SRep dA ad g nb ni now B I n tk fr) (x : Int32) : CtR l D classes (tyL dA) y_S_itemNumbered b_S_itemNumbered 2 (some (.object "BeltSteps$Item")) rm_S_itemNumbered [.ref (ad 0), .int x] g (fun r g' => g = g' ∧ ((∃ k, k < ni ∧ x = nI (k + 1) ∧ r = some (iA ad k)) ∨ (r = none ∧ ∀ k, k < ni → x ≠ nI (k + 1)))) := by
  refine CtR.of (by decide) (Nat.le_of_ble_eq_true rfl) ?_
  intro p e s m below meth c X hr hlk hnm
  refine go_iload_n X (z := 1) d_S_itemNumbered_0 rfl rfl ?_
  refine go_iconst X (v := 1) d_S_itemNumbered_1 (by decide) ?_
  refine go_icmp_lt X (tgt := 24) d_S_itemNumbered_2 rfl (fun c1 => ?_) (fun c1 => ?_)
  · refine go_null X d_S_itemNumbered_24 ?_
    exact go_retR X (v := none) hr hlk d_S_itemNumbered_25 ⟨rfl, Or.inr ⟨rfl, i1_lt c1 (by have := h.ni60; omega)⟩⟩
  · refine go_iload_n X (z := 1) d_S_itemNumbered_5 rfl rfl ?_
    refine go_aload_n X (z := 0) d_S_itemNumbered_6 rfl rfl ?_
    refine go_get X u_S rfl 3 (by decide) gm_fl_S_25 rfl d_S_itemNumbered_7 h.this rfl ?_
    refine go_icmp_gt X (tgt := 24) d_S_itemNumbered_10 rfl (fun c2 => ?_) (fun c2 => ?_)
    · refine go_null X d_S_itemNumbered_24 ?_
      exact go_retR X (v := none) hr hlk d_S_itemNumbered_25 ⟨rfl, Or.inr ⟨rfl, i1_gt c2 (by have := h.ni60; omega)⟩⟩
    · have hni := h.ni60
      obtain ⟨k, hk, rfl⟩ := i1_of c1 c2 (by omega)
      refine go_aload_n X (z := 0) d_S_itemNumbered_13 rfl rfl ?_
      refine go_get X u_S rfl 2 (by decide) gm_fl_S_21 rfl d_S_itemNumbered_14 h.this rfl ?_
      refine go_iload_n X (z := 1) d_S_itemNumbered_17 rfl rfl ?_
      refine go_iconst X (v := 1) d_S_itemNumbered_18 (by decide) ?_
      refine go_isub X d_S_itemNumbered_19 ?_
      refine go_aald X 4 rfl d_S_itemNumbered_20 h.is (by rw [nI_pred]; exact vp_in_nI (by omega) (by decide)) ?_
      rw [nI_pred, iTab_at hk h.ni60]
      refine go_goto X (tgt := 25) d_S_itemNumbered_21 rfl ?_
      exact go_retR X (v := (some (iA ad k))) hr hlk d_S_itemNumbered_25 ⟨rfl, Or.inl ⟨k, hk, rfl, rfl⟩⟩
set_option maxHeartbeats 4000000 in
set_option maxRecDepth 100000 in
theorem c_S_isNowOrLater {l : Launch} {D : va_G} {dA : Nat → ClassId} {g : Nat → Option va_E}  (h : SRep dA ad g nb ni now B I n tk fr) (t : Int64) : CtI l D classes (tyL dA) y_S_isNowOrLater b_S_isNowOrLater 3 (some .boolean) rm_S_isNowOrLater [.ref (ad 0), .long t] g (fun r g' => g = g' ∧ r = nolF now t) := by
  refine CtI.of (by decide) (Nat.le_of_ble_eq_true rfl) ?_
  intro p e s m below meth c X hr hlk hnm
  refine go_lload_n X (z := 1) d_S_isNowOrLater_0 rfl rfl ?_
  refine go_aload_n X (z := 0) d_S_isNowOrLater_1 rfl rfl ?_
  refine go_get X u_S rfl 5 (by decide) gm_fl_S_35 rfl d_S_isNowOrLater_2 h.this rfl ?_
  refine go_lif_lt X (tgt := 21) d_S_isNowOrLater_5 d_S_isNowOrLater_6 rfl (fun c1 => ?_) (fun c1 => ?_)
  · refine go_iconst X (v := 0) d_S_isNowOrLater_21 (by decide) ?_
    exact go_retZ X hr rfl hlk d_S_isNowOrLater_22 ⟨rfl, by simp only [nolF, if_pos c1]⟩
  · refine go_lload_n X (z := 1) d_S_isNowOrLater_9 rfl rfl ?_
    refine go_ldc2 X d_S_isNowOrLater_10 gm_k_S_149 ?_
    refine go_lif_gt X (tgt := 21) d_S_isNowOrLater_13 d_S_isNowOrLater_14 rfl (fun c2 => ?_) (fun c2 => ?_)
    · refine go_iconst X (v := 0) d_S_isNowOrLater_21 (by decide) ?_
      exact go_retZ X hr rfl hlk d_S_isNowOrLater_22 ⟨rfl, by simp only [nolF, if_neg c1, if_pos c2]⟩
    · refine go_iconst X (v := 1) d_S_isNowOrLater_17 (by decide) ?_
      refine go_goto X (tgt := 22) d_S_isNowOrLater_18 rfl ?_
      exact go_retZ X hr rfl hlk d_S_isNowOrLater_22 ⟨rfl, by simp only [nolF, if_neg c1, if_neg c2]⟩
set_option maxHeartbeats 4000000 in
set_option maxRecDepth 100000 in
theorem c_S_nextTurn {l : Launch} {D : va_G} {dA : Nat → ClassId} {g : Nat → Option va_E}  (h : SRep dA ad g nb ni now B I n tk fr) : CtL l D classes (tyL dA) y_S_nextTurn b_S_nextTurn 4 (some .long) rm_S_nextTurn [.ref (ad 0)] g (fun r g' => g = g' ∧ r = nextN I ni) := by
  refine CtL.of (by decide) (Nat.le_of_ble_eq_true rfl) ?_
  intro p e s m below meth c X hr hlk hnm
  have hni := h.ni60
  have loop : ∀ (f k : Nat) (v : Int64), k + f = ni → v = nextN I k → Go p l e rm_S_nextTurn s m [.ref (ad 0)].toArray below meth c D classes (gA g s.heap.size) 4 (MQ below (va_Ql (fun r g' => g = g' ∧ r = nextN I ni) (fun (g' : Nat → Option va_E) (t : State) => PW D classes (gA g s.heap.size) g' t.heap) (gA g s.heap.size)) [.ref (ad 0)].toArray s 0 0 (gA g s.heap.size)) g 0 0 6 [(3, .int ((nI k))), (0, .ref (ad 0)), (1, .long v)] [] := by
    intro f
    induction f with
    | zero =>
      intro k v hk hv
      have hkn : k = ni := by omega
      subst hkn
      refine go_iload_n X (z := 0) d_S_nextTurn_6 rfl rfl ?_
      refine go_aload_n X (z := 1) d_S_nextTurn_7 rfl rfl ?_
      refine go_get X u_S rfl 3 (by decide) gm_fl_S_25 rfl d_S_nextTurn_8 h.this rfl ?_
      refine go_icmp_ge X (tgt := 44) d_S_nextTurn_11 rfl (fun c1 => ?_) (fun c1 => absurd (Int32.le_refl _) c1)
      refine go_lload_n X (z := 2) d_S_nextTurn_44 rfl rfl ?_
      exact go_retL X hr hlk d_S_nextTurn_45 ⟨rfl, hv⟩
    | succ f ih =>
      intro k v hkf hv
      have hk : k < ni := by omega
      refine go_iload_n X (z := 0) d_S_nextTurn_6 rfl rfl ?_
      refine go_aload_n X (z := 1) d_S_nextTurn_7 rfl rfl ?_
      refine go_get X u_S rfl 3 (by decide) gm_fl_S_25 rfl d_S_nextTurn_8 h.this rfl ?_
      refine go_icmp_ge X (tgt := 44) d_S_nextTurn_11 rfl (fun c1 => absurd c1 (nI_ge (a := k) (b := ni) hk (by omega))) (fun c1 => ?_)
      refine go_aload_n X (z := 1) d_S_nextTurn_14 rfl rfl ?_
      refine go_get X u_S rfl 2 (by decide) gm_fl_S_21 rfl d_S_nextTurn_15 h.this rfl ?_
      refine go_iload_n X (z := 0) d_S_nextTurn_18 rfl rfl ?_
      refine go_aald X 4 rfl d_S_nextTurn_19 h.is (vp_in_nI (by omega) (by decide)) ?_
      rw [iTab_at hk h.ni60]
      refine go_get X u_I rfl 4 (by decide) gm_fl_S_164 rfl d_S_nextTurn_20 (h.i hk) rfl ?_
      refine go_lload_n X (z := 2) d_S_nextTurn_23 rfl rfl ?_
      refine go_lif_ge X (tgt := 38) d_S_nextTurn_24 d_S_nextTurn_25 rfl (fun c2 => ?_) (fun c2 => ?_)
      · refine go_iinc X (j := 0) (v := nI (k + 1)) d_S_nextTurn_38 rfl (nI_1 k) (by decide) rfl ?_
        refine go_goto X (tgt := 6) d_S_nextTurn_41 rfl ?_
        refine go_sub (lv' := [(3, .int (nI (k + 1))), (0, .ref (ad 0)), (1, .long v)]) [0, 1, 2] rfl ?_
        exact ih (k + 1) _ (by omega) (by simp only [nextN]; rw [← hv, if_pos c2])
      · refine go_aload_n X (z := 1) d_S_nextTurn_28 rfl rfl ?_
        refine go_get X u_S rfl 2 (by decide) gm_fl_S_21 rfl d_S_nextTurn_29 h.this rfl ?_
        refine go_iload_n X (z := 0) d_S_nextTurn_32 rfl rfl ?_
        refine go_aald X 4 rfl d_S_nextTurn_33 h.is (vp_in_nI (by omega) (by decide)) ?_
        rw [iTab_at hk h.ni60]
        refine go_get X u_I rfl 4 (by decide) gm_fl_S_164 rfl d_S_nextTurn_34 (h.i hk) rfl ?_
        refine go_topl (fun x3 ex3 => ?_)
        refine go_lstore_n X (lv' := [(1, .long x3), (3, .int ((nI k))), (0, .ref (ad 0))]) d_S_nextTurn_37 rfl (by decide) rfl ?_
        refine go_iinc X (j := 1) (v := nI (k + 1)) d_S_nextTurn_38 rfl (nI_1 k) (by decide) rfl ?_
        refine go_goto X (tgt := 6) d_S_nextTurn_41 rfl ?_
        refine go_sub (lv' := [(3, .int (nI (k + 1))), (0, .ref (ad 0)), (1, .long x3)]) [0, 2, 1] rfl ?_
        exact ih (k + 1) _ (by omega) (by rw [ex3]; simp only [nextN]; rw [← hv, if_neg c2])
  refine go_ldc2 X d_S_nextTurn_0 gm_k_S_162 ?_
  refine go_lstore_n X (lv' := [(1, .long 1000000000000), (0, .ref (ad 0))]) d_S_nextTurn_3 rfl (by decide) rfl ?_
  refine go_iconst X (v := 0) d_S_nextTurn_4 (by decide) ?_
  refine go_istore_n X (lv' := [(3, .int (nI 0)), (1, .long 1000000000000), (0, .ref (ad 0))]) d_S_nextTurn_5 rfl (by decide) rfl ?_
  refine go_sub (lv' := [(3, .int (nI 0)), (0, .ref (ad 0)), (1, .long 1000000000000)]) [0, 2, 1] rfl ?_
  exact loop ni 0 _ (Nat.zero_add _) rfl
set_option maxHeartbeats 4000000 in
set_option maxRecDepth 100000 in
theorem c_S_moveItems {l : Launch} {D : va_G} {dA : Nat → ClassId} {g : Nat → Option va_E}  (h : SRep dA ad g nb ni now B I n tk fr) (t : Int64) : CtV l D classes (tyL dA) y_S_moveItems b_S_moveItems 4 none rm_S_moveItems [.ref (ad 0), .long t] g (fun g' => SRep dA ad g' nb ni now B (moveN B t I ni) n tk fr ∧ SFr ad nb ni g g') := by
  refine CtV.of (by decide) (Nat.le_of_ble_eq_true rfl) ?_
  intro p e s m below meth c X hr hlk hnm
  have hni := h.ni60
  have loop : ∀ (f k : Nat) (g1 : Nat → Option va_E) (I1 : Nat → IT), k + f = ni → I1 = moveN B t I k → SRep dA ad g1 nb ni now B I1 n tk fr → SFr ad nb ni g g1 → Go p l e rm_S_moveItems s m [.ref (ad 0), .long t].toArray below meth c D classes (gA g s.heap.size) 4 (MQ below (va_Qv (fun g' => SRep dA ad g' nb ni now B (moveN B t I ni) n tk fr ∧ SFr ad nb ni g g') (fun (g' : Nat → Option va_E) (t : State) => PW D classes (gA g s.heap.size) g' t.heap) (gA g s.heap.size)) [.ref (ad 0), .long t].toArray s 0 0 (gA g s.heap.size)) g1 0 0 2 [(3, .int ((nI k))), (0, .ref (ad 0)), (1, .long t)] [] := by
    intro f
    induction f with
    | zero =>
      intro k g1 I1 hk hI h1 hF
      have hkn : k = ni := by omega
      subst hkn
      refine go_iload_n X (z := 0) d_S_moveItems_2 rfl rfl ?_
      refine go_aload_n X (z := 1) d_S_moveItems_3 rfl rfl ?_
      refine go_get X u_S rfl 3 (by decide) gm_fl_S_25 rfl d_S_moveItems_4 h1.this rfl ?_
      refine go_icmp_ge X (tgt := 40) d_S_moveItems_7 rfl (fun c1 => ?_) (fun c1 => absurd (Int32.le_refl _) c1)
      exact go_retV X hr hlk d_S_moveItems_40 ⟨hI ▸ h1, hF⟩
    | succ f ih =>
      intro k g1 I1 hkf hI h1 hF
      have hk : k < ni := by omega
      refine go_iload_n X (z := 0) d_S_moveItems_2 rfl rfl ?_
      refine go_aload_n X (z := 1) d_S_moveItems_3 rfl rfl ?_
      refine go_get X u_S rfl 3 (by decide) gm_fl_S_25 rfl d_S_moveItems_4 h1.this rfl ?_
      refine go_icmp_ge X (tgt := 40) d_S_moveItems_7 rfl (fun c1 => absurd c1 (nI_ge (a := k) (b := ni) hk (by omega))) (fun c1 => ?_)
      refine go_aload_n X (z := 1) d_S_moveItems_10 rfl rfl ?_
      refine go_get X u_S rfl 2 (by decide) gm_fl_S_21 rfl d_S_moveItems_11 h1.this rfl ?_
      refine go_iload_n X (z := 0) d_S_moveItems_14 rfl rfl ?_
      refine go_aald X 4 rfl d_S_moveItems_15 h1.is (vp_in_nI (by omega) (by decide)) ?_
      rw [iTab_at hk h1.ni60]
      refine go_get X u_I rfl 4 (by decide) gm_fl_S_164 rfl d_S_moveItems_16 (h1.i hk) rfl ?_
      refine go_lload_n X (z := 2) d_S_moveItems_19 rfl rfl ?_
      refine go_lif_ne X (tgt := 34) d_S_moveItems_20 d_S_moveItems_21 rfl (fun c2 => ?_) (fun c2 => ?_)
      · refine go_iinc X (j := 0) (v := nI (k + 1)) d_S_moveItems_34 rfl (nI_1 k) (by decide) rfl ?_
        refine go_goto X (tgt := 2) d_S_moveItems_37 rfl ?_
        exact ih (k + 1) _ I1 (by omega) (by rw [hI]; simp only [moveN]; rw [← hI, if_neg c2]) h1 hF
      · refine go_aload_n X (z := 1) d_S_moveItems_24 rfl rfl ?_
        refine go_get X u_S rfl 2 (by decide) gm_fl_S_21 rfl d_S_moveItems_25 h1.this rfl ?_
        refine go_iload_n X (z := 0) d_S_moveItems_28 rfl rfl ?_
        refine go_aald X 4 rfl d_S_moveItems_29 h1.is (vp_in_nI (by omega) (by decide)) ?_
        rw [iTab_at hk h1.ni60]
        refine go_lload_n X (z := 2) d_S_moveItems_30 rfl rfl ?_
        refine go_callV_V X (As := [.long t]) (rest := []) (s_moveOver h1 hk t) gm_ml_S_167 cw_I_moveOver ⟨by decide, by decide⟩ rfl (h1.i hk) rfl rfl (Nat.le_of_ble_eq_true rfl) d_S_moveItems_31 ⟨by decide, by decide⟩ (fun gz hz => ?_)
        refine go_iinc X (j := 0) (v := nI (k + 1)) d_S_moveItems_34 rfl (nI_1 k) (by decide) rfl ?_
        refine go_goto X (tgt := 2) d_S_moveItems_37 rfl ?_
        exact ih (k + 1) _ (va_up I1 k (moveI B (I1 k) t)) (by omega) (by rw [hI]; simp only [moveN]; rw [← hI, if_pos c2]) (hz ▸ h1.setI hk (moveI_ok h1 hk t)) (hF.trans (hz ▸ SFr.up (okI hk)))
  refine go_iconst X (v := 0) d_S_moveItems_0 (by decide) ?_
  refine go_istore_n X (lv' := [(3, .int (nI 0)), (0, .ref (ad 0)), (1, .long t)]) d_S_moveItems_1 rfl (by decide) rfl ?_
  exact loop ni 0 g I (Nat.zero_add _) rfl h SFr.rfl'
set_option maxHeartbeats 4000000 in
set_option maxRecDepth 100000 in
theorem c_S_aimItemsOn {l : Launch} {D : va_G} {dA : Nat → ClassId} {g : Nat → Option va_E}  (h : SRep dA ad g nb ni now B I n tk fr) {j : Nat} (hj : j < nb) : CtV l D classes (tyL dA) y_S_aimItemsOn b_S_aimItemsOn 3 none rm_S_aimItemsOn [.ref (ad 0), .ref (bA ad j)] g (fun g' => SRep dA ad g' nb ni now B (aimN B j I ni) n tk fr ∧ SFr ad nb ni g g') := by
  refine CtV.of (by decide) (Nat.le_of_ble_eq_true rfl) ?_
  intro p e s m below meth c X hr hlk hnm
  have hni := h.ni60
  have loop : ∀ (f k : Nat) (g1 : Nat → Option va_E) (I1 : Nat → IT), k + f = ni → I1 = aimN B j I k → SRep dA ad g1 nb ni now B I1 n tk fr → SFr ad nb ni g g1 → Go p l e rm_S_aimItemsOn s m [.ref (ad 0), .ref (bA ad j)].toArray below meth c D classes (gA g s.heap.size) 3 (MQ below (va_Qv (fun g' => SRep dA ad g' nb ni now B (aimN B j I ni) n tk fr ∧ SFr ad nb ni g g') (fun (g' : Nat → Option va_E) (t : State) => PW D classes (gA g s.heap.size) g' t.heap) (gA g s.heap.size)) [.ref (ad 0), .ref (bA ad j)].toArray s 0 0 (gA g s.heap.size)) g1 0 0 2 [(2, .int ((nI k))), (0, .ref (ad 0)), (1, .ref (bA ad j))] [] := by
    intro f
    induction f with
    | zero =>
      intro k g1 I1 hk hI h1 hF
      have hkn : k = ni := by omega
      subst hkn
      refine go_iload_n X (z := 0) d_S_aimItemsOn_2 rfl rfl ?_
      refine go_aload_n X (z := 1) d_S_aimItemsOn_3 rfl rfl ?_
      refine go_get X u_S rfl 3 (by decide) gm_fl_S_25 rfl d_S_aimItemsOn_4 h1.this rfl ?_
      refine go_icmp_ge X (tgt := 38) d_S_aimItemsOn_7 rfl (fun c1 => ?_) (fun c1 => absurd (Int32.le_refl _) c1)
      exact go_retV X hr hlk d_S_aimItemsOn_38 ⟨hI ▸ h1, hF⟩
    | succ f ih =>
      intro k g1 I1 hkf hI h1 hF
      have hk : k < ni := by omega
      refine go_iload_n X (z := 0) d_S_aimItemsOn_2 rfl rfl ?_
      refine go_aload_n X (z := 1) d_S_aimItemsOn_3 rfl rfl ?_
      refine go_get X u_S rfl 3 (by decide) gm_fl_S_25 rfl d_S_aimItemsOn_4 h1.this rfl ?_
      refine go_icmp_ge X (tgt := 38) d_S_aimItemsOn_7 rfl (fun c1 => absurd c1 (nI_ge (a := k) (b := ni) hk (by omega))) (fun c1 => ?_)
      refine go_aload_n X (z := 1) d_S_aimItemsOn_10 rfl rfl ?_
      refine go_get X u_S rfl 2 (by decide) gm_fl_S_21 rfl d_S_aimItemsOn_11 h1.this rfl ?_
      refine go_iload_n X (z := 0) d_S_aimItemsOn_14 rfl rfl ?_
      refine go_aald X 4 rfl d_S_aimItemsOn_15 h1.is (vp_in_nI (by omega) (by decide)) ?_
      rw [iTab_at hk h1.ni60]
      refine go_aload_n X (z := 2) d_S_aimItemsOn_16 rfl rfl ?_
      refine go_callI_V X (As := [.ref (bA ad j)]) (rest := []) (s_isOn h1 hk hj) gm_ml_S_141 cw_I_isOn ⟨by decide, by decide⟩ rfl (h1.i hk) rfl rfl (Nat.le_of_ble_eq_true rfl) d_S_aimItemsOn_17 ⟨by decide, by decide⟩ (fun ru gu hu => ?_)
      obtain ⟨rfl, rfl⟩ := hu
      refine go_if_eq X (tgt := 32) d_S_aimItemsOn_20 rfl (fun c2 => ?_) (fun c2 => ?_)
      · refine go_iinc X (j := 0) (v := nI (k + 1)) d_S_aimItemsOn_32 rfl (nI_1 k) (by decide) rfl ?_
        refine go_goto X (tgt := 2) d_S_aimItemsOn_35 rfl ?_
        exact ih (k + 1) _ I1 (by omega) (by rw [hI]; simp only [aimN]; rw [← hI]; exact (isOn_0 c2).symm) h1 hF
      · refine go_aload_n X (z := 1) d_S_aimItemsOn_23 rfl rfl ?_
        refine go_get X u_S rfl 2 (by decide) gm_fl_S_21 rfl d_S_aimItemsOn_24 h1.this rfl ?_
        refine go_iload_n X (z := 0) d_S_aimItemsOn_27 rfl rfl ?_
        refine go_aald X 4 rfl d_S_aimItemsOn_28 h1.is (vp_in_nI (by omega) (by decide)) ?_
        rw [iTab_at hk h1.ni60]
        refine go_callV_V X (As := []) (rest := []) (s_aim h1 hk) gm_ml_S_124 cw_I_aim ⟨by decide, by decide⟩ rfl (h1.i hk) rfl rfl (Nat.le_of_ble_eq_true rfl) d_S_aimItemsOn_29 ⟨by decide, by decide⟩ (fun gz hz => ?_)
        refine go_iinc X (j := 0) (v := nI (k + 1)) d_S_aimItemsOn_32 rfl (nI_1 k) (by decide) rfl ?_
        refine go_goto X (tgt := 2) d_S_aimItemsOn_35 rfl ?_
        exact ih (k + 1) _ (va_up I1 k (aimI B (I1 k))) (by omega) (by rw [hI]; simp only [aimN]; rw [← hI, if_pos (isOn_1 c2).1, if_pos (isOn_1 c2).2]) (hz ▸ h1.setI hk (fun q hq => h1.bt hk (by rw [aimI_bt] at hq; exact hq))) (hF.trans (hz ▸ SFr.up (okI hk)))
  refine go_iconst X (v := 0) d_S_aimItemsOn_0 (by decide) ?_
  refine go_istore_n X (lv' := [(2, .int (nI 0)), (0, .ref (ad 0)), (1, .ref (bA ad j))]) d_S_aimItemsOn_1 rfl (by decide) rfl ?_
  exact loop ni 0 g I (Nat.zero_add _) rfl h SFr.rfl'
end S1
end
section
/-! BeltSteps: isShort, tellEdgesOf, tellEdges, passTo. -/
section S2
variable {ad : Nat → Nat} {nb ni : Nat} {now : Int64} {B : Nat → BT} {I : Nat → IT} {n : Nat} {tk : Int32} {fr : Nat → Int32}
set_option maxHeartbeats 4000000 in
set_option maxRecDepth 100000 in
theorem c_S_isShort {l : Launch} {D : va_G} {dA : Nat → ClassId} {g : Nat → Option va_E}  (h : SRep dA ad g nb ni now B I n tk fr) {i j : Nat} (hi : i < ni) (hb : iBt (I i) = some j) (way : Int64) : CtI l D classes (tyL dA) y_S_isShort b_S_isShort 11 (some .boolean) rm_S_isShort [.ref (ad 0), .ref (iA ad i), .long way] g (fun r g' => g = g' ∧ r = shF I ni i way) := by
  refine CtI.of (by decide) (Nat.le_of_ble_eq_true rfl) ?_
  intro p e s m below meth c X hr hlk hnm
  have hni := h.ni60
  have hj := h.bt hi hb
  have loop : ∀ (f k : Nat) (fv : Int64), k + f = ni → fv = way - iStart (I i) → (∀ q, q < k → ¬ shK I i way q) → Go p l e rm_S_isShort s m [.ref (ad 0), .ref (iA ad i), .long way].toArray below meth c D classes (gA g s.heap.size) 11 (MQ below (va_Qi (fun r g' => g = g' ∧ r = shF I ni i way) (fun (g' : Nat → Option va_E) (t : State) => PW D classes (gA g s.heap.size) g' t.heap) (gA g s.heap.size)) [.ref (ad 0), .ref (iA ad i), .long way].toArray s 0 0 (gA g s.heap.size)) g 0 0 11 [(6, .int ((nI k))), (4, .long fv), (0, .ref (ad 0)), (1, .ref (iA ad i)), (2, .long way)] [] := by
    intro f
    induction f with
    | zero =>
      intro k fv hk hv hno
      have hkn : k = ni := by omega
      subst hkn
      refine go_iload X (z := 0) d_S_isShort_11 rfl ?_
      refine go_aload_n X (z := 2) d_S_isShort_13 rfl rfl ?_
      refine go_get X u_S rfl 3 (by decide) gm_fl_S_25 rfl d_S_isShort_14 h.this rfl ?_
      refine go_icmp_ge X (tgt := 125) d_S_isShort_17 rfl (fun c1 => ?_) (fun c1 => absurd (Int32.le_refl _) c1)
      refine go_iconst X (v := 0) d_S_isShort_125 (by decide) ?_
      exact go_retZ X hr rfl hlk d_S_isShort_126 ⟨rfl, (shF_0 (fun q => by obtain ⟨k, hk, hs⟩ := q; exact hno k hk hs)).symm⟩
    | succ f ih =>
      intro k fv hkf hv hno
      have hk : k < ni := by omega
      refine go_iload X (z := 0) d_S_isShort_11 rfl ?_
      refine go_aload_n X (z := 2) d_S_isShort_13 rfl rfl ?_
      refine go_get X u_S rfl 3 (by decide) gm_fl_S_25 rfl d_S_isShort_14 h.this rfl ?_
      refine go_icmp_ge X (tgt := 125) d_S_isShort_17 rfl (fun c1 => absurd c1 (nI_ge (a := k) (b := ni) hk (by omega))) (fun c1 => ?_)
      refine go_aload_n X (z := 2) d_S_isShort_20 rfl rfl ?_
      refine go_get X u_S rfl 2 (by decide) gm_fl_S_21 rfl d_S_isShort_21 h.this rfl ?_
      refine go_iload X (z := 0) d_S_isShort_24 rfl ?_
      refine go_aald X 4 rfl d_S_isShort_26 h.is (vp_in_nI (by omega) (by decide)) ?_
      rw [iTab_at hk h.ni60]
      refine go_astore X (lv' := [(7, .ref (iA ad k)), (6, .int ((nI k))), (4, .long fv), (0, .ref (ad 0)), (1, .ref (iA ad i)), (2, .long way)]) d_S_isShort_27 (by decide) rfl ?_
      refine go_aload X (z := 0) d_S_isShort_29 rfl ?_
      refine go_aload_n X (z := 4) d_S_isShort_31 rfl rfl ?_
      refine go_acmp_eq X (ry := (some (iA ad i))) (rx := (some (iA ad k))) (tgt := 119) d_S_isShort_32 rfl (fun c2 => ?_) (fun c2 => ?_)
      · have hn1 : ¬ shK I i way k := by
          subst hv
          intro ⟨s1, s2, s3, s4, s5⟩
          exact s1 (by have := h.1 _ _ (okI hk) (okI hi) (Option.some.inj c2); omega)
        refine go_iinc X (j := 1) (v := nI (k + 1)) d_S_isShort_119 rfl (nI_1 k) (by decide) rfl ?_
        refine go_goto X (tgt := 11) d_S_isShort_122 rfl ?_
        refine go_sub (lv' := [(6, .int (nI (k + 1))), (4, .long fv), (0, .ref (ad 0)), (1, .ref (iA ad i)), (2, .long way)]) [0, 2, 3, 4, 5] rfl ?_
        exact ih (k + 1) fv (by omega) hv (lt_s hno hn1)
      · refine go_aload X (z := 0) d_S_isShort_35 rfl ?_
        refine go_aload_n X (z := 4) d_S_isShort_37 rfl rfl ?_
        refine go_get X u_I rfl 2 (by decide) gm_fl_S_135 rfl d_S_isShort_38 (h.iS hi hb) rfl ?_
        refine go_callI_V X (As := [.ref (bA ad j)]) (rest := []) (s_isOn h hk hj) gm_ml_S_141 cw_I_isOn ⟨by decide, by decide⟩ rfl (h.i hk) rfl rfl (Nat.le_of_ble_eq_true rfl) d_S_isShort_41 ⟨by decide, by decide⟩ (fun ru gu hu => ?_)
        obtain ⟨rfl, rfl⟩ := hu
        refine go_if_ne X (tgt := 50) d_S_isShort_44 rfl (fun c3 => ?_) (fun c3 => ?_)
        · refine go_lload_n X (z := 5) d_S_isShort_50 rfl rfl ?_
          refine go_aload X (z := 0) d_S_isShort_51 rfl ?_
          refine go_get X u_I rfl 5 (by decide) gm_fl_S_121 rfl d_S_isShort_53 (h.i hk) rfl ?_
          refine go_lsub X d_S_isShort_56 ?_
          refine go_topl (fun x4 ex4 => ?_)
          refine go_lstore X (lv' := [(8, .long x4), (7, .ref (iA ad k)), (6, .int ((nI k))), (4, .long fv), (0, .ref (ad 0)), (1, .ref (iA ad i)), (2, .long way)]) d_S_isShort_57 (by decide) rfl ?_
          refine go_lload X (z := 0) d_S_isShort_59 rfl ?_
          refine go_lload X (z := 3) d_S_isShort_61 rfl ?_
          refine go_lif_gt X (tgt := 87) d_S_isShort_63 d_S_isShort_64 rfl (fun c5 => ?_) (fun c5 => ?_)
          · refine go_iconst X (v := 1) d_S_isShort_87 (by decide) ?_
            refine go_goto X (tgt := 92) d_S_isShort_88 rfl ?_
            refine go_istore X (lv' := [(10, .int 1), (8, .long x4), (7, .ref (iA ad k)), (6, .int ((nI k))), (4, .long fv), (0, .ref (ad 0)), (1, .ref (iA ad i)), (2, .long way)]) d_S_isShort_92 (by decide) rfl ?_
            refine go_iload X (z := 0) d_S_isShort_94 rfl ?_
            refine go_if_eq X (tgt := 119) d_S_isShort_96 rfl (fun h => absurd h (by decide)) (fun _ => ?_)
            refine go_lload X (z := 1) d_S_isShort_99 rfl ?_
            refine go_aload X (z := 2) d_S_isShort_101 rfl ?_
            refine go_get X u_I rfl 1 (by decide) gm_fl_S_138 rfl d_S_isShort_103 (h.i hk) rfl ?_
            refine go_lsub X d_S_isShort_106 ?_
            refine go_lload X (z := 4) d_S_isShort_107 rfl ?_
            refine go_lsub X d_S_isShort_109 ?_
            refine go_ldc2 X d_S_isShort_110 gm_k_S_194 ?_
            refine go_lif_ge X (tgt := 119) d_S_isShort_113 d_S_isShort_114 rfl (fun c7 => ?_) (fun c7 => ?_)
            · have hn1 : ¬ shK I i way k := by
                subst ex4
                subst hv
                intro ⟨s1, s2, s3, s4, s5⟩
                exact absurd s5 (Int64.not_lt.mpr c7)
              refine go_iinc X (j := 3) (v := nI (k + 1)) d_S_isShort_119 rfl (nI_1 k) (by decide) rfl ?_
              refine go_goto X (tgt := 11) d_S_isShort_122 rfl ?_
              refine go_sub (lv' := [(6, .int (nI (k + 1))), (4, .long fv), (0, .ref (ad 0)), (1, .ref (iA ad i)), (2, .long way)]) [0, 4, 5, 6, 7] rfl ?_
              exact ih (k + 1) fv (by omega) hv (lt_s hno hn1)
            · refine go_iconst X (v := 1) d_S_isShort_117 (by decide) ?_
              have hs : shK I i way k := by
                subst ex4
                subst hv
                exact ⟨fun q => c2 (by rw [q]), (isOn_1 c3).1.trans hb.symm, (isOn_1 c3).2, Or.inl c5, Int64.not_le.mp c7⟩
              exact go_retZ X hr rfl hlk d_S_isShort_118 ⟨rfl, (shF_1 ⟨k, hk, hs⟩).symm⟩
          · refine go_lload X (z := 0) d_S_isShort_67 rfl ?_
            refine go_lload X (z := 3) d_S_isShort_69 rfl ?_
            refine go_lif_ne X (tgt := 91) d_S_isShort_71 d_S_isShort_72 rfl (fun c8 => ?_) (fun c8 => ?_)
            · refine go_iconst X (v := 0) d_S_isShort_91 (by decide) ?_
              refine go_istore X (lv' := [(10, .int 0), (8, .long x4), (7, .ref (iA ad k)), (6, .int ((nI k))), (4, .long fv), (0, .ref (ad 0)), (1, .ref (iA ad i)), (2, .long way)]) d_S_isShort_92 (by decide) rfl ?_
              refine go_iload X (z := 0) d_S_isShort_94 rfl ?_
              refine go_if_eq X (tgt := 119) d_S_isShort_96 rfl (fun _ => ?_) (fun h => absurd (by decide) h)
              have hn1 : ¬ shK I i way k := by
                subst ex4
                subst hv
                intro ⟨s1, s2, s3, s4, s5⟩
                exact s4.elim (fun q => c5 q) (fun q => c8 q.1)
              refine go_iinc X (j := 3) (v := nI (k + 1)) d_S_isShort_119 rfl (nI_1 k) (by decide) rfl ?_
              refine go_goto X (tgt := 11) d_S_isShort_122 rfl ?_
              refine go_sub (lv' := [(6, .int (nI (k + 1))), (4, .long fv), (0, .ref (ad 0)), (1, .ref (iA ad i)), (2, .long way)]) [0, 4, 5, 6, 7] rfl ?_
              exact ih (k + 1) fv (by omega) hv (lt_s hno hn1)
            · refine go_aload X (z := 1) d_S_isShort_75 rfl ?_
              refine go_get X u_I rfl 0 (by decide) gm_fl_S_73 rfl d_S_isShort_77 (h.i hk) rfl ?_
              refine go_aload_n X (z := 5) d_S_isShort_80 rfl rfl ?_
              refine go_get X u_I rfl 0 (by decide) gm_fl_S_73 rfl d_S_isShort_81 (h.iS hi hb) rfl ?_
              refine go_icmp_ge X (tgt := 91) d_S_isShort_84 rfl (fun c10 => ?_) (fun c10 => ?_)
              · refine go_iconst X (v := 0) d_S_isShort_91 (by decide) ?_
                refine go_istore X (lv' := [(10, .int 0), (8, .long x4), (7, .ref (iA ad k)), (6, .int ((nI k))), (4, .long fv), (0, .ref (ad 0)), (1, .ref (iA ad i)), (2, .long way)]) d_S_isShort_92 (by decide) rfl ?_
                refine go_iload X (z := 0) d_S_isShort_94 rfl ?_
                refine go_if_eq X (tgt := 119) d_S_isShort_96 rfl (fun _ => ?_) (fun h => absurd (by decide) h)
                have hn1 : ¬ shK I i way k := by
                  subst ex4
                  subst hv
                  intro ⟨s1, s2, s3, s4, s5⟩
                  exact s4.elim (fun q => c5 q) (fun q => absurd q.2 (Int32.not_lt.mpr c10))
                refine go_iinc X (j := 3) (v := nI (k + 1)) d_S_isShort_119 rfl (nI_1 k) (by decide) rfl ?_
                refine go_goto X (tgt := 11) d_S_isShort_122 rfl ?_
                refine go_sub (lv' := [(6, .int (nI (k + 1))), (4, .long fv), (0, .ref (ad 0)), (1, .ref (iA ad i)), (2, .long way)]) [0, 4, 5, 6, 7] rfl ?_
                exact ih (k + 1) fv (by omega) hv (lt_s hno hn1)
              · refine go_iconst X (v := 1) d_S_isShort_87 (by decide) ?_
                refine go_goto X (tgt := 92) d_S_isShort_88 rfl ?_
                refine go_istore X (lv' := [(10, .int 1), (8, .long x4), (7, .ref (iA ad k)), (6, .int ((nI k))), (4, .long fv), (0, .ref (ad 0)), (1, .ref (iA ad i)), (2, .long way)]) d_S_isShort_92 (by decide) rfl ?_
                refine go_iload X (z := 0) d_S_isShort_94 rfl ?_
                refine go_if_eq X (tgt := 119) d_S_isShort_96 rfl (fun h => absurd h (by decide)) (fun _ => ?_)
                refine go_lload X (z := 1) d_S_isShort_99 rfl ?_
                refine go_aload X (z := 2) d_S_isShort_101 rfl ?_
                refine go_get X u_I rfl 1 (by decide) gm_fl_S_138 rfl d_S_isShort_103 (h.i hk) rfl ?_
                refine go_lsub X d_S_isShort_106 ?_
                refine go_lload X (z := 4) d_S_isShort_107 rfl ?_
                refine go_lsub X d_S_isShort_109 ?_
                refine go_ldc2 X d_S_isShort_110 gm_k_S_194 ?_
                refine go_lif_ge X (tgt := 119) d_S_isShort_113 d_S_isShort_114 rfl (fun c13 => ?_) (fun c13 => ?_)
                · have hn1 : ¬ shK I i way k := by
                    subst ex4
                    subst hv
                    intro ⟨s1, s2, s3, s4, s5⟩
                    exact absurd s5 (Int64.not_lt.mpr c13)
                  refine go_iinc X (j := 3) (v := nI (k + 1)) d_S_isShort_119 rfl (nI_1 k) (by decide) rfl ?_
                  refine go_goto X (tgt := 11) d_S_isShort_122 rfl ?_
                  refine go_sub (lv' := [(6, .int (nI (k + 1))), (4, .long fv), (0, .ref (ad 0)), (1, .ref (iA ad i)), (2, .long way)]) [0, 4, 5, 6, 7] rfl ?_
                  exact ih (k + 1) fv (by omega) hv (lt_s hno hn1)
                · refine go_iconst X (v := 1) d_S_isShort_117 (by decide) ?_
                  have hs : shK I i way k := by
                    subst ex4
                    subst hv
                    exact ⟨fun q => c2 (by rw [q]), (isOn_1 c3).1.trans hb.symm, (isOn_1 c3).2, Or.inr ⟨c8, Int32.not_le.mp c10⟩, Int64.not_le.mp c13⟩
                  exact go_retZ X hr rfl hlk d_S_isShort_118 ⟨rfl, (shF_1 ⟨k, hk, hs⟩).symm⟩
        · refine go_goto X (tgt := 119) d_S_isShort_47 rfl ?_
          have hn1 : ¬ shK I i way k := by
            subst hv
            intro ⟨s1, s2, s3, s4, s5⟩
            exact absurd c3 (by unfold isOnF; rw [if_pos (s2.trans hb), if_pos s3]; decide)
          refine go_iinc X (j := 1) (v := nI (k + 1)) d_S_isShort_119 rfl (nI_1 k) (by decide) rfl ?_
          refine go_goto X (tgt := 11) d_S_isShort_122 rfl ?_
          refine go_sub (lv' := [(6, .int (nI (k + 1))), (4, .long fv), (0, .ref (ad 0)), (1, .ref (iA ad i)), (2, .long way)]) [0, 2, 3, 4, 5] rfl ?_
          exact ih (k + 1) fv (by omega) hv (lt_s hno hn1)
  refine go_lload_n X (z := 2) d_S_isShort_0 rfl rfl ?_
  refine go_aload_n X (z := 1) d_S_isShort_1 rfl rfl ?_
  refine go_get X u_I rfl 5 (by decide) gm_fl_S_121 rfl d_S_isShort_2 (h.iS hi hb) rfl ?_
  refine go_lsub X d_S_isShort_5 ?_
  refine go_topl (fun x1 ex1 => ?_)
  refine go_lstore X (lv' := [(4, .long x1), (0, .ref (ad 0)), (1, .ref (iA ad i)), (2, .long way)]) d_S_isShort_6 (by decide) rfl ?_
  refine go_iconst X (v := 0) d_S_isShort_8 (by decide) ?_
  refine go_istore X (lv' := [(6, .int 0), (4, .long x1), (0, .ref (ad 0)), (1, .ref (iA ad i)), (2, .long way)]) d_S_isShort_9 (by decide) rfl ?_
  refine go_sub (lv' := [(6, .int (nI 0)), (4, .long x1), (0, .ref (ad 0)), (1, .ref (iA ad i)), (2, .long way)]) [0, 1, 2, 3, 4] rfl ?_
  exact loop ni 0 x1 (Nat.zero_add _) ex1 lt_0
theorem fr_bt (x : IT) : iBt (frI x) = iBt x := rfl
theorem SRep.selfI {dA : Nat → ClassId} {ad : Nat → Nat} {g : Nat → Option va_E} {nb ni : Nat} {now : Int64} {B : Nat → BT} {I : Nat → IT} {n : Nat} {tk : Int32} {fr : Nat → Int32} (h : SRep dA ad g nb ni now B I n tk fr) (i : Nat) : SRep dA ad g nb ni now B (va_up I i (I i)) n tk fr := by
  have e : va_up I i (I i) = I := by
    funext j
    by_cases hj : j = i
    · subst hj; rw [va_up_self]
    · rw [va_up_ne _ _ hj]
  rw [e]; exact h
/-- item i is x, and its belt is j: its cell -/
theorem SRep.iX {dA : Nat → ClassId} {ad : Nat → Nat} {g : Nat → Option va_E} {nb ni : Nat} {now : Int64} {B : Nat → BT} {I : Nat → IT} {n : Nat} {tk : Int32} {fr : Nat → Int32} {x : IT} {i j : Nat} (h : SRep dA ad g nb ni now B (va_up I i x) n tk fr) (hi : i < ni) (hb : iBt x = some j) : g (iA ad i) = some (itemE (nI (i + 1)) (iLen x) (some (bA ad j)) (iWt x) (iTurn x) (iStart x) (iFt x) (iEt x)) := by
  have := h.iS hi (show iBt (va_up I i x i) = some j by rw [va_up_self]; exact hb)
  rw [va_up_self] at this
  exact this
theorem SRep.setX {dA : Nat → ClassId} {ad : Nat → Nat} {g g' : Nat → Option va_E} {nb ni : Nat} {now : Int64} {B : Nat → BT} {I : Nat → IT} {n : Nat} {tk : Int32} {fr : Nat → Int32} {x y : IT} {i j : Nat} (h : SRep dA ad g nb ni now B (va_up I i x) n tk fr) (hi : i < ni) (hj : j < nb) (hb : iBt y = some j) (e : g' = va_up g (iA ad i) (some (iCell ad i y))) : SRep dA ad g' nb ni now B (va_up I i y) n tk fr := by
  have := h.setI hi (x := y) (fun q hq => by rw [hb] at hq; cases hq; exact hj)
  rw [bx_uu] at this
  rw [e]; exact this
set_option maxHeartbeats 4000000 in
set_option maxRecDepth 100000 in
theorem c_S_tellEdgesOf_n {l : Launch} {D : va_G} {dA : Nat → ClassId} {g : Nat → Option va_E}  (h : SRep dA ad g nb ni now B I n tk fr) {i : Nat} (hi : i < ni) (hb : iBt (I i) = none) (t : Int64) : CtV l D classes (tyL dA) y_S_tellEdgesOf b_S_tellEdgesOf 10 none rm_S_tellEdgesOf [.ref (ad 0), .ref (iA ad i), .long t] g (fun g' => SRep dA ad g' nb ni now B (tellO B I ni t i (n, fr)).1 (tellO B I ni t i (n, fr)).2.1 tk (tellO B I ni t i (n, fr)).2.2 ∧ SFr ad nb ni g g') := by
  refine CtV.of (by decide) (Nat.le_of_ble_eq_true rfl) ?_
  intro p e s m below meth c X hr hlk hnm
  refine go_aload_n X (z := 1) d_S_tellEdgesOf_0 rfl rfl ?_
  refine go_get X u_I rfl 2 (by decide) gm_fl_S_135 rfl d_S_tellEdgesOf_1 (h.iN hi hb) rfl ?_
  refine go_astoreN X (lv' := [(4, .null), (0, .ref (ad 0)), (1, .ref (iA ad i)), (2, .long t)]) d_S_tellEdgesOf_4 (by decide) rfl ?_
  refine go_aloadN X (z := 0) d_S_tellEdgesOf_6 rfl ?_
  refine go_ifnonnullN X d_S_tellEdgesOf_8 ?_
  exact go_retV X hr hlk d_S_tellEdgesOf_11 ⟨by unfold tellO; rw [hb]; exact h, SFr.rfl'⟩
set_option maxHeartbeats 4000000 in
set_option maxRecDepth 100000 in
theorem c_S_tellEdgesOf_s {l : Launch} {D : va_G} {dA : Nat → ClassId} {g : Nat → Option va_E}  (h : SRep dA ad g nb ni now B I n tk fr) {i j : Nat} (hi : i < ni) (hb : iBt (I i) = some j) (hn : n + 2 < 2 ^ 31) (t : Int64) : CtV l D classes (tyL dA) y_S_tellEdgesOf b_S_tellEdgesOf 10 none rm_S_tellEdgesOf [.ref (ad 0), .ref (iA ad i), .long t] g (fun g' => SRep dA ad g' nb ni now B (tellO B I ni t i (n, fr)).1 (tellO B I ni t i (n, fr)).2.1 tk (tellO B I ni t i (n, fr)).2.2 ∧ SFr ad nb ni g g') := by
  refine CtV.of (by decide) (Nat.le_of_ble_eq_true rfl) ?_
  intro p e s m below meth c X hr hlk hnm
  have hj := h.bt hi hb
  have tail2 : ∀ (g2 : Nat → Option va_E) (p2 : IT × ET) (ps wy : Int64), p2 = tel2 B (I i) t i j (tel1 B I ni t i j (n, fr)) → iBt p2.1 = some j → SRep dA ad g2 nb ni now B (va_up I i p2.1) p2.2.1 tk p2.2.2 → SFr ad nb ni g g2 → Go p l e rm_S_tellEdgesOf s m [.ref (ad 0), .ref (iA ad i), .long t].toArray below meth c D classes (gA g s.heap.size) 10 (MQ below (va_Qv (fun g' => SRep dA ad g' nb ni now B (tellO B I ni t i (n, fr)).1 (tellO B I ni t i (n, fr)).2.1 tk (tellO B I ni t i (n, fr)).2.2 ∧ SFr ad nb ni g g') (fun (g' : Nat → Option va_E) (t : State) => PW D classes (gA g s.heap.size) g' t.heap) (gA g s.heap.size)) [.ref (ad 0), .ref (iA ad i), .long t].toArray s 0 0 (gA g s.heap.size)) g2 0 0 137 [(7, .long ps), (5, .long wy), (4, .ref (bA ad j)), (0, .ref (ad 0)), (1, .ref (iA ad i)), (2, .long t)] [] := by
    intro g2 p2 ps wy ep hb2 h2 hF
    refine go_aload_n X (z := 4) d_S_tellEdgesOf_137 rfl rfl ?_
    refine go_callV_V X (As := []) (rest := []) (s_aim h2 hi) gm_ml_S_124 cw_I_aim ⟨by decide, by decide⟩ rfl (h2.iX hi hb2) rfl rfl (Nat.le_of_ble_eq_true rfl) d_S_tellEdgesOf_138 ⟨by decide, by decide⟩ (fun gz hz => ?_)
    rw [va_up_self] at hz
    have hz2 := h2.setX hi hj (y := aimI B p2.1) (by rw [aimI_bt]; exact hb2) hz
    have et : tellO B I ni t i (n, fr) = (va_up I i (aimI B p2.1), p2.2) := by unfold tellO; rw [hb]; simp only [tellF]; rw [← ep]
    exact go_retV X hr hlk d_S_tellEdgesOf_141 ⟨by rw [et]; exact hz2, hF.trans (hz ▸ SFr.up (okI hi))⟩
  have tail1 : ∀ (g1 : Nat → Option va_E) (p1 : IT × ET) (ps wy : Int64), p1 = tel1 B I ni t i j (n, fr) → ps = wayB (B j) t - iStart (I i) - bSen (B j) → iBt p1.1 = some j → iLen p1.1 = iLen (I i) → p1.2.1 + 1 < 2 ^ 31 → SRep dA ad g1 nb ni now B (va_up I i p1.1) p1.2.1 tk p1.2.2 → SFr ad nb ni g g1 → Go p l e rm_S_tellEdgesOf s m [.ref (ad 0), .ref (iA ad i), .long t].toArray below meth c D classes (gA g s.heap.size) 10 (MQ below (va_Qv (fun g' => SRep dA ad g' nb ni now B (tellO B I ni t i (n, fr)).1 (tellO B I ni t i (n, fr)).2.1 tk (tellO B I ni t i (n, fr)).2.2 ∧ SFr ad nb ni g g') (fun (g' : Nat → Option va_E) (t : State) => PW D classes (gA g s.heap.size) g' t.heap) (gA g s.heap.size)) [.ref (ad 0), .ref (iA ad i), .long t].toArray s 0 0 (gA g s.heap.size)) g1 0 0 90 [(7, .long ps), (5, .long wy), (4, .ref (bA ad j)), (0, .ref (ad 0)), (1, .ref (iA ad i)), (2, .long t)] [] := by
    intro g1 p1 ps wy ep eps hb1 hl1 hn1 h1 hF
    refine go_aload_n X (z := 4) d_S_tellEdgesOf_90 rfl rfl ?_
    refine go_get X u_I rfl 6 (by decide) gm_fl_S_180 rfl d_S_tellEdgesOf_91 (h1.iX hi hb1) rfl ?_
    refine go_if_eq X (tgt := 137) d_S_tellEdgesOf_94 rfl (fun c1 => ?_) (fun c1 => ?_)
    · exact tail2 g1 p1 ps wy (by rw [← ep]; unfold tel2; rw [if_pos c1]) hb1 h1 hF
    · refine go_aload_n X (z := 4) d_S_tellEdgesOf_97 rfl rfl ?_
      refine go_get X u_I rfl 7 (by decide) gm_fl_S_191 rfl d_S_tellEdgesOf_98 (h1.iX hi hb1) rfl ?_
      refine go_if_ne X (tgt := 137) d_S_tellEdgesOf_101 rfl (fun c2 => ?_) (fun c2 => ?_)
      · exact tail2 g1 p1 ps wy (by rw [← ep]; unfold tel2; rw [if_neg c1, if_neg c2]) hb1 h1 hF
      · refine go_lload X (z := 0) d_S_tellEdgesOf_104 rfl ?_
        refine go_aload_n X (z := 4) d_S_tellEdgesOf_106 rfl rfl ?_
        refine go_get X u_I rfl 1 (by decide) gm_fl_S_138 rfl d_S_tellEdgesOf_107 (h1.iX hi hb1) rfl ?_
        refine go_lif_lt X (tgt := 137) d_S_tellEdgesOf_110 d_S_tellEdgesOf_111 rfl (fun c3 => ?_) (fun c3 => ?_)
        · exact tail2 g1 p1 ps wy (by rw [← ep]; unfold tel2; rw [if_neg c1, if_pos c2, ← eps, ← hl1, if_pos c3]) hb1 h1 hF
        · refine go_aload_n X (z := 3) d_S_tellEdgesOf_114 rfl rfl ?_
          refine go_get X u_S rfl 4 (by decide) gm_fl_S_31 rfl d_S_tellEdgesOf_115 h1.this rfl ?_
          refine go_lload_n X (z := 5) d_S_tellEdgesOf_118 rfl rfl ?_
          refine go_aload X (z := 2) d_S_tellEdgesOf_119 rfl ?_
          refine go_get X u_B rfl 0 (by decide) gm_fl_S_51 rfl d_S_tellEdgesOf_121 (h1.b hj) rfl ?_
          refine go_aload_n X (z := 4) d_S_tellEdgesOf_124 rfl rfl ?_
          refine go_get X u_I rfl 0 (by decide) gm_fl_S_73 rfl d_S_tellEdgesOf_125 (h1.iX hi hb1) rfl ?_
          refine go_iconst X (v := 1) d_S_tellEdgesOf_128 (by decide) ?_
          refine go_callV_V X (As := [.long t, .int ((nI j)), .int ((nI (i + 1))), .int 1]) (rest := []) (s_add h1 (by omega) t (nI j) (nI (i + 1)) 1) gm_ml_S_187 cw_E_add ⟨by decide, by decide⟩ rfl h1.es rfl rfl (Nat.le_of_ble_eq_true rfl) d_S_tellEdgesOf_129 ⟨by decide, by decide⟩ (fun ga ha => ?_)
          obtain ⟨ha, haF⟩ := ha
          refine go_aload_n X (z := 4) d_S_tellEdgesOf_132 rfl rfl ?_
          refine go_iconst X (v := 1) d_S_tellEdgesOf_133 (by decide) ?_
          refine go_put X u_I rfl 7 (by decide) gm_fl_S_191 rfl t_I t_I_ok n_I rfl rfl rfl d_S_tellEdgesOf_134 (ha.iX hi hb1) (Nat.le_of_ble_eq_true rfl) ?_
          refine go_gen (fun gp ep2 => ?_)
          have hp := ha.setX hi hj (y := enI p1.1) (g' := gp) hb1 (by rw [ep2, iC_s (x := enI p1.1) hb1]; rfl)
          exact tail2 gp (enI p1.1, addE p1.2 t (nI j) (nI (i + 1)) 1) ps wy (by rw [← ep]; unfold tel2; rw [if_neg c1, if_pos c2, ← eps, ← hl1, if_neg c3]) hb1 hp (hF.trans (haF.trans (by rw [ep2]; exact SFr.up (okI hi))))
  refine go_aload_n X (z := 1) d_S_tellEdgesOf_0 rfl rfl ?_
  refine go_get X u_I rfl 2 (by decide) gm_fl_S_135 rfl d_S_tellEdgesOf_1 (h.iS hi hb) rfl ?_
  refine go_astore X (lv' := [(4, .ref (bA ad j)), (0, .ref (ad 0)), (1, .ref (iA ad i)), (2, .long t)]) d_S_tellEdgesOf_4 (by decide) rfl ?_
  refine go_aload X (z := 0) d_S_tellEdgesOf_6 rfl ?_
  refine go_ifnonnull X (tgt := 12) d_S_tellEdgesOf_8 rfl ?_
  refine go_aload X (z := 0) d_S_tellEdgesOf_12 rfl ?_
  refine go_lload_n X (z := 3) d_S_tellEdgesOf_14 rfl rfl ?_
  refine go_callL_V X (As := [.long t]) (rest := []) (s_wayAt h hj t) gm_ml_S_174 cw_B_wayAt ⟨by decide, by decide⟩ rfl (h.b hj) rfl rfl (Nat.le_of_ble_eq_true rfl) d_S_tellEdgesOf_15 ⟨by decide, by decide⟩ (fun r1 gq hp => ?_)
  obtain ⟨rfl, rfl⟩ := hp
  refine go_topl (fun x1 ex1 => ?_)
  refine go_lstore X (lv' := [(5, .long x1), (4, .ref (bA ad j)), (0, .ref (ad 0)), (1, .ref (iA ad i)), (2, .long t)]) d_S_tellEdgesOf_18 (by decide) rfl ?_
  refine go_lload X (z := 0) d_S_tellEdgesOf_20 rfl ?_
  refine go_aload_n X (z := 3) d_S_tellEdgesOf_22 rfl rfl ?_
  refine go_get X u_I rfl 5 (by decide) gm_fl_S_121 rfl d_S_tellEdgesOf_23 (h.iS hi hb) rfl ?_
  refine go_lsub X d_S_tellEdgesOf_26 ?_
  refine go_aload X (z := 1) d_S_tellEdgesOf_27 rfl ?_
  refine go_get X u_B rfl 3 (by decide) gm_fl_S_177 rfl d_S_tellEdgesOf_29 (h.b hj) rfl ?_
  refine go_lsub X d_S_tellEdgesOf_32 ?_
  refine go_topl (fun x2 ex2 => ?_)
  refine go_lstore X (lv' := [(7, .long x2), (5, .long x1), (4, .ref (bA ad j)), (0, .ref (ad 0)), (1, .ref (iA ad i)), (2, .long t)]) d_S_tellEdgesOf_33 (by decide) rfl ?_
  refine go_aload_n X (z := 4) d_S_tellEdgesOf_35 rfl rfl ?_
  refine go_get X u_I rfl 6 (by decide) gm_fl_S_180 rfl d_S_tellEdgesOf_36 (h.iS hi hb) rfl ?_
  refine go_if_ne X (tgt := 90) d_S_tellEdgesOf_39 rfl (fun c3 => ?_) (fun c3 => ?_)
  · refine go_sub (lv' := [(7, .long x2), (5, .long x1), (4, .ref (bA ad j)), (0, .ref (ad 0)), (1, .ref (iA ad i)), (2, .long t)]) [0, 1, 2, 3, 4, 5] rfl ?_
    have eps : x2 = wayB (B j) t - iStart (I i) - bSen (B j) := by rw [ex2, ex1]
    exact tail1 g (I i, (n, fr)) x2 x1 (by unfold tel1; rw [if_neg c3]) eps hb rfl (by show n + 1 < _; omega) (h.selfI i) SFr.rfl'
  · refine go_lload X (z := 0) d_S_tellEdgesOf_42 rfl ?_
    refine go_lconst X (v := 0) d_S_tellEdgesOf_44 (by decide) ?_
    refine go_lif_lt X (tgt := 90) d_S_tellEdgesOf_45 d_S_tellEdgesOf_46 rfl (fun c4 => ?_) (fun c4 => ?_)
    · refine go_sub (lv' := [(7, .long x2), (5, .long x1), (4, .ref (bA ad j)), (0, .ref (ad 0)), (1, .ref (iA ad i)), (2, .long t)]) [0, 1, 2, 3, 4, 5] rfl ?_
      have eps : x2 = wayB (B j) t - iStart (I i) - bSen (B j) := by rw [ex2, ex1]
      exact tail1 g (I i, (n, fr)) x2 x1 (by unfold tel1; rw [if_pos c3, ← eps, if_pos c4]) eps hb rfl (by show n + 1 < _; omega) (h.selfI i) SFr.rfl'
    · refine go_aload_n X (z := 3) d_S_tellEdgesOf_49 rfl rfl ?_
      refine go_aload_n X (z := 4) d_S_tellEdgesOf_50 rfl rfl ?_
      refine go_lload X (z := 1) d_S_tellEdgesOf_51 rfl ?_
      refine go_callI_V X (As := [.ref (iA ad i), .long x1]) (rest := []) (c_S_isShort h hi hb x1) gm_ml_S_183 cw_S_isShort ⟨by decide, by decide⟩ rfl h.this rfl rfl (Nat.le_of_ble_eq_true rfl) d_S_tellEdgesOf_53 ⟨by decide, by decide⟩ (fun r2 gq2 hp2 => ?_)
      obtain ⟨rfl, rfl⟩ := hp2
      refine go_if_eq X (tgt := 63) d_S_tellEdgesOf_56 rfl (fun c5 => ?_) (fun c5 => ?_)
      · refine go_iconst X (v := 0) d_S_tellEdgesOf_63 (by decide) ?_
        refine go_istore X (lv' := [(9, .int 0), (7, .long x2), (5, .long x1), (4, .ref (bA ad j)), (0, .ref (ad 0)), (1, .ref (iA ad i)), (2, .long t)]) d_S_tellEdgesOf_64 (by decide) rfl ?_
        refine go_aload_n X (z := 4) d_S_tellEdgesOf_66 rfl rfl ?_
        refine go_get X u_S rfl 4 (by decide) gm_fl_S_31 rfl d_S_tellEdgesOf_67 h.this rfl ?_
        refine go_lload_n X (z := 6) d_S_tellEdgesOf_70 rfl rfl ?_
        refine go_aload X (z := 3) d_S_tellEdgesOf_71 rfl ?_
        refine go_get X u_B rfl 0 (by decide) gm_fl_S_51 rfl d_S_tellEdgesOf_73 (h.b hj) rfl ?_
        refine go_aload_n X (z := 5) d_S_tellEdgesOf_76 rfl rfl ?_
        refine go_get X u_I rfl 0 (by decide) gm_fl_S_73 rfl d_S_tellEdgesOf_77 (h.iS hi hb) rfl ?_
        refine go_iload X (z := 0) d_S_tellEdgesOf_80 rfl ?_
        refine go_callV_V X (As := [.long t, .int ((nI j)), .int ((nI (i + 1))), .int 0]) (rest := []) (s_add h (by omega) t (nI j) (nI (i + 1)) 0) gm_ml_S_187 cw_E_add ⟨by decide, by decide⟩ rfl h.es rfl rfl (Nat.le_of_ble_eq_true rfl) d_S_tellEdgesOf_82 ⟨by decide, by decide⟩ (fun ga ha => ?_)
        obtain ⟨ha, haF⟩ := ha
        refine go_aload_n X (z := 5) d_S_tellEdgesOf_85 rfl rfl ?_
        refine go_iconst X (v := 1) d_S_tellEdgesOf_86 (by decide) ?_
        refine go_put X u_I rfl 6 (by decide) gm_fl_S_180 rfl t_I t_I_ok n_I rfl rfl rfl d_S_tellEdgesOf_87 (ha.iS hi hb) (Nat.le_of_ble_eq_true rfl) ?_
        refine go_gen (fun gp ep2 => ?_)
        have hp := ha.selfI i
        have hp := hp.setX hi hj (y := frI (I i)) (g' := gp) hb (by rw [ep2, iC_s (x := frI (I i)) hb]; rfl)
        refine go_sub (lv' := [(7, .long x2), (5, .long x1), (4, .ref (bA ad j)), (0, .ref (ad 0)), (1, .ref (iA ad i)), (2, .long t)]) [1, 2, 3, 4, 5, 6] rfl ?_
        have eps : x2 = wayB (B j) t - iStart (I i) - bSen (B j) := by rw [ex2, ex1]
        exact tail1 gp (frI (I i), addE (n, fr) t (nI j) (nI (i + 1)) 0) x2 x1 (by unfold tel1; rw [if_pos c3, ← eps, if_neg c4, ← ex1, if_pos c5]) eps hb rfl (by show n + 1 + 1 < _; omega) hp (haF.trans (by rw [ep2]; exact SFr.up (okI hi)))
      · refine go_iconst X (v := 2) d_S_tellEdgesOf_59 (by decide) ?_
        refine go_goto X (tgt := 64) d_S_tellEdgesOf_60 rfl ?_
        refine go_istore X (lv' := [(9, .int 2), (7, .long x2), (5, .long x1), (4, .ref (bA ad j)), (0, .ref (ad 0)), (1, .ref (iA ad i)), (2, .long t)]) d_S_tellEdgesOf_64 (by decide) rfl ?_
        refine go_aload_n X (z := 4) d_S_tellEdgesOf_66 rfl rfl ?_
        refine go_get X u_S rfl 4 (by decide) gm_fl_S_31 rfl d_S_tellEdgesOf_67 h.this rfl ?_
        refine go_lload_n X (z := 6) d_S_tellEdgesOf_70 rfl rfl ?_
        refine go_aload X (z := 3) d_S_tellEdgesOf_71 rfl ?_
        refine go_get X u_B rfl 0 (by decide) gm_fl_S_51 rfl d_S_tellEdgesOf_73 (h.b hj) rfl ?_
        refine go_aload_n X (z := 5) d_S_tellEdgesOf_76 rfl rfl ?_
        refine go_get X u_I rfl 0 (by decide) gm_fl_S_73 rfl d_S_tellEdgesOf_77 (h.iS hi hb) rfl ?_
        refine go_iload X (z := 0) d_S_tellEdgesOf_80 rfl ?_
        refine go_callV_V X (As := [.long t, .int ((nI j)), .int ((nI (i + 1))), .int 2]) (rest := []) (s_add h (by omega) t (nI j) (nI (i + 1)) 2) gm_ml_S_187 cw_E_add ⟨by decide, by decide⟩ rfl h.es rfl rfl (Nat.le_of_ble_eq_true rfl) d_S_tellEdgesOf_82 ⟨by decide, by decide⟩ (fun ga ha => ?_)
        obtain ⟨ha, haF⟩ := ha
        refine go_aload_n X (z := 5) d_S_tellEdgesOf_85 rfl rfl ?_
        refine go_iconst X (v := 1) d_S_tellEdgesOf_86 (by decide) ?_
        refine go_put X u_I rfl 6 (by decide) gm_fl_S_180 rfl t_I t_I_ok n_I rfl rfl rfl d_S_tellEdgesOf_87 (ha.iS hi hb) (Nat.le_of_ble_eq_true rfl) ?_
        refine go_gen (fun gp ep2 => ?_)
        have hp := ha.selfI i
        have hp := hp.setX hi hj (y := frI (I i)) (g' := gp) hb (by rw [ep2, iC_s (x := frI (I i)) hb]; rfl)
        refine go_sub (lv' := [(7, .long x2), (5, .long x1), (4, .ref (bA ad j)), (0, .ref (ad 0)), (1, .ref (iA ad i)), (2, .long t)]) [1, 2, 3, 4, 5, 6] rfl ?_
        have eps : x2 = wayB (B j) t - iStart (I i) - bSen (B j) := by rw [ex2, ex1]
        exact tail1 gp (frI (I i), addE (n, fr) t (nI j) (nI (i + 1)) 2) x2 x1 (by unfold tel1; rw [if_pos c3, ← eps, if_neg c4, ← ex1, if_neg c5]) eps hb rfl (by show n + 1 + 1 < _; omega) hp (haF.trans (by rw [ep2]; exact SFr.up (okI hi)))
theorem c_S_tellEdgesOf {l : Launch} {D : va_G} {dA : Nat → ClassId} {g : Nat → Option va_E} (h : SRep dA ad g nb ni now B I n tk fr) {i : Nat} (hi : i < ni) (hn : n + 2 < 2 ^ 31) (t : Int64) : CtV l D classes (tyL dA) y_S_tellEdgesOf b_S_tellEdgesOf 10 none rm_S_tellEdgesOf [.ref (ad 0), .ref (iA ad i), .long t] g (fun g' => SRep dA ad g' nb ni now B (tellO B I ni t i (n, fr)).1 (tellO B I ni t i (n, fr)).2.1 tk (tellO B I ni t i (n, fr)).2.2 ∧ SFr ad nb ni g g') := by
  cases hb : iBt (I i) with
  | none => exact c_S_tellEdgesOf_n h hi hb t
  | some j => exact c_S_tellEdgesOf_s h hi hb hn t
theorem tellO_n (B : Nat → BT) (I : Nat → IT) (ni : Nat) (t : Int64) (i : Nat) (e : ET) : (tellO B I ni t i e).2.1 ≤ e.1 + 2 := by
  unfold tellO
  cases iBt (I i) with
  | none => exact Nat.le_add_right _ _
  | some j =>
    show (tel2 B (I i) t i j (tel1 B I ni t i j e)).2.1 ≤ e.1 + 2
    have h1 : (tel1 B I ni t i j e).2.1 ≤ e.1 + 1 := by
      unfold tel1
      repeat' split
      all_goals first | exact Nat.le_succ _ | exact Nat.le_refl _
    have h2 : ∀ p : IT × ET, (tel2 B (I i) t i j p).2.1 ≤ p.2.1 + 1 := by
      intro p
      unfold tel2
      repeat' split
      all_goals first | exact Nat.le_succ _ | exact Nat.le_refl _
    have := h2 (tel1 B I ni t i j e)
    omega
theorem tellN_n (B : Nat → BT) (ni : Nat) (t : Int64) (I : Nat → IT) (e : ET) (k : Nat) : (tellN B ni t I e k).2.1 ≤ e.1 + 2 * k := by
  induction k with
  | zero => exact Nat.le_refl _
  | succ k ih =>
    simp only [tellN]
    split
    · have := tellO_n B (tellN B ni t I e k).1 ni t k (tellN B ni t I e k).2
      omega
    · omega
set_option maxHeartbeats 4000000 in
set_option maxRecDepth 100000 in
theorem c_S_tellEdges {l : Launch} {D : va_G} {dA : Nat → ClassId} {g : Nat → Option va_E}  (h : SRep dA ad g nb ni now B I n tk fr) (hn : n + 200 < 2 ^ 31) (t : Int64) : CtV l D classes (tyL dA) y_S_tellEdges b_S_tellEdges 4 none rm_S_tellEdges [.ref (ad 0), .long t] g (fun g' => SRep dA ad g' nb ni now B (tellN B ni t I (n, fr) ni).1 (tellN B ni t I (n, fr) ni).2.1 tk (tellN B ni t I (n, fr) ni).2.2 ∧ SFr ad nb ni g g') := by
  refine CtV.of (by decide) (Nat.le_of_ble_eq_true rfl) ?_
  intro p e s m below meth c X hr hlk hnm
  have hni := h.ni60
  have loop : ∀ (f k : Nat) (g1 : Nat → Option va_E) (s1 : (Nat → IT) × ET), k + f = ni → s1 = tellN B ni t I (n, fr) k → SRep dA ad g1 nb ni now B s1.1 s1.2.1 tk s1.2.2 → SFr ad nb ni g g1 → Go p l e rm_S_tellEdges s m [.ref (ad 0), .long t].toArray below meth c D classes (gA g s.heap.size) 4 (MQ below (va_Qv (fun g' => SRep dA ad g' nb ni now B (tellN B ni t I (n, fr) ni).1 (tellN B ni t I (n, fr) ni).2.1 tk (tellN B ni t I (n, fr) ni).2.2 ∧ SFr ad nb ni g g') (fun (g' : Nat → Option va_E) (t : State) => PW D classes (gA g s.heap.size) g' t.heap) (gA g s.heap.size)) [.ref (ad 0), .long t].toArray s 0 0 (gA g s.heap.size)) g1 0 0 2 [(3, .int ((nI k))), (0, .ref (ad 0)), (1, .long t)] [] := by
    intro f
    induction f with
    | zero =>
      intro k g1 s1 hk hs h1 hF
      have hkn : k = ni := by omega
      subst hkn
      refine go_iload_n X (z := 0) d_S_tellEdges_2 rfl rfl ?_
      refine go_aload_n X (z := 1) d_S_tellEdges_3 rfl rfl ?_
      refine go_get X u_S rfl 3 (by decide) gm_fl_S_25 rfl d_S_tellEdges_4 h1.this rfl ?_
      refine go_icmp_ge X (tgt := 41) d_S_tellEdges_7 rfl (fun c1 => ?_) (fun c1 => absurd (Int32.le_refl _) c1)
      exact go_retV X hr hlk d_S_tellEdges_41 ⟨hs ▸ h1, hF⟩
    | succ f ih =>
      intro k g1 s1 hkf hs h1 hF
      have hk : k < ni := by omega
      have hnk := tellN_n B ni t I (n, fr) k
      rw [← hs] at hnk
      simp only at hnk
      refine go_iload_n X (z := 0) d_S_tellEdges_2 rfl rfl ?_
      refine go_aload_n X (z := 1) d_S_tellEdges_3 rfl rfl ?_
      refine go_get X u_S rfl 3 (by decide) gm_fl_S_25 rfl d_S_tellEdges_4 h1.this rfl ?_
      refine go_icmp_ge X (tgt := 41) d_S_tellEdges_7 rfl (fun c1 => absurd c1 (nI_ge (a := k) (b := ni) hk (by omega))) (fun c1 => ?_)
      refine go_aload_n X (z := 1) d_S_tellEdges_10 rfl rfl ?_
      refine go_get X u_S rfl 2 (by decide) gm_fl_S_21 rfl d_S_tellEdges_11 h1.this rfl ?_
      refine go_iload_n X (z := 0) d_S_tellEdges_14 rfl rfl ?_
      refine go_aald X 4 rfl d_S_tellEdges_15 h1.is (vp_in_nI (by omega) (by decide)) ?_
      rw [iTab_at hk h1.ni60]
      refine go_get X u_I rfl 4 (by decide) gm_fl_S_164 rfl d_S_tellEdges_16 (h1.i hk) rfl ?_
      refine go_lload_n X (z := 2) d_S_tellEdges_19 rfl rfl ?_
      refine go_lif_ne X (tgt := 35) d_S_tellEdges_20 d_S_tellEdges_21 rfl (fun c2 => ?_) (fun c2 => ?_)
      · refine go_iinc X (j := 0) (v := nI (k + 1)) d_S_tellEdges_35 rfl (nI_1 k) (by decide) rfl ?_
        refine go_goto X (tgt := 2) d_S_tellEdges_38 rfl ?_
        exact ih (k + 1) _ s1 (by omega) (by rw [hs]; simp only [tellN]; rw [← hs, if_neg c2]) h1 hF
      · refine go_aload_n X (z := 1) d_S_tellEdges_24 rfl rfl ?_
        refine go_aload_n X (z := 1) d_S_tellEdges_25 rfl rfl ?_
        refine go_get X u_S rfl 2 (by decide) gm_fl_S_21 rfl d_S_tellEdges_26 h1.this rfl ?_
        refine go_iload_n X (z := 0) d_S_tellEdges_29 rfl rfl ?_
        refine go_aald X 4 rfl d_S_tellEdges_30 h1.is (vp_in_nI (by omega) (by decide)) ?_
        rw [iTab_at hk h1.ni60]
        refine go_lload_n X (z := 2) d_S_tellEdges_31 rfl rfl ?_
        refine go_callV_V X (As := [.ref (iA ad k), .long t]) (rest := []) (c_S_tellEdgesOf h1 hk (by omega) t) gm_ml_S_170 cw_S_tellEdgesOf ⟨by decide, by decide⟩ rfl h1.this rfl rfl (Nat.le_of_ble_eq_true rfl) d_S_tellEdges_32 ⟨by decide, by decide⟩ (fun gz hz => ?_)
        refine go_iinc X (j := 0) (v := nI (k + 1)) d_S_tellEdges_35 rfl (nI_1 k) (by decide) rfl ?_
        refine go_goto X (tgt := 2) d_S_tellEdges_38 rfl ?_
        exact ih (k + 1) _ (tellO B s1.1 ni t k s1.2) (by omega) (by rw [hs]; simp only [tellN]; rw [← hs, if_pos c2]) hz.1 (hF.trans hz.2)
  refine go_iconst X (v := 0) d_S_tellEdges_0 (by decide) ?_
  refine go_istore_n X (lv' := [(3, .int (nI 0)), (0, .ref (ad 0)), (1, .long t)]) d_S_tellEdges_1 rfl (by decide) rfl ?_
  exact loop ni 0 g (I, (n, fr)) (Nat.zero_add _) rfl h SFr.rfl'
end S2
end
section
/-! BeltSteps: passTo, placeAhead. -/
section S3
variable {ad : Nat → Nat} {nb ni : Nat} {now : Int64} {B : Nat → BT} {I : Nat → IT} {n : Nat} {tk : Int32} {fr : Nat → Int32}
set_option maxHeartbeats 4000000 in
set_option maxRecDepth 100000 in
theorem c_S_passTo {l : Launch} {D : va_G} {dA : Nat → ClassId} {g : Nat → Option va_E}  (h : SRep dA ad g nb ni now B I n tk fr) (hn : n ≤ 1000000000) (t : Int64) : CtV l D classes (tyL dA) y_S_passTo b_S_passTo 6 none rm_S_passTo [.ref (ad 0), .long t] g (fun g' => SRep dA ad g' nb ni t B (pasN B ni t 100000 I (n, fr)).1 (pasN B ni t 100000 I (n, fr)).2.1 tk (pasN B ni t 100000 I (n, fr)).2.2 ∧ SFr ad nb ni g g') := by
  refine CtV.of (by decide) (Nat.le_of_ble_eq_true rfl) ?_
  intro p e s m below meth c X hr hlk hnm
  have hni := h.ni60
  have loop : ∀ (f k : Nat) (g1 : Nat → Option va_E) (I1 : Nat → IT) (e1 : ET), k + f = 100000 → pasN B ni t f I1 e1 = pasN B ni t 100000 I (n, fr) → e1.1 ≤ 1000000000 + 120 * k → SRep dA ad g1 nb ni now B I1 e1.1 tk e1.2 → SFr ad nb ni g g1 → Go p l e rm_S_passTo s m [.ref (ad 0), .long t].toArray below meth c D classes (gA g s.heap.size) 6 (MQ below (va_Qv (fun g' => SRep dA ad g' nb ni t B (pasN B ni t 100000 I (n, fr)).1 (pasN B ni t 100000 I (n, fr)).2.1 tk (pasN B ni t 100000 I (n, fr)).2.2 ∧ SFr ad nb ni g g') (fun (g' : Nat → Option va_E) (t : State) => PW D classes (gA g s.heap.size) g' t.heap) (gA g s.heap.size)) [.ref (ad 0), .long t].toArray s 0 0 (gA g s.heap.size)) g1 0 0 2 [(3, .int ((nI k))), (0, .ref (ad 0)), (1, .long t)] [] := by
    intro f
    induction f with
    | zero =>
      intro k g1 I1 e1 hk hp hn1 h1 hF
      have hkn : k = 100000 := by omega
      subst hkn
      refine go_iload_n X (z := 0) d_S_passTo_2 rfl rfl ?_
      refine go_ldc X d_S_passTo_3 gm_k_S_151 ?_
      refine go_icmp_ge X (tgt := 42) d_S_passTo_5 rfl (fun c1 => ?_) (fun c1 => absurd (by decide) c1)
      refine go_aload_n X (z := 1) d_S_passTo_42 rfl rfl ?_
      refine go_lload_n X (z := 2) d_S_passTo_43 rfl rfl ?_
      refine go_put X u_S rfl 5 (by decide) gm_fl_S_35 rfl t_S t_S_ok n_S rfl rfl rfl d_S_passTo_44 h1.this (Nat.le_of_ble_eq_true rfl) ?_
      refine go_gen (fun gp ep2 => ?_)
      have hq := h1.setNow (t := t)
      rw [show va_up g1 (ad 0) (some (sCell ad nb ni t)) = gp from ep2.symm] at hq
      have hw := hp
      exact go_retV X hr hlk d_S_passTo_47 ⟨by rw [← hw]; exact hq, hF.trans (by rw [ep2]; exact SFr.up (ok0 (by omega)))⟩
    | succ f ih =>
      intro k g1 I1 e1 hkf hp hn1 h1 hF
      refine go_iload_n X (z := 0) d_S_passTo_2 rfl rfl ?_
      refine go_ldc X d_S_passTo_3 gm_k_S_151 ?_
      refine go_icmp_ge X (tgt := 42) d_S_passTo_5 rfl (fun c1 => absurd c1 (nI_ge (a := k) (b := 100000) (by omega) (by decide))) (fun c1 => ?_)
      refine go_aload_n X (z := 1) d_S_passTo_8 rfl rfl ?_
      refine go_callL_V X (As := []) (rest := []) (c_S_nextTurn h1) gm_ml_S_152 cw_S_nextTurn ⟨by decide, by decide⟩ rfl h1.this rfl rfl (Nat.le_of_ble_eq_true rfl) d_S_passTo_9 ⟨by decide, by decide⟩ (fun r1 gq hq1 => ?_)
      obtain ⟨rfl, rfl⟩ := hq1
      refine go_topl (fun x2 ex2 => ?_)
      refine go_lstore X (lv' := [(4, .long x2), (3, .int ((nI k))), (0, .ref (ad 0)), (1, .long t)]) d_S_passTo_12 (by decide) rfl ?_
      refine go_lload X (z := 0) d_S_passTo_14 rfl ?_
      refine go_lload_n X (z := 3) d_S_passTo_16 rfl rfl ?_
      refine go_lif_le X (tgt := 24) d_S_passTo_17 d_S_passTo_18 rfl (fun c3 => ?_) (fun c3 => ?_)
      · refine go_aload_n X (z := 2) d_S_passTo_24 rfl rfl ?_
        refine go_lload X (z := 0) d_S_passTo_25 rfl ?_
        refine go_callV_V X (As := [.long x2]) (rest := []) (c_S_moveItems h1 x2) gm_ml_S_156 cw_S_moveItems ⟨by decide, by decide⟩ rfl h1.this rfl rfl (Nat.le_of_ble_eq_true rfl) d_S_passTo_27 ⟨by decide, by decide⟩ (fun gm hm => ?_)
        obtain ⟨hm, hmF⟩ := hm
        refine go_aload_n X (z := 2) d_S_passTo_30 rfl rfl ?_
        refine go_lload X (z := 0) d_S_passTo_31 rfl ?_
        refine go_callV_V X (As := [.long x2]) (rest := []) (c_S_tellEdges hm (by omega) x2) gm_ml_S_159 cw_S_tellEdges ⟨by decide, by decide⟩ rfl hm.this rfl rfl (Nat.le_of_ble_eq_true rfl) d_S_passTo_33 ⟨by decide, by decide⟩ (fun gt ht => ?_)
        obtain ⟨ht, htF⟩ := ht
        refine go_iinc X (j := 1) (v := nI (k + 1)) d_S_passTo_36 rfl (nI_1 k) (by decide) rfl ?_
        refine go_goto X (tgt := 2) d_S_passTo_39 rfl ?_
        refine go_sub (lv' := [(3, .int (nI (k + 1))), (0, .ref (ad 0)), (1, .long t)]) [0, 2, 3] rfl ?_
        subst ex2
        have hnt : (tellN B ni (nextN I1 ni) (moveN B (nextN I1 ni) I1 ni) (e1.1, e1.2) ni).2.1 ≤ e1.1 + 2 * ni := tellN_n B ni (nextN I1 ni) (moveN B (nextN I1 ni) I1 ni) (e1.1, e1.2) ni
        exact ih (k + 1) _ _ _ (by omega) (by rw [← hp]; simp only [pasN]; rw [if_pos c3]) (by omega) ht (hF.trans (hmF.trans htF))
      · refine go_goto X (tgt := 42) d_S_passTo_21 rfl ?_
        refine go_aload_n X (z := 2) d_S_passTo_42 rfl rfl ?_
        refine go_lload_n X (z := 3) d_S_passTo_43 rfl rfl ?_
        refine go_put X u_S rfl 5 (by decide) gm_fl_S_35 rfl t_S t_S_ok n_S rfl rfl rfl d_S_passTo_44 h1.this (Nat.le_of_ble_eq_true rfl) ?_
        refine go_gen (fun gp ep2 => ?_)
        have hq := h1.setNow (t := t)
        rw [show va_up g1 (ad 0) (some (sCell ad nb ni t)) = gp from ep2.symm] at hq
        have hw := (show (I1, e1) = pasN B ni t 100000 I (n, fr) by rw [← hp]; simp only [pasN]; rw [if_neg (by rw [← ex2]; exact c3)])
        exact go_retV X hr hlk d_S_passTo_47 ⟨by rw [← hw]; exact hq, hF.trans (by rw [ep2]; exact SFr.up (ok0 (by omega)))⟩
  refine go_iconst X (v := 0) d_S_passTo_0 (by decide) ?_
  refine go_istore_n X (lv' := [(3, .int (nI 0)), (0, .ref (ad 0)), (1, .long t)]) d_S_passTo_1 rfl (by decide) rfl ?_
  exact loop 100000 0 g I (n, fr) rfl rfl hn h SFr.rfl'
set_option maxHeartbeats 4000000 in
set_option maxRecDepth 100000 in
theorem c_S_placeAhead_n {l : Launch} {D : va_G} {dA : Nat → ClassId} {g : Nat → Option va_E}  (h : SRep dA ad g nb ni now B I n tk fr) {i : Nat} (hi : i < ni) (hb : iBt (I i) = none) (t : Int64) : CtL l D classes (tyL dA) y_S_placeAhead b_S_placeAhead 12 (some .long) rm_S_placeAhead [.ref (iA ad i), .long t] g (fun r g' => g = g' ∧ r = paF B (I i) t) := by
  refine CtL.of (by decide) (Nat.le_of_ble_eq_true rfl) ?_
  intro p e s m below meth c X hr hlk hnm
  refine go_aload_n X (z := 0) d_S_placeAhead_0 rfl rfl ?_
  refine go_get X u_I rfl 2 (by decide) gm_fl_S_135 rfl d_S_placeAhead_1 (h.iN hi hb) rfl ?_
  refine go_astore_nN X (lv' := [(3, .null), (0, .ref (iA ad i)), (1, .long t)]) d_S_placeAhead_4 rfl (by decide) rfl ?_
  refine go_aload_nN X (z := 0) d_S_placeAhead_5 rfl rfl ?_
  refine go_ifnonnullN X d_S_placeAhead_6 ?_
  refine go_ldc2 X d_S_placeAhead_9 gm_k_S_196 ?_
  exact go_retL X hr hlk d_S_placeAhead_12 ⟨rfl, by unfold paF; rw [hb]⟩
set_option maxHeartbeats 4000000 in
set_option maxRecDepth 100000 in
theorem c_S_placeAhead_s {l : Launch} {D : va_G} {dA : Nat → ClassId} {g : Nat → Option va_E}  (h : SRep dA ad g nb ni now B I n tk fr) {i j0 : Nat} (hi : i < ni) (hb : iBt (I i) = some j0) (t : Int64) : CtL l D classes (tyL dA) y_S_placeAhead b_S_placeAhead 12 (some .long) rm_S_placeAhead [.ref (iA ad i), .long t] g (fun r g' => g = g' ∧ r = paF B (I i) t) := by
  refine CtL.of (by decide) (Nat.le_of_ble_eq_true rfl) ?_
  intro p e s m below meth c X hr hlk hnm
  have hj0 := h.bt hi hb
  have loop : ∀ (f k j : Nat) (s0 : Int64), k + f = 12 → j < nb → paF B (I i) t = paN B t f j s0 → Go p l e rm_S_placeAhead s m [.ref (iA ad i), .long t].toArray below meth c D classes (gA g s.heap.size) 12 (MQ below (va_Ql (fun r g' => g = g' ∧ r = paF B (I i) t) (fun (g' : Nat → Option va_E) (t : State) => PW D classes (gA g s.heap.size) g' t.heap) (gA g s.heap.size)) [.ref (iA ad i), .long t].toArray s 0 0 (gA g s.heap.size)) g 0 0 60 [(6, .int ((nI k))), (4, .long s0), (3, .ref (bA ad j)), (0, .ref (iA ad i)), (1, .long t)] [] := by
    intro f
    induction f with
    | zero =>
      intro k j s0 hk hj hp
      have hkn : k = 12 := by omega
      subst hkn
      refine go_iload X (z := 0) d_S_placeAhead_60 rfl ?_
      refine go_bipush X (v := 12) d_S_placeAhead_62 (by decide) ?_
      refine go_icmp_ge X (tgt := 158) d_S_placeAhead_64 rfl (fun c1 => ?_) (fun c1 => absurd (by decide) c1)
      refine go_ldc2 X d_S_placeAhead_158 gm_k_S_196 ?_
      exact go_retL X hr hlk d_S_placeAhead_161 ⟨rfl, hp.symm⟩
    | succ f ih =>
      intro k j s0 hkf hj hp
      cases ho : bOnto (B j) with
      | none =>
        refine go_iload X (z := 0) d_S_placeAhead_60 rfl ?_
        refine go_bipush X (v := 12) d_S_placeAhead_62 (by decide) ?_
        refine go_icmp_ge X (tgt := 158) d_S_placeAhead_64 rfl (fun c1 => absurd c1 (nI_ge (a := k) (b := 12) (by omega) (by decide))) (fun c1 => ?_)
        refine go_aload_n X (z := 2) d_S_placeAhead_67 rfl rfl ?_
        refine go_lload X (z := 1) d_S_placeAhead_68 rfl ?_
        refine go_aload_n X (z := 2) d_S_placeAhead_70 rfl rfl ?_
        refine go_get X u_B rfl 1 (by decide) gm_fl_S_203 rfl d_S_placeAhead_71 (h.bN hj ho) rfl ?_
        refine go_ladd X d_S_placeAhead_74 ?_
        refine go_callL_V X (As := [.long (s0 + ((bLen (B j))))]) (rest := []) (s_timeOfWay h hj (s0 + ((bLen (B j))))) gm_ml_S_204 cw_B_timeOfWay ⟨by decide, by decide⟩ rfl (h.bN hj ho) rfl rfl (Nat.le_of_ble_eq_true rfl) d_S_placeAhead_75 ⟨by decide, by decide⟩ (fun r1 gq hq1 => ?_)
        obtain ⟨rfl, rfl⟩ := hq1
        refine go_topl (fun x2 ex2 => ?_)
        refine go_lstore X (lv' := [(7, .long x2), (6, .int ((nI k))), (4, .long s0), (3, .ref (bA ad j)), (0, .ref (iA ad i)), (1, .long t)]) d_S_placeAhead_78 (by decide) rfl ?_
        refine go_lload_n X (z := 5) d_S_placeAhead_80 rfl rfl ?_
        refine go_lload X (z := 0) d_S_placeAhead_81 rfl ?_
        refine go_lif_ge X (tgt := 106) d_S_placeAhead_83 d_S_placeAhead_84 rfl (fun c3 => ?_) (fun c3 => ?_)
        · refine go_aload_n X (z := 3) d_S_placeAhead_106 rfl rfl ?_
          refine go_get X u_B rfl 4 (by decide) gm_fl_S_58 rfl d_S_placeAhead_107 (h.bN hj ho) rfl ?_
          refine go_astoreN X (lv' := [(9, .null), (7, .long x2), (6, .int ((nI k))), (4, .long s0), (3, .ref (bA ad j)), (0, .ref (iA ad i)), (1, .long t)]) d_S_placeAhead_110 (by decide) rfl ?_
          refine go_aloadN X (z := 0) d_S_placeAhead_112 rfl ?_
          refine go_ifnonnullN X d_S_placeAhead_114 ?_
          refine go_ldc2 X d_S_placeAhead_117 gm_k_S_196 ?_
          exact go_retL X hr hlk d_S_placeAhead_120 ⟨rfl, by rw [hp]; subst ex2; simp only [paN, ho]; rw [if_pos c3]⟩
        · refine go_aload_n X (z := 3) d_S_placeAhead_87 rfl rfl ?_
          refine go_get X u_B rfl 0 (by decide) gm_fl_S_51 rfl d_S_placeAhead_88 (h.bN hj ho) rfl ?_
          refine go_i2l X d_S_placeAhead_91 rfl ?_
          refine go_ldc2 X d_S_placeAhead_92 gm_k_S_105 ?_
          refine go_lmul X d_S_placeAhead_95 ?_
          refine go_aload_n X (z := 3) d_S_placeAhead_96 rfl rfl ?_
          refine go_lload_n X (z := 5) d_S_placeAhead_97 rfl rfl ?_
          refine go_callL_V X (As := [.long t]) (rest := [.long ((((nI j)).toInt64) * 1000000000)]) (s_wayAt h hj t) gm_ml_S_174 cw_B_wayAt ⟨by decide, by decide⟩ rfl (h.bN hj ho) rfl rfl (Nat.le_of_ble_eq_true rfl) d_S_placeAhead_98 ⟨by decide, by decide⟩ (fun ru4 gu4 hu4 => ?_)
          obtain ⟨rfl, rfl⟩ := hu4
          refine go_ladd X d_S_placeAhead_101 ?_
          refine go_lload X (z := 2) d_S_placeAhead_102 rfl ?_
          refine go_lsub X d_S_placeAhead_104 ?_
          exact go_retL X hr hlk d_S_placeAhead_105 ⟨rfl, by rw [hp]; subst ex2; simp only [paN, ho]; rw [if_neg c3]⟩
      | some j2 =>
        have hj2 := h.onto hj ho
        refine go_iload X (z := 0) d_S_placeAhead_60 rfl ?_
        refine go_bipush X (v := 12) d_S_placeAhead_62 (by decide) ?_
        refine go_icmp_ge X (tgt := 158) d_S_placeAhead_64 rfl (fun c1 => absurd c1 (nI_ge (a := k) (b := 12) (by omega) (by decide))) (fun c1 => ?_)
        refine go_aload_n X (z := 2) d_S_placeAhead_67 rfl rfl ?_
        refine go_lload X (z := 1) d_S_placeAhead_68 rfl ?_
        refine go_aload_n X (z := 2) d_S_placeAhead_70 rfl rfl ?_
        refine go_get X u_B rfl 1 (by decide) gm_fl_S_203 rfl d_S_placeAhead_71 (h.bS hj ho) rfl ?_
        refine go_ladd X d_S_placeAhead_74 ?_
        refine go_callL_V X (As := [.long (s0 + ((bLen (B j))))]) (rest := []) (s_timeOfWay h hj (s0 + ((bLen (B j))))) gm_ml_S_204 cw_B_timeOfWay ⟨by decide, by decide⟩ rfl (h.bS hj ho) rfl rfl (Nat.le_of_ble_eq_true rfl) d_S_placeAhead_75 ⟨by decide, by decide⟩ (fun r1 gq hq1 => ?_)
        obtain ⟨rfl, rfl⟩ := hq1
        refine go_topl (fun x2 ex2 => ?_)
        refine go_lstore X (lv' := [(7, .long x2), (6, .int ((nI k))), (4, .long s0), (3, .ref (bA ad j)), (0, .ref (iA ad i)), (1, .long t)]) d_S_placeAhead_78 (by decide) rfl ?_
        refine go_lload_n X (z := 5) d_S_placeAhead_80 rfl rfl ?_
        refine go_lload X (z := 0) d_S_placeAhead_81 rfl ?_
        refine go_lif_ge X (tgt := 106) d_S_placeAhead_83 d_S_placeAhead_84 rfl (fun c3 => ?_) (fun c3 => ?_)
        · refine go_aload_n X (z := 3) d_S_placeAhead_106 rfl rfl ?_
          refine go_get X u_B rfl 4 (by decide) gm_fl_S_58 rfl d_S_placeAhead_107 (h.bS hj ho) rfl ?_
          refine go_astore X (lv' := [(9, .ref (bA ad j2)), (7, .long x2), (6, .int ((nI k))), (4, .long s0), (3, .ref (bA ad j)), (0, .ref (iA ad i)), (1, .long t)]) d_S_placeAhead_110 (by decide) rfl ?_
          refine go_aload X (z := 0) d_S_placeAhead_112 rfl ?_
          refine go_ifnonnull X (tgt := 121) d_S_placeAhead_114 rfl ?_
          refine go_aload_n X (z := 4) d_S_placeAhead_121 rfl rfl ?_
          refine go_lload X (z := 1) d_S_placeAhead_122 rfl ?_
          refine go_callL_V X (As := [.long x2]) (rest := []) (s_wayAt h hj x2) gm_ml_S_174 cw_B_wayAt ⟨by decide, by decide⟩ rfl (h.bS hj ho) rfl rfl (Nat.le_of_ble_eq_true rfl) d_S_placeAhead_124 ⟨by decide, by decide⟩ (fun ru4 gu4 hu4 => ?_)
          obtain ⟨rfl, rfl⟩ := hu4
          refine go_lload X (z := 3) d_S_placeAhead_127 rfl ?_
          refine go_lsub X d_S_placeAhead_129 ?_
          refine go_aload_n X (z := 4) d_S_placeAhead_130 rfl rfl ?_
          refine go_get X u_B rfl 1 (by decide) gm_fl_S_203 rfl d_S_placeAhead_131 (h.bS hj ho) rfl ?_
          refine go_lsub X d_S_placeAhead_134 ?_
          refine go_topl (fun x5 ex5 => ?_)
          refine go_lstore X (lv' := [(10, .long x5), (9, .ref (bA ad j2)), (7, .long x2), (6, .int ((nI k))), (4, .long s0), (3, .ref (bA ad j)), (0, .ref (iA ad i)), (1, .long t)]) d_S_placeAhead_135 (by decide) rfl ?_
          refine go_aload X (z := 1) d_S_placeAhead_137 rfl ?_
          refine go_lload X (z := 2) d_S_placeAhead_139 rfl ?_
          refine go_callL_V X (As := [.long x2]) (rest := []) (s_wayAt h hj2 x2) gm_ml_S_174 cw_B_wayAt ⟨by decide, by decide⟩ rfl (h.b hj2) rfl rfl (Nat.le_of_ble_eq_true rfl) d_S_placeAhead_141 ⟨by decide, by decide⟩ (fun ru6 gu6 hu6 => ?_)
          obtain ⟨rfl, rfl⟩ := hu6
          refine go_lload X (z := 0) d_S_placeAhead_144 rfl ?_
          refine go_lsub X d_S_placeAhead_146 ?_
          refine go_topl (fun x7 ex7 => ?_)
          refine go_lstore X (lv' := [(4, .long x7), (10, .long x5), (9, .ref (bA ad j2)), (7, .long x2), (6, .int ((nI k))), (3, .ref (bA ad j)), (0, .ref (iA ad i)), (1, .long t)]) d_S_placeAhead_147 (by decide) rfl ?_
          refine go_aload X (z := 2) d_S_placeAhead_149 rfl ?_
          refine go_astore_n X (lv' := [(3, .ref (bA ad j2)), (4, .long x7), (10, .long x5), (9, .ref (bA ad j2)), (7, .long x2), (6, .int ((nI k))), (0, .ref (iA ad i)), (1, .long t)]) d_S_placeAhead_151 rfl (by decide) rfl ?_
          refine go_iinc X (j := 5) (v := nI (k + 1)) d_S_placeAhead_152 rfl (nI_1 k) (by decide) rfl ?_
          refine go_goto X (tgt := 60) d_S_placeAhead_155 rfl ?_
          refine go_sub (lv' := [(6, .int (nI (k + 1))), (4, .long x7), (3, .ref (bA ad j2)), (0, .ref (iA ad i)), (1, .long t)]) [0, 2, 1, 6, 7] rfl ?_
          exact ih (k + 1) j2 x7 (by omega) hj2 (by rw [hp]; subst ex2 ex5 ex7; simp only [paN, ho]; rw [if_pos c3])
        · refine go_aload_n X (z := 3) d_S_placeAhead_87 rfl rfl ?_
          refine go_get X u_B rfl 0 (by decide) gm_fl_S_51 rfl d_S_placeAhead_88 (h.bS hj ho) rfl ?_
          refine go_i2l X d_S_placeAhead_91 rfl ?_
          refine go_ldc2 X d_S_placeAhead_92 gm_k_S_105 ?_
          refine go_lmul X d_S_placeAhead_95 ?_
          refine go_aload_n X (z := 3) d_S_placeAhead_96 rfl rfl ?_
          refine go_lload_n X (z := 5) d_S_placeAhead_97 rfl rfl ?_
          refine go_callL_V X (As := [.long t]) (rest := [.long ((((nI j)).toInt64) * 1000000000)]) (s_wayAt h hj t) gm_ml_S_174 cw_B_wayAt ⟨by decide, by decide⟩ rfl (h.bS hj ho) rfl rfl (Nat.le_of_ble_eq_true rfl) d_S_placeAhead_98 ⟨by decide, by decide⟩ (fun ru8 gu8 hu8 => ?_)
          obtain ⟨rfl, rfl⟩ := hu8
          refine go_ladd X d_S_placeAhead_101 ?_
          refine go_lload X (z := 2) d_S_placeAhead_102 rfl ?_
          refine go_lsub X d_S_placeAhead_104 ?_
          exact go_retL X hr hlk d_S_placeAhead_105 ⟨rfl, by rw [hp]; subst ex2; simp only [paN, ho]; rw [if_neg c3]⟩
  refine go_aload_n X (z := 0) d_S_placeAhead_0 rfl rfl ?_
  refine go_get X u_I rfl 2 (by decide) gm_fl_S_135 rfl d_S_placeAhead_1 (h.iS hi hb) rfl ?_
  refine go_astore_n X (lv' := [(3, .ref (bA ad j0)), (0, .ref (iA ad i)), (1, .long t)]) d_S_placeAhead_4 rfl (by decide) rfl ?_
  refine go_aload_n X (z := 0) d_S_placeAhead_5 rfl rfl ?_
  refine go_ifnonnull X (tgt := 13) d_S_placeAhead_6 rfl ?_
  refine go_aload_n X (z := 1) d_S_placeAhead_13 rfl rfl ?_
  refine go_get X u_I rfl 3 (by decide) gm_fl_S_198 rfl d_S_placeAhead_14 (h.iS hi hb) rfl ?_
  refine go_if_eq X (tgt := 33) d_S_placeAhead_17 rfl (fun c1 => ?_) (fun c1 => ?_)
  · refine go_aload_n X (z := 1) d_S_placeAhead_33 rfl rfl ?_
    refine go_get X u_I rfl 3 (by decide) gm_fl_S_198 rfl d_S_placeAhead_34 (h.iS hi hb) rfl ?_
    refine go_if_eq X (tgt := 51) d_S_placeAhead_37 rfl (fun c2 => ?_) (fun c2 => absurd c1 c2)
    refine go_aload_n X (z := 1) d_S_placeAhead_51 rfl rfl ?_
    refine go_get X u_I rfl 5 (by decide) gm_fl_S_121 rfl d_S_placeAhead_52 (h.iS hi hb) rfl ?_
    refine go_topl (fun x3 ex3 => ?_)
    refine go_lstore X (lv' := [(4, .long x3), (3, .ref (bA ad j0)), (0, .ref (iA ad i)), (1, .long t)]) d_S_placeAhead_55 (by decide) rfl ?_
    refine go_iconst X (v := 0) d_S_placeAhead_57 (by decide) ?_
    refine go_istore X (lv' := [(6, .int 0), (4, .long x3), (3, .ref (bA ad j0)), (0, .ref (iA ad i)), (1, .long t)]) d_S_placeAhead_58 (by decide) rfl ?_
    refine go_sub (lv' := [(6, .int (nI 0)), (4, .long x3), (3, .ref (bA ad j0)), (0, .ref (iA ad i)), (1, .long t)]) [0, 1, 2, 3, 4] rfl ?_
    exact loop 12 0 j0 x3 rfl hj0 (by unfold paF; rw [hb]; simp only; rw [if_pos c1]; rw [ex3])
  · refine go_lload_n X (z := 2) d_S_placeAhead_20 rfl rfl ?_
    refine go_aload_n X (z := 1) d_S_placeAhead_21 rfl rfl ?_
    refine go_get X u_I rfl 4 (by decide) gm_fl_S_164 rfl d_S_placeAhead_22 (h.iS hi hb) rfl ?_
    refine go_lif_ge X (tgt := 33) d_S_placeAhead_25 d_S_placeAhead_26 rfl (fun c4 => ?_) (fun c4 => ?_)
    · refine go_aload_n X (z := 1) d_S_placeAhead_33 rfl rfl ?_
      refine go_get X u_I rfl 3 (by decide) gm_fl_S_198 rfl d_S_placeAhead_34 (h.iS hi hb) rfl ?_
      refine go_if_eq X (tgt := 51) d_S_placeAhead_37 rfl (fun c5 => absurd c5 c1) (fun c5 => ?_)
      refine go_aload_n X (z := 0) d_S_placeAhead_40 rfl rfl ?_
      refine go_aload_n X (z := 1) d_S_placeAhead_41 rfl rfl ?_
      refine go_get X u_I rfl 4 (by decide) gm_fl_S_164 rfl d_S_placeAhead_42 (h.iS hi hb) rfl ?_
      refine go_callL_V X (As := [.long ((iTurn (I i)))]) (rest := []) (s_wayAt h hj0 ((iTurn (I i)))) gm_ml_S_174 cw_B_wayAt ⟨by decide, by decide⟩ rfl (h.b hj0) rfl rfl (Nat.le_of_ble_eq_true rfl) d_S_placeAhead_45 ⟨by decide, by decide⟩ (fun ru6 gu6 hu6 => ?_)
      obtain ⟨rfl, rfl⟩ := hu6
      refine go_goto X (tgt := 55) d_S_placeAhead_48 rfl ?_
      refine go_topl (fun x7 ex7 => ?_)
      refine go_lstore X (lv' := [(4, .long x7), (3, .ref (bA ad j0)), (0, .ref (iA ad i)), (1, .long t)]) d_S_placeAhead_55 (by decide) rfl ?_
      refine go_iconst X (v := 0) d_S_placeAhead_57 (by decide) ?_
      refine go_istore X (lv' := [(6, .int 0), (4, .long x7), (3, .ref (bA ad j0)), (0, .ref (iA ad i)), (1, .long t)]) d_S_placeAhead_58 (by decide) rfl ?_
      refine go_sub (lv' := [(6, .int (nI 0)), (4, .long x7), (3, .ref (bA ad j0)), (0, .ref (iA ad i)), (1, .long t)]) [0, 1, 2, 3, 4] rfl ?_
      exact loop 12 0 j0 x7 rfl hj0 (by unfold paF; rw [hb]; simp only; rw [if_neg c1, if_pos c4]; rw [ex7])
    · refine go_ldc2 X d_S_placeAhead_29 gm_k_S_201 ?_
      exact go_retL X hr hlk d_S_placeAhead_32 ⟨rfl, by unfold paF; rw [hb]; simp only; rw [if_neg c1, if_neg c4]⟩
theorem c_S_placeAhead {l : Launch} {D : va_G} {dA : Nat → ClassId} {g : Nat → Option va_E} (h : SRep dA ad g nb ni now B I n tk fr) {i : Nat} (hi : i < ni) (t : Int64) : CtL l D classes (tyL dA) y_S_placeAhead b_S_placeAhead 12 (some .long) rm_S_placeAhead [.ref (iA ad i), .long t] g (fun r g' => g = g' ∧ r = paF B (I i) t) := by
  cases hb : iBt (I i) with
  | none => exact c_S_placeAhead_n h hi hb t
  | some j => exact c_S_placeAhead_s h hi hb t
end S3
end
section
/-! BeltSteps: the public methods that make nothing. -/
def cntN (I : Nat → IT) (j : Nat) : Nat → Int32
  | 0 => 0
  | k + 1 => if isOnF I k j = 0 then cntN I j k else cntN I j k + 1
def ontoV (b : BT) : Int32 := match bOnto b with
  | none => -1
  | some q => nI q
def setOnto (b : BT) (q : Nat) : BT := (bLen b, bSpd b, bSen b, some q, bRun b, bTel b, bTold b, bGb b, bWat b, bFg b, bFp b, bFw b)
def slipI (x : IT) (v : Int64) : IT := (iLen x, iBt x, iWt x, iTurn x, iStart x + v, iFt x, iEt x)
theorem on_1 {x : IT} (h : ¬ onF x = 0) : ∃ j, iBt x = some j ∧ iWt x = 0 := by
  unfold onF at h
  cases hb : iBt x with
  | none => rw [hb] at h; exact absurd rfl h
  | some j =>
    rw [hb] at h
    simp only at h
    by_cases hw : iWt x = 0
    · exact ⟨j, rfl, hw⟩
    · rw [if_neg hw] at h; exact absurd rfl h
def BOk (b : BT) : Prop := ∀ j, j < 8 → bFg b j = gearF (bRun b) (bGb b) j ∧ bFp b j = paceF (bSpd b) (gearF (bRun b) (bGb b) j) ∧ bFw b j = wayS (bWat b) (bSpd b) (bRun b) (bGb b) j
def gbT (b : BT) (t : Int64) : Int32 := if t ≤ bTold b then bGb b else bFg b (stageF (bTold b) (t - 1)).toNatClampNeg
/-- a belt told at t -/
def IsTold (b b' : BT) (on : Int32) (t : Int64) : Prop := BOk b' ∧ bLen b' = bLen b ∧ bSpd b' = bSpd b ∧ bSen b' = bSen b ∧ bOnto b' = bOnto b ∧ bRun b' = on ∧ bTel b' = bTel b + 1 ∧ bTold b' = t ∧ bGb b' = gbT b t ∧ bWat b' = wayB b t
section S4
variable {ad : Nat → Nat} {nb ni : Nat} {now : Int64} {B : Nat → BT} {I : Nat → IT} {n : Nat} {tk : Int32} {fr : Nat → Int32}
set_option maxHeartbeats 4000000 in
set_option maxRecDepth 100000 in
theorem c_S_edge {l : Launch} {D : va_G} {dA : Nat → ClassId} {g : Nat → Option va_E}  (h : SRep dA ad g nb ni now B I n tk fr) (i what : Int32) : CtI l D classes (tyL dA) y_S_edge b_S_edge 3 (some .int) rm_S_edge [.ref (ad 0), .int i, .int what] g (fun r g' => g = g' ∧ r = readF fr (nI n) i what) := by
  refine CtI.of (by decide) (Nat.le_of_ble_eq_true rfl) ?_
  intro p e s m below meth c X hr hlk hnm
  refine go_aload_n X (z := 0) d_S_edge_0 rfl rfl ?_
  refine go_get X u_S rfl 4 (by decide) gm_fl_S_31 rfl d_S_edge_1 h.this rfl ?_
  refine go_iload_n X (z := 1) d_S_edge_4 rfl rfl ?_
  refine go_iload_n X (z := 2) d_S_edge_5 rfl rfl ?_
  refine go_callI_V X (As := [.int i, .int what]) (rest := []) (c_E_read h.es h.rs i what) gm_ml_S_82 cw_E_read ⟨by decide, by decide⟩ rfl h.es rfl rfl (Nat.le_of_ble_eq_true rfl) d_S_edge_6 ⟨by decide, by decide⟩ (fun ru gu hu => ?_)
  obtain ⟨rfl, rfl⟩ := hu
  exact go_retI X hr hlk d_S_edge_9 ⟨rfl, rfl⟩
set_option maxHeartbeats 4000000 in
set_option maxRecDepth 100000 in
theorem c_S_step {l : Launch} {D : va_G} {dA : Nat → ClassId} {g : Nat → Option va_E}  (h : SRep dA ad g nb ni now B I n tk fr) (hn : n ≤ 1000000000) (t : Int64) : CtI l D classes (tyL dA) y_S_step b_S_step 3 (some .int) rm_S_step [.ref (ad 0), .long t] g (fun r g' => (nolF now t = 0 ∧ r = -12 ∧ g = g') ∨ (¬ nolF now t = 0 ∧ r = nI (pasN B ni t 100000 I (n, fr)).2.1 - tk ∧ SRep dA ad g' nb ni t B (pasN B ni t 100000 I (n, fr)).1 (pasN B ni t 100000 I (n, fr)).2.1 (nI (pasN B ni t 100000 I (n, fr)).2.1) (pasN B ni t 100000 I (n, fr)).2.2 ∧ SFr ad nb ni g g')) := by
  refine CtI.of (by decide) (Nat.le_of_ble_eq_true rfl) ?_
  intro p e s m below meth c X hr hlk hnm
  refine go_aload_n X (z := 0) d_S_step_0 rfl rfl ?_
  refine go_lload_n X (z := 1) d_S_step_1 rfl rfl ?_
  refine go_callI_V X (As := [.long t]) (rest := []) (c_S_isNowOrLater h t) gm_ml_S_62 cw_S_isNowOrLater ⟨by decide, by decide⟩ rfl h.this rfl rfl (Nat.le_of_ble_eq_true rfl) d_S_step_2 ⟨by decide, by decide⟩ (fun ru1 gu1 hu1 => ?_)
  obtain ⟨rfl, rfl⟩ := hu1
  refine go_if_ne X (tgt := 11) d_S_step_5 rfl (fun c2 => ?_) (fun c2 => ?_)
  · refine go_aload_n X (z := 0) d_S_step_11 rfl rfl ?_
    refine go_lload_n X (z := 1) d_S_step_12 rfl rfl ?_
    refine go_callV_V X (As := [.long t]) (rest := []) (c_S_passTo h hn t) gm_ml_S_74 cw_S_passTo ⟨by decide, by decide⟩ rfl h.this rfl rfl (Nat.le_of_ble_eq_true rfl) d_S_step_13 ⟨by decide, by decide⟩ (fun gz hz => ?_)
    obtain ⟨hz, hzF⟩ := hz
    refine go_aload_n X (z := 0) d_S_step_16 rfl rfl ?_
    refine go_get X u_S rfl 4 (by decide) gm_fl_S_31 rfl d_S_step_17 hz.this rfl ?_
    refine go_callI_V X (As := []) (rest := []) (c_E_takeNew hz.es) gm_ml_S_78 cw_E_takeNew ⟨by decide, by decide⟩ rfl hz.es rfl rfl (Nat.le_of_ble_eq_true rfl) d_S_step_20 ⟨by decide, by decide⟩ (fun ru gu hu => ?_)
    obtain ⟨hu, rfl⟩ := hu
    have he := hz.setE (n' := (pasN B ni t 100000 I (n, fr)).2.1) (tk' := nI (pasN B ni t 100000 I (n, fr)).2.1) (fr' := (pasN B ni t 100000 I (n, fr)).2.2)
    rw [va_up_id hz.rs, ← hu] at he
    exact go_retI X hr hlk d_S_step_23 (Or.inr ⟨c2, rfl, he, hzF.trans (hu ▸ SFr.up (ok0 (by omega)))⟩)
  · refine go_bipush X (v := (-12)) d_S_step_8 (by decide) ?_
    exact go_retI X hr hlk d_S_step_10 (Or.inl ⟨c2, rfl, rfl⟩)
set_option maxHeartbeats 4000000 in
set_option maxRecDepth 100000 in
theorem c_S_gear {l : Launch} {D : va_G} {dA : Nat → ClassId} {g : Nat → Option va_E}  (h : SRep dA ad g nb ni now B I n tk fr) (x : Int32) (t : Int64) : CtI l D classes (tyL dA) y_S_gear b_S_gear 5 (some .int) rm_S_gear [.ref (ad 0), .int x, .long t] g (fun r g' => g = g' ∧ (((∀ k, k < nb → x ≠ nI k) ∧ r = -11) ∨ (∃ k, k < nb ∧ x = nI k ∧ ((nolF now t = 0 ∧ r = -12) ∨ (¬ nolF now t = 0 ∧ r = bFg (B k) (stageF (bTold (B k)) t).toNatClampNeg))))) := by
  refine CtI.of (by decide) (Nat.le_of_ble_eq_true rfl) ?_
  intro p e s m below meth c X hr hlk hnm
  refine go_aload_n X (z := 0) d_S_gear_0 rfl rfl ?_
  refine go_iload_n X (z := 1) d_S_gear_1 rfl rfl ?_
  refine go_callR_V X (As := [.int x]) (rest := []) (c_S_beltNumbered h x) gm_ml_S_54 cw_S_beltNumbered ⟨by decide, by decide⟩ rfl h.this rfl rfl (Nat.le_of_ble_eq_true rfl) d_S_gear_2 ⟨by decide, by decide⟩ (fun ru1 gu1 hu1 => ?_)
  obtain ⟨rfl, (⟨k, hk, rfl, rfl⟩ | ⟨rfl, hnok⟩)⟩ := hu1
  · refine go_astore X (lv' := [(4, .ref (bA ad k)), (0, .ref (ad 0)), (1, .int ((nI k))), (2, .long t)]) d_S_gear_5 (by decide) rfl ?_
    refine go_aload X (z := 0) d_S_gear_7 rfl ?_
    refine go_ifnonnull X (tgt := 15) d_S_gear_9 rfl ?_
    refine go_aload_n X (z := 1) d_S_gear_15 rfl rfl ?_
    refine go_lload_n X (z := 3) d_S_gear_16 rfl rfl ?_
    refine go_callI_V X (As := [.long t]) (rest := []) (c_S_isNowOrLater h t) gm_ml_S_62 cw_S_isNowOrLater ⟨by decide, by decide⟩ rfl h.this rfl rfl (Nat.le_of_ble_eq_true rfl) d_S_gear_17 ⟨by decide, by decide⟩ (fun ru2 gu2 hu2 => ?_)
    obtain ⟨rfl, rfl⟩ := hu2
    refine go_if_ne X (tgt := 26) d_S_gear_20 rfl (fun c3 => ?_) (fun c3 => ?_)
    · refine go_aload X (z := 0) d_S_gear_26 rfl ?_
      refine go_lload_n X (z := 3) d_S_gear_28 rfl rfl ?_
      refine go_callI_V X (As := [.long t]) (rest := []) (s_gearAt h hk t) gm_ml_S_145 cw_B_gearAt ⟨by decide, by decide⟩ rfl (h.b hk) rfl rfl (Nat.le_of_ble_eq_true rfl) d_S_gear_29 ⟨by decide, by decide⟩ (fun ru gu hu => ?_)
      obtain ⟨rfl, rfl⟩ := hu
      exact go_retI X hr hlk d_S_gear_32 ⟨rfl, Or.inr ⟨k, hk, rfl, Or.inr ⟨c3, rfl⟩⟩⟩
    · refine go_bipush X (v := (-12)) d_S_gear_23 (by decide) ?_
      exact go_retI X hr hlk d_S_gear_25 ⟨rfl, Or.inr ⟨k, hk, rfl, Or.inl ⟨c3, rfl⟩⟩⟩
  · refine go_astoreN X (lv' := [(4, .null), (0, .ref (ad 0)), (1, .int x), (2, .long t)]) d_S_gear_5 (by decide) rfl ?_
    refine go_aloadN X (z := 0) d_S_gear_7 rfl ?_
    refine go_ifnonnullN X d_S_gear_9 ?_
    refine go_bipush X (v := (-11)) d_S_gear_12 (by decide) ?_
    exact go_retI X hr hlk d_S_gear_14 ⟨rfl, Or.inl ⟨hnok, rfl⟩⟩
set_option maxHeartbeats 4000000 in
set_option maxRecDepth 100000 in
theorem c_S_place {l : Launch} {D : va_G} {dA : Nat → ClassId} {g : Nat → Option va_E}  (h : SRep dA ad g nb ni now B I n tk fr) (x : Int32) (t : Int64) : CtL l D classes (tyL dA) y_S_place b_S_place 5 (some .long) rm_S_place [.ref (ad 0), .int x, .long t] g (fun r g' => g = g' ∧ (((∀ k, k < ni → x ≠ nI (k + 1)) ∧ r = -11) ∨ (∃ k, k < ni ∧ x = nI (k + 1) ∧ ((nolF now t = 0 ∧ r = -12) ∨ (¬ nolF now t = 0 ∧ r = paF B (I k) t))))) := by
  refine CtL.of (by decide) (Nat.le_of_ble_eq_true rfl) ?_
  intro p e s m below meth c X hr hlk hnm
  refine go_aload_n X (z := 0) d_S_place_0 rfl rfl ?_
  refine go_iload_n X (z := 1) d_S_place_1 rfl rfl ?_
  refine go_callR_V X (As := [.int x]) (rest := []) (c_S_itemNumbered h x) gm_ml_S_101 cw_S_itemNumbered ⟨by decide, by decide⟩ rfl h.this rfl rfl (Nat.le_of_ble_eq_true rfl) d_S_place_2 ⟨by decide, by decide⟩ (fun ru1 gu1 hu1 => ?_)
  obtain ⟨rfl, (⟨k, hk, rfl, rfl⟩ | ⟨rfl, hnok⟩)⟩ := hu1
  · refine go_astore X (lv' := [(4, .ref (iA ad k)), (0, .ref (ad 0)), (1, .int ((nI (k + 1)))), (2, .long t)]) d_S_place_5 (by decide) rfl ?_
    refine go_aload X (z := 0) d_S_place_7 rfl ?_
    refine go_ifnonnull X (tgt := 16) d_S_place_9 rfl ?_
    refine go_aload_n X (z := 1) d_S_place_16 rfl rfl ?_
    refine go_lload_n X (z := 3) d_S_place_17 rfl rfl ?_
    refine go_callI_V X (As := [.long t]) (rest := []) (c_S_isNowOrLater h t) gm_ml_S_62 cw_S_isNowOrLater ⟨by decide, by decide⟩ rfl h.this rfl rfl (Nat.le_of_ble_eq_true rfl) d_S_place_18 ⟨by decide, by decide⟩ (fun ru2 gu2 hu2 => ?_)
    obtain ⟨rfl, rfl⟩ := hu2
    refine go_if_ne X (tgt := 28) d_S_place_21 rfl (fun c3 => ?_) (fun c3 => ?_)
    · refine go_aload X (z := 0) d_S_place_28 rfl ?_
      refine go_lload_n X (z := 3) d_S_place_30 rfl rfl ?_
      refine go_callL_S X (As := [.ref (iA ad k), .long t]) (rest := []) (c_S_placeAhead h hk t) gm_ml_S_131 cw_S_placeAhead ⟨by decide, by decide⟩ rfl rfl (Nat.le_of_ble_eq_true rfl) d_S_place_31 ⟨by decide, by decide⟩ (fun ru gu hu => ?_)
      obtain ⟨rfl, rfl⟩ := hu
      exact go_retL X hr hlk d_S_place_34 ⟨rfl, Or.inr ⟨k, hk, rfl, Or.inr ⟨c3, rfl⟩⟩⟩
    · refine go_ldc2 X d_S_place_24 gm_k_S_129 ?_
      exact go_retL X hr hlk d_S_place_27 ⟨rfl, Or.inr ⟨k, hk, rfl, Or.inl ⟨c3, rfl⟩⟩⟩
  · refine go_astoreN X (lv' := [(4, .null), (0, .ref (ad 0)), (1, .int x), (2, .long t)]) d_S_place_5 (by decide) rfl ?_
    refine go_aloadN X (z := 0) d_S_place_7 rfl ?_
    refine go_ifnonnullN X d_S_place_9 ?_
    refine go_ldc2 X d_S_place_12 gm_k_S_127 ?_
    exact go_retL X hr hlk d_S_place_15 ⟨rfl, Or.inl ⟨hnok, rfl⟩⟩
set_option maxHeartbeats 4000000 in
set_option maxRecDepth 100000 in
theorem c_S_count {l : Launch} {D : va_G} {dA : Nat → ClassId} {g : Nat → Option va_E}  (h : SRep dA ad g nb ni now B I n tk fr) (x : Int32) : CtI l D classes (tyL dA) y_S_count b_S_count 5 (some .int) rm_S_count [.ref (ad 0), .int x] g (fun r g' => g = g' ∧ (((∀ k, k < nb → x ≠ nI k) ∧ r = -11) ∨ (∃ k, k < nb ∧ x = nI k ∧ r = cntN I k ni))) := by
  refine CtI.of (by decide) (Nat.le_of_ble_eq_true rfl) ?_
  intro p e s m below meth c X hr hlk hnm
  have hni := h.ni60
  refine go_aload_n X (z := 0) d_S_count_0 rfl rfl ?_
  refine go_iload_n X (z := 1) d_S_count_1 rfl rfl ?_
  refine go_callR_V X (As := [.int x]) (rest := []) (c_S_beltNumbered h x) gm_ml_S_54 cw_S_beltNumbered ⟨by decide, by decide⟩ rfl h.this rfl rfl (Nat.le_of_ble_eq_true rfl) d_S_count_2 ⟨by decide, by decide⟩ (fun ru1 gu1 hu1 => ?_)
  obtain ⟨rfl, (⟨j, hj, rfl, rfl⟩ | ⟨rfl, hnoj⟩)⟩ := hu1
  · refine go_astore_n X (lv' := [(2, .ref (bA ad j)), (0, .ref (ad 0)), (1, .int ((nI j)))]) d_S_count_5 rfl (by decide) rfl ?_
    refine go_aload_n X (z := 0) d_S_count_6 rfl rfl ?_
    refine go_ifnonnull X (tgt := 13) d_S_count_7 rfl ?_
    refine go_iconst X (v := 0) d_S_count_13 (by decide) ?_
    refine go_istore_n X (lv' := [(3, .int 0), (2, .ref (bA ad j)), (0, .ref (ad 0)), (1, .int ((nI j)))]) d_S_count_14 rfl (by decide) rfl ?_
    refine go_iconst X (v := 0) d_S_count_15 (by decide) ?_
    refine go_istore X (lv' := [(4, .int 0), (3, .int 0), (2, .ref (bA ad j)), (0, .ref (ad 0)), (1, .int ((nI j)))]) d_S_count_16 (by decide) rfl ?_
    have loop : ∀ (f k : Nat) (v : Int32), k + f = ni → v = cntN I j k → Go p l e rm_S_count s m [.ref (ad 0), .int ((nI j))].toArray below meth c D classes (gA g s.heap.size) 5 (MQ below (va_Qi (fun r g' => g = g' ∧ (((∀ k, k < nb → nI j ≠ nI k) ∧ r = -11) ∨ (∃ k, k < nb ∧ nI j = nI k ∧ r = cntN I k ni))) (fun (g' : Nat → Option va_E) (t : State) => PW D classes (gA g s.heap.size) g' t.heap) (gA g s.heap.size)) [.ref (ad 0), .int ((nI j))].toArray s 0 0 (gA g s.heap.size)) g 0 0 18 [(4, .int ((nI k))), (3, .int v), (2, .ref (bA ad j)), (0, .ref (ad 0)), (1, .int ((nI j)))] [] := by
      intro f
      induction f with
      | zero =>
        intro k v hk hv
        have hkn : k = ni := by omega
        subst hkn
        refine go_iload X (z := 0) d_S_count_18 rfl ?_
        refine go_aload_n X (z := 3) d_S_count_20 rfl rfl ?_
        refine go_get X u_S rfl 3 (by decide) gm_fl_S_25 rfl d_S_count_21 h.this rfl ?_
        refine go_icmp_ge X (tgt := 50) d_S_count_24 rfl (fun c1 => ?_) (fun c1 => absurd (Int32.le_refl _) c1)
        refine go_iload_n X (z := 1) d_S_count_50 rfl rfl ?_
        exact go_retI X hr hlk d_S_count_51 ⟨rfl, Or.inr ⟨j, hj, rfl, hv⟩⟩
      | succ f ih =>
        intro k v hkf hv
        have hk : k < ni := by omega
        refine go_iload X (z := 0) d_S_count_18 rfl ?_
        refine go_aload_n X (z := 3) d_S_count_20 rfl rfl ?_
        refine go_get X u_S rfl 3 (by decide) gm_fl_S_25 rfl d_S_count_21 h.this rfl ?_
        refine go_icmp_ge X (tgt := 50) d_S_count_24 rfl (fun c1 => absurd c1 (nI_ge (a := k) (b := ni) hk (by omega))) (fun c1 => ?_)
        refine go_aload_n X (z := 3) d_S_count_27 rfl rfl ?_
        refine go_get X u_S rfl 2 (by decide) gm_fl_S_21 rfl d_S_count_28 h.this rfl ?_
        refine go_iload X (z := 0) d_S_count_31 rfl ?_
        refine go_aald X 4 rfl d_S_count_33 h.is (vp_in_nI (by omega) (by decide)) ?_
        rw [iTab_at hk h.ni60]
        refine go_aload_n X (z := 2) d_S_count_34 rfl rfl ?_
        refine go_callI_V X (As := [.ref (bA ad j)]) (rest := []) (s_isOn h hk hj) gm_ml_S_141 cw_I_isOn ⟨by decide, by decide⟩ rfl (h.i hk) rfl rfl (Nat.le_of_ble_eq_true rfl) d_S_count_35 ⟨by decide, by decide⟩ (fun ru gu hu => ?_)
        obtain ⟨rfl, rfl⟩ := hu
        refine go_if_eq X (tgt := 44) d_S_count_38 rfl (fun c2 => ?_) (fun c2 => ?_)
        · refine go_iinc X (j := 0) (v := nI (k + 1)) d_S_count_44 rfl (nI_1 k) (by decide) rfl ?_
          refine go_goto X (tgt := 18) d_S_count_47 rfl ?_
          exact ih (k + 1) v (by omega) (by simp only [cntN]; rw [if_pos c2, hv])
        · refine go_iinc X (j := 1) (v := v + 1) d_S_count_41 rfl rfl (by decide) rfl ?_
          refine go_iinc X (j := 1) (v := nI (k + 1)) d_S_count_44 rfl (nI_1 k) (by decide) rfl ?_
          refine go_goto X (tgt := 18) d_S_count_47 rfl ?_
          exact ih (k + 1) (v + 1) (by omega) (by simp only [cntN]; rw [if_neg c2, hv])
    refine go_sub (lv' := [(4, .int (nI 0)), (3, .int 0), (2, .ref (bA ad j)), (0, .ref (ad 0)), (1, .int (nI j))]) [0, 1, 2, 3, 4] rfl ?_
    exact loop ni 0 0 (Nat.zero_add _) rfl
  · refine go_astore_nN X (lv' := [(2, .null), (0, .ref (ad 0)), (1, .int x)]) d_S_count_5 rfl (by decide) rfl ?_
    refine go_aload_nN X (z := 0) d_S_count_6 rfl rfl ?_
    refine go_ifnonnullN X d_S_count_7 ?_
    refine go_bipush X (v := (-11)) d_S_count_10 (by decide) ?_
    exact go_retI X hr hlk d_S_count_12 ⟨rfl, Or.inl ⟨hnoj, rfl⟩⟩
set_option maxHeartbeats 4000000 in
set_option maxRecDepth 100000 in
theorem c_S_gap {l : Launch} {D : va_G} {dA : Nat → ClassId} {g : Nat → Option va_E}  (h : SRep dA ad g nb ni now B I n tk fr) (x y : Int32) : CtI l D classes (tyL dA) y_S_gap b_S_gap 5 (some .int) rm_S_gap [.ref (ad 0), .int x, .int y] g (fun r g' => g = g' ∧ ((((∀ k, k < ni → x ≠ nI (k + 1)) ∨ (∀ k, k < ni → y ≠ nI (k + 1))) ∧ r = -11) ∨ (∃ k, k < ni ∧ x = nI (k + 1) ∧ ∃ q, q < ni ∧ y = nI (q + 1) ∧ ((nI (k + 1) = nI (q + 1) ∧ r = -12) ∨ (¬ nI (k + 1) = nI (q + 1) ∧ (((onF (I k) = 0 ∨ onF (I q) = 0 ∨ ¬ iBt (I k) = iBt (I q)) ∧ r = -13) ∨ (∃ j, iBt (I k) = some j ∧ iBt (I q) = some j ∧ iWt (I k) = 0 ∧ iWt (I q) = 0 ∧ r = (wayB (B j) now - iStart (I q) - iLen (I q) - (wayB (B j) now - iStart (I k))).toInt32))))))) := by
  refine CtI.of (by decide) (Nat.le_of_ble_eq_true rfl) ?_
  intro p e s m below meth c X hr hlk hnm
  refine go_aload_n X (z := 0) d_S_gap_0 rfl rfl ?_
  refine go_iload_n X (z := 1) d_S_gap_1 rfl rfl ?_
  refine go_callR_V X (As := [.int x]) (rest := []) (c_S_itemNumbered h x) gm_ml_S_101 cw_S_itemNumbered ⟨by decide, by decide⟩ rfl h.this rfl rfl (Nat.le_of_ble_eq_true rfl) d_S_gap_2 ⟨by decide, by decide⟩ (fun ru1 gu1 hu1 => ?_)
  obtain ⟨rfl, (⟨k, hk, rfl, rfl⟩ | ⟨rfl, hnok⟩)⟩ := hu1
  · refine go_astore_n X (lv' := [(3, .ref (iA ad k)), (0, .ref (ad 0)), (1, .int ((nI (k + 1)))), (2, .int y)]) d_S_gap_5 rfl (by decide) rfl ?_
    refine go_aload_n X (z := 1) d_S_gap_6 rfl rfl ?_
    refine go_iload_n X (z := 3) d_S_gap_7 rfl rfl ?_
    refine go_callR_V X (As := [.int y]) (rest := []) (c_S_itemNumbered h y) gm_ml_S_101 cw_S_itemNumbered ⟨by decide, by decide⟩ rfl h.this rfl rfl (Nat.le_of_ble_eq_true rfl) d_S_gap_8 ⟨by decide, by decide⟩ (fun ru2 gu2 hu2 => ?_)
    obtain ⟨rfl, (⟨q, hq, rfl, rfl⟩ | ⟨rfl, hnoq⟩)⟩ := hu2
    · refine go_astore X (lv' := [(4, .ref (iA ad q)), (3, .ref (iA ad k)), (0, .ref (ad 0)), (1, .int ((nI (k + 1)))), (2, .int ((nI (q + 1))))]) d_S_gap_11 (by decide) rfl ?_
      refine go_aload_n X (z := 1) d_S_gap_13 rfl rfl ?_
      refine go_ifnull X d_S_gap_14 ?_
      refine go_aload X (z := 0) d_S_gap_17 rfl ?_
      refine go_ifnonnull X (tgt := 25) d_S_gap_19 rfl ?_
      refine go_iload_n X (z := 3) d_S_gap_25 rfl rfl ?_
      refine go_iload_n X (z := 4) d_S_gap_26 rfl rfl ?_
      refine go_icmp_ne X (tgt := 33) d_S_gap_27 rfl (fun c3 => ?_) (fun c3 => ?_)
      · refine go_aload_n X (z := 1) d_S_gap_33 rfl rfl ?_
        refine go_callI_V X (As := []) (rest := []) (s_isOnABelt h hk) gm_ml_S_107 cw_I_isOnABelt ⟨by decide, by decide⟩ rfl (h.i hk) rfl rfl (Nat.le_of_ble_eq_true rfl) d_S_gap_34 ⟨by decide, by decide⟩ (fun ru4 gu4 hu4 => ?_)
        obtain ⟨rfl, rfl⟩ := hu4
        refine go_if_eq X (tgt := 48) d_S_gap_37 rfl (fun c5 => ?_) (fun c5 => ?_)
        · refine go_bipush X (v := (-13)) d_S_gap_48 (by decide) ?_
          exact go_retI X hr hlk d_S_gap_50 ⟨rfl, Or.inr ⟨k, hk, rfl, q, hq, rfl, Or.inr ⟨c3, Or.inl ⟨Or.inl c5, rfl⟩⟩⟩⟩
        · refine go_aload X (z := 0) d_S_gap_40 rfl ?_
          refine go_callI_V X (As := []) (rest := []) (s_isOnABelt h hq) gm_ml_S_107 cw_I_isOnABelt ⟨by decide, by decide⟩ rfl (h.i hq) rfl rfl (Nat.le_of_ble_eq_true rfl) d_S_gap_42 ⟨by decide, by decide⟩ (fun ru6 gu6 hu6 => ?_)
          obtain ⟨rfl, rfl⟩ := hu6
          refine go_if_ne X (tgt := 51) d_S_gap_45 rfl (fun c7 => ?_) (fun c7 => ?_)
          · obtain ⟨j1, hbk, hwk⟩ := on_1 c5
            obtain ⟨j2, hbq, hwq⟩ := on_1 c7
            refine go_aload_n X (z := 1) d_S_gap_51 rfl rfl ?_
            refine go_get X u_I rfl 2 (by decide) gm_fl_S_135 rfl d_S_gap_52 (h.iS hk hbk) rfl ?_
            refine go_aload X (z := 0) d_S_gap_55 rfl ?_
            refine go_get X u_I rfl 2 (by decide) gm_fl_S_135 rfl d_S_gap_57 (h.iS hq hbq) rfl ?_
            refine go_acmp_eq X (ry := (some (bA ad j2))) (rx := (some (bA ad j1))) (tgt := 66) d_S_gap_60 rfl (fun c8 => ?_) (fun c8 => ?_)
            · refine go_aload X (z := 0) d_S_gap_66 rfl ?_
              refine go_aload_n X (z := 2) d_S_gap_68 rfl rfl ?_
              refine go_get X u_S rfl 5 (by decide) gm_fl_S_35 rfl d_S_gap_69 h.this rfl ?_
              refine go_callL_V X (As := [.long now]) (rest := []) (s_placeAt h hq hbq now) gm_ml_S_111 cw_I_placeAt ⟨by decide, by decide⟩ rfl (h.iS hq hbq) rfl rfl (Nat.le_of_ble_eq_true rfl) d_S_gap_72 ⟨by decide, by decide⟩ (fun ru9 gu9 hu9 => ?_)
              obtain ⟨rfl, rfl⟩ := hu9
              refine go_aload X (z := 0) d_S_gap_75 rfl ?_
              refine go_get X u_I rfl 1 (by decide) gm_fl_S_138 rfl d_S_gap_77 (h.iS hq hbq) rfl ?_
              refine go_lsub X d_S_gap_80 ?_
              refine go_aload_n X (z := 1) d_S_gap_81 rfl rfl ?_
              refine go_aload_n X (z := 2) d_S_gap_82 rfl rfl ?_
              refine go_get X u_S rfl 5 (by decide) gm_fl_S_35 rfl d_S_gap_83 h.this rfl ?_
              refine go_callL_V X (As := [.long now]) (rest := [.long (((wayB (B j2) now - iStart (I q))) - ((iLen (I q))))]) (s_placeAt h hk hbk now) gm_ml_S_111 cw_I_placeAt ⟨by decide, by decide⟩ rfl (h.iS hk hbk) rfl rfl (Nat.le_of_ble_eq_true rfl) d_S_gap_86 ⟨by decide, by decide⟩ (fun ru10 gu10 hu10 => ?_)
              obtain ⟨rfl, rfl⟩ := hu10
              refine go_lsub X d_S_gap_89 ?_
              refine go_l2i X d_S_gap_90 rfl ?_
              have hjj : j1 = j2 := bA_inj h (h.bt hk hbk) (h.bt hq hbq) (Option.some.inj c8)
              subst hjj
              exact go_retI X hr hlk d_S_gap_91 ⟨rfl, Or.inr ⟨k, hk, rfl, q, hq, rfl, Or.inr ⟨c3, Or.inr ⟨j1, hbk, hbq, hwk, hwq, rfl⟩⟩⟩⟩
            · refine go_bipush X (v := (-13)) d_S_gap_63 (by decide) ?_
              exact go_retI X hr hlk d_S_gap_65 ⟨rfl, Or.inr ⟨k, hk, rfl, q, hq, rfl, Or.inr ⟨c3, Or.inl ⟨Or.inr (Or.inr (fun z => c8 (by rw [hbk, hbq] at z; rw [Option.some.inj z]))), rfl⟩⟩⟩⟩
          · refine go_bipush X (v := (-13)) d_S_gap_48 (by decide) ?_
            exact go_retI X hr hlk d_S_gap_50 ⟨rfl, Or.inr ⟨k, hk, rfl, q, hq, rfl, Or.inr ⟨c3, Or.inl ⟨Or.inr (Or.inl c7), rfl⟩⟩⟩⟩
      · refine go_bipush X (v := (-12)) d_S_gap_30 (by decide) ?_
        exact go_retI X hr hlk d_S_gap_32 ⟨rfl, Or.inr ⟨k, hk, rfl, q, hq, rfl, Or.inl ⟨c3, rfl⟩⟩⟩
    · refine go_astoreN X (lv' := [(4, .null), (3, .ref (iA ad k)), (0, .ref (ad 0)), (1, .int ((nI (k + 1)))), (2, .int y)]) d_S_gap_11 (by decide) rfl ?_
      refine go_aload_n X (z := 1) d_S_gap_13 rfl rfl ?_
      refine go_ifnull X d_S_gap_14 ?_
      refine go_aloadN X (z := 0) d_S_gap_17 rfl ?_
      refine go_ifnonnullN X d_S_gap_19 ?_
      refine go_bipush X (v := (-11)) d_S_gap_22 (by decide) ?_
      exact go_retI X hr hlk d_S_gap_24 ⟨rfl, Or.inl ⟨Or.inr hnoq, rfl⟩⟩
  · refine go_astore_nN X (lv' := [(3, .null), (0, .ref (ad 0)), (1, .int x), (2, .int y)]) d_S_gap_5 rfl (by decide) rfl ?_
    refine go_aload_n X (z := 1) d_S_gap_6 rfl rfl ?_
    refine go_iload_n X (z := 3) d_S_gap_7 rfl rfl ?_
    refine go_callR_V X (As := [.int y]) (rest := []) (c_S_itemNumbered h y) gm_ml_S_101 cw_S_itemNumbered ⟨by decide, by decide⟩ rfl h.this rfl rfl (Nat.le_of_ble_eq_true rfl) d_S_gap_8 ⟨by decide, by decide⟩ (fun ru11 gu11 hu11 => ?_)
    obtain ⟨rfl, (⟨q, hq, rfl, rfl⟩ | ⟨rfl, hnoq⟩)⟩ := hu11
    · refine go_astore X (lv' := [(4, .ref (iA ad q)), (3, .null), (0, .ref (ad 0)), (1, .int x), (2, .int ((nI (q + 1))))]) d_S_gap_11 (by decide) rfl ?_
      refine go_aload_nN X (z := 1) d_S_gap_13 rfl rfl ?_
      refine go_ifnullN X (tgt := 22) d_S_gap_14 rfl ?_
      refine go_bipush X (v := (-11)) d_S_gap_22 (by decide) ?_
      exact go_retI X hr hlk d_S_gap_24 ⟨rfl, Or.inl ⟨Or.inl hnok, rfl⟩⟩
    · refine go_astoreN X (lv' := [(4, .null), (3, .null), (0, .ref (ad 0)), (1, .int x), (2, .int y)]) d_S_gap_11 (by decide) rfl ?_
      refine go_aload_nN X (z := 1) d_S_gap_13 rfl rfl ?_
      refine go_ifnullN X (tgt := 22) d_S_gap_14 rfl ?_
      refine go_bipush X (v := (-11)) d_S_gap_22 (by decide) ?_
      exact go_retI X hr hlk d_S_gap_24 ⟨rfl, Or.inl ⟨Or.inl hnok, rfl⟩⟩
set_option maxHeartbeats 4000000 in
set_option maxRecDepth 100000 in
theorem c_S_join {l : Launch} {D : va_G} {dA : Nat → ClassId} {g : Nat → Option va_E}  (h : SRep dA ad g nb ni now B I n tk fr) (x y : Int32) : CtI l D classes (tyL dA) y_S_join b_S_join 6 (some .int) rm_S_join [.ref (ad 0), .int x, .int y] g (fun r g' => (((∀ k, k < nb → x ≠ nI k) ∨ (∀ k, k < nb → y ≠ nI k)) ∧ r = -11 ∧ g = g') ∨ (∃ k, k < nb ∧ x = nI k ∧ ∃ q, q < nb ∧ y = nI q ∧ ((¬ nI k < nI q ∧ r = -12 ∧ g = g') ∨ (nI k < nI q ∧ r = ontoV (B k) ∧ SRep dA ad g' nb ni now (va_up B k (setOnto (B k) q)) I n tk fr ∧ SFr ad nb ni g g')))) := by
  refine CtI.of (by decide) (Nat.le_of_ble_eq_true rfl) ?_
  intro p e s m below meth c X hr hlk hnm
  refine go_aload_n X (z := 0) d_S_join_0 rfl rfl ?_
  refine go_iload_n X (z := 1) d_S_join_1 rfl rfl ?_
  refine go_callR_V X (As := [.int x]) (rest := []) (c_S_beltNumbered h x) gm_ml_S_54 cw_S_beltNumbered ⟨by decide, by decide⟩ rfl h.this rfl rfl (Nat.le_of_ble_eq_true rfl) d_S_join_2 ⟨by decide, by decide⟩ (fun ru1 gu1 hu1 => ?_)
  obtain ⟨rfl, (⟨k, hk, rfl, rfl⟩ | ⟨rfl, hnok⟩)⟩ := hu1
  · refine go_astore_n X (lv' := [(3, .ref (bA ad k)), (0, .ref (ad 0)), (1, .int ((nI k))), (2, .int y)]) d_S_join_5 rfl (by decide) rfl ?_
    refine go_aload_n X (z := 1) d_S_join_6 rfl rfl ?_
    refine go_iload_n X (z := 3) d_S_join_7 rfl rfl ?_
    refine go_callR_V X (As := [.int y]) (rest := []) (c_S_beltNumbered h y) gm_ml_S_54 cw_S_beltNumbered ⟨by decide, by decide⟩ rfl h.this rfl rfl (Nat.le_of_ble_eq_true rfl) d_S_join_8 ⟨by decide, by decide⟩ (fun ru2 gu2 hu2 => ?_)
    obtain ⟨rfl, (⟨q, hq, rfl, rfl⟩ | ⟨rfl, hnoq⟩)⟩ := hu2
    · refine go_astore X (lv' := [(4, .ref (bA ad q)), (3, .ref (bA ad k)), (0, .ref (ad 0)), (1, .int ((nI k))), (2, .int ((nI q)))]) d_S_join_11 (by decide) rfl ?_
      refine go_aload_n X (z := 1) d_S_join_13 rfl rfl ?_
      refine go_ifnull X d_S_join_14 ?_
      refine go_aload X (z := 0) d_S_join_17 rfl ?_
      refine go_ifnonnull X (tgt := 25) d_S_join_19 rfl ?_
      refine go_iload_n X (z := 4) d_S_join_25 rfl rfl ?_
      refine go_iload_n X (z := 3) d_S_join_26 rfl rfl ?_
      refine go_icmp_gt X (tgt := 33) d_S_join_27 rfl (fun c3 => ?_) (fun c3 => ?_)
      · cases ho : bOnto (B k) with
        | none =>
          refine go_aload_n X (z := 1) d_S_join_33 rfl rfl ?_
          refine go_get X u_B rfl 4 (by decide) gm_fl_S_58 rfl d_S_join_34 (h.bN hk ho) rfl ?_
          refine go_ifnonnullN X d_S_join_37 ?_
          refine go_iconst X (v := (-1)) d_S_join_40 (by decide) ?_
          refine go_goto X (tgt := 51) d_S_join_41 rfl ?_
          refine go_istore X (lv' := [(5, .int ((-1))), (4, .ref (bA ad q)), (3, .ref (bA ad k)), (0, .ref (ad 0)), (1, .int ((nI k))), (2, .int ((nI q)))]) d_S_join_51 (by decide) rfl ?_
          refine go_aload_n X (z := 2) d_S_join_53 rfl rfl ?_
          refine go_aload X (z := 1) d_S_join_54 rfl ?_
          refine go_put X u_B rfl 4 (by decide) gm_fl_S_58 rfl t_B t_B_ok n_B rfl rfl rfl d_S_join_56 (h.bN hk ho) (Nat.le_of_ble_eq_true rfl) ?_
          refine go_gen (fun gp ep => ?_)
          have hq3 : SRep dA ad gp nb ni now (va_up B k (setOnto (B k) q)) I n tk fr := h.setB hk (b := setOnto (B k) q) (fun j hj => by cases hj; exact hq) (by rw [ep, va_up_self]; rfl) (by rw [ep, va_up_ne _ _ (h.ne (Or.inr (Or.inl (by omega))) (Or.inr (Or.inl (by omega))) (by omega))]; exact h.bg hk) (by rw [ep, va_up_ne _ _ (h.ne (Or.inr (Or.inl (by omega))) (Or.inr (Or.inl (by omega))) (by omega))]; exact h.bp hk) (by rw [ep, va_up_ne _ _ (h.ne (Or.inr (Or.inl (by omega))) (Or.inr (Or.inl (by omega))) (by omega))]; exact h.bw hk) (fun z n0 _ _ _ => by rw [ep, va_up_ne _ _ n0])
          refine go_iload X (z := 0) d_S_join_59 rfl ?_
          exact go_retI X hr hlk d_S_join_61 (Or.inr ⟨k, hk, rfl, q, hq, rfl, Or.inr ⟨c3, by unfold ontoV; rw [ho], hq3, by rw [ep]; exact SFr.up (Or.inr (Or.inl (by omega)))⟩⟩)
        | some q2 =>
          have hq2 := h.onto hk ho
          refine go_aload_n X (z := 1) d_S_join_33 rfl rfl ?_
          refine go_get X u_B rfl 4 (by decide) gm_fl_S_58 rfl d_S_join_34 (h.bS hk ho) rfl ?_
          refine go_ifnonnull X (tgt := 44) d_S_join_37 rfl ?_
          refine go_aload_n X (z := 1) d_S_join_44 rfl rfl ?_
          refine go_get X u_B rfl 4 (by decide) gm_fl_S_58 rfl d_S_join_45 (h.bS hk ho) rfl ?_
          refine go_get X u_B rfl 0 (by decide) gm_fl_S_51 rfl d_S_join_48 (h.b hq2) rfl ?_
          refine go_topi (fun x104 ex104 => ?_)
          refine go_istore X (lv' := [(5, .int x104), (4, .ref (bA ad q)), (3, .ref (bA ad k)), (0, .ref (ad 0)), (1, .int ((nI k))), (2, .int ((nI q)))]) d_S_join_51 (by decide) rfl ?_
          refine go_aload_n X (z := 2) d_S_join_53 rfl rfl ?_
          refine go_aload X (z := 1) d_S_join_54 rfl ?_
          refine go_put X u_B rfl 4 (by decide) gm_fl_S_58 rfl t_B t_B_ok n_B rfl rfl rfl d_S_join_56 (h.bS hk ho) (Nat.le_of_ble_eq_true rfl) ?_
          refine go_gen (fun gp ep => ?_)
          have hq3 : SRep dA ad gp nb ni now (va_up B k (setOnto (B k) q)) I n tk fr := h.setB hk (b := setOnto (B k) q) (fun j hj => by cases hj; exact hq) (by rw [ep, va_up_self]; rfl) (by rw [ep, va_up_ne _ _ (h.ne (Or.inr (Or.inl (by omega))) (Or.inr (Or.inl (by omega))) (by omega))]; exact h.bg hk) (by rw [ep, va_up_ne _ _ (h.ne (Or.inr (Or.inl (by omega))) (Or.inr (Or.inl (by omega))) (by omega))]; exact h.bp hk) (by rw [ep, va_up_ne _ _ (h.ne (Or.inr (Or.inl (by omega))) (Or.inr (Or.inl (by omega))) (by omega))]; exact h.bw hk) (fun z n0 _ _ _ => by rw [ep, va_up_ne _ _ n0])
          refine go_iload X (z := 0) d_S_join_59 rfl ?_
          exact go_retI X hr hlk d_S_join_61 (Or.inr ⟨k, hk, rfl, q, hq, rfl, Or.inr ⟨c3, by rw [ex104]; unfold ontoV; rw [ho], hq3, by rw [ep]; exact SFr.up (Or.inr (Or.inl (by omega)))⟩⟩)
      · refine go_bipush X (v := (-12)) d_S_join_30 (by decide) ?_
        exact go_retI X hr hlk d_S_join_32 (Or.inr ⟨k, hk, rfl, q, hq, rfl, Or.inl ⟨c3, rfl, rfl⟩⟩)
    · refine go_astoreN X (lv' := [(4, .null), (3, .ref (bA ad k)), (0, .ref (ad 0)), (1, .int ((nI k))), (2, .int y)]) d_S_join_11 (by decide) rfl ?_
      refine go_aload_n X (z := 1) d_S_join_13 rfl rfl ?_
      refine go_ifnull X d_S_join_14 ?_
      refine go_aloadN X (z := 0) d_S_join_17 rfl ?_
      refine go_ifnonnullN X d_S_join_19 ?_
      refine go_bipush X (v := (-11)) d_S_join_22 (by decide) ?_
      exact go_retI X hr hlk d_S_join_24 (Or.inl ⟨Or.inr hnoq, rfl, rfl⟩)
  · refine go_astore_nN X (lv' := [(3, .null), (0, .ref (ad 0)), (1, .int x), (2, .int y)]) d_S_join_5 rfl (by decide) rfl ?_
    refine go_aload_n X (z := 1) d_S_join_6 rfl rfl ?_
    refine go_iload_n X (z := 3) d_S_join_7 rfl rfl ?_
    refine go_callR_V X (As := [.int y]) (rest := []) (c_S_beltNumbered h y) gm_ml_S_54 cw_S_beltNumbered ⟨by decide, by decide⟩ rfl h.this rfl rfl (Nat.le_of_ble_eq_true rfl) d_S_join_8 ⟨by decide, by decide⟩ (fun ru4 gu4 hu4 => ?_)
    obtain ⟨rfl, (⟨q, hq, rfl, rfl⟩ | ⟨rfl, hnoq⟩)⟩ := hu4
    · refine go_astore X (lv' := [(4, .ref (bA ad q)), (3, .null), (0, .ref (ad 0)), (1, .int x), (2, .int ((nI q)))]) d_S_join_11 (by decide) rfl ?_
      refine go_aload_nN X (z := 1) d_S_join_13 rfl rfl ?_
      refine go_ifnullN X (tgt := 22) d_S_join_14 rfl ?_
      refine go_bipush X (v := (-11)) d_S_join_22 (by decide) ?_
      exact go_retI X hr hlk d_S_join_24 (Or.inl ⟨Or.inl hnok, rfl, rfl⟩)
    · refine go_astoreN X (lv' := [(4, .null), (3, .null), (0, .ref (ad 0)), (1, .int x), (2, .int y)]) d_S_join_11 (by decide) rfl ?_
      refine go_aload_nN X (z := 1) d_S_join_13 rfl rfl ?_
      refine go_ifnullN X (tgt := 22) d_S_join_14 rfl ?_
      refine go_bipush X (v := (-11)) d_S_join_22 (by decide) ?_
      exact go_retI X hr hlk d_S_join_24 (Or.inl ⟨Or.inl hnok, rfl, rfl⟩)
set_option maxHeartbeats 4000000 in
set_option maxRecDepth 100000 in
theorem c_S_slip {l : Launch} {D : va_G} {dA : Nat → ClassId} {g : Nat → Option va_E}  (h : SRep dA ad g nb ni now B I n tk fr) (x : Int32) (by0 : Int64) : CtI l D classes (tyL dA) y_S_slip b_S_slip 7 (some .int) rm_S_slip [.ref (ad 0), .int x, .long by0] g (fun r g' => ((∀ k, k < ni → x ≠ nI (k + 1)) ∧ r = -11 ∧ g = g') ∨ (∃ k, k < ni ∧ x = nI (k + 1) ∧ (((by0 < 0 ∨ 1000000000 < by0) ∧ r = -12 ∧ g = g') ∨ (¬ by0 < 0 ∧ ¬ 1000000000 < by0 ∧ ((onF (I k) = 0 ∧ r = -13 ∧ g = g') ∨ (∃ j, iBt (I k) = some j ∧ iWt (I k) = 0 ∧ r = (if wayB (B j) now - iStart (I k) < by0 then wayB (B j) now - iStart (I k) else by0).toInt32 ∧ SRep dA ad g' nb ni now B (va_up I k (aimI B (slipI (I k) (if wayB (B j) now - iStart (I k) < by0 then wayB (B j) now - iStart (I k) else by0)))) n tk fr ∧ SFr ad nb ni g g')))))) := by
  refine CtI.of (by decide) (Nat.le_of_ble_eq_true rfl) ?_
  intro p e s m below meth c X hr hlk hnm
  refine go_aload_n X (z := 0) d_S_slip_0 rfl rfl ?_
  refine go_iload_n X (z := 1) d_S_slip_1 rfl rfl ?_
  refine go_callR_V X (As := [.int x]) (rest := []) (c_S_itemNumbered h x) gm_ml_S_101 cw_S_itemNumbered ⟨by decide, by decide⟩ rfl h.this rfl rfl (Nat.le_of_ble_eq_true rfl) d_S_slip_2 ⟨by decide, by decide⟩ (fun ru1 gu1 hu1 => ?_)
  obtain ⟨rfl, (⟨k, hk, rfl, rfl⟩ | ⟨rfl, hnok⟩)⟩ := hu1
  · refine go_astore X (lv' := [(4, .ref (iA ad k)), (0, .ref (ad 0)), (1, .int ((nI (k + 1)))), (2, .long by0)]) d_S_slip_5 (by decide) rfl ?_
    refine go_aload X (z := 0) d_S_slip_7 rfl ?_
    refine go_ifnonnull X (tgt := 15) d_S_slip_9 rfl ?_
    refine go_lload_n X (z := 3) d_S_slip_15 rfl rfl ?_
    refine go_lconst X (v := 0) d_S_slip_16 (by decide) ?_
    refine go_lif_lt X (tgt := 29) d_S_slip_17 d_S_slip_18 rfl (fun c2 => ?_) (fun c2 => ?_)
    · refine go_bipush X (v := (-12)) d_S_slip_29 (by decide) ?_
      exact go_retI X hr hlk d_S_slip_31 (Or.inr ⟨k, hk, rfl, Or.inl ⟨Or.inl c2, rfl, rfl⟩⟩)
    · refine go_lload_n X (z := 3) d_S_slip_21 rfl rfl ?_
      refine go_ldc2 X d_S_slip_22 gm_k_S_105 ?_
      refine go_lif_le X (tgt := 32) d_S_slip_25 d_S_slip_26 rfl (fun c3 => ?_) (fun c3 => ?_)
      · refine go_aload X (z := 0) d_S_slip_32 rfl ?_
        refine go_callI_V X (As := []) (rest := []) (s_isOnABelt h hk) gm_ml_S_107 cw_I_isOnABelt ⟨by decide, by decide⟩ rfl (h.i hk) rfl rfl (Nat.le_of_ble_eq_true rfl) d_S_slip_34 ⟨by decide, by decide⟩ (fun ru4 gu4 hu4 => ?_)
        obtain ⟨rfl, rfl⟩ := hu4
        refine go_if_ne X (tgt := 43) d_S_slip_37 rfl (fun c5 => ?_) (fun c5 => ?_)
        · obtain ⟨j, hbk, hwk⟩ := on_1 c5
          have hj := h.bt hk hbk
          refine go_lload_n X (z := 3) d_S_slip_43 rfl rfl ?_
          refine go_aload X (z := 0) d_S_slip_44 rfl ?_
          refine go_aload_n X (z := 1) d_S_slip_46 rfl rfl ?_
          refine go_get X u_S rfl 5 (by decide) gm_fl_S_35 rfl d_S_slip_47 h.this rfl ?_
          refine go_callL_V X (As := [.long now]) (rest := [.long by0]) (s_placeAt h hk hbk now) gm_ml_S_111 cw_I_placeAt ⟨by decide, by decide⟩ rfl (h.iS hk hbk) rfl rfl (Nat.le_of_ble_eq_true rfl) d_S_slip_50 ⟨by decide, by decide⟩ (fun ru6 gu6 hu6 => ?_)
          obtain ⟨rfl, rfl⟩ := hu6
          refine go_mmin_long X gm_ml_S_115 gm_st_minl gm_ini_J gm_code_minl d_S_slip_53 (by decide) (Nat.le_of_ble_eq_true rfl) (by decide) (by decide) ?_
          refine go_topl (fun x7 ex7 => ?_)
          refine go_lstore X (lv' := [(5, .long x7), (4, .ref (iA ad k)), (0, .ref (ad 0)), (1, .int ((nI (k + 1)))), (2, .long by0)]) d_S_slip_56 (by decide) rfl ?_
          refine go_aload X (z := 1) d_S_slip_58 rfl ?_
          refine go_dup X d_S_slip_60 rfl ?_
          refine go_get X u_I rfl 5 (by decide) gm_fl_S_121 rfl d_S_slip_61 (h.iS hk hbk) rfl ?_
          refine go_lload X (z := 0) d_S_slip_64 rfl ?_
          refine go_ladd X d_S_slip_66 ?_
          refine go_topl (fun x8 ex8 => ?_)
          refine go_put X u_I rfl 5 (by decide) gm_fl_S_121 rfl t_I t_I_ok n_I rfl rfl rfl d_S_slip_67 (h.iS hk hbk) (Nat.le_of_ble_eq_true rfl) ?_
          refine go_gen (fun gp ep => ?_)
          have h1 : SRep dA ad gp nb ni now B (va_up I k (slipI (I k) x7)) n tk fr := (h.selfI k).setX hk hj (y := slipI (I k) x7) hbk (by rw [ep, ex8, iC_s (x := slipI (I k) x7) hbk]; rfl)
          refine go_aload X (z := 1) d_S_slip_70 rfl ?_
          refine go_callV_V X (As := []) (rest := []) (s_aim h1 hk) gm_ml_S_124 cw_I_aim ⟨by decide, by decide⟩ rfl (h1.iX hk (x := slipI (I k) x7) hbk) rfl rfl (Nat.le_of_ble_eq_true rfl) d_S_slip_72 ⟨by decide, by decide⟩ (fun gz hz => ?_)
          rw [va_up_self] at hz
          refine go_lload X (z := 0) d_S_slip_75 rfl ?_
          refine go_l2i X d_S_slip_77 rfl ?_
          have hw := h1.setX hk hj (y := aimI B (slipI (I k) x7)) (by rw [aimI_bt]; exact hbk) hz
          rw [ex7] at hw
          exact go_retI X hr hlk d_S_slip_78 (Or.inr ⟨k, hk, rfl, Or.inr ⟨c2, Int64.not_lt.mpr c3, Or.inr ⟨j, hbk, hwk, by rw [ex7], hw, (show SFr ad nb ni g gp by rw [ep]; exact SFr.up (okI hk)).trans (hz ▸ SFr.up (okI hk))⟩⟩⟩)
        · refine go_bipush X (v := (-13)) d_S_slip_40 (by decide) ?_
          exact go_retI X hr hlk d_S_slip_42 (Or.inr ⟨k, hk, rfl, Or.inr ⟨c2, Int64.not_lt.mpr c3, Or.inl ⟨c5, rfl, rfl⟩⟩⟩)
      · refine go_bipush X (v := (-12)) d_S_slip_29 (by decide) ?_
        exact go_retI X hr hlk d_S_slip_31 (Or.inr ⟨k, hk, rfl, Or.inl ⟨Or.inr (Int64.not_le.mp c3), rfl, rfl⟩⟩)
  · refine go_astoreN X (lv' := [(4, .null), (0, .ref (ad 0)), (1, .int x), (2, .long by0)]) d_S_slip_5 (by decide) rfl ?_
    refine go_aloadN X (z := 0) d_S_slip_7 rfl ?_
    refine go_ifnonnullN X d_S_slip_9 ?_
    refine go_bipush X (v := (-11)) d_S_slip_12 (by decide) ?_
    exact go_retI X hr hlk d_S_slip_14 (Or.inl ⟨hnok, rfl, rfl⟩)
end S4
end
section
/-! BeltSteps: stop, belt, feed, the constructor. -/
section S5
variable {dA : Nat → ClassId} {ad : Nat → Nat} {g : Nat → Option va_E} {nb ni : Nat} {now : Int64} {B : Nat → BT} {I : Nat → IT} {n : Nat} {tk : Int32} {fr : Nat → Int32}
theorem told_rep (h : SRep dA ad g nb ni now B I n tk fr) {k : Nat} (hk : k < nb) {on : Int32} {t : Int64} {g' : Nat → Option va_E} (hT : ∃ g1 : Nat → Option va_E, g1 = va_up g (bA ad k) (some (beltE (nI k) (bLen (B k)) (bSpd (B k)) (bSen (B k)) ((bOnto (B k)).map (bA ad)) on (bTel (B k) + 1) t (if t ≤ bTold (B k) then bGb (B k) else bFg (B k) (stageF (bTold (B k)) (t - 1)).toNatClampNeg) (wayF (bTold (B k)) (bFp (B k)) (bFw (B k)) t) (bG ad k) (bP ad k) (bW ad k))) ∧ Laid dA (bG ad k) (bP ad k) (bW ad k) (bSpd (B k)) on (if t ≤ bTold (B k) then bGb (B k) else bFg (B k) (stageF (bTold (B k)) (t - 1)).toNatClampNeg) (wayF (bTold (B k)) (bFp (B k)) (bFw (B k)) t) 8 g1 g') : ∃ b', IsTold (B k) b' on t ∧ SRep dA ad g' nb ni now (va_up B k b') I n tk fr ∧ SFr ad nb ni g g' := by
  obtain ⟨g1, e1, fg, fp, fw, l1, l2, l3, hI, hO⟩ := hT
  have hb := h.nb12
  have na : bA ad k ≠ bG ad k := h.ne (Or.inr (Or.inl (by omega))) (Or.inr (Or.inl (by omega))) (by omega)
  have np : bA ad k ≠ bP ad k := h.ne (Or.inr (Or.inl (by omega))) (Or.inr (Or.inl (by omega))) (by omega)
  have nw : bA ad k ≠ bW ad k := h.ne (Or.inr (Or.inl (by omega))) (Or.inr (Or.inl (by omega))) (by omega)
  refine ⟨(bLen (B k), bSpd (B k), bSen (B k), bOnto (B k), on, bTel (B k) + 1, t, gbT (B k) t, wayB (B k) t, fg, fp, fw), ⟨hI, rfl, rfl, rfl, rfl, rfl, rfl, rfl, rfl, rfl⟩, ?_, ?_⟩
  · refine h.setB hk (fun j hj => h.onto hk hj) ?_ l1 l2 l3 (fun q n0 n1 n2 n3 => ?_)
    · rw [hO _ na np nw, e1, va_up_self]; rfl
    · rw [hO q n1 n2 n3, e1, va_up_ne _ _ n0]
  · intro a e ha hg
    rw [hO a (ha _ (Or.inr (Or.inl (by omega)))) (ha _ (Or.inr (Or.inl (by omega)))) (ha _ (Or.inr (Or.inl (by omega)))), e1, va_up_ne _ _ (ha _ (Or.inr (Or.inl (by omega))))]
    exact hg
/-- what is new of a bigger state's own cells was free before -/
def SNew (ad ad' : Nat → Nat) (nb ni nb' ni' : Nat) (g : Nat → Option va_E) : Prop := ∀ r, okR nb' ni' r → (okR nb ni r ∧ ad' r = ad r) ∨ g (ad' r) = none
def adB (ad : Nat → Nat) (nb q ag ap aw : Nat) : Nat → Nat := fun r => if r = 5 + 4 * nb then q else if r = 6 + 4 * nb then ag else if r = 7 + 4 * nb then ap else if r = 8 + 4 * nb then aw else ad r
theorem adB_old {ad : Nat → Nat} {nb q ag ap aw r : Nat} (h : r < 5 + 4 * nb ∨ 9 + 4 * nb ≤ r) : adB ad nb q ag ap aw r = ad r := by
  unfold adB
  rw [if_neg (by omega), if_neg (by omega), if_neg (by omega), if_neg (by omega)]
theorem newBelt_rep (h : SRep dA ad g nb ni now B I n tk fr) (hnb : nb < 12) {q ag ap aw : Nat} (f0 : g q = none) (f1 : g ag = none) (f2 : g ap = none) (f3 : g aw = none) (d1 : q ≠ ag) (d2 : q ≠ ap) (d3 : q ≠ aw) (d4 : ag ≠ ap) (d5 : ag ≠ aw) (d6 : ap ≠ aw) {b : BT} (hon : bOnto b = none) {g' : Nat → Option va_E}
    (c0 : g' q = some (beltE (nI nb) (bLen b) (bSpd b) (bSen b) none (bRun b) (bTel b) (bTold b) (bGb b) (bWat b) ag ap aw)) (c1 : g' ag = some (intE dA 8 (bFg b))) (c2 : g' ap = some (lonE dA 8 (bFp b))) (c3 : g' aw = some (lonE dA 8 (bFw b))) (c4 : g' (ad 0) = some (sCell ad (nb + 1) ni now)) (c5 : g' (ad 1) = some (refE dA 3 12 (va_up (bTab ad nb) nb (some q)))) (ho : ∀ z, z ≠ q → z ≠ ag → z ≠ ap → z ≠ aw → z ≠ ad 0 → z ≠ ad 1 → g' z = g z) :
    SRep dA (adB ad nb q ag ap aw) g' (nb + 1) ni now (va_up B nb b) I n tk fr ∧ SNew ad (adB ad nb q ag ap aw) nb ni (nb + 1) ni g ∧ SFr ad nb ni g g' := by
  have e0 : adB ad nb q ag ap aw (5 + 4 * nb) = q := by unfold adB; rw [if_pos rfl]
  have e1 : adB ad nb q ag ap aw (6 + 4 * nb) = ag := by unfold adB; rw [if_neg (by omega), if_pos rfl]
  have e2 : adB ad nb q ag ap aw (7 + 4 * nb) = ap := by unfold adB; rw [if_neg (by omega), if_neg (by omega), if_pos rfl]
  have e3 : adB ad nb q ag ap aw (8 + 4 * nb) = aw := by unfold adB; rw [if_neg (by omega), if_neg (by omega), if_neg (by omega), if_pos rfl]
  have old : ∀ r, okR nb ni r → adB ad nb q ag ap aw r = ad r := fun r hr => adB_old (by rcases hr with h | h | h <;> omega)
  have own : ∀ r, okR nb ni r → ∃ e, g (ad r) = some e := by
    intro r hr
    rcases hr with h1 | h1 | h1
    · have : r = 0 ∨ r = 1 ∨ r = 2 ∨ r = 3 ∨ r = 4 := by omega
      rcases this with rfl | rfl | rfl | rfl | rfl
      · exact ⟨_, h.this⟩
      · exact ⟨_, h.bs⟩
      · exact ⟨_, h.is⟩
      · exact ⟨_, h.es⟩
      · exact ⟨_, h.rs⟩
    · obtain ⟨i, hi⟩ : ∃ i, i = (r - 5) / 4 := ⟨_, rfl⟩
      have hin : i < nb := by omega
      have : r = 5 + 4 * i ∨ r = 6 + 4 * i ∨ r = 7 + 4 * i ∨ r = 8 + 4 * i := by omega
      rcases this with rfl | rfl | rfl | rfl
      · exact ⟨_, h.b hin⟩
      · exact ⟨_, h.bg hin⟩
      · exact ⟨_, h.bp hin⟩
      · exact ⟨_, h.bw hin⟩
    · obtain ⟨i, rfl⟩ : ∃ i, r = 60 + i := ⟨r - 60, by omega⟩
      exact ⟨_, h.i (by omega)⟩
  have nq : ∀ r, okR nb ni r → ad r ≠ q := fun r hr => by obtain ⟨e, he⟩ := own r hr; exact ne_fresh he f0
  have ng : ∀ r, okR nb ni r → ad r ≠ ag := fun r hr => by obtain ⟨e, he⟩ := own r hr; exact ne_fresh he f1
  have np : ∀ r, okR nb ni r → ad r ≠ ap := fun r hr => by obtain ⟨e, he⟩ := own r hr; exact ne_fresh he f2
  have nw : ∀ r, okR nb ni r → ad r ≠ aw := fun r hr => by obtain ⟨e, he⟩ := own r hr; exact ne_fresh he f3
  have split : ∀ r, okR (nb + 1) ni r → okR nb ni r ∨ r = 5 + 4 * nb ∨ r = 6 + 4 * nb ∨ r = 7 + 4 * nb ∨ r = 8 + 4 * nb := by
    intro r hr
    rcases hr with h1 | h1 | h1
    · exact Or.inl (Or.inl h1)
    · by_cases h2 : r < 5 + 4 * nb
      · exact Or.inl (Or.inr (Or.inl ⟨h1.1, h2⟩))
      · exact Or.inr (by omega)
    · exact Or.inl (Or.inr (Or.inr h1))
  have keep : ∀ r, okR nb ni r → r ≠ 0 → r ≠ 1 → g' (ad r) = g (ad r) := fun r hr n0 n1 => ho _ (nq r hr) (ng r hr) (np r hr) (nw r hr) (h.ne hr (ok0 (by omega)) n0) (h.ne hr (ok0 (by omega)) n1)
  refine ⟨⟨?_, ?_, ?_, ?_, ?_, ?_, ?_, ?_, by omega, h.ni60, ?_, ?_⟩, ?_, ?_⟩
  · intro r r' hr hr' e
    rcases split r hr with h1 | rfl | rfl | rfl | rfl <;> rcases split r' hr' with h2 | rfl | rfl | rfl | rfl <;>
      (try rw [old r h1] at e) <;> (try rw [old r' h2] at e) <;> (try simp only [e0, e1, e2, e3] at e) <;> first
      | rfl
      | exact h.1 r r' h1 h2 e
      | exact absurd e (nq _ h1) | exact absurd e (ng _ h1) | exact absurd e (np _ h1) | exact absurd e (nw _ h1)
      | exact absurd e.symm (nq _ h2) | exact absurd e.symm (ng _ h2) | exact absurd e.symm (np _ h2) | exact absurd e.symm (nw _ h2)
      | exact absurd e d1 | exact absurd e d2 | exact absurd e d3 | exact absurd e d4 | exact absurd e d5 | exact absurd e d6
      | exact absurd e.symm d1 | exact absurd e.symm d2 | exact absurd e.symm d3 | exact absurd e.symm d4 | exact absurd e.symm d5 | exact absurd e.symm d6
  · rw [old 0 (ok0 (by omega)), c4]
    show some (sCell ad (nb + 1) ni now) = some (.inr (3, [.ref (adB ad nb q ag ap aw 1), _, .ref (adB ad nb q ag ap aw 2), _, .ref (adB ad nb q ag ap aw 3), _]))
    rw [old 1 (ok0 (by omega)), old 2 (ok0 (by omega)), old 3 (ok0 (by omega))]
  · rw [old 1 (ok0 (by omega)), c5]
    congr 7
    funext i
    unfold bTab
    by_cases hi : i = nb
    · subst hi
      rw [va_up_self, if_pos (by omega)]
      show some q = some (adB ad i q ag ap aw (5 + 4 * i))
      rw [e0]
    · rw [va_up_ne _ _ hi]
      by_cases h2 : i < nb
      · rw [if_pos h2, if_pos (by omega)]
        show some (ad (5 + 4 * i)) = some (adB ad nb q ag ap aw (5 + 4 * i))
        rw [adB_old (Or.inl (by omega))]
      · rw [if_neg h2, if_neg (by omega)]
  · rw [old 2 (ok0 (by omega)), keep 2 (ok0 (by omega)) (by omega) (by omega), h.is]
    refine congrArg (fun f => some (refE dA 4 60 f)) (funext fun i => ?_)
    unfold iTab
    by_cases h2 : i < ni
    · rw [if_pos h2, if_pos h2]
      show some (ad (60 + i)) = some (adB ad nb q ag ap aw (60 + i))
      rw [adB_old (Or.inr (by omega))]
    · rw [if_neg h2, if_neg h2]
  · rw [old 3 (ok0 (by omega)), keep 3 (ok0 (by omega)) (by omega) (by omega), h.es, old 4 (ok0 (by omega))]
  · rw [old 4 (ok0 (by omega)), keep 4 (ok0 (by omega)) (by omega) (by omega), h.rs]
  · intro i hi
    by_cases hin : i = nb
    · subst hin
      rw [va_up_self]
      show g' (adB ad i q ag ap aw (5 + 4 * i)) = some (beltE _ _ _ _ ((bOnto b).map _) _ _ _ _ _ (adB ad i q ag ap aw (6 + 4 * i)) (adB ad i q ag ap aw (7 + 4 * i)) (adB ad i q ag ap aw (8 + 4 * i))) ∧ g' (adB ad i q ag ap aw (6 + 4 * i)) = _ ∧ g' (adB ad i q ag ap aw (7 + 4 * i)) = _ ∧ g' (adB ad i q ag ap aw (8 + 4 * i)) = _
      rw [e0, e1, e2, e3, hon]
      exact ⟨c0, c1, c2, c3⟩
    · have h2 : i < nb := by omega
      rw [va_up_ne _ _ hin]
      show g' (adB ad nb q ag ap aw (5 + 4 * i)) = some (beltE _ _ _ _ ((bOnto (B i)).map _) _ _ _ _ _ (adB ad nb q ag ap aw (6 + 4 * i)) (adB ad nb q ag ap aw (7 + 4 * i)) (adB ad nb q ag ap aw (8 + 4 * i))) ∧ g' (adB ad nb q ag ap aw (6 + 4 * i)) = _ ∧ g' (adB ad nb q ag ap aw (7 + 4 * i)) = _ ∧ g' (adB ad nb q ag ap aw (8 + 4 * i)) = _
      rw [adB_old (r := 5 + 4 * i) (Or.inl (by omega)), adB_old (r := 6 + 4 * i) (Or.inl (by omega)), adB_old (r := 7 + 4 * i) (Or.inl (by omega)), adB_old (r := 8 + 4 * i) (Or.inl (by omega)), keep _ (Or.inr (Or.inl (by omega))) (by omega) (by omega), keep _ (Or.inr (Or.inl (by omega))) (by omega) (by omega), keep _ (Or.inr (Or.inl (by omega))) (by omega) (by omega), keep _ (Or.inr (Or.inl (by omega))) (by omega) (by omega)]
      have hm : (bOnto (B i)).map (bA (adB ad nb q ag ap aw)) = (bOnto (B i)).map (bA ad) := by
        cases ho2 : bOnto (B i) with
        | none => rfl
        | some j =>
          have := h.onto h2 ho2
          show some (adB ad nb q ag ap aw (5 + 4 * j)) = some (ad (5 + 4 * j))
          rw [adB_old (Or.inl (by omega))]
      rw [hm]
      exact ⟨h.b h2, h.bg h2, h.bp h2, h.bw h2⟩
  · intro i hi
    show g' (adB ad nb q ag ap aw (60 + i)) = some (itemE _ _ ((iBt (I i)).map _) _ _ _ _ _)
    rw [adB_old (Or.inr (by omega)), keep _ (okI hi) (by omega) (by omega), h.i hi]
    have hm : (iBt (I i)).map (bA (adB ad nb q ag ap aw)) = (iBt (I i)).map (bA ad) := by
      cases ho2 : iBt (I i) with
      | none => rfl
      | some j =>
        have := h.bt hi ho2
        show some (adB ad nb q ag ap aw (5 + 4 * j)) = some (ad (5 + 4 * j))
        rw [adB_old (Or.inl (by omega))]
    rw [hm]
  · intro i hi j hj
    by_cases hin : i = nb
    · subst hin
      rw [va_up_self, hon] at hj
      cases hj
    · rw [va_up_ne _ _ hin] at hj
      have := h.onto (by omega) hj
      omega
  · intro i hi j hj
    have := h.bt hi hj
    omega
  · intro r hr
    rcases split r hr with h1 | rfl | rfl | rfl | rfl
    · exact Or.inl ⟨h1, old r h1⟩
    · rw [e0]; exact Or.inr f0
    · rw [e1]; exact Or.inr f1
    · rw [e2]; exact Or.inr f2
    · rw [e3]; exact Or.inr f3
  · intro a e ha hg
    rw [ho a (ne_fresh hg f0) (ne_fresh hg f1) (ne_fresh hg f2) (ne_fresh hg f3) (ha 0 (ok0 (by omega))) (ha 1 (ok0 (by omega)))]
    exact hg
theorem newItem_rep (h : SRep dA ad g nb ni now B I n tk fr) (hni : ni < 60) {q : Nat} (f0 : g q = none) {x : IT} (hx : ∀ j, iBt x = some j → j < nb) {g' : Nat → Option va_E}
    (c0 : g' q = some (iCell ad ni x)) (c4 : g' (ad 0) = some (sCell ad nb (ni + 1) now)) (c5 : g' (ad 2) = some (refE dA 4 60 (va_up (iTab ad ni) ni (some q)))) (ho : ∀ z, z ≠ q → z ≠ ad 0 → z ≠ ad 2 → g' z = g z) :
    SRep dA (va_up ad (60 + ni) q) g' nb (ni + 1) now B (va_up I ni x) n tk fr ∧ SNew ad (va_up ad (60 + ni) q) nb ni nb (ni + 1) g ∧ SFr ad nb ni g g' := by
  have hb := h.nb12
  have old : ∀ r, r ≠ 60 + ni → va_up ad (60 + ni) q r = ad r := fun r hr => va_up_ne _ _ hr
  have oldR : ∀ r, okR nb ni r → va_up ad (60 + ni) q r = ad r := fun r hr => old r (by rcases hr with h | h | h <;> omega)
  have own : ∀ r, okR nb ni r → ∃ e, g (ad r) = some e := by
    intro r hr
    rcases hr with h1 | h1 | h1
    · have : r = 0 ∨ r = 1 ∨ r = 2 ∨ r = 3 ∨ r = 4 := by omega
      rcases this with rfl | rfl | rfl | rfl | rfl
      · exact ⟨_, h.this⟩
      · exact ⟨_, h.bs⟩
      · exact ⟨_, h.is⟩
      · exact ⟨_, h.es⟩
      · exact ⟨_, h.rs⟩
    · obtain ⟨i, hi⟩ : ∃ i, i = (r - 5) / 4 := ⟨_, rfl⟩
      have hin : i < nb := by omega
      have : r = 5 + 4 * i ∨ r = 6 + 4 * i ∨ r = 7 + 4 * i ∨ r = 8 + 4 * i := by omega
      rcases this with rfl | rfl | rfl | rfl
      · exact ⟨_, h.b hin⟩
      · exact ⟨_, h.bg hin⟩
      · exact ⟨_, h.bp hin⟩
      · exact ⟨_, h.bw hin⟩
    · obtain ⟨i, rfl⟩ : ∃ i, r = 60 + i := ⟨r - 60, by omega⟩
      exact ⟨_, h.i (by omega)⟩
  have nq : ∀ r, okR nb ni r → ad r ≠ q := fun r hr => by obtain ⟨e, he⟩ := own r hr; exact ne_fresh he f0
  have split : ∀ r, okR nb (ni + 1) r → okR nb ni r ∨ r = 60 + ni := by
    intro r hr
    rcases hr with h1 | h1 | h1
    · exact Or.inl (Or.inl h1)
    · exact Or.inl (Or.inr (Or.inl h1))
    · by_cases h2 : r < 60 + ni
      · exact Or.inl (Or.inr (Or.inr ⟨h1.1, h2⟩))
      · exact Or.inr (by omega)
  have keep : ∀ r, okR nb ni r → r ≠ 0 → r ≠ 2 → g' (ad r) = g (ad r) := fun r hr n0 n1 => ho _ (nq r hr) (h.ne hr (ok0 (by omega)) n0) (h.ne hr (ok0 (by omega)) n1)
  have mp : ∀ y : IT, (∀ j, iBt y = some j → j < nb) → (iBt y).map (bA (va_up ad (60 + ni) q)) = (iBt y).map (bA ad) := by
    intro y hy
    cases ho2 : iBt y with
    | none => rfl
    | some j =>
      have := hy j ho2
      show some (va_up ad (60 + ni) q (5 + 4 * j)) = some (ad (5 + 4 * j))
      rw [old _ (by omega)]
  refine ⟨⟨?_, ?_, ?_, ?_, ?_, ?_, ?_, ?_, hb, by omega, fun i hi j => h.onto hi, ?_⟩, ?_, ?_⟩
  · intro r r' hr hr' e
    rcases split r hr with h1 | rfl <;> rcases split r' hr' with h2 | rfl
    · rw [oldR r h1, oldR r' h2] at e; exact h.1 r r' h1 h2 e
    · rw [oldR r h1, va_up_self] at e; exact absurd e (nq r h1)
    · rw [oldR r' h2, va_up_self] at e; exact absurd e.symm (nq r' h2)
    · rfl
  · rw [old 0 (by omega), c4]
    show some (sCell ad nb (ni + 1) now) = some (.inr (3, [.ref (va_up ad (60 + ni) q 1), _, .ref (va_up ad (60 + ni) q 2), _, .ref (va_up ad (60 + ni) q 3), _]))
    rw [old 1 (by omega), old 2 (by omega), old 3 (by omega)]
  · rw [old 1 (by omega), keep 1 (ok0 (by omega)) (by omega) (by omega), h.bs]
    refine congrArg (fun f => some (refE dA 3 12 f)) (funext fun i => ?_)
    unfold bTab
    by_cases h2 : i < nb
    · rw [if_pos h2, if_pos h2]
      show some (ad (5 + 4 * i)) = some (va_up ad (60 + ni) q (5 + 4 * i))
      rw [old _ (by omega)]
    · rw [if_neg h2, if_neg h2]
  · rw [old 2 (by omega), c5]
    congr 7
    funext i
    unfold iTab
    by_cases hi : i = ni
    · subst hi
      rw [va_up_self, if_pos (by omega)]
      show some q = some (va_up ad (60 + i) q (60 + i))
      rw [va_up_self]
    · rw [va_up_ne _ _ hi]
      by_cases h2 : i < ni
      · rw [if_pos h2, if_pos (by omega)]
        show some (ad (60 + i)) = some (va_up ad (60 + ni) q (60 + i))
        rw [old _ (by omega)]
      · rw [if_neg h2, if_neg (by omega)]
  · rw [old 3 (by omega), keep 3 (ok0 (by omega)) (by omega) (by omega), h.es, old 4 (by omega)]
  · rw [old 4 (by omega), keep 4 (ok0 (by omega)) (by omega) (by omega), h.rs]
  · intro i hi
    show g' (va_up ad (60 + ni) q (5 + 4 * i)) = some (beltE _ _ _ _ ((bOnto (B i)).map _) _ _ _ _ _ (va_up ad (60 + ni) q (6 + 4 * i)) (va_up ad (60 + ni) q (7 + 4 * i)) (va_up ad (60 + ni) q (8 + 4 * i))) ∧ g' (va_up ad (60 + ni) q (6 + 4 * i)) = _ ∧ g' (va_up ad (60 + ni) q (7 + 4 * i)) = _ ∧ g' (va_up ad (60 + ni) q (8 + 4 * i)) = _
    have hm : (bOnto (B i)).map (bA (va_up ad (60 + ni) q)) = (bOnto (B i)).map (bA ad) := by
      cases ho2 : bOnto (B i) with
      | none => rfl
      | some j =>
        have := h.onto hi ho2
        show some (va_up ad (60 + ni) q (5 + 4 * j)) = some (ad (5 + 4 * j))
        rw [old _ (by omega)]
    rw [old (5 + 4 * i) (by omega), old (6 + 4 * i) (by omega), old (7 + 4 * i) (by omega), old (8 + 4 * i) (by omega), keep _ (Or.inr (Or.inl (by omega))) (by omega) (by omega), keep _ (Or.inr (Or.inl (by omega))) (by omega) (by omega), keep _ (Or.inr (Or.inl (by omega))) (by omega) (by omega), keep _ (Or.inr (Or.inl (by omega))) (by omega) (by omega), hm]
    exact ⟨h.b hi, h.bg hi, h.bp hi, h.bw hi⟩
  · intro i hi
    by_cases hin : i = ni
    · subst hin
      rw [va_up_self]
      show g' (va_up ad (60 + i) q (60 + i)) = some (itemE _ _ ((iBt x).map _) _ _ _ _ _)
      rw [va_up_self, mp x hx]
      exact c0
    · have h2 : i < ni := by omega
      rw [va_up_ne _ _ hin]
      show g' (va_up ad (60 + ni) q (60 + i)) = some (itemE _ _ ((iBt (I i)).map _) _ _ _ _ _)
      rw [old _ (by omega), keep _ (okI h2) (by omega) (by omega), mp (I i) (fun j hj => h.bt h2 hj)]
      exact h.i h2
  · intro i hi j hj
    by_cases hin : i = ni
    · subst hin
      rw [va_up_self] at hj
      exact hx j hj
    · rw [va_up_ne _ _ hin] at hj
      exact h.bt (by omega) hj
  · intro r hr
    rcases split r hr with h1 | rfl
    · exact Or.inl ⟨h1, oldR r h1⟩
    · rw [va_up_self]; exact Or.inr f0
  · intro a e ha hg
    rw [ho a (ne_fresh hg f0) (ha 0 (ok0 (by omega))) (ha 2 (ok0 (by omega)))]
    exact hg
end S5
end
section
/-! BeltSteps: stop, belt, feed, the constructor: walks. -/
theorem lt_of_nI {n m : Nat} (h : nI n < nI m) (hn : n < 2 ^ 31) : n < m := by
  rcases Nat.lt_or_ge n m with z | z
  · exact z
  · exact absurd h (nI_nlt z hn)
section S6
variable {ad : Nat → Nat} {nb ni : Nat} {now : Int64} {B : Nat → BT} {I : Nat → IT} {n : Nat} {tk : Int32} {fr : Nat → Int32}
set_option maxHeartbeats 4000000 in
set_option maxRecDepth 100000 in
theorem c_S_stop {l : Launch} {D : va_G} {dA : Nat → ClassId} {g : Nat → Option va_E}  (h : SRep dA ad g nb ni now B I n tk fr) (hn : n ≤ 1000000000) (x on : Int32) (hon : narrow .boolean (.int on) = .int on) (hof : fits .boolean (.int on) = true) (t : Int64) : CtI l D classes (tyL dA) y_S_stop b_S_stop 7 (some .int) rm_S_stop [.ref (ad 0), .int x, .int on, .long t] g (fun r g' => ((∀ k, k < nb → x ≠ nI k) ∧ r = -11 ∧ g = g') ∨ (∃ k, k < nb ∧ x = nI k ∧ ((nolF now t = 0 ∧ r = -12 ∧ g = g') ∨ (¬ nolF now t = 0 ∧ ((¬ bRun (B k) = on ∧ ¬ bTel (B k) < 100 ∧ r = -14 ∧ g = g') ∨ (bRun (B k) = on ∧ r = 0 ∧ SRep dA ad g' nb ni t B (pasN B ni t 100000 I (n, fr)).1 (pasN B ni t 100000 I (n, fr)).2.1 tk (pasN B ni t 100000 I (n, fr)).2.2 ∧ SFr ad nb ni g g') ∨ (¬ bRun (B k) = on ∧ bTel (B k) < 100 ∧ r = 1 ∧ ∃ b', IsTold (B k) b' on t ∧ SRep dA ad g' nb ni t (va_up B k b') (aimN (va_up B k b') k (pasN B ni t 100000 I (n, fr)).1 ni) (pasN B ni t 100000 I (n, fr)).2.1 tk (pasN B ni t 100000 I (n, fr)).2.2 ∧ SFr ad nb ni g g')))))) := by
  refine CtI.of (by decide) (Nat.le_of_ble_eq_true rfl) ?_
  intro p e s m below meth c X hr hlk hnm
  refine go_aload_n X (z := 0) d_S_stop_0 rfl rfl ?_
  refine go_iload_n X (z := 1) d_S_stop_1 rfl rfl ?_
  refine go_callR_V X (As := [.int x]) (rest := []) (c_S_beltNumbered h x) gm_ml_S_54 cw_S_beltNumbered ⟨by decide, by decide⟩ rfl h.this rfl rfl (Nat.le_of_ble_eq_true rfl) d_S_stop_2 ⟨by decide, by decide⟩ (fun ru1 gu1 hu1 => ?_)
  obtain ⟨rfl, (⟨k, hk, rfl, rfl⟩ | ⟨rfl, hnok⟩)⟩ := hu1
  · refine go_astore X (lv' := [(5, .ref (bA ad k)), (0, .ref (ad 0)), (1, .int ((nI k))), (2, .int on), (3, .long t)]) d_S_stop_5 (by decide) rfl ?_
    refine go_aload X (z := 0) d_S_stop_7 rfl ?_
    refine go_ifnonnull X (tgt := 15) d_S_stop_9 rfl ?_
    refine go_aload_n X (z := 1) d_S_stop_15 rfl rfl ?_
    refine go_lload_n X (z := 4) d_S_stop_16 rfl rfl ?_
    refine go_callI_V X (As := [.long t]) (rest := []) (c_S_isNowOrLater h t) gm_ml_S_62 cw_S_isNowOrLater ⟨by decide, by decide⟩ rfl h.this rfl rfl (Nat.le_of_ble_eq_true rfl) d_S_stop_17 ⟨by decide, by decide⟩ (fun ru2 gu2 hu2 => ?_)
    obtain ⟨rfl, rfl⟩ := hu2
    refine go_if_ne X (tgt := 26) d_S_stop_20 rfl (fun c3 => ?_) (fun c3 => ?_)
    · refine go_aload X (z := 0) d_S_stop_26 rfl ?_
      refine go_get X u_B rfl 5 (by decide) gm_fl_S_86 rfl d_S_stop_28 (h.b hk) rfl ?_
      refine go_iload_n X (z := 3) d_S_stop_31 rfl rfl ?_
      refine go_icmp_eq X (tgt := 39) d_S_stop_32 rfl (fun c4 => ?_) (fun c4 => ?_)
      · refine go_iconst X (v := 0) d_S_stop_39 (by decide) ?_
        refine go_istore X (lv' := [(6, .int 0), (5, .ref (bA ad k)), (0, .ref (ad 0)), (1, .int ((nI k))), (2, .int on), (3, .long t)]) d_S_stop_40 (by decide) rfl ?_
        refine go_iload X (z := 0) d_S_stop_42 rfl ?_
        refine go_if_eq X (tgt := 60) d_S_stop_44 rfl (fun _ => ?_) (fun h => absurd (by decide) h)
        refine go_aload_n X (z := 2) d_S_stop_60 rfl rfl ?_
        refine go_lload_n X (z := 5) d_S_stop_61 rfl rfl ?_
        refine go_callV_V X (As := [.long t]) (rest := []) (c_S_passTo h hn t) gm_ml_S_74 cw_S_passTo ⟨by decide, by decide⟩ rfl h.this rfl rfl (Nat.le_of_ble_eq_true rfl) d_S_stop_62 ⟨by decide, by decide⟩ (fun gz hz => ?_)
        obtain ⟨hz, hzF⟩ := hz
        refine go_iload X (z := 0) d_S_stop_65 rfl ?_
        refine go_if_ne X (tgt := 72) d_S_stop_67 rfl (fun h => absurd rfl h) (fun _ => ?_)
        refine go_iconst X (v := 0) d_S_stop_70 (by decide) ?_
        exact go_retI X hr hlk d_S_stop_71 (Or.inr ⟨k, hk, rfl, Or.inr ⟨c3, Or.inr (Or.inl ⟨c4, rfl, hz, hzF⟩)⟩⟩)
      · refine go_iconst X (v := 1) d_S_stop_35 (by decide) ?_
        refine go_goto X (tgt := 40) d_S_stop_36 rfl ?_
        refine go_istore X (lv' := [(6, .int 1), (5, .ref (bA ad k)), (0, .ref (ad 0)), (1, .int ((nI k))), (2, .int on), (3, .long t)]) d_S_stop_40 (by decide) rfl ?_
        refine go_iload X (z := 0) d_S_stop_42 rfl ?_
        refine go_if_eq X (tgt := 60) d_S_stop_44 rfl (fun h => absurd h (by decide)) (fun _ => ?_)
        refine go_aload X (z := 1) d_S_stop_47 rfl ?_
        refine go_get X u_B rfl 6 (by decide) gm_fl_S_90 rfl d_S_stop_49 (h.b hk) rfl ?_
        refine go_bipush X (v := 100) d_S_stop_52 (by decide) ?_
        refine go_icmp_lt X (tgt := 60) d_S_stop_54 rfl (fun c8 => ?_) (fun c8 => ?_)
        · refine go_aload_n X (z := 2) d_S_stop_60 rfl rfl ?_
          refine go_lload_n X (z := 5) d_S_stop_61 rfl rfl ?_
          refine go_callV_V X (As := [.long t]) (rest := []) (c_S_passTo h hn t) gm_ml_S_74 cw_S_passTo ⟨by decide, by decide⟩ rfl h.this rfl rfl (Nat.le_of_ble_eq_true rfl) d_S_stop_62 ⟨by decide, by decide⟩ (fun gz hz => ?_)
          obtain ⟨hz, hzF⟩ := hz
          refine go_iload X (z := 0) d_S_stop_65 rfl ?_
          refine go_if_ne X (tgt := 72) d_S_stop_67 rfl (fun _ => ?_) (fun h => absurd h (by decide))
          refine go_aload X (z := 1) d_S_stop_72 rfl ?_
          refine go_iload_n X (z := 4) d_S_stop_74 rfl rfl ?_
          refine go_lload_n X (z := 5) d_S_stop_75 rfl rfl ?_
          refine go_callV_V X (As := [.int on, .long t]) (rest := []) (c_B_tell (hz.b hk) (hz.bg hk) (hz.bp hk) (hz.bw hk) (hz.pw hk) hon hof) gm_ml_S_93 cw_B_tell ⟨by decide, by decide⟩ rfl (hz.b hk) rfl rfl (Nat.le_of_ble_eq_true rfl) d_S_stop_76 ⟨by decide, by decide⟩ (fun gt ht => ?_)
          obtain ⟨b', hIs, ht, htF⟩ := told_rep hz hk ht
          refine go_aload_n X (z := 2) d_S_stop_79 rfl rfl ?_
          refine go_aload X (z := 1) d_S_stop_80 rfl ?_
          refine go_callV_V X (As := [.ref (bA ad k)]) (rest := []) (c_S_aimItemsOn ht hk) gm_ml_S_97 cw_S_aimItemsOn ⟨by decide, by decide⟩ rfl ht.this rfl rfl (Nat.le_of_ble_eq_true rfl) d_S_stop_82 ⟨by decide, by decide⟩ (fun ga ha => ?_)
          obtain ⟨ha, haF⟩ := ha
          refine go_iconst X (v := 1) d_S_stop_85 (by decide) ?_
          exact go_retI X hr hlk d_S_stop_86 (Or.inr ⟨k, hk, rfl, Or.inr ⟨c3, Or.inr (Or.inr ⟨c4, c8, rfl, b', hIs, ha, hzF.trans (htF.trans haF)⟩)⟩⟩)
        · refine go_bipush X (v := (-14)) d_S_stop_57 (by decide) ?_
          exact go_retI X hr hlk d_S_stop_59 (Or.inr ⟨k, hk, rfl, Or.inr ⟨c3, Or.inl ⟨c4, c8, rfl, rfl⟩⟩⟩)
    · refine go_bipush X (v := (-12)) d_S_stop_23 (by decide) ?_
      exact go_retI X hr hlk d_S_stop_25 (Or.inr ⟨k, hk, rfl, Or.inl ⟨c3, rfl, rfl⟩⟩)
  · refine go_astoreN X (lv' := [(5, .null), (0, .ref (ad 0)), (1, .int x), (2, .int on), (3, .long t)]) d_S_stop_5 (by decide) rfl ?_
    refine go_aloadN X (z := 0) d_S_stop_7 rfl ?_
    refine go_ifnonnullN X d_S_stop_9 ?_
    refine go_bipush X (v := (-11)) d_S_stop_12 (by decide) ?_
    exact go_retI X hr hlk d_S_stop_14 (Or.inl ⟨hnok, rfl, rfl⟩)
set_option maxHeartbeats 4000000 in
set_option maxRecDepth 100000 in
theorem c_S_belt {l : Launch} {D : va_G} {dA : Nat → ClassId} {g : Nat → Option va_E}  (h : SRep dA ad g nb ni now B I n tk fr) (len spd : Int64) : CtI l D classes (tyL dA) y_S_belt b_S_belt 6 (some .int) rm_S_belt [.ref (ad 0), .long len, .long spd] g (fun r g' => ((len < 100000 ∨ 100000000 < len ∨ spd < 1 ∨ 5000 < spd) ∧ r = -12 ∧ g = g') ∨ (¬ len < 100000 ∧ ¬ 100000000 < len ∧ ¬ spd < 1 ∧ ¬ 5000 < spd ∧ ((¬ nI nb < 12 ∧ r = -14 ∧ g = g') ∨ (nI nb < 12 ∧ r = nI nb ∧ ∃ ad' b, BOk b ∧ bLen b = len ∧ bSpd b = spd ∧ bSen b = len / 2 ∧ bOnto b = none ∧ bRun b = 1 ∧ bTel b = 0 ∧ bTold b = 0 ∧ bGb b = 8 ∧ bWat b = 0 ∧ SRep dA ad' g' (nb + 1) ni now (va_up B nb b) I n tk fr ∧ SNew ad ad' nb ni (nb + 1) ni g ∧ SFr ad nb ni g g')))) := by
  refine CtI.of (by decide) (Nat.le_of_ble_eq_true rfl) ?_
  intro p e s m below meth c X hr hlk hnm
  have hnb12 := h.nb12
  refine go_lload_n X (z := 1) d_S_belt_0 rfl rfl ?_
  refine go_ldc2 X d_S_belt_1 gm_k_S_39 ?_
  refine go_lif_lt X (tgt := 16) d_S_belt_4 d_S_belt_5 rfl (fun c1 => ?_) (fun c1 => ?_)
  · refine go_bipush X (v := (-12)) d_S_belt_16 (by decide) ?_
    refine go_widen (k := 4) (n := 37) (by decide) (by decide) ?_
    exact go_retI X hr hlk d_S_belt_18 (Or.inl ⟨Or.inl c1, rfl, rfl⟩)
  · refine go_lload_n X (z := 1) d_S_belt_8 rfl rfl ?_
    refine go_ldc2 X d_S_belt_9 gm_k_S_41 ?_
    refine go_lif_le X (tgt := 19) d_S_belt_12 d_S_belt_13 rfl (fun c2 => ?_) (fun c2 => ?_)
    · refine go_lload_n X (z := 2) d_S_belt_19 rfl rfl ?_
      refine go_lconst X (v := 1) d_S_belt_20 (by decide) ?_
      refine go_lif_lt X (tgt := 33) d_S_belt_21 d_S_belt_22 rfl (fun c3 => ?_) (fun c3 => ?_)
      · refine go_bipush X (v := (-12)) d_S_belt_33 (by decide) ?_
        refine go_widen (k := 4) (n := 37) (by decide) (by decide) ?_
        exact go_retI X hr hlk d_S_belt_35 (Or.inl ⟨Or.inr (Or.inr (Or.inl c3)), rfl, rfl⟩)
      · refine go_lload_n X (z := 2) d_S_belt_25 rfl rfl ?_
        refine go_ldc2 X d_S_belt_26 gm_k_S_43 ?_
        refine go_lif_le X (tgt := 36) d_S_belt_29 d_S_belt_30 rfl (fun c4 => ?_) (fun c4 => ?_)
        · refine go_aload_n X (z := 0) d_S_belt_36 rfl rfl ?_
          refine go_get X u_S rfl 1 (by decide) gm_fl_S_15 rfl d_S_belt_37 h.this rfl ?_
          refine go_bipush X (v := 12) d_S_belt_40 (by decide) ?_
          refine go_icmp_lt X (tgt := 48) d_S_belt_42 rfl (fun c5 => ?_) (fun c5 => ?_)
          · have hnb : nb < 12 := lt_of_nI c5 (by omega)
            refine go_new X (ci := 0) (fs := [.int 0, .long 0, .long 0, .long 0, .null, .int 0, .int 0, .long 0, .int 0, .long 0, .null, .null, .null]) u_B t_B t_B_ok gm_cl_S_9 gm_inst_B gm_ini_B rfl (by decide +kernel) (by decide) (by decide) d_S_belt_48 (fun q6 hq6 => ?_)
            refine go_gen (fun g8 eg8 => ?_)
            have eg8 : g8 = va_up g q6 (some (.inr (0, [.int 0, .long 0, .long 0, .long 0, .null, .int 0, .int 0, .long 0, .int 0, .long 0, .null, .null, .null]))) := eg8
            have h9 : g8 (ad 0) = some (.inr (3, [.ref (ad 1), .int ((nI nb)), .ref (ad 2), .int ((nI ni)), .ref (ad 3), .long now])) := by rw [eg8, va_up_ne _ _ (ne_fresh h.this hq6)]; exact h.this
            have h10 : g8 (ad 1) = some (.inl (dA 3, 12, .inr (.inr (.inr (.inr (bTab ad nb)))))) := by rw [eg8, va_up_ne _ _ (ne_fresh h.bs hq6)]; exact h.bs
            have h11 : g8 q6 = some (.inr (0, [.int 0, .long 0, .long 0, .long 0, .null, .int 0, .int 0, .long 0, .int 0, .long 0, .null, .null, .null])) := by rw [eg8]; exact va_up_self _ _ _
            refine go_dup X d_S_belt_51 rfl ?_
            refine go_aload_n X (z := 0) d_S_belt_52 rfl rfl ?_
            refine go_get X u_S rfl 1 (by decide) gm_fl_S_15 rfl d_S_belt_53 h9 rfl ?_
            refine go_lload_n X (z := 1) d_S_belt_56 rfl rfl ?_
            refine go_lload_n X (z := 2) d_S_belt_57 rfl rfl ?_
            refine go_callV_I X (As := [.int ((nI nb)), .long len, .long spd]) (rest := [.ref q6]) (c_B_init h11) gm_ml_S_45 cw_B_init ⟨by decide, by decide⟩ rfl rfl (Nat.le_of_ble_eq_true rfl) d_S_belt_58 ⟨by decide, by decide⟩ (fun g3 hi => ?_)
            obtain ⟨ag, ap, aw, z0, z1, z2, n01, n02, n12, e3⟩ := hi
            have k0 : g3 (ad 0) = some (.inr (3, [.ref (ad 1), .int ((nI nb)), .ref (ad 2), .int ((nI ni)), .ref (ad 3), .long now])) := by rw [e3, va_up_ne _ _ (ne_cls h9 h11 (by decide)), va_up_ne _ _ (ne_fresh h9 z2), va_up_ne _ _ (ne_fresh h9 z1), va_up_ne _ _ (ne_fresh h9 z0)]; exact h9
            have k1 : g3 (ad 1) = some (.inl (dA 3, 12, .inr (.inr (.inr (.inr (bTab ad nb)))))) := by rw [e3, va_up_ne _ _ (ne_kind2 h10 h11), va_up_ne _ _ (ne_fresh h10 z2), va_up_ne _ _ (ne_fresh h10 z1), va_up_ne _ _ (ne_fresh h10 z0)]; exact h10
            have nq0 : q6 ≠ ag := ne_fresh h11 z0
            have nq1 : q6 ≠ ap := ne_fresh h11 z1
            have nq2 : q6 ≠ aw := ne_fresh h11 z2
            have kq : g3 q6 = some (beltE (nI nb) len spd (len / 2) none 1 0 0 8 0 ag ap aw) := by rw [e3, va_up_self]
            have kg : g3 ag = some (intE dA 8 (fun _ => 0)) := by rw [e3, va_up_ne _ _ nq0.symm, va_up_ne _ _ n02, va_up_ne _ _ n01, va_up_self]
            have kp : g3 ap = some (lonE dA 8 (fun _ => 0)) := by rw [e3, va_up_ne _ _ nq1.symm, va_up_ne _ _ n12, va_up_self]
            have kw : g3 aw = some (lonE dA 8 (fun _ => 0)) := by rw [e3, va_up_ne _ _ nq2.symm, va_up_self]
            refine go_astore X (lv' := [(5, .ref q6), (0, .ref (ad 0)), (1, .long len), (3, .long spd)]) d_S_belt_61 (by decide) rfl ?_
            refine go_aload X (z := 0) d_S_belt_63 rfl ?_
            refine go_callV_V X (As := []) (rest := []) (c_B_layStages kq kg kp kw n12) gm_ml_S_48 cw_B_layStages ⟨by decide, by decide⟩ rfl kq rfl rfl (Nat.le_of_ble_eq_true rfl) d_S_belt_65 ⟨by decide, by decide⟩ (fun g4 hL => ?_)
            obtain ⟨fg, fp, fw, l1, l2, l3, hI, hO⟩ := hL
            have m0 : g4 (ad 0) = some (.inr (3, [.ref (ad 1), .int ((nI nb)), .ref (ad 2), .int ((nI ni)), .ref (ad 3), .long now])) := by rw [hO _ (ne_kind1 k0 kg) (ne_kind1 k0 kp) (ne_kind1 k0 kw)]; exact k0
            have m1 : g4 (ad 1) = some (.inl (dA 3, 12, .inr (.inr (.inr (.inr (bTab ad nb)))))) := by rw [hO _ (ne_arr20 k1 kg) (ne_arr21 k1 kp) (ne_arr21 k1 kw)]; exact k1
            have mq : g4 q6 = some (beltE (nI nb) len spd (len / 2) none 1 0 0 8 0 ag ap aw) := by rw [hO _ nq0 nq1 nq2]; exact kq
            refine go_aload_n X (z := 1) d_S_belt_68 rfl rfl ?_
            refine go_get X u_S rfl 0 (by decide) gm_fl_S_11 rfl d_S_belt_69 m0 rfl ?_
            refine go_aload_n X (z := 1) d_S_belt_72 rfl rfl ?_
            refine go_get X u_S rfl 1 (by decide) gm_fl_S_15 rfl d_S_belt_73 m0 rfl ?_
            refine go_aload X (z := 0) d_S_belt_76 rfl ?_
            refine go_aast X 3 0 rfl rfl d_S_belt_78 m1 mq (vp_in_nI hnb (by decide)) ?_
            refine go_gen (fun g12 eg12 => ?_)
            have eg12 : g12 = va_up g4 (ad 1) (some (.inl (dA 3, 12, .inr (.inr (.inr (.inr (va_up (bTab ad nb) nb (some q6)))))))) := by rw [eg12, nI_clamp (show nb < 2 ^ 31 by omega)]
            have h13 : g12 (ad 0) = some (.inr (3, [.ref (ad 1), .int ((nI nb)), .ref (ad 2), .int ((nI ni)), .ref (ad 3), .long now])) := by rw [eg12, va_up_ne _ _ (ne_kind1 m0 m1)]; exact m0
            have h14 : g12 q6 = some (.inr (0, [.int ((nI nb)), .long len, .long spd, .long ((len / 2)), va_rf none, .int 1, .int 0, .long 0, .int 8, .long 0, .ref ag, .ref ap, .ref aw])) := by rw [eg12, va_up_ne _ _ (ne_kind1 mq m1)]; exact mq
            have h15 : g12 (ad 1) = some (.inl (dA 3, 12, .inr (.inr (.inr (.inr (va_up (bTab ad nb) nb (some q6))))))) := by rw [eg12]; exact va_up_self _ _ _
            refine go_aload_n X (z := 1) d_S_belt_79 rfl rfl ?_
            refine go_dup X d_S_belt_80 rfl ?_
            refine go_get X u_S rfl 1 (by decide) gm_fl_S_15 rfl d_S_belt_81 h13 rfl ?_
            refine go_iconst X (v := 1) d_S_belt_84 (by decide) ?_
            refine go_iadd X d_S_belt_85 ?_
            refine go_topi (fun x16 ex16 => ?_)
            refine go_put X u_S rfl 1 (by decide) gm_fl_S_15 rfl t_S t_S_ok n_S rfl rfl rfl d_S_belt_86 h13 (Nat.le_of_ble_eq_true rfl) ?_
            refine go_gen (fun g17 eg17 => ?_)
            have eg17 : g17 = va_up g12 (ad 0) (some (.inr (3, [.ref (ad 1), .int x16, .ref (ad 2), .int ((nI ni)), .ref (ad 3), .long now]))) := eg17
            have h18 : g17 (ad 1) = some (.inl (dA 3, 12, .inr (.inr (.inr (.inr (va_up (bTab ad nb) nb (some q6))))))) := by rw [eg17, va_up_ne _ _ (ne_kind2 h15 h13)]; exact h15
            have h19 : g17 q6 = some (.inr (0, [.int ((nI nb)), .long len, .long spd, .long ((len / 2)), va_rf none, .int 1, .int 0, .long 0, .int 8, .long 0, .ref ag, .ref ap, .ref aw])) := by rw [eg17, va_up_ne _ _ (ne_cls h14 h13 (by decide))]; exact h14
            have h20 : g17 (ad 0) = some (.inr (3, [.ref (ad 1), .int x16, .ref (ad 2), .int ((nI ni)), .ref (ad 3), .long now])) := by rw [eg17]; exact va_up_self _ _ _
            refine go_aload X (z := 0) d_S_belt_89 rfl ?_
            refine go_get X u_B rfl 0 (by decide) gm_fl_S_51 rfl d_S_belt_91 h19 rfl ?_
            have nba : nI nb + 1 = nI (nb + 1) := nI_1 nb
            have cc4 : g17 (ad 0) = some (sCell ad (nb + 1) ni now) := by rw [h20, ex16, nba]
            have cc5 : g17 (ad 1) = some (refE dA 3 12 (va_up (bTab ad nb) nb (some q6))) := h18
            have cc0 : g17 q6 = some (beltE (nI nb) len spd (len / 2) none 1 0 0 8 0 ag ap aw) := h19
            have hz : ∀ z, z ≠ ad 0 → z ≠ ad 1 → g17 z = g4 z := fun z a1 a2 => by rw [eg17, va_up_ne _ _ a1, eg12, va_up_ne _ _ a2]
            rw [eg8] at z0 z1 z2
            have y0 := up_none z0
            have y1 := up_none z1
            have y2 := up_none z2
            have w1 := hz ag (ne_kind2 kg k0) (ne_arr02 kg k1)
            have w2 := hz ap (ne_kind2 kp k0) (ne_arr12 kp k1)
            have w3 := hz aw (ne_kind2 kw k0) (ne_arr12 kw k1)
            have hR := newBelt_rep h hnb (b := (len, spd, len / 2, none, 1, 0, 0, 8, 0, fg, fp, fw)) hq6 y0.2 y1.2 y2.2 nq0 nq1 nq2 n01 n02 n12 rfl (g' := g17) cc0 (w1.trans l1) (w2.trans l2) (w3.trans l3) cc4 cc5 (fun z a0 a1 a2 a3 a4 a5 => by rw [hz z a4 a5, hO z a1 a2 a3, e3, va_up_ne _ _ a0, va_up_ne _ _ a3, va_up_ne _ _ a2, va_up_ne _ _ a1, eg8, va_up_ne _ _ a0])
            refine go_widen (k := 4) (n := 37) (by decide) (by decide) ?_
            exact go_retI X hr hlk d_S_belt_94 (Or.inr ⟨c1, Int64.not_lt.mpr c2, c3, Int64.not_lt.mpr c4, Or.inr ⟨c5, rfl, _, (len, spd, len / 2, none, 1, 0, 0, 8, 0, fg, fp, fw), hI, rfl, rfl, rfl, rfl, rfl, rfl, rfl, rfl, rfl, hR.1, hR.2.1, hR.2.2⟩⟩)
          · refine go_bipush X (v := (-14)) d_S_belt_45 (by decide) ?_
            refine go_widen (k := 4) (n := 37) (by decide) (by decide) ?_
            exact go_retI X hr hlk d_S_belt_47 (Or.inr ⟨c1, Int64.not_lt.mpr c2, c3, Int64.not_lt.mpr c4, Or.inl ⟨c5, rfl, rfl⟩⟩)
        · refine go_bipush X (v := (-12)) d_S_belt_33 (by decide) ?_
          refine go_widen (k := 4) (n := 37) (by decide) (by decide) ?_
          exact go_retI X hr hlk d_S_belt_35 (Or.inl ⟨Or.inr (Or.inr (Or.inr (Int64.not_le.mp c4))), rfl, rfl⟩)
    · refine go_bipush X (v := (-12)) d_S_belt_16 (by decide) ?_
      refine go_widen (k := 4) (n := 37) (by decide) (by decide) ?_
      exact go_retI X hr hlk d_S_belt_18 (Or.inl ⟨Or.inr (Or.inl (Int64.not_le.mp c2)), rfl, rfl⟩)
set_option maxHeartbeats 4000000 in
set_option maxRecDepth 100000 in
theorem c_S_feed {l : Launch} {D : va_G} {dA : Nat → ClassId} {g : Nat → Option va_E}  (h : SRep dA ad g nb ni now B I n tk fr) (x : Int32) (len at0 : Int64) : CtI l D classes (tyL dA) y_S_feed b_S_feed 8 (some .int) rm_S_feed [.ref (ad 0), .int x, .long len, .long at0] g (fun r g' => ((∀ k, k < nb → x ≠ nI k) ∧ r = -11 ∧ g = g') ∨ (∃ k, k < nb ∧ x = nI k ∧ (((len < 1 ∨ 100000 < len ∨ nolF now at0 = 0) ∧ r = -12 ∧ g = g') ∨ (¬ len < 1 ∧ ¬ 100000 < len ∧ ¬ nolF now at0 = 0 ∧ ((¬ nI ni < 60 ∧ r = -14 ∧ g = g') ∨ (nI ni < 60 ∧ r = nI (ni + 1) ∧ ∃ ad', SRep dA ad' g' nb (ni + 1) now B (va_up I ni (if at0 = now then comeI B (len, some k, 1, at0, 0, 0, 0) k now 0 else (len, some k, 1, at0, 0, 0, 0))) n tk fr ∧ SNew ad ad' nb ni nb (ni + 1) g ∧ SFr ad nb ni g g')))))) := by
  refine CtI.of (by decide) (Nat.le_of_ble_eq_true rfl) ?_
  intro p e s m below meth c X hr hlk hnm
  have hni60 := h.ni60
  refine go_aload_n X (z := 0) d_S_feed_0 rfl rfl ?_
  refine go_iload_n X (z := 1) d_S_feed_1 rfl rfl ?_
  refine go_callR_V X (As := [.int x]) (rest := []) (c_S_beltNumbered h x) gm_ml_S_54 cw_S_beltNumbered ⟨by decide, by decide⟩ rfl h.this rfl rfl (Nat.le_of_ble_eq_true rfl) d_S_feed_2 ⟨by decide, by decide⟩ (fun ru1 gu1 hu1 => ?_)
  obtain ⟨rfl, (⟨k, hk, rfl, rfl⟩ | ⟨rfl, hnok⟩)⟩ := hu1
  · refine go_astore X (lv' := [(6, .ref (bA ad k)), (0, .ref (ad 0)), (1, .int ((nI k))), (2, .long len), (4, .long at0)]) d_S_feed_5 (by decide) rfl ?_
    refine go_aload X (z := 0) d_S_feed_7 rfl ?_
    refine go_ifnonnull X (tgt := 15) d_S_feed_9 rfl ?_
    refine go_lload_n X (z := 3) d_S_feed_15 rfl rfl ?_
    refine go_lconst X (v := 1) d_S_feed_16 (by decide) ?_
    refine go_lif_lt X (tgt := 29) d_S_feed_17 d_S_feed_18 rfl (fun c2 => ?_) (fun c2 => ?_)
    · refine go_bipush X (v := (-12)) d_S_feed_29 (by decide) ?_
      refine go_widen (k := 1) (n := 8) (by decide) (by decide) ?_
      exact go_retI X hr hlk d_S_feed_31 (Or.inr ⟨k, hk, rfl, Or.inl ⟨Or.inl c2, rfl, rfl⟩⟩)
    · refine go_lload_n X (z := 3) d_S_feed_21 rfl rfl ?_
      refine go_ldc2 X d_S_feed_22 gm_k_S_39 ?_
      refine go_lif_le X (tgt := 32) d_S_feed_25 d_S_feed_26 rfl (fun c3 => ?_) (fun c3 => ?_)
      · refine go_aload_n X (z := 1) d_S_feed_32 rfl rfl ?_
        refine go_lload X (z := 4) d_S_feed_33 rfl ?_
        refine go_callI_V X (As := [.long at0]) (rest := []) (c_S_isNowOrLater h at0) gm_ml_S_62 cw_S_isNowOrLater ⟨by decide, by decide⟩ rfl h.this rfl rfl (Nat.le_of_ble_eq_true rfl) d_S_feed_35 ⟨by decide, by decide⟩ (fun ru4 gu4 hu4 => ?_)
        obtain ⟨rfl, rfl⟩ := hu4
        refine go_if_ne X (tgt := 44) d_S_feed_38 rfl (fun c5 => ?_) (fun c5 => ?_)
        · refine go_aload_n X (z := 1) d_S_feed_44 rfl rfl ?_
          refine go_get X u_S rfl 3 (by decide) gm_fl_S_25 rfl d_S_feed_45 h.this rfl ?_
          refine go_bipush X (v := 60) d_S_feed_48 (by decide) ?_
          refine go_icmp_lt X (tgt := 56) d_S_feed_50 rfl (fun c6 => ?_) (fun c6 => ?_)
          · have hni : ni < 60 := lt_of_nI c6 (by omega)
            refine go_new X (ci := 2) (fs := [.int 0, .long 0, .null, .int 0, .long 0, .long 0, .int 0, .int 0]) u_I t_I t_I_ok gm_cl_S_19 gm_inst_I gm_ini_I rfl (by decide +kernel) (by decide) (by decide) d_S_feed_56 (fun q7 hq7 => ?_)
            refine go_gen (fun g9 eg9 => ?_)
            have eg9 : g9 = va_up g q7 (some (.inr (2, [.int 0, .long 0, .null, .int 0, .long 0, .long 0, .int 0, .int 0]))) := eg9
            have h10 : g9 (ad 0) = some (.inr (3, [.ref (ad 1), .int ((nI nb)), .ref (ad 2), .int ((nI ni)), .ref (ad 3), .long now])) := by rw [eg9, va_up_ne _ _ (ne_fresh h.this hq7)]; exact h.this
            have h11 : g9 (ad 2) = some (.inl (dA 4, 60, .inr (.inr (.inr (.inr (iTab ad ni)))))) := by rw [eg9, va_up_ne _ _ (ne_fresh h.is hq7)]; exact h.is
            have h12 : g9 (bA ad k) = some (.inr (0, [.int ((nI k)), .long ((bLen (B k))), .long ((bSpd (B k))), .long ((bSen (B k))), va_rf (((bOnto (B k)).map (bA ad))), .int ((bRun (B k))), .int ((bTel (B k))), .long ((bTold (B k))), .int ((bGb (B k))), .long ((bWat (B k))), .ref (bG ad k), .ref (bP ad k), .ref (bW ad k)])) := by rw [eg9, va_up_ne _ _ (ne_fresh (h.b hk) hq7)]; exact (h.b hk)
            have h13 : g9 (bP ad k) = some (.inl (dA 1, 8, .inr (.inl ((bFp (B k)))))) := by rw [eg9, va_up_ne _ _ (ne_fresh (h.bp hk) hq7)]; exact (h.bp hk)
            have h14 : g9 (bW ad k) = some (.inl (dA 1, 8, .inr (.inl ((bFw (B k)))))) := by rw [eg9, va_up_ne _ _ (ne_fresh (h.bw hk) hq7)]; exact (h.bw hk)
            have h15 : g9 q7 = some (.inr (2, [.int 0, .long 0, .null, .int 0, .long 0, .long 0, .int 0, .int 0])) := by rw [eg9]; exact va_up_self _ _ _
            refine go_dup X d_S_feed_59 rfl ?_
            refine go_aload_n X (z := 1) d_S_feed_60 rfl rfl ?_
            refine go_get X u_S rfl 3 (by decide) gm_fl_S_25 rfl d_S_feed_61 h10 rfl ?_
            refine go_iconst X (v := 1) d_S_feed_64 (by decide) ?_
            refine go_iadd X d_S_feed_65 ?_
            refine go_lload_n X (z := 3) d_S_feed_66 rfl rfl ?_
            refine go_aload X (z := 0) d_S_feed_67 rfl ?_
            refine go_lload X (z := 4) d_S_feed_69 rfl ?_
            refine go_callV_I X (As := [.int (((nI ni)) + 1), .long len, .ref (bA ad k), .long at0]) (rest := [.ref q7]) (c_I_init h15) gm_ml_S_66 cw_I_init ⟨by decide, by decide⟩ rfl rfl (Nat.le_of_ble_eq_true rfl) d_S_feed_71 ⟨by decide, by decide⟩ (fun g3 hi => ?_)
            have k16 : g3 (ad 0) = some (.inr (3, [.ref (ad 1), .int ((nI nb)), .ref (ad 2), .int ((nI ni)), .ref (ad 3), .long now])) := by rw [hi, va_up_ne _ _ (ne_cls h10 h15 (by decide))]; exact h10
            have k17 : g3 (ad 2) = some (.inl (dA 4, 60, .inr (.inr (.inr (.inr (iTab ad ni)))))) := by rw [hi, va_up_ne _ _ (ne_kind2 h11 h15)]; exact h11
            have k18 : g3 (bA ad k) = some (.inr (0, [.int ((nI k)), .long ((bLen (B k))), .long ((bSpd (B k))), .long ((bSen (B k))), va_rf (((bOnto (B k)).map (bA ad))), .int ((bRun (B k))), .int ((bTel (B k))), .long ((bTold (B k))), .int ((bGb (B k))), .long ((bWat (B k))), .ref (bG ad k), .ref (bP ad k), .ref (bW ad k)])) := by rw [hi, va_up_ne _ _ (ne_cls h12 h15 (by decide))]; exact h12
            have k19 : g3 (bP ad k) = some (.inl (dA 1, 8, .inr (.inl ((bFp (B k)))))) := by rw [hi, va_up_ne _ _ (ne_kind2 h13 h15)]; exact h13
            have k20 : g3 (bW ad k) = some (.inl (dA 1, 8, .inr (.inl ((bFw (B k)))))) := by rw [hi, va_up_ne _ _ (ne_kind2 h14 h15)]; exact h14
            have kq : g3 q7 = some (itemE (nI (ni + 1)) len (some (bA ad k)) 1 at0 0 0 0) := by rw [hi, va_up_self, nI_1]
            refine go_astore X (lv' := [(7, .ref q7), (6, .ref (bA ad k)), (0, .ref (ad 0)), (1, .int ((nI k))), (2, .long len), (4, .long at0)]) d_S_feed_74 (by decide) rfl ?_
            refine go_lload X (z := 5) d_S_feed_76 rfl ?_
            refine go_aload_n X (z := 2) d_S_feed_78 rfl rfl ?_
            refine go_get X u_S rfl 5 (by decide) gm_fl_S_35 rfl d_S_feed_79 k16 rfl ?_
            refine go_lif_ne X (tgt := 98) d_S_feed_82 d_S_feed_83 rfl (fun c21 => ?_) (fun c21 => ?_)
            · refine go_aload_n X (z := 2) d_S_feed_98 rfl rfl ?_
              refine go_get X u_S rfl 2 (by decide) gm_fl_S_21 rfl d_S_feed_99 k16 rfl ?_
              refine go_aload_n X (z := 2) d_S_feed_102 rfl rfl ?_
              refine go_get X u_S rfl 3 (by decide) gm_fl_S_25 rfl d_S_feed_103 k16 rfl ?_
              refine go_aload X (z := 0) d_S_feed_106 rfl ?_
              refine go_aast X 4 2 rfl rfl d_S_feed_108 k17 kq (vp_in_nI hni (by decide)) ?_
              refine go_gen (fun g22 eg22 => ?_)
              have eg22 : g22 = va_up g3 (ad 2) (some (.inl (dA 4, 60, .inr (.inr (.inr (.inr (va_up (iTab ad ni) ni (some q7)))))))) := by rw [eg22, nI_clamp (show ni < 2 ^ 31 by omega)]
              have h23 : g22 (ad 0) = some (.inr (3, [.ref (ad 1), .int ((nI nb)), .ref (ad 2), .int ((nI ni)), .ref (ad 3), .long now])) := by rw [eg22, va_up_ne _ _ (ne_kind1 k16 k17)]; exact k16
              have h24 : g22 (bA ad k) = some (.inr (0, [.int ((nI k)), .long ((bLen (B k))), .long ((bSpd (B k))), .long ((bSen (B k))), va_rf (((bOnto (B k)).map (bA ad))), .int ((bRun (B k))), .int ((bTel (B k))), .long ((bTold (B k))), .int ((bGb (B k))), .long ((bWat (B k))), .ref (bG ad k), .ref (bP ad k), .ref (bW ad k)])) := by rw [eg22, va_up_ne _ _ (ne_kind1 k18 k17)]; exact k18
              have h25 : g22 (bP ad k) = some (.inl (dA 1, 8, .inr (.inl ((bFp (B k)))))) := by rw [eg22, va_up_ne _ _ (ne_arr12 k19 k17)]; exact k19
              have h26 : g22 (bW ad k) = some (.inl (dA 1, 8, .inr (.inl ((bFw (B k)))))) := by rw [eg22, va_up_ne _ _ (ne_arr12 k20 k17)]; exact k20
              have h27 : g22 q7 = some (.inr (2, [.int ((nI (ni + 1))), .long len, .ref (bA ad k), .int 1, .long at0, .long 0, .int 0, .int 0])) := by rw [eg22, va_up_ne _ _ (ne_kind1 kq k17)]; exact kq
              have h28 : g22 (ad 2) = some (.inl (dA 4, 60, .inr (.inr (.inr (.inr (va_up (iTab ad ni) ni (some q7))))))) := by rw [eg22]; exact va_up_self _ _ _
              refine go_aload_n X (z := 2) d_S_feed_109 rfl rfl ?_
              refine go_dup X d_S_feed_110 rfl ?_
              refine go_get X u_S rfl 3 (by decide) gm_fl_S_25 rfl d_S_feed_111 h23 rfl ?_
              refine go_iconst X (v := 1) d_S_feed_114 (by decide) ?_
              refine go_iadd X d_S_feed_115 ?_
              refine go_topi (fun x29 ex29 => ?_)
              refine go_put X u_S rfl 3 (by decide) gm_fl_S_25 rfl t_S t_S_ok n_S rfl rfl rfl d_S_feed_116 h23 (Nat.le_of_ble_eq_true rfl) ?_
              refine go_gen (fun g30 eg30 => ?_)
              have eg30 : g30 = va_up g22 (ad 0) (some (.inr (3, [.ref (ad 1), .int ((nI nb)), .ref (ad 2), .int x29, .ref (ad 3), .long now]))) := eg30
              have h31 : g30 (ad 2) = some (.inl (dA 4, 60, .inr (.inr (.inr (.inr (va_up (iTab ad ni) ni (some q7))))))) := by rw [eg30, va_up_ne _ _ (ne_kind2 h28 h23)]; exact h28
              have h32 : g30 (bA ad k) = some (.inr (0, [.int ((nI k)), .long ((bLen (B k))), .long ((bSpd (B k))), .long ((bSen (B k))), va_rf (((bOnto (B k)).map (bA ad))), .int ((bRun (B k))), .int ((bTel (B k))), .long ((bTold (B k))), .int ((bGb (B k))), .long ((bWat (B k))), .ref (bG ad k), .ref (bP ad k), .ref (bW ad k)])) := by rw [eg30, va_up_ne _ _ (ne_cls h24 h23 (by decide))]; exact h24
              have h33 : g30 (bP ad k) = some (.inl (dA 1, 8, .inr (.inl ((bFp (B k)))))) := by rw [eg30, va_up_ne _ _ (ne_kind2 h25 h23)]; exact h25
              have h34 : g30 (bW ad k) = some (.inl (dA 1, 8, .inr (.inl ((bFw (B k)))))) := by rw [eg30, va_up_ne _ _ (ne_kind2 h26 h23)]; exact h26
              have h35 : g30 q7 = some (.inr (2, [.int ((nI (ni + 1))), .long len, .ref (bA ad k), .int 1, .long at0, .long 0, .int 0, .int 0])) := by rw [eg30, va_up_ne _ _ (ne_cls h27 h23 (by decide))]; exact h27
              have h36 : g30 (ad 0) = some (.inr (3, [.ref (ad 1), .int ((nI nb)), .ref (ad 2), .int x29, .ref (ad 3), .long now])) := by rw [eg30]; exact va_up_self _ _ _
              refine go_aload X (z := 0) d_S_feed_119 rfl ?_
              refine go_get X u_I rfl 0 (by decide) gm_fl_S_73 rfl d_S_feed_121 h35 rfl ?_
              have nba : nI ni + 1 = nI (ni + 1) := nI_1 ni
              have cc4 : g30 (ad 0) = some (sCell ad nb (ni + 1) now) := by rw [h36, ex29, nba]
              have cc5 : g30 (ad 2) = some (refE dA 4 60 (va_up (iTab ad ni) ni (some q7))) := h31
              have cc0 : g30 q7 = some (iCell ad ni ((len, some k, 1, at0, 0, 0, 0))) := h35
              have hR := newItem_rep h hni (x := (len, some k, 1, at0, 0, 0, 0)) hq7 (fun j hj => by cases hj; exact hk) (g' := g30) cc0 cc4 cc5 (fun z a0 a4 a5 => by rw [eg30, va_up_ne _ _ a4, eg22, va_up_ne _ _ a5, hi, va_up_ne _ _ a0, eg9, va_up_ne _ _ a0])
              rw [show ((len, some k, 1, at0, 0, 0, 0) : IT) = (if at0 = now then comeI B (len, some k, 1, at0, 0, 0, 0) k now 0 else (len, some k, 1, at0, 0, 0, 0)) from (if_neg c21).symm] at hR
              refine go_widen (k := 1) (n := 8) (by decide) (by decide) ?_
              exact go_retI X hr hlk d_S_feed_124 (Or.inr ⟨k, hk, rfl, Or.inr ⟨c2, Int64.not_lt.mpr c3, c5, Or.inr ⟨c6, rfl, _, hR.1, hR.2.1, hR.2.2⟩⟩⟩)
            · refine go_aload X (z := 0) d_S_feed_86 rfl ?_
              refine go_aload X (z := 1) d_S_feed_88 rfl ?_
              refine go_aload_n X (z := 2) d_S_feed_90 rfl rfl ?_
              refine go_get X u_S rfl 5 (by decide) gm_fl_S_35 rfl d_S_feed_91 k16 rfl ?_
              refine go_lconst X (v := 0) d_S_feed_94 (by decide) ?_
              refine go_callV_V X (As := [.ref (bA ad k), .long now, .long 0]) (rest := []) (c_I_comeOnto kq k18 k19 k20 now 0) gm_ml_S_69 cw_I_comeOnto ⟨by decide, by decide⟩ rfl kq rfl rfl (Nat.le_of_ble_eq_true rfl) d_S_feed_95 ⟨by decide, by decide⟩ (fun g4 hc => ?_)
              have k37 : g4 (ad 0) = some (.inr (3, [.ref (ad 1), .int ((nI nb)), .ref (ad 2), .int ((nI ni)), .ref (ad 3), .long now])) := by rw [hc, va_up_ne _ _ (ne_cls k16 kq (by decide))]; exact k16
              have k38 : g4 (ad 2) = some (.inl (dA 4, 60, .inr (.inr (.inr (.inr (iTab ad ni)))))) := by rw [hc, va_up_ne _ _ (ne_kind2 k17 kq)]; exact k17
              have k39 : g4 (bA ad k) = some (.inr (0, [.int ((nI k)), .long ((bLen (B k))), .long ((bSpd (B k))), .long ((bSen (B k))), va_rf (((bOnto (B k)).map (bA ad))), .int ((bRun (B k))), .int ((bTel (B k))), .long ((bTold (B k))), .int ((bGb (B k))), .long ((bWat (B k))), .ref (bG ad k), .ref (bP ad k), .ref (bW ad k)])) := by rw [hc, va_up_ne _ _ (ne_cls k18 kq (by decide))]; exact k18
              have k40 : g4 (bP ad k) = some (.inl (dA 1, 8, .inr (.inl ((bFp (B k)))))) := by rw [hc, va_up_ne _ _ (ne_kind2 k19 kq)]; exact k19
              have k41 : g4 (bW ad k) = some (.inl (dA 1, 8, .inr (.inl ((bFw (B k)))))) := by rw [hc, va_up_ne _ _ (ne_kind2 k20 kq)]; exact k20
              have mq : g4 q7 = some (iCell ad ni (comeI B (len, some k, 1, at0, 0, 0, 0) k now 0)) := by rw [hc, va_up_self]; rfl
              refine go_aload_n X (z := 2) d_S_feed_98 rfl rfl ?_
              refine go_get X u_S rfl 2 (by decide) gm_fl_S_21 rfl d_S_feed_99 k37 rfl ?_
              refine go_aload_n X (z := 2) d_S_feed_102 rfl rfl ?_
              refine go_get X u_S rfl 3 (by decide) gm_fl_S_25 rfl d_S_feed_103 k37 rfl ?_
              refine go_aload X (z := 0) d_S_feed_106 rfl ?_
              refine go_aast X 4 2 rfl rfl d_S_feed_108 k38 mq (vp_in_nI hni (by decide)) ?_
              refine go_gen (fun g42 eg42 => ?_)
              have eg42 : g42 = va_up g4 (ad 2) (some (.inl (dA 4, 60, .inr (.inr (.inr (.inr (va_up (iTab ad ni) ni (some q7)))))))) := by rw [eg42, nI_clamp (show ni < 2 ^ 31 by omega)]
              have h43 : g42 (ad 0) = some (.inr (3, [.ref (ad 1), .int ((nI nb)), .ref (ad 2), .int ((nI ni)), .ref (ad 3), .long now])) := by rw [eg42, va_up_ne _ _ (ne_kind1 k37 k38)]; exact k37
              have h44 : g42 (bA ad k) = some (.inr (0, [.int ((nI k)), .long ((bLen (B k))), .long ((bSpd (B k))), .long ((bSen (B k))), va_rf (((bOnto (B k)).map (bA ad))), .int ((bRun (B k))), .int ((bTel (B k))), .long ((bTold (B k))), .int ((bGb (B k))), .long ((bWat (B k))), .ref (bG ad k), .ref (bP ad k), .ref (bW ad k)])) := by rw [eg42, va_up_ne _ _ (ne_kind1 k39 k38)]; exact k39
              have h45 : g42 (bP ad k) = some (.inl (dA 1, 8, .inr (.inl ((bFp (B k)))))) := by rw [eg42, va_up_ne _ _ (ne_arr12 k40 k38)]; exact k40
              have h46 : g42 (bW ad k) = some (.inl (dA 1, 8, .inr (.inl ((bFw (B k)))))) := by rw [eg42, va_up_ne _ _ (ne_arr12 k41 k38)]; exact k41
              have h47 : g42 q7 = some (.inr (2, [.int ((nI (ni + 1))), .long len, .ref (bA ad k), .int 0, .long ((iTurn (comeI B (len, some k, 1, at0, 0, 0, 0) k now 0))), .long ((iStart (comeI B (len, some k, 1, at0, 0, 0, 0) k now 0))), .int 0, .int 0])) := by rw [eg42, va_up_ne _ _ (ne_kind1 mq k38)]; exact mq
              have h48 : g42 (ad 2) = some (.inl (dA 4, 60, .inr (.inr (.inr (.inr (va_up (iTab ad ni) ni (some q7))))))) := by rw [eg42]; exact va_up_self _ _ _
              refine go_aload_n X (z := 2) d_S_feed_109 rfl rfl ?_
              refine go_dup X d_S_feed_110 rfl ?_
              refine go_get X u_S rfl 3 (by decide) gm_fl_S_25 rfl d_S_feed_111 h43 rfl ?_
              refine go_iconst X (v := 1) d_S_feed_114 (by decide) ?_
              refine go_iadd X d_S_feed_115 ?_
              refine go_topi (fun x49 ex49 => ?_)
              refine go_put X u_S rfl 3 (by decide) gm_fl_S_25 rfl t_S t_S_ok n_S rfl rfl rfl d_S_feed_116 h43 (Nat.le_of_ble_eq_true rfl) ?_
              refine go_gen (fun g50 eg50 => ?_)
              have eg50 : g50 = va_up g42 (ad 0) (some (.inr (3, [.ref (ad 1), .int ((nI nb)), .ref (ad 2), .int x49, .ref (ad 3), .long now]))) := eg50
              have h51 : g50 (ad 2) = some (.inl (dA 4, 60, .inr (.inr (.inr (.inr (va_up (iTab ad ni) ni (some q7))))))) := by rw [eg50, va_up_ne _ _ (ne_kind2 h48 h43)]; exact h48
              have h52 : g50 (bA ad k) = some (.inr (0, [.int ((nI k)), .long ((bLen (B k))), .long ((bSpd (B k))), .long ((bSen (B k))), va_rf (((bOnto (B k)).map (bA ad))), .int ((bRun (B k))), .int ((bTel (B k))), .long ((bTold (B k))), .int ((bGb (B k))), .long ((bWat (B k))), .ref (bG ad k), .ref (bP ad k), .ref (bW ad k)])) := by rw [eg50, va_up_ne _ _ (ne_cls h44 h43 (by decide))]; exact h44
              have h53 : g50 (bP ad k) = some (.inl (dA 1, 8, .inr (.inl ((bFp (B k)))))) := by rw [eg50, va_up_ne _ _ (ne_kind2 h45 h43)]; exact h45
              have h54 : g50 (bW ad k) = some (.inl (dA 1, 8, .inr (.inl ((bFw (B k)))))) := by rw [eg50, va_up_ne _ _ (ne_kind2 h46 h43)]; exact h46
              have h55 : g50 q7 = some (.inr (2, [.int ((nI (ni + 1))), .long len, .ref (bA ad k), .int 0, .long ((iTurn (comeI B (len, some k, 1, at0, 0, 0, 0) k now 0))), .long ((iStart (comeI B (len, some k, 1, at0, 0, 0, 0) k now 0))), .int 0, .int 0])) := by rw [eg50, va_up_ne _ _ (ne_cls h47 h43 (by decide))]; exact h47
              have h56 : g50 (ad 0) = some (.inr (3, [.ref (ad 1), .int ((nI nb)), .ref (ad 2), .int x49, .ref (ad 3), .long now])) := by rw [eg50]; exact va_up_self _ _ _
              refine go_aload X (z := 0) d_S_feed_119 rfl ?_
              refine go_get X u_I rfl 0 (by decide) gm_fl_S_73 rfl d_S_feed_121 h55 rfl ?_
              have nba : nI ni + 1 = nI (ni + 1) := nI_1 ni
              have cc4 : g50 (ad 0) = some (sCell ad nb (ni + 1) now) := by rw [h56, ex49, nba]
              have cc5 : g50 (ad 2) = some (refE dA 4 60 (va_up (iTab ad ni) ni (some q7))) := h51
              have cc0 : g50 q7 = some (iCell ad ni (comeI B (len, some k, 1, at0, 0, 0, 0) k now 0)) := h55
              have hR := newItem_rep h hni (x := comeI B (len, some k, 1, at0, 0, 0, 0) k now 0) hq7 (fun j hj => by cases hj; exact hk) (g' := g50) cc0 cc4 cc5 (fun z a0 a4 a5 => by rw [eg50, va_up_ne _ _ a4, eg42, va_up_ne _ _ a5, hc, va_up_ne _ _ a0, hi, va_up_ne _ _ a0, eg9, va_up_ne _ _ a0])
              rw [show (comeI B (len, some k, 1, at0, 0, 0, 0) k now 0 : IT) = (if at0 = now then comeI B (len, some k, 1, at0, 0, 0, 0) k now 0 else (len, some k, 1, at0, 0, 0, 0)) from (if_pos c21).symm] at hR
              refine go_widen (k := 1) (n := 8) (by decide) (by decide) ?_
              exact go_retI X hr hlk d_S_feed_124 (Or.inr ⟨k, hk, rfl, Or.inr ⟨c2, Int64.not_lt.mpr c3, c5, Or.inr ⟨c6, rfl, _, hR.1, hR.2.1, hR.2.2⟩⟩⟩)
          · refine go_bipush X (v := (-14)) d_S_feed_53 (by decide) ?_
            refine go_widen (k := 1) (n := 8) (by decide) (by decide) ?_
            exact go_retI X hr hlk d_S_feed_55 (Or.inr ⟨k, hk, rfl, Or.inr ⟨c2, Int64.not_lt.mpr c3, c5, Or.inl ⟨c6, rfl, rfl⟩⟩⟩)
        · refine go_bipush X (v := (-12)) d_S_feed_41 (by decide) ?_
          refine go_widen (k := 1) (n := 8) (by decide) (by decide) ?_
          exact go_retI X hr hlk d_S_feed_43 (Or.inr ⟨k, hk, rfl, Or.inl ⟨Or.inr (Or.inr c5), rfl, rfl⟩⟩)
      · refine go_bipush X (v := (-12)) d_S_feed_29 (by decide) ?_
        refine go_widen (k := 1) (n := 8) (by decide) (by decide) ?_
        exact go_retI X hr hlk d_S_feed_31 (Or.inr ⟨k, hk, rfl, Or.inl ⟨Or.inr (Or.inl (Int64.not_le.mp c3)), rfl, rfl⟩⟩)
  · refine go_astoreN X (lv' := [(6, .null), (0, .ref (ad 0)), (1, .int x), (2, .long len), (4, .long at0)]) d_S_feed_5 (by decide) rfl ?_
    refine go_aloadN X (z := 0) d_S_feed_7 rfl ?_
    refine go_ifnonnullN X d_S_feed_9 ?_
    refine go_bipush X (v := (-11)) d_S_feed_12 (by decide) ?_
    refine go_widen (k := 1) (n := 8) (by decide) (by decide) ?_
    exact go_retI X hr hlk d_S_feed_14 (Or.inl ⟨hnok, rfl, rfl⟩)
set_option maxHeartbeats 4000000 in
set_option maxRecDepth 100000 in
theorem c_S_init {l : Launch} {D : va_G} {dA : Nat → ClassId} {g : Nat → Option va_E}  {a : Nat} (hS : g a = some (.inr (3, [.null, .int 0, .null, .int 0, .null, .long 0]))) : CtV l D classes (tyL dA) y_S_init b_S_init 1 none rm_S_init [.ref a] g (fun g' => ∃ ad, ad 0 = a ∧ (∀ r, okR 0 0 r → r ≠ 0 → g (ad r) = none) ∧ (∀ z e, z ≠ a → g z = some e → g' z = some e) ∧ ∀ (B : Nat → BT) (I : Nat → IT), SRep dA ad g' 0 0 0 B I 0 0 (fun _ => 0)) := by
  refine CtV.of (by decide) (Nat.le_of_ble_eq_true rfl) ?_
  intro p e s m below meth c X hr hlk hnm
  refine go_aload_n X (z := 0) d_S_init_0 rfl rfl ?_
  refine go_objInit X gm_ml_S_1 gm_im_O_init gm_code_O_init d_S_init_1 (by decide) (Nat.le_of_ble_eq_true rfl) ?_
  refine go_aload_n X (z := 0) d_S_init_4 rfl rfl ?_
  refine go_bipush X (v := 12) d_S_init_5 (by decide) ?_
  refine go_newq X 3 (N := 12) rfl gm_cl_S_9 X.2.1.2.1 (by decide) (by decide) (by decide) (by decide) (by decide) d_S_init_7 (fun q1 hq1 => ?_)
  refine go_gen (fun g2 eg2 => ?_)
  have eg2 : g2 = va_up g q1 (some (.inl (dA 3, 12, .inr (.inr (.inr (.inr (fun _ => none))))))) := eg2
  have h3 : g2 a = some (.inr (3, [.null, .int 0, .null, .int 0, .null, .long 0])) := by rw [eg2, va_up_ne _ _ (ne_fresh hS hq1)]; exact hS
  have h4 : g2 q1 = some (.inl (dA 3, 12, .inr (.inr (.inr (.inr (fun _ => none)))))) := by rw [eg2]; exact va_up_self _ _ _
  refine go_putF X u_S rfl 0 (by decide) gm_fl_S_11 rfl t_S t_S_ok n_S rfl hnm rfl rfl rfl d_S_init_10 h3 (Nat.le_of_ble_eq_true rfl) ?_
  refine go_gen (fun g5 eg5 => ?_)
  have eg5 : g5 = va_up g2 a (some (.inr (3, [.ref q1, .int 0, .null, .int 0, .null, .long 0]))) := eg5
  have h6 : g5 q1 = some (.inl (dA 3, 12, .inr (.inr (.inr (.inr (fun _ => none)))))) := by rw [eg5, va_up_ne _ _ (ne_kind2 h4 h3)]; exact h4
  have h7 : g5 a = some (.inr (3, [.ref q1, .int 0, .null, .int 0, .null, .long 0])) := by rw [eg5]; exact va_up_self _ _ _
  refine go_aload_n X (z := 0) d_S_init_13 rfl rfl ?_
  refine go_iconst X (v := 0) d_S_init_14 (by decide) ?_
  refine go_put X u_S rfl 1 (by decide) gm_fl_S_15 rfl t_S t_S_ok n_S rfl rfl rfl d_S_init_15 h7 (Nat.le_of_ble_eq_true rfl) ?_
  refine go_gen (fun g8 eg8 => ?_)
  have eg8 : g8 = va_up g5 a (some (.inr (3, [.ref q1, .int 0, .null, .int 0, .null, .long 0]))) := eg8
  have h9 : g8 q1 = some (.inl (dA 3, 12, .inr (.inr (.inr (.inr (fun _ => none)))))) := by rw [eg8, va_up_ne _ _ (ne_kind2 h6 h7)]; exact h6
  have h10 : g8 a = some (.inr (3, [.ref q1, .int 0, .null, .int 0, .null, .long 0])) := by rw [eg8]; exact va_up_self _ _ _
  refine go_aload_n X (z := 0) d_S_init_18 rfl rfl ?_
  refine go_bipush X (v := 60) d_S_init_19 (by decide) ?_
  refine go_newq X 4 (N := 60) rfl gm_cl_S_19 X.2.1.2.2.1 (by decide) (by decide) (by decide) (by decide) (by decide) d_S_init_21 (fun q11 hq11 => ?_)
  refine go_gen (fun g12 eg12 => ?_)
  have eg12 : g12 = va_up g8 q11 (some (.inl (dA 4, 60, .inr (.inr (.inr (.inr (fun _ => none))))))) := eg12
  have h13 : g12 a = some (.inr (3, [.ref q1, .int 0, .null, .int 0, .null, .long 0])) := by rw [eg12, va_up_ne _ _ (ne_fresh h10 hq11)]; exact h10
  have h14 : g12 q1 = some (.inl (dA 3, 12, .inr (.inr (.inr (.inr (fun _ => none)))))) := by rw [eg12, va_up_ne _ _ (ne_fresh h9 hq11)]; exact h9
  have h15 : g12 q11 = some (.inl (dA 4, 60, .inr (.inr (.inr (.inr (fun _ => none)))))) := by rw [eg12]; exact va_up_self _ _ _
  refine go_putF X u_S rfl 2 (by decide) gm_fl_S_21 rfl t_S t_S_ok n_S rfl hnm rfl rfl rfl d_S_init_24 h13 (Nat.le_of_ble_eq_true rfl) ?_
  refine go_gen (fun g16 eg16 => ?_)
  have eg16 : g16 = va_up g12 a (some (.inr (3, [.ref q1, .int 0, .ref q11, .int 0, .null, .long 0]))) := eg16
  have h17 : g16 q1 = some (.inl (dA 3, 12, .inr (.inr (.inr (.inr (fun _ => none)))))) := by rw [eg16, va_up_ne _ _ (ne_kind2 h14 h13)]; exact h14
  have h18 : g16 q11 = some (.inl (dA 4, 60, .inr (.inr (.inr (.inr (fun _ => none)))))) := by rw [eg16, va_up_ne _ _ (ne_kind2 h15 h13)]; exact h15
  have h19 : g16 a = some (.inr (3, [.ref q1, .int 0, .ref q11, .int 0, .null, .long 0])) := by rw [eg16]; exact va_up_self _ _ _
  refine go_aload_n X (z := 0) d_S_init_27 rfl rfl ?_
  refine go_iconst X (v := 0) d_S_init_28 (by decide) ?_
  refine go_put X u_S rfl 3 (by decide) gm_fl_S_25 rfl t_S t_S_ok n_S rfl rfl rfl d_S_init_29 h19 (Nat.le_of_ble_eq_true rfl) ?_
  refine go_gen (fun g20 eg20 => ?_)
  have eg20 : g20 = va_up g16 a (some (.inr (3, [.ref q1, .int 0, .ref q11, .int 0, .null, .long 0]))) := eg20
  have h21 : g20 q1 = some (.inl (dA 3, 12, .inr (.inr (.inr (.inr (fun _ => none)))))) := by rw [eg20, va_up_ne _ _ (ne_kind2 h17 h19)]; exact h17
  have h22 : g20 q11 = some (.inl (dA 4, 60, .inr (.inr (.inr (.inr (fun _ => none)))))) := by rw [eg20, va_up_ne _ _ (ne_kind2 h18 h19)]; exact h18
  have h23 : g20 a = some (.inr (3, [.ref q1, .int 0, .ref q11, .int 0, .null, .long 0])) := by rw [eg20]; exact va_up_self _ _ _
  refine go_aload_n X (z := 0) d_S_init_32 rfl rfl ?_
  refine go_new X (ci := 1) (fs := [.null, .int 0, .int 0]) u_E t_E t_E_ok gm_cl_S_28 gm_inst_E gm_ini_E rfl (by decide +kernel) (by decide) (by decide) d_S_init_33 (fun q24 hq24 => ?_)
  refine go_gen (fun g26 eg26 => ?_)
  have eg26 : g26 = va_up g20 q24 (some (.inr (1, [.null, .int 0, .int 0]))) := eg26
  have h27 : g26 a = some (.inr (3, [.ref q1, .int 0, .ref q11, .int 0, .null, .long 0])) := by rw [eg26, va_up_ne _ _ (ne_fresh h23 hq24)]; exact h23
  have h28 : g26 q1 = some (.inl (dA 3, 12, .inr (.inr (.inr (.inr (fun _ => none)))))) := by rw [eg26, va_up_ne _ _ (ne_fresh h21 hq24)]; exact h21
  have h29 : g26 q11 = some (.inl (dA 4, 60, .inr (.inr (.inr (.inr (fun _ => none)))))) := by rw [eg26, va_up_ne _ _ (ne_fresh h22 hq24)]; exact h22
  have h30 : g26 q24 = some (.inr (1, [.null, .int 0, .int 0])) := by rw [eg26]; exact va_up_self _ _ _
  refine go_dup X d_S_init_36 rfl ?_
  refine go_callV_IN X (As := []) (rest := [.ref q24, .ref a]) (c_E_init h30) X.2.1.2.2.2 cw_E_init ⟨by decide, by decide⟩ rfl rfl (Nat.le_of_ble_eq_true rfl) d_S_init_37 ⟨by decide, by decide⟩ (fun g9 hi => ?_)
  obtain ⟨ar, zr, e9⟩ := hi
  have k31 : g9 a = some (.inr (3, [.ref q1, .int 0, .ref q11, .int 0, .null, .long 0])) := by rw [e9, va_up_ne _ _ (ne_cls h27 h30 (by decide)), va_up_ne _ _ (ne_fresh h27 zr)]; exact h27
  have k32 : g9 q1 = some (.inl (dA 3, 12, .inr (.inr (.inr (.inr (fun _ => none)))))) := by rw [e9, va_up_ne _ _ (ne_kind2 h28 h30), va_up_ne _ _ (ne_fresh h28 zr)]; exact h28
  have k33 : g9 q11 = some (.inl (dA 4, 60, .inr (.inr (.inr (.inr (fun _ => none)))))) := by rw [e9, va_up_ne _ _ (ne_kind2 h29 h30), va_up_ne _ _ (ne_fresh h29 zr)]; exact h29
  have ke : g9 q24 = some (edgeE ar 0 0) := by rw [e9, va_up_self]
  have kr : g9 ar = some (intE dA 1600 (fun _ => 0)) := by rw [e9, va_up_ne _ _ (ne_fresh h30 zr).symm, va_up_self]
  refine go_putF X u_S rfl 4 (by decide) gm_fl_S_31 rfl t_S t_S_ok n_S rfl hnm rfl rfl rfl d_S_init_40 k31 (Nat.le_of_ble_eq_true rfl) ?_
  refine go_gen (fun g34 eg34 => ?_)
  have eg34 : g34 = va_up g9 a (some (.inr (3, [.ref q1, .int 0, .ref q11, .int 0, .ref q24, .long 0]))) := eg34
  have h35 : g34 q1 = some (.inl (dA 3, 12, .inr (.inr (.inr (.inr (fun _ => none)))))) := by rw [eg34, va_up_ne _ _ (ne_kind2 k32 k31)]; exact k32
  have h36 : g34 q11 = some (.inl (dA 4, 60, .inr (.inr (.inr (.inr (fun _ => none)))))) := by rw [eg34, va_up_ne _ _ (ne_kind2 k33 k31)]; exact k33
  have h37 : g34 q24 = some (.inr (1, [.ref ar, .int 0, .int 0])) := by rw [eg34, va_up_ne _ _ (ne_cls ke k31 (by decide))]; exact ke
  have h38 : g34 ar = some (.inl (dA 0, 1600, .inl (fun _ => 0))) := by rw [eg34, va_up_ne _ _ (ne_kind2 kr k31)]; exact kr
  have h39 : g34 a = some (.inr (3, [.ref q1, .int 0, .ref q11, .int 0, .ref q24, .long 0])) := by rw [eg34]; exact va_up_self _ _ _
  refine go_aload_n X (z := 0) d_S_init_43 rfl rfl ?_
  refine go_lconst X (v := 0) d_S_init_44 (by decide) ?_
  refine go_put X u_S rfl 5 (by decide) gm_fl_S_35 rfl t_S t_S_ok n_S rfl rfl rfl d_S_init_45 h39 (Nat.le_of_ble_eq_true rfl) ?_
  refine go_gen (fun g40 eg40 => ?_)
  have eg40 : g40 = va_up g34 a (some (.inr (3, [.ref q1, .int 0, .ref q11, .int 0, .ref q24, .long 0]))) := eg40
  have h41 : g40 q1 = some (.inl (dA 3, 12, .inr (.inr (.inr (.inr (fun _ => none)))))) := by rw [eg40, va_up_ne _ _ (ne_kind2 h35 h39)]; exact h35
  have h42 : g40 q11 = some (.inl (dA 4, 60, .inr (.inr (.inr (.inr (fun _ => none)))))) := by rw [eg40, va_up_ne _ _ (ne_kind2 h36 h39)]; exact h36
  have h43 : g40 q24 = some (.inr (1, [.ref ar, .int 0, .int 0])) := by rw [eg40, va_up_ne _ _ (ne_cls h37 h39 (by decide))]; exact h37
  have h44 : g40 ar = some (.inl (dA 0, 1600, .inl (fun _ => 0))) := by rw [eg40, va_up_ne _ _ (ne_kind2 h38 h39)]; exact h38
  have h45 : g40 a = some (.inr (3, [.ref q1, .int 0, .ref q11, .int 0, .ref q24, .long 0])) := by rw [eg40]; exact va_up_self _ _ _
  have zq1 := hq1
  have nq1a : q1 ≠ a := (ne_fresh hS hq1).symm
  rw [eg8, eg5, eg2] at hq11
  simp only [bx_uu, up_mid] at hq11
  obtain ⟨nq11a, zq11⟩ := up_none hq11
  obtain ⟨nq11q1, zq11⟩ := up_none zq11
  rw [eg20, eg16, eg12, eg8, eg5, eg2] at hq24
  simp only [bx_uu, up_mid] at hq24
  obtain ⟨nq24a, zq24⟩ := up_none hq24
  obtain ⟨nq24q11, zq24⟩ := up_none zq24
  obtain ⟨nq24q1, zq24⟩ := up_none zq24
  rw [eg26, eg20, eg16, eg12, eg8, eg5, eg2] at zr
  simp only [bx_uu, up_mid] at zr
  obtain ⟨nre, zr⟩ := up_none zr
  obtain ⟨nra, zr⟩ := up_none zr
  obtain ⟨nr2, zr⟩ := up_none zr
  obtain ⟨nr1, zr⟩ := up_none zr
  have e0 : ∀ ad : Nat → Nat, bTab ad 0 = fun _ => none := fun ad => funext fun i => if_neg (Nat.not_lt_zero i)
  have e00 : ∀ ad : Nat → Nat, iTab ad 0 = fun _ => none := fun ad => funext fun i => if_neg (Nat.not_lt_zero i)
  refine go_widen (k := 4) (n := 1675) (by decide) (by decide) ?_
  refine go_retV X hr hlk d_S_init_48 ⟨fun r => if r = 0 then a else if r = 1 then q1 else if r = 2 then q11 else if r = 3 then q24 else ar, rfl, ?_, ?_, ?_⟩
  · intro r hr0 hne
    have h5 : r = 1 ∨ r = 2 ∨ r = 3 ∨ r = 4 := by rcases hr0 with z | z | z <;> omega
    rcases h5 with rfl | rfl | rfl | rfl
    · exact zq1
    · exact zq11
    · exact zq24
    · exact zr
  · intro z e0 hza hg
    rw [eg40, va_up_ne _ _ hza, eg34, va_up_ne _ _ hza, e9, va_up_ne _ _ (ne_fresh hg zq24), va_up_ne _ _ (ne_fresh hg zr), eg26, va_up_ne _ _ (ne_fresh hg zq24), eg20, va_up_ne _ _ hza, eg16, va_up_ne _ _ hza, eg12, va_up_ne _ _ (ne_fresh hg zq11), eg8, va_up_ne _ _ hza, eg5, va_up_ne _ _ hza, eg2, va_up_ne _ _ (ne_fresh hg zq1)]
    exact hg
  · intro B I
    refine ⟨?_, h45, ?_, ?_, h43, h44, fun i hi => absurd hi (Nat.not_lt_zero i), fun i hi => absurd hi (Nat.not_lt_zero i), by decide, by decide, fun i hi => absurd hi (Nat.not_lt_zero i), fun i hi => absurd hi (Nat.not_lt_zero i)⟩
    · intro r r' h1 h2 e
      have h5 : r = 0 ∨ r = 1 ∨ r = 2 ∨ r = 3 ∨ r = 4 := by rcases h1 with z | z | z <;> omega
      have h6 : r' = 0 ∨ r' = 1 ∨ r' = 2 ∨ r' = 3 ∨ r' = 4 := by rcases h2 with z | z | z <;> omega
      have d1 := ne_kind1 h45 h41
      have d2 := ne_kind1 h45 h42
      have d3 := ne_cls h45 h43 (by decide)
      have d4 := ne_kind1 h45 h44
      have d5 := nq11q1
      have d6 := ne_kind2 h41 h43
      have d7 := ne_arr20 h41 h44
      have d8 := ne_kind2 h42 h43
      have d9 := ne_arr20 h42 h44
      have d10 := ne_kind1 h43 h44
      rcases h5 with rfl | rfl | rfl | rfl | rfl <;> rcases h6 with rfl | rfl | rfl | rfl | rfl <;> first | rfl | exact absurd e d1 | exact absurd e d2 | exact absurd e d3 | exact absurd e d4 | exact absurd e d5 | exact absurd e d6 | exact absurd e d7 | exact absurd e d8 | exact absurd e d9 | exact absurd e d10 | exact absurd e.symm d1 | exact absurd e.symm d2 | exact absurd e.symm d3 | exact absurd e.symm d4 | exact absurd e.symm d5 | exact absurd e.symm d6 | exact absurd e.symm d7 | exact absurd e.symm d8 | exact absurd e.symm d9 | exact absurd e.symm d10
    · rw [e0]; exact h41
    · rw [e00]; exact h42
end S6
end
section
/-! The reference's state, and the heap that holds it: L its arrays of longs, J those of ints and booleans, by the places of its fields. -/
abbrev mCell (ad : Nat → Nat) (th : Int32) (now : Int64) (nb ni ed : Nat) (kn : Int32) : va_E := .inr (4, [.int th, .long now, .int ((nI nb)), .ref (ad 3), .ref (ad 4), .ref (ad 5), .ref (ad 6), .ref (ad 7), .ref (ad 8), .ref (ad 9), .ref (ad 10), .int ((nI ni)), .ref (ad 12), .ref (ad 13), .ref (ad 14), .ref (ad 15), .ref (ad 16), .ref (ad 17), .ref (ad 18), .int ((nI ed)), .int kn, .ref (ad 21), .ref (ad 22), .ref (ad 23), .ref (ad 24)])
def mL (k : Nat) : Bool := k == 3 || k == 4 || k == 6 || k == 10 || k == 12 || k == 13 || k == 15 || k == 21
def mZ (k : Nat) : Bool := k == 7 || k == 16 || k == 17 || k == 18
def mI (k : Nat) : Bool := k == 5 || k == 8 || k == 9 || k == 14 || k == 22 || k == 23 || k == 24
def mok (k : Nat) : Bool := k == 0 || mL k || mZ k || mI k
def msz (k : Nat) : Nat := if k < 11 then 12 else if k < 20 then 61 else 400
abbrev LA : Type := Nat → Nat → Int64
abbrev JA : Type := Nat → Nat → Int32
def mcell (dA : Nat → ClassId) (ad : Nat → Nat) (th : Int32) (now : Int64) (nb ni ed : Nat) (kn : Int32) (L : LA) (J : JA) (k : Nat) : va_E := if k = 0 then mCell ad th now nb ni ed kn else if mL k = true then lonE dA (msz k) (L k) else if mZ k = true then booE dA (msz k) (J k) else intE dA (msz k) (J k)
def MRep (dA : Nat → ClassId) (ad : Nat → Nat) (g : Nat → Option va_E) (th : Int32) (now : Int64) (nb ni ed : Nat) (kn : Int32) (L : LA) (J : JA) : Prop :=
  (∀ j k, mok j = true → mok k = true → ad j = ad k → j = k) ∧ ∀ k, mok k = true → g (ad k) = some (mcell dA ad th now nb ni ed kn L J k)
def MFr (ad : Nat → Nat) (g g' : Nat → Option va_E) : Prop := ∀ a e, (∀ k, mok k = true → a ≠ ad k) → g a = some e → g' a = some e
theorem MFr.rfl' {ad : Nat → Nat} {g : Nat → Option va_E} : MFr ad g g := fun _ _ _ h => h
theorem MFr.trans {ad : Nat → Nat} {g g1 g2 : Nat → Option va_E} (h1 : MFr ad g g1) (h2 : MFr ad g1 g2) : MFr ad g g2 := fun a e h q => h2 a e h (h1 a e h q)
theorem MFr.up {ad : Nat → Nat} {k : Nat} {g : Nat → Option va_E} {e : Option va_E} (hk : mok k = true) : MFr ad g (va_up g (ad k) e) := fun a e0 h q => by rw [va_up_ne _ _ (h k hk)]; exact q
section MREP
variable {dA : Nat → ClassId} {ad : Nat → Nat} {g : Nat → Option va_E} {th : Int32} {now : Int64} {nb ni ed : Nat} {kn : Int32} {L : LA} {J : JA}
theorem MRep.ne (h : MRep dA ad g th now nb ni ed kn L J) (j k : Nat) (hj : mok j = true := by rfl) (hk : mok k = true := by rfl) (hne : j ≠ k := by decide) : ad j ≠ ad k := fun q => hne (h.1 j k hj hk q)
theorem MRep.this (h : MRep dA ad g th now nb ni ed kn L J) : g (ad 0) = some (mCell ad th now nb ni ed kn) := h.2 0 rfl
theorem MRep.a3 (h : MRep dA ad g th now nb ni ed kn L J) : g (ad 3) = some (lonE dA 12 (L 3)) := h.2 3 rfl
theorem MRep.a4 (h : MRep dA ad g th now nb ni ed kn L J) : g (ad 4) = some (lonE dA 12 (L 4)) := h.2 4 rfl
theorem MRep.a5 (h : MRep dA ad g th now nb ni ed kn L J) : g (ad 5) = some (intE dA 12 (J 5)) := h.2 5 rfl
theorem MRep.a6 (h : MRep dA ad g th now nb ni ed kn L J) : g (ad 6) = some (lonE dA 12 (L 6)) := h.2 6 rfl
theorem MRep.a7 (h : MRep dA ad g th now nb ni ed kn L J) : g (ad 7) = some (booE dA 12 (J 7)) := h.2 7 rfl
theorem MRep.a8 (h : MRep dA ad g th now nb ni ed kn L J) : g (ad 8) = some (intE dA 12 (J 8)) := h.2 8 rfl
theorem MRep.a9 (h : MRep dA ad g th now nb ni ed kn L J) : g (ad 9) = some (intE dA 12 (J 9)) := h.2 9 rfl
theorem MRep.a10 (h : MRep dA ad g th now nb ni ed kn L J) : g (ad 10) = some (lonE dA 12 (L 10)) := h.2 10 rfl
theorem MRep.a12 (h : MRep dA ad g th now nb ni ed kn L J) : g (ad 12) = some (lonE dA 61 (L 12)) := h.2 12 rfl
theorem MRep.a13 (h : MRep dA ad g th now nb ni ed kn L J) : g (ad 13) = some (lonE dA 61 (L 13)) := h.2 13 rfl
theorem MRep.a14 (h : MRep dA ad g th now nb ni ed kn L J) : g (ad 14) = some (intE dA 61 (J 14)) := h.2 14 rfl
theorem MRep.a15 (h : MRep dA ad g th now nb ni ed kn L J) : g (ad 15) = some (lonE dA 61 (L 15)) := h.2 15 rfl
theorem MRep.a16 (h : MRep dA ad g th now nb ni ed kn L J) : g (ad 16) = some (booE dA 61 (J 16)) := h.2 16 rfl
theorem MRep.a17 (h : MRep dA ad g th now nb ni ed kn L J) : g (ad 17) = some (booE dA 61 (J 17)) := h.2 17 rfl
theorem MRep.a18 (h : MRep dA ad g th now nb ni ed kn L J) : g (ad 18) = some (booE dA 61 (J 18)) := h.2 18 rfl
theorem MRep.a21 (h : MRep dA ad g th now nb ni ed kn L J) : g (ad 21) = some (lonE dA 400 (L 21)) := h.2 21 rfl
theorem MRep.a22 (h : MRep dA ad g th now nb ni ed kn L J) : g (ad 22) = some (intE dA 400 (J 22)) := h.2 22 rfl
theorem MRep.a23 (h : MRep dA ad g th now nb ni ed kn L J) : g (ad 23) = some (intE dA 400 (J 23)) := h.2 23 rfl
theorem MRep.a24 (h : MRep dA ad g th now nb ni ed kn L J) : g (ad 24) = some (intE dA 400 (J 24)) := h.2 24 rfl
theorem MRep.set0 (h : MRep dA ad g th now nb ni ed kn L J) {th' : Int32} {now' : Int64} {nb' ni' ed' : Nat} {kn' : Int32} : MRep dA ad (va_up g (ad 0) (some (mCell ad th' now' nb' ni' ed' kn'))) th' now' nb' ni' ed' kn' L J := by
  refine ⟨h.1, fun k hk => ?_⟩
  by_cases h0 : k = 0
  · subst h0
    rw [va_up_self]
    rfl
  · rw [va_up_ne _ _ (fun q => h0 (h.1 k 0 hk rfl q)), h.2 k hk]
    unfold mcell
    rw [if_neg h0, if_neg h0]
theorem MRep.setL (h : MRep dA ad g th now nb ni ed kn L J) (j : Nat) (f : Nat → Int64) (hj : mL j = true := by rfl) (hj0 : mok j = true := by rfl) (hz : j ≠ 0 := by decide) : MRep dA ad (va_up g (ad j) (some (lonE dA (msz j) f))) th now nb ni ed kn (va_up L j f) J := by
  refine ⟨h.1, fun k hk => ?_⟩
  by_cases h0 : k = j
  · subst h0
    rw [va_up_self]
    unfold mcell
    rw [if_neg hz, if_pos hj, va_up_self]
  · rw [va_up_ne _ _ (fun q => h0 (h.1 k j hk hj0 q)), h.2 k hk]
    unfold mcell
    rw [va_up_ne _ _ h0]
theorem MRep.setZ (h : MRep dA ad g th now nb ni ed kn L J) (j : Nat) (f : Nat → Int32) (hj : mZ j = true := by rfl) (hl : mL j = false := by rfl) (hj0 : mok j = true := by rfl) (hz : j ≠ 0 := by decide) : MRep dA ad (va_up g (ad j) (some (booE dA (msz j) f))) th now nb ni ed kn L (va_up J j f) := by
  refine ⟨h.1, fun k hk => ?_⟩
  by_cases h0 : k = j
  · subst h0
    rw [va_up_self]
    unfold mcell
    rw [if_neg hz, hl, if_neg (by decide), if_pos hj, va_up_self]
  · rw [va_up_ne _ _ (fun q => h0 (h.1 k j hk hj0 q)), h.2 k hk]
    unfold mcell
    rw [va_up_ne _ _ h0]
theorem MRep.setJ (h : MRep dA ad g th now nb ni ed kn L J) (j : Nat) (f : Nat → Int32) (hj : mZ j = false := by rfl) (hl : mL j = false := by rfl) (hj0 : mok j = true := by rfl) (hz : j ≠ 0 := by decide) : MRep dA ad (va_up g (ad j) (some (intE dA (msz j) f))) th now nb ni ed kn L (va_up J j f) := by
  refine ⟨h.1, fun k hk => ?_⟩
  by_cases h0 : k = j
  · subst h0
    rw [va_up_self]
    unfold mcell
    rw [if_neg hz, hl, if_neg (by decide), hj, if_neg (by decide), va_up_self]
  · rw [va_up_ne _ _ (fun q => h0 (h.1 k j hk hj0 q)), h.2 k hk]
    unfold mcell
    rw [va_up_ne _ _ h0]
end MREP
/-- places of belts that are used as indices are in range -/
def MWf (nb ni : Nat) (J : JA) : Prop := nb ≤ 12 ∧ ni ≤ 60 ∧ (∀ i, 1 ≤ i → i ≤ ni → ∃ j, j < nb ∧ J 14 i = nI j) ∧ ∀ b, b < nb → J 5 b = -1 ∨ ∃ j, j < nb ∧ J 5 b = nI j
/-! the reference's methods as functions -/
def inF (v a b : Int64) : Int32 := if v < a then 0 else if b < v then 0 else 1
def isBF (nb : Nat) (x : Int32) : Int32 := if x < 0 then 0 else if nI nb ≤ x then 0 else 1
def isIF (ni : Nat) (x : Int32) : Int32 := if x ≤ 0 then 0 else if nI ni < x then 0 else 1
def gearQ (L : LA) (J : JA) (b : Nat) (m : Int64) : Int64 := if J 7 b = 0 then (J 8 b).toInt64 - ((m - L 6 b) / 20 + 1) else (J 8 b).toInt64 + ((m - L 6 b) / 20 + 1)
def gearMF (L : LA) (J : JA) (b : Nat) (m : Int64) : Int32 := if gearQ L J b m ≤ 8 then (if 0 ≤ gearQ L J b m then (gearQ L J b m).toInt32 else 0) else 8
def rateMF (L : LA) (J : JA) (b : Nat) (m : Int64) : Int64 := L 4 b * (gearMF L J b m).toInt64 / 8
def thereF (now : Int64) (L : LA) (J : JA) (i : Nat) : Int32 := if J 16 i = 0 then (if now < L 13 i then 0 else 1) else 0
end
section
/-! The reference: its small methods, tell, isShort. -/
def tlL (L : LA) (ed : Nat) (now : Int64) : LA := if 400 ≤ ed then L else va_up L 21 (vp_updL (L 21) ed now)
def tlJ (J : JA) (ed i : Nat) (kind : Int32) : JA := if 400 ≤ ed then J else va_up (va_up (va_up J 22 (upd (J 22) ed (J 14 i))) 23 (upd (J 23) ed (nI i))) 24 (upd (J 24) ed kind)
def mK (now : Int64) (L : LA) (J : JA) (i k : Nat) : Prop := nI k ≠ nI i ∧ ¬ thereF now L J k = 0 ∧ J 14 k = J 14 i ∧ (L 15 i < L 15 k ∨ (L 15 k = L 15 i ∧ nI k < nI i)) ∧ L 15 k - L 12 k < L 15 i + 50000
noncomputable def shMU (now : Int64) (L : LA) (J : JA) (i k : Nat) : Int32 := by
  classical
  exact if ∃ q, 1 ≤ q ∧ q < k ∧ mK now L J i q then 1 else 0
theorem shMU_1 {now : Int64} {L : LA} {J : JA} {i k : Nat} (hk : 1 ≤ k) (h : mK now L J i k) : shMU now L J i (k + 1) = 1 := if_pos ⟨k, hk, Nat.lt_succ_self k, h⟩
theorem shMU_n {now : Int64} {L : LA} {J : JA} {i k : Nat} (h : ¬ mK now L J i k) : shMU now L J i (k + 1) = shMU now L J i k := by
  unfold shMU
  by_cases hx : ∃ q, 1 ≤ q ∧ q < k ∧ mK now L J i q
  · rw [if_pos hx, if_pos]
    obtain ⟨q, a, b, c⟩ := hx
    exact ⟨q, a, by omega, c⟩
  · rw [if_neg hx, if_neg]
    intro ⟨q, a, b, c⟩
    by_cases hq : q = k
    · subst hq; exact h c
    · exact hx ⟨q, a, by omega, c⟩
theorem shMU_o {now : Int64} {L : LA} {J : JA} {i k : Nat} (h : ¬ shMU now L J i k = 0) : shMU now L J i (k + 1) = 1 := by
  unfold shMU at h ⊢
  by_cases hx : ∃ q, 1 ≤ q ∧ q < k ∧ mK now L J i q
  · rw [if_pos]
    obtain ⟨q, a, b, c⟩ := hx
    exact ⟨q, a, by omega, c⟩
  · rw [if_neg hx] at h
    exact absurd rfl h
theorem shMU_0 {now : Int64} {L : LA} {J : JA} {i : Nat} : shMU now L J i 1 = 0 := if_neg (fun ⟨q, a, b, _⟩ => by omega)
theorem inF_n (v a b : Int64) : narrow .boolean (.int (inF v a b)) = .int (inF v a b) := by
  unfold inF
  repeat' split
  all_goals rfl
theorem shMU_nz {now : Int64} {L : LA} {J : JA} {i k : Nat} : narrow .boolean (.int (shMU now L J i k)) = .int (shMU now L J i k) := by
  unfold shMU
  split <;> rfl
section M1
variable {ad : Nat → Nat} {th : Int32} {now : Int64} {nb ni ed : Nat} {kn : Int32} {L : LA} {J : JA}
set_option maxHeartbeats 4000000 in
set_option maxRecDepth 100000 in
theorem c_M_in {l : Launch} {D : va_G} {dA : Nat → ClassId} {g : Nat → Option va_E}  (v a b : Int64) : CtI l D classes (tyL dA) y_M_in b_M_in 6 (some .boolean) rm_M_in [.long v, .long a, .long b] g (fun r g' => g = g' ∧ r = inF v a b) := by
  refine CtI.of (by decide) (Nat.le_of_ble_eq_true rfl) ?_
  intro p e s m below meth c X hr hlk hnm
  refine go_lload_n X (z := 0) d_M_in_0 rfl rfl ?_
  refine go_lload_n X (z := 1) d_M_in_1 rfl rfl ?_
  refine go_lif_lt X (tgt := 17) d_M_in_2 d_M_in_3 rfl (fun c1 => ?_) (fun c1 => ?_)
  · refine go_iconst X (v := 0) d_M_in_17 (by decide) ?_
    exact go_retZ X hr rfl hlk d_M_in_18 ⟨rfl, by simp only [inF, if_pos c1]⟩
  · refine go_lload_n X (z := 0) d_M_in_6 rfl rfl ?_
    refine go_lload X (z := 2) d_M_in_7 rfl ?_
    refine go_lif_gt X (tgt := 17) d_M_in_9 d_M_in_10 rfl (fun c2 => ?_) (fun c2 => ?_)
    · refine go_iconst X (v := 0) d_M_in_17 (by decide) ?_
      exact go_retZ X hr rfl hlk d_M_in_18 ⟨rfl, by simp only [inF, if_neg c1, if_pos c2]⟩
    · refine go_iconst X (v := 1) d_M_in_13 (by decide) ?_
      refine go_goto X (tgt := 18) d_M_in_14 rfl ?_
      exact go_retZ X hr rfl hlk d_M_in_18 ⟨rfl, by simp only [inF, if_neg c1, if_neg c2]⟩
set_option maxHeartbeats 4000000 in
set_option maxRecDepth 100000 in
theorem c_M_isBelt {l : Launch} {D : va_G} {dA : Nat → ClassId} {g : Nat → Option va_E}  (h : MRep dA ad g th now nb ni ed kn L J) (x : Int32) : CtI l D classes (tyL dA) y_M_isBelt b_M_isBelt 2 (some .boolean) rm_M_isBelt [.ref (ad 0), .int x] g (fun r g' => g = g' ∧ r = isBF nb x) := by
  refine CtI.of (by decide) (Nat.le_of_ble_eq_true rfl) ?_
  intro p e s m below meth c X hr hlk hnm
  refine go_iload_n X (z := 1) d_M_isBelt_0 rfl rfl ?_
  refine go_if_lt X (tgt := 16) d_M_isBelt_1 rfl (fun c1 => ?_) (fun c1 => ?_)
  · refine go_iconst X (v := 0) d_M_isBelt_16 (by decide) ?_
    exact go_retZ X hr rfl hlk d_M_isBelt_17 ⟨rfl, by simp only [isBF, if_pos c1]⟩
  · refine go_iload_n X (z := 1) d_M_isBelt_4 rfl rfl ?_
    refine go_aload_n X (z := 0) d_M_isBelt_5 rfl rfl ?_
    refine go_get X u_M rfl 2 (by decide) gm_fl_M_73 rfl d_M_isBelt_6 h.this rfl ?_
    refine go_icmp_ge X (tgt := 16) d_M_isBelt_9 rfl (fun c2 => ?_) (fun c2 => ?_)
    · refine go_iconst X (v := 0) d_M_isBelt_16 (by decide) ?_
      exact go_retZ X hr rfl hlk d_M_isBelt_17 ⟨rfl, by simp only [isBF, if_neg c1, if_pos c2]⟩
    · refine go_iconst X (v := 1) d_M_isBelt_12 (by decide) ?_
      refine go_goto X (tgt := 17) d_M_isBelt_13 rfl ?_
      exact go_retZ X hr rfl hlk d_M_isBelt_17 ⟨rfl, by simp only [isBF, if_neg c1, if_neg c2]⟩
set_option maxHeartbeats 4000000 in
set_option maxRecDepth 100000 in
theorem c_M_isItem {l : Launch} {D : va_G} {dA : Nat → ClassId} {g : Nat → Option va_E}  (h : MRep dA ad g th now nb ni ed kn L J) (x : Int32) : CtI l D classes (tyL dA) y_M_isItem b_M_isItem 2 (some .boolean) rm_M_isItem [.ref (ad 0), .int x] g (fun r g' => g = g' ∧ r = isIF ni x) := by
  refine CtI.of (by decide) (Nat.le_of_ble_eq_true rfl) ?_
  intro p e s m below meth c X hr hlk hnm
  refine go_iload_n X (z := 1) d_M_isItem_0 rfl rfl ?_
  refine go_if_le X (tgt := 16) d_M_isItem_1 rfl (fun c1 => ?_) (fun c1 => ?_)
  · refine go_iconst X (v := 0) d_M_isItem_16 (by decide) ?_
    exact go_retZ X hr rfl hlk d_M_isItem_17 ⟨rfl, by simp only [isIF, if_pos c1]⟩
  · refine go_iload_n X (z := 1) d_M_isItem_4 rfl rfl ?_
    refine go_aload_n X (z := 0) d_M_isItem_5 rfl rfl ?_
    refine go_get X u_M rfl 11 (by decide) gm_fl_M_76 rfl d_M_isItem_6 h.this rfl ?_
    refine go_icmp_gt X (tgt := 16) d_M_isItem_9 rfl (fun c2 => ?_) (fun c2 => ?_)
    · refine go_iconst X (v := 0) d_M_isItem_16 (by decide) ?_
      exact go_retZ X hr rfl hlk d_M_isItem_17 ⟨rfl, by simp only [isIF, if_neg c1, if_pos c2]⟩
    · refine go_iconst X (v := 1) d_M_isItem_12 (by decide) ?_
      refine go_goto X (tgt := 17) d_M_isItem_13 rfl ?_
      exact go_retZ X hr rfl hlk d_M_isItem_17 ⟨rfl, by simp only [isIF, if_neg c1, if_neg c2]⟩
set_option maxHeartbeats 4000000 in
set_option maxRecDepth 100000 in
theorem c_M_isTime {l : Launch} {D : va_G} {dA : Nat → ClassId} {g : Nat → Option va_E}  (h : MRep dA ad g th now nb ni ed kn L J) (t : Int64) : CtI l D classes (tyL dA) y_M_isTime b_M_isTime 3 (some .boolean) rm_M_isTime [.ref (ad 0), .long t] g (fun r g' => g = g' ∧ r = inF t now 1000000) := by
  refine CtI.of (by decide) (Nat.le_of_ble_eq_true rfl) ?_
  intro p e s m below meth c X hr hlk hnm
  refine go_lload_n X (z := 1) d_M_isTime_0 rfl rfl ?_
  refine go_aload_n X (z := 0) d_M_isTime_1 rfl rfl ?_
  refine go_get X u_M rfl 1 (by decide) gm_fl_M_79 rfl d_M_isTime_2 h.this rfl ?_
  refine go_ldc2 X d_M_isTime_5 gm_k_M_83 ?_
  refine go_callI_S X (As := [.long t, .long now, .long 1000000]) (rest := []) (c_M_in t now 1000000) gm_ml_M_85 cw_M_in ⟨by decide, by decide⟩ rfl rfl (Nat.le_of_ble_eq_true rfl) d_M_isTime_8 ⟨by decide, by decide⟩ (fun ru1 gu1 hu1 => ?_)
  obtain ⟨rfl, rfl⟩ := hu1
  exact go_retZ X hr (inF_n _ _ _) hlk d_M_isTime_11 ⟨rfl, rfl⟩
set_option maxHeartbeats 4000000 in
set_option maxRecDepth 100000 in
theorem c_M_gearAt {l : Launch} {D : va_G} {dA : Nat → ClassId} {g : Nat → Option va_E}  (h : MRep dA ad g th now nb ni ed kn L J) {b : Nat} (hb : b < 12) (mm : Int64) : CtI l D classes (tyL dA) y_M_gearAt b_M_gearAt 8 (some .int) rm_M_gearAt [.ref (ad 0), .int ((nI b)), .long mm] g (fun r g' => g = g' ∧ r = gearMF L J b mm) := by
  refine CtI.of (by decide) (Nat.le_of_ble_eq_true rfl) ?_
  intro p e s m below meth c X hr hlk hnm
  refine go_lload_n X (z := 2) d_M_gearAt_0 rfl rfl ?_
  refine go_aload_n X (z := 0) d_M_gearAt_1 rfl rfl ?_
  refine go_get X u_M rfl 6 (by decide) gm_fl_M_20 rfl d_M_gearAt_2 h.this rfl ?_
  refine go_iload_n X (z := 1) d_M_gearAt_5 rfl rfl ?_
  refine go_lald X 1 rfl d_M_gearAt_6 h.a6 (vp_in_nI hb (by decide)) ?_
  rw [nI_clamp (show b < 2 ^ 31 by omega)]
  refine go_lsub X d_M_gearAt_7 ?_
  refine go_ldc2 X d_M_gearAt_8 gm_k_M_103 ?_
  refine go_ldiv X d_M_gearAt_11 (by decide) ?_
  refine go_lconst X (v := 1) d_M_gearAt_12 (by decide) ?_
  refine go_ladd X d_M_gearAt_13 ?_
  refine go_topl (fun x1 ex1 => ?_)
  refine go_lstore X (lv' := [(4, .long x1), (0, .ref (ad 0)), (1, .int ((nI b))), (2, .long mm)]) d_M_gearAt_14 (by decide) rfl ?_
  refine go_aload_n X (z := 1) d_M_gearAt_16 rfl rfl ?_
  refine go_get X u_M rfl 7 (by decide) gm_fl_M_23 rfl d_M_gearAt_17 h.this rfl ?_
  refine go_iload_n X (z := 2) d_M_gearAt_20 rfl rfl ?_
  refine go_zald X 2 rfl d_M_gearAt_21 h.a7 (vp_in_nI hb (by decide)) ?_
  rw [nI_clamp (show b < 2 ^ 31 by omega)]
  refine go_if_eq X (tgt := 38) d_M_gearAt_22 rfl (fun c2 => ?_) (fun c2 => ?_)
  · refine go_aload_n X (z := 1) d_M_gearAt_38 rfl rfl ?_
    refine go_get X u_M rfl 8 (by decide) gm_fl_M_27 rfl d_M_gearAt_39 h.this rfl ?_
    refine go_iload_n X (z := 2) d_M_gearAt_42 rfl rfl ?_
    refine go_iald X 0 rfl d_M_gearAt_43 h.a8 (vp_in_nI hb (by decide)) ?_
    rw [nI_clamp (show b < 2 ^ 31 by omega)]
    refine go_i2l X d_M_gearAt_44 rfl ?_
    refine go_lload X (z := 0) d_M_gearAt_45 rfl ?_
    refine go_lsub X d_M_gearAt_47 ?_
    refine go_topl (fun x3 ex3 => ?_)
    refine go_lstore X (lv' := [(6, .long x3), (4, .long x1), (0, .ref (ad 0)), (1, .int ((nI b))), (2, .long mm)]) d_M_gearAt_48 (by decide) rfl ?_
    refine go_lload X (z := 0) d_M_gearAt_50 rfl ?_
    refine go_ldc2 X d_M_gearAt_52 gm_k_M_105 ?_
    refine go_lif_le X (tgt := 64) d_M_gearAt_55 d_M_gearAt_56 rfl (fun c4 => ?_) (fun c4 => ?_)
    · refine go_lload X (z := 0) d_M_gearAt_64 rfl ?_
      refine go_lconst X (v := 0) d_M_gearAt_66 (by decide) ?_
      refine go_lif_ge X (tgt := 75) d_M_gearAt_67 d_M_gearAt_68 rfl (fun c5 => ?_) (fun c5 => ?_)
      · refine go_lload X (z := 0) d_M_gearAt_75 rfl ?_
        refine go_l2i X d_M_gearAt_77 rfl ?_
        exact go_retI X hr hlk d_M_gearAt_78 ⟨rfl, by subst ex1 ex3; simp only [gearMF, gearQ, if_pos c2, if_pos c4, if_pos c5]⟩
      · refine go_iconst X (v := 0) d_M_gearAt_71 (by decide) ?_
        refine go_goto X (tgt := 78) d_M_gearAt_72 rfl ?_
        exact go_retI X hr hlk d_M_gearAt_78 ⟨rfl, by subst ex1 ex3; simp only [gearMF, gearQ, if_pos c2, if_pos c4, if_neg c5]⟩
    · refine go_bipush X (v := 8) d_M_gearAt_59 (by decide) ?_
      refine go_goto X (tgt := 78) d_M_gearAt_61 rfl ?_
      exact go_retI X hr hlk d_M_gearAt_78 ⟨rfl, by subst ex1 ex3; simp only [gearMF, gearQ, if_pos c2, if_neg c4]⟩
  · refine go_aload_n X (z := 1) d_M_gearAt_25 rfl rfl ?_
    refine go_get X u_M rfl 8 (by decide) gm_fl_M_27 rfl d_M_gearAt_26 h.this rfl ?_
    refine go_iload_n X (z := 2) d_M_gearAt_29 rfl rfl ?_
    refine go_iald X 0 rfl d_M_gearAt_30 h.a8 (vp_in_nI hb (by decide)) ?_
    rw [nI_clamp (show b < 2 ^ 31 by omega)]
    refine go_i2l X d_M_gearAt_31 rfl ?_
    refine go_lload X (z := 0) d_M_gearAt_32 rfl ?_
    refine go_ladd X d_M_gearAt_34 ?_
    refine go_goto X (tgt := 48) d_M_gearAt_35 rfl ?_
    refine go_topl (fun x6 ex6 => ?_)
    refine go_lstore X (lv' := [(6, .long x6), (4, .long x1), (0, .ref (ad 0)), (1, .int ((nI b))), (2, .long mm)]) d_M_gearAt_48 (by decide) rfl ?_
    refine go_lload X (z := 0) d_M_gearAt_50 rfl ?_
    refine go_ldc2 X d_M_gearAt_52 gm_k_M_105 ?_
    refine go_lif_le X (tgt := 64) d_M_gearAt_55 d_M_gearAt_56 rfl (fun c7 => ?_) (fun c7 => ?_)
    · refine go_lload X (z := 0) d_M_gearAt_64 rfl ?_
      refine go_lconst X (v := 0) d_M_gearAt_66 (by decide) ?_
      refine go_lif_ge X (tgt := 75) d_M_gearAt_67 d_M_gearAt_68 rfl (fun c8 => ?_) (fun c8 => ?_)
      · refine go_lload X (z := 0) d_M_gearAt_75 rfl ?_
        refine go_l2i X d_M_gearAt_77 rfl ?_
        exact go_retI X hr hlk d_M_gearAt_78 ⟨rfl, by subst ex1 ex6; simp only [gearMF, gearQ, if_neg c2, if_pos c7, if_pos c8]⟩
      · refine go_iconst X (v := 0) d_M_gearAt_71 (by decide) ?_
        refine go_goto X (tgt := 78) d_M_gearAt_72 rfl ?_
        exact go_retI X hr hlk d_M_gearAt_78 ⟨rfl, by subst ex1 ex6; simp only [gearMF, gearQ, if_neg c2, if_pos c7, if_neg c8]⟩
    · refine go_bipush X (v := 8) d_M_gearAt_59 (by decide) ?_
      refine go_goto X (tgt := 78) d_M_gearAt_61 rfl ?_
      exact go_retI X hr hlk d_M_gearAt_78 ⟨rfl, by subst ex1 ex6; simp only [gearMF, gearQ, if_neg c2, if_neg c7]⟩
set_option maxHeartbeats 4000000 in
set_option maxRecDepth 100000 in
theorem c_M_rateAt {l : Launch} {D : va_G} {dA : Nat → ClassId} {g : Nat → Option va_E}  (h : MRep dA ad g th now nb ni ed kn L J) {b : Nat} (hb : b < 12) (mm : Int64) : CtL l D classes (tyL dA) y_M_rateAt b_M_rateAt 4 (some .long) rm_M_rateAt [.ref (ad 0), .int ((nI b)), .long mm] g (fun r g' => g = g' ∧ r = rateMF L J b mm) := by
  refine CtL.of (by decide) (Nat.le_of_ble_eq_true rfl) ?_
  intro p e s m below meth c X hr hlk hnm
  refine go_aload_n X (z := 0) d_M_rateAt_0 rfl rfl ?_
  refine go_get X u_M rfl 4 (by decide) gm_fl_M_13 rfl d_M_rateAt_1 h.this rfl ?_
  refine go_iload_n X (z := 1) d_M_rateAt_4 rfl rfl ?_
  refine go_lald X 1 rfl d_M_rateAt_5 h.a4 (vp_in_nI hb (by decide)) ?_
  rw [nI_clamp (show b < 2 ^ 31 by omega)]
  refine go_aload_n X (z := 0) d_M_rateAt_6 rfl rfl ?_
  refine go_iload_n X (z := 1) d_M_rateAt_7 rfl rfl ?_
  refine go_lload_n X (z := 2) d_M_rateAt_8 rfl rfl ?_
  refine go_callI_V X (As := [.int ((nI b)), .long mm]) (rest := [.long ((L 4 b))]) (c_M_gearAt h hb mm) gm_ml_M_107 cw_M_gearAt ⟨by decide, by decide⟩ rfl h.this rfl rfl (Nat.le_of_ble_eq_true rfl) d_M_rateAt_9 ⟨by decide, by decide⟩ (fun ru1 gu1 hu1 => ?_)
  obtain ⟨rfl, rfl⟩ := hu1
  refine go_i2l X d_M_rateAt_12 rfl ?_
  refine go_lmul X d_M_rateAt_13 ?_
  refine go_ldc2 X d_M_rateAt_14 gm_k_M_105 ?_
  refine go_ldiv X d_M_rateAt_17 (by decide) ?_
  exact go_retL X hr hlk d_M_rateAt_18 ⟨rfl, rfl⟩
set_option maxHeartbeats 4000000 in
set_option maxRecDepth 100000 in
theorem c_M_isThere {l : Launch} {D : va_G} {dA : Nat → ClassId} {g : Nat → Option va_E}  (h : MRep dA ad g th now nb ni ed kn L J) {i : Nat} (hi : i < 61) : CtI l D classes (tyL dA) y_M_isThere b_M_isThere 2 (some .boolean) rm_M_isThere [.ref (ad 0), .int ((nI i))] g (fun r g' => g = g' ∧ r = thereF now L J i) := by
  refine CtI.of (by decide) (Nat.le_of_ble_eq_true rfl) ?_
  intro p e s m below meth c X hr hlk hnm
  refine go_aload_n X (z := 0) d_M_isThere_0 rfl rfl ?_
  refine go_get X u_M rfl 16 (by decide) gm_fl_M_48 rfl d_M_isThere_1 h.this rfl ?_
  refine go_iload_n X (z := 1) d_M_isThere_4 rfl rfl ?_
  refine go_zald X 2 rfl d_M_isThere_5 h.a16 (vp_in_nI hi (by decide)) ?_
  rw [nI_clamp (show i < 2 ^ 31 by omega)]
  refine go_if_ne X (tgt := 27) d_M_isThere_6 rfl (fun c1 => ?_) (fun c1 => ?_)
  · refine go_iconst X (v := 0) d_M_isThere_27 (by decide) ?_
    exact go_retZ X hr rfl hlk d_M_isThere_28 ⟨rfl, by simp only [thereF, if_neg c1]⟩
  · refine go_aload_n X (z := 0) d_M_isThere_9 rfl rfl ?_
    refine go_get X u_M rfl 13 (by decide) gm_fl_M_39 rfl d_M_isThere_10 h.this rfl ?_
    refine go_iload_n X (z := 1) d_M_isThere_13 rfl rfl ?_
    refine go_lald X 1 rfl d_M_isThere_14 h.a13 (vp_in_nI hi (by decide)) ?_
    rw [nI_clamp (show i < 2 ^ 31 by omega)]
    refine go_aload_n X (z := 0) d_M_isThere_15 rfl rfl ?_
    refine go_get X u_M rfl 1 (by decide) gm_fl_M_79 rfl d_M_isThere_16 h.this rfl ?_
    refine go_lif_gt X (tgt := 27) d_M_isThere_19 d_M_isThere_20 rfl (fun c2 => ?_) (fun c2 => ?_)
    · refine go_iconst X (v := 0) d_M_isThere_27 (by decide) ?_
      exact go_retZ X hr rfl hlk d_M_isThere_28 ⟨rfl, by simp only [thereF, if_pos c1, if_pos c2]⟩
    · refine go_iconst X (v := 1) d_M_isThere_23 (by decide) ?_
      refine go_goto X (tgt := 28) d_M_isThere_24 rfl ?_
      exact go_retZ X hr rfl hlk d_M_isThere_28 ⟨rfl, by simp only [thereF, if_pos c1, if_neg c2]⟩
set_option maxHeartbeats 4000000 in
set_option maxRecDepth 100000 in
theorem c_M_tell {l : Launch} {D : va_G} {dA : Nat → ClassId} {g : Nat → Option va_E}  (h : MRep dA ad g th now nb ni ed kn L J) {i : Nat} (hi : i < 61) (hed : ed + 1 < 2 ^ 31) (kind : Int32) : CtV l D classes (tyL dA) y_M_tell b_M_tell 3 none rm_M_tell [.ref (ad 0), .int ((nI i)), .int kind] g (fun g' => MRep dA ad g' th now nb ni (ed + 1) kn (tlL L ed now) (tlJ J ed i kind) ∧ MFr ad g g') := by
  refine CtV.of (by decide) (Nat.le_of_ble_eq_true rfl) ?_
  intro p e s m below meth c X hr hlk hnm
  refine go_aload_n X (z := 0) d_M_tell_0 rfl rfl ?_
  refine go_get X u_M rfl 19 (by decide) gm_fl_M_116 rfl d_M_tell_1 h.this rfl ?_
  refine go_sipush X (v := 400) d_M_tell_4 (by decide) ?_
  refine go_icmp_ge X (tgt := 58) d_M_tell_7 rfl (fun c1 => ?_) (fun c1 => ?_)
  · refine go_aload_n X (z := 0) d_M_tell_58 rfl rfl ?_
    refine go_dup X d_M_tell_59 rfl ?_
    refine go_get X u_M rfl 19 (by decide) gm_fl_M_116 rfl d_M_tell_60 h.this rfl ?_
    refine go_iconst X (v := 1) d_M_tell_63 (by decide) ?_
    refine go_iadd X d_M_tell_64 ?_
    refine go_topi (fun x2 ex2 => ?_)
    refine go_put X u_M rfl 19 (by decide) gm_fl_M_116 rfl t_M t_M_ok n_M rfl rfl rfl d_M_tell_65 h.this (Nat.le_of_ble_eq_true rfl) ?_
    refine go_gen (fun g3 eg3 => ?_)
    have eg3 : g3 = va_up g (ad 0) (some (.inr (4, [.int th, .long now, .int ((nI nb)), .ref (ad 3), .ref (ad 4), .ref (ad 5), .ref (ad 6), .ref (ad 7), .ref (ad 8), .ref (ad 9), .ref (ad 10), .int ((nI ni)), .ref (ad 12), .ref (ad 13), .ref (ad 14), .ref (ad 15), .ref (ad 16), .ref (ad 17), .ref (ad 18), .int x2, .int kn, .ref (ad 21), .ref (ad 22), .ref (ad 23), .ref (ad 24)]))) := eg3
    have h4 : g3 (ad 21) = some (.inl (dA 1, 400, .inr (.inl ((L 21))))) := by rw [eg3, va_up_ne _ _ (h.ne 21 0)]; exact h.a21
    have h5 : g3 (ad 22) = some (.inl (dA 0, 400, .inl ((J 22)))) := by rw [eg3, va_up_ne _ _ (h.ne 22 0)]; exact h.a22
    have h6 : g3 (ad 14) = some (.inl (dA 0, 61, .inl ((J 14)))) := by rw [eg3, va_up_ne _ _ (h.ne 14 0)]; exact h.a14
    have h7 : g3 (ad 23) = some (.inl (dA 0, 400, .inl ((J 23)))) := by rw [eg3, va_up_ne _ _ (h.ne 23 0)]; exact h.a23
    have h8 : g3 (ad 24) = some (.inl (dA 0, 400, .inl ((J 24)))) := by rw [eg3, va_up_ne _ _ (h.ne 24 0)]; exact h.a24
    have h9 : g3 (ad 0) = some (.inr (4, [.int th, .long now, .int ((nI nb)), .ref (ad 3), .ref (ad 4), .ref (ad 5), .ref (ad 6), .ref (ad 7), .ref (ad 8), .ref (ad 9), .ref (ad 10), .int ((nI ni)), .ref (ad 12), .ref (ad 13), .ref (ad 14), .ref (ad 15), .ref (ad 16), .ref (ad 17), .ref (ad 18), .int x2, .int kn, .ref (ad 21), .ref (ad 22), .ref (ad 23), .ref (ad 24)])) := by rw [eg3]; exact va_up_self _ _ _
    have qx : x2 = nI (ed + 1) := ex2.trans (nI_1 ed)
    subst qx
    have hM : MRep dA ad g3 th now nb ni (ed + 1) kn L J := by rw [eg3]; exact h.set0
    exact go_retV X hr hlk d_M_tell_68 ⟨by rw [tlL, tlJ, if_pos (ge400 (by omega) c1), if_pos (ge400 (by omega) c1)]; exact hM, by rw [eg3]; exact MFr.up rfl⟩
  · have hlt : ed < 400 := lt400 (by omega) c1
    refine go_aload_n X (z := 0) d_M_tell_10 rfl rfl ?_
    refine go_get X u_M rfl 21 (by decide) gm_fl_M_57 rfl d_M_tell_11 h.this rfl ?_
    refine go_aload_n X (z := 0) d_M_tell_14 rfl rfl ?_
    refine go_get X u_M rfl 19 (by decide) gm_fl_M_116 rfl d_M_tell_15 h.this rfl ?_
    refine go_aload_n X (z := 0) d_M_tell_18 rfl rfl ?_
    refine go_get X u_M rfl 1 (by decide) gm_fl_M_79 rfl d_M_tell_19 h.this rfl ?_
    refine go_last X 1 rfl d_M_tell_22 h.a21 (vp_in_nI hlt (by decide)) ?_
    refine go_gen (fun g10 eg10 => ?_)
    have eg10 : g10 = va_up g (ad 21) (some (.inl (dA 1, 400, .inr (.inl (vp_updL ((L 21)) ed now))))) := by rw [eg10, nI_clamp (show ed < 2 ^ 31 by omega)]
    have h11 : g10 (ad 0) = some (.inr (4, [.int th, .long now, .int ((nI nb)), .ref (ad 3), .ref (ad 4), .ref (ad 5), .ref (ad 6), .ref (ad 7), .ref (ad 8), .ref (ad 9), .ref (ad 10), .int ((nI ni)), .ref (ad 12), .ref (ad 13), .ref (ad 14), .ref (ad 15), .ref (ad 16), .ref (ad 17), .ref (ad 18), .int ((nI ed)), .int kn, .ref (ad 21), .ref (ad 22), .ref (ad 23), .ref (ad 24)])) := by rw [eg10, va_up_ne _ _ (h.ne 0 21)]; exact h.this
    have h12 : g10 (ad 22) = some (.inl (dA 0, 400, .inl ((J 22)))) := by rw [eg10, va_up_ne _ _ (h.ne 22 21)]; exact h.a22
    have h13 : g10 (ad 14) = some (.inl (dA 0, 61, .inl ((J 14)))) := by rw [eg10, va_up_ne _ _ (h.ne 14 21)]; exact h.a14
    have h14 : g10 (ad 23) = some (.inl (dA 0, 400, .inl ((J 23)))) := by rw [eg10, va_up_ne _ _ (h.ne 23 21)]; exact h.a23
    have h15 : g10 (ad 24) = some (.inl (dA 0, 400, .inl ((J 24)))) := by rw [eg10, va_up_ne _ _ (h.ne 24 21)]; exact h.a24
    have h16 : g10 (ad 21) = some (.inl (dA 1, 400, .inr (.inl (vp_updL ((L 21)) ed now)))) := by rw [eg10]; exact va_up_self _ _ _
    refine go_aload_n X (z := 0) d_M_tell_23 rfl rfl ?_
    refine go_get X u_M rfl 22 (by decide) gm_fl_M_60 rfl d_M_tell_24 h11 rfl ?_
    refine go_aload_n X (z := 0) d_M_tell_27 rfl rfl ?_
    refine go_get X u_M rfl 19 (by decide) gm_fl_M_116 rfl d_M_tell_28 h11 rfl ?_
    refine go_aload_n X (z := 0) d_M_tell_31 rfl rfl ?_
    refine go_get X u_M rfl 14 (by decide) gm_fl_M_42 rfl d_M_tell_32 h11 rfl ?_
    refine go_iload_n X (z := 1) d_M_tell_35 rfl rfl ?_
    refine go_iald X 0 rfl d_M_tell_36 h13 (vp_in_nI hi (by decide)) ?_
    rw [nI_clamp (show i < 2 ^ 31 by omega)]
    refine go_topi (fun x17 ex17 => ?_)
    refine go_iast X 0 rfl d_M_tell_37 h12 (vp_in_nI hlt (by decide)) ?_
    refine go_gen (fun g18 eg18 => ?_)
    have eg18 : g18 = va_up g10 (ad 22) (some (.inl (dA 0, 400, .inl (upd ((J 22)) ed x17)))) := by rw [eg18, nI_clamp (show ed < 2 ^ 31 by omega)]
    have h19 : g18 (ad 0) = some (.inr (4, [.int th, .long now, .int ((nI nb)), .ref (ad 3), .ref (ad 4), .ref (ad 5), .ref (ad 6), .ref (ad 7), .ref (ad 8), .ref (ad 9), .ref (ad 10), .int ((nI ni)), .ref (ad 12), .ref (ad 13), .ref (ad 14), .ref (ad 15), .ref (ad 16), .ref (ad 17), .ref (ad 18), .int ((nI ed)), .int kn, .ref (ad 21), .ref (ad 22), .ref (ad 23), .ref (ad 24)])) := by rw [eg18, va_up_ne _ _ (h.ne 0 22)]; exact h11
    have h20 : g18 (ad 21) = some (.inl (dA 1, 400, .inr (.inl (vp_updL ((L 21)) ed now)))) := by rw [eg18, va_up_ne _ _ (h.ne 21 22)]; exact h16
    have h21 : g18 (ad 14) = some (.inl (dA 0, 61, .inl ((J 14)))) := by rw [eg18, va_up_ne _ _ (h.ne 14 22)]; exact h13
    have h22 : g18 (ad 23) = some (.inl (dA 0, 400, .inl ((J 23)))) := by rw [eg18, va_up_ne _ _ (h.ne 23 22)]; exact h14
    have h23 : g18 (ad 24) = some (.inl (dA 0, 400, .inl ((J 24)))) := by rw [eg18, va_up_ne _ _ (h.ne 24 22)]; exact h15
    have h24 : g18 (ad 22) = some (.inl (dA 0, 400, .inl (upd ((J 22)) ed x17))) := by rw [eg18]; exact va_up_self _ _ _
    refine go_aload_n X (z := 0) d_M_tell_38 rfl rfl ?_
    refine go_get X u_M rfl 23 (by decide) gm_fl_M_63 rfl d_M_tell_39 h19 rfl ?_
    refine go_aload_n X (z := 0) d_M_tell_42 rfl rfl ?_
    refine go_get X u_M rfl 19 (by decide) gm_fl_M_116 rfl d_M_tell_43 h19 rfl ?_
    refine go_iload_n X (z := 1) d_M_tell_46 rfl rfl ?_
    refine go_topi (fun x25 ex25 => ?_)
    refine go_iast X 0 rfl d_M_tell_47 h22 (vp_in_nI hlt (by decide)) ?_
    refine go_gen (fun g26 eg26 => ?_)
    have eg26 : g26 = va_up g18 (ad 23) (some (.inl (dA 0, 400, .inl (upd ((J 23)) ed x25)))) := by rw [eg26, nI_clamp (show ed < 2 ^ 31 by omega)]
    have h27 : g26 (ad 0) = some (.inr (4, [.int th, .long now, .int ((nI nb)), .ref (ad 3), .ref (ad 4), .ref (ad 5), .ref (ad 6), .ref (ad 7), .ref (ad 8), .ref (ad 9), .ref (ad 10), .int ((nI ni)), .ref (ad 12), .ref (ad 13), .ref (ad 14), .ref (ad 15), .ref (ad 16), .ref (ad 17), .ref (ad 18), .int ((nI ed)), .int kn, .ref (ad 21), .ref (ad 22), .ref (ad 23), .ref (ad 24)])) := by rw [eg26, va_up_ne _ _ (h.ne 0 23)]; exact h19
    have h28 : g26 (ad 21) = some (.inl (dA 1, 400, .inr (.inl (vp_updL ((L 21)) ed now)))) := by rw [eg26, va_up_ne _ _ (h.ne 21 23)]; exact h20
    have h29 : g26 (ad 22) = some (.inl (dA 0, 400, .inl (upd ((J 22)) ed x17))) := by rw [eg26, va_up_ne _ _ (h.ne 22 23)]; exact h24
    have h30 : g26 (ad 14) = some (.inl (dA 0, 61, .inl ((J 14)))) := by rw [eg26, va_up_ne _ _ (h.ne 14 23)]; exact h21
    have h31 : g26 (ad 24) = some (.inl (dA 0, 400, .inl ((J 24)))) := by rw [eg26, va_up_ne _ _ (h.ne 24 23)]; exact h23
    have h32 : g26 (ad 23) = some (.inl (dA 0, 400, .inl (upd ((J 23)) ed x25))) := by rw [eg26]; exact va_up_self _ _ _
    refine go_aload_n X (z := 0) d_M_tell_48 rfl rfl ?_
    refine go_get X u_M rfl 24 (by decide) gm_fl_M_66 rfl d_M_tell_49 h27 rfl ?_
    refine go_aload_n X (z := 0) d_M_tell_52 rfl rfl ?_
    refine go_get X u_M rfl 19 (by decide) gm_fl_M_116 rfl d_M_tell_53 h27 rfl ?_
    refine go_iload_n X (z := 2) d_M_tell_56 rfl rfl ?_
    refine go_iast X 0 rfl d_M_tell_57 h31 (vp_in_nI hlt (by decide)) ?_
    refine go_gen (fun g33 eg33 => ?_)
    have eg33 : g33 = va_up g26 (ad 24) (some (.inl (dA 0, 400, .inl (upd ((J 24)) ed kind)))) := by rw [eg33, nI_clamp (show ed < 2 ^ 31 by omega)]
    have h34 : g33 (ad 0) = some (.inr (4, [.int th, .long now, .int ((nI nb)), .ref (ad 3), .ref (ad 4), .ref (ad 5), .ref (ad 6), .ref (ad 7), .ref (ad 8), .ref (ad 9), .ref (ad 10), .int ((nI ni)), .ref (ad 12), .ref (ad 13), .ref (ad 14), .ref (ad 15), .ref (ad 16), .ref (ad 17), .ref (ad 18), .int ((nI ed)), .int kn, .ref (ad 21), .ref (ad 22), .ref (ad 23), .ref (ad 24)])) := by rw [eg33, va_up_ne _ _ (h.ne 0 24)]; exact h27
    have h35 : g33 (ad 21) = some (.inl (dA 1, 400, .inr (.inl (vp_updL ((L 21)) ed now)))) := by rw [eg33, va_up_ne _ _ (h.ne 21 24)]; exact h28
    have h36 : g33 (ad 22) = some (.inl (dA 0, 400, .inl (upd ((J 22)) ed x17))) := by rw [eg33, va_up_ne _ _ (h.ne 22 24)]; exact h29
    have h37 : g33 (ad 14) = some (.inl (dA 0, 61, .inl ((J 14)))) := by rw [eg33, va_up_ne _ _ (h.ne 14 24)]; exact h30
    have h38 : g33 (ad 23) = some (.inl (dA 0, 400, .inl (upd ((J 23)) ed x25))) := by rw [eg33, va_up_ne _ _ (h.ne 23 24)]; exact h32
    have h39 : g33 (ad 24) = some (.inl (dA 0, 400, .inl (upd ((J 24)) ed kind))) := by rw [eg33]; exact va_up_self _ _ _
    refine go_aload_n X (z := 0) d_M_tell_58 rfl rfl ?_
    refine go_dup X d_M_tell_59 rfl ?_
    refine go_get X u_M rfl 19 (by decide) gm_fl_M_116 rfl d_M_tell_60 h34 rfl ?_
    refine go_iconst X (v := 1) d_M_tell_63 (by decide) ?_
    refine go_iadd X d_M_tell_64 ?_
    refine go_topi (fun x40 ex40 => ?_)
    refine go_put X u_M rfl 19 (by decide) gm_fl_M_116 rfl t_M t_M_ok n_M rfl rfl rfl d_M_tell_65 h34 (Nat.le_of_ble_eq_true rfl) ?_
    refine go_gen (fun g41 eg41 => ?_)
    have eg41 : g41 = va_up g33 (ad 0) (some (.inr (4, [.int th, .long now, .int ((nI nb)), .ref (ad 3), .ref (ad 4), .ref (ad 5), .ref (ad 6), .ref (ad 7), .ref (ad 8), .ref (ad 9), .ref (ad 10), .int ((nI ni)), .ref (ad 12), .ref (ad 13), .ref (ad 14), .ref (ad 15), .ref (ad 16), .ref (ad 17), .ref (ad 18), .int x40, .int kn, .ref (ad 21), .ref (ad 22), .ref (ad 23), .ref (ad 24)]))) := eg41
    have h42 : g41 (ad 21) = some (.inl (dA 1, 400, .inr (.inl (vp_updL ((L 21)) ed now)))) := by rw [eg41, va_up_ne _ _ (h.ne 21 0)]; exact h35
    have h43 : g41 (ad 22) = some (.inl (dA 0, 400, .inl (upd ((J 22)) ed x17))) := by rw [eg41, va_up_ne _ _ (h.ne 22 0)]; exact h36
    have h44 : g41 (ad 14) = some (.inl (dA 0, 61, .inl ((J 14)))) := by rw [eg41, va_up_ne _ _ (h.ne 14 0)]; exact h37
    have h45 : g41 (ad 23) = some (.inl (dA 0, 400, .inl (upd ((J 23)) ed x25))) := by rw [eg41, va_up_ne _ _ (h.ne 23 0)]; exact h38
    have h46 : g41 (ad 24) = some (.inl (dA 0, 400, .inl (upd ((J 24)) ed kind))) := by rw [eg41, va_up_ne _ _ (h.ne 24 0)]; exact h39
    have h47 : g41 (ad 0) = some (.inr (4, [.int th, .long now, .int ((nI nb)), .ref (ad 3), .ref (ad 4), .ref (ad 5), .ref (ad 6), .ref (ad 7), .ref (ad 8), .ref (ad 9), .ref (ad 10), .int ((nI ni)), .ref (ad 12), .ref (ad 13), .ref (ad 14), .ref (ad 15), .ref (ad 16), .ref (ad 17), .ref (ad 18), .int x40, .int kn, .ref (ad 21), .ref (ad 22), .ref (ad 23), .ref (ad 24)])) := by rw [eg41]; exact va_up_self _ _ _
    have qx : x40 = nI (ed + 1) := ex40.trans (nI_1 ed)
    subst qx
    subst ex17 ex25
    have hM2 : MRep dA ad g41 th now nb ni (ed + 1) kn (tlL L ed now) (tlJ J ed i kind) := by
      rw [tlL, tlJ, if_neg (by omega), if_neg (by omega), eg41, eg33, eg26, eg18, eg10]
      exact ((((h.setL 21 (vp_updL (L 21) ed now)).setJ 22 (upd (J 22) ed (J 14 i))).setJ 23 (upd (J 23) ed (nI i))).setJ 24 (upd (J 24) ed kind)).set0
    exact go_retV X hr hlk d_M_tell_68 ⟨hM2, by rw [eg41, eg33, eg26, eg18, eg10]; exact (MFr.up rfl).trans ((MFr.up rfl).trans ((MFr.up rfl).trans ((MFr.up rfl).trans (MFr.up rfl))))⟩
set_option maxHeartbeats 4000000 in
set_option maxRecDepth 100000 in
theorem c_M_isShort {l : Launch} {D : va_G} {dA : Nat → ClassId} {g : Nat → Option va_E}  (h : MRep dA ad g th now nb ni ed kn L J) (hni : ni ≤ 60) {i : Nat} (hi : i < 61) : CtI l D classes (tyL dA) y_M_isShort b_M_isShort 5 (some .boolean) rm_M_isShort [.ref (ad 0), .int ((nI i))] g (fun r g' => g = g' ∧ r = shMU now L J i (ni + 1)) := by
  refine CtI.of (by decide) (Nat.le_of_ble_eq_true rfl) ?_
  intro p e s m below meth c X hr hlk hnm
  have loop : ∀ (f k : Nat) (v : Int32), 1 ≤ k → k + f = ni + 1 → v = shMU now L J i k → Go p l e rm_M_isShort s m [.ref (ad 0), .int ((nI i))].toArray below meth c D classes (gA g s.heap.size) 5 (MQ below (va_Qi (fun r g' => g = g' ∧ r = shMU now L J i (ni + 1)) (fun (g' : Nat → Option va_E) (t : State) => PW D classes (gA g s.heap.size) g' t.heap) (gA g s.heap.size)) [.ref (ad 0), .int ((nI i))].toArray s 0 0 (gA g s.heap.size)) g 0 0 4 [(3, .int ((nI k))), (2, .int v), (0, .ref (ad 0)), (1, .int ((nI i)))] [] := by
    intro f
    induction f with
    | zero =>
      intro k v h1k hk hv
      have hkn : k = ni + 1 := by omega
      subst hkn
      refine go_iload_n X (z := 0) d_M_isShort_4 rfl rfl ?_
      refine go_aload_n X (z := 2) d_M_isShort_5 rfl rfl ?_
      refine go_get X u_M rfl 11 (by decide) gm_fl_M_76 rfl d_M_isShort_6 h.this rfl ?_
      refine go_icmp_gt X (tgt := 132) d_M_isShort_9 rfl (fun c1 => ?_) (fun c1 => absurd (nI_lt (by omega) (by omega)) c1)
      refine go_iload_n X (z := 1) d_M_isShort_132 rfl rfl ?_
      exact go_retZ X hr (by rw [hv]; exact shMU_nz) hlk d_M_isShort_133 ⟨rfl, hv⟩
    | succ f ih =>
      intro k v h1k hkf hv
      have hk : k < 61 := by omega
      refine go_iload_n X (z := 0) d_M_isShort_4 rfl rfl ?_
      refine go_aload_n X (z := 2) d_M_isShort_5 rfl rfl ?_
      refine go_get X u_M rfl 11 (by decide) gm_fl_M_76 rfl d_M_isShort_6 h.this rfl ?_
      refine go_icmp_gt X (tgt := 132) d_M_isShort_9 rfl (fun c1 => absurd c1 (nI_nlt (a := ni) (b := k) (by omega) (by omega))) (fun c1 => ?_)
      refine go_iload_n X (z := 0) d_M_isShort_12 rfl rfl ?_
      refine go_iload_n X (z := 3) d_M_isShort_13 rfl rfl ?_
      refine go_icmp_eq X (tgt := 126) d_M_isShort_14 rfl (fun c2 => ?_) (fun c2 => ?_)
      · refine go_iinc X (j := 0) (v := nI (k + 1)) d_M_isShort_126 rfl (nI_1 k) (by decide) rfl ?_
        refine go_goto X (tgt := 4) d_M_isShort_129 rfl ?_
        refine go_sub (lv' := [(3, .int (nI (k + 1))), (2, .int v), (0, .ref (ad 0)), (1, .int (nI i))]) [0, 1, 2, 3] rfl ?_
        exact ih (k + 1) v (by omega) (by omega) (hv.trans (shMU_n (fun q => q.1 c2)).symm)
      · refine go_aload_n X (z := 2) d_M_isShort_17 rfl rfl ?_
        refine go_iload_n X (z := 0) d_M_isShort_18 rfl rfl ?_
        refine go_callI_V X (As := [.int ((nI k))]) (rest := []) (c_M_isThere h hk) gm_ml_M_111 cw_M_isThere ⟨by decide, by decide⟩ rfl h.this rfl rfl (Nat.le_of_ble_eq_true rfl) d_M_isShort_19 ⟨by decide, by decide⟩ (fun ru3 gu3 hu3 => ?_)
        obtain ⟨rfl, rfl⟩ := hu3
        refine go_if_eq X (tgt := 126) d_M_isShort_22 rfl (fun c4 => ?_) (fun c4 => ?_)
        · refine go_iinc X (j := 0) (v := nI (k + 1)) d_M_isShort_126 rfl (nI_1 k) (by decide) rfl ?_
          refine go_goto X (tgt := 4) d_M_isShort_129 rfl ?_
          refine go_sub (lv' := [(3, .int (nI (k + 1))), (2, .int v), (0, .ref (ad 0)), (1, .int (nI i))]) [0, 1, 2, 3] rfl ?_
          exact ih (k + 1) v (by omega) (by omega) (hv.trans (shMU_n (fun q => q.2.1 c4)).symm)
        · refine go_aload_n X (z := 2) d_M_isShort_25 rfl rfl ?_
          refine go_get X u_M rfl 14 (by decide) gm_fl_M_42 rfl d_M_isShort_26 h.this rfl ?_
          refine go_iload_n X (z := 0) d_M_isShort_29 rfl rfl ?_
          refine go_iald X 0 rfl d_M_isShort_30 h.a14 (vp_in_nI hk (by decide)) ?_
          rw [nI_clamp (show k < 2 ^ 31 by omega)]
          refine go_aload_n X (z := 2) d_M_isShort_31 rfl rfl ?_
          refine go_get X u_M rfl 14 (by decide) gm_fl_M_42 rfl d_M_isShort_32 h.this rfl ?_
          refine go_iload_n X (z := 3) d_M_isShort_35 rfl rfl ?_
          refine go_iald X 0 rfl d_M_isShort_36 h.a14 (vp_in_nI hi (by decide)) ?_
          rw [nI_clamp (show i < 2 ^ 31 by omega)]
          refine go_icmp_ne X (tgt := 126) d_M_isShort_37 rfl (fun c5 => ?_) (fun c5 => ?_)
          · refine go_iinc X (j := 0) (v := nI (k + 1)) d_M_isShort_126 rfl (nI_1 k) (by decide) rfl ?_
            refine go_goto X (tgt := 4) d_M_isShort_129 rfl ?_
            refine go_sub (lv' := [(3, .int (nI (k + 1))), (2, .int v), (0, .ref (ad 0)), (1, .int (nI i))]) [0, 1, 2, 3] rfl ?_
            exact ih (k + 1) v (by omega) (by omega) (hv.trans (shMU_n (fun q => c5 q.2.2.1)).symm)
          · refine go_aload_n X (z := 2) d_M_isShort_40 rfl rfl ?_
            refine go_get X u_M rfl 15 (by decide) gm_fl_M_45 rfl d_M_isShort_41 h.this rfl ?_
            refine go_iload_n X (z := 0) d_M_isShort_44 rfl rfl ?_
            refine go_lald X 1 rfl d_M_isShort_45 h.a15 (vp_in_nI hk (by decide)) ?_
            rw [nI_clamp (show k < 2 ^ 31 by omega)]
            refine go_aload_n X (z := 2) d_M_isShort_46 rfl rfl ?_
            refine go_get X u_M rfl 15 (by decide) gm_fl_M_45 rfl d_M_isShort_47 h.this rfl ?_
            refine go_iload_n X (z := 3) d_M_isShort_50 rfl rfl ?_
            refine go_lald X 1 rfl d_M_isShort_51 h.a15 (vp_in_nI hi (by decide)) ?_
            rw [nI_clamp (show i < 2 ^ 31 by omega)]
            refine go_lif_gt X (tgt := 77) d_M_isShort_52 d_M_isShort_53 rfl (fun c6 => ?_) (fun c6 => ?_)
            · refine go_iconst X (v := 1) d_M_isShort_77 (by decide) ?_
              refine go_goto X (tgt := 82) d_M_isShort_78 rfl ?_
              refine go_istore X (lv' := [(4, .int 1), (3, .int ((nI k))), (2, .int v), (0, .ref (ad 0)), (1, .int ((nI i)))]) d_M_isShort_82 (by decide) rfl ?_
              refine go_iload_n X (z := 2) d_M_isShort_84 rfl rfl ?_
              refine go_if_ne X (tgt := 120) d_M_isShort_85 rfl (fun c7 => ?_) (fun c7 => ?_)
              · refine go_iconst X (v := 1) d_M_isShort_120 (by decide) ?_
                refine go_goto X (tgt := 125) d_M_isShort_121 rfl ?_
                refine go_istore_n X (lv' := [(2, .int 1), (4, .int 1), (3, .int ((nI k))), (0, .ref (ad 0)), (1, .int ((nI i)))]) d_M_isShort_125 rfl (by decide) rfl ?_
                refine go_iinc X (j := 2) (v := nI (k + 1)) d_M_isShort_126 rfl (nI_1 k) (by decide) rfl ?_
                refine go_goto X (tgt := 4) d_M_isShort_129 rfl ?_
                refine go_sub (lv' := [(3, .int (nI (k + 1))), (2, .int 1), (0, .ref (ad 0)), (1, .int (nI i))]) [0, 1, 3, 4] rfl ?_
                exact ih (k + 1) 1 (by omega) (by omega) (shMU_o (by rw [← hv]; exact c7)).symm
              · refine go_iload X (z := 0) d_M_isShort_88 rfl ?_
                refine go_if_eq X (tgt := 124) d_M_isShort_90 rfl (fun h => absurd h (by decide)) (fun _ => ?_)
                refine go_aload_n X (z := 3) d_M_isShort_93 rfl rfl ?_
                refine go_get X u_M rfl 15 (by decide) gm_fl_M_45 rfl d_M_isShort_94 h.this rfl ?_
                refine go_iload_n X (z := 1) d_M_isShort_97 rfl rfl ?_
                refine go_lald X 1 rfl d_M_isShort_98 h.a15 (vp_in_nI hk (by decide)) ?_
                rw [nI_clamp (show k < 2 ^ 31 by omega)]
                refine go_aload_n X (z := 3) d_M_isShort_99 rfl rfl ?_
                refine go_get X u_M rfl 12 (by decide) gm_fl_M_36 rfl d_M_isShort_100 h.this rfl ?_
                refine go_iload_n X (z := 1) d_M_isShort_103 rfl rfl ?_
                refine go_lald X 1 rfl d_M_isShort_104 h.a12 (vp_in_nI hk (by decide)) ?_
                rw [nI_clamp (show k < 2 ^ 31 by omega)]
                refine go_lsub X d_M_isShort_105 ?_
                refine go_aload_n X (z := 3) d_M_isShort_106 rfl rfl ?_
                refine go_get X u_M rfl 15 (by decide) gm_fl_M_45 rfl d_M_isShort_107 h.this rfl ?_
                refine go_iload_n X (z := 4) d_M_isShort_110 rfl rfl ?_
                refine go_lald X 1 rfl d_M_isShort_111 h.a15 (vp_in_nI hi (by decide)) ?_
                rw [nI_clamp (show i < 2 ^ 31 by omega)]
                refine go_ldc2 X d_M_isShort_112 gm_k_M_114 ?_
                refine go_ladd X d_M_isShort_115 ?_
                refine go_lif_ge X (tgt := 124) d_M_isShort_116 d_M_isShort_117 rfl (fun c9 => ?_) (fun c9 => ?_)
                · refine go_iconst X (v := 0) d_M_isShort_124 (by decide) ?_
                  refine go_istore_n X (lv' := [(2, .int 0), (4, .int 1), (3, .int ((nI k))), (0, .ref (ad 0)), (1, .int ((nI i)))]) d_M_isShort_125 rfl (by decide) rfl ?_
                  refine go_iinc X (j := 2) (v := nI (k + 1)) d_M_isShort_126 rfl (nI_1 k) (by decide) rfl ?_
                  refine go_goto X (tgt := 4) d_M_isShort_129 rfl ?_
                  refine go_sub (lv' := [(3, .int (nI (k + 1))), (2, .int 0), (0, .ref (ad 0)), (1, .int (nI i))]) [0, 1, 3, 4] rfl ?_
                  exact ih (k + 1) 0 (by omega) (by omega) ((shMU_n (fun q => absurd q.2.2.2.2 (Int64.not_lt.mpr c9))).trans (hv.symm.trans c7)).symm
                · refine go_iconst X (v := 1) d_M_isShort_120 (by decide) ?_
                  refine go_goto X (tgt := 125) d_M_isShort_121 rfl ?_
                  refine go_istore_n X (lv' := [(2, .int 1), (4, .int 1), (3, .int ((nI k))), (0, .ref (ad 0)), (1, .int ((nI i)))]) d_M_isShort_125 rfl (by decide) rfl ?_
                  refine go_iinc X (j := 2) (v := nI (k + 1)) d_M_isShort_126 rfl (nI_1 k) (by decide) rfl ?_
                  refine go_goto X (tgt := 4) d_M_isShort_129 rfl ?_
                  refine go_sub (lv' := [(3, .int (nI (k + 1))), (2, .int 1), (0, .ref (ad 0)), (1, .int (nI i))]) [0, 1, 3, 4] rfl ?_
                  exact ih (k + 1) 1 (by omega) (by omega) (shMU_1 h1k ⟨c2, c4, c5, Or.inl c6, Int64.not_le.mp c9⟩).symm
            · refine go_aload_n X (z := 2) d_M_isShort_56 rfl rfl ?_
              refine go_get X u_M rfl 15 (by decide) gm_fl_M_45 rfl d_M_isShort_57 h.this rfl ?_
              refine go_iload_n X (z := 0) d_M_isShort_60 rfl rfl ?_
              refine go_lald X 1 rfl d_M_isShort_61 h.a15 (vp_in_nI hk (by decide)) ?_
              rw [nI_clamp (show k < 2 ^ 31 by omega)]
              refine go_aload_n X (z := 2) d_M_isShort_62 rfl rfl ?_
              refine go_get X u_M rfl 15 (by decide) gm_fl_M_45 rfl d_M_isShort_63 h.this rfl ?_
              refine go_iload_n X (z := 3) d_M_isShort_66 rfl rfl ?_
              refine go_lald X 1 rfl d_M_isShort_67 h.a15 (vp_in_nI hi (by decide)) ?_
              rw [nI_clamp (show i < 2 ^ 31 by omega)]
              refine go_lif_ne X (tgt := 81) d_M_isShort_68 d_M_isShort_69 rfl (fun c10 => ?_) (fun c10 => ?_)
              · refine go_iconst X (v := 0) d_M_isShort_81 (by decide) ?_
                refine go_istore X (lv' := [(4, .int 0), (3, .int ((nI k))), (2, .int v), (0, .ref (ad 0)), (1, .int ((nI i)))]) d_M_isShort_82 (by decide) rfl ?_
                refine go_iload_n X (z := 2) d_M_isShort_84 rfl rfl ?_
                refine go_if_ne X (tgt := 120) d_M_isShort_85 rfl (fun c11 => ?_) (fun c11 => ?_)
                · refine go_iconst X (v := 1) d_M_isShort_120 (by decide) ?_
                  refine go_goto X (tgt := 125) d_M_isShort_121 rfl ?_
                  refine go_istore_n X (lv' := [(2, .int 1), (4, .int 0), (3, .int ((nI k))), (0, .ref (ad 0)), (1, .int ((nI i)))]) d_M_isShort_125 rfl (by decide) rfl ?_
                  refine go_iinc X (j := 2) (v := nI (k + 1)) d_M_isShort_126 rfl (nI_1 k) (by decide) rfl ?_
                  refine go_goto X (tgt := 4) d_M_isShort_129 rfl ?_
                  refine go_sub (lv' := [(3, .int (nI (k + 1))), (2, .int 1), (0, .ref (ad 0)), (1, .int (nI i))]) [0, 1, 3, 4] rfl ?_
                  exact ih (k + 1) 1 (by omega) (by omega) (shMU_o (by rw [← hv]; exact c11)).symm
                · refine go_iload X (z := 0) d_M_isShort_88 rfl ?_
                  refine go_if_eq X (tgt := 124) d_M_isShort_90 rfl (fun _ => ?_) (fun h => absurd (by decide) h)
                  refine go_iconst X (v := 0) d_M_isShort_124 (by decide) ?_
                  refine go_istore_n X (lv' := [(2, .int 0), (4, .int 0), (3, .int ((nI k))), (0, .ref (ad 0)), (1, .int ((nI i)))]) d_M_isShort_125 rfl (by decide) rfl ?_
                  refine go_iinc X (j := 2) (v := nI (k + 1)) d_M_isShort_126 rfl (nI_1 k) (by decide) rfl ?_
                  refine go_goto X (tgt := 4) d_M_isShort_129 rfl ?_
                  refine go_sub (lv' := [(3, .int (nI (k + 1))), (2, .int 0), (0, .ref (ad 0)), (1, .int (nI i))]) [0, 1, 3, 4] rfl ?_
                  exact ih (k + 1) 0 (by omega) (by omega) ((shMU_n (fun q => q.2.2.2.1.elim (fun z => c6 z) (fun z => c10 z.1))).trans (hv.symm.trans c11)).symm
              · refine go_iload_n X (z := 0) d_M_isShort_72 rfl rfl ?_
                refine go_iload_n X (z := 3) d_M_isShort_73 rfl rfl ?_
                refine go_icmp_ge X (tgt := 81) d_M_isShort_74 rfl (fun c13 => ?_) (fun c13 => ?_)
                · refine go_iconst X (v := 0) d_M_isShort_81 (by decide) ?_
                  refine go_istore X (lv' := [(4, .int 0), (3, .int ((nI k))), (2, .int v), (0, .ref (ad 0)), (1, .int ((nI i)))]) d_M_isShort_82 (by decide) rfl ?_
                  refine go_iload_n X (z := 2) d_M_isShort_84 rfl rfl ?_
                  refine go_if_ne X (tgt := 120) d_M_isShort_85 rfl (fun c14 => ?_) (fun c14 => ?_)
                  · refine go_iconst X (v := 1) d_M_isShort_120 (by decide) ?_
                    refine go_goto X (tgt := 125) d_M_isShort_121 rfl ?_
                    refine go_istore_n X (lv' := [(2, .int 1), (4, .int 0), (3, .int ((nI k))), (0, .ref (ad 0)), (1, .int ((nI i)))]) d_M_isShort_125 rfl (by decide) rfl ?_
                    refine go_iinc X (j := 2) (v := nI (k + 1)) d_M_isShort_126 rfl (nI_1 k) (by decide) rfl ?_
                    refine go_goto X (tgt := 4) d_M_isShort_129 rfl ?_
                    refine go_sub (lv' := [(3, .int (nI (k + 1))), (2, .int 1), (0, .ref (ad 0)), (1, .int (nI i))]) [0, 1, 3, 4] rfl ?_
                    exact ih (k + 1) 1 (by omega) (by omega) (shMU_o (by rw [← hv]; exact c14)).symm
                  · refine go_iload X (z := 0) d_M_isShort_88 rfl ?_
                    refine go_if_eq X (tgt := 124) d_M_isShort_90 rfl (fun _ => ?_) (fun h => absurd (by decide) h)
                    refine go_iconst X (v := 0) d_M_isShort_124 (by decide) ?_
                    refine go_istore_n X (lv' := [(2, .int 0), (4, .int 0), (3, .int ((nI k))), (0, .ref (ad 0)), (1, .int ((nI i)))]) d_M_isShort_125 rfl (by decide) rfl ?_
                    refine go_iinc X (j := 2) (v := nI (k + 1)) d_M_isShort_126 rfl (nI_1 k) (by decide) rfl ?_
                    refine go_goto X (tgt := 4) d_M_isShort_129 rfl ?_
                    refine go_sub (lv' := [(3, .int (nI (k + 1))), (2, .int 0), (0, .ref (ad 0)), (1, .int (nI i))]) [0, 1, 3, 4] rfl ?_
                    exact ih (k + 1) 0 (by omega) (by omega) ((shMU_n (fun q => q.2.2.2.1.elim (fun z => c6 z) (fun z => absurd z.2 (Int32.not_lt.mpr c13)))).trans (hv.symm.trans c14)).symm
                · refine go_iconst X (v := 1) d_M_isShort_77 (by decide) ?_
                  refine go_goto X (tgt := 82) d_M_isShort_78 rfl ?_
                  refine go_istore X (lv' := [(4, .int 1), (3, .int ((nI k))), (2, .int v), (0, .ref (ad 0)), (1, .int ((nI i)))]) d_M_isShort_82 (by decide) rfl ?_
                  refine go_iload_n X (z := 2) d_M_isShort_84 rfl rfl ?_
                  refine go_if_ne X (tgt := 120) d_M_isShort_85 rfl (fun c16 => ?_) (fun c16 => ?_)
                  · refine go_iconst X (v := 1) d_M_isShort_120 (by decide) ?_
                    refine go_goto X (tgt := 125) d_M_isShort_121 rfl ?_
                    refine go_istore_n X (lv' := [(2, .int 1), (4, .int 1), (3, .int ((nI k))), (0, .ref (ad 0)), (1, .int ((nI i)))]) d_M_isShort_125 rfl (by decide) rfl ?_
                    refine go_iinc X (j := 2) (v := nI (k + 1)) d_M_isShort_126 rfl (nI_1 k) (by decide) rfl ?_
                    refine go_goto X (tgt := 4) d_M_isShort_129 rfl ?_
                    refine go_sub (lv' := [(3, .int (nI (k + 1))), (2, .int 1), (0, .ref (ad 0)), (1, .int (nI i))]) [0, 1, 3, 4] rfl ?_
                    exact ih (k + 1) 1 (by omega) (by omega) (shMU_o (by rw [← hv]; exact c16)).symm
                  · refine go_iload X (z := 0) d_M_isShort_88 rfl ?_
                    refine go_if_eq X (tgt := 124) d_M_isShort_90 rfl (fun h => absurd h (by decide)) (fun _ => ?_)
                    refine go_aload_n X (z := 3) d_M_isShort_93 rfl rfl ?_
                    refine go_get X u_M rfl 15 (by decide) gm_fl_M_45 rfl d_M_isShort_94 h.this rfl ?_
                    refine go_iload_n X (z := 1) d_M_isShort_97 rfl rfl ?_
                    refine go_lald X 1 rfl d_M_isShort_98 h.a15 (vp_in_nI hk (by decide)) ?_
                    rw [nI_clamp (show k < 2 ^ 31 by omega)]
                    refine go_aload_n X (z := 3) d_M_isShort_99 rfl rfl ?_
                    refine go_get X u_M rfl 12 (by decide) gm_fl_M_36 rfl d_M_isShort_100 h.this rfl ?_
                    refine go_iload_n X (z := 1) d_M_isShort_103 rfl rfl ?_
                    refine go_lald X 1 rfl d_M_isShort_104 h.a12 (vp_in_nI hk (by decide)) ?_
                    rw [nI_clamp (show k < 2 ^ 31 by omega)]
                    refine go_lsub X d_M_isShort_105 ?_
                    refine go_aload_n X (z := 3) d_M_isShort_106 rfl rfl ?_
                    refine go_get X u_M rfl 15 (by decide) gm_fl_M_45 rfl d_M_isShort_107 h.this rfl ?_
                    refine go_iload_n X (z := 4) d_M_isShort_110 rfl rfl ?_
                    refine go_lald X 1 rfl d_M_isShort_111 h.a15 (vp_in_nI hi (by decide)) ?_
                    rw [nI_clamp (show i < 2 ^ 31 by omega)]
                    refine go_ldc2 X d_M_isShort_112 gm_k_M_114 ?_
                    refine go_ladd X d_M_isShort_115 ?_
                    refine go_lif_ge X (tgt := 124) d_M_isShort_116 d_M_isShort_117 rfl (fun c18 => ?_) (fun c18 => ?_)
                    · refine go_iconst X (v := 0) d_M_isShort_124 (by decide) ?_
                      refine go_istore_n X (lv' := [(2, .int 0), (4, .int 1), (3, .int ((nI k))), (0, .ref (ad 0)), (1, .int ((nI i)))]) d_M_isShort_125 rfl (by decide) rfl ?_
                      refine go_iinc X (j := 2) (v := nI (k + 1)) d_M_isShort_126 rfl (nI_1 k) (by decide) rfl ?_
                      refine go_goto X (tgt := 4) d_M_isShort_129 rfl ?_
                      refine go_sub (lv' := [(3, .int (nI (k + 1))), (2, .int 0), (0, .ref (ad 0)), (1, .int (nI i))]) [0, 1, 3, 4] rfl ?_
                      exact ih (k + 1) 0 (by omega) (by omega) ((shMU_n (fun q => absurd q.2.2.2.2 (Int64.not_lt.mpr c18))).trans (hv.symm.trans c16)).symm
                    · refine go_iconst X (v := 1) d_M_isShort_120 (by decide) ?_
                      refine go_goto X (tgt := 125) d_M_isShort_121 rfl ?_
                      refine go_istore_n X (lv' := [(2, .int 1), (4, .int 1), (3, .int ((nI k))), (0, .ref (ad 0)), (1, .int ((nI i)))]) d_M_isShort_125 rfl (by decide) rfl ?_
                      refine go_iinc X (j := 2) (v := nI (k + 1)) d_M_isShort_126 rfl (nI_1 k) (by decide) rfl ?_
                      refine go_goto X (tgt := 4) d_M_isShort_129 rfl ?_
                      refine go_sub (lv' := [(3, .int (nI (k + 1))), (2, .int 1), (0, .ref (ad 0)), (1, .int (nI i))]) [0, 1, 3, 4] rfl ?_
                      exact ih (k + 1) 1 (by omega) (by omega) (shMU_1 h1k ⟨c2, c4, c5, Or.inr ⟨c10, Int32.not_le.mp c13⟩, Int64.not_le.mp c18⟩).symm
  refine go_iconst X (v := 0) d_M_isShort_0 (by decide) ?_
  refine go_istore_n X (lv' := [(2, .int 0), (0, .ref (ad 0)), (1, .int (nI i))]) d_M_isShort_1 rfl (by decide) rfl ?_
  refine go_iconst X (v := 1) d_M_isShort_2 (by decide) ?_
  refine go_istore_n X (lv' := [(3, .int (nI 1)), (2, .int 0), (0, .ref (ad 0)), (1, .int (nI i))]) d_M_isShort_3 rfl (by decide) rfl ?_
  exact loop ni 1 0 (Nat.le_refl 1) (by omega) shMU_0.symm
end M1
end
section
/-! The reference: goOver, look. -/
def oN (J : JA) (i : Nat) : Nat := (J 14 i).toNatClampNeg
def goL (L : LA) (J : JA) (i : Nat) : LA := va_up L 15 (vp_updL (L 15) i (L 15 i - L 3 (oN J i)))
def goJ (J : JA) (i : Nat) : JA := va_up (va_up (va_up (va_up J 16 (upd (J 16) i (if J 5 (oN J i) = -1 then 1 else 0))) 14 (upd (J 14) i (if J 5 (oN J i) = -1 then J 14 i else J 5 (oN J i)))) 17 (upd (J 17) i 0)) 18 (upd (J 18) i 0)
def go1 (now : Int64) (L : LA) (J : JA) (i : Nat) : LA × JA := if thereF now L J i = 0 then (L, J) else if L 15 i < L 3 (oN J i) then (L, J) else (goL L J i, goJ J i)
def goN (now : Int64) (L : LA) (J : JA) : Nat → LA × JA
  | 0 => (L, J)
  | k + 1 => go1 now (goN now L J k).1 (goN now L J k).2 (k + 1)
abbrev MS : Type := LA × JA × Nat
theorem tlJ_k {J : JA} {ed i : Nat} {kd : Int32} (k : Nat) (h1 : k ≠ 22 := by decide) (h2 : k ≠ 23 := by decide) (h3 : k ≠ 24 := by decide) : tlJ J ed i kd k = J k := by
  unfold tlJ
  split
  · rfl
  · rw [va_up_ne _ _ h3, va_up_ne _ _ h2, va_up_ne _ _ h1]
theorem tlL_k {L : LA} {ed : Nat} {now : Int64} (k : Nat) (h1 : k ≠ 21 := by decide) : tlL L ed now k = L k := by
  unfold tlL
  split
  · rfl
  · rw [va_up_ne _ _ h1]
noncomputable def lkA (now : Int64) (ni i : Nat) (s : MS) : MS := if s.2.1 17 i = 0 then (if s.1 15 i < s.1 3 (oN s.2.1 i) / 2 then s else (tlL s.1 s.2.2 now, va_up (tlJ s.2.1 s.2.2 i (if shMU now s.1 s.2.1 i (ni + 1) = 0 then 0 else 2)) 17 (upd (s.2.1 17) i 1), s.2.2 + 1)) else s
def lkB (now : Int64) (sn : Int64) (i : Nat) (s : MS) : MS := if s.2.1 17 i = 0 then s else if s.2.1 18 i = 0 then (if s.1 15 i - s.1 12 i < sn then s else (tlL s.1 s.2.2 now, va_up (tlJ s.2.1 s.2.2 i 1) 18 (upd (s.2.1 18) i 1), s.2.2 + 1)) else s
noncomputable def lk1 (now : Int64) (ni i : Nat) (s : MS) : MS := if thereF now s.1 s.2.1 i = 0 then s else lkB now (s.1 3 (oN s.2.1 i) / 2) i (lkA now ni i s)
noncomputable def lkN (now : Int64) (ni : Nat) (s : MS) : Nat → MS
  | 0 => s
  | k + 1 => lk1 now ni (k + 1) (lkN now ni s k)
theorem lkA_n (now : Int64) (ni i : Nat) (s : MS) : (lkA now ni i s).2.2 ≤ s.2.2 + 1 ∧ (lkA now ni i s).2.1 14 = s.2.1 14 ∧ (lkA now ni i s).2.1 5 = s.2.1 5 ∧ (lkA now ni i s).2.1 18 = s.2.1 18 ∧ (lkA now ni i s).1 15 = s.1 15 ∧ (lkA now ni i s).1 12 = s.1 12 ∧ (lkA now ni i s).1 3 = s.1 3 := by
  unfold lkA
  repeat' split
  all_goals first
    | exact ⟨Nat.le_succ _, rfl, rfl, rfl, rfl, rfl, rfl⟩
    | exact ⟨Nat.le_refl _, tlJ_k 14, tlJ_k 5, tlJ_k 18, tlL_k 15, tlL_k 12, tlL_k 3⟩
theorem lkB_n (now sn : Int64) (i : Nat) (s : MS) : (lkB now sn i s).2.2 ≤ s.2.2 + 1 ∧ (lkB now sn i s).2.1 14 = s.2.1 14 ∧ (lkB now sn i s).2.1 5 = s.2.1 5 ∧ (lkB now sn i s).1 3 = s.1 3 := by
  unfold lkB
  repeat' split
  all_goals first
    | exact ⟨Nat.le_succ _, rfl, rfl, rfl⟩
    | exact ⟨Nat.le_refl _, tlJ_k 14, tlJ_k 5, tlL_k 3⟩
theorem lk1_n (now : Int64) (ni i : Nat) (s : MS) : (lk1 now ni i s).2.2 ≤ s.2.2 + 2 ∧ (lk1 now ni i s).2.1 14 = s.2.1 14 ∧ (lk1 now ni i s).2.1 5 = s.2.1 5 ∧ (lk1 now ni i s).1 3 = s.1 3 := by
  unfold lk1
  split
  · exact ⟨Nat.le_add_right _ _, rfl, rfl, rfl⟩
  · obtain ⟨a1, a2, a3, -, -, -, a4⟩ := lkA_n now ni i s
    obtain ⟨b1, b2, b3, b4⟩ := lkB_n now (s.1 3 (oN s.2.1 i) / 2) i (lkA now ni i s)
    exact ⟨by omega, b2.trans a2, b3.trans a3, b4.trans a4⟩
theorem lkN_n (now : Int64) (ni : Nat) (s : MS) (k : Nat) : (lkN now ni s k).2.2 ≤ s.2.2 + 2 * k ∧ (lkN now ni s k).2.1 14 = s.2.1 14 ∧ (lkN now ni s k).2.1 5 = s.2.1 5 ∧ (lkN now ni s k).1 3 = s.1 3 := by
  induction k with
  | zero => exact ⟨Nat.le_refl _, rfl, rfl, rfl⟩
  | succ k ih =>
    obtain ⟨a1, a2, a3, a4⟩ := lk1_n now ni (k + 1) (lkN now ni s k)
    obtain ⟨b1, b2, b3, b4⟩ := ih
    refine ⟨?_, a2.trans b2, a3.trans b3, a4.trans b4⟩
    show (lk1 now ni (k + 1) (lkN now ni s k)).2.2 ≤ _
    omega
theorem MWf.congr {nb ni : Nat} {J J' : JA} (h : MWf nb ni J) (e14 : J' 14 = J 14) (e5 : J' 5 = J 5) : MWf nb ni J' := ⟨h.1, h.2.1, fun i a b => by rw [e14]; exact h.2.2.1 i a b, fun b hb => by rw [e5]; exact h.2.2.2 b hb⟩
theorem go1_wf {nb ni : Nat} {now : Int64} {L : LA} {J : JA} (h : MWf nb ni J) {i : Nat} (h1 : 1 ≤ i) (hi : i ≤ ni) : MWf nb ni (go1 now L J i).2 := by
  unfold go1
  split
  · exact h
  · split
    · exact h
    · refine ⟨h.1, h.2.1, fun k a b => ?_, fun b hb => ?_⟩
      · show ∃ j, j < nb ∧ upd (J 14) i (if J 5 (oN J i) = -1 then J 14 i else J 5 (oN J i)) k = nI j
        by_cases hk : k = i
        · subst hk
          rw [pk_us]
          obtain ⟨j, hj, e⟩ := h.2.2.1 k a b
          have hn := h.1
          have ho : oN J k = j := by unfold oN; rw [e]; exact nI_clamp (by omega)
          rw [ho]
          by_cases hc : J 5 j = -1
          · rw [if_pos hc]; exact ⟨j, hj, e⟩
          · rw [if_neg hc]
            exact (h.2.2.2 j hj).resolve_left hc
        · rw [pk_un hk]
          exact h.2.2.1 k a b
      · exact h.2.2.2 b hb
theorem goN_wf {nb ni : Nat} {now : Int64} {L : LA} {J : JA} (h : MWf nb ni J) (k : Nat) (hk : k ≤ ni) : MWf nb ni (goN now L J k).2 := by
  induction k with
  | zero => exact h
  | succ k ih => exact go1_wf (ih (by omega)) (by omega) hk
section M2
variable {ad : Nat → Nat} {th : Int32} {now : Int64} {nb ni ed : Nat} {kn : Int32} {L : LA} {J : JA}
set_option maxHeartbeats 4000000 in
set_option maxRecDepth 100000 in
theorem c_M_goOver {l : Launch} {D : va_G} {dA : Nat → ClassId} {g : Nat → Option va_E}  (h : MRep dA ad g th now nb ni ed kn L J) (hW : MWf nb ni J) : CtV l D classes (tyL dA) y_M_goOver b_M_goOver 3 none rm_M_goOver [.ref (ad 0)] g (fun g' => MRep dA ad g' th now nb ni ed kn (goN now L J ni).1 (goN now L J ni).2 ∧ MFr ad g g') := by
  refine CtV.of (by decide) (Nat.le_of_ble_eq_true rfl) ?_
  intro p e s m below meth c X hr hlk hnm
  have hnb := hW.1
  have hni := hW.2.1
  have loop : ∀ (f k : Nat) (g1 : Nat → Option va_E) (s1 : LA × JA), k + f = ni → s1 = goN now L J k → MRep dA ad g1 th now nb ni ed kn s1.1 s1.2 → MFr ad g g1 → Go p l e rm_M_goOver s m [.ref (ad 0)].toArray below meth c D classes (gA g s.heap.size) 3 (MQ below (va_Qv (fun g' => MRep dA ad g' th now nb ni ed kn (goN now L J ni).1 (goN now L J ni).2 ∧ MFr ad g g') (fun (g' : Nat → Option va_E) (t : State) => PW D classes (gA g s.heap.size) g' t.heap) (gA g s.heap.size)) [.ref (ad 0)].toArray s 0 0 (gA g s.heap.size)) g1 0 0 2 [(1, .int ((nI (k + 1)))), (0, .ref (ad 0))] [] := by
    intro f
    induction f with
    | zero =>
      intro k g1 s1 hk hs h1 hF
      have hkn : k = ni := by omega
      subst hkn
      refine go_iload_n X (z := 0) d_M_goOver_2 rfl rfl ?_
      refine go_aload_n X (z := 1) d_M_goOver_3 rfl rfl ?_
      refine go_get X u_M rfl 11 (by decide) gm_fl_M_76 rfl d_M_goOver_4 h1.this rfl ?_
      refine go_icmp_gt X (tgt := 132) d_M_goOver_7 rfl (fun c1 => ?_) (fun c1 => absurd (nI_lt (by omega) (by omega)) c1)
      exact go_retV X hr hlk d_M_goOver_132 ⟨hs ▸ h1, hF⟩
    | succ f ih =>
      intro k g1 s1 hkf hs h1 hF
      have hW1 : MWf nb ni s1.2 := hs ▸ goN_wf hW k (by omega)
      obtain ⟨j, hj, ho⟩ := hW1.2.2.1 (k + 1) (by omega) (by omega)
      have hoN : oN s1.2 (k + 1) = j := by unfold oN; rw [ho]; exact nI_clamp (by omega)
      refine go_iload_n X (z := 0) d_M_goOver_2 rfl rfl ?_
      refine go_aload_n X (z := 1) d_M_goOver_3 rfl rfl ?_
      refine go_get X u_M rfl 11 (by decide) gm_fl_M_76 rfl d_M_goOver_4 h1.this rfl ?_
      refine go_icmp_gt X (tgt := 132) d_M_goOver_7 rfl (fun c1 => absurd c1 (nI_nlt (a := ni) (b := k + 1) (by omega) (by omega))) (fun c1 => ?_)
      refine go_aload_n X (z := 1) d_M_goOver_10 rfl rfl ?_
      refine go_iload_n X (z := 0) d_M_goOver_11 rfl rfl ?_
      refine go_callI_V X (As := [.int ((nI (k + 1)))]) (rest := []) (c_M_isThere h1 (by omega)) gm_ml_M_111 cw_M_isThere ⟨by decide, by decide⟩ rfl h1.this rfl rfl (Nat.le_of_ble_eq_true rfl) d_M_goOver_12 ⟨by decide, by decide⟩ (fun ru2 gu2 hu2 => ?_)
      obtain ⟨rfl, rfl⟩ := hu2
      refine go_if_eq X (tgt := 126) d_M_goOver_15 rfl (fun c3 => ?_) (fun c3 => ?_)
      · refine go_iinc X (j := 0) (v := nI (k + 1 + 1)) d_M_goOver_126 rfl (nI_1 (k + 1)) (by decide) rfl ?_
        refine go_goto X (tgt := 2) d_M_goOver_129 rfl ?_
        refine go_sub (lv' := [(1, .int (nI (k + 1 + 1))), (0, .ref (ad 0))]) [0, 1] rfl ?_
        exact ih (k + 1) _ s1 (by omega) (by show s1 = go1 now (goN now L J k).1 (goN now L J k).2 (k + 1); rw [← hs]; unfold go1; rw [if_pos c3]) h1 hF
      · refine go_aload_n X (z := 1) d_M_goOver_18 rfl rfl ?_
        refine go_get X u_M rfl 15 (by decide) gm_fl_M_45 rfl d_M_goOver_19 h1.this rfl ?_
        refine go_iload_n X (z := 0) d_M_goOver_22 rfl rfl ?_
        refine go_lald X 1 rfl d_M_goOver_23 h1.a15 (vp_in_nI (by omega) (by decide)) ?_
        rw [nI_clamp (show (k + 1) < 2 ^ 31 by omega)]
        refine go_aload_n X (z := 1) d_M_goOver_24 rfl rfl ?_
        refine go_get X u_M rfl 3 (by decide) gm_fl_M_7 rfl d_M_goOver_25 h1.this rfl ?_
        refine go_aload_n X (z := 1) d_M_goOver_28 rfl rfl ?_
        refine go_get X u_M rfl 14 (by decide) gm_fl_M_42 rfl d_M_goOver_29 h1.this rfl ?_
        refine go_iload_n X (z := 0) d_M_goOver_32 rfl rfl ?_
        refine go_iald X 0 rfl d_M_goOver_33 h1.a14 (vp_in_nI (by omega) (by decide)) ?_
        rw [nI_clamp (show (k + 1) < 2 ^ 31 by omega)]
        rw [ho]
        refine go_lald X 1 rfl d_M_goOver_34 h1.a3 (vp_in_nI (by omega) (by decide)) ?_
        rw [nI_clamp (show j < 2 ^ 31 by omega)]
        refine go_lif_lt X (tgt := 126) d_M_goOver_35 d_M_goOver_36 rfl (fun c4 => ?_) (fun c4 => ?_)
        · refine go_iinc X (j := 0) (v := nI (k + 1 + 1)) d_M_goOver_126 rfl (nI_1 (k + 1)) (by decide) rfl ?_
          refine go_goto X (tgt := 2) d_M_goOver_129 rfl ?_
          refine go_sub (lv' := [(1, .int (nI (k + 1 + 1))), (0, .ref (ad 0))]) [0, 1] rfl ?_
          exact ih (k + 1) _ s1 (by omega) (by show s1 = go1 now (goN now L J k).1 (goN now L J k).2 (k + 1); rw [← hs]; unfold go1; rw [if_neg c3, hoN, if_pos c4]) h1 hF
        · refine go_aload_n X (z := 1) d_M_goOver_39 rfl rfl ?_
          refine go_get X u_M rfl 15 (by decide) gm_fl_M_45 rfl d_M_goOver_40 h1.this rfl ?_
          refine go_iload_n X (z := 0) d_M_goOver_43 rfl rfl ?_
          refine go_aload_n X (z := 1) d_M_goOver_44 rfl rfl ?_
          refine go_get X u_M rfl 15 (by decide) gm_fl_M_45 rfl d_M_goOver_45 h1.this rfl ?_
          refine go_iload_n X (z := 0) d_M_goOver_48 rfl rfl ?_
          refine go_lald X 1 rfl d_M_goOver_49 h1.a15 (vp_in_nI (by omega) (by decide)) ?_
          rw [nI_clamp (show (k + 1) < 2 ^ 31 by omega)]
          refine go_aload_n X (z := 1) d_M_goOver_50 rfl rfl ?_
          refine go_get X u_M rfl 3 (by decide) gm_fl_M_7 rfl d_M_goOver_51 h1.this rfl ?_
          refine go_aload_n X (z := 1) d_M_goOver_54 rfl rfl ?_
          refine go_get X u_M rfl 14 (by decide) gm_fl_M_42 rfl d_M_goOver_55 h1.this rfl ?_
          refine go_iload_n X (z := 0) d_M_goOver_58 rfl rfl ?_
          refine go_iald X 0 rfl d_M_goOver_59 h1.a14 (vp_in_nI (by omega) (by decide)) ?_
          rw [nI_clamp (show (k + 1) < 2 ^ 31 by omega)]
          rw [ho]
          refine go_lald X 1 rfl d_M_goOver_60 h1.a3 (vp_in_nI (by omega) (by decide)) ?_
          rw [nI_clamp (show j < 2 ^ 31 by omega)]
          refine go_lsub X d_M_goOver_61 ?_
          refine go_topl (fun x5 ex5 => ?_)
          refine go_last X 1 rfl d_M_goOver_62 h1.a15 (vp_in_nI (by omega) (by decide)) ?_
          refine go_gen (fun g6 eg6 => ?_)
          have eg6 : g6 = va_up g1 (ad 15) (some (.inl (dA 1, 61, .inr (.inl (vp_updL ((s1.1 15)) (k + 1) x5))))) := by rw [eg6, nI_clamp (show k + 1 < 2 ^ 31 by omega)]
          have h7 : g6 (ad 0) = some (.inr (4, [.int th, .long now, .int ((nI nb)), .ref (ad 3), .ref (ad 4), .ref (ad 5), .ref (ad 6), .ref (ad 7), .ref (ad 8), .ref (ad 9), .ref (ad 10), .int ((nI ni)), .ref (ad 12), .ref (ad 13), .ref (ad 14), .ref (ad 15), .ref (ad 16), .ref (ad 17), .ref (ad 18), .int ((nI ed)), .int kn, .ref (ad 21), .ref (ad 22), .ref (ad 23), .ref (ad 24)])) := by rw [eg6, va_up_ne _ _ (h1.ne 0 15)]; exact h1.this
          have h8 : g6 (ad 3) = some (.inl (dA 1, 12, .inr (.inl ((s1.1 3))))) := by rw [eg6, va_up_ne _ _ (h1.ne 3 15)]; exact h1.a3
          have h9 : g6 (ad 14) = some (.inl (dA 0, 61, .inl ((s1.2 14)))) := by rw [eg6, va_up_ne _ _ (h1.ne 14 15)]; exact h1.a14
          have h10 : g6 (ad 5) = some (.inl (dA 0, 12, .inl ((s1.2 5)))) := by rw [eg6, va_up_ne _ _ (h1.ne 5 15)]; exact h1.a5
          have h11 : g6 (ad 16) = some (.inl (dA 2, 61, .inl ((s1.2 16)))) := by rw [eg6, va_up_ne _ _ (h1.ne 16 15)]; exact h1.a16
          have h12 : g6 (ad 17) = some (.inl (dA 2, 61, .inl ((s1.2 17)))) := by rw [eg6, va_up_ne _ _ (h1.ne 17 15)]; exact h1.a17
          have h13 : g6 (ad 18) = some (.inl (dA 2, 61, .inl ((s1.2 18)))) := by rw [eg6, va_up_ne _ _ (h1.ne 18 15)]; exact h1.a18
          have h14 : g6 (ad 15) = some (.inl (dA 1, 61, .inr (.inl (vp_updL ((s1.1 15)) (k + 1) x5)))) := by rw [eg6]; exact va_up_self _ _ _
          refine go_aload_n X (z := 1) d_M_goOver_63 rfl rfl ?_
          refine go_get X u_M rfl 5 (by decide) gm_fl_M_16 rfl d_M_goOver_64 h7 rfl ?_
          refine go_aload_n X (z := 1) d_M_goOver_67 rfl rfl ?_
          refine go_get X u_M rfl 14 (by decide) gm_fl_M_42 rfl d_M_goOver_68 h7 rfl ?_
          refine go_iload_n X (z := 0) d_M_goOver_71 rfl rfl ?_
          refine go_iald X 0 rfl d_M_goOver_72 h9 (vp_in_nI (by omega) (by decide)) ?_
          rw [nI_clamp (show (k + 1) < 2 ^ 31 by omega)]
          rw [ho]
          refine go_iald X 0 rfl d_M_goOver_73 h10 (vp_in_nI (by omega) (by decide)) ?_
          rw [nI_clamp (show j < 2 ^ 31 by omega)]
          refine go_topi (fun x15 ex15 => ?_)
          refine go_istore_n X (lv' := [(2, .int x15), (1, .int ((nI (k + 1)))), (0, .ref (ad 0))]) d_M_goOver_74 rfl (by decide) rfl ?_
          refine go_aload_n X (z := 2) d_M_goOver_75 rfl rfl ?_
          refine go_get X u_M rfl 16 (by decide) gm_fl_M_48 rfl d_M_goOver_76 h7 rfl ?_
          refine go_iload_n X (z := 1) d_M_goOver_79 rfl rfl ?_
          refine go_iload_n X (z := 0) d_M_goOver_80 rfl rfl ?_
          refine go_iconst X (v := (-1)) d_M_goOver_81 (by decide) ?_
          refine go_icmp_ne X (tgt := 89) d_M_goOver_82 rfl (fun c16 => ?_) (fun c16 => ?_)
          · refine go_iconst X (v := 0) d_M_goOver_89 (by decide) ?_
            refine go_zast X 2 rfl d_M_goOver_90 h11 (vp_in_nI (by omega) (by decide)) ?_
            refine go_gen (fun g17 eg17 => ?_)
            have eg17 : g17 = va_up g6 (ad 16) (some (.inl (dA 2, 61, .inl (upd ((s1.2 16)) (k + 1) 0)))) := by rw [eg17, nI_clamp (show k + 1 < 2 ^ 31 by omega), show vp_nar .boolean (0 : Int32) = 0 from rfl]
            have h18 : g17 (ad 0) = some (.inr (4, [.int th, .long now, .int ((nI nb)), .ref (ad 3), .ref (ad 4), .ref (ad 5), .ref (ad 6), .ref (ad 7), .ref (ad 8), .ref (ad 9), .ref (ad 10), .int ((nI ni)), .ref (ad 12), .ref (ad 13), .ref (ad 14), .ref (ad 15), .ref (ad 16), .ref (ad 17), .ref (ad 18), .int ((nI ed)), .int kn, .ref (ad 21), .ref (ad 22), .ref (ad 23), .ref (ad 24)])) := by rw [eg17, va_up_ne _ _ (h1.ne 0 16)]; exact h7
            have h19 : g17 (ad 15) = some (.inl (dA 1, 61, .inr (.inl (vp_updL ((s1.1 15)) (k + 1) x5)))) := by rw [eg17, va_up_ne _ _ (h1.ne 15 16)]; exact h14
            have h20 : g17 (ad 3) = some (.inl (dA 1, 12, .inr (.inl ((s1.1 3))))) := by rw [eg17, va_up_ne _ _ (h1.ne 3 16)]; exact h8
            have h21 : g17 (ad 14) = some (.inl (dA 0, 61, .inl ((s1.2 14)))) := by rw [eg17, va_up_ne _ _ (h1.ne 14 16)]; exact h9
            have h22 : g17 (ad 5) = some (.inl (dA 0, 12, .inl ((s1.2 5)))) := by rw [eg17, va_up_ne _ _ (h1.ne 5 16)]; exact h10
            have h23 : g17 (ad 17) = some (.inl (dA 2, 61, .inl ((s1.2 17)))) := by rw [eg17, va_up_ne _ _ (h1.ne 17 16)]; exact h12
            have h24 : g17 (ad 18) = some (.inl (dA 2, 61, .inl ((s1.2 18)))) := by rw [eg17, va_up_ne _ _ (h1.ne 18 16)]; exact h13
            have h25 : g17 (ad 16) = some (.inl (dA 2, 61, .inl (upd ((s1.2 16)) (k + 1) 0))) := by rw [eg17]; exact va_up_self _ _ _
            refine go_aload_n X (z := 2) d_M_goOver_91 rfl rfl ?_
            refine go_get X u_M rfl 14 (by decide) gm_fl_M_42 rfl d_M_goOver_92 h18 rfl ?_
            refine go_iload_n X (z := 1) d_M_goOver_95 rfl rfl ?_
            refine go_iload_n X (z := 0) d_M_goOver_96 rfl rfl ?_
            refine go_iconst X (v := (-1)) d_M_goOver_97 (by decide) ?_
            refine go_icmp_ne X (tgt := 110) d_M_goOver_98 rfl (fun c26 => ?_) (fun c26 => absurd c26 c16)
            refine go_iload_n X (z := 0) d_M_goOver_110 rfl rfl ?_
            refine go_iast X 0 rfl d_M_goOver_111 h21 (vp_in_nI (by omega) (by decide)) ?_
            refine go_gen (fun g27 eg27 => ?_)
            have eg27 : g27 = va_up g17 (ad 14) (some (.inl (dA 0, 61, .inl (upd ((s1.2 14)) (k + 1) x15)))) := by rw [eg27, nI_clamp (show k + 1 < 2 ^ 31 by omega)]
            have h28 : g27 (ad 0) = some (.inr (4, [.int th, .long now, .int ((nI nb)), .ref (ad 3), .ref (ad 4), .ref (ad 5), .ref (ad 6), .ref (ad 7), .ref (ad 8), .ref (ad 9), .ref (ad 10), .int ((nI ni)), .ref (ad 12), .ref (ad 13), .ref (ad 14), .ref (ad 15), .ref (ad 16), .ref (ad 17), .ref (ad 18), .int ((nI ed)), .int kn, .ref (ad 21), .ref (ad 22), .ref (ad 23), .ref (ad 24)])) := by rw [eg27, va_up_ne _ _ (h1.ne 0 14)]; exact h18
            have h29 : g27 (ad 15) = some (.inl (dA 1, 61, .inr (.inl (vp_updL ((s1.1 15)) (k + 1) x5)))) := by rw [eg27, va_up_ne _ _ (h1.ne 15 14)]; exact h19
            have h30 : g27 (ad 3) = some (.inl (dA 1, 12, .inr (.inl ((s1.1 3))))) := by rw [eg27, va_up_ne _ _ (h1.ne 3 14)]; exact h20
            have h31 : g27 (ad 5) = some (.inl (dA 0, 12, .inl ((s1.2 5)))) := by rw [eg27, va_up_ne _ _ (h1.ne 5 14)]; exact h22
            have h32 : g27 (ad 16) = some (.inl (dA 2, 61, .inl (upd ((s1.2 16)) (k + 1) 0))) := by rw [eg27, va_up_ne _ _ (h1.ne 16 14)]; exact h25
            have h33 : g27 (ad 17) = some (.inl (dA 2, 61, .inl ((s1.2 17)))) := by rw [eg27, va_up_ne _ _ (h1.ne 17 14)]; exact h23
            have h34 : g27 (ad 18) = some (.inl (dA 2, 61, .inl ((s1.2 18)))) := by rw [eg27, va_up_ne _ _ (h1.ne 18 14)]; exact h24
            have h35 : g27 (ad 14) = some (.inl (dA 0, 61, .inl (upd ((s1.2 14)) (k + 1) x15))) := by rw [eg27]; exact va_up_self _ _ _
            refine go_aload_n X (z := 2) d_M_goOver_112 rfl rfl ?_
            refine go_get X u_M rfl 17 (by decide) gm_fl_M_51 rfl d_M_goOver_113 h28 rfl ?_
            refine go_iload_n X (z := 1) d_M_goOver_116 rfl rfl ?_
            refine go_iconst X (v := 0) d_M_goOver_117 (by decide) ?_
            refine go_zast X 2 rfl d_M_goOver_118 h33 (vp_in_nI (by omega) (by decide)) ?_
            refine go_gen (fun g36 eg36 => ?_)
            have eg36 : g36 = va_up g27 (ad 17) (some (.inl (dA 2, 61, .inl (upd ((s1.2 17)) (k + 1) 0)))) := by rw [eg36, nI_clamp (show k + 1 < 2 ^ 31 by omega), show vp_nar .boolean (0 : Int32) = 0 from rfl]
            have h37 : g36 (ad 0) = some (.inr (4, [.int th, .long now, .int ((nI nb)), .ref (ad 3), .ref (ad 4), .ref (ad 5), .ref (ad 6), .ref (ad 7), .ref (ad 8), .ref (ad 9), .ref (ad 10), .int ((nI ni)), .ref (ad 12), .ref (ad 13), .ref (ad 14), .ref (ad 15), .ref (ad 16), .ref (ad 17), .ref (ad 18), .int ((nI ed)), .int kn, .ref (ad 21), .ref (ad 22), .ref (ad 23), .ref (ad 24)])) := by rw [eg36, va_up_ne _ _ (h1.ne 0 17)]; exact h28
            have h38 : g36 (ad 15) = some (.inl (dA 1, 61, .inr (.inl (vp_updL ((s1.1 15)) (k + 1) x5)))) := by rw [eg36, va_up_ne _ _ (h1.ne 15 17)]; exact h29
            have h39 : g36 (ad 3) = some (.inl (dA 1, 12, .inr (.inl ((s1.1 3))))) := by rw [eg36, va_up_ne _ _ (h1.ne 3 17)]; exact h30
            have h40 : g36 (ad 14) = some (.inl (dA 0, 61, .inl (upd ((s1.2 14)) (k + 1) x15))) := by rw [eg36, va_up_ne _ _ (h1.ne 14 17)]; exact h35
            have h41 : g36 (ad 5) = some (.inl (dA 0, 12, .inl ((s1.2 5)))) := by rw [eg36, va_up_ne _ _ (h1.ne 5 17)]; exact h31
            have h42 : g36 (ad 16) = some (.inl (dA 2, 61, .inl (upd ((s1.2 16)) (k + 1) 0))) := by rw [eg36, va_up_ne _ _ (h1.ne 16 17)]; exact h32
            have h43 : g36 (ad 18) = some (.inl (dA 2, 61, .inl ((s1.2 18)))) := by rw [eg36, va_up_ne _ _ (h1.ne 18 17)]; exact h34
            have h44 : g36 (ad 17) = some (.inl (dA 2, 61, .inl (upd ((s1.2 17)) (k + 1) 0))) := by rw [eg36]; exact va_up_self _ _ _
            refine go_aload_n X (z := 2) d_M_goOver_119 rfl rfl ?_
            refine go_get X u_M rfl 18 (by decide) gm_fl_M_54 rfl d_M_goOver_120 h37 rfl ?_
            refine go_iload_n X (z := 1) d_M_goOver_123 rfl rfl ?_
            refine go_iconst X (v := 0) d_M_goOver_124 (by decide) ?_
            refine go_zast X 2 rfl d_M_goOver_125 h43 (vp_in_nI (by omega) (by decide)) ?_
            refine go_gen (fun g45 eg45 => ?_)
            have eg45 : g45 = va_up g36 (ad 18) (some (.inl (dA 2, 61, .inl (upd ((s1.2 18)) (k + 1) 0)))) := by rw [eg45, nI_clamp (show k + 1 < 2 ^ 31 by omega), show vp_nar .boolean (0 : Int32) = 0 from rfl]
            have h46 : g45 (ad 0) = some (.inr (4, [.int th, .long now, .int ((nI nb)), .ref (ad 3), .ref (ad 4), .ref (ad 5), .ref (ad 6), .ref (ad 7), .ref (ad 8), .ref (ad 9), .ref (ad 10), .int ((nI ni)), .ref (ad 12), .ref (ad 13), .ref (ad 14), .ref (ad 15), .ref (ad 16), .ref (ad 17), .ref (ad 18), .int ((nI ed)), .int kn, .ref (ad 21), .ref (ad 22), .ref (ad 23), .ref (ad 24)])) := by rw [eg45, va_up_ne _ _ (h1.ne 0 18)]; exact h37
            have h47 : g45 (ad 15) = some (.inl (dA 1, 61, .inr (.inl (vp_updL ((s1.1 15)) (k + 1) x5)))) := by rw [eg45, va_up_ne _ _ (h1.ne 15 18)]; exact h38
            have h48 : g45 (ad 3) = some (.inl (dA 1, 12, .inr (.inl ((s1.1 3))))) := by rw [eg45, va_up_ne _ _ (h1.ne 3 18)]; exact h39
            have h49 : g45 (ad 14) = some (.inl (dA 0, 61, .inl (upd ((s1.2 14)) (k + 1) x15))) := by rw [eg45, va_up_ne _ _ (h1.ne 14 18)]; exact h40
            have h50 : g45 (ad 5) = some (.inl (dA 0, 12, .inl ((s1.2 5)))) := by rw [eg45, va_up_ne _ _ (h1.ne 5 18)]; exact h41
            have h51 : g45 (ad 16) = some (.inl (dA 2, 61, .inl (upd ((s1.2 16)) (k + 1) 0))) := by rw [eg45, va_up_ne _ _ (h1.ne 16 18)]; exact h42
            have h52 : g45 (ad 17) = some (.inl (dA 2, 61, .inl (upd ((s1.2 17)) (k + 1) 0))) := by rw [eg45, va_up_ne _ _ (h1.ne 17 18)]; exact h44
            have h53 : g45 (ad 18) = some (.inl (dA 2, 61, .inl (upd ((s1.2 18)) (k + 1) 0))) := by rw [eg45]; exact va_up_self _ _ _
            have hM : MRep dA ad g45 th now nb ni ed kn (goL s1.1 s1.2 (k + 1)) (goJ s1.2 (k + 1)) := by
              unfold goL goJ
              rw [hoN, if_neg (show ¬ s1.2 5 j = -1 from ex15 ▸ c16), if_neg (show ¬ s1.2 5 j = -1 from ex15 ▸ c16), eg45, eg36, eg27, eg17, eg6]
              subst ex5 ex15
              exact ((((h1.setL 15 _).setZ 16 _).setJ 14 _).setZ 17 _).setZ 18 _
            have hF2 : MFr ad g1 g45 := by
              rw [eg45, eg36, eg27, eg17, eg6]
              exact (MFr.up rfl).trans ((MFr.up rfl).trans ((MFr.up rfl).trans ((MFr.up rfl).trans (MFr.up rfl))))
            refine go_iinc X (j := 1) (v := nI (k + 1 + 1)) d_M_goOver_126 rfl (nI_1 (k + 1)) (by decide) rfl ?_
            refine go_goto X (tgt := 2) d_M_goOver_129 rfl ?_
            refine go_sub (lv' := [(1, .int (nI (k + 1 + 1))), (0, .ref (ad 0))]) [0, 2] rfl ?_
            exact ih (k + 1) _ (goL s1.1 s1.2 (k + 1), goJ s1.2 (k + 1)) (by omega) (by show _ = go1 now (goN now L J k).1 (goN now L J k).2 (k + 1); rw [← hs]; unfold go1; rw [if_neg c3, hoN, if_neg c4]) hM (hF.trans hF2)
          · refine go_iconst X (v := 1) d_M_goOver_85 (by decide) ?_
            refine go_goto X (tgt := 90) d_M_goOver_86 rfl ?_
            refine go_zast X 2 rfl d_M_goOver_90 h11 (vp_in_nI (by omega) (by decide)) ?_
            refine go_gen (fun g54 eg54 => ?_)
            have eg54 : g54 = va_up g6 (ad 16) (some (.inl (dA 2, 61, .inl (upd ((s1.2 16)) (k + 1) 1)))) := by rw [eg54, nI_clamp (show k + 1 < 2 ^ 31 by omega), show vp_nar .boolean (1 : Int32) = 1 from rfl]
            have h55 : g54 (ad 0) = some (.inr (4, [.int th, .long now, .int ((nI nb)), .ref (ad 3), .ref (ad 4), .ref (ad 5), .ref (ad 6), .ref (ad 7), .ref (ad 8), .ref (ad 9), .ref (ad 10), .int ((nI ni)), .ref (ad 12), .ref (ad 13), .ref (ad 14), .ref (ad 15), .ref (ad 16), .ref (ad 17), .ref (ad 18), .int ((nI ed)), .int kn, .ref (ad 21), .ref (ad 22), .ref (ad 23), .ref (ad 24)])) := by rw [eg54, va_up_ne _ _ (h1.ne 0 16)]; exact h7
            have h56 : g54 (ad 15) = some (.inl (dA 1, 61, .inr (.inl (vp_updL ((s1.1 15)) (k + 1) x5)))) := by rw [eg54, va_up_ne _ _ (h1.ne 15 16)]; exact h14
            have h57 : g54 (ad 3) = some (.inl (dA 1, 12, .inr (.inl ((s1.1 3))))) := by rw [eg54, va_up_ne _ _ (h1.ne 3 16)]; exact h8
            have h58 : g54 (ad 14) = some (.inl (dA 0, 61, .inl ((s1.2 14)))) := by rw [eg54, va_up_ne _ _ (h1.ne 14 16)]; exact h9
            have h59 : g54 (ad 5) = some (.inl (dA 0, 12, .inl ((s1.2 5)))) := by rw [eg54, va_up_ne _ _ (h1.ne 5 16)]; exact h10
            have h60 : g54 (ad 17) = some (.inl (dA 2, 61, .inl ((s1.2 17)))) := by rw [eg54, va_up_ne _ _ (h1.ne 17 16)]; exact h12
            have h61 : g54 (ad 18) = some (.inl (dA 2, 61, .inl ((s1.2 18)))) := by rw [eg54, va_up_ne _ _ (h1.ne 18 16)]; exact h13
            have h62 : g54 (ad 16) = some (.inl (dA 2, 61, .inl (upd ((s1.2 16)) (k + 1) 1))) := by rw [eg54]; exact va_up_self _ _ _
            refine go_aload_n X (z := 2) d_M_goOver_91 rfl rfl ?_
            refine go_get X u_M rfl 14 (by decide) gm_fl_M_42 rfl d_M_goOver_92 h55 rfl ?_
            refine go_iload_n X (z := 1) d_M_goOver_95 rfl rfl ?_
            refine go_iload_n X (z := 0) d_M_goOver_96 rfl rfl ?_
            refine go_iconst X (v := (-1)) d_M_goOver_97 (by decide) ?_
            refine go_icmp_ne X (tgt := 110) d_M_goOver_98 rfl (fun c63 => absurd c16 c63) (fun c63 => ?_)
            refine go_aload_n X (z := 2) d_M_goOver_101 rfl rfl ?_
            refine go_get X u_M rfl 14 (by decide) gm_fl_M_42 rfl d_M_goOver_102 h55 rfl ?_
            refine go_iload_n X (z := 1) d_M_goOver_105 rfl rfl ?_
            refine go_iald X 0 rfl d_M_goOver_106 h58 (vp_in_nI (by omega) (by decide)) ?_
            rw [nI_clamp (show (k + 1) < 2 ^ 31 by omega)]
            refine go_goto X (tgt := 111) d_M_goOver_107 rfl ?_
            refine go_topi (fun x64 ex64 => ?_)
            refine go_iast X 0 rfl d_M_goOver_111 h58 (vp_in_nI (by omega) (by decide)) ?_
            refine go_gen (fun g65 eg65 => ?_)
            have eg65 : g65 = va_up g54 (ad 14) (some (.inl (dA 0, 61, .inl (upd ((s1.2 14)) (k + 1) x64)))) := by rw [eg65, nI_clamp (show k + 1 < 2 ^ 31 by omega)]
            have h66 : g65 (ad 0) = some (.inr (4, [.int th, .long now, .int ((nI nb)), .ref (ad 3), .ref (ad 4), .ref (ad 5), .ref (ad 6), .ref (ad 7), .ref (ad 8), .ref (ad 9), .ref (ad 10), .int ((nI ni)), .ref (ad 12), .ref (ad 13), .ref (ad 14), .ref (ad 15), .ref (ad 16), .ref (ad 17), .ref (ad 18), .int ((nI ed)), .int kn, .ref (ad 21), .ref (ad 22), .ref (ad 23), .ref (ad 24)])) := by rw [eg65, va_up_ne _ _ (h1.ne 0 14)]; exact h55
            have h67 : g65 (ad 15) = some (.inl (dA 1, 61, .inr (.inl (vp_updL ((s1.1 15)) (k + 1) x5)))) := by rw [eg65, va_up_ne _ _ (h1.ne 15 14)]; exact h56
            have h68 : g65 (ad 3) = some (.inl (dA 1, 12, .inr (.inl ((s1.1 3))))) := by rw [eg65, va_up_ne _ _ (h1.ne 3 14)]; exact h57
            have h69 : g65 (ad 5) = some (.inl (dA 0, 12, .inl ((s1.2 5)))) := by rw [eg65, va_up_ne _ _ (h1.ne 5 14)]; exact h59
            have h70 : g65 (ad 16) = some (.inl (dA 2, 61, .inl (upd ((s1.2 16)) (k + 1) 1))) := by rw [eg65, va_up_ne _ _ (h1.ne 16 14)]; exact h62
            have h71 : g65 (ad 17) = some (.inl (dA 2, 61, .inl ((s1.2 17)))) := by rw [eg65, va_up_ne _ _ (h1.ne 17 14)]; exact h60
            have h72 : g65 (ad 18) = some (.inl (dA 2, 61, .inl ((s1.2 18)))) := by rw [eg65, va_up_ne _ _ (h1.ne 18 14)]; exact h61
            have h73 : g65 (ad 14) = some (.inl (dA 0, 61, .inl (upd ((s1.2 14)) (k + 1) x64))) := by rw [eg65]; exact va_up_self _ _ _
            refine go_aload_n X (z := 2) d_M_goOver_112 rfl rfl ?_
            refine go_get X u_M rfl 17 (by decide) gm_fl_M_51 rfl d_M_goOver_113 h66 rfl ?_
            refine go_iload_n X (z := 1) d_M_goOver_116 rfl rfl ?_
            refine go_iconst X (v := 0) d_M_goOver_117 (by decide) ?_
            refine go_zast X 2 rfl d_M_goOver_118 h71 (vp_in_nI (by omega) (by decide)) ?_
            refine go_gen (fun g74 eg74 => ?_)
            have eg74 : g74 = va_up g65 (ad 17) (some (.inl (dA 2, 61, .inl (upd ((s1.2 17)) (k + 1) 0)))) := by rw [eg74, nI_clamp (show k + 1 < 2 ^ 31 by omega), show vp_nar .boolean (0 : Int32) = 0 from rfl]
            have h75 : g74 (ad 0) = some (.inr (4, [.int th, .long now, .int ((nI nb)), .ref (ad 3), .ref (ad 4), .ref (ad 5), .ref (ad 6), .ref (ad 7), .ref (ad 8), .ref (ad 9), .ref (ad 10), .int ((nI ni)), .ref (ad 12), .ref (ad 13), .ref (ad 14), .ref (ad 15), .ref (ad 16), .ref (ad 17), .ref (ad 18), .int ((nI ed)), .int kn, .ref (ad 21), .ref (ad 22), .ref (ad 23), .ref (ad 24)])) := by rw [eg74, va_up_ne _ _ (h1.ne 0 17)]; exact h66
            have h76 : g74 (ad 15) = some (.inl (dA 1, 61, .inr (.inl (vp_updL ((s1.1 15)) (k + 1) x5)))) := by rw [eg74, va_up_ne _ _ (h1.ne 15 17)]; exact h67
            have h77 : g74 (ad 3) = some (.inl (dA 1, 12, .inr (.inl ((s1.1 3))))) := by rw [eg74, va_up_ne _ _ (h1.ne 3 17)]; exact h68
            have h78 : g74 (ad 14) = some (.inl (dA 0, 61, .inl (upd ((s1.2 14)) (k + 1) x64))) := by rw [eg74, va_up_ne _ _ (h1.ne 14 17)]; exact h73
            have h79 : g74 (ad 5) = some (.inl (dA 0, 12, .inl ((s1.2 5)))) := by rw [eg74, va_up_ne _ _ (h1.ne 5 17)]; exact h69
            have h80 : g74 (ad 16) = some (.inl (dA 2, 61, .inl (upd ((s1.2 16)) (k + 1) 1))) := by rw [eg74, va_up_ne _ _ (h1.ne 16 17)]; exact h70
            have h81 : g74 (ad 18) = some (.inl (dA 2, 61, .inl ((s1.2 18)))) := by rw [eg74, va_up_ne _ _ (h1.ne 18 17)]; exact h72
            have h82 : g74 (ad 17) = some (.inl (dA 2, 61, .inl (upd ((s1.2 17)) (k + 1) 0))) := by rw [eg74]; exact va_up_self _ _ _
            refine go_aload_n X (z := 2) d_M_goOver_119 rfl rfl ?_
            refine go_get X u_M rfl 18 (by decide) gm_fl_M_54 rfl d_M_goOver_120 h75 rfl ?_
            refine go_iload_n X (z := 1) d_M_goOver_123 rfl rfl ?_
            refine go_iconst X (v := 0) d_M_goOver_124 (by decide) ?_
            refine go_zast X 2 rfl d_M_goOver_125 h81 (vp_in_nI (by omega) (by decide)) ?_
            refine go_gen (fun g83 eg83 => ?_)
            have eg83 : g83 = va_up g74 (ad 18) (some (.inl (dA 2, 61, .inl (upd ((s1.2 18)) (k + 1) 0)))) := by rw [eg83, nI_clamp (show k + 1 < 2 ^ 31 by omega), show vp_nar .boolean (0 : Int32) = 0 from rfl]
            have h84 : g83 (ad 0) = some (.inr (4, [.int th, .long now, .int ((nI nb)), .ref (ad 3), .ref (ad 4), .ref (ad 5), .ref (ad 6), .ref (ad 7), .ref (ad 8), .ref (ad 9), .ref (ad 10), .int ((nI ni)), .ref (ad 12), .ref (ad 13), .ref (ad 14), .ref (ad 15), .ref (ad 16), .ref (ad 17), .ref (ad 18), .int ((nI ed)), .int kn, .ref (ad 21), .ref (ad 22), .ref (ad 23), .ref (ad 24)])) := by rw [eg83, va_up_ne _ _ (h1.ne 0 18)]; exact h75
            have h85 : g83 (ad 15) = some (.inl (dA 1, 61, .inr (.inl (vp_updL ((s1.1 15)) (k + 1) x5)))) := by rw [eg83, va_up_ne _ _ (h1.ne 15 18)]; exact h76
            have h86 : g83 (ad 3) = some (.inl (dA 1, 12, .inr (.inl ((s1.1 3))))) := by rw [eg83, va_up_ne _ _ (h1.ne 3 18)]; exact h77
            have h87 : g83 (ad 14) = some (.inl (dA 0, 61, .inl (upd ((s1.2 14)) (k + 1) x64))) := by rw [eg83, va_up_ne _ _ (h1.ne 14 18)]; exact h78
            have h88 : g83 (ad 5) = some (.inl (dA 0, 12, .inl ((s1.2 5)))) := by rw [eg83, va_up_ne _ _ (h1.ne 5 18)]; exact h79
            have h89 : g83 (ad 16) = some (.inl (dA 2, 61, .inl (upd ((s1.2 16)) (k + 1) 1))) := by rw [eg83, va_up_ne _ _ (h1.ne 16 18)]; exact h80
            have h90 : g83 (ad 17) = some (.inl (dA 2, 61, .inl (upd ((s1.2 17)) (k + 1) 0))) := by rw [eg83, va_up_ne _ _ (h1.ne 17 18)]; exact h82
            have h91 : g83 (ad 18) = some (.inl (dA 2, 61, .inl (upd ((s1.2 18)) (k + 1) 0))) := by rw [eg83]; exact va_up_self _ _ _
            have hM : MRep dA ad g83 th now nb ni ed kn (goL s1.1 s1.2 (k + 1)) (goJ s1.2 (k + 1)) := by
              unfold goL goJ
              rw [hoN, if_pos (show s1.2 5 j = -1 from ex15 ▸ c16), if_pos (show s1.2 5 j = -1 from ex15 ▸ c16), eg83, eg74, eg65, eg54, eg6]
              subst ex5 ex15 ex64
              exact ((((h1.setL 15 _).setZ 16 _).setJ 14 _).setZ 17 _).setZ 18 _
            have hF2 : MFr ad g1 g83 := by
              rw [eg83, eg74, eg65, eg54, eg6]
              exact (MFr.up rfl).trans ((MFr.up rfl).trans ((MFr.up rfl).trans ((MFr.up rfl).trans (MFr.up rfl))))
            refine go_iinc X (j := 1) (v := nI (k + 1 + 1)) d_M_goOver_126 rfl (nI_1 (k + 1)) (by decide) rfl ?_
            refine go_goto X (tgt := 2) d_M_goOver_129 rfl ?_
            refine go_sub (lv' := [(1, .int (nI (k + 1 + 1))), (0, .ref (ad 0))]) [0, 2] rfl ?_
            exact ih (k + 1) _ (goL s1.1 s1.2 (k + 1), goJ s1.2 (k + 1)) (by omega) (by show _ = go1 now (goN now L J k).1 (goN now L J k).2 (k + 1); rw [← hs]; unfold go1; rw [if_neg c3, hoN, if_neg c4]) hM (hF.trans hF2)
  refine go_iconst X (v := 1) d_M_goOver_0 (by decide) ?_
  refine go_istore_n X (lv' := [(1, .int (nI (0 + 1))), (0, .ref (ad 0))]) d_M_goOver_1 rfl (by decide) rfl ?_
  exact loop ni 0 g (L, J) (Nat.zero_add _) rfl h MFr.rfl'
end M2
end
section
/-! The reference: look, pass. -/
def rtL (L : LA) (J : JA) (now : Int64) : Nat → LA
  | 0 => L
  | b + 1 => va_up (rtL L J now b) 10 (vp_updL (rtL L J now b 10) b (rateMF (rtL L J now b) J b now))
def plL (now : Int64) (L : LA) (J : JA) : Nat → LA
  | 0 => L
  | k + 1 => va_up (plL now L J k) 15 (vp_updL (plL now L J k 15) (k + 1) (if thereF now (plL now L J k) J (k + 1) = 0 then plL now L J k 15 (k + 1) else plL now L J k 15 (k + 1) + plL now L J k 10 (oN J (k + 1))))
noncomputable def ms1 (nb ni : Nat) (now : Int64) (s : MS) : MS := lkN (now + 1) ni ((goN (now + 1) (plL now (rtL s.1 s.2.1 now nb) s.2.1 ni) s.2.1 ni).1, (goN (now + 1) (plL now (rtL s.1 s.2.1 now nb) s.2.1 ni) s.2.1 ni).2, s.2.2) ni
noncomputable def msN (nb ni : Nat) : Nat → Int64 → MS → MS
  | 0, _, s => s
  | f + 1, now, s => msN nb ni f (now + 1) (ms1 nb ni now s)
theorem ms1_n (nb ni : Nat) (now : Int64) (s : MS) : (ms1 nb ni now s).2.2 ≤ s.2.2 + 2 * ni := (lkN_n (now + 1) ni _ ni).1
theorem ms1_wf {nb ni : Nat} {now : Int64} {s : MS} (h : MWf nb ni s.2.1) : MWf nb ni (ms1 nb ni now s).2.1 := by
  have hx := lkN_n (now + 1) ni ((goN (now + 1) (plL now (rtL s.1 s.2.1 now nb) s.2.1 ni) s.2.1 ni).1, (goN (now + 1) (plL now (rtL s.1 s.2.1 now nb) s.2.1 ni) s.2.1 ni).2, s.2.2) ni
  exact (goN_wf h ni (Nat.le_refl _)).congr hx.2.1 hx.2.2.1
theorem i64_succ {a b : Int64} (h : a.toInt < b.toInt) : (a + 1).toInt = a.toInt + 1 := by
  have h1 := Int64.toInt_lt b
  have h2 := Int64.le_toInt a
  rw [Int64.toInt_add, show (1 : Int64).toInt = 1 from rfl, Int.bmod_eq_of_le (by omega) (by omega)]
section M3
variable {ad : Nat → Nat} {th : Int32} {now : Int64} {nb ni ed : Nat} {kn : Int32} {L : LA} {J : JA}
set_option maxHeartbeats 4000000 in
set_option maxRecDepth 100000 in
theorem c_M_look {l : Launch} {D : va_G} {dA : Nat → ClassId} {g : Nat → Option va_E}  (h : MRep dA ad g th now nb ni ed kn L J) (hW : MWf nb ni J) (hed : ed + 200 < 2 ^ 31) : CtV l D classes (tyL dA) y_M_look b_M_look 4 none rm_M_look [.ref (ad 0)] g (fun g' => MRep dA ad g' th now nb ni (lkN now ni (L, J, ed) ni).2.2 kn (lkN now ni (L, J, ed) ni).1 (lkN now ni (L, J, ed) ni).2.1 ∧ MFr ad g g') := by
  refine CtV.of (by decide) (Nat.le_of_ble_eq_true rfl) ?_
  intro p e s m below meth c X hr hlk hnm
  have hnb := hW.1
  have hni := hW.2.1
  have loop : ∀ (f k : Nat) (g1 : Nat → Option va_E) (s1 : MS), k + f = ni → s1 = lkN now ni (L, J, ed) k → MRep dA ad g1 th now nb ni s1.2.2 kn s1.1 s1.2.1 → MFr ad g g1 → Go p l e rm_M_look s m [.ref (ad 0)].toArray below meth c D classes (gA g s.heap.size) 4 (MQ below (va_Qv (fun g' => MRep dA ad g' th now nb ni (lkN now ni (L, J, ed) ni).2.2 kn (lkN now ni (L, J, ed) ni).1 (lkN now ni (L, J, ed) ni).2.1 ∧ MFr ad g g') (fun (g' : Nat → Option va_E) (t : State) => PW D classes (gA g s.heap.size) g' t.heap) (gA g s.heap.size)) [.ref (ad 0)].toArray s 0 0 (gA g s.heap.size)) g1 0 0 2 [(1, .int ((nI (k + 1)))), (0, .ref (ad 0))] [] := by
    intro f
    induction f with
    | zero =>
      intro k g1 s1 hk hs h1 hF
      have hkn : k = ni := by omega
      subst hkn
      refine go_iload_n X (z := 0) d_M_look_2 rfl rfl ?_
      refine go_aload_n X (z := 1) d_M_look_3 rfl rfl ?_
      refine go_get X u_M rfl 11 (by decide) gm_fl_M_76 rfl d_M_look_4 h1.this rfl ?_
      refine go_icmp_gt X (tgt := 134) d_M_look_7 rfl (fun c1 => ?_) (fun c1 => absurd (nI_lt (by omega) (by omega)) c1)
      exact go_retV X hr hlk d_M_look_134 ⟨hs ▸ h1, hF⟩
    | succ f ih =>
      intro k g1 s1 hkf hs h1 hF
      have hx := lkN_n now ni (L, J, ed) k
      rw [← hs] at hx
      obtain ⟨hxn, hx14, hx5, hx3⟩ := hx
      simp only at hxn hx14 hx5 hx3
      have hW1 : MWf nb ni s1.2.1 := hW.congr hx14 hx5
      obtain ⟨j, hj, ho⟩ := hW1.2.2.1 (k + 1) (by omega) (by omega)
      have hoN : oN s1.2.1 (k + 1) = j := by unfold oN; rw [ho]; exact nI_clamp (by omega)
      have back : ∀ (g3 : Nat → Option va_E) (s3 : MS), s3 = lk1 now ni (k + 1) s1 → MRep dA ad g3 th now nb ni s3.2.2 kn s3.1 s3.2.1 → MFr ad g g3 → Go p l e rm_M_look s m [.ref (ad 0)].toArray below meth c D classes (gA g s.heap.size) 4 (MQ below (va_Qv (fun g' => MRep dA ad g' th now nb ni (lkN now ni (L, J, ed) ni).2.2 kn (lkN now ni (L, J, ed) ni).1 (lkN now ni (L, J, ed) ni).2.1 ∧ MFr ad g g') (fun (g' : Nat → Option va_E) (t : State) => PW D classes (gA g s.heap.size) g' t.heap) (gA g s.heap.size)) [.ref (ad 0)].toArray s 0 0 (gA g s.heap.size)) g3 0 0 128 [(1, .int ((nI (k + 1)))), (0, .ref (ad 0))] [] := by
        intro g3 s3 e3 h3 hF3
        refine go_iinc X (j := 0) (v := nI (k + 1 + 1)) d_M_look_128 rfl (nI_1 (k + 1)) (by decide) rfl ?_
        refine go_goto X (tgt := 2) d_M_look_131 rfl ?_
        exact ih (k + 1) g3 s3 (by omega) (by rw [e3, hs]; rfl) h3 hF3
      have tailB : ∀ (g2 : Nat → Option va_E) (s2 : MS) (sn : Int64), sn = s1.1 3 j / 2 → s2 = lkA now ni (k + 1) s1 → ¬ thereF now s1.1 s1.2.1 (k + 1) = 0 → s2.2.2 + 1 < 2 ^ 31 → MRep dA ad g2 th now nb ni s2.2.2 kn s2.1 s2.2.1 → MFr ad g g2 → Go p l e rm_M_look s m [.ref (ad 0)].toArray below meth c D classes (gA g s.heap.size) 4 (MQ below (va_Qv (fun g' => MRep dA ad g' th now nb ni (lkN now ni (L, J, ed) ni).2.2 kn (lkN now ni (L, J, ed) ni).1 (lkN now ni (L, J, ed) ni).2.1 ∧ MFr ad g g') (fun (g' : Nat → Option va_E) (t : State) => PW D classes (gA g s.heap.size) g' t.heap) (gA g s.heap.size)) [.ref (ad 0)].toArray s 0 0 (gA g s.heap.size)) g2 0 0 79 [(2, .long sn), (1, .int ((nI (k + 1)))), (0, .ref (ad 0))] [] := by
        intro g2 s2 sn esn e2 hth hed2 h2 hF2
        refine go_aload_n X (z := 2) d_M_look_79 rfl rfl ?_
        refine go_get X u_M rfl 17 (by decide) gm_fl_M_51 rfl d_M_look_80 h2.this rfl ?_
        refine go_iload_n X (z := 1) d_M_look_83 rfl rfl ?_
        refine go_zald X 2 rfl d_M_look_84 h2.a17 (vp_in_nI (by omega) (by decide)) ?_
        rw [nI_clamp (show (k + 1) < 2 ^ 31 by omega)]
        refine go_if_eq X (tgt := 128) d_M_look_85 rfl (fun c1 => ?_) (fun c1 => ?_)
        · refine go_sub (lv' := [(1, .int (nI (k + 1))), (0, .ref (ad 0))]) [1, 2] rfl ?_
          exact back g2 s2 (by unfold lk1; rw [if_neg hth, hoN, ← esn, ← e2]; unfold lkB; rw [if_pos c1]) h2 hF2
        · refine go_aload_n X (z := 2) d_M_look_88 rfl rfl ?_
          refine go_get X u_M rfl 18 (by decide) gm_fl_M_54 rfl d_M_look_89 h2.this rfl ?_
          refine go_iload_n X (z := 1) d_M_look_92 rfl rfl ?_
          refine go_zald X 2 rfl d_M_look_93 h2.a18 (vp_in_nI (by omega) (by decide)) ?_
          rw [nI_clamp (show (k + 1) < 2 ^ 31 by omega)]
          refine go_if_ne X (tgt := 128) d_M_look_94 rfl (fun c2 => ?_) (fun c2 => ?_)
          · refine go_sub (lv' := [(1, .int (nI (k + 1))), (0, .ref (ad 0))]) [1, 2] rfl ?_
            exact back g2 s2 (by unfold lk1; rw [if_neg hth, hoN, ← esn, ← e2]; unfold lkB; rw [if_neg c1, if_neg c2]) h2 hF2
          · refine go_aload_n X (z := 2) d_M_look_97 rfl rfl ?_
            refine go_get X u_M rfl 15 (by decide) gm_fl_M_45 rfl d_M_look_98 h2.this rfl ?_
            refine go_iload_n X (z := 1) d_M_look_101 rfl rfl ?_
            refine go_lald X 1 rfl d_M_look_102 h2.a15 (vp_in_nI (by omega) (by decide)) ?_
            rw [nI_clamp (show (k + 1) < 2 ^ 31 by omega)]
            refine go_aload_n X (z := 2) d_M_look_103 rfl rfl ?_
            refine go_get X u_M rfl 12 (by decide) gm_fl_M_36 rfl d_M_look_104 h2.this rfl ?_
            refine go_iload_n X (z := 1) d_M_look_107 rfl rfl ?_
            refine go_lald X 1 rfl d_M_look_108 h2.a12 (vp_in_nI (by omega) (by decide)) ?_
            rw [nI_clamp (show (k + 1) < 2 ^ 31 by omega)]
            refine go_lsub X d_M_look_109 ?_
            refine go_lload_n X (z := 0) d_M_look_110 rfl rfl ?_
            refine go_lif_lt X (tgt := 128) d_M_look_111 d_M_look_112 rfl (fun c3 => ?_) (fun c3 => ?_)
            · refine go_sub (lv' := [(1, .int (nI (k + 1))), (0, .ref (ad 0))]) [1, 2] rfl ?_
              exact back g2 s2 (by unfold lk1; rw [if_neg hth, hoN, ← esn, ← e2]; unfold lkB; rw [if_neg c1, if_pos c2, if_pos c3]) h2 hF2
            · refine go_aload_n X (z := 2) d_M_look_115 rfl rfl ?_
              refine go_iload_n X (z := 1) d_M_look_116 rfl rfl ?_
              refine go_iconst X (v := 1) d_M_look_117 (by decide) ?_
              refine go_callV_V X (As := [.int ((nI (k + 1))), .int 1]) (rest := []) (c_M_tell h2 (by omega) hed2 1) gm_ml_M_124 cw_M_tell ⟨by decide, by decide⟩ rfl h2.this rfl rfl (Nat.le_of_ble_eq_true rfl) d_M_look_118 ⟨by decide, by decide⟩ (fun gz hz => ?_)
              obtain ⟨hz, hzF⟩ := hz
              refine go_aload_n X (z := 2) d_M_look_121 rfl rfl ?_
              refine go_get X u_M rfl 18 (by decide) gm_fl_M_54 rfl d_M_look_122 hz.this rfl ?_
              refine go_iload_n X (z := 1) d_M_look_125 rfl rfl ?_
              refine go_iconst X (v := 1) d_M_look_126 (by decide) ?_
              refine go_zast X 2 rfl d_M_look_127 hz.a18 (vp_in_nI (by omega) (by decide)) ?_
              refine go_gen (fun g4 eg4 => ?_)
              have eg4 : g4 = va_up gz (ad 18) (some (.inl (dA 2, 61, .inl (upd ((tlJ s2.2.1 s2.2.2 (k + 1) 1 18)) (k + 1) 1)))) := by rw [eg4, nI_clamp (show k + 1 < 2 ^ 31 by omega), show vp_nar .boolean (1 : Int32) = 1 from rfl]
              have h5 : g4 (ad 0) = some (.inr (4, [.int th, .long now, .int ((nI nb)), .ref (ad 3), .ref (ad 4), .ref (ad 5), .ref (ad 6), .ref (ad 7), .ref (ad 8), .ref (ad 9), .ref (ad 10), .int ((nI ni)), .ref (ad 12), .ref (ad 13), .ref (ad 14), .ref (ad 15), .ref (ad 16), .ref (ad 17), .ref (ad 18), .int ((nI (s2.2.2 + 1))), .int kn, .ref (ad 21), .ref (ad 22), .ref (ad 23), .ref (ad 24)])) := by rw [eg4, va_up_ne _ _ (hz.ne 0 18)]; exact hz.this
              have h6 : g4 (ad 18) = some (.inl (dA 2, 61, .inl (upd ((tlJ s2.2.1 s2.2.2 (k + 1) 1 18)) (k + 1) 1))) := by rw [eg4]; exact va_up_self _ _ _
              refine go_sub (lv' := [(1, .int (nI (k + 1))), (0, .ref (ad 0))]) [1, 2] rfl ?_
              have hM : MRep dA ad g4 th now nb ni (s2.2.2 + 1) kn (tlL s2.1 s2.2.2 now) (va_up (tlJ s2.2.1 s2.2.2 (k + 1) 1) 18 (upd (s2.2.1 18) (k + 1) 1)) := by
                rw [eg4, tlJ_k 18]
                exact hz.setZ 18 _
              exact back g4 (tlL s2.1 s2.2.2 now, va_up (tlJ s2.2.1 s2.2.2 (k + 1) 1) 18 (upd (s2.2.1 18) (k + 1) 1), s2.2.2 + 1) (by unfold lk1; rw [if_neg hth, hoN, ← esn, ← e2]; unfold lkB; rw [if_neg c1, if_pos c2, if_neg c3]) hM (hF2.trans (hzF.trans (by rw [eg4]; exact MFr.up rfl)))
      refine go_iload_n X (z := 0) d_M_look_2 rfl rfl ?_
      refine go_aload_n X (z := 1) d_M_look_3 rfl rfl ?_
      refine go_get X u_M rfl 11 (by decide) gm_fl_M_76 rfl d_M_look_4 h1.this rfl ?_
      refine go_icmp_gt X (tgt := 134) d_M_look_7 rfl (fun c1 => absurd c1 (nI_nlt (a := ni) (b := k + 1) (by omega) (by omega))) (fun c1 => ?_)
      refine go_aload_n X (z := 1) d_M_look_10 rfl rfl ?_
      refine go_iload_n X (z := 0) d_M_look_11 rfl rfl ?_
      refine go_callI_V X (As := [.int ((nI (k + 1)))]) (rest := []) (c_M_isThere h1 (by omega)) gm_ml_M_111 cw_M_isThere ⟨by decide, by decide⟩ rfl h1.this rfl rfl (Nat.le_of_ble_eq_true rfl) d_M_look_12 ⟨by decide, by decide⟩ (fun ru2 gu2 hu2 => ?_)
      obtain ⟨rfl, rfl⟩ := hu2
      refine go_if_eq X (tgt := 128) d_M_look_15 rfl (fun c3 => ?_) (fun c3 => ?_)
      · exact back g1 s1 (by unfold lk1; rw [if_pos c3]) h1 hF
      · refine go_aload_n X (z := 1) d_M_look_18 rfl rfl ?_
        refine go_get X u_M rfl 3 (by decide) gm_fl_M_7 rfl d_M_look_19 h1.this rfl ?_
        refine go_aload_n X (z := 1) d_M_look_22 rfl rfl ?_
        refine go_get X u_M rfl 14 (by decide) gm_fl_M_42 rfl d_M_look_23 h1.this rfl ?_
        refine go_iload_n X (z := 0) d_M_look_26 rfl rfl ?_
        refine go_iald X 0 rfl d_M_look_27 h1.a14 (vp_in_nI (by omega) (by decide)) ?_
        rw [nI_clamp (show (k + 1) < 2 ^ 31 by omega)]
        rw [ho]
        refine go_lald X 1 rfl d_M_look_28 h1.a3 (vp_in_nI (by omega) (by decide)) ?_
        rw [nI_clamp (show j < 2 ^ 31 by omega)]
        refine go_ldc2 X d_M_look_29 gm_k_M_119 ?_
        refine go_ldiv X d_M_look_32 (by decide) ?_
        refine go_topl (fun x4 ex4 => ?_)
        refine go_lstore_n X (lv' := [(2, .long x4), (1, .int ((nI (k + 1)))), (0, .ref (ad 0))]) d_M_look_33 rfl (by decide) rfl ?_
        refine go_aload_n X (z := 2) d_M_look_34 rfl rfl ?_
        refine go_get X u_M rfl 17 (by decide) gm_fl_M_51 rfl d_M_look_35 h1.this rfl ?_
        refine go_iload_n X (z := 1) d_M_look_38 rfl rfl ?_
        refine go_zald X 2 rfl d_M_look_39 h1.a17 (vp_in_nI (by omega) (by decide)) ?_
        rw [nI_clamp (show (k + 1) < 2 ^ 31 by omega)]
        refine go_if_ne X (tgt := 79) d_M_look_40 rfl (fun c5 => ?_) (fun c5 => ?_)
        · exact tailB g1 s1 x4 ex4 (by unfold lkA; rw [if_neg c5]) c3 (by omega) h1 hF
        · refine go_aload_n X (z := 2) d_M_look_43 rfl rfl ?_
          refine go_get X u_M rfl 15 (by decide) gm_fl_M_45 rfl d_M_look_44 h1.this rfl ?_
          refine go_iload_n X (z := 1) d_M_look_47 rfl rfl ?_
          refine go_lald X 1 rfl d_M_look_48 h1.a15 (vp_in_nI (by omega) (by decide)) ?_
          rw [nI_clamp (show (k + 1) < 2 ^ 31 by omega)]
          refine go_lload_n X (z := 0) d_M_look_49 rfl rfl ?_
          refine go_lif_lt X (tgt := 79) d_M_look_50 d_M_look_51 rfl (fun c6 => ?_) (fun c6 => ?_)
          · exact tailB g1 s1 x4 ex4 (by unfold lkA; rw [if_pos c5, hoN, ← ex4, if_pos c6]) c3 (by omega) h1 hF
          · refine go_aload_n X (z := 2) d_M_look_54 rfl rfl ?_
            refine go_iload_n X (z := 1) d_M_look_55 rfl rfl ?_
            refine go_aload_n X (z := 2) d_M_look_56 rfl rfl ?_
            refine go_iload_n X (z := 1) d_M_look_57 rfl rfl ?_
            refine go_callI_V X (As := [.int ((nI (k + 1)))]) (rest := [.int ((nI (k + 1))), .ref (ad 0)]) (c_M_isShort h1 hni (i := k + 1) (by omega)) gm_ml_M_121 cw_M_isShort ⟨by decide, by decide⟩ rfl h1.this rfl rfl (Nat.le_of_ble_eq_true rfl) d_M_look_58 ⟨by decide, by decide⟩ (fun ru7 gu7 hu7 => ?_)
            obtain ⟨rfl, rfl⟩ := hu7
            refine go_if_eq X (tgt := 68) d_M_look_61 rfl (fun c8 => ?_) (fun c8 => ?_)
            · refine go_iconst X (v := 0) d_M_look_68 (by decide) ?_
              refine go_callV_V X (As := [.int ((nI (k + 1))), .int 0]) (rest := []) (c_M_tell h1 (by omega) (by omega) 0) gm_ml_M_124 cw_M_tell ⟨by decide, by decide⟩ rfl h1.this rfl rfl (Nat.le_of_ble_eq_true rfl) d_M_look_69 ⟨by decide, by decide⟩ (fun gz hz => ?_)
              obtain ⟨hz, hzF⟩ := hz
              refine go_aload_n X (z := 2) d_M_look_72 rfl rfl ?_
              refine go_get X u_M rfl 17 (by decide) gm_fl_M_51 rfl d_M_look_73 hz.this rfl ?_
              refine go_iload_n X (z := 1) d_M_look_76 rfl rfl ?_
              refine go_iconst X (v := 1) d_M_look_77 (by decide) ?_
              refine go_zast X 2 rfl d_M_look_78 hz.a17 (vp_in_nI (by omega) (by decide)) ?_
              refine go_gen (fun g9 eg9 => ?_)
              have eg9 : g9 = va_up gz (ad 17) (some (.inl (dA 2, 61, .inl (upd ((tlJ s1.2.1 s1.2.2 (k + 1) 0 17)) (k + 1) 1)))) := by rw [eg9, nI_clamp (show k + 1 < 2 ^ 31 by omega), show vp_nar .boolean (1 : Int32) = 1 from rfl]
              have h10 : g9 (ad 0) = some (.inr (4, [.int th, .long now, .int ((nI nb)), .ref (ad 3), .ref (ad 4), .ref (ad 5), .ref (ad 6), .ref (ad 7), .ref (ad 8), .ref (ad 9), .ref (ad 10), .int ((nI ni)), .ref (ad 12), .ref (ad 13), .ref (ad 14), .ref (ad 15), .ref (ad 16), .ref (ad 17), .ref (ad 18), .int ((nI (s1.2.2 + 1))), .int kn, .ref (ad 21), .ref (ad 22), .ref (ad 23), .ref (ad 24)])) := by rw [eg9, va_up_ne _ _ (hz.ne 0 17)]; exact hz.this
              have h11 : g9 (ad 17) = some (.inl (dA 2, 61, .inl (upd ((tlJ s1.2.1 s1.2.2 (k + 1) 0 17)) (k + 1) 1))) := by rw [eg9]; exact va_up_self _ _ _
              have hM : MRep dA ad g9 th now nb ni (s1.2.2 + 1) kn (tlL s1.1 s1.2.2 now) (va_up (tlJ s1.2.1 s1.2.2 (k + 1) 0) 17 (upd (s1.2.1 17) (k + 1) 1)) := by
                rw [eg9, tlJ_k 17]
                exact hz.setZ 17 _
              exact tailB g9 (tlL s1.1 s1.2.2 now, va_up (tlJ s1.2.1 s1.2.2 (k + 1) 0) 17 (upd (s1.2.1 17) (k + 1) 1), s1.2.2 + 1) x4 ex4 (by unfold lkA; rw [if_pos c5, hoN, ← ex4, if_neg c6, if_pos c8]) c3 (by show s1.2.2 + 1 + 1 < _; omega) hM (hF.trans (hzF.trans (by rw [eg9]; exact MFr.up rfl)))
            · refine go_iconst X (v := 2) d_M_look_64 (by decide) ?_
              refine go_goto X (tgt := 69) d_M_look_65 rfl ?_
              refine go_callV_V X (As := [.int ((nI (k + 1))), .int 2]) (rest := []) (c_M_tell h1 (by omega) (by omega) 2) gm_ml_M_124 cw_M_tell ⟨by decide, by decide⟩ rfl h1.this rfl rfl (Nat.le_of_ble_eq_true rfl) d_M_look_69 ⟨by decide, by decide⟩ (fun gz hz => ?_)
              obtain ⟨hz, hzF⟩ := hz
              refine go_aload_n X (z := 2) d_M_look_72 rfl rfl ?_
              refine go_get X u_M rfl 17 (by decide) gm_fl_M_51 rfl d_M_look_73 hz.this rfl ?_
              refine go_iload_n X (z := 1) d_M_look_76 rfl rfl ?_
              refine go_iconst X (v := 1) d_M_look_77 (by decide) ?_
              refine go_zast X 2 rfl d_M_look_78 hz.a17 (vp_in_nI (by omega) (by decide)) ?_
              refine go_gen (fun g12 eg12 => ?_)
              have eg12 : g12 = va_up gz (ad 17) (some (.inl (dA 2, 61, .inl (upd ((tlJ s1.2.1 s1.2.2 (k + 1) 2 17)) (k + 1) 1)))) := by rw [eg12, nI_clamp (show k + 1 < 2 ^ 31 by omega), show vp_nar .boolean (1 : Int32) = 1 from rfl]
              have h13 : g12 (ad 0) = some (.inr (4, [.int th, .long now, .int ((nI nb)), .ref (ad 3), .ref (ad 4), .ref (ad 5), .ref (ad 6), .ref (ad 7), .ref (ad 8), .ref (ad 9), .ref (ad 10), .int ((nI ni)), .ref (ad 12), .ref (ad 13), .ref (ad 14), .ref (ad 15), .ref (ad 16), .ref (ad 17), .ref (ad 18), .int ((nI (s1.2.2 + 1))), .int kn, .ref (ad 21), .ref (ad 22), .ref (ad 23), .ref (ad 24)])) := by rw [eg12, va_up_ne _ _ (hz.ne 0 17)]; exact hz.this
              have h14 : g12 (ad 17) = some (.inl (dA 2, 61, .inl (upd ((tlJ s1.2.1 s1.2.2 (k + 1) 2 17)) (k + 1) 1))) := by rw [eg12]; exact va_up_self _ _ _
              have hM : MRep dA ad g12 th now nb ni (s1.2.2 + 1) kn (tlL s1.1 s1.2.2 now) (va_up (tlJ s1.2.1 s1.2.2 (k + 1) 2) 17 (upd (s1.2.1 17) (k + 1) 1)) := by
                rw [eg12, tlJ_k 17]
                exact hz.setZ 17 _
              exact tailB g12 (tlL s1.1 s1.2.2 now, va_up (tlJ s1.2.1 s1.2.2 (k + 1) 2) 17 (upd (s1.2.1 17) (k + 1) 1), s1.2.2 + 1) x4 ex4 (by unfold lkA; rw [if_pos c5, hoN, ← ex4, if_neg c6, if_neg c8]) c3 (by show s1.2.2 + 1 + 1 < _; omega) hM (hF.trans (hzF.trans (by rw [eg12]; exact MFr.up rfl)))
  refine go_iconst X (v := 1) d_M_look_0 (by decide) ?_
  refine go_istore_n X (lv' := [(1, .int (nI (0 + 1))), (0, .ref (ad 0))]) d_M_look_1 rfl (by decide) rfl ?_
  exact loop ni 0 g (L, J, ed) (Nat.zero_add _) rfl h MFr.rfl'
set_option maxHeartbeats 4000000 in
set_option maxRecDepth 100000 in
theorem c_M_pass {l : Launch} {D : va_G} {dA : Nat → ClassId} {g : Nat → Option va_E}  (h : MRep dA ad g th now nb ni ed kn L J) (hW : MWf nb ni J) (t : Int64) (hnt : now ≤ t) (hed : ed + 120 * (t.toInt - now.toInt).toNat ≤ 2000000000) : CtV l D classes (tyL dA) y_M_pass b_M_pass 4 none rm_M_pass [.ref (ad 0), .long t] g (fun g' => MRep dA ad g' th t nb ni (msN nb ni (t.toInt - now.toInt).toNat now (L, J, ed)).2.2 kn (msN nb ni (t.toInt - now.toInt).toNat now (L, J, ed)).1 (msN nb ni (t.toInt - now.toInt).toNat now (L, J, ed)).2.1 ∧ MFr ad g g') := by
  refine CtV.of (by decide) (Nat.le_of_ble_eq_true rfl) ?_
  intro p e s m below meth c X hr hlk hnm
  have hnb := hW.1
  have hni := hW.2.1
  have loop : ∀ (f : Nat) (now1 : Int64) (g1 : Nat → Option va_E) (s1 : MS), (t.toInt - now1.toInt).toNat = f → now1 ≤ t → msN nb ni f now1 s1 = (msN nb ni (t.toInt - now.toInt).toNat now (L, J, ed)) → s1.2.2 + 120 * f ≤ 2000000000 → MRep dA ad g1 th now1 nb ni s1.2.2 kn s1.1 s1.2.1 → MWf nb ni s1.2.1 → MFr ad g g1 → Go p l e rm_M_pass s m [.ref (ad 0), .long t].toArray below meth c D classes (gA g s.heap.size) 4 (MQ below (va_Qv (fun g' => MRep dA ad g' th t nb ni (msN nb ni (t.toInt - now.toInt).toNat now (L, J, ed)).2.2 kn (msN nb ni (t.toInt - now.toInt).toNat now (L, J, ed)).1 (msN nb ni (t.toInt - now.toInt).toNat now (L, J, ed)).2.1 ∧ MFr ad g g') (fun (g' : Nat → Option va_E) (t : State) => PW D classes (gA g s.heap.size) g' t.heap) (gA g s.heap.size)) [.ref (ad 0), .long t].toArray s 0 0 (gA g s.heap.size)) g1 0 0 0 [(0, .ref (ad 0)), (1, .long t)] [] := by
    intro f
    induction f with
    | zero =>
      intro now1 g1 s1 hf hle hs hn1 h1 hW1 hF
      have hle2 : t ≤ now1 := Int64.le_iff_toInt_le.mpr (by omega)
      have hen : now1 = t := Int64.toInt_inj.mp (Int.le_antisymm (Int64.le_iff_toInt_le.mp hle) (Int64.le_iff_toInt_le.mp hle2))
      subst hen
      refine go_aload_n X (z := 0) d_M_pass_0 rfl rfl ?_
      refine go_get X u_M rfl 1 (by decide) gm_fl_M_79 rfl d_M_pass_1 h1.this rfl ?_
      refine go_lload_n X (z := 1) d_M_pass_4 rfl rfl ?_
      refine go_lif_ge X (tgt := 118) d_M_pass_5 d_M_pass_6 rfl (fun _ => ?_) (fun c => absurd hle2 c)
      exact go_retV X hr hlk d_M_pass_118 ⟨by rw [← hs]; exact h1, hF⟩
    | succ f ih =>
      intro now1 g1 s1 hf hle hs hn1 h1 hW1 hF
      have hlt : now1.toInt < t.toInt := by omega
      have hlt2 : ¬ t ≤ now1 := fun q => by have := Int64.le_iff_toInt_le.mp q; omega
      have part3 : ∀ (g2 : Nat → Option va_E) (v3 : Int32), MRep dA ad g2 th now1 nb ni s1.2.2 kn (plL now1 (rtL s1.1 s1.2.1 now1 nb) s1.2.1 ni) s1.2.1 → MFr ad g g2 → Go p l e rm_M_pass s m [.ref (ad 0), .long t].toArray below meth c D classes (gA g s.heap.size) 4 (MQ below (va_Qv (fun g' => MRep dA ad g' th t nb ni (msN nb ni (t.toInt - now.toInt).toNat now (L, J, ed)).2.2 kn (msN nb ni (t.toInt - now.toInt).toNat now (L, J, ed)).1 (msN nb ni (t.toInt - now.toInt).toNat now (L, J, ed)).2.1 ∧ MFr ad g g') (fun (g' : Nat → Option va_E) (t : State) => PW D classes (gA g s.heap.size) g' t.heap) (gA g s.heap.size)) [.ref (ad 0), .long t].toArray s 0 0 (gA g s.heap.size)) g2 0 0 97 [(3, .int v3), (0, .ref (ad 0)), (1, .long t)] [] := by
        intro g2 v3 h2 hF2
        refine go_aload_n X (z := 1) d_M_pass_97 rfl rfl ?_
        refine go_dup X d_M_pass_98 rfl ?_
        refine go_get X u_M rfl 1 (by decide) gm_fl_M_79 rfl d_M_pass_99 h2.this rfl ?_
        refine go_lconst X (v := 1) d_M_pass_102 (by decide) ?_
        refine go_ladd X d_M_pass_103 ?_
        refine go_topl (fun x1 ex1 => ?_)
        refine go_put X u_M rfl 1 (by decide) gm_fl_M_79 rfl t_M t_M_ok n_M rfl rfl rfl d_M_pass_104 h2.this (Nat.le_of_ble_eq_true rfl) ?_
        refine go_gen (fun g3 e3 => ?_)
        have h3 : MRep dA ad g3 th (now1 + 1) nb ni s1.2.2 kn (plL now1 (rtL s1.1 s1.2.1 now1 nb) s1.2.1 ni) s1.2.1 := by subst ex1; rw [e3]; exact h2.set0
        have hF3 : MFr ad g2 g3 := by rw [e3]; exact MFr.up rfl
        refine go_aload_n X (z := 1) d_M_pass_107 rfl rfl ?_
        refine go_callV_V X (As := []) (rest := []) (c_M_goOver h3 hW1) gm_ml_M_132 cw_M_goOver ⟨by decide, by decide⟩ rfl h3.this rfl rfl (Nat.le_of_ble_eq_true rfl) d_M_pass_108 ⟨by decide, by decide⟩ (fun g4 h4 => ?_)
        obtain ⟨h4, hF4⟩ := h4
        refine go_aload_n X (z := 1) d_M_pass_111 rfl rfl ?_
        refine go_callV_V X (As := []) (rest := []) (c_M_look h4 (goN_wf hW1 ni (Nat.le_refl _)) (by omega)) gm_ml_M_135 cw_M_look ⟨by decide, by decide⟩ rfl h4.this rfl rfl (Nat.le_of_ble_eq_true rfl) d_M_pass_112 ⟨by decide, by decide⟩ (fun g5 h5 => ?_)
        obtain ⟨h5, hF5⟩ := h5
        refine go_goto X (tgt := 0) d_M_pass_115 rfl ?_
        refine go_sub (lv' := [(0, .ref (ad 0)), (1, .long t)]) [1, 2] rfl ?_
        have hns := i64_succ hlt
        have hmn := ms1_n nb ni now1 s1
        exact ih (now1 + 1) g5 (ms1 nb ni now1 s1) (by omega) (Int64.le_iff_toInt_le.mpr (by omega)) (by rw [← hs]; rfl) (by omega) h5 (ms1_wf hW1) (hF2.trans (hF3.trans (hF4.trans hF5)))
      have part2 : ∀ (q k : Nat) (g2 : Nat → Option va_E) (L2 : LA), k + q = ni → L2 = plL now1 (rtL s1.1 s1.2.1 now1 nb) s1.2.1 k → MRep dA ad g2 th now1 nb ni s1.2.2 kn L2 s1.2.1 → MFr ad g g2 → Go p l e rm_M_pass s m [.ref (ad 0), .long t].toArray below meth c D classes (gA g s.heap.size) 4 (MQ below (va_Qv (fun g' => MRep dA ad g' th t nb ni (msN nb ni (t.toInt - now.toInt).toNat now (L, J, ed)).2.2 kn (msN nb ni (t.toInt - now.toInt).toNat now (L, J, ed)).1 (msN nb ni (t.toInt - now.toInt).toNat now (L, J, ed)).2.1 ∧ MFr ad g g') (fun (g' : Nat → Option va_E) (t : State) => PW D classes (gA g s.heap.size) g' t.heap) (gA g s.heap.size)) [.ref (ad 0), .long t].toArray s 0 0 (gA g s.heap.size)) g2 0 0 42 [(3, .int ((nI (k + 1)))), (0, .ref (ad 0)), (1, .long t)] [] := by
        intro q
        induction q with
        | zero =>
          intro k g2 L2 hk e2 h2 hF2
          have hkn : k = ni := by omega
          subst hkn
          rw [e2] at h2
          refine go_iload_n X (z := 0) d_M_pass_42 rfl rfl ?_
          refine go_aload_n X (z := 1) d_M_pass_43 rfl rfl ?_
          refine go_get X u_M rfl 11 (by decide) gm_fl_M_76 rfl d_M_pass_44 h2.this rfl ?_
          refine go_icmp_gt X (tgt := 97) d_M_pass_47 rfl (fun c1 => ?_) (fun c1 => absurd (nI_lt (by omega) (by omega)) c1)
          exact part3 g2 _ h2 hF2
        | succ q ihq =>
          intro k g2 L2 hkq e2 h2 hF2
          obtain ⟨j, hj, ho⟩ := hW1.2.2.1 (k + 1) (by omega) (by omega)
          have hoN : oN s1.2.1 (k + 1) = j := by unfold oN; rw [ho]; exact nI_clamp (by omega)
          refine go_iload_n X (z := 0) d_M_pass_42 rfl rfl ?_
          refine go_aload_n X (z := 1) d_M_pass_43 rfl rfl ?_
          refine go_get X u_M rfl 11 (by decide) gm_fl_M_76 rfl d_M_pass_44 h2.this rfl ?_
          refine go_icmp_gt X (tgt := 97) d_M_pass_47 rfl (fun c1 => absurd c1 (nI_nlt (a := ni) (b := k + 1) (by omega) (by omega))) (fun c1 => ?_)
          refine go_aload_n X (z := 1) d_M_pass_50 rfl rfl ?_
          refine go_get X u_M rfl 15 (by decide) gm_fl_M_45 rfl d_M_pass_51 h2.this rfl ?_
          refine go_iload_n X (z := 0) d_M_pass_54 rfl rfl ?_
          refine go_aload_n X (z := 1) d_M_pass_55 rfl rfl ?_
          refine go_iload_n X (z := 0) d_M_pass_56 rfl rfl ?_
          refine go_callI_V X (As := [.int ((nI (k + 1)))]) (rest := [.int ((nI (k + 1))), .ref (ad 15)]) (c_M_isThere h2 (by omega)) gm_ml_M_111 cw_M_isThere ⟨by decide, by decide⟩ rfl h2.this rfl rfl (Nat.le_of_ble_eq_true rfl) d_M_pass_57 ⟨by decide, by decide⟩ (fun ru2 gu2 hu2 => ?_)
          obtain ⟨rfl, rfl⟩ := hu2
          refine go_if_eq X (tgt := 84) d_M_pass_60 rfl (fun c3 => ?_) (fun c3 => ?_)
          · refine go_aload_n X (z := 1) d_M_pass_84 rfl rfl ?_
            refine go_get X u_M rfl 15 (by decide) gm_fl_M_45 rfl d_M_pass_85 h2.this rfl ?_
            refine go_iload_n X (z := 0) d_M_pass_88 rfl rfl ?_
            refine go_lald X 1 rfl d_M_pass_89 h2.a15 (vp_in_nI (by omega) (by decide)) ?_
            rw [nI_clamp (show (k + 1) < 2 ^ 31 by omega)]
            refine go_topl (fun x4 ex4 => ?_)
            refine go_last X 1 rfl d_M_pass_90 h2.a15 (vp_in_nI (by omega) (by decide)) ?_
            refine go_gen (fun g5 eg5 => ?_)
            have eg5 : g5 = va_up g2 (ad 15) (some (.inl (dA 1, 61, .inr (.inl (vp_updL ((L2 15)) (k + 1) x4))))) := by rw [eg5, nI_clamp (show k + 1 < 2 ^ 31 by omega)]
            have h6 : g5 (ad 0) = some (.inr (4, [.int th, .long now1, .int ((nI nb)), .ref (ad 3), .ref (ad 4), .ref (ad 5), .ref (ad 6), .ref (ad 7), .ref (ad 8), .ref (ad 9), .ref (ad 10), .int ((nI ni)), .ref (ad 12), .ref (ad 13), .ref (ad 14), .ref (ad 15), .ref (ad 16), .ref (ad 17), .ref (ad 18), .int ((nI s1.2.2)), .int kn, .ref (ad 21), .ref (ad 22), .ref (ad 23), .ref (ad 24)])) := by rw [eg5, va_up_ne _ _ (h2.ne 0 15)]; exact h2.this
            have h7 : g5 (ad 10) = some (.inl (dA 1, 12, .inr (.inl ((L2 10))))) := by rw [eg5, va_up_ne _ _ (h2.ne 10 15)]; exact h2.a10
            have h8 : g5 (ad 14) = some (.inl (dA 0, 61, .inl ((s1.2.1 14)))) := by rw [eg5, va_up_ne _ _ (h2.ne 14 15)]; exact h2.a14
            have h9 : g5 (ad 15) = some (.inl (dA 1, 61, .inr (.inl (vp_updL ((L2 15)) (k + 1) x4)))) := by rw [eg5]; exact va_up_self _ _ _
            have hM : MRep dA ad g5 th now1 nb ni s1.2.2 kn (va_up L2 15 (vp_updL (L2 15) (k + 1) (if thereF now1 L2 s1.2.1 (k + 1) = 0 then L2 15 (k + 1) else L2 15 (k + 1) + L2 10 (oN s1.2.1 (k + 1))))) s1.2.1 := by
              subst ex4
              rw [if_pos c3, eg5]
              exact h2.setL 15 _
            refine go_iinc X (j := 0) (v := nI (k + 1 + 1)) d_M_pass_91 rfl (nI_1 (k + 1)) (by decide) rfl ?_
            refine go_goto X (tgt := 42) d_M_pass_94 rfl ?_
            exact ihq (k + 1) g5 _ (by omega) (by rw [e2]; rfl) hM (hF2.trans (by rw [eg5]; exact MFr.up rfl))
          · refine go_aload_n X (z := 1) d_M_pass_63 rfl rfl ?_
            refine go_get X u_M rfl 15 (by decide) gm_fl_M_45 rfl d_M_pass_64 h2.this rfl ?_
            refine go_iload_n X (z := 0) d_M_pass_67 rfl rfl ?_
            refine go_lald X 1 rfl d_M_pass_68 h2.a15 (vp_in_nI (by omega) (by decide)) ?_
            rw [nI_clamp (show (k + 1) < 2 ^ 31 by omega)]
            refine go_aload_n X (z := 1) d_M_pass_69 rfl rfl ?_
            refine go_get X u_M rfl 10 (by decide) gm_fl_M_33 rfl d_M_pass_70 h2.this rfl ?_
            refine go_aload_n X (z := 1) d_M_pass_73 rfl rfl ?_
            refine go_get X u_M rfl 14 (by decide) gm_fl_M_42 rfl d_M_pass_74 h2.this rfl ?_
            refine go_iload_n X (z := 0) d_M_pass_77 rfl rfl ?_
            refine go_iald X 0 rfl d_M_pass_78 h2.a14 (vp_in_nI (by omega) (by decide)) ?_
            rw [nI_clamp (show (k + 1) < 2 ^ 31 by omega)]
            rw [ho]
            refine go_lald X 1 rfl d_M_pass_79 h2.a10 (vp_in_nI (by omega) (by decide)) ?_
            rw [nI_clamp (show j < 2 ^ 31 by omega)]
            refine go_ladd X d_M_pass_80 ?_
            refine go_goto X (tgt := 90) d_M_pass_81 rfl ?_
            refine go_topl (fun x10 ex10 => ?_)
            refine go_last X 1 rfl d_M_pass_90 h2.a15 (vp_in_nI (by omega) (by decide)) ?_
            refine go_gen (fun g11 eg11 => ?_)
            have eg11 : g11 = va_up g2 (ad 15) (some (.inl (dA 1, 61, .inr (.inl (vp_updL ((L2 15)) (k + 1) x10))))) := by rw [eg11, nI_clamp (show k + 1 < 2 ^ 31 by omega)]
            have h12 : g11 (ad 0) = some (.inr (4, [.int th, .long now1, .int ((nI nb)), .ref (ad 3), .ref (ad 4), .ref (ad 5), .ref (ad 6), .ref (ad 7), .ref (ad 8), .ref (ad 9), .ref (ad 10), .int ((nI ni)), .ref (ad 12), .ref (ad 13), .ref (ad 14), .ref (ad 15), .ref (ad 16), .ref (ad 17), .ref (ad 18), .int ((nI s1.2.2)), .int kn, .ref (ad 21), .ref (ad 22), .ref (ad 23), .ref (ad 24)])) := by rw [eg11, va_up_ne _ _ (h2.ne 0 15)]; exact h2.this
            have h13 : g11 (ad 10) = some (.inl (dA 1, 12, .inr (.inl ((L2 10))))) := by rw [eg11, va_up_ne _ _ (h2.ne 10 15)]; exact h2.a10
            have h14 : g11 (ad 14) = some (.inl (dA 0, 61, .inl ((s1.2.1 14)))) := by rw [eg11, va_up_ne _ _ (h2.ne 14 15)]; exact h2.a14
            have h15 : g11 (ad 15) = some (.inl (dA 1, 61, .inr (.inl (vp_updL ((L2 15)) (k + 1) x10)))) := by rw [eg11]; exact va_up_self _ _ _
            have hM : MRep dA ad g11 th now1 nb ni s1.2.2 kn (va_up L2 15 (vp_updL (L2 15) (k + 1) (if thereF now1 L2 s1.2.1 (k + 1) = 0 then L2 15 (k + 1) else L2 15 (k + 1) + L2 10 (oN s1.2.1 (k + 1))))) s1.2.1 := by
              subst ex10
              rw [if_neg c3, hoN, eg11]
              exact h2.setL 15 _
            refine go_iinc X (j := 0) (v := nI (k + 1 + 1)) d_M_pass_91 rfl (nI_1 (k + 1)) (by decide) rfl ?_
            refine go_goto X (tgt := 42) d_M_pass_94 rfl ?_
            exact ihq (k + 1) g11 _ (by omega) (by rw [e2]; rfl) hM (hF2.trans (by rw [eg11]; exact MFr.up rfl))
      have part1 : ∀ (q k : Nat) (g2 : Nat → Option va_E) (L2 : LA), k + q = nb → L2 = rtL s1.1 s1.2.1 now1 k → MRep dA ad g2 th now1 nb ni s1.2.2 kn L2 s1.2.1 → MFr ad g g2 → Go p l e rm_M_pass s m [.ref (ad 0), .long t].toArray below meth c D classes (gA g s.heap.size) 4 (MQ below (va_Qv (fun g' => MRep dA ad g' th t nb ni (msN nb ni (t.toInt - now.toInt).toNat now (L, J, ed)).2.2 kn (msN nb ni (t.toInt - now.toInt).toNat now (L, J, ed)).1 (msN nb ni (t.toInt - now.toInt).toNat now (L, J, ed)).2.1 ∧ MFr ad g g') (fun (g' : Nat → Option va_E) (t : State) => PW D classes (gA g s.heap.size) g' t.heap) (gA g s.heap.size)) [.ref (ad 0), .long t].toArray s 0 0 (gA g s.heap.size)) g2 0 0 11 [(3, .int ((nI k))), (0, .ref (ad 0)), (1, .long t)] [] := by
        intro q
        induction q with
        | zero =>
          intro k g2 L2 hk e2 h2 hF2
          have hkn : k = nb := by omega
          subst hkn
          refine go_iload_n X (z := 0) d_M_pass_11 rfl rfl ?_
          refine go_aload_n X (z := 1) d_M_pass_12 rfl rfl ?_
          refine go_get X u_M rfl 2 (by decide) gm_fl_M_73 rfl d_M_pass_13 h2.this rfl ?_
          refine go_icmp_ge X (tgt := 40) d_M_pass_16 rfl (fun c1 => ?_) (fun c1 => absurd (Int32.le_refl _) c1)
          refine go_iconst X (v := 1) d_M_pass_40 (by decide) ?_
          refine go_istore_n X (lv' := [(3, .int (nI (0 + 1))), (0, .ref (ad 0)), (1, .long t)]) d_M_pass_41 rfl (by decide) rfl ?_
          exact part2 ni 0 g2 L2 (Nat.zero_add _) e2 h2 hF2
        | succ q ihq =>
          intro k g2 L2 hkq e2 h2 hF2
          refine go_iload_n X (z := 0) d_M_pass_11 rfl rfl ?_
          refine go_aload_n X (z := 1) d_M_pass_12 rfl rfl ?_
          refine go_get X u_M rfl 2 (by decide) gm_fl_M_73 rfl d_M_pass_13 h2.this rfl ?_
          refine go_icmp_ge X (tgt := 40) d_M_pass_16 rfl (fun c1 => absurd c1 (nI_ge (a := k) (b := nb) (by omega) (by omega))) (fun c1 => ?_)
          refine go_aload_n X (z := 1) d_M_pass_19 rfl rfl ?_
          refine go_get X u_M rfl 10 (by decide) gm_fl_M_33 rfl d_M_pass_20 h2.this rfl ?_
          refine go_iload_n X (z := 0) d_M_pass_23 rfl rfl ?_
          refine go_aload_n X (z := 1) d_M_pass_24 rfl rfl ?_
          refine go_iload_n X (z := 0) d_M_pass_25 rfl rfl ?_
          refine go_aload_n X (z := 1) d_M_pass_26 rfl rfl ?_
          refine go_get X u_M rfl 1 (by decide) gm_fl_M_79 rfl d_M_pass_27 h2.this rfl ?_
          refine go_callL_V X (As := [.int ((nI k)), .long now1]) (rest := [.int ((nI k)), .ref (ad 10)]) (c_M_rateAt h2 (b := k) (by omega) now1) gm_ml_M_128 cw_M_rateAt ⟨by decide, by decide⟩ rfl h2.this rfl rfl (Nat.le_of_ble_eq_true rfl) d_M_pass_30 ⟨by decide, by decide⟩ (fun ru2 gu2 hu2 => ?_)
          obtain ⟨rfl, rfl⟩ := hu2
          refine go_topl (fun x3 ex3 => ?_)
          refine go_last X 1 rfl d_M_pass_33 h2.a10 (vp_in_nI (by omega) (by decide)) ?_
          refine go_gen (fun g4 eg4 => ?_)
          have eg4 : g4 = va_up g2 (ad 10) (some (.inl (dA 1, 12, .inr (.inl (vp_updL ((L2 10)) k x3))))) := by rw [eg4, nI_clamp (show k < 2 ^ 31 by omega)]
          have h5 : g4 (ad 0) = some (.inr (4, [.int th, .long now1, .int ((nI nb)), .ref (ad 3), .ref (ad 4), .ref (ad 5), .ref (ad 6), .ref (ad 7), .ref (ad 8), .ref (ad 9), .ref (ad 10), .int ((nI ni)), .ref (ad 12), .ref (ad 13), .ref (ad 14), .ref (ad 15), .ref (ad 16), .ref (ad 17), .ref (ad 18), .int ((nI s1.2.2)), .int kn, .ref (ad 21), .ref (ad 22), .ref (ad 23), .ref (ad 24)])) := by rw [eg4, va_up_ne _ _ (h2.ne 0 10)]; exact h2.this
          have h6 : g4 (ad 15) = some (.inl (dA 1, 61, .inr (.inl ((L2 15))))) := by rw [eg4, va_up_ne _ _ (h2.ne 15 10)]; exact h2.a15
          have h7 : g4 (ad 14) = some (.inl (dA 0, 61, .inl ((s1.2.1 14)))) := by rw [eg4, va_up_ne _ _ (h2.ne 14 10)]; exact h2.a14
          have h8 : g4 (ad 10) = some (.inl (dA 1, 12, .inr (.inl (vp_updL ((L2 10)) k x3)))) := by rw [eg4]; exact va_up_self _ _ _
          have hM : MRep dA ad g4 th now1 nb ni s1.2.2 kn (va_up L2 10 (vp_updL (L2 10) k (rateMF L2 s1.2.1 k now1))) s1.2.1 := by
            subst ex3
            rw [eg4]
            exact h2.setL 10 _
          refine go_iinc X (j := 0) (v := nI (k + 1)) d_M_pass_34 rfl (nI_1 k) (by decide) rfl ?_
          refine go_goto X (tgt := 11) d_M_pass_37 rfl ?_
          exact ihq (k + 1) g4 _ (by omega) (by rw [e2]; rfl) hM (hF2.trans (by rw [eg4]; exact MFr.up rfl))
      refine go_aload_n X (z := 0) d_M_pass_0 rfl rfl ?_
      refine go_get X u_M rfl 1 (by decide) gm_fl_M_79 rfl d_M_pass_1 h1.this rfl ?_
      refine go_lload_n X (z := 1) d_M_pass_4 rfl rfl ?_
      refine go_lif_ge X (tgt := 118) d_M_pass_5 d_M_pass_6 rfl (fun c => absurd c hlt2) (fun _ => ?_)
      refine go_iconst X (v := 0) d_M_pass_9 (by decide) ?_
      refine go_istore_n X (lv' := [(3, .int (nI 0)), (0, .ref (ad 0)), (1, .long t)]) d_M_pass_10 rfl (by decide) rfl ?_
      exact part1 nb 0 g1 s1.1 (Nat.zero_add _) rfl h1 hF
  exact loop _ now g (L, J, ed) rfl hnt rfl hed h hW MFr.rfl'
end M3
end
section
/-! The reference: its public methods. -/
theorem isBF_1 {nb : Nat} {x : Int32} (h : ¬ isBF nb x = 0) (hn : nb < 2 ^ 31) : ∃ k, k < nb ∧ x = nI k := by
  unfold isBF at h
  by_cases h1 : x < 0
  · rw [if_pos h1] at h; exact absurd rfl h
  · by_cases h2 : nI nb ≤ x
    · rw [if_neg h1, if_pos h2] at h; exact absurd rfl h
    · exact ix_of h1 h2 hn
theorem isBF_0 {nb : Nat} {x : Int32} (h : isBF nb x = 0) (hn : nb < 2 ^ 31) : ∀ k, k < nb → x ≠ nI k := by
  unfold isBF at h
  by_cases h1 : x < 0
  · exact ix_lt h1 hn
  · by_cases h2 : nI nb ≤ x
    · exact ix_ge h2 hn
    · rw [if_neg h1, if_neg h2] at h; exact absurd h (by decide)
theorem isIF_1 {ni : Nat} {x : Int32} (h : ¬ isIF ni x = 0) (hn : ni < 2 ^ 30) : ∃ k, k < ni ∧ x = nI (k + 1) := by
  unfold isIF at h
  by_cases h1 : x ≤ 0
  · rw [if_pos h1] at h; exact absurd rfl h
  · by_cases h2 : nI ni < x
    · rw [if_neg h1, if_pos h2] at h; exact absurd rfl h
    · refine i1_of (fun q => h1 ?_) h2 hn
      have := Int32.lt_iff_toInt_lt.mp q
      rw [Int32.le_iff_toInt_le]
      simp at this ⊢
      omega
theorem isIF_0 {ni : Nat} {x : Int32} (h : isIF ni x = 0) (hn : ni < 2 ^ 30) : ∀ k, k < ni → x ≠ nI (k + 1) := by
  unfold isIF at h
  by_cases h1 : x ≤ 0
  · refine i1_lt ?_ hn
    have := Int32.le_iff_toInt_le.mp h1
    rw [Int32.lt_iff_toInt_lt]
    simp at this ⊢
    omega
  · by_cases h2 : nI ni < x
    · exact i1_gt h2 hn
    · rw [if_neg h1, if_neg h2] at h; exact absurd h (by decide)
theorem inF_1 {t now : Int64} (h : ¬ inF t now 1000000 = 0) : now ≤ t ∧ t ≤ 1000000 := by
  unfold inF at h
  by_cases h1 : t < now
  · rw [if_pos h1] at h; exact absurd rfl h
  · by_cases h2 : 1000000 < t
    · rw [if_neg h1, if_pos h2] at h; exact absurd rfl h
    · exact ⟨Int64.not_lt.mp h1, Int64.not_lt.mp h2⟩
def cntM (now : Int64) (L : LA) (J : JA) (b : Nat) : Nat → Int32
  | 0 => 0
  | k + 1 => if thereF now L J (k + 1) = 0 then cntM now L J b k else if J 14 (k + 1) = nI b then cntM now L J b k + 1 else cntM now L J b k
def readM (L : LA) (J : JA) (ed : Nat) (i what : Int32) : Int32 := if i < 0 then -1 else if nI ed ≤ i then -1 else if 400 ≤ i then -1 else if what < 0 then -1 else if what ≤ 3 then (if what = 0 then (L 21 i.toNatClampNeg).toInt32 else if what = 1 then J 22 i.toNatClampNeg else if what = 2 then J 23 i.toNatClampNeg else J 24 i.toNatClampNeg) else -1
def plN (L : LA) (J : JA) : Nat → Nat → Int64 → Int64 → Int64
  | 0, b, p, _ => 1000000000 * (nI b).toInt64 + p
  | f + 1, b, p, m => if p + rateMF L J b m < L 3 b then plN L J f b (p + rateMF L J b m) (m + 1) else if J 5 b = -1 then -1 else plN L J f (J 5 b).toNatClampNeg (p + rateMF L J b m - L 3 b) (m + 1)
def placeM (now : Int64) (L : LA) (J : JA) (i : Nat) (t : Int64) : Int64 := if J 16 i = 0 then (if L 13 i ≤ t then plN L J (t.toInt - (if L 13 i ≤ now then now else L 13 i).toInt).toNat (oN J i) (L 15 i) (if L 13 i ≤ now then now else L 13 i) else -2) else -1
def bfM (L : LA) (J : JA) (k : Nat) (t : Int64) : Int32 := if t = 0 then 8 else if t ≤ L 6 k then J 8 k else gearMF L J k (t - 1)
section M4
variable {ad : Nat → Nat} {th : Int32} {now : Int64} {nb ni ed : Nat} {kn : Int32} {L : LA} {J : JA}
set_option maxHeartbeats 4000000 in
set_option maxRecDepth 100000 in
theorem c_M_gear {l : Launch} {D : va_G} {dA : Nat → ClassId} {g : Nat → Option va_E}  (h : MRep dA ad g th now nb ni ed kn L J) (hW : MWf nb ni J) (x : Int32) (t : Int64) : CtI l D classes (tyL dA) y_M_gear b_M_gear 4 (some .int) rm_M_gear [.ref (ad 0), .int x, .long t] g (fun r g' => (MRep dA ad g' 0 now nb ni ed kn L J ∧ MFr ad g g') ∧ (((∀ k, k < nb → x ≠ nI k) ∧ r = -11) ∨ (∃ k, k < nb ∧ x = nI k ∧ ((inF t now 1000000 = 0 ∧ r = -12) ∨ (¬ inF t now 1000000 = 0 ∧ r = gearMF L J k t))))) := by
  refine CtI.of (by decide) (Nat.le_of_ble_eq_true rfl) ?_
  intro p e s m below meth c X hr hlk hnm
  have hnb := hW.1
  have hni := hW.2.1
  refine go_aload_n X (z := 0) d_M_gear_0 rfl rfl ?_
  refine go_iconst X (v := 0) d_M_gear_1 (by decide) ?_
  refine go_put X u_M rfl 0 (by decide) gm_fl_M_69 rfl t_M t_M_ok n_M rfl rfl rfl d_M_gear_2 h.this (Nat.le_of_ble_eq_true rfl) ?_
  refine go_gen (fun g1 e1 => ?_)
  have h1 : MRep dA ad g1 0 now nb ni ed kn L J := by rw [e1]; exact h.set0
  have hF1 : MFr ad g g1 := by rw [e1]; exact MFr.up rfl
  refine go_aload_n X (z := 0) d_M_gear_5 rfl rfl ?_
  refine go_iload_n X (z := 1) d_M_gear_6 rfl rfl ?_
  refine go_callI_V X (As := [.int x]) (rest := []) (c_M_isBelt h1 x) gm_ml_M_95 cw_M_isBelt ⟨by decide, by decide⟩ rfl h1.this rfl rfl (Nat.le_of_ble_eq_true rfl) d_M_gear_7 ⟨by decide, by decide⟩ (fun ru1 gu1 hu1 => ?_)
  obtain ⟨rfl, rfl⟩ := hu1
  refine go_if_ne X (tgt := 16) d_M_gear_10 rfl (fun c2 => ?_) (fun c2 => ?_)
  · obtain ⟨k, hk, rfl⟩ := isBF_1 c2 (by have := hW.1; omega)
    refine go_aload_n X (z := 0) d_M_gear_16 rfl rfl ?_
    refine go_lload_n X (z := 2) d_M_gear_17 rfl rfl ?_
    refine go_callI_V X (As := [.long t]) (rest := []) (c_M_isTime h1 t) gm_ml_M_99 cw_M_isTime ⟨by decide, by decide⟩ rfl h1.this rfl rfl (Nat.le_of_ble_eq_true rfl) d_M_gear_18 ⟨by decide, by decide⟩ (fun ru3 gu3 hu3 => ?_)
    obtain ⟨rfl, rfl⟩ := hu3
    refine go_if_eq X (tgt := 33) d_M_gear_21 rfl (fun c4 => ?_) (fun c4 => ?_)
    · refine go_bipush X (v := (-12)) d_M_gear_33 (by decide) ?_
      exact go_retI X hr hlk d_M_gear_35 ⟨⟨h1, hF1⟩, Or.inr ⟨k, hk, rfl, Or.inl ⟨c4, rfl⟩⟩⟩
    · refine go_aload_n X (z := 0) d_M_gear_24 rfl rfl ?_
      refine go_iload_n X (z := 1) d_M_gear_25 rfl rfl ?_
      refine go_lload_n X (z := 2) d_M_gear_26 rfl rfl ?_
      refine go_callI_V X (As := [.int ((nI k)), .long t]) (rest := []) (c_M_gearAt h1 (b := k) (by omega) t) gm_ml_M_107 cw_M_gearAt ⟨by decide, by decide⟩ rfl h1.this rfl rfl (Nat.le_of_ble_eq_true rfl) d_M_gear_27 ⟨by decide, by decide⟩ (fun ru5 gu5 hu5 => ?_)
      obtain ⟨rfl, rfl⟩ := hu5
      refine go_goto X (tgt := 35) d_M_gear_30 rfl ?_
      exact go_retI X hr hlk d_M_gear_35 ⟨⟨h1, hF1⟩, Or.inr ⟨k, hk, rfl, Or.inr ⟨c4, rfl⟩⟩⟩
  · refine go_bipush X (v := (-11)) d_M_gear_13 (by decide) ?_
    exact go_retI X hr hlk d_M_gear_15 ⟨⟨h1, hF1⟩, Or.inl ⟨isBF_0 c2 (by have := hW.1; omega), rfl⟩⟩
set_option maxHeartbeats 4000000 in
set_option maxRecDepth 100000 in
theorem c_M_edge {l : Launch} {D : va_G} {dA : Nat → ClassId} {g : Nat → Option va_E}  (h : MRep dA ad g th now nb ni ed kn L J) (hW : MWf nb ni J) (i what : Int32) : CtI l D classes (tyL dA) y_M_edge b_M_edge 3 (some .int) rm_M_edge [.ref (ad 0), .int i, .int what] g (fun r g' => (MRep dA ad g' 0 now nb ni ed kn L J ∧ MFr ad g g') ∧ r = readM L J ed i what) := by
  refine CtI.of (by decide) (Nat.le_of_ble_eq_true rfl) ?_
  intro p e s m below meth c X hr hlk hnm
  refine go_aload_n X (z := 0) d_M_edge_0 rfl rfl ?_
  refine go_iconst X (v := 0) d_M_edge_1 (by decide) ?_
  refine go_put X u_M rfl 0 (by decide) gm_fl_M_69 rfl t_M t_M_ok n_M rfl rfl rfl d_M_edge_2 h.this (Nat.le_of_ble_eq_true rfl) ?_
  refine go_gen (fun g1 e1 => ?_)
  have h1 : MRep dA ad g1 0 now nb ni ed kn L J := by rw [e1]; exact h.set0
  have hF1 : MFr ad g g1 := by rw [e1]; exact MFr.up rfl
  refine go_iload_n X (z := 1) d_M_edge_5 rfl rfl ?_
  refine go_if_lt X (tgt := 33) d_M_edge_6 rfl (fun c1 => ?_) (fun c1 => ?_)
  · refine go_iconst X (v := (-1)) d_M_edge_33 (by decide) ?_
    exact go_retI X hr hlk d_M_edge_34 ⟨⟨h1, hF1⟩, by simp only [readM, if_pos c1]⟩
  · refine go_iload_n X (z := 1) d_M_edge_9 rfl rfl ?_
    refine go_aload_n X (z := 0) d_M_edge_10 rfl rfl ?_
    refine go_get X u_M rfl 19 (by decide) gm_fl_M_116 rfl d_M_edge_11 h1.this rfl ?_
    refine go_icmp_ge X (tgt := 33) d_M_edge_14 rfl (fun c2 => ?_) (fun c2 => ?_)
    · refine go_iconst X (v := (-1)) d_M_edge_33 (by decide) ?_
      exact go_retI X hr hlk d_M_edge_34 ⟨⟨h1, hF1⟩, by simp only [readM, if_neg c1, if_pos c2]⟩
    · refine go_iload_n X (z := 1) d_M_edge_17 rfl rfl ?_
      refine go_sipush X (v := 400) d_M_edge_18 (by decide) ?_
      refine go_icmp_ge X (tgt := 33) d_M_edge_21 rfl (fun c3 => ?_) (fun c3 => ?_)
      · refine go_iconst X (v := (-1)) d_M_edge_33 (by decide) ?_
        exact go_retI X hr hlk d_M_edge_34 ⟨⟨h1, hF1⟩, by simp only [readM, if_neg c1, if_neg c2, if_pos c3]⟩
      · refine go_iload_n X (z := 2) d_M_edge_24 rfl rfl ?_
        refine go_if_lt X (tgt := 33) d_M_edge_25 rfl (fun c4 => ?_) (fun c4 => ?_)
        · refine go_iconst X (v := (-1)) d_M_edge_33 (by decide) ?_
          exact go_retI X hr hlk d_M_edge_34 ⟨⟨h1, hF1⟩, by simp only [readM, if_neg c1, if_neg c2, if_neg c3, if_pos c4]⟩
        · refine go_iload_n X (z := 2) d_M_edge_28 rfl rfl ?_
          refine go_iconst X (v := 3) d_M_edge_29 (by decide) ?_
          refine go_icmp_le X (tgt := 35) d_M_edge_30 rfl (fun c5 => ?_) (fun c5 => ?_)
          · have hin : vp_in i 400 := fun z => z.elim c1 (fun z => c3 (by obtain ⟨q, hq, rfl⟩ := nI_of c1; rw [nI_clamp hq] at z; exact nI_le (a := 400) z hq))
            refine go_iload_n X (z := 2) d_M_edge_35 rfl rfl ?_
            refine go_if_ne X (tgt := 49) d_M_edge_36 rfl (fun c6 => ?_) (fun c6 => ?_)
            · refine go_iload_n X (z := 2) d_M_edge_49 rfl rfl ?_
              refine go_iconst X (v := 1) d_M_edge_50 (by decide) ?_
              refine go_icmp_ne X (tgt := 63) d_M_edge_51 rfl (fun c7 => ?_) (fun c7 => ?_)
              · refine go_iload_n X (z := 2) d_M_edge_63 rfl rfl ?_
                refine go_iconst X (v := 2) d_M_edge_64 (by decide) ?_
                refine go_icmp_ne X (tgt := 77) d_M_edge_65 rfl (fun c8 => ?_) (fun c8 => ?_)
                · refine go_aload_n X (z := 0) d_M_edge_77 rfl rfl ?_
                  refine go_get X u_M rfl 24 (by decide) gm_fl_M_66 rfl d_M_edge_78 h1.this rfl ?_
                  refine go_iload_n X (z := 1) d_M_edge_81 rfl rfl ?_
                  refine go_iald X 0 rfl d_M_edge_82 h1.a24 hin ?_
                  exact go_retI X hr hlk d_M_edge_83 ⟨⟨h1, hF1⟩, by simp only [readM, if_neg c1, if_neg c2, if_neg c3, if_neg c4, if_pos c5, if_neg c6, if_neg c7, if_neg c8]⟩
                · refine go_aload_n X (z := 0) d_M_edge_68 rfl rfl ?_
                  refine go_get X u_M rfl 23 (by decide) gm_fl_M_63 rfl d_M_edge_69 h1.this rfl ?_
                  refine go_iload_n X (z := 1) d_M_edge_72 rfl rfl ?_
                  refine go_iald X 0 rfl d_M_edge_73 h1.a23 hin ?_
                  refine go_goto X (tgt := 83) d_M_edge_74 rfl ?_
                  exact go_retI X hr hlk d_M_edge_83 ⟨⟨h1, hF1⟩, by simp only [readM, if_neg c1, if_neg c2, if_neg c3, if_neg c4, if_pos c5, if_neg c6, if_neg c7, if_pos c8]⟩
              · refine go_aload_n X (z := 0) d_M_edge_54 rfl rfl ?_
                refine go_get X u_M rfl 22 (by decide) gm_fl_M_60 rfl d_M_edge_55 h1.this rfl ?_
                refine go_iload_n X (z := 1) d_M_edge_58 rfl rfl ?_
                refine go_iald X 0 rfl d_M_edge_59 h1.a22 hin ?_
                refine go_goto X (tgt := 83) d_M_edge_60 rfl ?_
                exact go_retI X hr hlk d_M_edge_83 ⟨⟨h1, hF1⟩, by simp only [readM, if_neg c1, if_neg c2, if_neg c3, if_neg c4, if_pos c5, if_neg c6, if_pos c7]⟩
            · refine go_aload_n X (z := 0) d_M_edge_39 rfl rfl ?_
              refine go_get X u_M rfl 21 (by decide) gm_fl_M_57 rfl d_M_edge_40 h1.this rfl ?_
              refine go_iload_n X (z := 1) d_M_edge_43 rfl rfl ?_
              refine go_lald X 1 rfl d_M_edge_44 h1.a21 hin ?_
              refine go_l2i X d_M_edge_45 rfl ?_
              refine go_goto X (tgt := 83) d_M_edge_46 rfl ?_
              exact go_retI X hr hlk d_M_edge_83 ⟨⟨h1, hF1⟩, by simp only [readM, if_neg c1, if_neg c2, if_neg c3, if_neg c4, if_pos c5, if_pos c6]⟩
          · refine go_iconst X (v := (-1)) d_M_edge_33 (by decide) ?_
            exact go_retI X hr hlk d_M_edge_34 ⟨⟨h1, hF1⟩, by simp only [readM, if_neg c1, if_neg c2, if_neg c3, if_neg c4, if_neg c5]⟩
set_option maxHeartbeats 4000000 in
set_option maxRecDepth 100000 in
theorem c_M_count {l : Launch} {D : va_G} {dA : Nat → ClassId} {g : Nat → Option va_E}  (h : MRep dA ad g th now nb ni ed kn L J) (hW : MWf nb ni J) (x : Int32) : CtI l D classes (tyL dA) y_M_count b_M_count 4 (some .int) rm_M_count [.ref (ad 0), .int x] g (fun r g' => (MRep dA ad g' 0 now nb ni ed kn L J ∧ MFr ad g g') ∧ (((∀ k, k < nb → x ≠ nI k) ∧ r = -11) ∨ (∃ k, k < nb ∧ x = nI k ∧ r = cntM now L J k ni))) := by
  refine CtI.of (by decide) (Nat.le_of_ble_eq_true rfl) ?_
  intro p e s m below meth c X hr hlk hnm
  have hnb := hW.1
  have hni := hW.2.1
  refine go_aload_n X (z := 0) d_M_count_0 rfl rfl ?_
  refine go_iconst X (v := 0) d_M_count_1 (by decide) ?_
  refine go_put X u_M rfl 0 (by decide) gm_fl_M_69 rfl t_M t_M_ok n_M rfl rfl rfl d_M_count_2 h.this (Nat.le_of_ble_eq_true rfl) ?_
  refine go_gen (fun g1 e1 => ?_)
  have h1 : MRep dA ad g1 0 now nb ni ed kn L J := by rw [e1]; exact h.set0
  have hF1 : MFr ad g g1 := by rw [e1]; exact MFr.up rfl
  refine go_aload_n X (z := 0) d_M_count_5 rfl rfl ?_
  refine go_iload_n X (z := 1) d_M_count_6 rfl rfl ?_
  refine go_callI_V X (As := [.int x]) (rest := []) (c_M_isBelt h1 x) gm_ml_M_95 cw_M_isBelt ⟨by decide, by decide⟩ rfl h1.this rfl rfl (Nat.le_of_ble_eq_true rfl) d_M_count_7 ⟨by decide, by decide⟩ (fun ru1 gu1 hu1 => ?_)
  obtain ⟨rfl, rfl⟩ := hu1
  refine go_if_ne X (tgt := 16) d_M_count_10 rfl (fun c2 => ?_) (fun c2 => ?_)
  · obtain ⟨k, hk, rfl⟩ := isBF_1 c2 (by have := hW.1; omega)
    refine go_iconst X (v := 0) d_M_count_16 (by decide) ?_
    refine go_istore_n X (lv' := [(2, .int 0), (0, .ref (ad 0)), (1, .int ((nI k)))]) d_M_count_17 rfl (by decide) rfl ?_
    refine go_iconst X (v := 1) d_M_count_18 (by decide) ?_
    refine go_istore_n X (lv' := [(3, .int 1), (2, .int 0), (0, .ref (ad 0)), (1, .int ((nI k)))]) d_M_count_19 rfl (by decide) rfl ?_
    have loop : ∀ (f q : Nat) (v : Int32), q + f = ni → v = cntM now L J k q → Go p l e rm_M_count s m [.ref (ad 0), .int ((nI k))].toArray below meth c D classes (gA g s.heap.size) 4 (MQ below (va_Qi (fun r g' => (MRep dA ad g' 0 now nb ni ed kn L J ∧ MFr ad g g') ∧ (((∀ k_1, k_1 < nb → nI k ≠ nI k_1) ∧ r = -11) ∨ (∃ k_1, k_1 < nb ∧ nI k = nI k_1 ∧ r = cntM now L J k_1 ni))) (fun (g' : Nat → Option va_E) (t : State) => PW D classes (gA g s.heap.size) g' t.heap) (gA g s.heap.size)) [.ref (ad 0), .int ((nI k))].toArray s 0 0 (gA g s.heap.size)) g1 0 0 20 [(3, .int ((nI (q + 1)))), (2, .int v), (0, .ref (ad 0)), (1, .int ((nI k)))] [] := by
      intro f
      induction f with
      | zero =>
        intro q v hq hv
        have hqn : q = ni := by omega
        subst hqn
        refine go_iload_n X (z := 0) d_M_count_20 rfl rfl ?_
        refine go_aload_n X (z := 2) d_M_count_21 rfl rfl ?_
        refine go_get X u_M rfl 11 (by decide) gm_fl_M_76 rfl d_M_count_22 h1.this rfl ?_
        refine go_icmp_gt X (tgt := 60) d_M_count_25 rfl (fun c1 => ?_) (fun c1 => absurd (nI_lt (by omega) (by omega)) c1)
        refine go_iload_n X (z := 1) d_M_count_60 rfl rfl ?_
        exact go_retI X hr hlk d_M_count_61 ⟨⟨h1, hF1⟩, Or.inr ⟨k, hk, rfl, hv⟩⟩
      | succ f ih =>
        intro q v hqf hv
        refine go_iload_n X (z := 0) d_M_count_20 rfl rfl ?_
        refine go_aload_n X (z := 2) d_M_count_21 rfl rfl ?_
        refine go_get X u_M rfl 11 (by decide) gm_fl_M_76 rfl d_M_count_22 h1.this rfl ?_
        refine go_icmp_gt X (tgt := 60) d_M_count_25 rfl (fun c1 => absurd c1 (nI_nlt (a := ni) (b := q + 1) (by omega) (by omega))) (fun c1 => ?_)
        refine go_aload_n X (z := 2) d_M_count_28 rfl rfl ?_
        refine go_iload_n X (z := 0) d_M_count_29 rfl rfl ?_
        refine go_callI_V X (As := [.int ((nI (q + 1)))]) (rest := []) (c_M_isThere h1 (by omega)) gm_ml_M_111 cw_M_isThere ⟨by decide, by decide⟩ rfl h1.this rfl rfl (Nat.le_of_ble_eq_true rfl) d_M_count_30 ⟨by decide, by decide⟩ (fun ru2 gu2 hu2 => ?_)
        obtain ⟨rfl, rfl⟩ := hu2
        refine go_if_eq X (tgt := 52) d_M_count_33 rfl (fun c3 => ?_) (fun c3 => ?_)
        · refine go_iload_n X (z := 1) d_M_count_52 rfl rfl ?_
          refine go_istore_n X (lv' := [(2, .int v), (3, .int ((nI (q + 1)))), (0, .ref (ad 0)), (1, .int ((nI k)))]) d_M_count_53 rfl (by decide) rfl ?_
          refine go_iinc X (j := 1) (v := nI (q + 1 + 1)) d_M_count_54 rfl (nI_1 (q + 1)) (by decide) rfl ?_
          refine go_goto X (tgt := 20) d_M_count_57 rfl ?_
          refine go_sub (lv' := [(3, .int (nI (q + 1 + 1))), (2, .int v), (0, .ref (ad 0)), (1, .int (nI k))]) [0, 1, 2, 3] rfl ?_
          exact ih (q + 1) v (by omega) (by simp only [cntM]; rw [if_pos c3, hv])
        · refine go_aload_n X (z := 2) d_M_count_36 rfl rfl ?_
          refine go_get X u_M rfl 14 (by decide) gm_fl_M_42 rfl d_M_count_37 h1.this rfl ?_
          refine go_iload_n X (z := 0) d_M_count_40 rfl rfl ?_
          refine go_iald X 0 rfl d_M_count_41 h1.a14 (vp_in_nI (by omega) (by decide)) ?_
          rw [nI_clamp (show (q + 1) < 2 ^ 31 by omega)]
          refine go_iload_n X (z := 3) d_M_count_42 rfl rfl ?_
          refine go_icmp_ne X (tgt := 52) d_M_count_43 rfl (fun c4 => ?_) (fun c4 => ?_)
          · refine go_iload_n X (z := 1) d_M_count_52 rfl rfl ?_
            refine go_istore_n X (lv' := [(2, .int v), (3, .int ((nI (q + 1)))), (0, .ref (ad 0)), (1, .int ((nI k)))]) d_M_count_53 rfl (by decide) rfl ?_
            refine go_iinc X (j := 1) (v := nI (q + 1 + 1)) d_M_count_54 rfl (nI_1 (q + 1)) (by decide) rfl ?_
            refine go_goto X (tgt := 20) d_M_count_57 rfl ?_
            refine go_sub (lv' := [(3, .int (nI (q + 1 + 1))), (2, .int v), (0, .ref (ad 0)), (1, .int (nI k))]) [0, 1, 2, 3] rfl ?_
            exact ih (q + 1) v (by omega) (by simp only [cntM]; rw [if_neg c3, if_neg c4, hv])
          · refine go_iload_n X (z := 1) d_M_count_46 rfl rfl ?_
            refine go_iconst X (v := 1) d_M_count_47 (by decide) ?_
            refine go_iadd X d_M_count_48 ?_
            refine go_goto X (tgt := 53) d_M_count_49 rfl ?_
            refine go_topi (fun x5 ex5 => ?_)
            refine go_istore_n X (lv' := [(2, .int x5), (3, .int ((nI (q + 1)))), (0, .ref (ad 0)), (1, .int ((nI k)))]) d_M_count_53 rfl (by decide) rfl ?_
            refine go_iinc X (j := 1) (v := nI (q + 1 + 1)) d_M_count_54 rfl (nI_1 (q + 1)) (by decide) rfl ?_
            refine go_goto X (tgt := 20) d_M_count_57 rfl ?_
            refine go_sub (lv' := [(3, .int (nI (q + 1 + 1))), (2, .int x5), (0, .ref (ad 0)), (1, .int (nI k))]) [0, 1, 2, 3] rfl ?_
            exact ih (q + 1) x5 (by omega) (by rw [ex5]; simp only [cntM]; rw [if_neg c3, if_pos c4, hv])
    refine go_sub (lv' := [(3, .int (nI (0 + 1))), (2, .int 0), (0, .ref (ad 0)), (1, .int (nI k))]) [0, 1, 2, 3] rfl ?_
    exact loop ni 0 0 (Nat.zero_add _) rfl
  · refine go_bipush X (v := (-11)) d_M_count_13 (by decide) ?_
    exact go_retI X hr hlk d_M_count_15 ⟨⟨h1, hF1⟩, Or.inl ⟨isBF_0 c2 (by have := hW.1; omega), rfl⟩⟩
set_option maxHeartbeats 4000000 in
set_option maxRecDepth 100000 in
theorem c_M_gap {l : Launch} {D : va_G} {dA : Nat → ClassId} {g : Nat → Option va_E}  (h : MRep dA ad g th now nb ni ed kn L J) (hW : MWf nb ni J) (x y : Int32) : CtI l D classes (tyL dA) y_M_gap b_M_gap 3 (some .int) rm_M_gap [.ref (ad 0), .int x, .int y] g (fun r g' => (MRep dA ad g' 0 now nb ni ed kn L J ∧ MFr ad g g') ∧ ((((∀ k, k < ni → x ≠ nI (k + 1)) ∨ (∀ k, k < ni → y ≠ nI (k + 1))) ∧ r = -11) ∨ (∃ k, k < ni ∧ x = nI (k + 1) ∧ ∃ q, q < ni ∧ y = nI (q + 1) ∧ ((nI (k + 1) = nI (q + 1) ∧ r = -12) ∨ (¬ nI (k + 1) = nI (q + 1) ∧ (((thereF now L J (k + 1) = 0 ∨ thereF now L J (q + 1) = 0 ∨ ¬ J 14 (k + 1) = J 14 (q + 1)) ∧ r = -13) ∨ (¬ thereF now L J (k + 1) = 0 ∧ ¬ thereF now L J (q + 1) = 0 ∧ J 14 (k + 1) = J 14 (q + 1) ∧ r = (L 15 (q + 1) - L 12 (q + 1) - L 15 (k + 1)).toInt32))))))) := by
  refine CtI.of (by decide) (Nat.le_of_ble_eq_true rfl) ?_
  intro p e s m below meth c X hr hlk hnm
  have hnb := hW.1
  have hni := hW.2.1
  refine go_aload_n X (z := 0) d_M_gap_0 rfl rfl ?_
  refine go_iconst X (v := 0) d_M_gap_1 (by decide) ?_
  refine go_put X u_M rfl 0 (by decide) gm_fl_M_69 rfl t_M t_M_ok n_M rfl rfl rfl d_M_gap_2 h.this (Nat.le_of_ble_eq_true rfl) ?_
  refine go_gen (fun g1 e1 => ?_)
  have h1 : MRep dA ad g1 0 now nb ni ed kn L J := by rw [e1]; exact h.set0
  have hF1 : MFr ad g g1 := by rw [e1]; exact MFr.up rfl
  refine go_aload_n X (z := 0) d_M_gap_5 rfl rfl ?_
  refine go_iload_n X (z := 1) d_M_gap_6 rfl rfl ?_
  refine go_callI_V X (As := [.int x]) (rest := []) (c_M_isItem h1 x) gm_ml_M_145 cw_M_isItem ⟨by decide, by decide⟩ rfl h1.this rfl rfl (Nat.le_of_ble_eq_true rfl) d_M_gap_7 ⟨by decide, by decide⟩ (fun ru1 gu1 hu1 => ?_)
  obtain ⟨rfl, rfl⟩ := hu1
  refine go_if_eq X (tgt := 21) d_M_gap_10 rfl (fun c2 => ?_) (fun c2 => ?_)
  · refine go_bipush X (v := (-11)) d_M_gap_21 (by decide) ?_
    exact go_retI X hr hlk d_M_gap_23 ⟨⟨h1, hF1⟩, Or.inl ⟨Or.inl (isIF_0 c2 (by have := hW.2.1; omega)), rfl⟩⟩
  · refine go_aload_n X (z := 0) d_M_gap_13 rfl rfl ?_
    refine go_iload_n X (z := 2) d_M_gap_14 rfl rfl ?_
    refine go_callI_V X (As := [.int y]) (rest := []) (c_M_isItem h1 y) gm_ml_M_145 cw_M_isItem ⟨by decide, by decide⟩ rfl h1.this rfl rfl (Nat.le_of_ble_eq_true rfl) d_M_gap_15 ⟨by decide, by decide⟩ (fun ru3 gu3 hu3 => ?_)
    obtain ⟨rfl, rfl⟩ := hu3
    refine go_if_ne X (tgt := 24) d_M_gap_18 rfl (fun c4 => ?_) (fun c4 => ?_)
    · obtain ⟨k, hk, rfl⟩ := isIF_1 c2 (by have := hW.2.1; omega)
      obtain ⟨q, hq, rfl⟩ := isIF_1 c4 (by have := hW.2.1; omega)
      refine go_iload_n X (z := 1) d_M_gap_24 rfl rfl ?_
      refine go_iload_n X (z := 2) d_M_gap_25 rfl rfl ?_
      refine go_icmp_ne X (tgt := 32) d_M_gap_26 rfl (fun c5 => ?_) (fun c5 => ?_)
      · refine go_aload_n X (z := 0) d_M_gap_32 rfl rfl ?_
        refine go_iload_n X (z := 1) d_M_gap_33 rfl rfl ?_
        refine go_callI_V X (As := [.int ((nI (k + 1)))]) (rest := []) (c_M_isThere h1 (i := k + 1) (by omega)) gm_ml_M_111 cw_M_isThere ⟨by decide, by decide⟩ rfl h1.this rfl rfl (Nat.le_of_ble_eq_true rfl) d_M_gap_34 ⟨by decide, by decide⟩ (fun ru6 gu6 hu6 => ?_)
        obtain ⟨rfl, rfl⟩ := hu6
        refine go_if_eq X (tgt := 63) d_M_gap_37 rfl (fun c7 => ?_) (fun c7 => ?_)
        · refine go_bipush X (v := (-13)) d_M_gap_63 (by decide) ?_
          exact go_retI X hr hlk d_M_gap_65 ⟨⟨h1, hF1⟩, Or.inr ⟨k, hk, rfl, q, hq, rfl, Or.inr ⟨c5, Or.inl ⟨Or.inl c7, rfl⟩⟩⟩⟩
        · refine go_aload_n X (z := 0) d_M_gap_40 rfl rfl ?_
          refine go_iload_n X (z := 2) d_M_gap_41 rfl rfl ?_
          refine go_callI_V X (As := [.int ((nI (q + 1)))]) (rest := []) (c_M_isThere h1 (i := q + 1) (by omega)) gm_ml_M_111 cw_M_isThere ⟨by decide, by decide⟩ rfl h1.this rfl rfl (Nat.le_of_ble_eq_true rfl) d_M_gap_42 ⟨by decide, by decide⟩ (fun ru8 gu8 hu8 => ?_)
          obtain ⟨rfl, rfl⟩ := hu8
          refine go_if_eq X (tgt := 63) d_M_gap_45 rfl (fun c9 => ?_) (fun c9 => ?_)
          · refine go_bipush X (v := (-13)) d_M_gap_63 (by decide) ?_
            exact go_retI X hr hlk d_M_gap_65 ⟨⟨h1, hF1⟩, Or.inr ⟨k, hk, rfl, q, hq, rfl, Or.inr ⟨c5, Or.inl ⟨Or.inr (Or.inl c9), rfl⟩⟩⟩⟩
          · refine go_aload_n X (z := 0) d_M_gap_48 rfl rfl ?_
            refine go_get X u_M rfl 14 (by decide) gm_fl_M_42 rfl d_M_gap_49 h1.this rfl ?_
            refine go_iload_n X (z := 1) d_M_gap_52 rfl rfl ?_
            refine go_iald X 0 rfl d_M_gap_53 h1.a14 (vp_in_nI (by omega) (by decide)) ?_
            rw [nI_clamp (show (k + 1) < 2 ^ 31 by omega)]
            refine go_aload_n X (z := 0) d_M_gap_54 rfl rfl ?_
            refine go_get X u_M rfl 14 (by decide) gm_fl_M_42 rfl d_M_gap_55 h1.this rfl ?_
            refine go_iload_n X (z := 2) d_M_gap_58 rfl rfl ?_
            refine go_iald X 0 rfl d_M_gap_59 h1.a14 (vp_in_nI (by omega) (by decide)) ?_
            rw [nI_clamp (show (q + 1) < 2 ^ 31 by omega)]
            refine go_icmp_eq X (tgt := 66) d_M_gap_60 rfl (fun c10 => ?_) (fun c10 => ?_)
            · refine go_aload_n X (z := 0) d_M_gap_66 rfl rfl ?_
              refine go_get X u_M rfl 15 (by decide) gm_fl_M_45 rfl d_M_gap_67 h1.this rfl ?_
              refine go_iload_n X (z := 2) d_M_gap_70 rfl rfl ?_
              refine go_lald X 1 rfl d_M_gap_71 h1.a15 (vp_in_nI (by omega) (by decide)) ?_
              rw [nI_clamp (show (q + 1) < 2 ^ 31 by omega)]
              refine go_aload_n X (z := 0) d_M_gap_72 rfl rfl ?_
              refine go_get X u_M rfl 12 (by decide) gm_fl_M_36 rfl d_M_gap_73 h1.this rfl ?_
              refine go_iload_n X (z := 2) d_M_gap_76 rfl rfl ?_
              refine go_lald X 1 rfl d_M_gap_77 h1.a12 (vp_in_nI (by omega) (by decide)) ?_
              rw [nI_clamp (show (q + 1) < 2 ^ 31 by omega)]
              refine go_lsub X d_M_gap_78 ?_
              refine go_aload_n X (z := 0) d_M_gap_79 rfl rfl ?_
              refine go_get X u_M rfl 15 (by decide) gm_fl_M_45 rfl d_M_gap_80 h1.this rfl ?_
              refine go_iload_n X (z := 1) d_M_gap_83 rfl rfl ?_
              refine go_lald X 1 rfl d_M_gap_84 h1.a15 (vp_in_nI (by omega) (by decide)) ?_
              rw [nI_clamp (show (k + 1) < 2 ^ 31 by omega)]
              refine go_lsub X d_M_gap_85 ?_
              refine go_l2i X d_M_gap_86 rfl ?_
              exact go_retI X hr hlk d_M_gap_87 ⟨⟨h1, hF1⟩, Or.inr ⟨k, hk, rfl, q, hq, rfl, Or.inr ⟨c5, Or.inr ⟨c7, c9, c10, rfl⟩⟩⟩⟩
            · refine go_bipush X (v := (-13)) d_M_gap_63 (by decide) ?_
              exact go_retI X hr hlk d_M_gap_65 ⟨⟨h1, hF1⟩, Or.inr ⟨k, hk, rfl, q, hq, rfl, Or.inr ⟨c5, Or.inl ⟨Or.inr (Or.inr c10), rfl⟩⟩⟩⟩
      · refine go_bipush X (v := (-12)) d_M_gap_29 (by decide) ?_
        exact go_retI X hr hlk d_M_gap_31 ⟨⟨h1, hF1⟩, Or.inr ⟨k, hk, rfl, q, hq, rfl, Or.inl ⟨c5, rfl⟩⟩⟩
    · refine go_bipush X (v := (-11)) d_M_gap_21 (by decide) ?_
      exact go_retI X hr hlk d_M_gap_23 ⟨⟨h1, hF1⟩, Or.inl ⟨Or.inr (isIF_0 c4 (by have := hW.2.1; omega)), rfl⟩⟩
set_option maxHeartbeats 4000000 in
set_option maxRecDepth 100000 in
theorem c_M_join {l : Launch} {D : va_G} {dA : Nat → ClassId} {g : Nat → Option va_E}  (h : MRep dA ad g th now nb ni ed kn L J) (hW : MWf nb ni J) (x y : Int32) : CtI l D classes (tyL dA) y_M_join b_M_join 4 (some .int) rm_M_join [.ref (ad 0), .int x, .int y] g (fun r g' => ((MRep dA ad g' 0 now nb ni ed kn L J ∧ MFr ad g g') ∧ ((∀ k, k < nb → x ≠ nI k) ∨ (∀ k, k < nb → y ≠ nI k)) ∧ r = -11) ∨ (∃ k, k < nb ∧ x = nI k ∧ ∃ q, q < nb ∧ y = nI q ∧ (((MRep dA ad g' 0 now nb ni ed kn L J ∧ MFr ad g g') ∧ ¬ nI k < nI q ∧ r = -12) ∨ (nI k < nI q ∧ r = J 5 k ∧ MRep dA ad g' 0 now nb ni ed kn L (va_up J 5 (upd (J 5) k (nI q))) ∧ MFr ad g g')))) := by
  refine CtI.of (by decide) (Nat.le_of_ble_eq_true rfl) ?_
  intro p e s m below meth c X hr hlk hnm
  have hnb := hW.1
  have hni := hW.2.1
  refine go_aload_n X (z := 0) d_M_join_0 rfl rfl ?_
  refine go_iconst X (v := 0) d_M_join_1 (by decide) ?_
  refine go_put X u_M rfl 0 (by decide) gm_fl_M_69 rfl t_M t_M_ok n_M rfl rfl rfl d_M_join_2 h.this (Nat.le_of_ble_eq_true rfl) ?_
  refine go_gen (fun g1 e1 => ?_)
  have h1 : MRep dA ad g1 0 now nb ni ed kn L J := by rw [e1]; exact h.set0
  have hF1 : MFr ad g g1 := by rw [e1]; exact MFr.up rfl
  refine go_aload_n X (z := 0) d_M_join_5 rfl rfl ?_
  refine go_iload_n X (z := 1) d_M_join_6 rfl rfl ?_
  refine go_callI_V X (As := [.int x]) (rest := []) (c_M_isBelt h1 x) gm_ml_M_95 cw_M_isBelt ⟨by decide, by decide⟩ rfl h1.this rfl rfl (Nat.le_of_ble_eq_true rfl) d_M_join_7 ⟨by decide, by decide⟩ (fun ru1 gu1 hu1 => ?_)
  obtain ⟨rfl, rfl⟩ := hu1
  refine go_if_eq X (tgt := 21) d_M_join_10 rfl (fun c2 => ?_) (fun c2 => ?_)
  · refine go_bipush X (v := (-11)) d_M_join_21 (by decide) ?_
    exact go_retI X hr hlk d_M_join_23 (Or.inl ⟨⟨h1, hF1⟩, Or.inl (isBF_0 c2 (by have := hW.1; omega)), rfl⟩)
  · refine go_aload_n X (z := 0) d_M_join_13 rfl rfl ?_
    refine go_iload_n X (z := 2) d_M_join_14 rfl rfl ?_
    refine go_callI_V X (As := [.int y]) (rest := []) (c_M_isBelt h1 y) gm_ml_M_95 cw_M_isBelt ⟨by decide, by decide⟩ rfl h1.this rfl rfl (Nat.le_of_ble_eq_true rfl) d_M_join_15 ⟨by decide, by decide⟩ (fun ru3 gu3 hu3 => ?_)
    obtain ⟨rfl, rfl⟩ := hu3
    refine go_if_ne X (tgt := 24) d_M_join_18 rfl (fun c4 => ?_) (fun c4 => ?_)
    · obtain ⟨k, hk, rfl⟩ := isBF_1 c2 (by have := hW.1; omega)
      obtain ⟨q, hq, rfl⟩ := isBF_1 c4 (by have := hW.1; omega)
      refine go_iload_n X (z := 2) d_M_join_24 rfl rfl ?_
      refine go_iload_n X (z := 1) d_M_join_25 rfl rfl ?_
      refine go_icmp_gt X (tgt := 32) d_M_join_26 rfl (fun c5 => ?_) (fun c5 => ?_)
      · refine go_aload_n X (z := 0) d_M_join_32 rfl rfl ?_
        refine go_get X u_M rfl 5 (by decide) gm_fl_M_16 rfl d_M_join_33 h1.this rfl ?_
        refine go_iload_n X (z := 1) d_M_join_36 rfl rfl ?_
        refine go_iald X 0 rfl d_M_join_37 h1.a5 (vp_in_nI (by omega) (by decide)) ?_
        rw [nI_clamp (show k < 2 ^ 31 by omega)]
        refine go_topi (fun x6 ex6 => ?_)
        refine go_istore_n X (lv' := [(3, .int x6), (0, .ref (ad 0)), (1, .int ((nI k))), (2, .int ((nI q)))]) d_M_join_38 rfl (by decide) rfl ?_
        refine go_aload_n X (z := 1) d_M_join_39 rfl rfl ?_
        refine go_get X u_M rfl 5 (by decide) gm_fl_M_16 rfl d_M_join_40 h1.this rfl ?_
        refine go_iload_n X (z := 2) d_M_join_43 rfl rfl ?_
        refine go_iload_n X (z := 3) d_M_join_44 rfl rfl ?_
        refine go_topi (fun x7 ex7 => ?_)
        refine go_iast X 0 rfl d_M_join_45 h1.a5 (vp_in_nI (by omega) (by decide)) ?_
        refine go_gen (fun g8 eg8 => ?_)
        have eg8 : g8 = va_up g1 (ad 5) (some (.inl (dA 0, 12, .inl (upd ((J 5)) k x7)))) := by rw [eg8, nI_clamp (show k < 2 ^ 31 by omega)]
        have h9 : g8 (ad 0) = some (.inr (4, [.int 0, .long now, .int ((nI nb)), .ref (ad 3), .ref (ad 4), .ref (ad 5), .ref (ad 6), .ref (ad 7), .ref (ad 8), .ref (ad 9), .ref (ad 10), .int ((nI ni)), .ref (ad 12), .ref (ad 13), .ref (ad 14), .ref (ad 15), .ref (ad 16), .ref (ad 17), .ref (ad 18), .int ((nI ed)), .int kn, .ref (ad 21), .ref (ad 22), .ref (ad 23), .ref (ad 24)])) := by rw [eg8, va_up_ne _ _ (h1.ne 0 5)]; exact h1.this
        have h10 : g8 (ad 5) = some (.inl (dA 0, 12, .inl (upd ((J 5)) k x7))) := by rw [eg8]; exact va_up_self _ _ _
        refine go_iload_n X (z := 0) d_M_join_46 rfl rfl ?_
        subst ex6 ex7
        exact go_retI X hr hlk d_M_join_47 (Or.inr ⟨k, hk, rfl, q, hq, rfl, Or.inr ⟨c5, rfl, by rw [eg8]; exact h1.setJ 5 _, hF1.trans (by rw [eg8]; exact MFr.up rfl)⟩⟩)
      · refine go_bipush X (v := (-12)) d_M_join_29 (by decide) ?_
        exact go_retI X hr hlk d_M_join_31 (Or.inr ⟨k, hk, rfl, q, hq, rfl, Or.inl ⟨⟨h1, hF1⟩, c5, rfl⟩⟩)
    · refine go_bipush X (v := (-11)) d_M_join_21 (by decide) ?_
      exact go_retI X hr hlk d_M_join_23 (Or.inl ⟨⟨h1, hF1⟩, Or.inr (isBF_0 c4 (by have := hW.1; omega)), rfl⟩)
set_option maxHeartbeats 4000000 in
set_option maxRecDepth 100000 in
theorem c_M_slip {l : Launch} {D : va_G} {dA : Nat → ClassId} {g : Nat → Option va_E}  (h : MRep dA ad g th now nb ni ed kn L J) (hW : MWf nb ni J) (x : Int32) (by0 : Int64) : CtI l D classes (tyL dA) y_M_slip b_M_slip 6 (some .int) rm_M_slip [.ref (ad 0), .int x, .long by0] g (fun r g' => ((MRep dA ad g' 0 now nb ni ed kn L J ∧ MFr ad g g') ∧ (∀ k, k < ni → x ≠ nI (k + 1)) ∧ r = -11) ∨ (∃ k, k < ni ∧ x = nI (k + 1) ∧ (((MRep dA ad g' 0 now nb ni ed kn L J ∧ MFr ad g g') ∧ inF by0 0 1000000000 = 0 ∧ r = -12) ∨ ((MRep dA ad g' 0 now nb ni ed kn L J ∧ MFr ad g g') ∧ ¬ inF by0 0 1000000000 = 0 ∧ thereF now L J (k + 1) = 0 ∧ r = -13) ∨ (¬ inF by0 0 1000000000 = 0 ∧ ¬ thereF now L J (k + 1) = 0 ∧ r = (if L 15 (k + 1) ≤ by0 then L 15 (k + 1) else by0).toInt32 ∧ MRep dA ad g' 0 now nb ni ed kn (va_up L 15 (vp_updL (L 15) (k + 1) (L 15 (k + 1) - (if L 15 (k + 1) ≤ by0 then L 15 (k + 1) else by0)))) J ∧ MFr ad g g')))) := by
  refine CtI.of (by decide) (Nat.le_of_ble_eq_true rfl) ?_
  intro p e s m below meth c X hr hlk hnm
  have hnb := hW.1
  have hni := hW.2.1
  refine go_aload_n X (z := 0) d_M_slip_0 rfl rfl ?_
  refine go_iconst X (v := 0) d_M_slip_1 (by decide) ?_
  refine go_put X u_M rfl 0 (by decide) gm_fl_M_69 rfl t_M t_M_ok n_M rfl rfl rfl d_M_slip_2 h.this (Nat.le_of_ble_eq_true rfl) ?_
  refine go_gen (fun g1 e1 => ?_)
  have h1 : MRep dA ad g1 0 now nb ni ed kn L J := by rw [e1]; exact h.set0
  have hF1 : MFr ad g g1 := by rw [e1]; exact MFr.up rfl
  refine go_aload_n X (z := 0) d_M_slip_5 rfl rfl ?_
  refine go_iload_n X (z := 1) d_M_slip_6 rfl rfl ?_
  refine go_callI_V X (As := [.int x]) (rest := []) (c_M_isItem h1 x) gm_ml_M_145 cw_M_isItem ⟨by decide, by decide⟩ rfl h1.this rfl rfl (Nat.le_of_ble_eq_true rfl) d_M_slip_7 ⟨by decide, by decide⟩ (fun ru1 gu1 hu1 => ?_)
  obtain ⟨rfl, rfl⟩ := hu1
  refine go_if_ne X (tgt := 16) d_M_slip_10 rfl (fun c2 => ?_) (fun c2 => ?_)
  · obtain ⟨k, hk, rfl⟩ := isIF_1 c2 (by have := hW.2.1; omega)
    refine go_lload_n X (z := 2) d_M_slip_16 rfl rfl ?_
    refine go_lconst X (v := 0) d_M_slip_17 (by decide) ?_
    refine go_ldc2 X d_M_slip_18 gm_k_M_148 ?_
    refine go_callI_S X (As := [.long by0, .long 0, .long 1000000000]) (rest := []) (c_M_in by0 0 1000000000) gm_ml_M_85 cw_M_in ⟨by decide, by decide⟩ rfl rfl (Nat.le_of_ble_eq_true rfl) d_M_slip_21 ⟨by decide, by decide⟩ (fun ru3 gu3 hu3 => ?_)
    obtain ⟨rfl, rfl⟩ := hu3
    refine go_if_ne X (tgt := 30) d_M_slip_24 rfl (fun c4 => ?_) (fun c4 => ?_)
    · refine go_aload_n X (z := 0) d_M_slip_30 rfl rfl ?_
      refine go_iload_n X (z := 1) d_M_slip_31 rfl rfl ?_
      refine go_callI_V X (As := [.int ((nI (k + 1)))]) (rest := []) (c_M_isThere h1 (i := k + 1) (by omega)) gm_ml_M_111 cw_M_isThere ⟨by decide, by decide⟩ rfl h1.this rfl rfl (Nat.le_of_ble_eq_true rfl) d_M_slip_32 ⟨by decide, by decide⟩ (fun ru5 gu5 hu5 => ?_)
      obtain ⟨rfl, rfl⟩ := hu5
      refine go_if_ne X (tgt := 41) d_M_slip_35 rfl (fun c6 => ?_) (fun c6 => ?_)
      · refine go_lload_n X (z := 2) d_M_slip_41 rfl rfl ?_
        refine go_aload_n X (z := 0) d_M_slip_42 rfl rfl ?_
        refine go_get X u_M rfl 15 (by decide) gm_fl_M_45 rfl d_M_slip_43 h1.this rfl ?_
        refine go_iload_n X (z := 1) d_M_slip_46 rfl rfl ?_
        refine go_lald X 1 rfl d_M_slip_47 h1.a15 (vp_in_nI (by omega) (by decide)) ?_
        rw [nI_clamp (show (k + 1) < 2 ^ 31 by omega)]
        refine go_lif_ge X (tgt := 56) d_M_slip_48 d_M_slip_49 rfl (fun c7 => ?_) (fun c7 => ?_)
        · refine go_aload_n X (z := 0) d_M_slip_56 rfl rfl ?_
          refine go_get X u_M rfl 15 (by decide) gm_fl_M_45 rfl d_M_slip_57 h1.this rfl ?_
          refine go_iload_n X (z := 1) d_M_slip_60 rfl rfl ?_
          refine go_lald X 1 rfl d_M_slip_61 h1.a15 (vp_in_nI (by omega) (by decide)) ?_
          rw [nI_clamp (show (k + 1) < 2 ^ 31 by omega)]
          refine go_topl (fun x8 ex8 => ?_)
          refine go_lstore X (lv' := [(4, .long x8), (0, .ref (ad 0)), (1, .int ((nI (k + 1)))), (2, .long by0)]) d_M_slip_62 (by decide) rfl ?_
          refine go_aload_n X (z := 1) d_M_slip_64 rfl rfl ?_
          refine go_get X u_M rfl 15 (by decide) gm_fl_M_45 rfl d_M_slip_65 h1.this rfl ?_
          refine go_iload_n X (z := 2) d_M_slip_68 rfl rfl ?_
          refine go_aload_n X (z := 1) d_M_slip_69 rfl rfl ?_
          refine go_get X u_M rfl 15 (by decide) gm_fl_M_45 rfl d_M_slip_70 h1.this rfl ?_
          refine go_iload_n X (z := 2) d_M_slip_73 rfl rfl ?_
          refine go_lald X 1 rfl d_M_slip_74 h1.a15 (vp_in_nI (by omega) (by decide)) ?_
          rw [nI_clamp (show (k + 1) < 2 ^ 31 by omega)]
          refine go_lload X (z := 0) d_M_slip_75 rfl ?_
          refine go_lsub X d_M_slip_77 ?_
          refine go_topl (fun x9 ex9 => ?_)
          refine go_last X 1 rfl d_M_slip_78 h1.a15 (vp_in_nI (by omega) (by decide)) ?_
          refine go_gen (fun g10 eg10 => ?_)
          have eg10 : g10 = va_up g1 (ad 15) (some (.inl (dA 1, 61, .inr (.inl (vp_updL ((L 15)) (k + 1) x9))))) := by rw [eg10, nI_clamp (show k + 1 < 2 ^ 31 by omega)]
          have h11 : g10 (ad 0) = some (.inr (4, [.int 0, .long now, .int ((nI nb)), .ref (ad 3), .ref (ad 4), .ref (ad 5), .ref (ad 6), .ref (ad 7), .ref (ad 8), .ref (ad 9), .ref (ad 10), .int ((nI ni)), .ref (ad 12), .ref (ad 13), .ref (ad 14), .ref (ad 15), .ref (ad 16), .ref (ad 17), .ref (ad 18), .int ((nI ed)), .int kn, .ref (ad 21), .ref (ad 22), .ref (ad 23), .ref (ad 24)])) := by rw [eg10, va_up_ne _ _ (h1.ne 0 15)]; exact h1.this
          have h12 : g10 (ad 15) = some (.inl (dA 1, 61, .inr (.inl (vp_updL ((L 15)) (k + 1) x9)))) := by rw [eg10]; exact va_up_self _ _ _
          refine go_lload X (z := 0) d_M_slip_79 rfl ?_
          refine go_l2i X d_M_slip_81 rfl ?_
          subst ex8 ex9
          exact go_retI X hr hlk d_M_slip_82 (Or.inr ⟨k, hk, rfl, Or.inr (Or.inr ⟨c4, c6, by rw [if_pos c7], by rw [if_pos c7, eg10]; exact h1.setL 15 _, hF1.trans (by rw [eg10]; exact MFr.up rfl)⟩)⟩)
        · refine go_lload_n X (z := 2) d_M_slip_52 rfl rfl ?_
          refine go_goto X (tgt := 62) d_M_slip_53 rfl ?_
          refine go_lstore X (lv' := [(4, .long by0), (0, .ref (ad 0)), (1, .int ((nI (k + 1)))), (2, .long by0)]) d_M_slip_62 (by decide) rfl ?_
          refine go_aload_n X (z := 1) d_M_slip_64 rfl rfl ?_
          refine go_get X u_M rfl 15 (by decide) gm_fl_M_45 rfl d_M_slip_65 h1.this rfl ?_
          refine go_iload_n X (z := 2) d_M_slip_68 rfl rfl ?_
          refine go_aload_n X (z := 1) d_M_slip_69 rfl rfl ?_
          refine go_get X u_M rfl 15 (by decide) gm_fl_M_45 rfl d_M_slip_70 h1.this rfl ?_
          refine go_iload_n X (z := 2) d_M_slip_73 rfl rfl ?_
          refine go_lald X 1 rfl d_M_slip_74 h1.a15 (vp_in_nI (by omega) (by decide)) ?_
          rw [nI_clamp (show (k + 1) < 2 ^ 31 by omega)]
          refine go_lload X (z := 0) d_M_slip_75 rfl ?_
          refine go_lsub X d_M_slip_77 ?_
          refine go_topl (fun x13 ex13 => ?_)
          refine go_last X 1 rfl d_M_slip_78 h1.a15 (vp_in_nI (by omega) (by decide)) ?_
          refine go_gen (fun g14 eg14 => ?_)
          have eg14 : g14 = va_up g1 (ad 15) (some (.inl (dA 1, 61, .inr (.inl (vp_updL ((L 15)) (k + 1) x13))))) := by rw [eg14, nI_clamp (show k + 1 < 2 ^ 31 by omega)]
          have h15 : g14 (ad 0) = some (.inr (4, [.int 0, .long now, .int ((nI nb)), .ref (ad 3), .ref (ad 4), .ref (ad 5), .ref (ad 6), .ref (ad 7), .ref (ad 8), .ref (ad 9), .ref (ad 10), .int ((nI ni)), .ref (ad 12), .ref (ad 13), .ref (ad 14), .ref (ad 15), .ref (ad 16), .ref (ad 17), .ref (ad 18), .int ((nI ed)), .int kn, .ref (ad 21), .ref (ad 22), .ref (ad 23), .ref (ad 24)])) := by rw [eg14, va_up_ne _ _ (h1.ne 0 15)]; exact h1.this
          have h16 : g14 (ad 15) = some (.inl (dA 1, 61, .inr (.inl (vp_updL ((L 15)) (k + 1) x13)))) := by rw [eg14]; exact va_up_self _ _ _
          refine go_lload X (z := 0) d_M_slip_79 rfl ?_
          refine go_l2i X d_M_slip_81 rfl ?_
          subst ex13
          exact go_retI X hr hlk d_M_slip_82 (Or.inr ⟨k, hk, rfl, Or.inr (Or.inr ⟨c4, c6, by rw [if_neg c7], by rw [if_neg c7, eg14]; exact h1.setL 15 _, hF1.trans (by rw [eg14]; exact MFr.up rfl)⟩)⟩)
      · refine go_bipush X (v := (-13)) d_M_slip_38 (by decide) ?_
        exact go_retI X hr hlk d_M_slip_40 (Or.inr ⟨k, hk, rfl, Or.inr (Or.inl ⟨⟨h1, hF1⟩, c4, c6, rfl⟩)⟩)
    · refine go_bipush X (v := (-12)) d_M_slip_27 (by decide) ?_
      exact go_retI X hr hlk d_M_slip_29 (Or.inr ⟨k, hk, rfl, Or.inl ⟨⟨h1, hF1⟩, c4, rfl⟩⟩)
  · refine go_bipush X (v := (-11)) d_M_slip_13 (by decide) ?_
    exact go_retI X hr hlk d_M_slip_15 (Or.inl ⟨⟨h1, hF1⟩, isIF_0 c2 (by have := hW.2.1; omega), rfl⟩)
set_option maxHeartbeats 4000000 in
set_option maxRecDepth 100000 in
theorem c_M_step {l : Launch} {D : va_G} {dA : Nat → ClassId} {g : Nat → Option va_E}  (h : MRep dA ad g th now nb ni ed kn L J) (hW : MWf nb ni J) (hed : ∀ t : Int64, now ≤ t → t ≤ 1000000 → ed + 120 * (t.toInt - now.toInt).toNat ≤ 2000000000) (t : Int64) : CtI l D classes (tyL dA) y_M_step b_M_step 4 (some .int) rm_M_step [.ref (ad 0), .long t] g (fun r g' => ((MRep dA ad g' 0 now nb ni ed kn L J ∧ MFr ad g g') ∧ inF t now 1000000 = 0 ∧ r = -12) ∨ (¬ inF t now 1000000 = 0 ∧ r = nI (msN nb ni (t.toInt - now.toInt).toNat now (L, J, ed)).2.2 - kn ∧ MRep dA ad g' 0 t nb ni (msN nb ni (t.toInt - now.toInt).toNat now (L, J, ed)).2.2 (nI (msN nb ni (t.toInt - now.toInt).toNat now (L, J, ed)).2.2) (msN nb ni (t.toInt - now.toInt).toNat now (L, J, ed)).1 (msN nb ni (t.toInt - now.toInt).toNat now (L, J, ed)).2.1 ∧ MFr ad g g')) := by
  refine CtI.of (by decide) (Nat.le_of_ble_eq_true rfl) ?_
  intro p e s m below meth c X hr hlk hnm
  refine go_aload_n X (z := 0) d_M_step_0 rfl rfl ?_
  refine go_iconst X (v := 0) d_M_step_1 (by decide) ?_
  refine go_put X u_M rfl 0 (by decide) gm_fl_M_69 rfl t_M t_M_ok n_M rfl rfl rfl d_M_step_2 h.this (Nat.le_of_ble_eq_true rfl) ?_
  refine go_gen (fun g1 e1 => ?_)
  have h1 : MRep dA ad g1 0 now nb ni ed kn L J := by rw [e1]; exact h.set0
  have hF1 : MFr ad g g1 := by rw [e1]; exact MFr.up rfl
  refine go_aload_n X (z := 0) d_M_step_5 rfl rfl ?_
  refine go_lload_n X (z := 1) d_M_step_6 rfl rfl ?_
  refine go_callI_V X (As := [.long t]) (rest := []) (c_M_isTime h1 t) gm_ml_M_99 cw_M_isTime ⟨by decide, by decide⟩ rfl h1.this rfl rfl (Nat.le_of_ble_eq_true rfl) d_M_step_7 ⟨by decide, by decide⟩ (fun ru1 gu1 hu1 => ?_)
  obtain ⟨rfl, rfl⟩ := hu1
  refine go_if_ne X (tgt := 16) d_M_step_10 rfl (fun c2 => ?_) (fun c2 => ?_)
  · refine go_aload_n X (z := 0) d_M_step_16 rfl rfl ?_
    refine go_lload_n X (z := 1) d_M_step_17 rfl rfl ?_
    refine go_callV_V X (As := [.long t]) (rest := []) (c_M_pass h1 hW t (inF_1 c2).1 (hed t (inF_1 c2).1 (inF_1 c2).2)) gm_ml_M_138 cw_M_pass ⟨by decide, by decide⟩ rfl h1.this rfl rfl (Nat.le_of_ble_eq_true rfl) d_M_step_18 ⟨by decide, by decide⟩ (fun gz hz => ?_)
    obtain ⟨hz, hzF⟩ := hz
    refine go_aload_n X (z := 0) d_M_step_21 rfl rfl ?_
    refine go_get X u_M rfl 19 (by decide) gm_fl_M_116 rfl d_M_step_22 hz.this rfl ?_
    refine go_aload_n X (z := 0) d_M_step_25 rfl rfl ?_
    refine go_get X u_M rfl 20 (by decide) gm_fl_M_142 rfl d_M_step_26 hz.this rfl ?_
    refine go_isub X d_M_step_29 ?_
    refine go_topi (fun x3 ex3 => ?_)
    refine go_istore_n X (lv' := [(3, .int x3), (0, .ref (ad 0)), (1, .long t)]) d_M_step_30 rfl (by decide) rfl ?_
    refine go_aload_n X (z := 1) d_M_step_31 rfl rfl ?_
    refine go_aload_n X (z := 1) d_M_step_32 rfl rfl ?_
    refine go_get X u_M rfl 19 (by decide) gm_fl_M_116 rfl d_M_step_33 hz.this rfl ?_
    refine go_topi (fun x4 ex4 => ?_)
    refine go_put X u_M rfl 20 (by decide) gm_fl_M_142 rfl t_M t_M_ok n_M rfl rfl rfl d_M_step_36 hz.this (Nat.le_of_ble_eq_true rfl) ?_
    refine go_gen (fun g5 eg5 => ?_)
    have eg5 : g5 = va_up gz (ad 0) (some (.inr (4, [.int 0, .long t, .int ((nI nb)), .ref (ad 3), .ref (ad 4), .ref (ad 5), .ref (ad 6), .ref (ad 7), .ref (ad 8), .ref (ad 9), .ref (ad 10), .int ((nI ni)), .ref (ad 12), .ref (ad 13), .ref (ad 14), .ref (ad 15), .ref (ad 16), .ref (ad 17), .ref (ad 18), .int ((nI (msN nb ni (t.toInt - now.toInt).toNat now (L, J, ed)).2.2)), .int x4, .ref (ad 21), .ref (ad 22), .ref (ad 23), .ref (ad 24)]))) := eg5
    have h6 : g5 (ad 6) = some (.inl (dA 1, 12, .inr (.inl (((msN nb ni (t.toInt - now.toInt).toNat now (L, J, ed)).1 6))))) := by rw [eg5, va_up_ne _ _ (hz.ne 6 0)]; exact hz.a6
    have h7 : g5 (ad 7) = some (.inl (dA 2, 12, .inl (((msN nb ni (t.toInt - now.toInt).toNat now (L, J, ed)).2.1 7)))) := by rw [eg5, va_up_ne _ _ (hz.ne 7 0)]; exact hz.a7
    have h8 : g5 (ad 8) = some (.inl (dA 0, 12, .inl (((msN nb ni (t.toInt - now.toInt).toNat now (L, J, ed)).2.1 8)))) := by rw [eg5, va_up_ne _ _ (hz.ne 8 0)]; exact hz.a8
    have h9 : g5 (ad 9) = some (.inl (dA 0, 12, .inl (((msN nb ni (t.toInt - now.toInt).toNat now (L, J, ed)).2.1 9)))) := by rw [eg5, va_up_ne _ _ (hz.ne 9 0)]; exact hz.a9
    have h10 : g5 (ad 0) = some (.inr (4, [.int 0, .long t, .int ((nI nb)), .ref (ad 3), .ref (ad 4), .ref (ad 5), .ref (ad 6), .ref (ad 7), .ref (ad 8), .ref (ad 9), .ref (ad 10), .int ((nI ni)), .ref (ad 12), .ref (ad 13), .ref (ad 14), .ref (ad 15), .ref (ad 16), .ref (ad 17), .ref (ad 18), .int ((nI (msN nb ni (t.toInt - now.toInt).toNat now (L, J, ed)).2.2)), .int x4, .ref (ad 21), .ref (ad 22), .ref (ad 23), .ref (ad 24)])) := by rw [eg5]; exact va_up_self _ _ _
    refine go_iload_n X (z := 0) d_M_step_39 rfl rfl ?_
    subst ex3 ex4
    exact go_retI X hr hlk d_M_step_40 (Or.inr ⟨c2, rfl, by rw [eg5]; exact hz.set0, hF1.trans (hzF.trans (by rw [eg5]; exact MFr.up rfl))⟩)
  · refine go_bipush X (v := (-12)) d_M_step_13 (by decide) ?_
    exact go_retI X hr hlk d_M_step_15 (Or.inl ⟨⟨h1, hF1⟩, c2, rfl⟩)
set_option maxHeartbeats 4000000 in
set_option maxRecDepth 100000 in
theorem c_M_stop {l : Launch} {D : va_G} {dA : Nat → ClassId} {g : Nat → Option va_E}  (h : MRep dA ad g th now nb ni ed kn L J) (hW : MWf nb ni J) (hed : ∀ t : Int64, now ≤ t → t ≤ 1000000 → ed + 120 * (t.toInt - now.toInt).toNat ≤ 2000000000) (x on : Int32) (hon : vp_nar .boolean on = on) (t : Int64) : CtI l D classes (tyL dA) y_M_stop b_M_stop 5 (some .int) rm_M_stop [.ref (ad 0), .int x, .int on, .long t] g (fun r g' => ((MRep dA ad g' 0 now nb ni ed kn L J ∧ MFr ad g g') ∧ (∀ k, k < nb → x ≠ nI k) ∧ r = -11) ∨ (∃ k, k < nb ∧ x = nI k ∧ (((MRep dA ad g' 0 now nb ni ed kn L J ∧ MFr ad g g') ∧ inF t now 1000000 = 0 ∧ r = -12) ∨ ((MRep dA ad g' 0 now nb ni ed kn L J ∧ MFr ad g g') ∧ ¬ inF t now 1000000 = 0 ∧ ¬ J 7 k = on ∧ J 9 k = 100 ∧ r = -14) ∨ (¬ inF t now 1000000 = 0 ∧ (J 7 k = on ∨ ¬ J 9 k = 100) ∧ (((msN nb ni (t.toInt - now.toInt).toNat now (L, J, ed)).2.1 7 k = on ∧ r = 0 ∧ MRep dA ad g' 0 t nb ni (msN nb ni (t.toInt - now.toInt).toNat now (L, J, ed)).2.2 kn (msN nb ni (t.toInt - now.toInt).toNat now (L, J, ed)).1 (msN nb ni (t.toInt - now.toInt).toNat now (L, J, ed)).2.1 ∧ MFr ad g g') ∨ (¬ (msN nb ni (t.toInt - now.toInt).toNat now (L, J, ed)).2.1 7 k = on ∧ r = 1 ∧ MRep dA ad g' 0 t nb ni (msN nb ni (t.toInt - now.toInt).toNat now (L, J, ed)).2.2 kn (va_up (msN nb ni (t.toInt - now.toInt).toNat now (L, J, ed)).1 6 (vp_updL ((msN nb ni (t.toInt - now.toInt).toNat now (L, J, ed)).1 6) k t)) (va_up (va_up (va_up (msN nb ni (t.toInt - now.toInt).toNat now (L, J, ed)).2.1 8 (upd ((msN nb ni (t.toInt - now.toInt).toNat now (L, J, ed)).2.1 8) k (bfM (msN nb ni (t.toInt - now.toInt).toNat now (L, J, ed)).1 (msN nb ni (t.toInt - now.toInt).toNat now (L, J, ed)).2.1 k t))) 7 (upd ((msN nb ni (t.toInt - now.toInt).toNat now (L, J, ed)).2.1 7) k on)) 9 (upd ((msN nb ni (t.toInt - now.toInt).toNat now (L, J, ed)).2.1 9) k ((msN nb ni (t.toInt - now.toInt).toNat now (L, J, ed)).2.1 9 k + 1))) ∧ MFr ad g g')))))) := by
  refine CtI.of (by decide) (Nat.le_of_ble_eq_true rfl) ?_
  intro p e s m below meth c X hr hlk hnm
  have hnb := hW.1
  have hni := hW.2.1
  refine go_aload_n X (z := 0) d_M_stop_0 rfl rfl ?_
  refine go_iconst X (v := 0) d_M_stop_1 (by decide) ?_
  refine go_put X u_M rfl 0 (by decide) gm_fl_M_69 rfl t_M t_M_ok n_M rfl rfl rfl d_M_stop_2 h.this (Nat.le_of_ble_eq_true rfl) ?_
  refine go_gen (fun g1 e1 => ?_)
  have h1 : MRep dA ad g1 0 now nb ni ed kn L J := by rw [e1]; exact h.set0
  have hF1 : MFr ad g g1 := by rw [e1]; exact MFr.up rfl
  refine go_aload_n X (z := 0) d_M_stop_5 rfl rfl ?_
  refine go_iload_n X (z := 1) d_M_stop_6 rfl rfl ?_
  refine go_callI_V X (As := [.int x]) (rest := []) (c_M_isBelt h1 x) gm_ml_M_95 cw_M_isBelt ⟨by decide, by decide⟩ rfl h1.this rfl rfl (Nat.le_of_ble_eq_true rfl) d_M_stop_7 ⟨by decide, by decide⟩ (fun ru1 gu1 hu1 => ?_)
  obtain ⟨rfl, rfl⟩ := hu1
  refine go_if_ne X (tgt := 16) d_M_stop_10 rfl (fun c2 => ?_) (fun c2 => ?_)
  · obtain ⟨k, hk, rfl⟩ := isBF_1 c2 (by have := hW.1; omega)
    refine go_aload_n X (z := 0) d_M_stop_16 rfl rfl ?_
    refine go_lload_n X (z := 3) d_M_stop_17 rfl rfl ?_
    refine go_callI_V X (As := [.long t]) (rest := []) (c_M_isTime h1 t) gm_ml_M_99 cw_M_isTime ⟨by decide, by decide⟩ rfl h1.this rfl rfl (Nat.le_of_ble_eq_true rfl) d_M_stop_18 ⟨by decide, by decide⟩ (fun ru3 gu3 hu3 => ?_)
    obtain ⟨rfl, rfl⟩ := hu3
    refine go_if_ne X (tgt := 27) d_M_stop_21 rfl (fun c4 => ?_) (fun c4 => ?_)
    · refine go_aload_n X (z := 0) d_M_stop_27 rfl rfl ?_
      refine go_get X u_M rfl 7 (by decide) gm_fl_M_23 rfl d_M_stop_28 h1.this rfl ?_
      refine go_iload_n X (z := 1) d_M_stop_31 rfl rfl ?_
      refine go_zald X 2 rfl d_M_stop_32 h1.a7 (vp_in_nI (by omega) (by decide)) ?_
      rw [nI_clamp (show k < 2 ^ 31 by omega)]
      refine go_iload_n X (z := 2) d_M_stop_33 rfl rfl ?_
      refine go_icmp_eq X (tgt := 51) d_M_stop_34 rfl (fun c5 => ?_) (fun c5 => ?_)
      · refine go_aload_n X (z := 0) d_M_stop_51 rfl rfl ?_
        refine go_lload_n X (z := 3) d_M_stop_52 rfl rfl ?_
        refine go_callV_V X (As := [.long t]) (rest := []) (c_M_pass h1 hW t (inF_1 c4).1 (hed t (inF_1 c4).1 (inF_1 c4).2)) gm_ml_M_138 cw_M_pass ⟨by decide, by decide⟩ rfl h1.this rfl rfl (Nat.le_of_ble_eq_true rfl) d_M_stop_53 ⟨by decide, by decide⟩ (fun gz hz => ?_)
        obtain ⟨hz, hzF⟩ := hz
        refine go_aload_n X (z := 0) d_M_stop_56 rfl rfl ?_
        refine go_get X u_M rfl 7 (by decide) gm_fl_M_23 rfl d_M_stop_57 hz.this rfl ?_
        refine go_iload_n X (z := 1) d_M_stop_60 rfl rfl ?_
        refine go_zald X 2 rfl d_M_stop_61 hz.a7 (vp_in_nI (by omega) (by decide)) ?_
        rw [nI_clamp (show k < 2 ^ 31 by omega)]
        refine go_iload_n X (z := 2) d_M_stop_62 rfl rfl ?_
        refine go_icmp_ne X (tgt := 68) d_M_stop_63 rfl (fun c6 => ?_) (fun c6 => ?_)
        · refine go_aload_n X (z := 0) d_M_stop_68 rfl rfl ?_
          refine go_get X u_M rfl 8 (by decide) gm_fl_M_27 rfl d_M_stop_69 hz.this rfl ?_
          refine go_iload_n X (z := 1) d_M_stop_72 rfl rfl ?_
          refine go_lload_n X (z := 3) d_M_stop_73 rfl rfl ?_
          refine go_lconst X (v := 0) d_M_stop_74 (by decide) ?_
          refine go_lif_ne X (tgt := 84) d_M_stop_75 d_M_stop_76 rfl (fun c7 => ?_) (fun c7 => ?_)
          · refine go_lload_n X (z := 3) d_M_stop_84 rfl rfl ?_
            refine go_aload_n X (z := 0) d_M_stop_85 rfl rfl ?_
            refine go_get X u_M rfl 6 (by decide) gm_fl_M_20 rfl d_M_stop_86 hz.this rfl ?_
            refine go_iload_n X (z := 1) d_M_stop_89 rfl rfl ?_
            refine go_lald X 1 rfl d_M_stop_90 hz.a6 (vp_in_nI (by omega) (by decide)) ?_
            rw [nI_clamp (show k < 2 ^ 31 by omega)]
            refine go_lif_le X (tgt := 106) d_M_stop_91 d_M_stop_92 rfl (fun c8 => ?_) (fun c8 => ?_)
            · refine go_aload_n X (z := 0) d_M_stop_106 rfl rfl ?_
              refine go_get X u_M rfl 8 (by decide) gm_fl_M_27 rfl d_M_stop_107 hz.this rfl ?_
              refine go_iload_n X (z := 1) d_M_stop_110 rfl rfl ?_
              refine go_iald X 0 rfl d_M_stop_111 hz.a8 (vp_in_nI (by omega) (by decide)) ?_
              rw [nI_clamp (show k < 2 ^ 31 by omega)]
              refine go_topi (fun x9 ex9 => ?_)
              refine go_iast X 0 rfl d_M_stop_112 hz.a8 (vp_in_nI (by omega) (by decide)) ?_
              refine go_gen (fun g10 eg10 => ?_)
              have eg10 : g10 = va_up gz (ad 8) (some (.inl (dA 0, 12, .inl (upd (((msN nb ni (t.toInt - now.toInt).toNat now (L, J, ed)).2.1 8)) k x9)))) := by rw [eg10, nI_clamp (show k < 2 ^ 31 by omega)]
              have h11 : g10 (ad 0) = some (.inr (4, [.int 0, .long t, .int ((nI nb)), .ref (ad 3), .ref (ad 4), .ref (ad 5), .ref (ad 6), .ref (ad 7), .ref (ad 8), .ref (ad 9), .ref (ad 10), .int ((nI ni)), .ref (ad 12), .ref (ad 13), .ref (ad 14), .ref (ad 15), .ref (ad 16), .ref (ad 17), .ref (ad 18), .int ((nI (msN nb ni (t.toInt - now.toInt).toNat now (L, J, ed)).2.2)), .int kn, .ref (ad 21), .ref (ad 22), .ref (ad 23), .ref (ad 24)])) := by rw [eg10, va_up_ne _ _ (hz.ne 0 8)]; exact hz.this
              have h12 : g10 (ad 6) = some (.inl (dA 1, 12, .inr (.inl (((msN nb ni (t.toInt - now.toInt).toNat now (L, J, ed)).1 6))))) := by rw [eg10, va_up_ne _ _ (hz.ne 6 8)]; exact hz.a6
              have h13 : g10 (ad 7) = some (.inl (dA 2, 12, .inl (((msN nb ni (t.toInt - now.toInt).toNat now (L, J, ed)).2.1 7)))) := by rw [eg10, va_up_ne _ _ (hz.ne 7 8)]; exact hz.a7
              have h14 : g10 (ad 9) = some (.inl (dA 0, 12, .inl (((msN nb ni (t.toInt - now.toInt).toNat now (L, J, ed)).2.1 9)))) := by rw [eg10, va_up_ne _ _ (hz.ne 9 8)]; exact hz.a9
              have h15 : g10 (ad 8) = some (.inl (dA 0, 12, .inl (upd (((msN nb ni (t.toInt - now.toInt).toNat now (L, J, ed)).2.1 8)) k x9))) := by rw [eg10]; exact va_up_self _ _ _
              refine go_aload_n X (z := 0) d_M_stop_113 rfl rfl ?_
              refine go_get X u_M rfl 6 (by decide) gm_fl_M_20 rfl d_M_stop_114 h11 rfl ?_
              refine go_iload_n X (z := 1) d_M_stop_117 rfl rfl ?_
              refine go_lload_n X (z := 3) d_M_stop_118 rfl rfl ?_
              refine go_last X 1 rfl d_M_stop_119 h12 (vp_in_nI (by omega) (by decide)) ?_
              refine go_gen (fun g16 eg16 => ?_)
              have eg16 : g16 = va_up g10 (ad 6) (some (.inl (dA 1, 12, .inr (.inl (vp_updL (((msN nb ni (t.toInt - now.toInt).toNat now (L, J, ed)).1 6)) k t))))) := by rw [eg16, nI_clamp (show k < 2 ^ 31 by omega)]
              have h17 : g16 (ad 0) = some (.inr (4, [.int 0, .long t, .int ((nI nb)), .ref (ad 3), .ref (ad 4), .ref (ad 5), .ref (ad 6), .ref (ad 7), .ref (ad 8), .ref (ad 9), .ref (ad 10), .int ((nI ni)), .ref (ad 12), .ref (ad 13), .ref (ad 14), .ref (ad 15), .ref (ad 16), .ref (ad 17), .ref (ad 18), .int ((nI (msN nb ni (t.toInt - now.toInt).toNat now (L, J, ed)).2.2)), .int kn, .ref (ad 21), .ref (ad 22), .ref (ad 23), .ref (ad 24)])) := by rw [eg16, va_up_ne _ _ (hz.ne 0 6)]; exact h11
              have h18 : g16 (ad 7) = some (.inl (dA 2, 12, .inl (((msN nb ni (t.toInt - now.toInt).toNat now (L, J, ed)).2.1 7)))) := by rw [eg16, va_up_ne _ _ (hz.ne 7 6)]; exact h13
              have h19 : g16 (ad 8) = some (.inl (dA 0, 12, .inl (upd (((msN nb ni (t.toInt - now.toInt).toNat now (L, J, ed)).2.1 8)) k x9))) := by rw [eg16, va_up_ne _ _ (hz.ne 8 6)]; exact h15
              have h20 : g16 (ad 9) = some (.inl (dA 0, 12, .inl (((msN nb ni (t.toInt - now.toInt).toNat now (L, J, ed)).2.1 9)))) := by rw [eg16, va_up_ne _ _ (hz.ne 9 6)]; exact h14
              have h21 : g16 (ad 6) = some (.inl (dA 1, 12, .inr (.inl (vp_updL (((msN nb ni (t.toInt - now.toInt).toNat now (L, J, ed)).1 6)) k t)))) := by rw [eg16]; exact va_up_self _ _ _
              refine go_aload_n X (z := 0) d_M_stop_120 rfl rfl ?_
              refine go_get X u_M rfl 7 (by decide) gm_fl_M_23 rfl d_M_stop_121 h17 rfl ?_
              refine go_iload_n X (z := 1) d_M_stop_124 rfl rfl ?_
              refine go_iload_n X (z := 2) d_M_stop_125 rfl rfl ?_
              refine go_zast X 2 rfl d_M_stop_126 h18 (vp_in_nI (by omega) (by decide)) ?_
              refine go_gen (fun g22 eg22 => ?_)
              have eg22 : g22 = va_up g16 (ad 7) (some (.inl (dA 2, 12, .inl (upd (((msN nb ni (t.toInt - now.toInt).toNat now (L, J, ed)).2.1 7)) k on)))) := by rw [eg22, nI_clamp (show k < 2 ^ 31 by omega), hon]
              have h23 : g22 (ad 0) = some (.inr (4, [.int 0, .long t, .int ((nI nb)), .ref (ad 3), .ref (ad 4), .ref (ad 5), .ref (ad 6), .ref (ad 7), .ref (ad 8), .ref (ad 9), .ref (ad 10), .int ((nI ni)), .ref (ad 12), .ref (ad 13), .ref (ad 14), .ref (ad 15), .ref (ad 16), .ref (ad 17), .ref (ad 18), .int ((nI (msN nb ni (t.toInt - now.toInt).toNat now (L, J, ed)).2.2)), .int kn, .ref (ad 21), .ref (ad 22), .ref (ad 23), .ref (ad 24)])) := by rw [eg22, va_up_ne _ _ (hz.ne 0 7)]; exact h17
              have h24 : g22 (ad 6) = some (.inl (dA 1, 12, .inr (.inl (vp_updL (((msN nb ni (t.toInt - now.toInt).toNat now (L, J, ed)).1 6)) k t)))) := by rw [eg22, va_up_ne _ _ (hz.ne 6 7)]; exact h21
              have h25 : g22 (ad 8) = some (.inl (dA 0, 12, .inl (upd (((msN nb ni (t.toInt - now.toInt).toNat now (L, J, ed)).2.1 8)) k x9))) := by rw [eg22, va_up_ne _ _ (hz.ne 8 7)]; exact h19
              have h26 : g22 (ad 9) = some (.inl (dA 0, 12, .inl (((msN nb ni (t.toInt - now.toInt).toNat now (L, J, ed)).2.1 9)))) := by rw [eg22, va_up_ne _ _ (hz.ne 9 7)]; exact h20
              have h27 : g22 (ad 7) = some (.inl (dA 2, 12, .inl (upd (((msN nb ni (t.toInt - now.toInt).toNat now (L, J, ed)).2.1 7)) k on))) := by rw [eg22]; exact va_up_self _ _ _
              refine go_aload_n X (z := 0) d_M_stop_127 rfl rfl ?_
              refine go_get X u_M rfl 9 (by decide) gm_fl_M_30 rfl d_M_stop_128 h23 rfl ?_
              refine go_iload_n X (z := 1) d_M_stop_131 rfl rfl ?_
              refine go_dup2 X d_M_stop_132 rfl rfl ?_
              refine go_iald X 0 rfl d_M_stop_133 h26 (vp_in_nI (by omega) (by decide)) ?_
              rw [nI_clamp (show k < 2 ^ 31 by omega)]
              refine go_iconst X (v := 1) d_M_stop_134 (by decide) ?_
              refine go_iadd X d_M_stop_135 ?_
              refine go_topi (fun x28 ex28 => ?_)
              refine go_iast X 0 rfl d_M_stop_136 h26 (vp_in_nI (by omega) (by decide)) ?_
              refine go_gen (fun g29 eg29 => ?_)
              have eg29 : g29 = va_up g22 (ad 9) (some (.inl (dA 0, 12, .inl (upd (((msN nb ni (t.toInt - now.toInt).toNat now (L, J, ed)).2.1 9)) k x28)))) := by rw [eg29, nI_clamp (show k < 2 ^ 31 by omega)]
              have h30 : g29 (ad 0) = some (.inr (4, [.int 0, .long t, .int ((nI nb)), .ref (ad 3), .ref (ad 4), .ref (ad 5), .ref (ad 6), .ref (ad 7), .ref (ad 8), .ref (ad 9), .ref (ad 10), .int ((nI ni)), .ref (ad 12), .ref (ad 13), .ref (ad 14), .ref (ad 15), .ref (ad 16), .ref (ad 17), .ref (ad 18), .int ((nI (msN nb ni (t.toInt - now.toInt).toNat now (L, J, ed)).2.2)), .int kn, .ref (ad 21), .ref (ad 22), .ref (ad 23), .ref (ad 24)])) := by rw [eg29, va_up_ne _ _ (hz.ne 0 9)]; exact h23
              have h31 : g29 (ad 6) = some (.inl (dA 1, 12, .inr (.inl (vp_updL (((msN nb ni (t.toInt - now.toInt).toNat now (L, J, ed)).1 6)) k t)))) := by rw [eg29, va_up_ne _ _ (hz.ne 6 9)]; exact h24
              have h32 : g29 (ad 7) = some (.inl (dA 2, 12, .inl (upd (((msN nb ni (t.toInt - now.toInt).toNat now (L, J, ed)).2.1 7)) k on))) := by rw [eg29, va_up_ne _ _ (hz.ne 7 9)]; exact h27
              have h33 : g29 (ad 8) = some (.inl (dA 0, 12, .inl (upd (((msN nb ni (t.toInt - now.toInt).toNat now (L, J, ed)).2.1 8)) k x9))) := by rw [eg29, va_up_ne _ _ (hz.ne 8 9)]; exact h25
              have h34 : g29 (ad 9) = some (.inl (dA 0, 12, .inl (upd (((msN nb ni (t.toInt - now.toInt).toNat now (L, J, ed)).2.1 9)) k x28))) := by rw [eg29]; exact va_up_self _ _ _
              refine go_iconst X (v := 1) d_M_stop_137 (by decide) ?_
              subst ex9 ex28
              have hM : MRep dA ad g29 0 t nb ni (msN nb ni (t.toInt - now.toInt).toNat now (L, J, ed)).2.2 kn (va_up (msN nb ni (t.toInt - now.toInt).toNat now (L, J, ed)).1 6 (vp_updL ((msN nb ni (t.toInt - now.toInt).toNat now (L, J, ed)).1 6) k t)) (va_up (va_up (va_up (msN nb ni (t.toInt - now.toInt).toNat now (L, J, ed)).2.1 8 (upd ((msN nb ni (t.toInt - now.toInt).toNat now (L, J, ed)).2.1 8) k (bfM (msN nb ni (t.toInt - now.toInt).toNat now (L, J, ed)).1 (msN nb ni (t.toInt - now.toInt).toNat now (L, J, ed)).2.1 k t))) 7 (upd ((msN nb ni (t.toInt - now.toInt).toNat now (L, J, ed)).2.1 7) k on)) 9 (upd ((msN nb ni (t.toInt - now.toInt).toNat now (L, J, ed)).2.1 9) k ((msN nb ni (t.toInt - now.toInt).toNat now (L, J, ed)).2.1 9 k + 1))) := by
                unfold bfM
                rw [if_neg c7, if_pos c8, eg29, eg22, eg16, eg10]
                exact (((hz.setJ 8 _).setL 6 _).setZ 7 _).setJ 9 _
              exact go_retI X hr hlk d_M_stop_138 (Or.inr ⟨k, hk, rfl, Or.inr (Or.inr ⟨c4, Or.inl c5, Or.inr ⟨c6, rfl, hM, hF1.trans (hzF.trans (by rw [eg29, eg22, eg16, eg10]; exact (MFr.up rfl).trans ((MFr.up rfl).trans ((MFr.up rfl).trans (MFr.up rfl)))))⟩⟩)⟩)
            · refine go_aload_n X (z := 0) d_M_stop_95 rfl rfl ?_
              refine go_iload_n X (z := 1) d_M_stop_96 rfl rfl ?_
              refine go_lload_n X (z := 3) d_M_stop_97 rfl rfl ?_
              refine go_lconst X (v := 1) d_M_stop_98 (by decide) ?_
              refine go_lsub X d_M_stop_99 ?_
              refine go_callI_V X (As := [.int ((nI k)), .long (t - 1)]) (rest := [.int ((nI k)), .ref (ad 8)]) (c_M_gearAt hz (b := k) (by omega) (t - 1)) gm_ml_M_107 cw_M_gearAt ⟨by decide, by decide⟩ rfl hz.this rfl rfl (Nat.le_of_ble_eq_true rfl) d_M_stop_100 ⟨by decide, by decide⟩ (fun ru35 gu35 hu35 => ?_)
              obtain ⟨rfl, rfl⟩ := hu35
              refine go_goto X (tgt := 112) d_M_stop_103 rfl ?_
              refine go_topi (fun x36 ex36 => ?_)
              refine go_iast X 0 rfl d_M_stop_112 hz.a8 (vp_in_nI (by omega) (by decide)) ?_
              refine go_gen (fun g37 eg37 => ?_)
              have eg37 : g37 = va_up gz (ad 8) (some (.inl (dA 0, 12, .inl (upd (((msN nb ni (t.toInt - now.toInt).toNat now (L, J, ed)).2.1 8)) k x36)))) := by rw [eg37, nI_clamp (show k < 2 ^ 31 by omega)]
              have h38 : g37 (ad 0) = some (.inr (4, [.int 0, .long t, .int ((nI nb)), .ref (ad 3), .ref (ad 4), .ref (ad 5), .ref (ad 6), .ref (ad 7), .ref (ad 8), .ref (ad 9), .ref (ad 10), .int ((nI ni)), .ref (ad 12), .ref (ad 13), .ref (ad 14), .ref (ad 15), .ref (ad 16), .ref (ad 17), .ref (ad 18), .int ((nI (msN nb ni (t.toInt - now.toInt).toNat now (L, J, ed)).2.2)), .int kn, .ref (ad 21), .ref (ad 22), .ref (ad 23), .ref (ad 24)])) := by rw [eg37, va_up_ne _ _ (hz.ne 0 8)]; exact hz.this
              have h39 : g37 (ad 6) = some (.inl (dA 1, 12, .inr (.inl (((msN nb ni (t.toInt - now.toInt).toNat now (L, J, ed)).1 6))))) := by rw [eg37, va_up_ne _ _ (hz.ne 6 8)]; exact hz.a6
              have h40 : g37 (ad 7) = some (.inl (dA 2, 12, .inl (((msN nb ni (t.toInt - now.toInt).toNat now (L, J, ed)).2.1 7)))) := by rw [eg37, va_up_ne _ _ (hz.ne 7 8)]; exact hz.a7
              have h41 : g37 (ad 9) = some (.inl (dA 0, 12, .inl (((msN nb ni (t.toInt - now.toInt).toNat now (L, J, ed)).2.1 9)))) := by rw [eg37, va_up_ne _ _ (hz.ne 9 8)]; exact hz.a9
              have h42 : g37 (ad 8) = some (.inl (dA 0, 12, .inl (upd (((msN nb ni (t.toInt - now.toInt).toNat now (L, J, ed)).2.1 8)) k x36))) := by rw [eg37]; exact va_up_self _ _ _
              refine go_aload_n X (z := 0) d_M_stop_113 rfl rfl ?_
              refine go_get X u_M rfl 6 (by decide) gm_fl_M_20 rfl d_M_stop_114 h38 rfl ?_
              refine go_iload_n X (z := 1) d_M_stop_117 rfl rfl ?_
              refine go_lload_n X (z := 3) d_M_stop_118 rfl rfl ?_
              refine go_last X 1 rfl d_M_stop_119 h39 (vp_in_nI (by omega) (by decide)) ?_
              refine go_gen (fun g43 eg43 => ?_)
              have eg43 : g43 = va_up g37 (ad 6) (some (.inl (dA 1, 12, .inr (.inl (vp_updL (((msN nb ni (t.toInt - now.toInt).toNat now (L, J, ed)).1 6)) k t))))) := by rw [eg43, nI_clamp (show k < 2 ^ 31 by omega)]
              have h44 : g43 (ad 0) = some (.inr (4, [.int 0, .long t, .int ((nI nb)), .ref (ad 3), .ref (ad 4), .ref (ad 5), .ref (ad 6), .ref (ad 7), .ref (ad 8), .ref (ad 9), .ref (ad 10), .int ((nI ni)), .ref (ad 12), .ref (ad 13), .ref (ad 14), .ref (ad 15), .ref (ad 16), .ref (ad 17), .ref (ad 18), .int ((nI (msN nb ni (t.toInt - now.toInt).toNat now (L, J, ed)).2.2)), .int kn, .ref (ad 21), .ref (ad 22), .ref (ad 23), .ref (ad 24)])) := by rw [eg43, va_up_ne _ _ (hz.ne 0 6)]; exact h38
              have h45 : g43 (ad 7) = some (.inl (dA 2, 12, .inl (((msN nb ni (t.toInt - now.toInt).toNat now (L, J, ed)).2.1 7)))) := by rw [eg43, va_up_ne _ _ (hz.ne 7 6)]; exact h40
              have h46 : g43 (ad 8) = some (.inl (dA 0, 12, .inl (upd (((msN nb ni (t.toInt - now.toInt).toNat now (L, J, ed)).2.1 8)) k x36))) := by rw [eg43, va_up_ne _ _ (hz.ne 8 6)]; exact h42
              have h47 : g43 (ad 9) = some (.inl (dA 0, 12, .inl (((msN nb ni (t.toInt - now.toInt).toNat now (L, J, ed)).2.1 9)))) := by rw [eg43, va_up_ne _ _ (hz.ne 9 6)]; exact h41
              have h48 : g43 (ad 6) = some (.inl (dA 1, 12, .inr (.inl (vp_updL (((msN nb ni (t.toInt - now.toInt).toNat now (L, J, ed)).1 6)) k t)))) := by rw [eg43]; exact va_up_self _ _ _
              refine go_aload_n X (z := 0) d_M_stop_120 rfl rfl ?_
              refine go_get X u_M rfl 7 (by decide) gm_fl_M_23 rfl d_M_stop_121 h44 rfl ?_
              refine go_iload_n X (z := 1) d_M_stop_124 rfl rfl ?_
              refine go_iload_n X (z := 2) d_M_stop_125 rfl rfl ?_
              refine go_zast X 2 rfl d_M_stop_126 h45 (vp_in_nI (by omega) (by decide)) ?_
              refine go_gen (fun g49 eg49 => ?_)
              have eg49 : g49 = va_up g43 (ad 7) (some (.inl (dA 2, 12, .inl (upd (((msN nb ni (t.toInt - now.toInt).toNat now (L, J, ed)).2.1 7)) k on)))) := by rw [eg49, nI_clamp (show k < 2 ^ 31 by omega), hon]
              have h50 : g49 (ad 0) = some (.inr (4, [.int 0, .long t, .int ((nI nb)), .ref (ad 3), .ref (ad 4), .ref (ad 5), .ref (ad 6), .ref (ad 7), .ref (ad 8), .ref (ad 9), .ref (ad 10), .int ((nI ni)), .ref (ad 12), .ref (ad 13), .ref (ad 14), .ref (ad 15), .ref (ad 16), .ref (ad 17), .ref (ad 18), .int ((nI (msN nb ni (t.toInt - now.toInt).toNat now (L, J, ed)).2.2)), .int kn, .ref (ad 21), .ref (ad 22), .ref (ad 23), .ref (ad 24)])) := by rw [eg49, va_up_ne _ _ (hz.ne 0 7)]; exact h44
              have h51 : g49 (ad 6) = some (.inl (dA 1, 12, .inr (.inl (vp_updL (((msN nb ni (t.toInt - now.toInt).toNat now (L, J, ed)).1 6)) k t)))) := by rw [eg49, va_up_ne _ _ (hz.ne 6 7)]; exact h48
              have h52 : g49 (ad 8) = some (.inl (dA 0, 12, .inl (upd (((msN nb ni (t.toInt - now.toInt).toNat now (L, J, ed)).2.1 8)) k x36))) := by rw [eg49, va_up_ne _ _ (hz.ne 8 7)]; exact h46
              have h53 : g49 (ad 9) = some (.inl (dA 0, 12, .inl (((msN nb ni (t.toInt - now.toInt).toNat now (L, J, ed)).2.1 9)))) := by rw [eg49, va_up_ne _ _ (hz.ne 9 7)]; exact h47
              have h54 : g49 (ad 7) = some (.inl (dA 2, 12, .inl (upd (((msN nb ni (t.toInt - now.toInt).toNat now (L, J, ed)).2.1 7)) k on))) := by rw [eg49]; exact va_up_self _ _ _
              refine go_aload_n X (z := 0) d_M_stop_127 rfl rfl ?_
              refine go_get X u_M rfl 9 (by decide) gm_fl_M_30 rfl d_M_stop_128 h50 rfl ?_
              refine go_iload_n X (z := 1) d_M_stop_131 rfl rfl ?_
              refine go_dup2 X d_M_stop_132 rfl rfl ?_
              refine go_iald X 0 rfl d_M_stop_133 h53 (vp_in_nI (by omega) (by decide)) ?_
              rw [nI_clamp (show k < 2 ^ 31 by omega)]
              refine go_iconst X (v := 1) d_M_stop_134 (by decide) ?_
              refine go_iadd X d_M_stop_135 ?_
              refine go_topi (fun x55 ex55 => ?_)
              refine go_iast X 0 rfl d_M_stop_136 h53 (vp_in_nI (by omega) (by decide)) ?_
              refine go_gen (fun g56 eg56 => ?_)
              have eg56 : g56 = va_up g49 (ad 9) (some (.inl (dA 0, 12, .inl (upd (((msN nb ni (t.toInt - now.toInt).toNat now (L, J, ed)).2.1 9)) k x55)))) := by rw [eg56, nI_clamp (show k < 2 ^ 31 by omega)]
              have h57 : g56 (ad 0) = some (.inr (4, [.int 0, .long t, .int ((nI nb)), .ref (ad 3), .ref (ad 4), .ref (ad 5), .ref (ad 6), .ref (ad 7), .ref (ad 8), .ref (ad 9), .ref (ad 10), .int ((nI ni)), .ref (ad 12), .ref (ad 13), .ref (ad 14), .ref (ad 15), .ref (ad 16), .ref (ad 17), .ref (ad 18), .int ((nI (msN nb ni (t.toInt - now.toInt).toNat now (L, J, ed)).2.2)), .int kn, .ref (ad 21), .ref (ad 22), .ref (ad 23), .ref (ad 24)])) := by rw [eg56, va_up_ne _ _ (hz.ne 0 9)]; exact h50
              have h58 : g56 (ad 6) = some (.inl (dA 1, 12, .inr (.inl (vp_updL (((msN nb ni (t.toInt - now.toInt).toNat now (L, J, ed)).1 6)) k t)))) := by rw [eg56, va_up_ne _ _ (hz.ne 6 9)]; exact h51
              have h59 : g56 (ad 7) = some (.inl (dA 2, 12, .inl (upd (((msN nb ni (t.toInt - now.toInt).toNat now (L, J, ed)).2.1 7)) k on))) := by rw [eg56, va_up_ne _ _ (hz.ne 7 9)]; exact h54
              have h60 : g56 (ad 8) = some (.inl (dA 0, 12, .inl (upd (((msN nb ni (t.toInt - now.toInt).toNat now (L, J, ed)).2.1 8)) k x36))) := by rw [eg56, va_up_ne _ _ (hz.ne 8 9)]; exact h52
              have h61 : g56 (ad 9) = some (.inl (dA 0, 12, .inl (upd (((msN nb ni (t.toInt - now.toInt).toNat now (L, J, ed)).2.1 9)) k x55))) := by rw [eg56]; exact va_up_self _ _ _
              refine go_iconst X (v := 1) d_M_stop_137 (by decide) ?_
              subst ex36 ex55
              have hM : MRep dA ad g56 0 t nb ni (msN nb ni (t.toInt - now.toInt).toNat now (L, J, ed)).2.2 kn (va_up (msN nb ni (t.toInt - now.toInt).toNat now (L, J, ed)).1 6 (vp_updL ((msN nb ni (t.toInt - now.toInt).toNat now (L, J, ed)).1 6) k t)) (va_up (va_up (va_up (msN nb ni (t.toInt - now.toInt).toNat now (L, J, ed)).2.1 8 (upd ((msN nb ni (t.toInt - now.toInt).toNat now (L, J, ed)).2.1 8) k (bfM (msN nb ni (t.toInt - now.toInt).toNat now (L, J, ed)).1 (msN nb ni (t.toInt - now.toInt).toNat now (L, J, ed)).2.1 k t))) 7 (upd ((msN nb ni (t.toInt - now.toInt).toNat now (L, J, ed)).2.1 7) k on)) 9 (upd ((msN nb ni (t.toInt - now.toInt).toNat now (L, J, ed)).2.1 9) k ((msN nb ni (t.toInt - now.toInt).toNat now (L, J, ed)).2.1 9 k + 1))) := by
                unfold bfM
                rw [if_neg c7, if_neg c8, eg56, eg49, eg43, eg37]
                exact (((hz.setJ 8 _).setL 6 _).setZ 7 _).setJ 9 _
              exact go_retI X hr hlk d_M_stop_138 (Or.inr ⟨k, hk, rfl, Or.inr (Or.inr ⟨c4, Or.inl c5, Or.inr ⟨c6, rfl, hM, hF1.trans (hzF.trans (by rw [eg56, eg49, eg43, eg37]; exact (MFr.up rfl).trans ((MFr.up rfl).trans ((MFr.up rfl).trans (MFr.up rfl)))))⟩⟩)⟩)
          · refine go_bipush X (v := 8) d_M_stop_79 (by decide) ?_
            refine go_goto X (tgt := 112) d_M_stop_81 rfl ?_
            refine go_iast X 0 rfl d_M_stop_112 hz.a8 (vp_in_nI (by omega) (by decide)) ?_
            refine go_gen (fun g62 eg62 => ?_)
            have eg62 : g62 = va_up gz (ad 8) (some (.inl (dA 0, 12, .inl (upd (((msN nb ni (t.toInt - now.toInt).toNat now (L, J, ed)).2.1 8)) k 8)))) := by rw [eg62, nI_clamp (show k < 2 ^ 31 by omega)]
            have h63 : g62 (ad 0) = some (.inr (4, [.int 0, .long t, .int ((nI nb)), .ref (ad 3), .ref (ad 4), .ref (ad 5), .ref (ad 6), .ref (ad 7), .ref (ad 8), .ref (ad 9), .ref (ad 10), .int ((nI ni)), .ref (ad 12), .ref (ad 13), .ref (ad 14), .ref (ad 15), .ref (ad 16), .ref (ad 17), .ref (ad 18), .int ((nI (msN nb ni (t.toInt - now.toInt).toNat now (L, J, ed)).2.2)), .int kn, .ref (ad 21), .ref (ad 22), .ref (ad 23), .ref (ad 24)])) := by rw [eg62, va_up_ne _ _ (hz.ne 0 8)]; exact hz.this
            have h64 : g62 (ad 6) = some (.inl (dA 1, 12, .inr (.inl (((msN nb ni (t.toInt - now.toInt).toNat now (L, J, ed)).1 6))))) := by rw [eg62, va_up_ne _ _ (hz.ne 6 8)]; exact hz.a6
            have h65 : g62 (ad 7) = some (.inl (dA 2, 12, .inl (((msN nb ni (t.toInt - now.toInt).toNat now (L, J, ed)).2.1 7)))) := by rw [eg62, va_up_ne _ _ (hz.ne 7 8)]; exact hz.a7
            have h66 : g62 (ad 9) = some (.inl (dA 0, 12, .inl (((msN nb ni (t.toInt - now.toInt).toNat now (L, J, ed)).2.1 9)))) := by rw [eg62, va_up_ne _ _ (hz.ne 9 8)]; exact hz.a9
            have h67 : g62 (ad 8) = some (.inl (dA 0, 12, .inl (upd (((msN nb ni (t.toInt - now.toInt).toNat now (L, J, ed)).2.1 8)) k 8))) := by rw [eg62]; exact va_up_self _ _ _
            refine go_aload_n X (z := 0) d_M_stop_113 rfl rfl ?_
            refine go_get X u_M rfl 6 (by decide) gm_fl_M_20 rfl d_M_stop_114 h63 rfl ?_
            refine go_iload_n X (z := 1) d_M_stop_117 rfl rfl ?_
            refine go_lload_n X (z := 3) d_M_stop_118 rfl rfl ?_
            refine go_last X 1 rfl d_M_stop_119 h64 (vp_in_nI (by omega) (by decide)) ?_
            refine go_gen (fun g68 eg68 => ?_)
            have eg68 : g68 = va_up g62 (ad 6) (some (.inl (dA 1, 12, .inr (.inl (vp_updL (((msN nb ni (t.toInt - now.toInt).toNat now (L, J, ed)).1 6)) k t))))) := by rw [eg68, nI_clamp (show k < 2 ^ 31 by omega)]
            have h69 : g68 (ad 0) = some (.inr (4, [.int 0, .long t, .int ((nI nb)), .ref (ad 3), .ref (ad 4), .ref (ad 5), .ref (ad 6), .ref (ad 7), .ref (ad 8), .ref (ad 9), .ref (ad 10), .int ((nI ni)), .ref (ad 12), .ref (ad 13), .ref (ad 14), .ref (ad 15), .ref (ad 16), .ref (ad 17), .ref (ad 18), .int ((nI (msN nb ni (t.toInt - now.toInt).toNat now (L, J, ed)).2.2)), .int kn, .ref (ad 21), .ref (ad 22), .ref (ad 23), .ref (ad 24)])) := by rw [eg68, va_up_ne _ _ (hz.ne 0 6)]; exact h63
            have h70 : g68 (ad 7) = some (.inl (dA 2, 12, .inl (((msN nb ni (t.toInt - now.toInt).toNat now (L, J, ed)).2.1 7)))) := by rw [eg68, va_up_ne _ _ (hz.ne 7 6)]; exact h65
            have h71 : g68 (ad 8) = some (.inl (dA 0, 12, .inl (upd (((msN nb ni (t.toInt - now.toInt).toNat now (L, J, ed)).2.1 8)) k 8))) := by rw [eg68, va_up_ne _ _ (hz.ne 8 6)]; exact h67
            have h72 : g68 (ad 9) = some (.inl (dA 0, 12, .inl (((msN nb ni (t.toInt - now.toInt).toNat now (L, J, ed)).2.1 9)))) := by rw [eg68, va_up_ne _ _ (hz.ne 9 6)]; exact h66
            have h73 : g68 (ad 6) = some (.inl (dA 1, 12, .inr (.inl (vp_updL (((msN nb ni (t.toInt - now.toInt).toNat now (L, J, ed)).1 6)) k t)))) := by rw [eg68]; exact va_up_self _ _ _
            refine go_aload_n X (z := 0) d_M_stop_120 rfl rfl ?_
            refine go_get X u_M rfl 7 (by decide) gm_fl_M_23 rfl d_M_stop_121 h69 rfl ?_
            refine go_iload_n X (z := 1) d_M_stop_124 rfl rfl ?_
            refine go_iload_n X (z := 2) d_M_stop_125 rfl rfl ?_
            refine go_zast X 2 rfl d_M_stop_126 h70 (vp_in_nI (by omega) (by decide)) ?_
            refine go_gen (fun g74 eg74 => ?_)
            have eg74 : g74 = va_up g68 (ad 7) (some (.inl (dA 2, 12, .inl (upd (((msN nb ni (t.toInt - now.toInt).toNat now (L, J, ed)).2.1 7)) k on)))) := by rw [eg74, nI_clamp (show k < 2 ^ 31 by omega), hon]
            have h75 : g74 (ad 0) = some (.inr (4, [.int 0, .long t, .int ((nI nb)), .ref (ad 3), .ref (ad 4), .ref (ad 5), .ref (ad 6), .ref (ad 7), .ref (ad 8), .ref (ad 9), .ref (ad 10), .int ((nI ni)), .ref (ad 12), .ref (ad 13), .ref (ad 14), .ref (ad 15), .ref (ad 16), .ref (ad 17), .ref (ad 18), .int ((nI (msN nb ni (t.toInt - now.toInt).toNat now (L, J, ed)).2.2)), .int kn, .ref (ad 21), .ref (ad 22), .ref (ad 23), .ref (ad 24)])) := by rw [eg74, va_up_ne _ _ (hz.ne 0 7)]; exact h69
            have h76 : g74 (ad 6) = some (.inl (dA 1, 12, .inr (.inl (vp_updL (((msN nb ni (t.toInt - now.toInt).toNat now (L, J, ed)).1 6)) k t)))) := by rw [eg74, va_up_ne _ _ (hz.ne 6 7)]; exact h73
            have h77 : g74 (ad 8) = some (.inl (dA 0, 12, .inl (upd (((msN nb ni (t.toInt - now.toInt).toNat now (L, J, ed)).2.1 8)) k 8))) := by rw [eg74, va_up_ne _ _ (hz.ne 8 7)]; exact h71
            have h78 : g74 (ad 9) = some (.inl (dA 0, 12, .inl (((msN nb ni (t.toInt - now.toInt).toNat now (L, J, ed)).2.1 9)))) := by rw [eg74, va_up_ne _ _ (hz.ne 9 7)]; exact h72
            have h79 : g74 (ad 7) = some (.inl (dA 2, 12, .inl (upd (((msN nb ni (t.toInt - now.toInt).toNat now (L, J, ed)).2.1 7)) k on))) := by rw [eg74]; exact va_up_self _ _ _
            refine go_aload_n X (z := 0) d_M_stop_127 rfl rfl ?_
            refine go_get X u_M rfl 9 (by decide) gm_fl_M_30 rfl d_M_stop_128 h75 rfl ?_
            refine go_iload_n X (z := 1) d_M_stop_131 rfl rfl ?_
            refine go_dup2 X d_M_stop_132 rfl rfl ?_
            refine go_iald X 0 rfl d_M_stop_133 h78 (vp_in_nI (by omega) (by decide)) ?_
            rw [nI_clamp (show k < 2 ^ 31 by omega)]
            refine go_iconst X (v := 1) d_M_stop_134 (by decide) ?_
            refine go_iadd X d_M_stop_135 ?_
            refine go_topi (fun x80 ex80 => ?_)
            refine go_iast X 0 rfl d_M_stop_136 h78 (vp_in_nI (by omega) (by decide)) ?_
            refine go_gen (fun g81 eg81 => ?_)
            have eg81 : g81 = va_up g74 (ad 9) (some (.inl (dA 0, 12, .inl (upd (((msN nb ni (t.toInt - now.toInt).toNat now (L, J, ed)).2.1 9)) k x80)))) := by rw [eg81, nI_clamp (show k < 2 ^ 31 by omega)]
            have h82 : g81 (ad 0) = some (.inr (4, [.int 0, .long t, .int ((nI nb)), .ref (ad 3), .ref (ad 4), .ref (ad 5), .ref (ad 6), .ref (ad 7), .ref (ad 8), .ref (ad 9), .ref (ad 10), .int ((nI ni)), .ref (ad 12), .ref (ad 13), .ref (ad 14), .ref (ad 15), .ref (ad 16), .ref (ad 17), .ref (ad 18), .int ((nI (msN nb ni (t.toInt - now.toInt).toNat now (L, J, ed)).2.2)), .int kn, .ref (ad 21), .ref (ad 22), .ref (ad 23), .ref (ad 24)])) := by rw [eg81, va_up_ne _ _ (hz.ne 0 9)]; exact h75
            have h83 : g81 (ad 6) = some (.inl (dA 1, 12, .inr (.inl (vp_updL (((msN nb ni (t.toInt - now.toInt).toNat now (L, J, ed)).1 6)) k t)))) := by rw [eg81, va_up_ne _ _ (hz.ne 6 9)]; exact h76
            have h84 : g81 (ad 7) = some (.inl (dA 2, 12, .inl (upd (((msN nb ni (t.toInt - now.toInt).toNat now (L, J, ed)).2.1 7)) k on))) := by rw [eg81, va_up_ne _ _ (hz.ne 7 9)]; exact h79
            have h85 : g81 (ad 8) = some (.inl (dA 0, 12, .inl (upd (((msN nb ni (t.toInt - now.toInt).toNat now (L, J, ed)).2.1 8)) k 8))) := by rw [eg81, va_up_ne _ _ (hz.ne 8 9)]; exact h77
            have h86 : g81 (ad 9) = some (.inl (dA 0, 12, .inl (upd (((msN nb ni (t.toInt - now.toInt).toNat now (L, J, ed)).2.1 9)) k x80))) := by rw [eg81]; exact va_up_self _ _ _
            refine go_iconst X (v := 1) d_M_stop_137 (by decide) ?_
            subst ex80
            have hM : MRep dA ad g81 0 t nb ni (msN nb ni (t.toInt - now.toInt).toNat now (L, J, ed)).2.2 kn (va_up (msN nb ni (t.toInt - now.toInt).toNat now (L, J, ed)).1 6 (vp_updL ((msN nb ni (t.toInt - now.toInt).toNat now (L, J, ed)).1 6) k t)) (va_up (va_up (va_up (msN nb ni (t.toInt - now.toInt).toNat now (L, J, ed)).2.1 8 (upd ((msN nb ni (t.toInt - now.toInt).toNat now (L, J, ed)).2.1 8) k (bfM (msN nb ni (t.toInt - now.toInt).toNat now (L, J, ed)).1 (msN nb ni (t.toInt - now.toInt).toNat now (L, J, ed)).2.1 k t))) 7 (upd ((msN nb ni (t.toInt - now.toInt).toNat now (L, J, ed)).2.1 7) k on)) 9 (upd ((msN nb ni (t.toInt - now.toInt).toNat now (L, J, ed)).2.1 9) k ((msN nb ni (t.toInt - now.toInt).toNat now (L, J, ed)).2.1 9 k + 1))) := by
              unfold bfM
              rw [if_pos c7, eg81, eg74, eg68, eg62]
              exact (((hz.setJ 8 _).setL 6 _).setZ 7 _).setJ 9 _
            exact go_retI X hr hlk d_M_stop_138 (Or.inr ⟨k, hk, rfl, Or.inr (Or.inr ⟨c4, Or.inl c5, Or.inr ⟨c6, rfl, hM, hF1.trans (hzF.trans (by rw [eg81, eg74, eg68, eg62]; exact (MFr.up rfl).trans ((MFr.up rfl).trans ((MFr.up rfl).trans (MFr.up rfl)))))⟩⟩)⟩)
        · refine go_iconst X (v := 0) d_M_stop_66 (by decide) ?_
          exact go_retI X hr hlk d_M_stop_67 (Or.inr ⟨k, hk, rfl, Or.inr (Or.inr ⟨c4, Or.inl c5, Or.inl ⟨c6, rfl, hz, hF1.trans hzF⟩⟩)⟩)
      · refine go_aload_n X (z := 0) d_M_stop_37 rfl rfl ?_
        refine go_get X u_M rfl 9 (by decide) gm_fl_M_30 rfl d_M_stop_38 h1.this rfl ?_
        refine go_iload_n X (z := 1) d_M_stop_41 rfl rfl ?_
        refine go_iald X 0 rfl d_M_stop_42 h1.a9 (vp_in_nI (by omega) (by decide)) ?_
        rw [nI_clamp (show k < 2 ^ 31 by omega)]
        refine go_bipush X (v := 100) d_M_stop_43 (by decide) ?_
        refine go_icmp_ne X (tgt := 51) d_M_stop_45 rfl (fun c87 => ?_) (fun c87 => ?_)
        · refine go_aload_n X (z := 0) d_M_stop_51 rfl rfl ?_
          refine go_lload_n X (z := 3) d_M_stop_52 rfl rfl ?_
          refine go_callV_V X (As := [.long t]) (rest := []) (c_M_pass h1 hW t (inF_1 c4).1 (hed t (inF_1 c4).1 (inF_1 c4).2)) gm_ml_M_138 cw_M_pass ⟨by decide, by decide⟩ rfl h1.this rfl rfl (Nat.le_of_ble_eq_true rfl) d_M_stop_53 ⟨by decide, by decide⟩ (fun gz hz => ?_)
          obtain ⟨hz, hzF⟩ := hz
          refine go_aload_n X (z := 0) d_M_stop_56 rfl rfl ?_
          refine go_get X u_M rfl 7 (by decide) gm_fl_M_23 rfl d_M_stop_57 hz.this rfl ?_
          refine go_iload_n X (z := 1) d_M_stop_60 rfl rfl ?_
          refine go_zald X 2 rfl d_M_stop_61 hz.a7 (vp_in_nI (by omega) (by decide)) ?_
          rw [nI_clamp (show k < 2 ^ 31 by omega)]
          refine go_iload_n X (z := 2) d_M_stop_62 rfl rfl ?_
          refine go_icmp_ne X (tgt := 68) d_M_stop_63 rfl (fun c88 => ?_) (fun c88 => ?_)
          · refine go_aload_n X (z := 0) d_M_stop_68 rfl rfl ?_
            refine go_get X u_M rfl 8 (by decide) gm_fl_M_27 rfl d_M_stop_69 hz.this rfl ?_
            refine go_iload_n X (z := 1) d_M_stop_72 rfl rfl ?_
            refine go_lload_n X (z := 3) d_M_stop_73 rfl rfl ?_
            refine go_lconst X (v := 0) d_M_stop_74 (by decide) ?_
            refine go_lif_ne X (tgt := 84) d_M_stop_75 d_M_stop_76 rfl (fun c89 => ?_) (fun c89 => ?_)
            · refine go_lload_n X (z := 3) d_M_stop_84 rfl rfl ?_
              refine go_aload_n X (z := 0) d_M_stop_85 rfl rfl ?_
              refine go_get X u_M rfl 6 (by decide) gm_fl_M_20 rfl d_M_stop_86 hz.this rfl ?_
              refine go_iload_n X (z := 1) d_M_stop_89 rfl rfl ?_
              refine go_lald X 1 rfl d_M_stop_90 hz.a6 (vp_in_nI (by omega) (by decide)) ?_
              rw [nI_clamp (show k < 2 ^ 31 by omega)]
              refine go_lif_le X (tgt := 106) d_M_stop_91 d_M_stop_92 rfl (fun c90 => ?_) (fun c90 => ?_)
              · refine go_aload_n X (z := 0) d_M_stop_106 rfl rfl ?_
                refine go_get X u_M rfl 8 (by decide) gm_fl_M_27 rfl d_M_stop_107 hz.this rfl ?_
                refine go_iload_n X (z := 1) d_M_stop_110 rfl rfl ?_
                refine go_iald X 0 rfl d_M_stop_111 hz.a8 (vp_in_nI (by omega) (by decide)) ?_
                rw [nI_clamp (show k < 2 ^ 31 by omega)]
                refine go_topi (fun x91 ex91 => ?_)
                refine go_iast X 0 rfl d_M_stop_112 hz.a8 (vp_in_nI (by omega) (by decide)) ?_
                refine go_gen (fun g92 eg92 => ?_)
                have eg92 : g92 = va_up gz (ad 8) (some (.inl (dA 0, 12, .inl (upd (((msN nb ni (t.toInt - now.toInt).toNat now (L, J, ed)).2.1 8)) k x91)))) := by rw [eg92, nI_clamp (show k < 2 ^ 31 by omega)]
                have h93 : g92 (ad 0) = some (.inr (4, [.int 0, .long t, .int ((nI nb)), .ref (ad 3), .ref (ad 4), .ref (ad 5), .ref (ad 6), .ref (ad 7), .ref (ad 8), .ref (ad 9), .ref (ad 10), .int ((nI ni)), .ref (ad 12), .ref (ad 13), .ref (ad 14), .ref (ad 15), .ref (ad 16), .ref (ad 17), .ref (ad 18), .int ((nI (msN nb ni (t.toInt - now.toInt).toNat now (L, J, ed)).2.2)), .int kn, .ref (ad 21), .ref (ad 22), .ref (ad 23), .ref (ad 24)])) := by rw [eg92, va_up_ne _ _ (hz.ne 0 8)]; exact hz.this
                have h94 : g92 (ad 6) = some (.inl (dA 1, 12, .inr (.inl (((msN nb ni (t.toInt - now.toInt).toNat now (L, J, ed)).1 6))))) := by rw [eg92, va_up_ne _ _ (hz.ne 6 8)]; exact hz.a6
                have h95 : g92 (ad 7) = some (.inl (dA 2, 12, .inl (((msN nb ni (t.toInt - now.toInt).toNat now (L, J, ed)).2.1 7)))) := by rw [eg92, va_up_ne _ _ (hz.ne 7 8)]; exact hz.a7
                have h96 : g92 (ad 9) = some (.inl (dA 0, 12, .inl (((msN nb ni (t.toInt - now.toInt).toNat now (L, J, ed)).2.1 9)))) := by rw [eg92, va_up_ne _ _ (hz.ne 9 8)]; exact hz.a9
                have h97 : g92 (ad 8) = some (.inl (dA 0, 12, .inl (upd (((msN nb ni (t.toInt - now.toInt).toNat now (L, J, ed)).2.1 8)) k x91))) := by rw [eg92]; exact va_up_self _ _ _
                refine go_aload_n X (z := 0) d_M_stop_113 rfl rfl ?_
                refine go_get X u_M rfl 6 (by decide) gm_fl_M_20 rfl d_M_stop_114 h93 rfl ?_
                refine go_iload_n X (z := 1) d_M_stop_117 rfl rfl ?_
                refine go_lload_n X (z := 3) d_M_stop_118 rfl rfl ?_
                refine go_last X 1 rfl d_M_stop_119 h94 (vp_in_nI (by omega) (by decide)) ?_
                refine go_gen (fun g98 eg98 => ?_)
                have eg98 : g98 = va_up g92 (ad 6) (some (.inl (dA 1, 12, .inr (.inl (vp_updL (((msN nb ni (t.toInt - now.toInt).toNat now (L, J, ed)).1 6)) k t))))) := by rw [eg98, nI_clamp (show k < 2 ^ 31 by omega)]
                have h99 : g98 (ad 0) = some (.inr (4, [.int 0, .long t, .int ((nI nb)), .ref (ad 3), .ref (ad 4), .ref (ad 5), .ref (ad 6), .ref (ad 7), .ref (ad 8), .ref (ad 9), .ref (ad 10), .int ((nI ni)), .ref (ad 12), .ref (ad 13), .ref (ad 14), .ref (ad 15), .ref (ad 16), .ref (ad 17), .ref (ad 18), .int ((nI (msN nb ni (t.toInt - now.toInt).toNat now (L, J, ed)).2.2)), .int kn, .ref (ad 21), .ref (ad 22), .ref (ad 23), .ref (ad 24)])) := by rw [eg98, va_up_ne _ _ (hz.ne 0 6)]; exact h93
                have h100 : g98 (ad 7) = some (.inl (dA 2, 12, .inl (((msN nb ni (t.toInt - now.toInt).toNat now (L, J, ed)).2.1 7)))) := by rw [eg98, va_up_ne _ _ (hz.ne 7 6)]; exact h95
                have h101 : g98 (ad 8) = some (.inl (dA 0, 12, .inl (upd (((msN nb ni (t.toInt - now.toInt).toNat now (L, J, ed)).2.1 8)) k x91))) := by rw [eg98, va_up_ne _ _ (hz.ne 8 6)]; exact h97
                have h102 : g98 (ad 9) = some (.inl (dA 0, 12, .inl (((msN nb ni (t.toInt - now.toInt).toNat now (L, J, ed)).2.1 9)))) := by rw [eg98, va_up_ne _ _ (hz.ne 9 6)]; exact h96
                have h103 : g98 (ad 6) = some (.inl (dA 1, 12, .inr (.inl (vp_updL (((msN nb ni (t.toInt - now.toInt).toNat now (L, J, ed)).1 6)) k t)))) := by rw [eg98]; exact va_up_self _ _ _
                refine go_aload_n X (z := 0) d_M_stop_120 rfl rfl ?_
                refine go_get X u_M rfl 7 (by decide) gm_fl_M_23 rfl d_M_stop_121 h99 rfl ?_
                refine go_iload_n X (z := 1) d_M_stop_124 rfl rfl ?_
                refine go_iload_n X (z := 2) d_M_stop_125 rfl rfl ?_
                refine go_zast X 2 rfl d_M_stop_126 h100 (vp_in_nI (by omega) (by decide)) ?_
                refine go_gen (fun g104 eg104 => ?_)
                have eg104 : g104 = va_up g98 (ad 7) (some (.inl (dA 2, 12, .inl (upd (((msN nb ni (t.toInt - now.toInt).toNat now (L, J, ed)).2.1 7)) k on)))) := by rw [eg104, nI_clamp (show k < 2 ^ 31 by omega), hon]
                have h105 : g104 (ad 0) = some (.inr (4, [.int 0, .long t, .int ((nI nb)), .ref (ad 3), .ref (ad 4), .ref (ad 5), .ref (ad 6), .ref (ad 7), .ref (ad 8), .ref (ad 9), .ref (ad 10), .int ((nI ni)), .ref (ad 12), .ref (ad 13), .ref (ad 14), .ref (ad 15), .ref (ad 16), .ref (ad 17), .ref (ad 18), .int ((nI (msN nb ni (t.toInt - now.toInt).toNat now (L, J, ed)).2.2)), .int kn, .ref (ad 21), .ref (ad 22), .ref (ad 23), .ref (ad 24)])) := by rw [eg104, va_up_ne _ _ (hz.ne 0 7)]; exact h99
                have h106 : g104 (ad 6) = some (.inl (dA 1, 12, .inr (.inl (vp_updL (((msN nb ni (t.toInt - now.toInt).toNat now (L, J, ed)).1 6)) k t)))) := by rw [eg104, va_up_ne _ _ (hz.ne 6 7)]; exact h103
                have h107 : g104 (ad 8) = some (.inl (dA 0, 12, .inl (upd (((msN nb ni (t.toInt - now.toInt).toNat now (L, J, ed)).2.1 8)) k x91))) := by rw [eg104, va_up_ne _ _ (hz.ne 8 7)]; exact h101
                have h108 : g104 (ad 9) = some (.inl (dA 0, 12, .inl (((msN nb ni (t.toInt - now.toInt).toNat now (L, J, ed)).2.1 9)))) := by rw [eg104, va_up_ne _ _ (hz.ne 9 7)]; exact h102
                have h109 : g104 (ad 7) = some (.inl (dA 2, 12, .inl (upd (((msN nb ni (t.toInt - now.toInt).toNat now (L, J, ed)).2.1 7)) k on))) := by rw [eg104]; exact va_up_self _ _ _
                refine go_aload_n X (z := 0) d_M_stop_127 rfl rfl ?_
                refine go_get X u_M rfl 9 (by decide) gm_fl_M_30 rfl d_M_stop_128 h105 rfl ?_
                refine go_iload_n X (z := 1) d_M_stop_131 rfl rfl ?_
                refine go_dup2 X d_M_stop_132 rfl rfl ?_
                refine go_iald X 0 rfl d_M_stop_133 h108 (vp_in_nI (by omega) (by decide)) ?_
                rw [nI_clamp (show k < 2 ^ 31 by omega)]
                refine go_iconst X (v := 1) d_M_stop_134 (by decide) ?_
                refine go_iadd X d_M_stop_135 ?_
                refine go_topi (fun x110 ex110 => ?_)
                refine go_iast X 0 rfl d_M_stop_136 h108 (vp_in_nI (by omega) (by decide)) ?_
                refine go_gen (fun g111 eg111 => ?_)
                have eg111 : g111 = va_up g104 (ad 9) (some (.inl (dA 0, 12, .inl (upd (((msN nb ni (t.toInt - now.toInt).toNat now (L, J, ed)).2.1 9)) k x110)))) := by rw [eg111, nI_clamp (show k < 2 ^ 31 by omega)]
                have h112 : g111 (ad 0) = some (.inr (4, [.int 0, .long t, .int ((nI nb)), .ref (ad 3), .ref (ad 4), .ref (ad 5), .ref (ad 6), .ref (ad 7), .ref (ad 8), .ref (ad 9), .ref (ad 10), .int ((nI ni)), .ref (ad 12), .ref (ad 13), .ref (ad 14), .ref (ad 15), .ref (ad 16), .ref (ad 17), .ref (ad 18), .int ((nI (msN nb ni (t.toInt - now.toInt).toNat now (L, J, ed)).2.2)), .int kn, .ref (ad 21), .ref (ad 22), .ref (ad 23), .ref (ad 24)])) := by rw [eg111, va_up_ne _ _ (hz.ne 0 9)]; exact h105
                have h113 : g111 (ad 6) = some (.inl (dA 1, 12, .inr (.inl (vp_updL (((msN nb ni (t.toInt - now.toInt).toNat now (L, J, ed)).1 6)) k t)))) := by rw [eg111, va_up_ne _ _ (hz.ne 6 9)]; exact h106
                have h114 : g111 (ad 7) = some (.inl (dA 2, 12, .inl (upd (((msN nb ni (t.toInt - now.toInt).toNat now (L, J, ed)).2.1 7)) k on))) := by rw [eg111, va_up_ne _ _ (hz.ne 7 9)]; exact h109
                have h115 : g111 (ad 8) = some (.inl (dA 0, 12, .inl (upd (((msN nb ni (t.toInt - now.toInt).toNat now (L, J, ed)).2.1 8)) k x91))) := by rw [eg111, va_up_ne _ _ (hz.ne 8 9)]; exact h107
                have h116 : g111 (ad 9) = some (.inl (dA 0, 12, .inl (upd (((msN nb ni (t.toInt - now.toInt).toNat now (L, J, ed)).2.1 9)) k x110))) := by rw [eg111]; exact va_up_self _ _ _
                refine go_iconst X (v := 1) d_M_stop_137 (by decide) ?_
                subst ex91 ex110
                have hM : MRep dA ad g111 0 t nb ni (msN nb ni (t.toInt - now.toInt).toNat now (L, J, ed)).2.2 kn (va_up (msN nb ni (t.toInt - now.toInt).toNat now (L, J, ed)).1 6 (vp_updL ((msN nb ni (t.toInt - now.toInt).toNat now (L, J, ed)).1 6) k t)) (va_up (va_up (va_up (msN nb ni (t.toInt - now.toInt).toNat now (L, J, ed)).2.1 8 (upd ((msN nb ni (t.toInt - now.toInt).toNat now (L, J, ed)).2.1 8) k (bfM (msN nb ni (t.toInt - now.toInt).toNat now (L, J, ed)).1 (msN nb ni (t.toInt - now.toInt).toNat now (L, J, ed)).2.1 k t))) 7 (upd ((msN nb ni (t.toInt - now.toInt).toNat now (L, J, ed)).2.1 7) k on)) 9 (upd ((msN nb ni (t.toInt - now.toInt).toNat now (L, J, ed)).2.1 9) k ((msN nb ni (t.toInt - now.toInt).toNat now (L, J, ed)).2.1 9 k + 1))) := by
                  unfold bfM
                  rw [if_neg c89, if_pos c90, eg111, eg104, eg98, eg92]
                  exact (((hz.setJ 8 _).setL 6 _).setZ 7 _).setJ 9 _
                exact go_retI X hr hlk d_M_stop_138 (Or.inr ⟨k, hk, rfl, Or.inr (Or.inr ⟨c4, Or.inr c87, Or.inr ⟨c88, rfl, hM, hF1.trans (hzF.trans (by rw [eg111, eg104, eg98, eg92]; exact (MFr.up rfl).trans ((MFr.up rfl).trans ((MFr.up rfl).trans (MFr.up rfl)))))⟩⟩)⟩)
              · refine go_aload_n X (z := 0) d_M_stop_95 rfl rfl ?_
                refine go_iload_n X (z := 1) d_M_stop_96 rfl rfl ?_
                refine go_lload_n X (z := 3) d_M_stop_97 rfl rfl ?_
                refine go_lconst X (v := 1) d_M_stop_98 (by decide) ?_
                refine go_lsub X d_M_stop_99 ?_
                refine go_callI_V X (As := [.int ((nI k)), .long (t - 1)]) (rest := [.int ((nI k)), .ref (ad 8)]) (c_M_gearAt hz (b := k) (by omega) (t - 1)) gm_ml_M_107 cw_M_gearAt ⟨by decide, by decide⟩ rfl hz.this rfl rfl (Nat.le_of_ble_eq_true rfl) d_M_stop_100 ⟨by decide, by decide⟩ (fun ru117 gu117 hu117 => ?_)
                obtain ⟨rfl, rfl⟩ := hu117
                refine go_goto X (tgt := 112) d_M_stop_103 rfl ?_
                refine go_topi (fun x118 ex118 => ?_)
                refine go_iast X 0 rfl d_M_stop_112 hz.a8 (vp_in_nI (by omega) (by decide)) ?_
                refine go_gen (fun g119 eg119 => ?_)
                have eg119 : g119 = va_up gz (ad 8) (some (.inl (dA 0, 12, .inl (upd (((msN nb ni (t.toInt - now.toInt).toNat now (L, J, ed)).2.1 8)) k x118)))) := by rw [eg119, nI_clamp (show k < 2 ^ 31 by omega)]
                have h120 : g119 (ad 0) = some (.inr (4, [.int 0, .long t, .int ((nI nb)), .ref (ad 3), .ref (ad 4), .ref (ad 5), .ref (ad 6), .ref (ad 7), .ref (ad 8), .ref (ad 9), .ref (ad 10), .int ((nI ni)), .ref (ad 12), .ref (ad 13), .ref (ad 14), .ref (ad 15), .ref (ad 16), .ref (ad 17), .ref (ad 18), .int ((nI (msN nb ni (t.toInt - now.toInt).toNat now (L, J, ed)).2.2)), .int kn, .ref (ad 21), .ref (ad 22), .ref (ad 23), .ref (ad 24)])) := by rw [eg119, va_up_ne _ _ (hz.ne 0 8)]; exact hz.this
                have h121 : g119 (ad 6) = some (.inl (dA 1, 12, .inr (.inl (((msN nb ni (t.toInt - now.toInt).toNat now (L, J, ed)).1 6))))) := by rw [eg119, va_up_ne _ _ (hz.ne 6 8)]; exact hz.a6
                have h122 : g119 (ad 7) = some (.inl (dA 2, 12, .inl (((msN nb ni (t.toInt - now.toInt).toNat now (L, J, ed)).2.1 7)))) := by rw [eg119, va_up_ne _ _ (hz.ne 7 8)]; exact hz.a7
                have h123 : g119 (ad 9) = some (.inl (dA 0, 12, .inl (((msN nb ni (t.toInt - now.toInt).toNat now (L, J, ed)).2.1 9)))) := by rw [eg119, va_up_ne _ _ (hz.ne 9 8)]; exact hz.a9
                have h124 : g119 (ad 8) = some (.inl (dA 0, 12, .inl (upd (((msN nb ni (t.toInt - now.toInt).toNat now (L, J, ed)).2.1 8)) k x118))) := by rw [eg119]; exact va_up_self _ _ _
                refine go_aload_n X (z := 0) d_M_stop_113 rfl rfl ?_
                refine go_get X u_M rfl 6 (by decide) gm_fl_M_20 rfl d_M_stop_114 h120 rfl ?_
                refine go_iload_n X (z := 1) d_M_stop_117 rfl rfl ?_
                refine go_lload_n X (z := 3) d_M_stop_118 rfl rfl ?_
                refine go_last X 1 rfl d_M_stop_119 h121 (vp_in_nI (by omega) (by decide)) ?_
                refine go_gen (fun g125 eg125 => ?_)
                have eg125 : g125 = va_up g119 (ad 6) (some (.inl (dA 1, 12, .inr (.inl (vp_updL (((msN nb ni (t.toInt - now.toInt).toNat now (L, J, ed)).1 6)) k t))))) := by rw [eg125, nI_clamp (show k < 2 ^ 31 by omega)]
                have h126 : g125 (ad 0) = some (.inr (4, [.int 0, .long t, .int ((nI nb)), .ref (ad 3), .ref (ad 4), .ref (ad 5), .ref (ad 6), .ref (ad 7), .ref (ad 8), .ref (ad 9), .ref (ad 10), .int ((nI ni)), .ref (ad 12), .ref (ad 13), .ref (ad 14), .ref (ad 15), .ref (ad 16), .ref (ad 17), .ref (ad 18), .int ((nI (msN nb ni (t.toInt - now.toInt).toNat now (L, J, ed)).2.2)), .int kn, .ref (ad 21), .ref (ad 22), .ref (ad 23), .ref (ad 24)])) := by rw [eg125, va_up_ne _ _ (hz.ne 0 6)]; exact h120
                have h127 : g125 (ad 7) = some (.inl (dA 2, 12, .inl (((msN nb ni (t.toInt - now.toInt).toNat now (L, J, ed)).2.1 7)))) := by rw [eg125, va_up_ne _ _ (hz.ne 7 6)]; exact h122
                have h128 : g125 (ad 8) = some (.inl (dA 0, 12, .inl (upd (((msN nb ni (t.toInt - now.toInt).toNat now (L, J, ed)).2.1 8)) k x118))) := by rw [eg125, va_up_ne _ _ (hz.ne 8 6)]; exact h124
                have h129 : g125 (ad 9) = some (.inl (dA 0, 12, .inl (((msN nb ni (t.toInt - now.toInt).toNat now (L, J, ed)).2.1 9)))) := by rw [eg125, va_up_ne _ _ (hz.ne 9 6)]; exact h123
                have h130 : g125 (ad 6) = some (.inl (dA 1, 12, .inr (.inl (vp_updL (((msN nb ni (t.toInt - now.toInt).toNat now (L, J, ed)).1 6)) k t)))) := by rw [eg125]; exact va_up_self _ _ _
                refine go_aload_n X (z := 0) d_M_stop_120 rfl rfl ?_
                refine go_get X u_M rfl 7 (by decide) gm_fl_M_23 rfl d_M_stop_121 h126 rfl ?_
                refine go_iload_n X (z := 1) d_M_stop_124 rfl rfl ?_
                refine go_iload_n X (z := 2) d_M_stop_125 rfl rfl ?_
                refine go_zast X 2 rfl d_M_stop_126 h127 (vp_in_nI (by omega) (by decide)) ?_
                refine go_gen (fun g131 eg131 => ?_)
                have eg131 : g131 = va_up g125 (ad 7) (some (.inl (dA 2, 12, .inl (upd (((msN nb ni (t.toInt - now.toInt).toNat now (L, J, ed)).2.1 7)) k on)))) := by rw [eg131, nI_clamp (show k < 2 ^ 31 by omega), hon]
                have h132 : g131 (ad 0) = some (.inr (4, [.int 0, .long t, .int ((nI nb)), .ref (ad 3), .ref (ad 4), .ref (ad 5), .ref (ad 6), .ref (ad 7), .ref (ad 8), .ref (ad 9), .ref (ad 10), .int ((nI ni)), .ref (ad 12), .ref (ad 13), .ref (ad 14), .ref (ad 15), .ref (ad 16), .ref (ad 17), .ref (ad 18), .int ((nI (msN nb ni (t.toInt - now.toInt).toNat now (L, J, ed)).2.2)), .int kn, .ref (ad 21), .ref (ad 22), .ref (ad 23), .ref (ad 24)])) := by rw [eg131, va_up_ne _ _ (hz.ne 0 7)]; exact h126
                have h133 : g131 (ad 6) = some (.inl (dA 1, 12, .inr (.inl (vp_updL (((msN nb ni (t.toInt - now.toInt).toNat now (L, J, ed)).1 6)) k t)))) := by rw [eg131, va_up_ne _ _ (hz.ne 6 7)]; exact h130
                have h134 : g131 (ad 8) = some (.inl (dA 0, 12, .inl (upd (((msN nb ni (t.toInt - now.toInt).toNat now (L, J, ed)).2.1 8)) k x118))) := by rw [eg131, va_up_ne _ _ (hz.ne 8 7)]; exact h128
                have h135 : g131 (ad 9) = some (.inl (dA 0, 12, .inl (((msN nb ni (t.toInt - now.toInt).toNat now (L, J, ed)).2.1 9)))) := by rw [eg131, va_up_ne _ _ (hz.ne 9 7)]; exact h129
                have h136 : g131 (ad 7) = some (.inl (dA 2, 12, .inl (upd (((msN nb ni (t.toInt - now.toInt).toNat now (L, J, ed)).2.1 7)) k on))) := by rw [eg131]; exact va_up_self _ _ _
                refine go_aload_n X (z := 0) d_M_stop_127 rfl rfl ?_
                refine go_get X u_M rfl 9 (by decide) gm_fl_M_30 rfl d_M_stop_128 h132 rfl ?_
                refine go_iload_n X (z := 1) d_M_stop_131 rfl rfl ?_
                refine go_dup2 X d_M_stop_132 rfl rfl ?_
                refine go_iald X 0 rfl d_M_stop_133 h135 (vp_in_nI (by omega) (by decide)) ?_
                rw [nI_clamp (show k < 2 ^ 31 by omega)]
                refine go_iconst X (v := 1) d_M_stop_134 (by decide) ?_
                refine go_iadd X d_M_stop_135 ?_
                refine go_topi (fun x137 ex137 => ?_)
                refine go_iast X 0 rfl d_M_stop_136 h135 (vp_in_nI (by omega) (by decide)) ?_
                refine go_gen (fun g138 eg138 => ?_)
                have eg138 : g138 = va_up g131 (ad 9) (some (.inl (dA 0, 12, .inl (upd (((msN nb ni (t.toInt - now.toInt).toNat now (L, J, ed)).2.1 9)) k x137)))) := by rw [eg138, nI_clamp (show k < 2 ^ 31 by omega)]
                have h139 : g138 (ad 0) = some (.inr (4, [.int 0, .long t, .int ((nI nb)), .ref (ad 3), .ref (ad 4), .ref (ad 5), .ref (ad 6), .ref (ad 7), .ref (ad 8), .ref (ad 9), .ref (ad 10), .int ((nI ni)), .ref (ad 12), .ref (ad 13), .ref (ad 14), .ref (ad 15), .ref (ad 16), .ref (ad 17), .ref (ad 18), .int ((nI (msN nb ni (t.toInt - now.toInt).toNat now (L, J, ed)).2.2)), .int kn, .ref (ad 21), .ref (ad 22), .ref (ad 23), .ref (ad 24)])) := by rw [eg138, va_up_ne _ _ (hz.ne 0 9)]; exact h132
                have h140 : g138 (ad 6) = some (.inl (dA 1, 12, .inr (.inl (vp_updL (((msN nb ni (t.toInt - now.toInt).toNat now (L, J, ed)).1 6)) k t)))) := by rw [eg138, va_up_ne _ _ (hz.ne 6 9)]; exact h133
                have h141 : g138 (ad 7) = some (.inl (dA 2, 12, .inl (upd (((msN nb ni (t.toInt - now.toInt).toNat now (L, J, ed)).2.1 7)) k on))) := by rw [eg138, va_up_ne _ _ (hz.ne 7 9)]; exact h136
                have h142 : g138 (ad 8) = some (.inl (dA 0, 12, .inl (upd (((msN nb ni (t.toInt - now.toInt).toNat now (L, J, ed)).2.1 8)) k x118))) := by rw [eg138, va_up_ne _ _ (hz.ne 8 9)]; exact h134
                have h143 : g138 (ad 9) = some (.inl (dA 0, 12, .inl (upd (((msN nb ni (t.toInt - now.toInt).toNat now (L, J, ed)).2.1 9)) k x137))) := by rw [eg138]; exact va_up_self _ _ _
                refine go_iconst X (v := 1) d_M_stop_137 (by decide) ?_
                subst ex118 ex137
                have hM : MRep dA ad g138 0 t nb ni (msN nb ni (t.toInt - now.toInt).toNat now (L, J, ed)).2.2 kn (va_up (msN nb ni (t.toInt - now.toInt).toNat now (L, J, ed)).1 6 (vp_updL ((msN nb ni (t.toInt - now.toInt).toNat now (L, J, ed)).1 6) k t)) (va_up (va_up (va_up (msN nb ni (t.toInt - now.toInt).toNat now (L, J, ed)).2.1 8 (upd ((msN nb ni (t.toInt - now.toInt).toNat now (L, J, ed)).2.1 8) k (bfM (msN nb ni (t.toInt - now.toInt).toNat now (L, J, ed)).1 (msN nb ni (t.toInt - now.toInt).toNat now (L, J, ed)).2.1 k t))) 7 (upd ((msN nb ni (t.toInt - now.toInt).toNat now (L, J, ed)).2.1 7) k on)) 9 (upd ((msN nb ni (t.toInt - now.toInt).toNat now (L, J, ed)).2.1 9) k ((msN nb ni (t.toInt - now.toInt).toNat now (L, J, ed)).2.1 9 k + 1))) := by
                  unfold bfM
                  rw [if_neg c89, if_neg c90, eg138, eg131, eg125, eg119]
                  exact (((hz.setJ 8 _).setL 6 _).setZ 7 _).setJ 9 _
                exact go_retI X hr hlk d_M_stop_138 (Or.inr ⟨k, hk, rfl, Or.inr (Or.inr ⟨c4, Or.inr c87, Or.inr ⟨c88, rfl, hM, hF1.trans (hzF.trans (by rw [eg138, eg131, eg125, eg119]; exact (MFr.up rfl).trans ((MFr.up rfl).trans ((MFr.up rfl).trans (MFr.up rfl)))))⟩⟩)⟩)
            · refine go_bipush X (v := 8) d_M_stop_79 (by decide) ?_
              refine go_goto X (tgt := 112) d_M_stop_81 rfl ?_
              refine go_iast X 0 rfl d_M_stop_112 hz.a8 (vp_in_nI (by omega) (by decide)) ?_
              refine go_gen (fun g144 eg144 => ?_)
              have eg144 : g144 = va_up gz (ad 8) (some (.inl (dA 0, 12, .inl (upd (((msN nb ni (t.toInt - now.toInt).toNat now (L, J, ed)).2.1 8)) k 8)))) := by rw [eg144, nI_clamp (show k < 2 ^ 31 by omega)]
              have h145 : g144 (ad 0) = some (.inr (4, [.int 0, .long t, .int ((nI nb)), .ref (ad 3), .ref (ad 4), .ref (ad 5), .ref (ad 6), .ref (ad 7), .ref (ad 8), .ref (ad 9), .ref (ad 10), .int ((nI ni)), .ref (ad 12), .ref (ad 13), .ref (ad 14), .ref (ad 15), .ref (ad 16), .ref (ad 17), .ref (ad 18), .int ((nI (msN nb ni (t.toInt - now.toInt).toNat now (L, J, ed)).2.2)), .int kn, .ref (ad 21), .ref (ad 22), .ref (ad 23), .ref (ad 24)])) := by rw [eg144, va_up_ne _ _ (hz.ne 0 8)]; exact hz.this
              have h146 : g144 (ad 6) = some (.inl (dA 1, 12, .inr (.inl (((msN nb ni (t.toInt - now.toInt).toNat now (L, J, ed)).1 6))))) := by rw [eg144, va_up_ne _ _ (hz.ne 6 8)]; exact hz.a6
              have h147 : g144 (ad 7) = some (.inl (dA 2, 12, .inl (((msN nb ni (t.toInt - now.toInt).toNat now (L, J, ed)).2.1 7)))) := by rw [eg144, va_up_ne _ _ (hz.ne 7 8)]; exact hz.a7
              have h148 : g144 (ad 9) = some (.inl (dA 0, 12, .inl (((msN nb ni (t.toInt - now.toInt).toNat now (L, J, ed)).2.1 9)))) := by rw [eg144, va_up_ne _ _ (hz.ne 9 8)]; exact hz.a9
              have h149 : g144 (ad 8) = some (.inl (dA 0, 12, .inl (upd (((msN nb ni (t.toInt - now.toInt).toNat now (L, J, ed)).2.1 8)) k 8))) := by rw [eg144]; exact va_up_self _ _ _
              refine go_aload_n X (z := 0) d_M_stop_113 rfl rfl ?_
              refine go_get X u_M rfl 6 (by decide) gm_fl_M_20 rfl d_M_stop_114 h145 rfl ?_
              refine go_iload_n X (z := 1) d_M_stop_117 rfl rfl ?_
              refine go_lload_n X (z := 3) d_M_stop_118 rfl rfl ?_
              refine go_last X 1 rfl d_M_stop_119 h146 (vp_in_nI (by omega) (by decide)) ?_
              refine go_gen (fun g150 eg150 => ?_)
              have eg150 : g150 = va_up g144 (ad 6) (some (.inl (dA 1, 12, .inr (.inl (vp_updL (((msN nb ni (t.toInt - now.toInt).toNat now (L, J, ed)).1 6)) k t))))) := by rw [eg150, nI_clamp (show k < 2 ^ 31 by omega)]
              have h151 : g150 (ad 0) = some (.inr (4, [.int 0, .long t, .int ((nI nb)), .ref (ad 3), .ref (ad 4), .ref (ad 5), .ref (ad 6), .ref (ad 7), .ref (ad 8), .ref (ad 9), .ref (ad 10), .int ((nI ni)), .ref (ad 12), .ref (ad 13), .ref (ad 14), .ref (ad 15), .ref (ad 16), .ref (ad 17), .ref (ad 18), .int ((nI (msN nb ni (t.toInt - now.toInt).toNat now (L, J, ed)).2.2)), .int kn, .ref (ad 21), .ref (ad 22), .ref (ad 23), .ref (ad 24)])) := by rw [eg150, va_up_ne _ _ (hz.ne 0 6)]; exact h145
              have h152 : g150 (ad 7) = some (.inl (dA 2, 12, .inl (((msN nb ni (t.toInt - now.toInt).toNat now (L, J, ed)).2.1 7)))) := by rw [eg150, va_up_ne _ _ (hz.ne 7 6)]; exact h147
              have h153 : g150 (ad 8) = some (.inl (dA 0, 12, .inl (upd (((msN nb ni (t.toInt - now.toInt).toNat now (L, J, ed)).2.1 8)) k 8))) := by rw [eg150, va_up_ne _ _ (hz.ne 8 6)]; exact h149
              have h154 : g150 (ad 9) = some (.inl (dA 0, 12, .inl (((msN nb ni (t.toInt - now.toInt).toNat now (L, J, ed)).2.1 9)))) := by rw [eg150, va_up_ne _ _ (hz.ne 9 6)]; exact h148
              have h155 : g150 (ad 6) = some (.inl (dA 1, 12, .inr (.inl (vp_updL (((msN nb ni (t.toInt - now.toInt).toNat now (L, J, ed)).1 6)) k t)))) := by rw [eg150]; exact va_up_self _ _ _
              refine go_aload_n X (z := 0) d_M_stop_120 rfl rfl ?_
              refine go_get X u_M rfl 7 (by decide) gm_fl_M_23 rfl d_M_stop_121 h151 rfl ?_
              refine go_iload_n X (z := 1) d_M_stop_124 rfl rfl ?_
              refine go_iload_n X (z := 2) d_M_stop_125 rfl rfl ?_
              refine go_zast X 2 rfl d_M_stop_126 h152 (vp_in_nI (by omega) (by decide)) ?_
              refine go_gen (fun g156 eg156 => ?_)
              have eg156 : g156 = va_up g150 (ad 7) (some (.inl (dA 2, 12, .inl (upd (((msN nb ni (t.toInt - now.toInt).toNat now (L, J, ed)).2.1 7)) k on)))) := by rw [eg156, nI_clamp (show k < 2 ^ 31 by omega), hon]
              have h157 : g156 (ad 0) = some (.inr (4, [.int 0, .long t, .int ((nI nb)), .ref (ad 3), .ref (ad 4), .ref (ad 5), .ref (ad 6), .ref (ad 7), .ref (ad 8), .ref (ad 9), .ref (ad 10), .int ((nI ni)), .ref (ad 12), .ref (ad 13), .ref (ad 14), .ref (ad 15), .ref (ad 16), .ref (ad 17), .ref (ad 18), .int ((nI (msN nb ni (t.toInt - now.toInt).toNat now (L, J, ed)).2.2)), .int kn, .ref (ad 21), .ref (ad 22), .ref (ad 23), .ref (ad 24)])) := by rw [eg156, va_up_ne _ _ (hz.ne 0 7)]; exact h151
              have h158 : g156 (ad 6) = some (.inl (dA 1, 12, .inr (.inl (vp_updL (((msN nb ni (t.toInt - now.toInt).toNat now (L, J, ed)).1 6)) k t)))) := by rw [eg156, va_up_ne _ _ (hz.ne 6 7)]; exact h155
              have h159 : g156 (ad 8) = some (.inl (dA 0, 12, .inl (upd (((msN nb ni (t.toInt - now.toInt).toNat now (L, J, ed)).2.1 8)) k 8))) := by rw [eg156, va_up_ne _ _ (hz.ne 8 7)]; exact h153
              have h160 : g156 (ad 9) = some (.inl (dA 0, 12, .inl (((msN nb ni (t.toInt - now.toInt).toNat now (L, J, ed)).2.1 9)))) := by rw [eg156, va_up_ne _ _ (hz.ne 9 7)]; exact h154
              have h161 : g156 (ad 7) = some (.inl (dA 2, 12, .inl (upd (((msN nb ni (t.toInt - now.toInt).toNat now (L, J, ed)).2.1 7)) k on))) := by rw [eg156]; exact va_up_self _ _ _
              refine go_aload_n X (z := 0) d_M_stop_127 rfl rfl ?_
              refine go_get X u_M rfl 9 (by decide) gm_fl_M_30 rfl d_M_stop_128 h157 rfl ?_
              refine go_iload_n X (z := 1) d_M_stop_131 rfl rfl ?_
              refine go_dup2 X d_M_stop_132 rfl rfl ?_
              refine go_iald X 0 rfl d_M_stop_133 h160 (vp_in_nI (by omega) (by decide)) ?_
              rw [nI_clamp (show k < 2 ^ 31 by omega)]
              refine go_iconst X (v := 1) d_M_stop_134 (by decide) ?_
              refine go_iadd X d_M_stop_135 ?_
              refine go_topi (fun x162 ex162 => ?_)
              refine go_iast X 0 rfl d_M_stop_136 h160 (vp_in_nI (by omega) (by decide)) ?_
              refine go_gen (fun g163 eg163 => ?_)
              have eg163 : g163 = va_up g156 (ad 9) (some (.inl (dA 0, 12, .inl (upd (((msN nb ni (t.toInt - now.toInt).toNat now (L, J, ed)).2.1 9)) k x162)))) := by rw [eg163, nI_clamp (show k < 2 ^ 31 by omega)]
              have h164 : g163 (ad 0) = some (.inr (4, [.int 0, .long t, .int ((nI nb)), .ref (ad 3), .ref (ad 4), .ref (ad 5), .ref (ad 6), .ref (ad 7), .ref (ad 8), .ref (ad 9), .ref (ad 10), .int ((nI ni)), .ref (ad 12), .ref (ad 13), .ref (ad 14), .ref (ad 15), .ref (ad 16), .ref (ad 17), .ref (ad 18), .int ((nI (msN nb ni (t.toInt - now.toInt).toNat now (L, J, ed)).2.2)), .int kn, .ref (ad 21), .ref (ad 22), .ref (ad 23), .ref (ad 24)])) := by rw [eg163, va_up_ne _ _ (hz.ne 0 9)]; exact h157
              have h165 : g163 (ad 6) = some (.inl (dA 1, 12, .inr (.inl (vp_updL (((msN nb ni (t.toInt - now.toInt).toNat now (L, J, ed)).1 6)) k t)))) := by rw [eg163, va_up_ne _ _ (hz.ne 6 9)]; exact h158
              have h166 : g163 (ad 7) = some (.inl (dA 2, 12, .inl (upd (((msN nb ni (t.toInt - now.toInt).toNat now (L, J, ed)).2.1 7)) k on))) := by rw [eg163, va_up_ne _ _ (hz.ne 7 9)]; exact h161
              have h167 : g163 (ad 8) = some (.inl (dA 0, 12, .inl (upd (((msN nb ni (t.toInt - now.toInt).toNat now (L, J, ed)).2.1 8)) k 8))) := by rw [eg163, va_up_ne _ _ (hz.ne 8 9)]; exact h159
              have h168 : g163 (ad 9) = some (.inl (dA 0, 12, .inl (upd (((msN nb ni (t.toInt - now.toInt).toNat now (L, J, ed)).2.1 9)) k x162))) := by rw [eg163]; exact va_up_self _ _ _
              refine go_iconst X (v := 1) d_M_stop_137 (by decide) ?_
              subst ex162
              have hM : MRep dA ad g163 0 t nb ni (msN nb ni (t.toInt - now.toInt).toNat now (L, J, ed)).2.2 kn (va_up (msN nb ni (t.toInt - now.toInt).toNat now (L, J, ed)).1 6 (vp_updL ((msN nb ni (t.toInt - now.toInt).toNat now (L, J, ed)).1 6) k t)) (va_up (va_up (va_up (msN nb ni (t.toInt - now.toInt).toNat now (L, J, ed)).2.1 8 (upd ((msN nb ni (t.toInt - now.toInt).toNat now (L, J, ed)).2.1 8) k (bfM (msN nb ni (t.toInt - now.toInt).toNat now (L, J, ed)).1 (msN nb ni (t.toInt - now.toInt).toNat now (L, J, ed)).2.1 k t))) 7 (upd ((msN nb ni (t.toInt - now.toInt).toNat now (L, J, ed)).2.1 7) k on)) 9 (upd ((msN nb ni (t.toInt - now.toInt).toNat now (L, J, ed)).2.1 9) k ((msN nb ni (t.toInt - now.toInt).toNat now (L, J, ed)).2.1 9 k + 1))) := by
                unfold bfM
                rw [if_pos c89, eg163, eg156, eg150, eg144]
                exact (((hz.setJ 8 _).setL 6 _).setZ 7 _).setJ 9 _
              exact go_retI X hr hlk d_M_stop_138 (Or.inr ⟨k, hk, rfl, Or.inr (Or.inr ⟨c4, Or.inr c87, Or.inr ⟨c88, rfl, hM, hF1.trans (hzF.trans (by rw [eg163, eg156, eg150, eg144]; exact (MFr.up rfl).trans ((MFr.up rfl).trans ((MFr.up rfl).trans (MFr.up rfl)))))⟩⟩)⟩)
          · refine go_iconst X (v := 0) d_M_stop_66 (by decide) ?_
            exact go_retI X hr hlk d_M_stop_67 (Or.inr ⟨k, hk, rfl, Or.inr (Or.inr ⟨c4, Or.inr c87, Or.inl ⟨c88, rfl, hz, hF1.trans hzF⟩⟩)⟩)
        · refine go_bipush X (v := (-14)) d_M_stop_48 (by decide) ?_
          exact go_retI X hr hlk d_M_stop_50 (Or.inr ⟨k, hk, rfl, Or.inr (Or.inl ⟨⟨h1, hF1⟩, c4, c5, c87, rfl⟩)⟩)
    · refine go_bipush X (v := (-12)) d_M_stop_24 (by decide) ?_
      exact go_retI X hr hlk d_M_stop_26 (Or.inr ⟨k, hk, rfl, Or.inl ⟨⟨h1, hF1⟩, c4, rfl⟩⟩)
  · refine go_bipush X (v := (-11)) d_M_stop_13 (by decide) ?_
    exact go_retI X hr hlk d_M_stop_15 (Or.inl ⟨⟨h1, hF1⟩, isBF_0 c2 (by have := hW.1; omega), rfl⟩)
end M4
end
