section
-- ===== PART A: goes FIRST, ahead of the names: the tables' words, and 'selects' of the private methods out of them =====
/-- a private method of a class that the tables say can be made, by its rows of tables_1 -/
def lw_okq (q : MethodName × Nat) : Prop := (q.1.cls ≠ "java/lang/invoke/MethodHandle" ∧ q.1.cls ≠ "java/lang/invoke/VarHandle") ∧ Cond.instantiable q.1.cls q.2 ∈ tables_1 ∧ Cond.privateMethod q.1 ∈ tables_1 ∧ Cond.instanceMethod q.1 ∈ tables_1
theorem lw_p0 : lw_okq (⟨"BeltSteps", "beltNumbered", "(I)LBeltSteps$Belt;"⟩, 6) := ⟨⟨by decide +kernel, by decide +kernel⟩, List.mem_of_getElem? (i := 8) (by decide +kernel), List.mem_of_getElem? (i := 135) (by decide +kernel), List.mem_of_getElem? (i := 136) (by decide +kernel)⟩
theorem lw_p1 : lw_okq (⟨"BeltSteps", "isNowOrLater", "(J)Z"⟩, 6) := ⟨⟨by decide +kernel, by decide +kernel⟩, List.mem_of_getElem? (i := 8) (by decide +kernel), List.mem_of_getElem? (i := 143) (by decide +kernel), List.mem_of_getElem? (i := 144) (by decide +kernel)⟩
theorem lw_p2 : lw_okq (⟨"BeltSteps", "passTo", "(J)V"⟩, 6) := ⟨⟨by decide +kernel, by decide +kernel⟩, List.mem_of_getElem? (i := 8) (by decide +kernel), List.mem_of_getElem? (i := 214) (by decide +kernel), List.mem_of_getElem? (i := 215) (by decide +kernel)⟩
theorem lw_p3 : lw_okq (⟨"BeltSteps", "nextTurn", "()J"⟩, 6) := ⟨⟨by decide +kernel, by decide +kernel⟩, List.mem_of_getElem? (i := 8) (by decide +kernel), List.mem_of_getElem? (i := 219) (by decide +kernel), List.mem_of_getElem? (i := 220) (by decide +kernel)⟩
theorem lw_p4 : lw_okq (⟨"BeltSteps", "moveItems", "(J)V"⟩, 6) := ⟨⟨by decide +kernel, by decide +kernel⟩, List.mem_of_getElem? (i := 8) (by decide +kernel), List.mem_of_getElem? (i := 224) (by decide +kernel), List.mem_of_getElem? (i := 225) (by decide +kernel)⟩
theorem lw_p5 : lw_okq (⟨"BeltSteps", "tellEdges", "(J)V"⟩, 6) := ⟨⟨by decide +kernel, by decide +kernel⟩, List.mem_of_getElem? (i := 8) (by decide +kernel), List.mem_of_getElem? (i := 234) (by decide +kernel), List.mem_of_getElem? (i := 235) (by decide +kernel)⟩
theorem lw_p6 : lw_okq (⟨"BeltSteps", "tellEdgesOf", "(LBeltSteps$Item;J)V"⟩, 6) := ⟨⟨by decide +kernel, by decide +kernel⟩, List.mem_of_getElem? (i := 8) (by decide +kernel), List.mem_of_getElem? (i := 238) (by decide +kernel), List.mem_of_getElem? (i := 239) (by decide +kernel)⟩
theorem lw_p7 : lw_okq (⟨"BeltSteps", "isShort", "(LBeltSteps$Item;J)Z"⟩, 6) := ⟨⟨by decide +kernel, by decide +kernel⟩, List.mem_of_getElem? (i := 8) (by decide +kernel), List.mem_of_getElem? (i := 243) (by decide +kernel), List.mem_of_getElem? (i := 244) (by decide +kernel)⟩
theorem lw_p8 : lw_okq (⟨"BeltSteps", "aimItemsOn", "(LBeltSteps$Belt;)V"⟩, 6) := ⟨⟨by decide +kernel, by decide +kernel⟩, List.mem_of_getElem? (i := 8) (by decide +kernel), List.mem_of_getElem? (i := 283) (by decide +kernel), List.mem_of_getElem? (i := 284) (by decide +kernel)⟩
theorem lw_p9 : lw_okq (⟨"BeltSteps", "itemNumbered", "(I)LBeltSteps$Item;"⟩, 6) := ⟨⟨by decide +kernel, by decide +kernel⟩, List.mem_of_getElem? (i := 8) (by decide +kernel), List.mem_of_getElem? (i := 291) (by decide +kernel), List.mem_of_getElem? (i := 292) (by decide +kernel)⟩
theorem lw_p10 : lw_okq (⟨"BeltStepsModel", "isBelt", "(I)Z"⟩, 25) := ⟨⟨by decide +kernel, by decide +kernel⟩, List.mem_of_getElem? (i := 330) (by decide +kernel), List.mem_of_getElem? (i := 427) (by decide +kernel), List.mem_of_getElem? (i := 428) (by decide +kernel)⟩
theorem lw_p11 : lw_okq (⟨"BeltStepsModel", "isTime", "(J)Z"⟩, 25) := ⟨⟨by decide +kernel, by decide +kernel⟩, List.mem_of_getElem? (i := 330) (by decide +kernel), List.mem_of_getElem? (i := 435) (by decide +kernel), List.mem_of_getElem? (i := 436) (by decide +kernel)⟩
theorem lw_p12 : lw_okq (⟨"BeltStepsModel", "pass", "(J)V"⟩, 25) := ⟨⟨by decide +kernel, by decide +kernel⟩, List.mem_of_getElem? (i := 330) (by decide +kernel), List.mem_of_getElem? (i := 444) (by decide +kernel), List.mem_of_getElem? (i := 445) (by decide +kernel)⟩
theorem lw_p13 : lw_okq (⟨"BeltStepsModel", "rateAt", "(IJ)J"⟩, 25) := ⟨⟨by decide +kernel, by decide +kernel⟩, List.mem_of_getElem? (i := 330) (by decide +kernel), List.mem_of_getElem? (i := 448) (by decide +kernel), List.mem_of_getElem? (i := 449) (by decide +kernel)⟩
theorem lw_p14 : lw_okq (⟨"BeltStepsModel", "gearAt", "(IJ)I"⟩, 25) := ⟨⟨by decide +kernel, by decide +kernel⟩, List.mem_of_getElem? (i := 330) (by decide +kernel), List.mem_of_getElem? (i := 452) (by decide +kernel), List.mem_of_getElem? (i := 453) (by decide +kernel)⟩
theorem lw_p15 : lw_okq (⟨"BeltStepsModel", "isThere", "(I)Z"⟩, 25) := ⟨⟨by decide +kernel, by decide +kernel⟩, List.mem_of_getElem? (i := 330) (by decide +kernel), List.mem_of_getElem? (i := 458) (by decide +kernel), List.mem_of_getElem? (i := 459) (by decide +kernel)⟩
def lw_privs_1 : List (MethodName × Nat) := [(⟨"BeltSteps", "beltNumbered", "(I)LBeltSteps$Belt;"⟩, 6), (⟨"BeltSteps", "isNowOrLater", "(J)Z"⟩, 6), (⟨"BeltSteps", "passTo", "(J)V"⟩, 6), (⟨"BeltSteps", "nextTurn", "()J"⟩, 6), (⟨"BeltSteps", "moveItems", "(J)V"⟩, 6), (⟨"BeltSteps", "tellEdges", "(J)V"⟩, 6), (⟨"BeltSteps", "tellEdgesOf", "(LBeltSteps$Item;J)V"⟩, 6), (⟨"BeltSteps", "isShort", "(LBeltSteps$Item;J)Z"⟩, 6), (⟨"BeltSteps", "aimItemsOn", "(LBeltSteps$Belt;)V"⟩, 6), (⟨"BeltSteps", "itemNumbered", "(I)LBeltSteps$Item;"⟩, 6), (⟨"BeltStepsModel", "isBelt", "(I)Z"⟩, 25), (⟨"BeltStepsModel", "isTime", "(J)Z"⟩, 25), (⟨"BeltStepsModel", "pass", "(J)V"⟩, 25), (⟨"BeltStepsModel", "rateAt", "(IJ)J"⟩, 25), (⟨"BeltStepsModel", "gearAt", "(IJ)I"⟩, 25), (⟨"BeltStepsModel", "isThere", "(I)Z"⟩, 25)]
theorem lw_r1 : ∀ q ∈ lw_privs_1, lw_okq q := List.forall_mem_cons.mpr ⟨lw_p0, List.forall_mem_cons.mpr ⟨lw_p1, List.forall_mem_cons.mpr ⟨lw_p2, List.forall_mem_cons.mpr ⟨lw_p3, List.forall_mem_cons.mpr ⟨lw_p4, List.forall_mem_cons.mpr ⟨lw_p5, List.forall_mem_cons.mpr ⟨lw_p6, List.forall_mem_cons.mpr ⟨lw_p7, List.forall_mem_cons.mpr ⟨lw_p8, List.forall_mem_cons.mpr ⟨lw_p9, List.forall_mem_cons.mpr ⟨lw_p10, List.forall_mem_cons.mpr ⟨lw_p11, List.forall_mem_cons.mpr ⟨lw_p12, List.forall_mem_cons.mpr ⟨lw_p13, List.forall_mem_cons.mpr ⟨lw_p14, List.forall_mem_cons.mpr ⟨lw_p15, fun _ h => absurd h List.not_mem_nil⟩⟩⟩⟩⟩⟩⟩⟩⟩⟩⟩⟩⟩⟩⟩⟩
theorem lw_p16 : lw_okq (⟨"BeltStepsModel", "goOver", "()V"⟩, 25) := ⟨⟨by decide +kernel, by decide +kernel⟩, List.mem_of_getElem? (i := 330) (by decide +kernel), List.mem_of_getElem? (i := 462) (by decide +kernel), List.mem_of_getElem? (i := 463) (by decide +kernel)⟩
theorem lw_p17 : lw_okq (⟨"BeltStepsModel", "look", "()V"⟩, 25) := ⟨⟨by decide +kernel, by decide +kernel⟩, List.mem_of_getElem? (i := 330) (by decide +kernel), List.mem_of_getElem? (i := 466) (by decide +kernel), List.mem_of_getElem? (i := 467) (by decide +kernel)⟩
theorem lw_p18 : lw_okq (⟨"BeltStepsModel", "isShort", "(I)Z"⟩, 25) := ⟨⟨by decide +kernel, by decide +kernel⟩, List.mem_of_getElem? (i := 330) (by decide +kernel), List.mem_of_getElem? (i := 471) (by decide +kernel), List.mem_of_getElem? (i := 472) (by decide +kernel)⟩
theorem lw_p19 : lw_okq (⟨"BeltStepsModel", "tell", "(II)V"⟩, 25) := ⟨⟨by decide +kernel, by decide +kernel⟩, List.mem_of_getElem? (i := 330) (by decide +kernel), List.mem_of_getElem? (i := 476) (by decide +kernel), List.mem_of_getElem? (i := 477) (by decide +kernel)⟩
theorem lw_p20 : lw_okq (⟨"BeltStepsModel", "isItem", "(I)Z"⟩, 25) := ⟨⟨by decide +kernel, by decide +kernel⟩, List.mem_of_getElem? (i := 330) (by decide +kernel), List.mem_of_getElem? (i := 492) (by decide +kernel), List.mem_of_getElem? (i := 493) (by decide +kernel)⟩
def lw_privs_2 : List (MethodName × Nat) := [(⟨"BeltStepsModel", "goOver", "()V"⟩, 25), (⟨"BeltStepsModel", "look", "()V"⟩, 25), (⟨"BeltStepsModel", "isShort", "(I)Z"⟩, 25), (⟨"BeltStepsModel", "tell", "(II)V"⟩, 25), (⟨"BeltStepsModel", "isItem", "(I)Z"⟩, 25)]
theorem lw_r2 : ∀ q ∈ lw_privs_2, lw_okq q := List.forall_mem_cons.mpr ⟨lw_p16, List.forall_mem_cons.mpr ⟨lw_p17, List.forall_mem_cons.mpr ⟨lw_p18, List.forall_mem_cons.mpr ⟨lw_p19, List.forall_mem_cons.mpr ⟨lw_p20, fun _ h => absurd h List.not_mem_nil⟩⟩⟩⟩⟩
def lw_privs : List (MethodName × Nat) := lw_privs_1 ++ (lw_privs_2)
def lw_tbl : List Cond := k2_sels lw_privs ++ tables_1
theorem lw_privs_ok : ∀ q ∈ lw_privs, lw_okq q := by
  show ∀ q ∈ lw_privs_1 ++ (lw_privs_2), lw_okq q
  exact List.forall_mem_append.mpr ⟨lw_r1, lw_r2⟩
-- ===== end of PART A
end
section
def R_B : String := "BeltSteps$Belt"
def R_E : String := "BeltSteps$EdgeList"
def R_I : String := "BeltSteps$Item"
def R_S : String := "BeltSteps"
def R_M : String := "BeltStepsModel"
def R_L : String := "BeltStepsLaw"
def F_B : u_T := fun k => match k with
  | 0 => ("BeltSteps$Belt", "number", "I", true)
  | 1 => ("BeltSteps$Belt", "length", "J", true)
  | 2 => ("BeltSteps$Belt", "speed", "J", true)
  | 3 => ("BeltSteps$Belt", "sensor", "J", true)
  | 4 => ("BeltSteps$Belt", "onto", "LBeltSteps$Belt;", false)
  | 5 => ("BeltSteps$Belt", "running", "Z", false)
  | 6 => ("BeltSteps$Belt", "tellings", "I", false)
  | 7 => ("BeltSteps$Belt", "toldAt", "J", false)
  | 8 => ("BeltSteps$Belt", "gearBefore", "I", false)
  | 9 => ("BeltSteps$Belt", "wayAtTelling", "J", false)
  | 10 => ("BeltSteps$Belt", "gears", "[I", true)
  | 11 => ("BeltSteps$Belt", "paces", "[J", true)
  | _ => ("BeltSteps$Belt", "ways", "[J", true)
def t_B : Nat → FieldType := fun k => match k with
  | 0 => .int
  | 1 => .long
  | 2 => .long
  | 3 => .long
  | 4 => .object "BeltSteps$Belt"
  | 5 => .boolean
  | 6 => .int
  | 7 => .long
  | 8 => .int
  | 9 => .long
  | 10 => .array .int
  | 11 => .array .long
  | _ => .array .long
theorem n_B : ∀ a, a < 13 → ∀ b, b < 13 → a ≠ b → (F_B a).2.1 ≠ (F_B b).2.1 := by decide +kernel
theorem t_B_ok : ∀ k, k < 13 → parseFieldDescriptor (F_B k).2.2.1 = some (t_B k) := by decide +kernel
def F_E : u_T := fun k => match k with
  | 0 => ("BeltSteps$EdgeList", "rows", "[I", true)
  | 1 => ("BeltSteps$EdgeList", "total", "I", false)
  | _ => ("BeltSteps$EdgeList", "taken", "I", false)
def t_E : Nat → FieldType := fun k => match k with
  | 0 => .array .int
  | 1 => .int
  | _ => .int
theorem n_E : ∀ a, a < 3 → ∀ b, b < 3 → a ≠ b → (F_E a).2.1 ≠ (F_E b).2.1 := by decide +kernel
theorem t_E_ok : ∀ k, k < 3 → parseFieldDescriptor (F_E k).2.2.1 = some (t_E k) := by decide +kernel
def F_I : u_T := fun k => match k with
  | 0 => ("BeltSteps$Item", "number", "I", true)
  | 1 => ("BeltSteps$Item", "length", "J", true)
  | 2 => ("BeltSteps$Item", "belt", "LBeltSteps$Belt;", false)
  | 3 => ("BeltSteps$Item", "waiting", "Z", false)
  | 4 => ("BeltSteps$Item", "turn", "J", false)
  | 5 => ("BeltSteps$Item", "start", "J", false)
  | 6 => ("BeltSteps$Item", "frontTold", "Z", false)
  | _ => ("BeltSteps$Item", "endTold", "Z", false)
def t_I : Nat → FieldType := fun k => match k with
  | 0 => .int
  | 1 => .long
  | 2 => .object "BeltSteps$Belt"
  | 3 => .boolean
  | 4 => .long
  | 5 => .long
  | 6 => .boolean
  | _ => .boolean
theorem n_I : ∀ a, a < 8 → ∀ b, b < 8 → a ≠ b → (F_I a).2.1 ≠ (F_I b).2.1 := by decide +kernel
theorem t_I_ok : ∀ k, k < 8 → parseFieldDescriptor (F_I k).2.2.1 = some (t_I k) := by decide +kernel
def F_S : u_T := fun k => match k with
  | 0 => ("BeltSteps", "belts", "[LBeltSteps$Belt;", true)
  | 1 => ("BeltSteps", "beltCount", "I", false)
  | 2 => ("BeltSteps", "items", "[LBeltSteps$Item;", true)
  | 3 => ("BeltSteps", "itemCount", "I", false)
  | 4 => ("BeltSteps", "edges", "LBeltSteps$EdgeList;", true)
  | _ => ("BeltSteps", "now", "J", false)
def t_S : Nat → FieldType := fun k => match k with
  | 0 => .array (.object "BeltSteps$Belt")
  | 1 => .int
  | 2 => .array (.object "BeltSteps$Item")
  | 3 => .int
  | 4 => .object "BeltSteps$EdgeList"
  | _ => .long
theorem n_S : ∀ a, a < 6 → ∀ b, b < 6 → a ≠ b → (F_S a).2.1 ≠ (F_S b).2.1 := by decide +kernel
theorem t_S_ok : ∀ k, k < 6 → parseFieldDescriptor (F_S k).2.2.1 = some (t_S k) := by decide +kernel
def F_M : u_T := fun k => match k with
  | 0 => ("BeltStepsModel", "thrown", "I", false)
  | 1 => ("BeltStepsModel", "now", "J", false)
  | 2 => ("BeltStepsModel", "belts", "I", false)
  | 3 => ("BeltStepsModel", "longs", "[J", true)
  | 4 => ("BeltStepsModel", "speeds", "[J", true)
  | 5 => ("BeltStepsModel", "leads", "[I", true)
  | 6 => ("BeltStepsModel", "toldAt", "[J", true)
  | 7 => ("BeltStepsModel", "runs", "[Z", true)
  | 8 => ("BeltStepsModel", "before", "[I", true)
  | 9 => ("BeltStepsModel", "times", "[I", true)
  | 10 => ("BeltStepsModel", "rates", "[J", true)
  | 11 => ("BeltStepsModel", "items", "I", false)
  | 12 => ("BeltStepsModel", "size", "[J", true)
  | 13 => ("BeltStepsModel", "comes", "[J", true)
  | 14 => ("BeltStepsModel", "on", "[I", true)
  | 15 => ("BeltStepsModel", "place", "[J", true)
  | 16 => ("BeltStepsModel", "left", "[Z", true)
  | 17 => ("BeltStepsModel", "front", "[Z", true)
  | 18 => ("BeltStepsModel", "back", "[Z", true)
  | 19 => ("BeltStepsModel", "edges", "I", false)
  | 20 => ("BeltStepsModel", "known", "I", false)
  | 21 => ("BeltStepsModel", "edgeTime", "[J", true)
  | 22 => ("BeltStepsModel", "edgeBelt", "[I", true)
  | 23 => ("BeltStepsModel", "edgeItem", "[I", true)
  | _ => ("BeltStepsModel", "edgeKind", "[I", true)
def t_M : Nat → FieldType := fun k => match k with
  | 0 => .int
  | 1 => .long
  | 2 => .int
  | 3 => .array .long
  | 4 => .array .long
  | 5 => .array .int
  | 6 => .array .long
  | 7 => .array .boolean
  | 8 => .array .int
  | 9 => .array .int
  | 10 => .array .long
  | 11 => .int
  | 12 => .array .long
  | 13 => .array .long
  | 14 => .array .int
  | 15 => .array .long
  | 16 => .array .boolean
  | 17 => .array .boolean
  | 18 => .array .boolean
  | 19 => .int
  | 20 => .int
  | 21 => .array .long
  | 22 => .array .int
  | 23 => .array .int
  | _ => .array .int
theorem n_M : ∀ a, a < 25 → ∀ b, b < 25 → a ≠ b → (F_M a).2.1 ≠ (F_M b).2.1 := by decide +kernel
theorem t_M_ok : ∀ k, k < 25 → parseFieldDescriptor (F_M k).2.2.1 = some (t_M k) := by decide +kernel
abbrev b_S_init : ByteArray := prog_1_method_1_code
def y_S_init : MethodName := ⟨R_S, "<init>", "()V"⟩
abbrev b_E_init : ByteArray := prog_3_method_1_code
def y_E_init : MethodName := ⟨R_E, "<init>", "()V"⟩
abbrev b_S_belt : ByteArray := prog_1_method_2_code
def y_S_belt : MethodName := ⟨R_S, "belt", "(JJ)I"⟩
abbrev b_B_init : ByteArray := prog_2_method_1_code
def y_B_init : MethodName := ⟨R_B, "<init>", "(IJJ)V"⟩
abbrev b_B_layStages : ByteArray := prog_2_method_3_code
def y_B_layStages : MethodName := ⟨R_B, "layStages", "()V"⟩
abbrev b_S_join : ByteArray := prog_1_method_3_code
def y_S_join : MethodName := ⟨R_S, "join", "(II)I"⟩
abbrev b_S_beltNumbered : ByteArray := prog_1_method_13_code
def y_S_beltNumbered : MethodName := ⟨R_S, "beltNumbered", "(I)LBeltSteps$Belt;"⟩
abbrev b_S_feed : ByteArray := prog_1_method_4_code
def y_S_feed : MethodName := ⟨R_S, "feed", "(IJJ)I"⟩
abbrev b_S_isNowOrLater : ByteArray := prog_1_method_15_code
def y_S_isNowOrLater : MethodName := ⟨R_S, "isNowOrLater", "(J)Z"⟩
abbrev b_I_init : ByteArray := prog_4_method_1_code
def y_I_init : MethodName := ⟨R_I, "<init>", "(IJLBeltSteps$Belt;J)V"⟩
abbrev b_I_comeOnto : ByteArray := prog_4_method_5_code
def y_I_comeOnto : MethodName := ⟨R_I, "comeOnto", "(LBeltSteps$Belt;JJ)V"⟩
abbrev b_B_wayAt : ByteArray := prog_2_method_6_code
def y_B_wayAt : MethodName := ⟨R_B, "wayAt", "(J)J"⟩
abbrev b_B_stageAt : ByteArray := prog_2_method_4_code
def y_B_stageAt : MethodName := ⟨R_B, "stageAt", "(J)I"⟩
abbrev b_I_aim : ByteArray := prog_4_method_7_code
def y_I_aim : MethodName := ⟨R_I, "aim", "()V"⟩
abbrev b_B_timeOfWay : ByteArray := prog_2_method_7_code
def y_B_timeOfWay : MethodName := ⟨R_B, "timeOfWay", "(J)J"⟩
abbrev b_S_step : ByteArray := prog_1_method_5_code
def y_S_step : MethodName := ⟨R_S, "step", "(J)I"⟩
abbrev b_S_passTo : ByteArray := prog_1_method_16_code
def y_S_passTo : MethodName := ⟨R_S, "passTo", "(J)V"⟩
abbrev b_S_nextTurn : ByteArray := prog_1_method_17_code
def y_S_nextTurn : MethodName := ⟨R_S, "nextTurn", "()J"⟩
abbrev b_S_moveItems : ByteArray := prog_1_method_18_code
def y_S_moveItems : MethodName := ⟨R_S, "moveItems", "(J)V"⟩
abbrev b_I_moveOver : ByteArray := prog_4_method_6_code
def y_I_moveOver : MethodName := ⟨R_I, "moveOver", "(J)V"⟩
abbrev b_S_tellEdges : ByteArray := prog_1_method_19_code
def y_S_tellEdges : MethodName := ⟨R_S, "tellEdges", "(J)V"⟩
abbrev b_S_tellEdgesOf : ByteArray := prog_1_method_20_code
def y_S_tellEdgesOf : MethodName := ⟨R_S, "tellEdgesOf", "(LBeltSteps$Item;J)V"⟩
abbrev b_S_isShort : ByteArray := prog_1_method_21_code
def y_S_isShort : MethodName := ⟨R_S, "isShort", "(LBeltSteps$Item;J)Z"⟩
abbrev b_I_isOn : ByteArray := prog_4_method_3_code
def y_I_isOn : MethodName := ⟨R_I, "isOn", "(LBeltSteps$Belt;)Z"⟩
abbrev b_E_add : ByteArray := prog_3_method_2_code
def y_E_add : MethodName := ⟨R_E, "add", "(JIII)V"⟩
abbrev b_E_takeNew : ByteArray := prog_3_method_4_code
def y_E_takeNew : MethodName := ⟨R_E, "takeNew", "()I"⟩
abbrev b_S_edge : ByteArray := prog_1_method_6_code
def y_S_edge : MethodName := ⟨R_S, "edge", "(II)I"⟩
abbrev b_E_read : ByteArray := prog_3_method_3_code
def y_E_read : MethodName := ⟨R_E, "read", "(II)I"⟩
abbrev b_S_stop : ByteArray := prog_1_method_7_code
def y_S_stop : MethodName := ⟨R_S, "stop", "(IZJ)I"⟩
abbrev b_B_tell : ByteArray := prog_2_method_2_code
def y_B_tell : MethodName := ⟨R_B, "tell", "(ZJ)V"⟩
abbrev b_B_gearAt : ByteArray := prog_2_method_5_code
def y_B_gearAt : MethodName := ⟨R_B, "gearAt", "(J)I"⟩
abbrev b_S_aimItemsOn : ByteArray := prog_1_method_22_code
def y_S_aimItemsOn : MethodName := ⟨R_S, "aimItemsOn", "(LBeltSteps$Belt;)V"⟩
abbrev b_S_slip : ByteArray := prog_1_method_8_code
def y_S_slip : MethodName := ⟨R_S, "slip", "(IJ)I"⟩
abbrev b_S_itemNumbered : ByteArray := prog_1_method_14_code
def y_S_itemNumbered : MethodName := ⟨R_S, "itemNumbered", "(I)LBeltSteps$Item;"⟩
abbrev b_I_isOnABelt : ByteArray := prog_4_method_2_code
def y_I_isOnABelt : MethodName := ⟨R_I, "isOnABelt", "()Z"⟩
abbrev b_I_placeAt : ByteArray := prog_4_method_4_code
def y_I_placeAt : MethodName := ⟨R_I, "placeAt", "(J)J"⟩
abbrev b_S_place : ByteArray := prog_1_method_9_code
def y_S_place : MethodName := ⟨R_S, "place", "(IJ)J"⟩
abbrev b_S_placeAhead : ByteArray := prog_1_method_23_code
def y_S_placeAhead : MethodName := ⟨R_S, "placeAhead", "(LBeltSteps$Item;J)J"⟩
abbrev b_S_gap : ByteArray := prog_1_method_10_code
def y_S_gap : MethodName := ⟨R_S, "gap", "(II)I"⟩
abbrev b_S_count : ByteArray := prog_1_method_11_code
def y_S_count : MethodName := ⟨R_S, "count", "(I)I"⟩
abbrev b_S_gear : ByteArray := prog_1_method_12_code
def y_S_gear : MethodName := ⟨R_S, "gear", "(IJ)I"⟩
abbrev b_M_init : ByteArray := prog_6_method_1_code
def y_M_init : MethodName := ⟨R_M, "<init>", "()V"⟩
abbrev b_M_belt : ByteArray := prog_6_method_7_code
def y_M_belt : MethodName := ⟨R_M, "belt", "(JJ)I"⟩
abbrev b_M_in : ByteArray := prog_6_method_3_code
def y_M_in : MethodName := ⟨R_M, "in", "(JJJ)Z"⟩
abbrev b_M_join : ByteArray := prog_6_method_8_code
def y_M_join : MethodName := ⟨R_M, "join", "(II)I"⟩
abbrev b_M_isBelt : ByteArray := prog_6_method_4_code
def y_M_isBelt : MethodName := ⟨R_M, "isBelt", "(I)Z"⟩
abbrev b_M_feed : ByteArray := prog_6_method_9_code
def y_M_feed : MethodName := ⟨R_M, "feed", "(IJJ)I"⟩
abbrev b_M_isTime : ByteArray := prog_6_method_6_code
def y_M_isTime : MethodName := ⟨R_M, "isTime", "(J)Z"⟩
abbrev b_M_step : ByteArray := prog_6_method_18_code
def y_M_step : MethodName := ⟨R_M, "step", "(J)I"⟩
abbrev b_M_pass : ByteArray := prog_6_method_17_code
def y_M_pass : MethodName := ⟨R_M, "pass", "(J)V"⟩
abbrev b_M_rateAt : ByteArray := prog_6_method_11_code
def y_M_rateAt : MethodName := ⟨R_M, "rateAt", "(IJ)J"⟩
abbrev b_M_gearAt : ByteArray := prog_6_method_10_code
def y_M_gearAt : MethodName := ⟨R_M, "gearAt", "(IJ)I"⟩
abbrev b_M_isThere : ByteArray := prog_6_method_12_code
def y_M_isThere : MethodName := ⟨R_M, "isThere", "(I)Z"⟩
abbrev b_M_goOver : ByteArray := prog_6_method_13_code
def y_M_goOver : MethodName := ⟨R_M, "goOver", "()V"⟩
abbrev b_M_look : ByteArray := prog_6_method_16_code
def y_M_look : MethodName := ⟨R_M, "look", "()V"⟩
abbrev b_M_isShort : ByteArray := prog_6_method_14_code
def y_M_isShort : MethodName := ⟨R_M, "isShort", "(I)Z"⟩
abbrev b_M_tell : ByteArray := prog_6_method_15_code
def y_M_tell : MethodName := ⟨R_M, "tell", "(II)V"⟩
abbrev b_M_edge : ByteArray := prog_6_method_19_code
def y_M_edge : MethodName := ⟨R_M, "edge", "(II)I"⟩
abbrev b_M_stop : ByteArray := prog_6_method_20_code
def y_M_stop : MethodName := ⟨R_M, "stop", "(IZJ)I"⟩
abbrev b_M_slip : ByteArray := prog_6_method_21_code
def y_M_slip : MethodName := ⟨R_M, "slip", "(IJ)I"⟩
abbrev b_M_isItem : ByteArray := prog_6_method_5_code
def y_M_isItem : MethodName := ⟨R_M, "isItem", "(I)Z"⟩
abbrev b_M_place : ByteArray := prog_6_method_22_code
def y_M_place : MethodName := ⟨R_M, "place", "(IJ)J"⟩
abbrev b_M_gap : ByteArray := prog_6_method_23_code
def y_M_gap : MethodName := ⟨R_M, "gap", "(II)I"⟩
abbrev b_M_count : ByteArray := prog_6_method_24_code
def y_M_count : MethodName := ⟨R_M, "count", "(I)I"⟩
abbrev b_M_gear : ByteArray := prog_6_method_25_code
def y_M_gear : MethodName := ⟨R_M, "gear", "(IJ)I"⟩
abbrev b_L_law : ByteArray := code
/-- the words that every method rests on: those of the tables that go with a call -/
def gtb : List Cond := lw_tbl.filter goodWord
theorem gtb_of {w : Cond} (k : Nat) (h : tables_1[k]? = some w) (hg : goodWord w = true) : w ∈ gtb := List.mem_filter.mpr ⟨List.mem_append_right _ (List.mem_of_getElem? h), hg⟩
theorem gtb_sel {w : Cond} (h : w ∈ k2_sels lw_privs) (hg : goodWord w = true) : w ∈ gtb := List.mem_filter.mpr ⟨List.mem_append_left _ h, hg⟩
theorem gm_ini_L : Cond.initialized "BeltStepsLaw" ∈ gtb := gtb_of 0 (by decide +kernel) rfl
theorem gm_ini_S : Cond.initialized "BeltSteps" ∈ gtb := gtb_of 1 (by decide +kernel) rfl
theorem gm_ini_E : Cond.initialized "BeltSteps$EdgeList" ∈ gtb := gtb_of 2 (by decide +kernel) rfl
theorem gm_ini_M : Cond.initialized "BeltStepsModel" ∈ gtb := gtb_of 3 (by decide +kernel) rfl
theorem gm_ini_B : Cond.initialized "BeltSteps$Belt" ∈ gtb := gtb_of 4 (by decide +kernel) rfl
theorem gm_ini_J : Cond.initialized "java/lang/Math" ∈ gtb := gtb_of 5 (by decide +kernel) rfl
theorem gm_ini_I : Cond.initialized "BeltSteps$Item" ∈ gtb := gtb_of 6 (by decide +kernel) rfl
theorem gm_cl_L_7 : Cond.classLink R_L 7 R_S ∈ gtb := gtb_of 7 (by decide +kernel) rfl
theorem gm_inst_S : Cond.instantiable R_S 6 ∈ gtb := gtb_of 8 (by decide +kernel) rfl
theorem gm_ml_L_9 : Cond.methodLink R_L 9 y_S_init ∈ gtb := gtb_of 9 (by decide +kernel) rfl
theorem gm_im_S_init : Cond.instanceMethod y_S_init ∈ gtb := gtb_of 10 (by decide +kernel) rfl
theorem gm_code_S_init : Cond.code y_S_init b_S_init 1 none ∈ gtb := gtb_of 11 (by decide +kernel) rfl
theorem gm_ml_S_1 : Cond.methodLink R_S 1 objectInit ∈ gtb := gtb_of 12 (by decide +kernel) rfl
theorem gm_im_O_init : Cond.instanceMethod objectInit ∈ gtb := gtb_of 13 (by decide +kernel) rfl
theorem gm_code_O_init : Cond.code objectInit ⟨#[0xb1]⟩ 1 none ∈ gtb := gtb_of 14 (by decide +kernel) rfl
theorem gm_cl_S_9 : Cond.classLink R_S 9 R_B ∈ gtb := gtb_of 15 (by decide +kernel) rfl
theorem gm_cl_S_19 : Cond.classLink R_S 19 R_I ∈ gtb := gtb_of 17 (by decide +kernel) rfl
theorem gm_cl_S_28 : Cond.classLink R_S 28 R_E ∈ gtb := gtb_of 19 (by decide +kernel) rfl
theorem gm_inst_E : Cond.instantiable R_E 3 ∈ gtb := gtb_of 20 (by decide +kernel) rfl
theorem gm_im_E_init : Cond.instanceMethod y_E_init ∈ gtb := gtb_of 22 (by decide +kernel) rfl
theorem gm_code_E_init : Cond.code y_E_init b_E_init 1 none ∈ gtb := gtb_of 23 (by decide +kernel) rfl
theorem gm_ml_E_3 : Cond.methodLink R_E 3 objectInit ∈ gtb := gtb_of 24 (by decide +kernel) rfl
theorem gm_fl_E_11 : Cond.fieldLink R_E 11 "BeltSteps$EdgeList" "rows" "[I" ∈ gtb := gtb_of 25 (by decide +kernel) rfl
theorem gm_fl_E_15 : Cond.fieldLink R_E 15 "BeltSteps$EdgeList" "total" "I" ∈ gtb := gtb_of 26 (by decide +kernel) rfl
theorem gm_fl_E_19 : Cond.fieldLink R_E 19 "BeltSteps$EdgeList" "taken" "I" ∈ gtb := gtb_of 27 (by decide +kernel) rfl
theorem gm_ac_int : Cond.arrayClass .int ∈ gtb := gtb_of 35 (by decide +kernel) rfl
theorem gm_fl_S_11 : Cond.fieldLink R_S 11 "BeltSteps" "belts" "[LBeltSteps$Belt;" ∈ gtb := gtb_of 36 (by decide +kernel) rfl
theorem gm_fl_S_15 : Cond.fieldLink R_S 15 "BeltSteps" "beltCount" "I" ∈ gtb := gtb_of 37 (by decide +kernel) rfl
theorem gm_fl_S_21 : Cond.fieldLink R_S 21 "BeltSteps" "items" "[LBeltSteps$Item;" ∈ gtb := gtb_of 38 (by decide +kernel) rfl
theorem gm_fl_S_25 : Cond.fieldLink R_S 25 "BeltSteps" "itemCount" "I" ∈ gtb := gtb_of 39 (by decide +kernel) rfl
theorem gm_fl_S_31 : Cond.fieldLink R_S 31 "BeltSteps" "edges" "LBeltSteps$EdgeList;" ∈ gtb := gtb_of 40 (by decide +kernel) rfl
theorem gm_fl_S_35 : Cond.fieldLink R_S 35 "BeltSteps" "now" "J" ∈ gtb := gtb_of 41 (by decide +kernel) rfl
theorem gm_ml_L_15 : Cond.methodLink R_L 15 y_S_belt ∈ gtb := gtb_of 55 (by decide +kernel) rfl
theorem gm_im_S_belt : Cond.instanceMethod y_S_belt ∈ gtb := gtb_of 56 (by decide +kernel) rfl
theorem gm_sel_S_belt : Cond.selects R_S y_S_belt y_S_belt ∈ gtb := gtb_of 57 (by decide +kernel) rfl
theorem gm_code_S_belt : Cond.code y_S_belt b_S_belt 6 (some .int) ∈ gtb := gtb_of 58 (by decide +kernel) rfl
theorem gm_k_S_39 : Cond.constantLong R_S 39 (100000) ∈ gtb := gtb_of 59 (by decide +kernel) rfl
theorem gm_k_S_41 : Cond.constantLong R_S 41 (100000000) ∈ gtb := gtb_of 60 (by decide +kernel) rfl
theorem gm_k_S_43 : Cond.constantLong R_S 43 (5000) ∈ gtb := gtb_of 61 (by decide +kernel) rfl
theorem gm_inst_B : Cond.instantiable R_B 13 ∈ gtb := gtb_of 62 (by decide +kernel) rfl
theorem gm_ml_S_45 : Cond.methodLink R_S 45 y_B_init ∈ gtb := gtb_of 63 (by decide +kernel) rfl
theorem gm_im_B_init : Cond.instanceMethod y_B_init ∈ gtb := gtb_of 64 (by decide +kernel) rfl
theorem gm_code_B_init : Cond.code y_B_init b_B_init 6 none ∈ gtb := gtb_of 65 (by decide +kernel) rfl
theorem gm_ml_B_3 : Cond.methodLink R_B 3 objectInit ∈ gtb := gtb_of 66 (by decide +kernel) rfl
theorem gm_k_B_53 : Cond.constantLong R_B 53 (2) ∈ gtb := gtb_of 67 (by decide +kernel) rfl
theorem gm_fl_B_44 : Cond.fieldLink R_B 44 "BeltSteps$Belt" "number" "I" ∈ gtb := gtb_of 68 (by decide +kernel) rfl
theorem gm_fl_S_51 : Cond.fieldLink R_S 51 "BeltSteps$Belt" "number" "I" ∈ gtb := gtb_of 69 (by decide +kernel) rfl
theorem gm_fl_B_47 : Cond.fieldLink R_B 47 "BeltSteps$Belt" "length" "J" ∈ gtb := gtb_of 70 (by decide +kernel) rfl
theorem gm_fl_I_52 : Cond.fieldLink R_I 52 "BeltSteps$Belt" "length" "J" ∈ gtb := gtb_of 71 (by decide +kernel) rfl
theorem gm_fl_S_203 : Cond.fieldLink R_S 203 "BeltSteps$Belt" "length" "J" ∈ gtb := gtb_of 72 (by decide +kernel) rfl
theorem gm_fl_B_50 : Cond.fieldLink R_B 50 "BeltSteps$Belt" "speed" "J" ∈ gtb := gtb_of 73 (by decide +kernel) rfl
theorem gm_fl_B_55 : Cond.fieldLink R_B 55 "BeltSteps$Belt" "sensor" "J" ∈ gtb := gtb_of 74 (by decide +kernel) rfl
theorem gm_fl_I_58 : Cond.fieldLink R_I 58 "BeltSteps$Belt" "sensor" "J" ∈ gtb := gtb_of 75 (by decide +kernel) rfl
theorem gm_fl_S_177 : Cond.fieldLink R_S 177 "BeltSteps$Belt" "sensor" "J" ∈ gtb := gtb_of 76 (by decide +kernel) rfl
theorem gm_fl_B_9 : Cond.fieldLink R_B 9 "BeltSteps$Belt" "onto" "LBeltSteps$Belt;" ∈ gtb := gtb_of 77 (by decide +kernel) rfl
theorem gm_fl_S_58 : Cond.fieldLink R_S 58 "BeltSteps$Belt" "onto" "LBeltSteps$Belt;" ∈ gtb := gtb_of 78 (by decide +kernel) rfl
theorem gm_fl_I_53 : Cond.fieldLink R_I 53 "BeltSteps$Belt" "onto" "LBeltSteps$Belt;" ∈ gtb := gtb_of 79 (by decide +kernel) rfl
theorem gm_fl_B_15 : Cond.fieldLink R_B 15 "BeltSteps$Belt" "running" "Z" ∈ gtb := gtb_of 80 (by decide +kernel) rfl
theorem gm_fl_S_86 : Cond.fieldLink R_S 86 "BeltSteps$Belt" "running" "Z" ∈ gtb := gtb_of 81 (by decide +kernel) rfl
theorem gm_fl_B_19 : Cond.fieldLink R_B 19 "BeltSteps$Belt" "tellings" "I" ∈ gtb := gtb_of 82 (by decide +kernel) rfl
theorem gm_fl_S_90 : Cond.fieldLink R_S 90 "BeltSteps$Belt" "tellings" "I" ∈ gtb := gtb_of 83 (by decide +kernel) rfl
theorem gm_fl_B_23 : Cond.fieldLink R_B 23 "BeltSteps$Belt" "toldAt" "J" ∈ gtb := gtb_of 84 (by decide +kernel) rfl
theorem gm_fl_B_27 : Cond.fieldLink R_B 27 "BeltSteps$Belt" "gearBefore" "I" ∈ gtb := gtb_of 85 (by decide +kernel) rfl
theorem gm_fl_B_30 : Cond.fieldLink R_B 30 "BeltSteps$Belt" "wayAtTelling" "J" ∈ gtb := gtb_of 86 (by decide +kernel) rfl
theorem gm_fl_B_33 : Cond.fieldLink R_B 33 "BeltSteps$Belt" "gears" "[I" ∈ gtb := gtb_of 87 (by decide +kernel) rfl
theorem gm_fl_B_37 : Cond.fieldLink R_B 37 "BeltSteps$Belt" "paces" "[J" ∈ gtb := gtb_of 88 (by decide +kernel) rfl
theorem gm_fl_B_41 : Cond.fieldLink R_B 41 "BeltSteps$Belt" "ways" "[J" ∈ gtb := gtb_of 89 (by decide +kernel) rfl
theorem gm_ac_long : Cond.arrayClass .long ∈ gtb := gtb_of 117 (by decide +kernel) rfl
theorem gm_ml_S_48 : Cond.methodLink R_S 48 y_B_layStages ∈ gtb := gtb_of 118 (by decide +kernel) rfl
theorem gm_im_B_layStages : Cond.instanceMethod y_B_layStages ∈ gtb := gtb_of 119 (by decide +kernel) rfl
theorem gm_sel_B_layStages : Cond.selects R_B y_B_layStages y_B_layStages ∈ gtb := gtb_of 120 (by decide +kernel) rfl
theorem gm_code_B_layStages : Cond.code y_B_layStages b_B_layStages 5 none ∈ gtb := gtb_of 121 (by decide +kernel) rfl
theorem gm_k_B_78 : Cond.constantLong R_B 78 (8) ∈ gtb := gtb_of 128 (by decide +kernel) rfl
theorem gm_k_B_80 : Cond.constantLong R_B 80 (20) ∈ gtb := gtb_of 129 (by decide +kernel) rfl
theorem gm_ml_L_20 : Cond.methodLink R_L 20 y_S_join ∈ gtb := gtb_of 130 (by decide +kernel) rfl
theorem gm_im_S_join : Cond.instanceMethod y_S_join ∈ gtb := gtb_of 131 (by decide +kernel) rfl
theorem gm_sel_S_join : Cond.selects R_S y_S_join y_S_join ∈ gtb := gtb_of 132 (by decide +kernel) rfl
theorem gm_code_S_join : Cond.code y_S_join b_S_join 6 (some .int) ∈ gtb := gtb_of 133 (by decide +kernel) rfl
theorem gm_ml_S_54 : Cond.methodLink R_S 54 y_S_beltNumbered ∈ gtb := gtb_of 134 (by decide +kernel) rfl
theorem gm_im_S_beltNumbered : Cond.instanceMethod y_S_beltNumbered ∈ gtb := gtb_of 136 (by decide +kernel) rfl
theorem gm_code_S_beltNumbered : Cond.code y_S_beltNumbered b_S_beltNumbered 2 (some (.object "BeltSteps$Belt")) ∈ gtb := gtb_of 137 (by decide +kernel) rfl
theorem gm_ml_L_25 : Cond.methodLink R_L 25 y_S_feed ∈ gtb := gtb_of 138 (by decide +kernel) rfl
theorem gm_im_S_feed : Cond.instanceMethod y_S_feed ∈ gtb := gtb_of 139 (by decide +kernel) rfl
theorem gm_sel_S_feed : Cond.selects R_S y_S_feed y_S_feed ∈ gtb := gtb_of 140 (by decide +kernel) rfl
theorem gm_code_S_feed : Cond.code y_S_feed b_S_feed 8 (some .int) ∈ gtb := gtb_of 141 (by decide +kernel) rfl
theorem gm_ml_S_62 : Cond.methodLink R_S 62 y_S_isNowOrLater ∈ gtb := gtb_of 142 (by decide +kernel) rfl
theorem gm_im_S_isNowOrLater : Cond.instanceMethod y_S_isNowOrLater ∈ gtb := gtb_of 144 (by decide +kernel) rfl
theorem gm_code_S_isNowOrLater : Cond.code y_S_isNowOrLater b_S_isNowOrLater 3 (some .boolean) ∈ gtb := gtb_of 145 (by decide +kernel) rfl
theorem gm_k_S_149 : Cond.constantLong R_S 149 (1000000) ∈ gtb := gtb_of 146 (by decide +kernel) rfl
theorem gm_inst_I : Cond.instantiable R_I 8 ∈ gtb := gtb_of 147 (by decide +kernel) rfl
theorem gm_ml_S_66 : Cond.methodLink R_S 66 y_I_init ∈ gtb := gtb_of 148 (by decide +kernel) rfl
theorem gm_im_I_init : Cond.instanceMethod y_I_init ∈ gtb := gtb_of 149 (by decide +kernel) rfl
theorem gm_code_I_init : Cond.code y_I_init b_I_init 7 none ∈ gtb := gtb_of 150 (by decide +kernel) rfl
theorem gm_ml_I_3 : Cond.methodLink R_I 3 objectInit ∈ gtb := gtb_of 151 (by decide +kernel) rfl
theorem gm_fl_I_25 : Cond.fieldLink R_I 25 "BeltSteps$Item" "number" "I" ∈ gtb := gtb_of 152 (by decide +kernel) rfl
theorem gm_fl_S_73 : Cond.fieldLink R_S 73 "BeltSteps$Item" "number" "I" ∈ gtb := gtb_of 153 (by decide +kernel) rfl
theorem gm_fl_I_29 : Cond.fieldLink R_I 29 "BeltSteps$Item" "length" "J" ∈ gtb := gtb_of 154 (by decide +kernel) rfl
theorem gm_fl_S_138 : Cond.fieldLink R_S 138 "BeltSteps$Item" "length" "J" ∈ gtb := gtb_of 155 (by decide +kernel) rfl
theorem gm_fl_I_32 : Cond.fieldLink R_I 32 "BeltSteps$Item" "belt" "LBeltSteps$Belt;" ∈ gtb := gtb_of 156 (by decide +kernel) rfl
theorem gm_fl_S_135 : Cond.fieldLink R_S 135 "BeltSteps$Item" "belt" "LBeltSteps$Belt;" ∈ gtb := gtb_of 157 (by decide +kernel) rfl
theorem gm_fl_I_9 : Cond.fieldLink R_I 9 "BeltSteps$Item" "waiting" "Z" ∈ gtb := gtb_of 158 (by decide +kernel) rfl
theorem gm_fl_S_198 : Cond.fieldLink R_S 198 "BeltSteps$Item" "waiting" "Z" ∈ gtb := gtb_of 159 (by decide +kernel) rfl
theorem gm_fl_I_36 : Cond.fieldLink R_I 36 "BeltSteps$Item" "turn" "J" ∈ gtb := gtb_of 160 (by decide +kernel) rfl
theorem gm_fl_S_164 : Cond.fieldLink R_S 164 "BeltSteps$Item" "turn" "J" ∈ gtb := gtb_of 161 (by decide +kernel) rfl
theorem gm_fl_I_15 : Cond.fieldLink R_I 15 "BeltSteps$Item" "start" "J" ∈ gtb := gtb_of 162 (by decide +kernel) rfl
theorem gm_fl_S_121 : Cond.fieldLink R_S 121 "BeltSteps$Item" "start" "J" ∈ gtb := gtb_of 163 (by decide +kernel) rfl
theorem gm_fl_I_19 : Cond.fieldLink R_I 19 "BeltSteps$Item" "frontTold" "Z" ∈ gtb := gtb_of 164 (by decide +kernel) rfl
theorem gm_fl_S_180 : Cond.fieldLink R_S 180 "BeltSteps$Item" "frontTold" "Z" ∈ gtb := gtb_of 165 (by decide +kernel) rfl
theorem gm_fl_I_22 : Cond.fieldLink R_I 22 "BeltSteps$Item" "endTold" "Z" ∈ gtb := gtb_of 166 (by decide +kernel) rfl
theorem gm_fl_S_191 : Cond.fieldLink R_S 191 "BeltSteps$Item" "endTold" "Z" ∈ gtb := gtb_of 167 (by decide +kernel) rfl
theorem gm_ml_S_69 : Cond.methodLink R_S 69 y_I_comeOnto ∈ gtb := gtb_of 185 (by decide +kernel) rfl
theorem gm_im_I_comeOnto : Cond.instanceMethod y_I_comeOnto ∈ gtb := gtb_of 186 (by decide +kernel) rfl
theorem gm_sel_I_comeOnto : Cond.selects R_I y_I_comeOnto y_I_comeOnto ∈ gtb := gtb_of 187 (by decide +kernel) rfl
theorem gm_code_I_comeOnto : Cond.code y_I_comeOnto b_I_comeOnto 6 none ∈ gtb := gtb_of 188 (by decide +kernel) rfl
theorem gm_ml_I_39 : Cond.methodLink R_I 39 y_B_wayAt ∈ gtb := gtb_of 189 (by decide +kernel) rfl
theorem gm_im_B_wayAt : Cond.instanceMethod y_B_wayAt ∈ gtb := gtb_of 190 (by decide +kernel) rfl
theorem gm_sel_B_wayAt : Cond.selects R_B y_B_wayAt y_B_wayAt ∈ gtb := gtb_of 191 (by decide +kernel) rfl
theorem gm_code_B_wayAt : Cond.code y_B_wayAt b_B_wayAt 4 (some .long) ∈ gtb := gtb_of 192 (by decide +kernel) rfl
theorem gm_ml_B_82 : Cond.methodLink R_B 82 y_B_stageAt ∈ gtb := gtb_of 193 (by decide +kernel) rfl
theorem gm_im_B_stageAt : Cond.instanceMethod y_B_stageAt ∈ gtb := gtb_of 194 (by decide +kernel) rfl
theorem gm_sel_B_stageAt : Cond.selects R_B y_B_stageAt y_B_stageAt ∈ gtb := gtb_of 195 (by decide +kernel) rfl
theorem gm_code_B_stageAt : Cond.code y_B_stageAt b_B_stageAt 5 (some .int) ∈ gtb := gtb_of 196 (by decide +kernel) rfl
theorem gm_ml_I_45 : Cond.methodLink R_I 45 y_I_aim ∈ gtb := gtb_of 197 (by decide +kernel) rfl
theorem gm_im_I_aim : Cond.instanceMethod y_I_aim ∈ gtb := gtb_of 198 (by decide +kernel) rfl
theorem gm_sel_I_aim : Cond.selects R_I y_I_aim y_I_aim ∈ gtb := gtb_of 199 (by decide +kernel) rfl
theorem gm_code_I_aim : Cond.code y_I_aim b_I_aim 3 none ∈ gtb := gtb_of 200 (by decide +kernel) rfl
theorem gm_ml_I_67 : Cond.methodLink R_I 67 y_B_timeOfWay ∈ gtb := gtb_of 204 (by decide +kernel) rfl
theorem gm_im_B_timeOfWay : Cond.instanceMethod y_B_timeOfWay ∈ gtb := gtb_of 205 (by decide +kernel) rfl
theorem gm_sel_B_timeOfWay : Cond.selects R_B y_B_timeOfWay y_B_timeOfWay ∈ gtb := gtb_of 206 (by decide +kernel) rfl
theorem gm_code_B_timeOfWay : Cond.code y_B_timeOfWay b_B_timeOfWay 10 (some .long) ∈ gtb := gtb_of 207 (by decide +kernel) rfl
theorem gm_k_B_85 : Cond.constantLong R_B 85 (1000000000000) ∈ gtb := gtb_of 208 (by decide +kernel) rfl
theorem gm_ml_L_30 : Cond.methodLink R_L 30 y_S_step ∈ gtb := gtb_of 209 (by decide +kernel) rfl
theorem gm_im_S_step : Cond.instanceMethod y_S_step ∈ gtb := gtb_of 210 (by decide +kernel) rfl
theorem gm_sel_S_step : Cond.selects R_S y_S_step y_S_step ∈ gtb := gtb_of 211 (by decide +kernel) rfl
theorem gm_code_S_step : Cond.code y_S_step b_S_step 3 (some .int) ∈ gtb := gtb_of 212 (by decide +kernel) rfl
theorem gm_ml_S_74 : Cond.methodLink R_S 74 y_S_passTo ∈ gtb := gtb_of 213 (by decide +kernel) rfl
theorem gm_im_S_passTo : Cond.instanceMethod y_S_passTo ∈ gtb := gtb_of 215 (by decide +kernel) rfl
theorem gm_code_S_passTo : Cond.code y_S_passTo b_S_passTo 6 none ∈ gtb := gtb_of 216 (by decide +kernel) rfl
theorem gm_k_S_151 : Cond.constant R_S 151 (100000) ∈ gtb := gtb_of 217 (by decide +kernel) rfl
theorem gm_ml_S_152 : Cond.methodLink R_S 152 y_S_nextTurn ∈ gtb := gtb_of 218 (by decide +kernel) rfl
theorem gm_im_S_nextTurn : Cond.instanceMethod y_S_nextTurn ∈ gtb := gtb_of 220 (by decide +kernel) rfl
theorem gm_code_S_nextTurn : Cond.code y_S_nextTurn b_S_nextTurn 4 (some .long) ∈ gtb := gtb_of 221 (by decide +kernel) rfl
theorem gm_k_S_162 : Cond.constantLong R_S 162 (1000000000000) ∈ gtb := gtb_of 222 (by decide +kernel) rfl
theorem gm_ml_S_156 : Cond.methodLink R_S 156 y_S_moveItems ∈ gtb := gtb_of 223 (by decide +kernel) rfl
theorem gm_im_S_moveItems : Cond.instanceMethod y_S_moveItems ∈ gtb := gtb_of 225 (by decide +kernel) rfl
theorem gm_code_S_moveItems : Cond.code y_S_moveItems b_S_moveItems 4 none ∈ gtb := gtb_of 226 (by decide +kernel) rfl
theorem gm_ml_S_167 : Cond.methodLink R_S 167 y_I_moveOver ∈ gtb := gtb_of 227 (by decide +kernel) rfl
theorem gm_im_I_moveOver : Cond.instanceMethod y_I_moveOver ∈ gtb := gtb_of 228 (by decide +kernel) rfl
theorem gm_sel_I_moveOver : Cond.selects R_I y_I_moveOver y_I_moveOver ∈ gtb := gtb_of 229 (by decide +kernel) rfl
theorem gm_code_I_moveOver : Cond.code y_I_moveOver b_I_moveOver 5 none ∈ gtb := gtb_of 230 (by decide +kernel) rfl
theorem gm_ml_I_48 : Cond.methodLink R_I 48 y_I_comeOnto ∈ gtb := gtb_of 231 (by decide +kernel) rfl
theorem gm_k_I_56 : Cond.constantLong R_I 56 (1000000000000) ∈ gtb := gtb_of 232 (by decide +kernel) rfl
theorem gm_ml_S_159 : Cond.methodLink R_S 159 y_S_tellEdges ∈ gtb := gtb_of 233 (by decide +kernel) rfl
theorem gm_im_S_tellEdges : Cond.instanceMethod y_S_tellEdges ∈ gtb := gtb_of 235 (by decide +kernel) rfl
theorem gm_code_S_tellEdges : Cond.code y_S_tellEdges b_S_tellEdges 4 none ∈ gtb := gtb_of 236 (by decide +kernel) rfl
theorem gm_ml_S_170 : Cond.methodLink R_S 170 y_S_tellEdgesOf ∈ gtb := gtb_of 237 (by decide +kernel) rfl
theorem gm_im_S_tellEdgesOf : Cond.instanceMethod y_S_tellEdgesOf ∈ gtb := gtb_of 239 (by decide +kernel) rfl
theorem gm_code_S_tellEdgesOf : Cond.code y_S_tellEdgesOf b_S_tellEdgesOf 10 none ∈ gtb := gtb_of 240 (by decide +kernel) rfl
theorem gm_ml_S_174 : Cond.methodLink R_S 174 y_B_wayAt ∈ gtb := gtb_of 241 (by decide +kernel) rfl
theorem gm_ml_S_183 : Cond.methodLink R_S 183 y_S_isShort ∈ gtb := gtb_of 242 (by decide +kernel) rfl
theorem gm_im_S_isShort : Cond.instanceMethod y_S_isShort ∈ gtb := gtb_of 244 (by decide +kernel) rfl
theorem gm_code_S_isShort : Cond.code y_S_isShort b_S_isShort 11 (some .boolean) ∈ gtb := gtb_of 245 (by decide +kernel) rfl
theorem gm_ml_S_141 : Cond.methodLink R_S 141 y_I_isOn ∈ gtb := gtb_of 246 (by decide +kernel) rfl
theorem gm_im_I_isOn : Cond.instanceMethod y_I_isOn ∈ gtb := gtb_of 247 (by decide +kernel) rfl
theorem gm_sel_I_isOn : Cond.selects R_I y_I_isOn y_I_isOn ∈ gtb := gtb_of 248 (by decide +kernel) rfl
theorem gm_code_I_isOn : Cond.code y_I_isOn b_I_isOn 2 (some .boolean) ∈ gtb := gtb_of 249 (by decide +kernel) rfl
theorem gm_k_S_194 : Cond.constantLong R_S 194 (50000) ∈ gtb := gtb_of 250 (by decide +kernel) rfl
theorem gm_ml_S_187 : Cond.methodLink R_S 187 y_E_add ∈ gtb := gtb_of 251 (by decide +kernel) rfl
theorem gm_im_E_add : Cond.instanceMethod y_E_add ∈ gtb := gtb_of 252 (by decide +kernel) rfl
theorem gm_sel_E_add : Cond.selects R_E y_E_add y_E_add ∈ gtb := gtb_of 253 (by decide +kernel) rfl
theorem gm_code_E_add : Cond.code y_E_add b_E_add 7 none ∈ gtb := gtb_of 254 (by decide +kernel) rfl
theorem gm_ml_S_124 : Cond.methodLink R_S 124 y_I_aim ∈ gtb := gtb_of 255 (by decide +kernel) rfl
theorem gm_ml_S_78 : Cond.methodLink R_S 78 y_E_takeNew ∈ gtb := gtb_of 256 (by decide +kernel) rfl
theorem gm_im_E_takeNew : Cond.instanceMethod y_E_takeNew ∈ gtb := gtb_of 257 (by decide +kernel) rfl
theorem gm_sel_E_takeNew : Cond.selects R_E y_E_takeNew y_E_takeNew ∈ gtb := gtb_of 258 (by decide +kernel) rfl
theorem gm_code_E_takeNew : Cond.code y_E_takeNew b_E_takeNew 2 (some .int) ∈ gtb := gtb_of 259 (by decide +kernel) rfl
theorem gm_ml_L_35 : Cond.methodLink R_L 35 y_S_edge ∈ gtb := gtb_of 260 (by decide +kernel) rfl
theorem gm_im_S_edge : Cond.instanceMethod y_S_edge ∈ gtb := gtb_of 261 (by decide +kernel) rfl
theorem gm_sel_S_edge : Cond.selects R_S y_S_edge y_S_edge ∈ gtb := gtb_of 262 (by decide +kernel) rfl
theorem gm_code_S_edge : Cond.code y_S_edge b_S_edge 3 (some .int) ∈ gtb := gtb_of 263 (by decide +kernel) rfl
theorem gm_ml_S_82 : Cond.methodLink R_S 82 y_E_read ∈ gtb := gtb_of 264 (by decide +kernel) rfl
theorem gm_im_E_read : Cond.instanceMethod y_E_read ∈ gtb := gtb_of 265 (by decide +kernel) rfl
theorem gm_sel_E_read : Cond.selects R_E y_E_read y_E_read ∈ gtb := gtb_of 266 (by decide +kernel) rfl
theorem gm_code_E_read : Cond.code y_E_read b_E_read 3 (some .int) ∈ gtb := gtb_of 267 (by decide +kernel) rfl
theorem gm_ml_L_39 : Cond.methodLink R_L 39 y_S_stop ∈ gtb := gtb_of 268 (by decide +kernel) rfl
theorem gm_im_S_stop : Cond.instanceMethod y_S_stop ∈ gtb := gtb_of 269 (by decide +kernel) rfl
theorem gm_sel_S_stop : Cond.selects R_S y_S_stop y_S_stop ∈ gtb := gtb_of 270 (by decide +kernel) rfl
theorem gm_code_S_stop : Cond.code y_S_stop b_S_stop 7 (some .int) ∈ gtb := gtb_of 271 (by decide +kernel) rfl
theorem gm_ml_S_93 : Cond.methodLink R_S 93 y_B_tell ∈ gtb := gtb_of 272 (by decide +kernel) rfl
theorem gm_im_B_tell : Cond.instanceMethod y_B_tell ∈ gtb := gtb_of 273 (by decide +kernel) rfl
theorem gm_sel_B_tell : Cond.selects R_B y_B_tell y_B_tell ∈ gtb := gtb_of 274 (by decide +kernel) rfl
theorem gm_code_B_tell : Cond.code y_B_tell b_B_tell 4 none ∈ gtb := gtb_of 275 (by decide +kernel) rfl
theorem gm_ml_B_58 : Cond.methodLink R_B 58 y_B_wayAt ∈ gtb := gtb_of 276 (by decide +kernel) rfl
theorem gm_ml_B_62 : Cond.methodLink R_B 62 y_B_gearAt ∈ gtb := gtb_of 277 (by decide +kernel) rfl
theorem gm_im_B_gearAt : Cond.instanceMethod y_B_gearAt ∈ gtb := gtb_of 278 (by decide +kernel) rfl
theorem gm_sel_B_gearAt : Cond.selects R_B y_B_gearAt y_B_gearAt ∈ gtb := gtb_of 279 (by decide +kernel) rfl
theorem gm_code_B_gearAt : Cond.code y_B_gearAt b_B_gearAt 3 (some .int) ∈ gtb := gtb_of 280 (by decide +kernel) rfl
theorem gm_ml_B_66 : Cond.methodLink R_B 66 y_B_layStages ∈ gtb := gtb_of 281 (by decide +kernel) rfl
theorem gm_ml_S_97 : Cond.methodLink R_S 97 y_S_aimItemsOn ∈ gtb := gtb_of 282 (by decide +kernel) rfl
theorem gm_im_S_aimItemsOn : Cond.instanceMethod y_S_aimItemsOn ∈ gtb := gtb_of 284 (by decide +kernel) rfl
theorem gm_code_S_aimItemsOn : Cond.code y_S_aimItemsOn b_S_aimItemsOn 3 none ∈ gtb := gtb_of 285 (by decide +kernel) rfl
theorem gm_ml_L_44 : Cond.methodLink R_L 44 y_S_slip ∈ gtb := gtb_of 286 (by decide +kernel) rfl
theorem gm_im_S_slip : Cond.instanceMethod y_S_slip ∈ gtb := gtb_of 287 (by decide +kernel) rfl
theorem gm_sel_S_slip : Cond.selects R_S y_S_slip y_S_slip ∈ gtb := gtb_of 288 (by decide +kernel) rfl
theorem gm_code_S_slip : Cond.code y_S_slip b_S_slip 7 (some .int) ∈ gtb := gtb_of 289 (by decide +kernel) rfl
theorem gm_ml_S_101 : Cond.methodLink R_S 101 y_S_itemNumbered ∈ gtb := gtb_of 290 (by decide +kernel) rfl
theorem gm_im_S_itemNumbered : Cond.instanceMethod y_S_itemNumbered ∈ gtb := gtb_of 292 (by decide +kernel) rfl
theorem gm_code_S_itemNumbered : Cond.code y_S_itemNumbered b_S_itemNumbered 2 (some (.object "BeltSteps$Item")) ∈ gtb := gtb_of 293 (by decide +kernel) rfl
theorem gm_k_S_105 : Cond.constantLong R_S 105 (1000000000) ∈ gtb := gtb_of 294 (by decide +kernel) rfl
theorem gm_ml_S_107 : Cond.methodLink R_S 107 y_I_isOnABelt ∈ gtb := gtb_of 295 (by decide +kernel) rfl
theorem gm_im_I_isOnABelt : Cond.instanceMethod y_I_isOnABelt ∈ gtb := gtb_of 296 (by decide +kernel) rfl
theorem gm_sel_I_isOnABelt : Cond.selects R_I y_I_isOnABelt y_I_isOnABelt ∈ gtb := gtb_of 297 (by decide +kernel) rfl
theorem gm_code_I_isOnABelt : Cond.code y_I_isOnABelt b_I_isOnABelt 1 (some .boolean) ∈ gtb := gtb_of 298 (by decide +kernel) rfl
theorem gm_ml_S_111 : Cond.methodLink R_S 111 y_I_placeAt ∈ gtb := gtb_of 299 (by decide +kernel) rfl
theorem gm_im_I_placeAt : Cond.instanceMethod y_I_placeAt ∈ gtb := gtb_of 300 (by decide +kernel) rfl
theorem gm_sel_I_placeAt : Cond.selects R_I y_I_placeAt y_I_placeAt ∈ gtb := gtb_of 301 (by decide +kernel) rfl
theorem gm_code_I_placeAt : Cond.code y_I_placeAt b_I_placeAt 3 (some .long) ∈ gtb := gtb_of 302 (by decide +kernel) rfl
theorem gm_ml_L_49 : Cond.methodLink R_L 49 y_S_place ∈ gtb := gtb_of 304 (by decide +kernel) rfl
theorem gm_im_S_place : Cond.instanceMethod y_S_place ∈ gtb := gtb_of 305 (by decide +kernel) rfl
theorem gm_sel_S_place : Cond.selects R_S y_S_place y_S_place ∈ gtb := gtb_of 306 (by decide +kernel) rfl
theorem gm_code_S_place : Cond.code y_S_place b_S_place 5 (some .long) ∈ gtb := gtb_of 307 (by decide +kernel) rfl
theorem gm_k_S_127 : Cond.constantLong R_S 127 (-11) ∈ gtb := gtb_of 308 (by decide +kernel) rfl
theorem gm_k_S_129 : Cond.constantLong R_S 129 (-12) ∈ gtb := gtb_of 309 (by decide +kernel) rfl
theorem gm_ml_S_131 : Cond.methodLink R_S 131 y_S_placeAhead ∈ gtb := gtb_of 310 (by decide +kernel) rfl
theorem gm_st_S_placeAhead : Cond.static y_S_placeAhead ∈ gtb := gtb_of 311 (by decide +kernel) rfl
theorem gm_code_S_placeAhead : Cond.code y_S_placeAhead b_S_placeAhead 12 (some .long) ∈ gtb := gtb_of 312 (by decide +kernel) rfl
theorem gm_k_S_196 : Cond.constantLong R_S 196 (-1) ∈ gtb := gtb_of 313 (by decide +kernel) rfl
theorem gm_k_S_201 : Cond.constantLong R_S 201 (-2) ∈ gtb := gtb_of 314 (by decide +kernel) rfl
theorem gm_ml_S_204 : Cond.methodLink R_S 204 y_B_timeOfWay ∈ gtb := gtb_of 315 (by decide +kernel) rfl
theorem gm_ml_L_54 : Cond.methodLink R_L 54 y_S_gap ∈ gtb := gtb_of 316 (by decide +kernel) rfl
theorem gm_im_S_gap : Cond.instanceMethod y_S_gap ∈ gtb := gtb_of 317 (by decide +kernel) rfl
theorem gm_sel_S_gap : Cond.selects R_S y_S_gap y_S_gap ∈ gtb := gtb_of 318 (by decide +kernel) rfl
theorem gm_code_S_gap : Cond.code y_S_gap b_S_gap 5 (some .int) ∈ gtb := gtb_of 319 (by decide +kernel) rfl
theorem gm_ml_L_58 : Cond.methodLink R_L 58 y_S_count ∈ gtb := gtb_of 320 (by decide +kernel) rfl
theorem gm_im_S_count : Cond.instanceMethod y_S_count ∈ gtb := gtb_of 321 (by decide +kernel) rfl
theorem gm_sel_S_count : Cond.selects R_S y_S_count y_S_count ∈ gtb := gtb_of 322 (by decide +kernel) rfl
theorem gm_code_S_count : Cond.code y_S_count b_S_count 5 (some .int) ∈ gtb := gtb_of 323 (by decide +kernel) rfl
theorem gm_ml_L_63 : Cond.methodLink R_L 63 y_S_gear ∈ gtb := gtb_of 324 (by decide +kernel) rfl
theorem gm_im_S_gear : Cond.instanceMethod y_S_gear ∈ gtb := gtb_of 325 (by decide +kernel) rfl
theorem gm_sel_S_gear : Cond.selects R_S y_S_gear y_S_gear ∈ gtb := gtb_of 326 (by decide +kernel) rfl
theorem gm_code_S_gear : Cond.code y_S_gear b_S_gear 5 (some .int) ∈ gtb := gtb_of 327 (by decide +kernel) rfl
theorem gm_ml_S_145 : Cond.methodLink R_S 145 y_B_gearAt ∈ gtb := gtb_of 328 (by decide +kernel) rfl
theorem gm_cl_L_10 : Cond.classLink R_L 10 R_M ∈ gtb := gtb_of 329 (by decide +kernel) rfl
theorem gm_inst_M : Cond.instantiable R_M 25 ∈ gtb := gtb_of 330 (by decide +kernel) rfl
theorem gm_ml_L_12 : Cond.methodLink R_L 12 y_M_init ∈ gtb := gtb_of 331 (by decide +kernel) rfl
theorem gm_im_M_init : Cond.instanceMethod y_M_init ∈ gtb := gtb_of 332 (by decide +kernel) rfl
theorem gm_code_M_init : Cond.code y_M_init b_M_init 1 none ∈ gtb := gtb_of 333 (by decide +kernel) rfl
theorem gm_ml_M_1 : Cond.methodLink R_M 1 objectInit ∈ gtb := gtb_of 334 (by decide +kernel) rfl
theorem gm_fl_M_69 : Cond.fieldLink R_M 69 "BeltStepsModel" "thrown" "I" ∈ gtb := gtb_of 335 (by decide +kernel) rfl
theorem gm_fl_M_79 : Cond.fieldLink R_M 79 "BeltStepsModel" "now" "J" ∈ gtb := gtb_of 336 (by decide +kernel) rfl
theorem gm_fl_M_73 : Cond.fieldLink R_M 73 "BeltStepsModel" "belts" "I" ∈ gtb := gtb_of 337 (by decide +kernel) rfl
theorem gm_fl_M_7 : Cond.fieldLink R_M 7 "BeltStepsModel" "longs" "[J" ∈ gtb := gtb_of 338 (by decide +kernel) rfl
theorem gm_fl_M_13 : Cond.fieldLink R_M 13 "BeltStepsModel" "speeds" "[J" ∈ gtb := gtb_of 339 (by decide +kernel) rfl
theorem gm_fl_M_16 : Cond.fieldLink R_M 16 "BeltStepsModel" "leads" "[I" ∈ gtb := gtb_of 340 (by decide +kernel) rfl
theorem gm_fl_M_20 : Cond.fieldLink R_M 20 "BeltStepsModel" "toldAt" "[J" ∈ gtb := gtb_of 341 (by decide +kernel) rfl
theorem gm_fl_M_23 : Cond.fieldLink R_M 23 "BeltStepsModel" "runs" "[Z" ∈ gtb := gtb_of 342 (by decide +kernel) rfl
theorem gm_fl_M_27 : Cond.fieldLink R_M 27 "BeltStepsModel" "before" "[I" ∈ gtb := gtb_of 343 (by decide +kernel) rfl
theorem gm_fl_M_30 : Cond.fieldLink R_M 30 "BeltStepsModel" "times" "[I" ∈ gtb := gtb_of 344 (by decide +kernel) rfl
theorem gm_fl_M_33 : Cond.fieldLink R_M 33 "BeltStepsModel" "rates" "[J" ∈ gtb := gtb_of 345 (by decide +kernel) rfl
theorem gm_fl_M_76 : Cond.fieldLink R_M 76 "BeltStepsModel" "items" "I" ∈ gtb := gtb_of 346 (by decide +kernel) rfl
theorem gm_fl_M_36 : Cond.fieldLink R_M 36 "BeltStepsModel" "size" "[J" ∈ gtb := gtb_of 347 (by decide +kernel) rfl
theorem gm_fl_M_39 : Cond.fieldLink R_M 39 "BeltStepsModel" "comes" "[J" ∈ gtb := gtb_of 348 (by decide +kernel) rfl
theorem gm_fl_M_42 : Cond.fieldLink R_M 42 "BeltStepsModel" "on" "[I" ∈ gtb := gtb_of 349 (by decide +kernel) rfl
theorem gm_fl_M_45 : Cond.fieldLink R_M 45 "BeltStepsModel" "place" "[J" ∈ gtb := gtb_of 350 (by decide +kernel) rfl
theorem gm_fl_M_48 : Cond.fieldLink R_M 48 "BeltStepsModel" "left" "[Z" ∈ gtb := gtb_of 351 (by decide +kernel) rfl
theorem gm_fl_M_51 : Cond.fieldLink R_M 51 "BeltStepsModel" "front" "[Z" ∈ gtb := gtb_of 352 (by decide +kernel) rfl
theorem gm_fl_M_54 : Cond.fieldLink R_M 54 "BeltStepsModel" "back" "[Z" ∈ gtb := gtb_of 353 (by decide +kernel) rfl
theorem gm_fl_M_116 : Cond.fieldLink R_M 116 "BeltStepsModel" "edges" "I" ∈ gtb := gtb_of 354 (by decide +kernel) rfl
theorem gm_fl_M_142 : Cond.fieldLink R_M 142 "BeltStepsModel" "known" "I" ∈ gtb := gtb_of 355 (by decide +kernel) rfl
theorem gm_fl_M_57 : Cond.fieldLink R_M 57 "BeltStepsModel" "edgeTime" "[J" ∈ gtb := gtb_of 356 (by decide +kernel) rfl
theorem gm_fl_M_60 : Cond.fieldLink R_M 60 "BeltStepsModel" "edgeBelt" "[I" ∈ gtb := gtb_of 357 (by decide +kernel) rfl
theorem gm_fl_M_63 : Cond.fieldLink R_M 63 "BeltStepsModel" "edgeItem" "[I" ∈ gtb := gtb_of 358 (by decide +kernel) rfl
theorem gm_fl_M_66 : Cond.fieldLink R_M 66 "BeltStepsModel" "edgeKind" "[I" ∈ gtb := gtb_of 359 (by decide +kernel) rfl
theorem gm_ac_boolean : Cond.arrayClass .boolean ∈ gtb := gtb_of 411 (by decide +kernel) rfl
theorem gm_ml_L_19 : Cond.methodLink R_L 19 y_M_belt ∈ gtb := gtb_of 412 (by decide +kernel) rfl
theorem gm_im_M_belt : Cond.instanceMethod y_M_belt ∈ gtb := gtb_of 413 (by decide +kernel) rfl
theorem gm_sel_M_belt : Cond.selects R_M y_M_belt y_M_belt ∈ gtb := gtb_of 414 (by decide +kernel) rfl
theorem gm_code_M_belt : Cond.code y_M_belt b_M_belt 5 (some .int) ∈ gtb := gtb_of 415 (by decide +kernel) rfl
theorem gm_k_M_89 : Cond.constantLong R_M 89 (100000) ∈ gtb := gtb_of 416 (by decide +kernel) rfl
theorem gm_k_M_91 : Cond.constantLong R_M 91 (100000000) ∈ gtb := gtb_of 417 (by decide +kernel) rfl
theorem gm_ml_M_85 : Cond.methodLink R_M 85 y_M_in ∈ gtb := gtb_of 418 (by decide +kernel) rfl
theorem gm_st_M_in : Cond.static y_M_in ∈ gtb := gtb_of 419 (by decide +kernel) rfl
theorem gm_code_M_in : Cond.code y_M_in b_M_in 6 (some .boolean) ∈ gtb := gtb_of 420 (by decide +kernel) rfl
theorem gm_k_M_93 : Cond.constantLong R_M 93 (5000) ∈ gtb := gtb_of 421 (by decide +kernel) rfl
theorem gm_ml_L_24 : Cond.methodLink R_L 24 y_M_join ∈ gtb := gtb_of 422 (by decide +kernel) rfl
theorem gm_im_M_join : Cond.instanceMethod y_M_join ∈ gtb := gtb_of 423 (by decide +kernel) rfl
theorem gm_sel_M_join : Cond.selects R_M y_M_join y_M_join ∈ gtb := gtb_of 424 (by decide +kernel) rfl
theorem gm_code_M_join : Cond.code y_M_join b_M_join 4 (some .int) ∈ gtb := gtb_of 425 (by decide +kernel) rfl
theorem gm_ml_M_95 : Cond.methodLink R_M 95 y_M_isBelt ∈ gtb := gtb_of 426 (by decide +kernel) rfl
theorem gm_im_M_isBelt : Cond.instanceMethod y_M_isBelt ∈ gtb := gtb_of 428 (by decide +kernel) rfl
theorem gm_code_M_isBelt : Cond.code y_M_isBelt b_M_isBelt 2 (some .boolean) ∈ gtb := gtb_of 429 (by decide +kernel) rfl
theorem gm_ml_L_29 : Cond.methodLink R_L 29 y_M_feed ∈ gtb := gtb_of 430 (by decide +kernel) rfl
theorem gm_im_M_feed : Cond.instanceMethod y_M_feed ∈ gtb := gtb_of 431 (by decide +kernel) rfl
theorem gm_sel_M_feed : Cond.selects R_M y_M_feed y_M_feed ∈ gtb := gtb_of 432 (by decide +kernel) rfl
theorem gm_code_M_feed : Cond.code y_M_feed b_M_feed 6 (some .int) ∈ gtb := gtb_of 433 (by decide +kernel) rfl
theorem gm_ml_M_99 : Cond.methodLink R_M 99 y_M_isTime ∈ gtb := gtb_of 434 (by decide +kernel) rfl
theorem gm_im_M_isTime : Cond.instanceMethod y_M_isTime ∈ gtb := gtb_of 436 (by decide +kernel) rfl
theorem gm_code_M_isTime : Cond.code y_M_isTime b_M_isTime 3 (some .boolean) ∈ gtb := gtb_of 437 (by decide +kernel) rfl
theorem gm_k_M_83 : Cond.constantLong R_M 83 (1000000) ∈ gtb := gtb_of 438 (by decide +kernel) rfl
theorem gm_ml_L_34 : Cond.methodLink R_L 34 y_M_step ∈ gtb := gtb_of 439 (by decide +kernel) rfl
theorem gm_im_M_step : Cond.instanceMethod y_M_step ∈ gtb := gtb_of 440 (by decide +kernel) rfl
theorem gm_sel_M_step : Cond.selects R_M y_M_step y_M_step ∈ gtb := gtb_of 441 (by decide +kernel) rfl
theorem gm_code_M_step : Cond.code y_M_step b_M_step 4 (some .int) ∈ gtb := gtb_of 442 (by decide +kernel) rfl
theorem gm_ml_M_138 : Cond.methodLink R_M 138 y_M_pass ∈ gtb := gtb_of 443 (by decide +kernel) rfl
theorem gm_im_M_pass : Cond.instanceMethod y_M_pass ∈ gtb := gtb_of 445 (by decide +kernel) rfl
theorem gm_code_M_pass : Cond.code y_M_pass b_M_pass 4 none ∈ gtb := gtb_of 446 (by decide +kernel) rfl
theorem gm_ml_M_128 : Cond.methodLink R_M 128 y_M_rateAt ∈ gtb := gtb_of 447 (by decide +kernel) rfl
theorem gm_im_M_rateAt : Cond.instanceMethod y_M_rateAt ∈ gtb := gtb_of 449 (by decide +kernel) rfl
theorem gm_code_M_rateAt : Cond.code y_M_rateAt b_M_rateAt 4 (some .long) ∈ gtb := gtb_of 450 (by decide +kernel) rfl
theorem gm_ml_M_107 : Cond.methodLink R_M 107 y_M_gearAt ∈ gtb := gtb_of 451 (by decide +kernel) rfl
theorem gm_im_M_gearAt : Cond.instanceMethod y_M_gearAt ∈ gtb := gtb_of 453 (by decide +kernel) rfl
theorem gm_code_M_gearAt : Cond.code y_M_gearAt b_M_gearAt 8 (some .int) ∈ gtb := gtb_of 454 (by decide +kernel) rfl
theorem gm_k_M_103 : Cond.constantLong R_M 103 (20) ∈ gtb := gtb_of 455 (by decide +kernel) rfl
theorem gm_k_M_105 : Cond.constantLong R_M 105 (8) ∈ gtb := gtb_of 456 (by decide +kernel) rfl
theorem gm_ml_M_111 : Cond.methodLink R_M 111 y_M_isThere ∈ gtb := gtb_of 457 (by decide +kernel) rfl
theorem gm_im_M_isThere : Cond.instanceMethod y_M_isThere ∈ gtb := gtb_of 459 (by decide +kernel) rfl
theorem gm_code_M_isThere : Cond.code y_M_isThere b_M_isThere 2 (some .boolean) ∈ gtb := gtb_of 460 (by decide +kernel) rfl
theorem gm_ml_M_132 : Cond.methodLink R_M 132 y_M_goOver ∈ gtb := gtb_of 461 (by decide +kernel) rfl
theorem gm_im_M_goOver : Cond.instanceMethod y_M_goOver ∈ gtb := gtb_of 463 (by decide +kernel) rfl
theorem gm_code_M_goOver : Cond.code y_M_goOver b_M_goOver 3 none ∈ gtb := gtb_of 464 (by decide +kernel) rfl
theorem gm_ml_M_135 : Cond.methodLink R_M 135 y_M_look ∈ gtb := gtb_of 465 (by decide +kernel) rfl
theorem gm_im_M_look : Cond.instanceMethod y_M_look ∈ gtb := gtb_of 467 (by decide +kernel) rfl
theorem gm_code_M_look : Cond.code y_M_look b_M_look 4 none ∈ gtb := gtb_of 468 (by decide +kernel) rfl
theorem gm_k_M_119 : Cond.constantLong R_M 119 (2) ∈ gtb := gtb_of 469 (by decide +kernel) rfl
theorem gm_ml_M_121 : Cond.methodLink R_M 121 y_M_isShort ∈ gtb := gtb_of 470 (by decide +kernel) rfl
theorem gm_im_M_isShort : Cond.instanceMethod y_M_isShort ∈ gtb := gtb_of 472 (by decide +kernel) rfl
theorem gm_code_M_isShort : Cond.code y_M_isShort b_M_isShort 5 (some .boolean) ∈ gtb := gtb_of 473 (by decide +kernel) rfl
theorem gm_k_M_114 : Cond.constantLong R_M 114 (50000) ∈ gtb := gtb_of 474 (by decide +kernel) rfl
theorem gm_ml_M_124 : Cond.methodLink R_M 124 y_M_tell ∈ gtb := gtb_of 475 (by decide +kernel) rfl
theorem gm_im_M_tell : Cond.instanceMethod y_M_tell ∈ gtb := gtb_of 477 (by decide +kernel) rfl
theorem gm_code_M_tell : Cond.code y_M_tell b_M_tell 3 none ∈ gtb := gtb_of 478 (by decide +kernel) rfl
theorem gm_ml_L_38 : Cond.methodLink R_L 38 y_M_edge ∈ gtb := gtb_of 479 (by decide +kernel) rfl
theorem gm_im_M_edge : Cond.instanceMethod y_M_edge ∈ gtb := gtb_of 480 (by decide +kernel) rfl
theorem gm_sel_M_edge : Cond.selects R_M y_M_edge y_M_edge ∈ gtb := gtb_of 481 (by decide +kernel) rfl
theorem gm_code_M_edge : Cond.code y_M_edge b_M_edge 3 (some .int) ∈ gtb := gtb_of 482 (by decide +kernel) rfl
theorem gm_ml_L_43 : Cond.methodLink R_L 43 y_M_stop ∈ gtb := gtb_of 483 (by decide +kernel) rfl
theorem gm_im_M_stop : Cond.instanceMethod y_M_stop ∈ gtb := gtb_of 484 (by decide +kernel) rfl
theorem gm_sel_M_stop : Cond.selects R_M y_M_stop y_M_stop ∈ gtb := gtb_of 485 (by decide +kernel) rfl
theorem gm_code_M_stop : Cond.code y_M_stop b_M_stop 5 (some .int) ∈ gtb := gtb_of 486 (by decide +kernel) rfl
theorem gm_ml_L_48 : Cond.methodLink R_L 48 y_M_slip ∈ gtb := gtb_of 487 (by decide +kernel) rfl
theorem gm_im_M_slip : Cond.instanceMethod y_M_slip ∈ gtb := gtb_of 488 (by decide +kernel) rfl
theorem gm_sel_M_slip : Cond.selects R_M y_M_slip y_M_slip ∈ gtb := gtb_of 489 (by decide +kernel) rfl
theorem gm_code_M_slip : Cond.code y_M_slip b_M_slip 6 (some .int) ∈ gtb := gtb_of 490 (by decide +kernel) rfl
theorem gm_ml_M_145 : Cond.methodLink R_M 145 y_M_isItem ∈ gtb := gtb_of 491 (by decide +kernel) rfl
theorem gm_im_M_isItem : Cond.instanceMethod y_M_isItem ∈ gtb := gtb_of 493 (by decide +kernel) rfl
theorem gm_code_M_isItem : Cond.code y_M_isItem b_M_isItem 2 (some .boolean) ∈ gtb := gtb_of 494 (by decide +kernel) rfl
theorem gm_k_M_148 : Cond.constantLong R_M 148 (1000000000) ∈ gtb := gtb_of 495 (by decide +kernel) rfl
theorem gm_ml_L_53 : Cond.methodLink R_L 53 y_M_place ∈ gtb := gtb_of 496 (by decide +kernel) rfl
theorem gm_im_M_place : Cond.instanceMethod y_M_place ∈ gtb := gtb_of 497 (by decide +kernel) rfl
theorem gm_sel_M_place : Cond.selects R_M y_M_place y_M_place ∈ gtb := gtb_of 498 (by decide +kernel) rfl
theorem gm_code_M_place : Cond.code y_M_place b_M_place 9 (some .long) ∈ gtb := gtb_of 499 (by decide +kernel) rfl
theorem gm_k_M_150 : Cond.constantLong R_M 150 (-11) ∈ gtb := gtb_of 500 (by decide +kernel) rfl
theorem gm_k_M_152 : Cond.constantLong R_M 152 (-12) ∈ gtb := gtb_of 501 (by decide +kernel) rfl
theorem gm_k_M_154 : Cond.constantLong R_M 154 (-1) ∈ gtb := gtb_of 502 (by decide +kernel) rfl
theorem gm_k_M_156 : Cond.constantLong R_M 156 (-2) ∈ gtb := gtb_of 503 (by decide +kernel) rfl
theorem gm_ml_L_57 : Cond.methodLink R_L 57 y_M_gap ∈ gtb := gtb_of 504 (by decide +kernel) rfl
theorem gm_im_M_gap : Cond.instanceMethod y_M_gap ∈ gtb := gtb_of 505 (by decide +kernel) rfl
theorem gm_sel_M_gap : Cond.selects R_M y_M_gap y_M_gap ∈ gtb := gtb_of 506 (by decide +kernel) rfl
theorem gm_code_M_gap : Cond.code y_M_gap b_M_gap 3 (some .int) ∈ gtb := gtb_of 507 (by decide +kernel) rfl
theorem gm_ml_L_62 : Cond.methodLink R_L 62 y_M_count ∈ gtb := gtb_of 508 (by decide +kernel) rfl
theorem gm_im_M_count : Cond.instanceMethod y_M_count ∈ gtb := gtb_of 509 (by decide +kernel) rfl
theorem gm_sel_M_count : Cond.selects R_M y_M_count y_M_count ∈ gtb := gtb_of 510 (by decide +kernel) rfl
theorem gm_code_M_count : Cond.code y_M_count b_M_count 4 (some .int) ∈ gtb := gtb_of 511 (by decide +kernel) rfl
theorem gm_ml_L_66 : Cond.methodLink R_L 66 y_M_gear ∈ gtb := gtb_of 512 (by decide +kernel) rfl
theorem gm_im_M_gear : Cond.instanceMethod y_M_gear ∈ gtb := gtb_of 513 (by decide +kernel) rfl
theorem gm_sel_M_gear : Cond.selects R_M y_M_gear y_M_gear ∈ gtb := gtb_of 514 (by decide +kernel) rfl
theorem gm_code_M_gear : Cond.code y_M_gear b_M_gear 4 (some .int) ∈ gtb := gtb_of 515 (by decide +kernel) rfl
theorem gm_k_L_13 : Cond.constantLong R_L 13 (4294967295) ∈ gtb := gtb_of 516 (by decide +kernel) rfl
theorem gm_ml_B_69 : Cond.methodLink R_B 69 Lib.Math.min.name ∈ gtb := gtb_of 122 (by decide +kernel) rfl
theorem gm_st_min : Cond.static Lib.Math.min.name ∈ gtb := gtb_of 123 (by decide +kernel) rfl
theorem gm_code_min : Cond.code Lib.Math.min.name Lib.Math.min.code 2 (some .int) ∈ gtb := gtb_of 124 (by decide +kernel) rfl
theorem gm_ml_B_75 : Cond.methodLink R_B 75 Lib.Math.max.name ∈ gtb := gtb_of 125 (by decide +kernel) rfl
theorem gm_st_max : Cond.static Lib.Math.max.name ∈ gtb := gtb_of 126 (by decide +kernel) rfl
theorem gm_code_max : Cond.code Lib.Math.max.name Lib.Math.max.code 2 (some .int) ∈ gtb := gtb_of 127 (by decide +kernel) rfl
theorem gm_ml_I_61 : Cond.methodLink R_I 61 Lib.MathLoose.min_long.x ∈ gtb := gtb_of 201 (by decide +kernel) rfl
theorem gm_st_minl : Cond.static Lib.MathLoose.min_long.x ∈ gtb := gtb_of 202 (by decide +kernel) rfl
theorem gm_code_minl : Cond.code Lib.MathLoose.min_long.x Lib.MathLoose.min_long.code 4 (some .long) ∈ gtb := gtb_of 203 (by decide +kernel) rfl
theorem gm_ml_S_115 : Cond.methodLink R_S 115 Lib.MathLoose.min_long.x ∈ gtb := gtb_of 303 (by decide +kernel) rfl
theorem gm_sel_S_beltNumbered : Cond.selects R_S y_S_beltNumbered y_S_beltNumbered ∈ gtb := gtb_sel (by decide +kernel) rfl
theorem gm_sel_S_isNowOrLater : Cond.selects R_S y_S_isNowOrLater y_S_isNowOrLater ∈ gtb := gtb_sel (by decide +kernel) rfl
theorem gm_sel_S_passTo : Cond.selects R_S y_S_passTo y_S_passTo ∈ gtb := gtb_sel (by decide +kernel) rfl
theorem gm_sel_S_nextTurn : Cond.selects R_S y_S_nextTurn y_S_nextTurn ∈ gtb := gtb_sel (by decide +kernel) rfl
theorem gm_sel_S_moveItems : Cond.selects R_S y_S_moveItems y_S_moveItems ∈ gtb := gtb_sel (by decide +kernel) rfl
theorem gm_sel_S_tellEdges : Cond.selects R_S y_S_tellEdges y_S_tellEdges ∈ gtb := gtb_sel (by decide +kernel) rfl
theorem gm_sel_S_tellEdgesOf : Cond.selects R_S y_S_tellEdgesOf y_S_tellEdgesOf ∈ gtb := gtb_sel (by decide +kernel) rfl
theorem gm_sel_S_isShort : Cond.selects R_S y_S_isShort y_S_isShort ∈ gtb := gtb_sel (by decide +kernel) rfl
theorem gm_sel_S_aimItemsOn : Cond.selects R_S y_S_aimItemsOn y_S_aimItemsOn ∈ gtb := gtb_sel (by decide +kernel) rfl
theorem gm_sel_S_itemNumbered : Cond.selects R_S y_S_itemNumbered y_S_itemNumbered ∈ gtb := gtb_sel (by decide +kernel) rfl
theorem gm_sel_M_isBelt : Cond.selects R_M y_M_isBelt y_M_isBelt ∈ gtb := gtb_sel (by decide +kernel) rfl
theorem gm_sel_M_isTime : Cond.selects R_M y_M_isTime y_M_isTime ∈ gtb := gtb_sel (by decide +kernel) rfl
theorem gm_sel_M_pass : Cond.selects R_M y_M_pass y_M_pass ∈ gtb := gtb_sel (by decide +kernel) rfl
theorem gm_sel_M_rateAt : Cond.selects R_M y_M_rateAt y_M_rateAt ∈ gtb := gtb_sel (by decide +kernel) rfl
theorem gm_sel_M_gearAt : Cond.selects R_M y_M_gearAt y_M_gearAt ∈ gtb := gtb_sel (by decide +kernel) rfl
theorem gm_sel_M_isThere : Cond.selects R_M y_M_isThere y_M_isThere ∈ gtb := gtb_sel (by decide +kernel) rfl
theorem gm_sel_M_goOver : Cond.selects R_M y_M_goOver y_M_goOver ∈ gtb := gtb_sel (by decide +kernel) rfl
theorem gm_sel_M_look : Cond.selects R_M y_M_look y_M_look ∈ gtb := gtb_sel (by decide +kernel) rfl
theorem gm_sel_M_isShort : Cond.selects R_M y_M_isShort y_M_isShort ∈ gtb := gtb_sel (by decide +kernel) rfl
theorem gm_sel_M_tell : Cond.selects R_M y_M_tell y_M_tell ∈ gtb := gtb_sel (by decide +kernel) rfl
theorem gm_sel_M_isItem : Cond.selects R_M y_M_isItem y_M_isItem ∈ gtb := gtb_sel (by decide +kernel) rfl
theorem u_B : ∀ w ∈ u_ws R_B F_B 13, w ∈ gtb := by decide +kernel
theorem u_E : ∀ w ∈ u_ws R_E F_E 3, w ∈ gtb := by decide +kernel
theorem u_I : ∀ w ∈ u_ws R_I F_I 8, w ∈ gtb := by decide +kernel
theorem u_S : ∀ w ∈ u_ws R_S F_S 6, w ∈ gtb := by decide +kernel
theorem u_M : ∀ w ∈ u_ws R_M F_M 25, w ∈ gtb := by decide +kernel
end
section
/-! Generic layer: the owned heap as a partial function g (address to cell), the judgement Go over it. -/
def gf (g : Nat → Option va_E) : Nat → va_E := fun a => (g a).getD (.inr (0, []))
theorem gf_some {g : Nat → Option va_E} {a : Nat} {e : va_E} (h : g a = some e) : gf g a = e := by simp [gf, h]
theorem gf_up (g : Nat → Option va_E) (a : Nat) (e : va_E) : gf (va_up g a (some e)) = va_up (gf g) a e := by
  funext j
  by_cases h : j = a <;> simp [gf, va_up, h]
def PW (D : va_G) (cl : List vw_C) (A : Nat → Prop) (g : Nat → Option va_E) (H : Heap) : Prop :=
  ∃ L : List Nat, (∀ a, a ∈ L ↔ ∃ e, g a = some e) ∧ va_P D cl (va_pl L (gf g)) H ∧ va_D A (va_pl L (gf g))
theorem PW.at {D : va_G} {cl : List vw_C} {A : Nat → Prop} {g : Nat → Option va_E} {H : Heap} {a : Nat} {e : va_E} (h : PW D cl A g H) (ha : g a = some e) :
    ∃ (L : List Nat) (k : Nat), (∀ a, a ∈ L ↔ ∃ e, g a = some e) ∧ va_P D cl (va_pl L (gf g)) H ∧ va_D A (va_pl L (gf g)) ∧ a ∈ L ∧ (va_pl L (gf g))[k]? = some (a, e) := by
  obtain ⟨L, hL, hP, hD⟩ := h
  have hm : a ∈ L := (hL a).mpr ⟨e, ha⟩
  obtain ⟨k, hk⟩ := va_pl_get (X := []) (f := gf g) hm
  rw [List.nil_append, gf_some ha] at hk
  exact ⟨L, k, hL, hP, hD, hm, hk⟩
theorem PW.set {D : va_G} {cl : List vw_C} {A : Nat → Prop} {g : Nat → Option va_E} {H1 : Heap} {a k : Nat} {e e1 : va_E} {L : List Nat} (ha : g a = some e) (hL : ∀ a, a ∈ L ↔ ∃ e, g a = some e) (hD : va_D A (va_pl L (gf g))) (hm : a ∈ L) (hk : (va_pl L (gf g))[k]? = some (a, e)) (hP1 : va_P D cl ((va_pl L (gf g)).set k (a, e1)) H1) (hD1 : va_D A ((va_pl L (gf g)).set k (a, e1))) : PW D cl A (va_up g a (some e1)) H1 := by
  have hs : (va_pl L (gf g)).set k (a, e1) = va_pl L (va_up (gf g) a e1) := by
    have := va_pl_set (A := A) (X := []) (L := L) (f := gf g) (a := a) (k := k) (e := e1) hD hm (by rw [List.nil_append, gf_some ha]; exact hk)
    simpa using this
  rw [hs, ← gf_up] at hP1 hD1
  refine ⟨L, fun b => ?_, hP1, hD1⟩
  by_cases hb : b = a
  · subst hb
    exact ⟨fun _ => ⟨e1, va_up_self _ _ _⟩, fun _ => hm⟩
  · rw [va_up_ne _ _ hb]
    exact hL b
theorem PW.push {D : va_G} {cl : List vw_C} {A : Nat → Prop} {g : Nat → Option va_E} {H1 : Heap} {a : Nat} {e : va_E} {L : List Nat} (hL : ∀ a, a ∈ L ↔ ∃ e, g a = some e) (hP1 : va_P D cl (va_pl L (gf g) ++ [(a, e)]) H1) (hD1 : va_D A (va_pl L (gf g) ++ [(a, e)])) : g a = none ∧ PW D cl A (va_up g a (some e)) H1 := by
  have hf : a ∉ L := va_pl_fresh2 (X := []) (by rw [List.nil_append]; exact hD1)
  have hg : g a = none := by
    cases h : g a with
    | none => rfl
    | some e0 => exact absurd ((hL a).mpr ⟨e0, h⟩) hf
  rw [va_pl_push hf, ← gf_up] at hP1 hD1
  refine ⟨hg, L ++ [a], fun b => ?_, hP1, hD1⟩
  rw [List.mem_append, List.mem_singleton]
  by_cases hb : b = a
  · subst hb
    exact ⟨fun _ => ⟨e, va_up_self _ _ _⟩, fun _ => Or.inr rfl⟩
  · rw [va_up_ne _ _ hb, hL b]
    exact ⟨fun h => h.elim id (fun q => absurd q hb), Or.inl⟩
theorem PW.weaken {D : va_G} {cl : List vw_C} {A B : Nat → Prop} {g : Nat → Option va_E} {H : Heap} (h : PW D cl A g H) (hAB : ∀ q e, g q = some e → A q → B q) : PW D cl B g H := by
  obtain ⟨L, hL, hP, hD⟩ := h
  refine ⟨L, hL, hP, hD.weaken fun k q hk hA => ?_⟩
  obtain ⟨b, hb, rfl⟩ := List.mem_map.mp (List.mem_of_getElem? hk)
  obtain ⟨e, he⟩ := (hL b).mp hb
  exact hAB b e he hA
theorem PW.inA {D : va_G} {cl : List vw_C} {A : Nat → Prop} {g : Nat → Option va_E} {H : Heap} {a : Nat} {e : va_E} (h : PW D cl A g H) (ha : g a = some e) : A a := by
  obtain ⟨L, k, -, -, hD, -, hk⟩ := h.at ha
  exact hD.2 k _ hk
theorem PW.lt {D : va_G} {cl : List vw_C} {A : Nat → Prop} {g : Nat → Option va_E} {H : Heap} {a : Nat} {e : va_E} (h : PW D cl A g H) (ha : g a = some e) : a < H.size := by
  obtain ⟨L, k, -, hP, -, -, hk⟩ := h.at ha
  exact (hP k _ hk).lt
def gA (g : Nat → Option va_E) (sz : Nat) : Nat → Prop := fun q => (∃ e, g q = some e) ∨ sz ≤ q
/-- what the tables say of the classes, the arrays, and the three words that don't go with a call -/
def Kx (D : va_G) (cl : List vw_C) (tys : List (ClassId × FieldType)) (U : State) : Prop := va_K D cl tys U ∧ va_AO "BeltSteps$Belt" U ∧ va_AO "BeltSteps$Item" U ∧ va_Nw (.methodLinkNest "BeltSteps" 30 y_E_init "BeltSteps") U
theorem Kx.warm {D : va_G} {cl : List vw_C} {tys : List (ClassId × FieldType)} {s U : State} (hW : s.WarmedH U.vm) (h : Kx D cl tys s) : Kx D cl tys U := ⟨va_K.moved hW.alike h.1, va_AO.moved hW.alike h.2.1, va_AO.moved hW.alike h.2.2.1, va_Nw.warmM hW h.2.2.2⟩
def Cx (p : Program) (s : State) (m : MethodId) (args : Array Value) (c : Code) (D : va_G) (cl : List vw_C) (A : Nat → Prop) (nL : Nat) (cc : ByteArray) (own : String) (Ts : List Cond) (tys : List (ClassId × FieldType)) : Prop :=
  CallFix p m c cc nL s args Ts own ∧ Kx D cl tys s ∧ ∀ q, s.heap.size ≤ q → A q
def Go (p : Program) (l : Launch) (e : Env) (R : Room) (s : State) (m : MethodId) (args : Array Value) (below : List Frame) (meth : Method) (c : Code) (D : va_G) (cl : List vw_C) (A : Nat → Prop) (nL : Nat) (Q : State → Prop) (g : Nat → Option va_E) (cells slots pc : Nat) (lv : List (Nat × Value)) (st : List Value) : Prop :=
  ∀ (H : Heap) (locs : List Loc) (ls : Array Slot), PW D cl A g H → va_S A s.heap H locs → lv_has ls nL lv → W p l e R s m args below meth c H locs cells slots Q (F0 m pc ls st)
section GO
variable {p : Program} {l : Launch} {e : Env} {R : Room} {s : State} {m : MethodId} {args : Array Value} {below : List Frame} {meth : Method} {c : Code} {D : va_G} {cl : List vw_C} {A : Nat → Prop} {nL : Nat} {Q : State → Prop} {g : Nat → Option va_E} {cells slots pc : Nat} {lv : List (Nat × Value)} {rest : List Value} {cc : ByteArray} {own : String} {Ts : List Cond} {tys : List (ClassId × FieldType)} {a : Nat}

theorem go_iconst (X : Cx p s m args c D cl A nL cc own Ts tys) {n : Int} {v : Int32} (hdg : decode cc pc = .ok (.iconst n, 1)) (hv : Int32.ofInt n = v) (k : Go p l e R s m args below meth c D cl A nL Q g cells slots (pc + 1) lv (.int v :: rest)) : Go p l e R s m args below meth c D cl A nL Q g cells slots pc lv (rest) :=
  fun H locs ls hP hS hl => lv_iconst X.1.1 X.1.2.1 hdg hv (k H locs ls hP hS hl)
theorem go_bipush (X : Cx p s m args c D cl A nL cc own Ts tys) {n : Int} {v : Int32} (hdg : decode cc pc = .ok (.bipush n, 2)) (hv : (Int8.ofInt n).toInt32 = v) (k : Go p l e R s m args below meth c D cl A nL Q g cells slots (pc + 2) lv (.int v :: rest)) : Go p l e R s m args below meth c D cl A nL Q g cells slots pc lv (rest) :=
  fun H locs ls hP hS hl => lv_bipush X.1.1 X.1.2.1 hdg hv (k H locs ls hP hS hl)
theorem go_sipush (X : Cx p s m args c D cl A nL cc own Ts tys) {n : Int} {v : Int32} (hdg : decode cc pc = .ok (.sipush n, 3)) (hv : (Int16.ofInt n).toInt32 = v) (k : Go p l e R s m args below meth c D cl A nL Q g cells slots (pc + 3) lv (.int v :: rest)) : Go p l e R s m args below meth c D cl A nL Q g cells slots pc lv (rest) :=
  fun H locs ls hP hS hl => lv_sipush X.1.1 X.1.2.1 hdg hv (k H locs ls hP hS hl)
theorem go_lconst (X : Cx p s m args c D cl A nL cc own Ts tys) {n : Fin 2} {v : Int64} (hdg : decode cc pc = .ok (.lconst n, 1)) (hv : Int64.ofNat (n : Nat) = v) (k : Go p l e R s m args below meth c D cl A nL Q g cells slots (pc + 1) lv (.long v :: rest)) : Go p l e R s m args below meth c D cl A nL Q g cells slots pc lv (rest) :=
  fun H locs ls hP hS hl => lv_lconst X.1.1 X.1.2.1 hdg hv (k H locs ls hP hS hl)
theorem go_null (X : Cx p s m args c D cl A nL cc own Ts tys)  (hdg : decode cc pc = .ok (.aconst_null, 1)) (k : Go p l e R s m args below meth c D cl A nL Q g cells slots (pc + 1) lv (.null :: rest)) : Go p l e R s m args below meth c D cl A nL Q g cells slots pc lv (rest) :=
  fun H locs ls hP hS hl => lv_null X.1.1 X.1.2.1 hdg (k H locs ls hP hS hl)
theorem go_ldc (X : Cx p s m args c D cl A nL cc own Ts tys) {index : Nat} {v : Int32} (hdg : decode cc pc = .ok (.ldc index, 2)) (hc : Cond.constant own index v ∈ Ts) (k : Go p l e R s m args below meth c D cl A nL Q g cells slots (pc + 2) lv (.int v :: rest)) : Go p l e R s m args below meth c D cl A nL Q g cells slots pc lv (rest) :=
  fun H locs ls hP hS hl => lv_ldc X.1.1 X.1.2.1 X.1.2.2.2.1 (X.1.2.2.2.2 _ hc) hdg (k H locs ls hP hS hl)
theorem go_ldc2 (X : Cx p s m args c D cl A nL cc own Ts tys) {index : Nat} {v : Int64} (hdg : decode cc pc = .ok (.ldc2_w index, 3)) (hc : Cond.constantLong own index v ∈ Ts) (k : Go p l e R s m args below meth c D cl A nL Q g cells slots (pc + 3) lv (.long v :: rest)) : Go p l e R s m args below meth c D cl A nL Q g cells slots pc lv (rest) :=
  fun H locs ls hP hS hl => lv_ldc2 X.1.1 X.1.2.1 X.1.2.2.2.1 (X.1.2.2.2.2 _ hc) hdg (k H locs ls hP hS hl)
theorem go_iload_n (X : Cx p s m args c D cl A nL cc own Ts tys) {j : Fin 4} {i z : Nat} {x : Int32} (hdg : decode cc pc = .ok (.iload_n j, 1)) (hi : (j : Nat) = i) (hk : lv[z]? = some (i, .int x)) (k : Go p l e R s m args below meth c D cl A nL Q g cells slots (pc + 1) lv (.int x :: rest)) : Go p l e R s m args below meth c D cl A nL Q g cells slots pc lv (rest) :=
  fun H locs ls hP hS hl => lv_iload_n X.1.1 X.1.2.1 hdg hi (lv_at hl z hk) (k H locs ls hP hS hl)
theorem go_iload (X : Cx p s m args c D cl A nL cc own Ts tys) {i z : Nat} {x : Int32} (hdg : decode cc pc = .ok (.iload i, 2)) (hk : lv[z]? = some (i, .int x)) (k : Go p l e R s m args below meth c D cl A nL Q g cells slots (pc + 2) lv (.int x :: rest)) : Go p l e R s m args below meth c D cl A nL Q g cells slots pc lv (rest) :=
  fun H locs ls hP hS hl => lv_iload X.1.1 X.1.2.1 hdg (lv_at hl z hk) (k H locs ls hP hS hl)
theorem go_istore_n (X : Cx p s m args c D cl A nL cc own Ts tys) {j : Fin 4} {i : Nat} {x : Int32} {lv' : List (Nat × Value)} (hdg : decode cc pc = .ok (.istore_n j, 1)) (hi : (j : Nat) = i) (hn : i < nL) (hl' : (i, Value.int x) :: lv.filter (fun q => !(q.1 == i) && !(q.1 + 1 == i && q.2.category == 2)) = lv') (k : Go p l e R s m args below meth c D cl A nL Q g cells slots (pc + 1) lv' rest) : Go p l e R s m args below meth c D cl A nL Q g cells slots pc lv (.int x :: rest) :=
  fun H locs ls hP hS hl => lv_istore_n X.1.1 X.1.2.1 hdg hi hl hn hl' (fun ls' hl2 => k H locs ls' hP hS hl2)
theorem go_istore (X : Cx p s m args c D cl A nL cc own Ts tys) {i : Nat} {x : Int32} {lv' : List (Nat × Value)} (hdg : decode cc pc = .ok (.istore i, 2)) (hn : i < nL) (hl' : (i, Value.int x) :: lv.filter (fun q => !(q.1 == i) && !(q.1 + 1 == i && q.2.category == 2)) = lv') (k : Go p l e R s m args below meth c D cl A nL Q g cells slots (pc + 2) lv' rest) : Go p l e R s m args below meth c D cl A nL Q g cells slots pc lv (.int x :: rest) :=
  fun H locs ls hP hS hl => lv_istore X.1.1 X.1.2.1 hdg hl hn hl' (fun ls' hl2 => k H locs ls' hP hS hl2)
theorem go_lload_n (X : Cx p s m args c D cl A nL cc own Ts tys) {j : Fin 4} {i z : Nat} {x : Int64} (hdg : decode cc pc = .ok (.lload_n j, 1)) (hi : (j : Nat) = i) (hk : lv[z]? = some (i, .long x)) (k : Go p l e R s m args below meth c D cl A nL Q g cells slots (pc + 1) lv (.long x :: rest)) : Go p l e R s m args below meth c D cl A nL Q g cells slots pc lv (rest) :=
  fun H locs ls hP hS hl => lv_lload_n X.1.1 X.1.2.1 hdg hi (lv_at hl z hk) (k H locs ls hP hS hl)
theorem go_lload (X : Cx p s m args c D cl A nL cc own Ts tys) {i z : Nat} {x : Int64} (hdg : decode cc pc = .ok (.lload i, 2)) (hk : lv[z]? = some (i, .long x)) (k : Go p l e R s m args below meth c D cl A nL Q g cells slots (pc + 2) lv (.long x :: rest)) : Go p l e R s m args below meth c D cl A nL Q g cells slots pc lv (rest) :=
  fun H locs ls hP hS hl => lv_lload X.1.1 X.1.2.1 hdg (lv_at hl z hk) (k H locs ls hP hS hl)
theorem go_lstore_n (X : Cx p s m args c D cl A nL cc own Ts tys) {j : Fin 4} {i : Nat} {x : Int64} {lv' : List (Nat × Value)} (hdg : decode cc pc = .ok (.lstore_n j, 1)) (hi : (j : Nat) = i) (hn : i + 1 < nL) (hl' : (i, Value.long x) :: lv.filter (fun q => !(q.1 == i) && (!(q.1 == i + 1) && !(q.1 + 1 == i && q.2.category == 2))) = lv') (k : Go p l e R s m args below meth c D cl A nL Q g cells slots (pc + 1) lv' rest) : Go p l e R s m args below meth c D cl A nL Q g cells slots pc lv (.long x :: rest) :=
  fun H locs ls hP hS hl => lv_lstore_n X.1.1 X.1.2.1 hdg hi hl hn hl' (fun ls' hl2 => k H locs ls' hP hS hl2)
theorem go_lstore (X : Cx p s m args c D cl A nL cc own Ts tys) {i : Nat} {x : Int64} {lv' : List (Nat × Value)} (hdg : decode cc pc = .ok (.lstore i, 2)) (hn : i + 1 < nL) (hl' : (i, Value.long x) :: lv.filter (fun q => !(q.1 == i) && (!(q.1 == i + 1) && !(q.1 + 1 == i && q.2.category == 2))) = lv') (k : Go p l e R s m args below meth c D cl A nL Q g cells slots (pc + 2) lv' rest) : Go p l e R s m args below meth c D cl A nL Q g cells slots pc lv (.long x :: rest) :=
  fun H locs ls hP hS hl => lv_lstore X.1.1 X.1.2.1 hdg hl hn hl' (fun ls' hl2 => k H locs ls' hP hS hl2)
theorem go_aload_n (X : Cx p s m args c D cl A nL cc own Ts tys) {j : Fin 4} {i z : Nat} {x : Nat} (hdg : decode cc pc = .ok (.aload_n j, 1)) (hi : (j : Nat) = i) (hk : lv[z]? = some (i, .ref x)) (k : Go p l e R s m args below meth c D cl A nL Q g cells slots (pc + 1) lv (.ref x :: rest)) : Go p l e R s m args below meth c D cl A nL Q g cells slots pc lv (rest) :=
  fun H locs ls hP hS hl => lv_aload_n X.1.1 X.1.2.1 hdg hi (lv_at hl z hk) (k H locs ls hP hS hl)
theorem go_aload (X : Cx p s m args c D cl A nL cc own Ts tys) {i z : Nat} {x : Nat} (hdg : decode cc pc = .ok (.aload i, 2)) (hk : lv[z]? = some (i, .ref x)) (k : Go p l e R s m args below meth c D cl A nL Q g cells slots (pc + 2) lv (.ref x :: rest)) : Go p l e R s m args below meth c D cl A nL Q g cells slots pc lv (rest) :=
  fun H locs ls hP hS hl => lv_aload X.1.1 X.1.2.1 hdg (lv_at hl z hk) (k H locs ls hP hS hl)
theorem go_astore_n (X : Cx p s m args c D cl A nL cc own Ts tys) {j : Fin 4} {i : Nat} {x : Nat} {lv' : List (Nat × Value)} (hdg : decode cc pc = .ok (.astore_n j, 1)) (hi : (j : Nat) = i) (hn : i < nL) (hl' : (i, Value.ref x) :: lv.filter (fun q => !(q.1 == i) && !(q.1 + 1 == i && q.2.category == 2)) = lv') (k : Go p l e R s m args below meth c D cl A nL Q g cells slots (pc + 1) lv' rest) : Go p l e R s m args below meth c D cl A nL Q g cells slots pc lv (.ref x :: rest) :=
  fun H locs ls hP hS hl => lv_astore_n X.1.1 X.1.2.1 hdg hi hl hn hl' (fun ls' hl2 => k H locs ls' hP hS hl2)
theorem go_astore (X : Cx p s m args c D cl A nL cc own Ts tys) {i : Nat} {x : Nat} {lv' : List (Nat × Value)} (hdg : decode cc pc = .ok (.astore i, 2)) (hn : i < nL) (hl' : (i, Value.ref x) :: lv.filter (fun q => !(q.1 == i) && !(q.1 + 1 == i && q.2.category == 2)) = lv') (k : Go p l e R s m args below meth c D cl A nL Q g cells slots (pc + 2) lv' rest) : Go p l e R s m args below meth c D cl A nL Q g cells slots pc lv (.ref x :: rest) :=
  fun H locs ls hP hS hl => lv_astore X.1.1 X.1.2.1 hdg hl hn hl' (fun ls' hl2 => k H locs ls' hP hS hl2)
theorem go_aload_nN (X : Cx p s m args c D cl A nL cc own Ts tys) {j : Fin 4} {i z : Nat} (hdg : decode cc pc = .ok (.aload_n j, 1)) (hi : (j : Nat) = i) (hk : lv[z]? = some (i, .null)) (k : Go p l e R s m args below meth c D cl A nL Q g cells slots (pc + 1) lv (.null :: rest)) : Go p l e R s m args below meth c D cl A nL Q g cells slots pc lv (rest) :=
  fun H locs ls hP hS hl => lv_aload_nN X.1.1 X.1.2.1 hdg hi (lv_at hl z hk) (k H locs ls hP hS hl)
theorem go_aloadN (X : Cx p s m args c D cl A nL cc own Ts tys) {i z : Nat} (hdg : decode cc pc = .ok (.aload i, 2)) (hk : lv[z]? = some (i, .null)) (k : Go p l e R s m args below meth c D cl A nL Q g cells slots (pc + 2) lv (.null :: rest)) : Go p l e R s m args below meth c D cl A nL Q g cells slots pc lv (rest) :=
  fun H locs ls hP hS hl => lv_aloadN X.1.1 X.1.2.1 hdg (lv_at hl z hk) (k H locs ls hP hS hl)
theorem go_astore_nN (X : Cx p s m args c D cl A nL cc own Ts tys) {j : Fin 4} {i : Nat} {lv' : List (Nat × Value)} (hdg : decode cc pc = .ok (.astore_n j, 1)) (hi : (j : Nat) = i) (hn : i < nL) (hl' : (i, Value.null) :: lv.filter (fun q => !(q.1 == i) && !(q.1 + 1 == i && q.2.category == 2)) = lv') (k : Go p l e R s m args below meth c D cl A nL Q g cells slots (pc + 1) lv' rest) : Go p l e R s m args below meth c D cl A nL Q g cells slots pc lv (.null :: rest) :=
  fun H locs ls hP hS hl => lv_astore_nN X.1.1 X.1.2.1 hdg hi hl hn hl' (fun ls' hl2 => k H locs ls' hP hS hl2)
theorem go_astoreN (X : Cx p s m args c D cl A nL cc own Ts tys) {i : Nat} {lv' : List (Nat × Value)} (hdg : decode cc pc = .ok (.astore i, 2)) (hn : i < nL) (hl' : (i, Value.null) :: lv.filter (fun q => !(q.1 == i) && !(q.1 + 1 == i && q.2.category == 2)) = lv') (k : Go p l e R s m args below meth c D cl A nL Q g cells slots (pc + 2) lv' rest) : Go p l e R s m args below meth c D cl A nL Q g cells slots pc lv (.null :: rest) :=
  fun H locs ls hP hS hl => lv_astoreN X.1.1 X.1.2.1 hdg hl hn hl' (fun ls' hl2 => k H locs ls' hP hS hl2)
theorem go_iinc (X : Cx p s m args c D cl A nL cc own Ts tys) {i j : Nat} {n : Int} {x v : Int32} {lv' : List (Nat × Value)} (hdg : decode cc pc = .ok (.iinc i n, 3)) (hk : lv[j]? = some (i, .int x)) (hv : x + Int32.ofInt n = v) (hn : i < nL) (hl' : (i, Value.int v) :: lv.filter (fun q => !(q.1 == i) && !(q.1 + 1 == i && q.2.category == 2)) = lv') (k : Go p l e R s m args below meth c D cl A nL Q g cells slots (pc + 3) lv' rest) : Go p l e R s m args below meth c D cl A nL Q g cells slots pc lv rest :=
  fun H locs ls hP hS hl => lv_iinc X.1.1 X.1.2.1 hdg hl hk hv hn hl' (fun ls' hl2 => k H locs ls' hP hS hl2)
theorem go_iadd (X : Cx p s m args c D cl A nL cc own Ts tys) {x y : Int32} (hdg : decode cc pc = .ok (.iadd, 1)) (k : Go p l e R s m args below meth c D cl A nL Q g cells slots (pc + 1) lv (.int (x + y) :: rest)) : Go p l e R s m args below meth c D cl A nL Q g cells slots pc lv (.int y :: .int x :: rest) :=
  fun H locs ls hP hS hl => lv_iadd X.1.1 X.1.2.1 hdg (k H locs ls hP hS hl)
theorem go_ladd (X : Cx p s m args c D cl A nL cc own Ts tys) {x y : Int64} (hdg : decode cc pc = .ok (.ladd, 1)) (k : Go p l e R s m args below meth c D cl A nL Q g cells slots (pc + 1) lv (.long (x + y) :: rest)) : Go p l e R s m args below meth c D cl A nL Q g cells slots pc lv (.long y :: .long x :: rest) :=
  fun H locs ls hP hS hl => lv_ladd X.1.1 X.1.2.1 hdg (k H locs ls hP hS hl)
theorem go_isub (X : Cx p s m args c D cl A nL cc own Ts tys) {x y : Int32} (hdg : decode cc pc = .ok (.isub, 1)) (k : Go p l e R s m args below meth c D cl A nL Q g cells slots (pc + 1) lv (.int (x - y) :: rest)) : Go p l e R s m args below meth c D cl A nL Q g cells slots pc lv (.int y :: .int x :: rest) :=
  fun H locs ls hP hS hl => lv_isub X.1.1 X.1.2.1 hdg (k H locs ls hP hS hl)
theorem go_lsub (X : Cx p s m args c D cl A nL cc own Ts tys) {x y : Int64} (hdg : decode cc pc = .ok (.lsub, 1)) (k : Go p l e R s m args below meth c D cl A nL Q g cells slots (pc + 1) lv (.long (x - y) :: rest)) : Go p l e R s m args below meth c D cl A nL Q g cells slots pc lv (.long y :: .long x :: rest) :=
  fun H locs ls hP hS hl => lv_lsub X.1.1 X.1.2.1 hdg (k H locs ls hP hS hl)
theorem go_imul (X : Cx p s m args c D cl A nL cc own Ts tys) {x y : Int32} (hdg : decode cc pc = .ok (.imul, 1)) (k : Go p l e R s m args below meth c D cl A nL Q g cells slots (pc + 1) lv (.int (x * y) :: rest)) : Go p l e R s m args below meth c D cl A nL Q g cells slots pc lv (.int y :: .int x :: rest) :=
  fun H locs ls hP hS hl => lv_imul X.1.1 X.1.2.1 hdg (k H locs ls hP hS hl)
theorem go_lmul (X : Cx p s m args c D cl A nL cc own Ts tys) {x y : Int64} (hdg : decode cc pc = .ok (.lmul, 1)) (k : Go p l e R s m args below meth c D cl A nL Q g cells slots (pc + 1) lv (.long (x * y) :: rest)) : Go p l e R s m args below meth c D cl A nL Q g cells slots pc lv (.long y :: .long x :: rest) :=
  fun H locs ls hP hS hl => lv_lmul X.1.1 X.1.2.1 hdg (k H locs ls hP hS hl)
theorem go_iand (X : Cx p s m args c D cl A nL cc own Ts tys) {x y : Int32} (hdg : decode cc pc = .ok (.iand, 1)) (k : Go p l e R s m args below meth c D cl A nL Q g cells slots (pc + 1) lv (.int (x &&& y) :: rest)) : Go p l e R s m args below meth c D cl A nL Q g cells slots pc lv (.int y :: .int x :: rest) :=
  fun H locs ls hP hS hl => lv_iand X.1.1 X.1.2.1 hdg (k H locs ls hP hS hl)
theorem go_land (X : Cx p s m args c D cl A nL cc own Ts tys) {x y : Int64} (hdg : decode cc pc = .ok (.land, 1)) (k : Go p l e R s m args below meth c D cl A nL Q g cells slots (pc + 1) lv (.long (x &&& y) :: rest)) : Go p l e R s m args below meth c D cl A nL Q g cells slots pc lv (.long y :: .long x :: rest) :=
  fun H locs ls hP hS hl => lv_land X.1.1 X.1.2.1 hdg (k H locs ls hP hS hl)
theorem go_ior (X : Cx p s m args c D cl A nL cc own Ts tys) {x y : Int32} (hdg : decode cc pc = .ok (.ior, 1)) (k : Go p l e R s m args below meth c D cl A nL Q g cells slots (pc + 1) lv (.int (x ||| y) :: rest)) : Go p l e R s m args below meth c D cl A nL Q g cells slots pc lv (.int y :: .int x :: rest) :=
  fun H locs ls hP hS hl => lv_ior X.1.1 X.1.2.1 hdg (k H locs ls hP hS hl)
theorem go_lor (X : Cx p s m args c D cl A nL cc own Ts tys) {x y : Int64} (hdg : decode cc pc = .ok (.lor, 1)) (k : Go p l e R s m args below meth c D cl A nL Q g cells slots (pc + 1) lv (.long (x ||| y) :: rest)) : Go p l e R s m args below meth c D cl A nL Q g cells slots pc lv (.long y :: .long x :: rest) :=
  fun H locs ls hP hS hl => lv_lor X.1.1 X.1.2.1 hdg (k H locs ls hP hS hl)
theorem go_ixor (X : Cx p s m args c D cl A nL cc own Ts tys) {x y : Int32} (hdg : decode cc pc = .ok (.ixor, 1)) (k : Go p l e R s m args below meth c D cl A nL Q g cells slots (pc + 1) lv (.int (x ^^^ y) :: rest)) : Go p l e R s m args below meth c D cl A nL Q g cells slots pc lv (.int y :: .int x :: rest) :=
  fun H locs ls hP hS hl => lv_ixor X.1.1 X.1.2.1 hdg (k H locs ls hP hS hl)
theorem go_lxor (X : Cx p s m args c D cl A nL cc own Ts tys) {x y : Int64} (hdg : decode cc pc = .ok (.lxor, 1)) (k : Go p l e R s m args below meth c D cl A nL Q g cells slots (pc + 1) lv (.long (x ^^^ y) :: rest)) : Go p l e R s m args below meth c D cl A nL Q g cells slots pc lv (.long y :: .long x :: rest) :=
  fun H locs ls hP hS hl => lv_lxor X.1.1 X.1.2.1 hdg (k H locs ls hP hS hl)
theorem go_idiv (X : Cx p s m args c D cl A nL cc own Ts tys) {x y : Int32} (hdg : decode cc pc = .ok (.idiv, 1)) (hne : ¬ y = 0) (k : Go p l e R s m args below meth c D cl A nL Q g cells slots (pc + 1) lv (.int (x / y) :: rest)) : Go p l e R s m args below meth c D cl A nL Q g cells slots pc lv (.int y :: .int x :: rest) :=
  fun H locs ls hP hS hl => lv_idiv X.1.1 X.1.2.1 hdg hne (k H locs ls hP hS hl)
theorem go_ldiv (X : Cx p s m args c D cl A nL cc own Ts tys) {x y : Int64} (hdg : decode cc pc = .ok (.ldiv, 1)) (hne : ¬ y = 0) (k : Go p l e R s m args below meth c D cl A nL Q g cells slots (pc + 1) lv (.long (x / y) :: rest)) : Go p l e R s m args below meth c D cl A nL Q g cells slots pc lv (.long y :: .long x :: rest) :=
  fun H locs ls hP hS hl => lv_ldiv X.1.1 X.1.2.1 hdg hne (k H locs ls hP hS hl)
theorem go_i2l (X : Cx p s m args c D cl A nL cc own Ts tys) {x : Int32} {v : Int64} (hdg : decode cc pc = .ok (.i2l, 1)) (hv : x.toInt64 = v) (k : Go p l e R s m args below meth c D cl A nL Q g cells slots (pc + 1) lv (.long v :: rest)) : Go p l e R s m args below meth c D cl A nL Q g cells slots pc lv (.int x :: rest) :=
  fun H locs ls hP hS hl => lv_i2l X.1.1 X.1.2.1 hdg hv (k H locs ls hP hS hl)
theorem go_l2i (X : Cx p s m args c D cl A nL cc own Ts tys) {x : Int64} {v : Int32} (hdg : decode cc pc = .ok (.l2i, 1)) (hv : x.toInt32 = v) (k : Go p l e R s m args below meth c D cl A nL Q g cells slots (pc + 1) lv (.int v :: rest)) : Go p l e R s m args below meth c D cl A nL Q g cells slots pc lv (.long x :: rest) :=
  fun H locs ls hP hS hl => lv_l2i X.1.1 X.1.2.1 hdg hv (k H locs ls hP hS hl)
theorem go_lcmp (X : Cx p s m args c D cl A nL cc own Ts tys) {x y : Int64} (hdg : decode cc pc = .ok (.lcmp, 1)) (k : Go p l e R s m args below meth c D cl A nL Q g cells slots (pc + 1) lv (.int (lg_cmp x y) :: rest)) : Go p l e R s m args below meth c D cl A nL Q g cells slots pc lv (.long y :: .long x :: rest) :=
  fun H locs ls hP hS hl => W.lcmp X.1.1 X.1.2.1 hdg (k H locs ls hP hS hl)
theorem go_dup (X : Cx p s m args c D cl A nL cc own Ts tys) {va : Value} (hdg : decode cc pc = .ok (.dup, 1)) (hva : va.category = 1) (k : Go p l e R s m args below meth c D cl A nL Q g cells slots (pc + 1) lv (va :: va :: rest)) : Go p l e R s m args below meth c D cl A nL Q g cells slots pc lv (va :: rest) :=
  fun H locs ls hP hS hl => lv_dup X.1.1 X.1.2.1 hdg hva (k H locs ls hP hS hl)
theorem go_dup_x1 (X : Cx p s m args c D cl A nL cc own Ts tys) {va vb : Value} (hdg : decode cc pc = .ok (.dup_x1, 1)) (hva : va.category = 1) (hvb : vb.category = 1) (k : Go p l e R s m args below meth c D cl A nL Q g cells slots (pc + 1) lv (va :: vb :: va :: rest)) : Go p l e R s m args below meth c D cl A nL Q g cells slots pc lv (va :: vb :: rest) :=
  fun H locs ls hP hS hl => lv_dup_x1 X.1.1 X.1.2.1 hdg hva hvb (k H locs ls hP hS hl)
theorem go_dup2 (X : Cx p s m args c D cl A nL cc own Ts tys) {va vb : Value} (hdg : decode cc pc = .ok (.dup2, 1)) (hva : va.category = 1) (hvb : vb.category = 1) (k : Go p l e R s m args below meth c D cl A nL Q g cells slots (pc + 1) lv (va :: vb :: va :: vb :: rest)) : Go p l e R s m args below meth c D cl A nL Q g cells slots pc lv (va :: vb :: rest) :=
  fun H locs ls hP hS hl => lv_dup2_11 X.1.1 X.1.2.1 hdg hva hvb (k H locs ls hP hS hl)
theorem go_pop (X : Cx p s m args c D cl A nL cc own Ts tys) {va : Value} (hdg : decode cc pc = .ok (.pop, 1)) (hva : va.category = 1) (k : Go p l e R s m args below meth c D cl A nL Q g cells slots (pc + 1) lv (rest)) : Go p l e R s m args below meth c D cl A nL Q g cells slots pc lv (va :: rest) :=
  fun H locs ls hP hS hl => lv_pop X.1.1 X.1.2.1 hdg hva (k H locs ls hP hS hl)
theorem go_if_eq (X : Cx p s m args c D cl A nL cc own Ts tys) {x : Int32} {off : Int} {tgt : Nat} (hdg : decode cc pc = .ok (.ifCond .eq off, 3)) (ht : (pc : Int) + off = (tgt : Int)) (kt : x = 0 → Go p l e R s m args below meth c D cl A nL Q g cells slots tgt lv rest) (kf : ¬ x = 0 → Go p l e R s m args below meth c D cl A nL Q g cells slots (pc + 3) lv rest) : Go p l e R s m args below meth c D cl A nL Q g cells slots pc lv (.int x :: rest) :=
  fun H locs ls hP hS hl => lv_if_eq X.1.1 X.1.2.1 hdg ht (fun q => kt q H locs ls hP hS hl) (fun q => kf q H locs ls hP hS hl)
theorem go_icmp_eq (X : Cx p s m args c D cl A nL cc own Ts tys) {x y : Int32} {off : Int} {tgt : Nat} (hdg : decode cc pc = .ok (.if_icmp .eq off, 3)) (ht : (pc : Int) + off = (tgt : Int)) (kt : x = y → Go p l e R s m args below meth c D cl A nL Q g cells slots tgt lv rest) (kf : ¬ x = y → Go p l e R s m args below meth c D cl A nL Q g cells slots (pc + 3) lv rest) : Go p l e R s m args below meth c D cl A nL Q g cells slots pc lv (.int y :: .int x :: rest) :=
  fun H locs ls hP hS hl => lv_icmp_eq X.1.1 X.1.2.1 hdg ht (fun q => kt q H locs ls hP hS hl) (fun q => kf q H locs ls hP hS hl)
theorem go_lif_eq (X : Cx p s m args c D cl A nL cc own Ts tys) {x y : Int64} {off : Int} {tgt : Nat} (hd1 : decode cc pc = .ok (.lcmp, 1)) (hdg : decode cc (pc + 1) = .ok (.ifCond .eq off, 3)) (ht : ((pc + 1 : Nat) : Int) + off = (tgt : Int)) (kt : x = y → Go p l e R s m args below meth c D cl A nL Q g cells slots tgt lv rest) (kf : ¬ x = y → Go p l e R s m args below meth c D cl A nL Q g cells slots (pc + 1 + 3) lv rest) : Go p l e R s m args below meth c D cl A nL Q g cells slots pc lv (.long y :: .long x :: rest) :=
  go_lcmp X hd1 (go_if_eq X hdg ht (fun q => kt ((lg_cmp_eq _ _).mp q)) (fun q => kf (fun w => q ((lg_cmp_eq _ _).mpr w))))
theorem go_if_ne (X : Cx p s m args c D cl A nL cc own Ts tys) {x : Int32} {off : Int} {tgt : Nat} (hdg : decode cc pc = .ok (.ifCond .ne off, 3)) (ht : (pc : Int) + off = (tgt : Int)) (kt : ¬ x = 0 → Go p l e R s m args below meth c D cl A nL Q g cells slots tgt lv rest) (kf : x = 0 → Go p l e R s m args below meth c D cl A nL Q g cells slots (pc + 3) lv rest) : Go p l e R s m args below meth c D cl A nL Q g cells slots pc lv (.int x :: rest) :=
  fun H locs ls hP hS hl => lv_if_ne X.1.1 X.1.2.1 hdg ht (fun q => kt q H locs ls hP hS hl) (fun q => kf q H locs ls hP hS hl)
theorem go_icmp_ne (X : Cx p s m args c D cl A nL cc own Ts tys) {x y : Int32} {off : Int} {tgt : Nat} (hdg : decode cc pc = .ok (.if_icmp .ne off, 3)) (ht : (pc : Int) + off = (tgt : Int)) (kt : ¬ x = y → Go p l e R s m args below meth c D cl A nL Q g cells slots tgt lv rest) (kf : x = y → Go p l e R s m args below meth c D cl A nL Q g cells slots (pc + 3) lv rest) : Go p l e R s m args below meth c D cl A nL Q g cells slots pc lv (.int y :: .int x :: rest) :=
  fun H locs ls hP hS hl => lv_icmp_ne X.1.1 X.1.2.1 hdg ht (fun q => kt q H locs ls hP hS hl) (fun q => kf q H locs ls hP hS hl)
theorem go_lif_ne (X : Cx p s m args c D cl A nL cc own Ts tys) {x y : Int64} {off : Int} {tgt : Nat} (hd1 : decode cc pc = .ok (.lcmp, 1)) (hdg : decode cc (pc + 1) = .ok (.ifCond .ne off, 3)) (ht : ((pc + 1 : Nat) : Int) + off = (tgt : Int)) (kt : ¬ x = y → Go p l e R s m args below meth c D cl A nL Q g cells slots tgt lv rest) (kf : x = y → Go p l e R s m args below meth c D cl A nL Q g cells slots (pc + 1 + 3) lv rest) : Go p l e R s m args below meth c D cl A nL Q g cells slots pc lv (.long y :: .long x :: rest) :=
  go_lcmp X hd1 (go_if_ne X hdg ht (fun q => kt (fun w => q ((lg_cmp_eq _ _).mpr w))) (fun q => kf ((lg_cmp_eq _ _).mp q)))
theorem go_if_lt (X : Cx p s m args c D cl A nL cc own Ts tys) {x : Int32} {off : Int} {tgt : Nat} (hdg : decode cc pc = .ok (.ifCond .lt off, 3)) (ht : (pc : Int) + off = (tgt : Int)) (kt : x < 0 → Go p l e R s m args below meth c D cl A nL Q g cells slots tgt lv rest) (kf : ¬ x < 0 → Go p l e R s m args below meth c D cl A nL Q g cells slots (pc + 3) lv rest) : Go p l e R s m args below meth c D cl A nL Q g cells slots pc lv (.int x :: rest) :=
  fun H locs ls hP hS hl => lv_if_lt X.1.1 X.1.2.1 hdg ht (fun q => kt q H locs ls hP hS hl) (fun q => kf q H locs ls hP hS hl)
theorem go_icmp_lt (X : Cx p s m args c D cl A nL cc own Ts tys) {x y : Int32} {off : Int} {tgt : Nat} (hdg : decode cc pc = .ok (.if_icmp .lt off, 3)) (ht : (pc : Int) + off = (tgt : Int)) (kt : x < y → Go p l e R s m args below meth c D cl A nL Q g cells slots tgt lv rest) (kf : ¬ x < y → Go p l e R s m args below meth c D cl A nL Q g cells slots (pc + 3) lv rest) : Go p l e R s m args below meth c D cl A nL Q g cells slots pc lv (.int y :: .int x :: rest) :=
  fun H locs ls hP hS hl => lv_icmp_lt X.1.1 X.1.2.1 hdg ht (fun q => kt q H locs ls hP hS hl) (fun q => kf q H locs ls hP hS hl)
theorem go_lif_lt (X : Cx p s m args c D cl A nL cc own Ts tys) {x y : Int64} {off : Int} {tgt : Nat} (hd1 : decode cc pc = .ok (.lcmp, 1)) (hdg : decode cc (pc + 1) = .ok (.ifCond .lt off, 3)) (ht : ((pc + 1 : Nat) : Int) + off = (tgt : Int)) (kt : x < y → Go p l e R s m args below meth c D cl A nL Q g cells slots tgt lv rest) (kf : ¬ x < y → Go p l e R s m args below meth c D cl A nL Q g cells slots (pc + 1 + 3) lv rest) : Go p l e R s m args below meth c D cl A nL Q g cells slots pc lv (.long y :: .long x :: rest) :=
  go_lcmp X hd1 (go_if_lt X hdg ht (fun q => kt ((lg_cmp_lt _ _).mp q)) (fun q => kf (fun w => q ((lg_cmp_lt _ _).mpr w))))
theorem go_if_ge (X : Cx p s m args c D cl A nL cc own Ts tys) {x : Int32} {off : Int} {tgt : Nat} (hdg : decode cc pc = .ok (.ifCond .ge off, 3)) (ht : (pc : Int) + off = (tgt : Int)) (kt : 0 ≤ x → Go p l e R s m args below meth c D cl A nL Q g cells slots tgt lv rest) (kf : ¬ 0 ≤ x → Go p l e R s m args below meth c D cl A nL Q g cells slots (pc + 3) lv rest) : Go p l e R s m args below meth c D cl A nL Q g cells slots pc lv (.int x :: rest) :=
  fun H locs ls hP hS hl => lv_if_ge X.1.1 X.1.2.1 hdg ht (fun q => kt q H locs ls hP hS hl) (fun q => kf q H locs ls hP hS hl)
theorem go_icmp_ge (X : Cx p s m args c D cl A nL cc own Ts tys) {x y : Int32} {off : Int} {tgt : Nat} (hdg : decode cc pc = .ok (.if_icmp .ge off, 3)) (ht : (pc : Int) + off = (tgt : Int)) (kt : y ≤ x → Go p l e R s m args below meth c D cl A nL Q g cells slots tgt lv rest) (kf : ¬ y ≤ x → Go p l e R s m args below meth c D cl A nL Q g cells slots (pc + 3) lv rest) : Go p l e R s m args below meth c D cl A nL Q g cells slots pc lv (.int y :: .int x :: rest) :=
  fun H locs ls hP hS hl => lv_icmp_ge X.1.1 X.1.2.1 hdg ht (fun q => kt q H locs ls hP hS hl) (fun q => kf q H locs ls hP hS hl)
theorem go_lif_ge (X : Cx p s m args c D cl A nL cc own Ts tys) {x y : Int64} {off : Int} {tgt : Nat} (hd1 : decode cc pc = .ok (.lcmp, 1)) (hdg : decode cc (pc + 1) = .ok (.ifCond .ge off, 3)) (ht : ((pc + 1 : Nat) : Int) + off = (tgt : Int)) (kt : y ≤ x → Go p l e R s m args below meth c D cl A nL Q g cells slots tgt lv rest) (kf : ¬ y ≤ x → Go p l e R s m args below meth c D cl A nL Q g cells slots (pc + 1 + 3) lv rest) : Go p l e R s m args below meth c D cl A nL Q g cells slots pc lv (.long y :: .long x :: rest) :=
  go_lcmp X hd1 (go_if_ge X hdg ht (fun q => kt ((lg_cmp_ge _ _).mp q)) (fun q => kf (fun w => q ((lg_cmp_ge _ _).mpr w))))
theorem go_if_gt (X : Cx p s m args c D cl A nL cc own Ts tys) {x : Int32} {off : Int} {tgt : Nat} (hdg : decode cc pc = .ok (.ifCond .gt off, 3)) (ht : (pc : Int) + off = (tgt : Int)) (kt : 0 < x → Go p l e R s m args below meth c D cl A nL Q g cells slots tgt lv rest) (kf : ¬ 0 < x → Go p l e R s m args below meth c D cl A nL Q g cells slots (pc + 3) lv rest) : Go p l e R s m args below meth c D cl A nL Q g cells slots pc lv (.int x :: rest) :=
  fun H locs ls hP hS hl => lv_if_gt X.1.1 X.1.2.1 hdg ht (fun q => kt q H locs ls hP hS hl) (fun q => kf q H locs ls hP hS hl)
theorem go_icmp_gt (X : Cx p s m args c D cl A nL cc own Ts tys) {x y : Int32} {off : Int} {tgt : Nat} (hdg : decode cc pc = .ok (.if_icmp .gt off, 3)) (ht : (pc : Int) + off = (tgt : Int)) (kt : y < x → Go p l e R s m args below meth c D cl A nL Q g cells slots tgt lv rest) (kf : ¬ y < x → Go p l e R s m args below meth c D cl A nL Q g cells slots (pc + 3) lv rest) : Go p l e R s m args below meth c D cl A nL Q g cells slots pc lv (.int y :: .int x :: rest) :=
  fun H locs ls hP hS hl => lv_icmp_gt X.1.1 X.1.2.1 hdg ht (fun q => kt q H locs ls hP hS hl) (fun q => kf q H locs ls hP hS hl)
theorem go_lif_gt (X : Cx p s m args c D cl A nL cc own Ts tys) {x y : Int64} {off : Int} {tgt : Nat} (hd1 : decode cc pc = .ok (.lcmp, 1)) (hdg : decode cc (pc + 1) = .ok (.ifCond .gt off, 3)) (ht : ((pc + 1 : Nat) : Int) + off = (tgt : Int)) (kt : y < x → Go p l e R s m args below meth c D cl A nL Q g cells slots tgt lv rest) (kf : ¬ y < x → Go p l e R s m args below meth c D cl A nL Q g cells slots (pc + 1 + 3) lv rest) : Go p l e R s m args below meth c D cl A nL Q g cells slots pc lv (.long y :: .long x :: rest) :=
  go_lcmp X hd1 (go_if_gt X hdg ht (fun q => kt ((lg_cmp_gt _ _).mp q)) (fun q => kf (fun w => q ((lg_cmp_gt _ _).mpr w))))
theorem go_if_le (X : Cx p s m args c D cl A nL cc own Ts tys) {x : Int32} {off : Int} {tgt : Nat} (hdg : decode cc pc = .ok (.ifCond .le off, 3)) (ht : (pc : Int) + off = (tgt : Int)) (kt : x ≤ 0 → Go p l e R s m args below meth c D cl A nL Q g cells slots tgt lv rest) (kf : ¬ x ≤ 0 → Go p l e R s m args below meth c D cl A nL Q g cells slots (pc + 3) lv rest) : Go p l e R s m args below meth c D cl A nL Q g cells slots pc lv (.int x :: rest) :=
  fun H locs ls hP hS hl => lv_if_le X.1.1 X.1.2.1 hdg ht (fun q => kt q H locs ls hP hS hl) (fun q => kf q H locs ls hP hS hl)
theorem go_icmp_le (X : Cx p s m args c D cl A nL cc own Ts tys) {x y : Int32} {off : Int} {tgt : Nat} (hdg : decode cc pc = .ok (.if_icmp .le off, 3)) (ht : (pc : Int) + off = (tgt : Int)) (kt : x ≤ y → Go p l e R s m args below meth c D cl A nL Q g cells slots tgt lv rest) (kf : ¬ x ≤ y → Go p l e R s m args below meth c D cl A nL Q g cells slots (pc + 3) lv rest) : Go p l e R s m args below meth c D cl A nL Q g cells slots pc lv (.int y :: .int x :: rest) :=
  fun H locs ls hP hS hl => lv_icmp_le X.1.1 X.1.2.1 hdg ht (fun q => kt q H locs ls hP hS hl) (fun q => kf q H locs ls hP hS hl)
theorem go_lif_le (X : Cx p s m args c D cl A nL cc own Ts tys) {x y : Int64} {off : Int} {tgt : Nat} (hd1 : decode cc pc = .ok (.lcmp, 1)) (hdg : decode cc (pc + 1) = .ok (.ifCond .le off, 3)) (ht : ((pc + 1 : Nat) : Int) + off = (tgt : Int)) (kt : x ≤ y → Go p l e R s m args below meth c D cl A nL Q g cells slots tgt lv rest) (kf : ¬ x ≤ y → Go p l e R s m args below meth c D cl A nL Q g cells slots (pc + 1 + 3) lv rest) : Go p l e R s m args below meth c D cl A nL Q g cells slots pc lv (.long y :: .long x :: rest) :=
  go_lcmp X hd1 (go_if_le X hdg ht (fun q => kt ((lg_cmp_le _ _).mp q)) (fun q => kf (fun w => q ((lg_cmp_le _ _).mpr w))))
theorem go_goto (X : Cx p s m args c D cl A nL cc own Ts tys) {off : Int} {tgt : Nat} (hdg : decode cc pc = .ok (.goto off, 3)) (ht : (pc : Int) + off = (tgt : Int)) (k : Go p l e R s m args below meth c D cl A nL Q g cells slots tgt lv rest) : Go p l e R s m args below meth c D cl A nL Q g cells slots pc lv rest :=
  fun H locs ls hP hS hl => lv_goto X.1.1 X.1.2.1 hdg ht (k H locs ls hP hS hl)
theorem go_ifnonnull (X : Cx p s m args c D cl A nL cc own Ts tys) {x : Nat} {off : Int} {tgt : Nat} (hdg : decode cc pc = .ok (.ifnonnull off, 3)) (ht : (pc : Int) + off = (tgt : Int)) (k : Go p l e R s m args below meth c D cl A nL Q g cells slots tgt lv rest) : Go p l e R s m args below meth c D cl A nL Q g cells slots pc lv (.ref x :: rest) :=
  fun H locs ls hP hS hl => lv_ifnonnull X.1.1 X.1.2.1 hdg ht (k H locs ls hP hS hl)
theorem go_ifnull (X : Cx p s m args c D cl A nL cc own Ts tys) {x : Nat} {off : Int} (hdg : decode cc pc = .ok (.ifnull off, 3)) (k : Go p l e R s m args below meth c D cl A nL Q g cells slots (pc + 3) lv rest) : Go p l e R s m args below meth c D cl A nL Q g cells slots pc lv (.ref x :: rest) :=
  fun H locs ls hP hS hl => lv_ifnull X.1.1 X.1.2.1 hdg (k H locs ls hP hS hl)
theorem go_ifnullN (X : Cx p s m args c D cl A nL cc own Ts tys) {off : Int} {tgt : Nat} (hdg : decode cc pc = .ok (.ifnull off, 3)) (ht : (pc : Int) + off = (tgt : Int)) (k : Go p l e R s m args below meth c D cl A nL Q g cells slots tgt lv rest) : Go p l e R s m args below meth c D cl A nL Q g cells slots pc lv (.null :: rest) :=
  fun H locs ls hP hS hl => lv_ifnullN X.1.1 X.1.2.1 hdg ht (k H locs ls hP hS hl)
theorem go_ifnonnullN (X : Cx p s m args c D cl A nL cc own Ts tys) {off : Int} (hdg : decode cc pc = .ok (.ifnonnull off, 3)) (k : Go p l e R s m args below meth c D cl A nL Q g cells slots (pc + 3) lv rest) : Go p l e R s m args below meth c D cl A nL Q g cells slots pc lv (.null :: rest) :=
  fun H locs ls hP hS hl => lv_ifnonnullN X.1.1 X.1.2.1 hdg (k H locs ls hP hS hl)
theorem go_acmp_eq (X : Cx p s m args c D cl A nL cc own Ts tys) {rx ry : Option Nat} {off : Int} {tgt : Nat} (hdg : decode cc pc = .ok (.if_acmp .eq off, 3)) (ht : (pc : Int) + off = (tgt : Int)) (kt : rx = ry → Go p l e R s m args below meth c D cl A nL Q g cells slots tgt lv rest) (kf : ¬ rx = ry → Go p l e R s m args below meth c D cl A nL Q g cells slots (pc + 3) lv rest) : Go p l e R s m args below meth c D cl A nL Q g cells slots pc lv (va_rf ry :: va_rf rx :: rest) :=
  fun H locs ls hP hS hl => lv_acmp_eq X.1.1 X.1.2.1 hdg ht (fun q => kt q H locs ls hP hS hl) (fun q => kf q H locs ls hP hS hl)
theorem go_acmp_ne (X : Cx p s m args c D cl A nL cc own Ts tys) {rx ry : Option Nat} {off : Int} {tgt : Nat} (hdg : decode cc pc = .ok (.if_acmp .ne off, 3)) (ht : (pc : Int) + off = (tgt : Int)) (kt : ¬ rx = ry → Go p l e R s m args below meth c D cl A nL Q g cells slots tgt lv rest) (kf : rx = ry → Go p l e R s m args below meth c D cl A nL Q g cells slots (pc + 3) lv rest) : Go p l e R s m args below meth c D cl A nL Q g cells slots pc lv (va_rf ry :: va_rf rx :: rest) :=
  fun H locs ls hP hS hl => lv_acmp_ne X.1.1 X.1.2.1 hdg ht (fun q => kt q H locs ls hP hS hl) (fun q => kf q H locs ls hP hS hl)
theorem go_get (X : Cx p s m args c D cl A nL cc own Ts tys) {ref C : String} {T : u_T} {N ci index : Nat} {fs : List Value} (hin : ∀ w ∈ u_ws C T N, w ∈ Ts) (hc : cl[ci]? = some (C, T, N)) (i : Nat) (hi : i < N) (hlink : Cond.fieldLink own index ref (T i).2.1 (T i).2.2.1 ∈ Ts) (hsame : (T i).1 = ref) {v : Value} (hdg : decode cc pc = .ok (.getfield index, 3)) (ha : g a = some (.inr (ci, fs))) (hv : fs[i]? = some v) (k : Go p l e R s m args below meth c D cl A nL Q g cells slots (pc + 3) lv (v :: rest)) : Go p l e R s m args below meth c D cl A nL Q g cells slots pc lv (.ref a :: rest) := by
  intro H locs ls hP hS hl
  obtain ⟨L, q0, hL, hP0, hD, hm, hk⟩ := hP.at ha
  exact va_get X.1.1 X.1.2.1 X.1.2.2.2.2 hin X.1.2.2.2.1 X.2.1.1 hP0 q0 hk hc i hi (X.1.2.2.2.2 _ hlink) (fun x h => by rw [← hsame]; exact h) hv hdg (k H locs ls hP hS hl)
theorem go_put (X : Cx p s m args c D cl A nL cc own Ts tys) {ref C : String} {T : u_T} {N ci index : Nat} {fs : List Value} (hin : ∀ w ∈ u_ws C T N, w ∈ Ts) (hc : cl[ci]? = some (C, T, N)) (i : Nat) (hi : i < N) (hlink : Cond.fieldLink own index ref (T i).2.1 (T i).2.2.1 ∈ Ts) (hsame : (T i).1 = ref) (ty0 : Nat → FieldType) (hty : ∀ k, k < N → parseFieldDescriptor (T k).2.2.1 = some (ty0 k)) (hnm : ∀ a, a < N → ∀ b, b < N → a ≠ b → (T a).2.1 ≠ (T b).2.1) (hfin : (T i).2.2.2 = false) {v : Value} (hn : narrow (ty0 i) v = v) (hfit : fits (ty0 i) v = true) (hdg : decode cc pc = .ok (.putfield index, 3)) (ha : g a = some (.inr (ci, fs))) (hl0 : i < fs.length) (k : Go p l e R s m args below meth c D cl A nL Q (va_up g a (some (.inr (ci, fs.set i v)))) cells slots (pc + 3) lv rest) : Go p l e R s m args below meth c D cl A nL Q g cells slots pc lv (v :: .ref a :: rest) := by
  intro H locs ls hP hS hl
  obtain ⟨L, q0, hL, hP0, hD, hm, hk⟩ := hP.at ha
  exact va_put X.1.1 X.1.2.1 X.1.2.2.2.2 hin ty0 hty hnm X.1.2.2.2.1 X.2.1.1 hP0 hD hS q0 hk hc i hi (X.1.2.2.2.2 _ hlink) (fun x h => by rw [← hsame]; exact h) hfin (hty i hi) hn hfit hl0 hdg (fun H1 locs1 hP1 hD1 hS1 => k H1 locs1 ls (PW.set ha hL hD hm hk hP1 hD1) hS1 hl)
theorem go_putF (X : Cx p s m args c D cl A nL cc own Ts tys) {ref C : String} {T : u_T} {N ci index : Nat} {fs : List Value} (hin : ∀ w ∈ u_ws C T N, w ∈ Ts) (hc : cl[ci]? = some (C, T, N)) (i : Nat) (hi : i < N) (hlink : Cond.fieldLink own index ref (T i).2.1 (T i).2.2.1 ∈ Ts) (hsame : (T i).1 = ref) (ty0 : Nat → FieldType) (hty : ∀ k, k < N → parseFieldDescriptor (T k).2.2.1 = some (ty0 k)) (hnm : ∀ a, a < N → ∀ b, b < N → a ≠ b → (T a).2.1 ≠ (T b).2.1) (hfin : (T i).2.2.2 = true) (hin2 : meth.name = "<init>") (hdecl : (T i).1 = own) {v : Value} (hn : narrow (ty0 i) v = v) (hfit : fits (ty0 i) v = true) (hdg : decode cc pc = .ok (.putfield index, 3)) (ha : g a = some (.inr (ci, fs))) (hl0 : i < fs.length) (k : Go p l e R s m args below meth c D cl A nL Q (va_up g a (some (.inr (ci, fs.set i v)))) cells slots (pc + 3) lv rest) : Go p l e R s m args below meth c D cl A nL Q g cells slots pc lv (v :: .ref a :: rest) := by
  intro H locs ls hP hS hl
  obtain ⟨L, q0, hL, hP0, hD, hm, hk⟩ := hP.at ha
  exact va_putF X.1.1 X.1.2.1 X.1.2.2.2.2 hin ty0 hty hnm X.1.2.2.2.1 X.2.1.1 hP0 hD hS q0 hk hc i hi (X.1.2.2.2.2 _ hlink) (fun x h => by rw [← hsame]; exact h) hfin hin2 hdecl (hty i hi) hn hfit hl0 hdg (fun H1 locs1 hP1 hD1 hS1 => k H1 locs1 ls (PW.set ha hL hD hm hk hP1 hD1) hS1 hl)
theorem go_getN (X : Cx p s m args c D cl A nL cc own Ts tys) {host : String} {ref C : String} {T : u_T} {N ci index : Nat} {fs : List Value} (hin : ∀ w ∈ u_ws C T N, w ∈ Ts) (hc : cl[ci]? = some (C, T, N)) (i : Nat) (hi : i < N) (hlink : Cond.fieldLinkNest own index ref (T i).2.1 (T i).2.2.1 host ∈ Ts) (hsame : (T i).1 = ref) {v : Value} (hdg : decode cc pc = .ok (.getfield index, 3)) (ha : g a = some (.inr (ci, fs))) (hv : fs[i]? = some v) (k : Go p l e R s m args below meth c D cl A nL Q g cells slots (pc + 3) lv (v :: rest)) : Go p l e R s m args below meth c D cl A nL Q g cells slots pc lv (.ref a :: rest) := by
  intro H locs ls hP hS hl
  obtain ⟨L, q0, hL, hP0, hD, hm, hk⟩ := hP.at ha
  exact va_getN X.1.1 X.1.2.1 X.1.2.2.2.2 hin X.1.2.2.2.1 X.2.1.1 hP0 q0 hk hc i hi (X.1.2.2.2.2 _ hlink) (fun x h => by rw [← hsame]; exact h) hv hdg (k H locs ls hP hS hl)
theorem go_putN (X : Cx p s m args c D cl A nL cc own Ts tys) {host : String} {ref C : String} {T : u_T} {N ci index : Nat} {fs : List Value} (hin : ∀ w ∈ u_ws C T N, w ∈ Ts) (hc : cl[ci]? = some (C, T, N)) (i : Nat) (hi : i < N) (hlink : Cond.fieldLinkNest own index ref (T i).2.1 (T i).2.2.1 host ∈ Ts) (hsame : (T i).1 = ref) (ty0 : Nat → FieldType) (hty : ∀ k, k < N → parseFieldDescriptor (T k).2.2.1 = some (ty0 k)) (hnm : ∀ a, a < N → ∀ b, b < N → a ≠ b → (T a).2.1 ≠ (T b).2.1) (hfin : (T i).2.2.2 = false) {v : Value} (hn : narrow (ty0 i) v = v) (hfit : fits (ty0 i) v = true) (hdg : decode cc pc = .ok (.putfield index, 3)) (ha : g a = some (.inr (ci, fs))) (hl0 : i < fs.length) (k : Go p l e R s m args below meth c D cl A nL Q (va_up g a (some (.inr (ci, fs.set i v)))) cells slots (pc + 3) lv rest) : Go p l e R s m args below meth c D cl A nL Q g cells slots pc lv (v :: .ref a :: rest) := by
  intro H locs ls hP hS hl
  obtain ⟨L, q0, hL, hP0, hD, hm, hk⟩ := hP.at ha
  exact va_putN X.1.1 X.1.2.1 X.1.2.2.2.2 hin ty0 hty hnm X.1.2.2.2.1 X.2.1.1 hP0 hD hS q0 hk hc i hi (X.1.2.2.2.2 _ hlink) (fun x h => by rw [← hsame]; exact h) hfin (hty i hi) hn hfit hl0 hdg (fun H1 locs1 hP1 hD1 hS1 => k H1 locs1 ls (PW.set ha hL hD hm hk hP1 hD1) hS1 hl)
theorem go_iald (X : Cx p s m args c D cl A nL cc own Ts tys) (t0 : Nat) {cA : ClassId} {n : Nat} {f : Nat → Int32} {i : Int32} (ht : tys[t0]? = some (cA, .int)) (hdg : decode cc pc = .ok (.iaload, 1)) (ha : g a = some (.inl (cA, n, .inl f))) (hin : vp_in i n) (k : Go p l e R s m args below meth c D cl A nL Q g cells slots (pc + 1) lv (.int (f i.toNatClampNeg) :: rest)) : Go p l e R s m args below meth c D cl A nL Q g cells slots pc lv (.int i :: .ref a :: rest) := by
  intro H locs ls hP hS hl
  obtain ⟨L, q0, hL, hP0, hD, hm, hk⟩ := hP.at ha
  exact va_iald X.1.1 X.1.2.1 X.2.1.1 hP0 q0 t0 hk ht hin hdg (k H locs ls hP hS hl)
theorem go_iast (X : Cx p s m args c D cl A nL cc own Ts tys) (t0 : Nat) {cA : ClassId} {n : Nat} {f : Nat → Int32} {i : Int32} {x : Int32} (ht : tys[t0]? = some (cA, .int)) (hdg : decode cc pc = .ok (.iastore, 1)) (ha : g a = some (.inl (cA, n, .inl f))) (hin : vp_in i n) (k : Go p l e R s m args below meth c D cl A nL Q (va_up g a (some (.inl (cA, n, .inl (upd f i.toNatClampNeg x))))) cells slots (pc + 1) lv rest) : Go p l e R s m args below meth c D cl A nL Q g cells slots pc lv (.int x :: .int i :: .ref a :: rest) := by
  intro H locs ls hP hS hl
  obtain ⟨L, q0, hL, hP0, hD, hm, hk⟩ := hP.at ha
  exact va_iast X.1.1 X.1.2.1 X.2.1.1 hP0 hD hS q0 t0 hk ht hin hdg (fun H1 locs1 hP1 hD1 hS1 => k H1 locs1 ls (PW.set ha hL hD hm hk hP1 hD1) hS1 hl)
theorem go_lald (X : Cx p s m args c D cl A nL cc own Ts tys) (t0 : Nat) {cA : ClassId} {n : Nat} {f : Nat → Int64} {i : Int32} (ht : tys[t0]? = some (cA, .long)) (hdg : decode cc pc = .ok (.laload, 1)) (ha : g a = some (.inl (cA, n, .inr (.inl f)))) (hin : vp_in i n) (k : Go p l e R s m args below meth c D cl A nL Q g cells slots (pc + 1) lv (.long (f i.toNatClampNeg) :: rest)) : Go p l e R s m args below meth c D cl A nL Q g cells slots pc lv (.int i :: .ref a :: rest) := by
  intro H locs ls hP hS hl
  obtain ⟨L, q0, hL, hP0, hD, hm, hk⟩ := hP.at ha
  exact va_lald X.1.1 X.1.2.1 X.2.1.1 hP0 q0 t0 hk ht hin hdg (k H locs ls hP hS hl)
theorem go_last (X : Cx p s m args c D cl A nL cc own Ts tys) (t0 : Nat) {cA : ClassId} {n : Nat} {f : Nat → Int64} {i : Int32} {x : Int64} (ht : tys[t0]? = some (cA, .long)) (hdg : decode cc pc = .ok (.lastore, 1)) (ha : g a = some (.inl (cA, n, .inr (.inl f)))) (hin : vp_in i n) (k : Go p l e R s m args below meth c D cl A nL Q (va_up g a (some (.inl (cA, n, .inr (.inl (vp_updL f i.toNatClampNeg x)))))) cells slots (pc + 1) lv rest) : Go p l e R s m args below meth c D cl A nL Q g cells slots pc lv (.long x :: .int i :: .ref a :: rest) := by
  intro H locs ls hP hS hl
  obtain ⟨L, q0, hL, hP0, hD, hm, hk⟩ := hP.at ha
  exact va_last X.1.1 X.1.2.1 X.2.1.1 hP0 hD hS q0 t0 hk ht hin hdg (fun H1 locs1 hP1 hD1 hS1 => k H1 locs1 ls (PW.set ha hL hD hm hk hP1 hD1) hS1 hl)
theorem go_zald (X : Cx p s m args c D cl A nL cc own Ts tys) (t0 : Nat) {cA : ClassId} {n : Nat} {f : Nat → Int32} {i : Int32} (ht : tys[t0]? = some (cA, .boolean)) (hdg : decode cc pc = .ok (.baload, 1)) (ha : g a = some (.inl (cA, n, .inl f))) (hin : vp_in i n) (k : Go p l e R s m args below meth c D cl A nL Q g cells slots (pc + 1) lv (.int (f i.toNatClampNeg) :: rest)) : Go p l e R s m args below meth c D cl A nL Q g cells slots pc lv (.int i :: .ref a :: rest) := by
  intro H locs ls hP hS hl
  obtain ⟨L, q0, hL, hP0, hD, hm, hk⟩ := hP.at ha
  exact va_zald X.1.1 X.1.2.1 X.2.1.1 hP0 q0 t0 hk ht hin hdg (k H locs ls hP hS hl)
theorem go_zast (X : Cx p s m args c D cl A nL cc own Ts tys) (t0 : Nat) {cA : ClassId} {n : Nat} {f : Nat → Int32} {i : Int32} {x : Int32} (ht : tys[t0]? = some (cA, .boolean)) (hdg : decode cc pc = .ok (.bastore, 1)) (ha : g a = some (.inl (cA, n, .inl f))) (hin : vp_in i n) (k : Go p l e R s m args below meth c D cl A nL Q (va_up g a (some (.inl (cA, n, .inl (upd f i.toNatClampNeg (vp_nar .boolean x)))))) cells slots (pc + 1) lv rest) : Go p l e R s m args below meth c D cl A nL Q g cells slots pc lv (.int x :: .int i :: .ref a :: rest) := by
  intro H locs ls hP hS hl
  obtain ⟨L, q0, hL, hP0, hD, hm, hk⟩ := hP.at ha
  exact va_zast X.1.1 X.1.2.1 X.2.1.1 hP0 hD hS q0 t0 hk ht hin hdg (fun H1 locs1 hP1 hD1 hS1 => k H1 locs1 ls (PW.set ha hL hD hm hk hP1 hD1) hS1 hl)
theorem go_aald (X : Cx p s m args c D cl A nL cc own Ts tys) (t0 : Nat) {cA : ClassId} {C : String} {n : Nat} {f : Nat → Option Nat} {i : Int32} (ht : tys[t0]? = some (cA, .object C)) (hdg : decode cc pc = .ok (.aaload, 1)) (ha : g a = some (.inl (cA, n, .inr (.inr (.inr (.inr f)))))) (hin : vp_in i n) (k : Go p l e R s m args below meth c D cl A nL Q g cells slots (pc + 1) lv (va_rf (f i.toNatClampNeg) :: rest)) : Go p l e R s m args below meth c D cl A nL Q g cells slots pc lv (.int i :: .ref a :: rest) := by
  intro H locs ls hP hS hl
  obtain ⟨L, q0, hL, hP0, hD, hm, hk⟩ := hP.at ha
  exact va_aldq X.1.1 X.1.2.1 X.2.1.1 hP0 q0 t0 hk ht hin hdg (k H locs ls hP hS hl)
theorem go_aast (X : Cx p s m args c D cl A nL cc own Ts tys) (t0 ci : Nat) {cA : ClassId} {r : vw_C} {n v : Nat} {vs : List Value} {f : Nat → Option Nat} {i : Int32} (ht : tys[t0]? = some (cA, .object r.1)) (hc : cl[ci]? = some r) (hdg : decode cc pc = .ok (.aastore, 1)) (ha : g a = some (.inl (cA, n, .inr (.inr (.inr (.inr f)))))) (hv : g v = some (.inr (ci, vs))) (hin : vp_in i n) (k : Go p l e R s m args below meth c D cl A nL Q (va_up g a (some (.inl (cA, n, .inr (.inr (.inr (.inr (va_up f i.toNatClampNeg (some v))))))))) cells slots (pc + 1) lv rest) : Go p l e R s m args below meth c D cl A nL Q g cells slots pc lv (.ref v :: .int i :: .ref a :: rest) := by
  intro H locs ls hP hS hl
  obtain ⟨L, q0, hL, hP0, hD, hm, hk⟩ := hP.at ha
  obtain ⟨qk, hqk⟩ := va_pl_get (X := []) (f := gf g) ((hL v).mpr ⟨_, hv⟩)
  rw [List.nil_append, gf_some hv] at hqk
  exact va_astq X.1.1 X.1.2.1 X.2.1.1 hP0 hD hS q0 t0 qk ci hk ht hqk hc hin hdg (fun H1 locs1 hP1 hD1 hS1 => k H1 locs1 ls (PW.set ha hL hD hm hk hP1 hD1) hS1 hl)
theorem go_alen (X : Cx p s m args c D cl A nL cc own Ts tys) (t0 : Nat) {cA : ClassId} {x : vp_A} {ty : FieldType} {v : Int32} (ht : tys[t0]? = some (cA, ty)) (hdg : decode cc pc = .ok (.arraylength, 1)) (ha : g a = some (.inl (cA, x))) (hv : Int32.ofNat x.1 = v) (k : Go p l e R s m args below meth c D cl A nL Q g cells slots (pc + 1) lv (.int v :: rest)) : Go p l e R s m args below meth c D cl A nL Q g cells slots pc lv (.ref a :: rest) := by
  intro H locs ls hP hS hl
  obtain ⟨L, q0, hL, hP0, hD, hm, hk⟩ := hP.at ha
  exact va_alen X.1.1 X.1.2.1 X.2.1.1 hP0 q0 t0 hk ht hv hdg (k H locs ls hP hS hl)
theorem go_newa (X : Cx p s m args c D cl A nL cc own Ts tys) (t0 : Nat) {atype : ArrayType} {ty : FieldType} {cA : ClassId} {n : Int32} {N : Nat} {a0 : vp_A} (ht : tys[t0]? = some (cA, ty)) (hty : newarray.typeOf atype = ty) (hrf : ∀ C, ty ≠ .object C) (harr : Cond.arrayClass (newarray.typeOf atype) ∈ Ts) (ha0 : ∀ cA : ClassId, vp_cell cA a0 = arrV cA N (fun _ => defaultValue ty)) (hn : ¬ n < 0) (hN : n.toNatClampNeg = N) (hbytes : N * componentBytes ty ≤ 536870912) (hcells : cells + 1 ≤ R.cells) (hslots : slots + N ≤ R.slots) (hdg : decode cc pc = .ok (.newarray atype, 2)) (k : ∀ q : Nat, g q = none → Go p l e R s m args below meth c D cl A nL Q (va_up g q (some (.inl (cA, a0)))) (cells + 1) (slots + N) (pc + 2) lv (.ref q :: rest)) : Go p l e R s m args below meth c D cl A nL Q g cells slots pc lv (.int n :: rest) := by
  intro H locs ls hP hS hl
  obtain ⟨L, hL, hP0, hD⟩ := hP
  refine va_newa X.1.1 X.1.2.1 (X.1.2.2.2.2 _ harr) hty X.2.1.1 hP0 hD hS X.2.2 ha0 hn hN hbytes hcells hslots hdg (fun q cB H1 hK1 hP1 hD1 hS1 => ?_)
  have hB := (hK1.2 tys.length (cB, ty) (by simp)).2
  have hA := (X.2.1.1.2 t0 (cA, ty) ht).2
  have hAB : cB = cA := by
    cases ty with
    | object C => exact absurd rfl (hrf C)
    | _ => exact Option.some.inj (hB.symm.trans hA)
  subst hAB
  obtain ⟨hq, hP2⟩ := PW.push hL hP1 hD1
  exact k q hq H1 locs ls hP2 hS1 hl
theorem go_newq (X : Cx p s m args c D cl A nL cc own Ts tys) (t0 : Nat) {C : String} {index : Nat} {cA : ClassId} {n : Int32} {N : Nat} (ht : tys[t0]? = some (cA, .object C)) (hclink : Cond.classLink own index C ∈ Ts) (hover : va_AO C s) (hn : ¬ n < 0) (hN : n.toNatClampNeg = N) (hbytes : N * 4 ≤ 536870912) (hcells : cells + 1 ≤ R.cells) (hslots : slots + N ≤ R.slots) (hdg : decode cc pc = .ok (.anewarray index, 3)) (k : ∀ q : Nat, g q = none → Go p l e R s m args below meth c D cl A nL Q (va_up g q (some (.inl (cA, N, .inr (.inr (.inr (.inr (fun _ => none)))))))) (cells + 1) (slots + N) (pc + 3) lv (.ref q :: rest)) : Go p l e R s m args below meth c D cl A nL Q g cells slots pc lv (.int n :: rest) := by
  intro H locs ls hP hS hl
  obtain ⟨L, hL, hP0, hD⟩ := hP
  refine va_newq X.1.1 X.1.2.1 X.1.2.2.2.1 (X.1.2.2.2.2 _ hclink) hover X.2.1.1 hP0 hD hS X.2.2 hn hN hbytes hcells hslots hdg (fun q cB H1 hK1 hP1 hD1 hS1 => ?_)
  obtain ⟨_, _, _, _, _, hB⟩ := (hK1.2 tys.length (cB, .object C) (by simp)).2
  obtain ⟨_, _, _, _, _, hA⟩ := (X.2.1.1.2 t0 (cA, .object C) ht).2
  have hAB : cB = cA := Option.some.inj (hB.symm.trans hA)
  subst hAB
  obtain ⟨hq, hP2⟩ := PW.push hL hP1 hD1
  exact k q hq H1 locs ls hP2 hS1 hl
theorem go_new (X : Cx p s m args c D cl A nL cc own Ts tys) {C : String} {T : u_T} {N ci index : Nat} {fs : List Value} (hin : ∀ w ∈ u_ws C T N, w ∈ Ts) (ty0 : Nat → FieldType) (hty : ∀ k, k < N → parseFieldDescriptor (T k).2.2.1 = some (ty0 k)) (hcl : Cond.classLink own index C ∈ Ts) (hinst : Cond.instantiable C N ∈ Ts) (hini : Cond.initialized C ∈ Ts) (hc : cl[ci]? = some (C, T, N)) (hfs : ∀ j, j < N → defaultValue (ty0 j) = vp_V fs j) (hcells : cells + 1 ≤ R.cells) (hslots : slots + N ≤ R.slots) (hdg : decode cc pc = .ok (.new index, 3)) (k : ∀ q : Nat, g q = none → Go p l e R s m args below meth c D cl A nL Q (va_up g q (some (.inr (ci, fs)))) (cells + 1) (slots + N) (pc + 3) lv (.ref q :: rest)) : Go p l e R s m args below meth c D cl A nL Q g cells slots pc lv rest := by
  intro H locs ls hP hS hl
  obtain ⟨L, hL, hP0, hD⟩ := hP
  refine va_new X.1.1 X.1.2.1 X.1.2.2.2.2 hin ty0 hty X.1.2.2.2.1 (X.1.2.2.2.2 _ hcl) (X.1.2.2.2.2 _ hinst) (X.1.2.2.2.2 _ hini) X.2.1.1 hP0 hD hS X.2.2 hc hfs hcells hslots hdg (fun q H1 hP1 hD1 hS1 => ?_)
  obtain ⟨hq, hP2⟩ := PW.push hL hP1 hD1
  exact k q hq H1 locs ls hP2 hS1 hl
theorem go_widen {k n : Nat} (h1 : cells ≤ k) (h2 : slots ≤ n) (kk : Go p l e R s m args below meth c D cl A nL Q g k n pc lv rest) : Go p l e R s m args below meth c D cl A nL Q g cells slots pc lv rest :=
  fun H locs ls hP hS hl => W.widen h1 h2 (kk H locs ls hP hS hl)
theorem go_sub {lv' : List (Nat × Value)} (ks : List Nat) (h : lv_pick lv ks = lv') (k : Go p l e R s m args below meth c D cl A nL Q g cells slots pc lv' rest) : Go p l e R s m args below meth c D cl A nL Q g cells slots pc lv rest :=
  fun H locs ls hP hS hl => k H locs ls hP hS (lv_sub hl ks h)
theorem go_objInit (X : Cx p s m args c D cl A nL cc own Ts tys) {idx : Nat} (hlink : Cond.methodLink own idx objectInit ∈ Ts) (hinst : Cond.instanceMethod objectInit ∈ Ts) (hcode : Cond.code objectInit ⟨#[0xb1]⟩ 1 none ∈ Ts) (hd : decode cc pc = .ok (.invokespecial idx, 3)) (hframes : 1 ≤ R.frames) (hlocals : (rest.map fun v => v.category).sum + 12 ≤ R.locals) (k : Go p l e R s m args below meth c D cl A nL Q g cells slots (pc + 3) lv rest) : Go p l e R s m args below meth c D cl A nL Q g cells slots pc lv (.ref a :: rest) := by
  intro H locs ls hP hS hl
  refine W.objInit X.1.1 X.1.2.1 X.1.2.2.2.1 (X.1.2.2.2.2 _ hlink) (X.1.2.2.2.2 _ hinst) (X.1.2.2.2.2 _ hcode) rfl (by rw [X.1.2.2.1]; exact hl.1) rfl hd hframes (by show 2 * 0 + _ + 12 ≤ _; omega) ?_
  exact k H locs ls hP hS hl
def CtI (l : Launch) (D : va_G) (cl : List vw_C) (tys : List (ClassId × FieldType)) (y : MethodName) (b : ByteArray) (nM : Nat) (ret : Option FieldType) (rm : Room) (av : List Value) (g : Nat → Option va_E) (post : Int32 → (Nat → Option va_E) → Prop) : Prop :=
  ∀ sz : Nat, Met l y (Cond.code y b nM ret :: gtb) rm (va_Pc av (fun U => U.heap.size = sz ∧ PW D cl (fun _ => True) g U.heap ∧ Kx D cl tys U)) (va_Qi post (fun (g' : Nat → Option va_E) (t : State) => PW D cl (gA g sz) g' t.heap) (gA g sz)) rm.cells rm.slots (gA g sz)
def CtL (l : Launch) (D : va_G) (cl : List vw_C) (tys : List (ClassId × FieldType)) (y : MethodName) (b : ByteArray) (nM : Nat) (ret : Option FieldType) (rm : Room) (av : List Value) (g : Nat → Option va_E) (post : Int64 → (Nat → Option va_E) → Prop) : Prop :=
  ∀ sz : Nat, Met l y (Cond.code y b nM ret :: gtb) rm (va_Pc av (fun U => U.heap.size = sz ∧ PW D cl (fun _ => True) g U.heap ∧ Kx D cl tys U)) (va_Ql post (fun (g' : Nat → Option va_E) (t : State) => PW D cl (gA g sz) g' t.heap) (gA g sz)) rm.cells rm.slots (gA g sz)
def CtV (l : Launch) (D : va_G) (cl : List vw_C) (tys : List (ClassId × FieldType)) (y : MethodName) (b : ByteArray) (nM : Nat) (ret : Option FieldType) (rm : Room) (av : List Value) (g : Nat → Option va_E) (post : (Nat → Option va_E) → Prop) : Prop :=
  ∀ sz : Nat, Met l y (Cond.code y b nM ret :: gtb) rm (va_Pc av (fun U => U.heap.size = sz ∧ PW D cl (fun _ => True) g U.heap ∧ Kx D cl tys U)) (va_Qv post (fun (g' : Nat → Option va_E) (t : State) => PW D cl (gA g sz) g' t.heap) (gA g sz)) rm.cells rm.slots (gA g sz)
def CtR (l : Launch) (D : va_G) (cl : List vw_C) (tys : List (ClassId × FieldType)) (y : MethodName) (b : ByteArray) (nM : Nat) (ret : Option FieldType) (rm : Room) (av : List Value) (g : Nat → Option va_E) (post : Option Nat → (Nat → Option va_E) → Prop) : Prop :=
  ∀ sz : Nat, Met l y (Cond.code y b nM ret :: gtb) rm (va_Pc av (fun U => U.heap.size = sz ∧ PW D cl (fun _ => True) g U.heap ∧ Kx D cl tys U)) (va_Qq post (fun (g' : Nat → Option va_E) (t : State) => PW D cl (gA g sz) g' t.heap) (gA g sz)) rm.cells rm.slots (gA g sz)
theorem gA_in {s : State} {H : Heap} {locs : List Loc} {D : va_G} {cl : List vw_C} {A : Nat → Prop} {g : Nat → Option va_E} (hP : PW D cl A g H) (hS : va_S A s.heap H locs) (hA : ∀ q, s.heap.size ≤ q → A q) : ∀ q, gA g H.size q → A q := by
  intro q h
  rcases h with ⟨e, h⟩ | h
  · exact hP.inA h
  · exact hA q (Nat.le_trans hS.1 h)
theorem pw_blind {D : va_G} {cl : List vw_C} {tys : List (ClassId × FieldType)} {g : Nat → Option va_E} {av : List Value} {sz : Nat} : FrameBlind (va_Pc av (fun U => U.heap.size = sz ∧ PW D cl (fun _ => True) g U.heap ∧ Kx D cl tys U)) := by
  intro b U f mk q
  obtain ⟨q0, q1, qP, qK⟩ := q
  exact ⟨q0, q1, qP, ⟨va_K.moved (u := U) (U := U.calling f mk b) (Vm.Alike.refl U.vm) qK.1, va_AO.moved (u := U) (U := U.calling f mk b) (Vm.Alike.refl U.vm) qK.2.1, va_AO.moved (u := U) (U := U.calling f mk b) (Vm.Alike.refl U.vm) qK.2.2.1, va_Nw.same rfl rfl qK.2.2.2⟩⟩
theorem pw_preS {s : State} {H : Heap} {D : va_G} {cl : List vw_C} {tys : List (ClassId × FieldType)} {A : Nat → Prop} {g : Nat → Option va_E} {av : List Value} (hK : Kx D cl tys s) (hP : PW D cl A g H) : PreS s H (va_Pc av (fun U => U.heap.size = H.size ∧ PW D cl (fun _ => True) g U.heap ∧ Kx D cl tys U)) av :=
  ⟨pw_blind, fun U hU hW => ⟨rfl, by rw [hU], by rw [hU]; exact hP.weaken (fun _ _ _ _ => trivial), hK.warm hW⟩⟩
theorem pw_preV {s : State} {H : Heap} {D : va_G} {cl : List vw_C} {tys : List (ClassId × FieldType)} {A : Nat → Prop} {g : Nat → Option va_E} {As : List Value} {b ci : Nat} {r : vw_C} {fs : List Value} (hK : Kx D cl tys s) (hP : PW D cl A g H) (hc : cl[ci]? = some r) (hb : g b = some (.inr (ci, fs))) : PreV s H r.1 b (va_Pc (.ref b :: As) (fun U => U.heap.size = H.size ∧ PW D cl (fun _ => True) g U.heap ∧ Kx D cl tys U)) As := by
  obtain ⟨L, q0, hL, hP0, hD, hm, hk⟩ := hP.at hb
  exact ⟨pw_blind, va_recv hK.1 hP0 hc hk, fun U hU hW => ⟨rfl, by rw [hU], by rw [hU]; exact hP.weaken (fun _ _ _ _ => trivial), hK.warm hW⟩⟩
theorem gd_all {w : Cond} (h : w ∈ gtb) : w ∈ gtb ∧ ((w.onTables && w.keeps) = true ∨ ∃ ty, w = .arrayClass ty) := ⟨h, good_of_word (List.mem_filter.mp h).2⟩
/-- what a method's call needs of the tables, once for each method -/
def CwV (C : String) (y : MethodName) (b : ByteArray) (nM : Nat) (ret : Option FieldType) (n : Nat) : Prop := Cond.instanceMethod y ∈ gtb ∧ Cond.selects C y y ∈ gtb ∧ Cond.initialized C ∈ gtb ∧ Cond.code y b nM ret ∈ gtb ∧ y.cls = C ∧ y.cls ≠ "java/lang/invoke/MethodHandle" ∧ y.cls ≠ "java/lang/invoke/VarHandle" ∧ (parseMethodDescriptor y.desc).map (fun d => d.parameters.length) = some n
def CwS (own : String) (y : MethodName) (b : ByteArray) (nM : Nat) (ret : Option FieldType) (n : Nat) : Prop := Cond.static y ∈ gtb ∧ Cond.initialized own ∈ gtb ∧ Cond.code y b nM ret ∈ gtb ∧ y.cls = own ∧ y.cls ≠ "java/lang/invoke/MethodHandle" ∧ y.cls ≠ "java/lang/invoke/VarHandle" ∧ (parseMethodDescriptor y.desc).map (fun d => d.parameters.length) = some n
def CwI (y : MethodName) (b : ByteArray) (nM : Nat) (n : Nat) : Prop := Cond.instanceMethod y ∈ gtb ∧ Cond.initialized y.cls ∈ gtb ∧ Cond.code y b nM none ∈ gtb ∧ y.name = "<init>" ∧ y.cls ≠ "java/lang/invoke/MethodHandle" ∧ y.cls ≠ "java/lang/invoke/VarHandle" ∧ (parseMethodDescriptor y.desc).map (fun d => d.parameters.length) = some n
theorem gd_code {y : MethodName} {b : ByteArray} {nM : Nat} {ret : Option FieldType} (hc : Cond.code y b nM ret ∈ gtb) : GoodIn gtb (Cond.code y b nM ret :: gtb) := fun w hw => gd_all ((List.mem_cons.mp hw).elim (fun h => by rw [h]; exact hc) id)
theorem gd_V {own C : String} {index : Nat} {y : MethodName} {b : ByteArray} {nM n : Nat} {ret : Option FieldType} (hml : Cond.methodLink own index y ∈ gtb) (h : CwV C y b nM ret n) : GoodIn gtb (wsV own index C y (Cond.code y b nM ret :: gtb)) := by
  intro w hw
  obtain ⟨h1, h2, h3, h4, -⟩ := h
  refine gd_all ?_
  rcases List.mem_append.mp hw with hw | hw
  · simp only [List.mem_cons, List.not_mem_nil, or_false] at hw
    rcases hw with rfl | rfl | rfl | rfl <;> assumption
  · exact (List.mem_cons.mp hw).elim (fun h => by rw [h]; exact h4) id
theorem gd_S {own : String} {index : Nat} {y : MethodName} {b : ByteArray} {nM n : Nat} {ret : Option FieldType} (hml : Cond.methodLink own index y ∈ gtb) (h : CwS own y b nM ret n) : GoodIn gtb (wsS own index y (Cond.code y b nM ret :: gtb)) := by
  intro w hw
  obtain ⟨h1, h2, h3, -⟩ := h
  refine gd_all ?_
  rcases List.mem_append.mp hw with hw | hw
  · simp only [List.mem_cons, List.not_mem_nil, or_false] at hw
    rcases hw with rfl | rfl | rfl <;> assumption
  · exact (List.mem_cons.mp hw).elim (fun h => by rw [h]; exact h3) id
theorem go_callI_V (X : Cx p s m args c D cl A nL cc own gtb tys) {y : MethodName} {bytes : ByteArray} {nM n index : Nat} {ret : Option FieldType} {rm : Room} {b ci : Nat} {r0 : vw_C} {fs : List Value} {As st0 : List Value} {post : Int32 → (Nat → Option va_E) → Prop} (hM : CtI l D cl tys y bytes nM ret rm (.ref b :: As) g post) (hml : Cond.methodLink own index y ∈ gtb) (hw : CwV r0.1 y bytes nM ret n) (hR : rm.frames + 1 ≤ R.frames ∧ 8 + (nM + 11) + rm.locals ≤ R.locals) (hc : cl[ci]? = some r0) (hb : g b = some (.inr (ci, fs))) (hn : As.length = n) (hst : st0 = As.reverse ++ .ref b :: rest) (hW : (rest.map fun v => v.category).sum ≤ 8) (hdg : decode cc pc = .ok (.invokevirtual index, 3)) (hf : cells + rm.cells ≤ R.cells ∧ slots + rm.slots ≤ R.slots) (k : ∀ (r : Int32) (g' : Nat → Option va_E), post r g' → Go p l e R s m args below meth c D cl A nL Q g' (cells + rm.cells) (slots + rm.slots) (pc + 3) lv (.int r :: rest)) : Go p l e R s m args below meth c D cl A nL Q g cells slots pc lv st0 := by
  intro H locs ls hP hS hl
  refine va_calli (va_runV (rest := rest) X.1 (hM H.size) (cwV n X.1.2.2.2.2 (gd_V hml hw) rfl rfl rfl hw.2.2.2.2 hR) (pw_preV X.2.1 hP hc hb) rfl hn hl.1 hst (lv_room hW) hdg hf) hS (fun q _ h => gA_in hP hS X.2.2 q h) (fun q h => gA_in hP hS X.2.2 q h) (fun r u t H1 locs1 ht hvm hw hB hz1 hk1 hS1 => ?_)
  have hP1 : PW D cl (gA g H.size) u t.heap := hB
  rw [ht] at hP1
  exact k r u hw H1 locs1 ls (hP1.weaken (fun q _ _ h => gA_in hP hS X.2.2 q h)) hS1 hl
theorem go_callI_S (X : Cx p s m args c D cl A nL cc own gtb tys) {y : MethodName} {bytes : ByteArray} {nM n index : Nat} {ret : Option FieldType} {rm : Room} {b ci : Nat} {r0 : vw_C} {fs : List Value} {As st0 : List Value} {post : Int32 → (Nat → Option va_E) → Prop} (hM : CtI l D cl tys y bytes nM ret rm As g post) (hml : Cond.methodLink own index y ∈ gtb) (hw : CwS own y bytes nM ret n) (hR : rm.frames + 1 ≤ R.frames ∧ 8 + (nM + 11) + rm.locals ≤ R.locals)  (hn : As.length = n) (hst : st0 = As.reverse ++ rest) (hW : (rest.map fun v => v.category).sum ≤ 8) (hdg : decode cc pc = .ok (.invokestatic index, 3)) (hf : cells + rm.cells ≤ R.cells ∧ slots + rm.slots ≤ R.slots) (k : ∀ (r : Int32) (g' : Nat → Option va_E), post r g' → Go p l e R s m args below meth c D cl A nL Q g' (cells + rm.cells) (slots + rm.slots) (pc + 3) lv (.int r :: rest)) : Go p l e R s m args below meth c D cl A nL Q g cells slots pc lv st0 := by
  intro H locs ls hP hS hl
  refine va_calli (va_runS (rest := rest) X.1 (hM H.size) (cwS n X.1.2.2.2.2 (gd_S hml hw) rfl rfl rfl hw.2.2.2 hR) (pw_preS X.2.1 hP) rfl hn hl.1 hst (lv_room hW) hdg hf) hS (fun q _ h => gA_in hP hS X.2.2 q h) (fun q h => gA_in hP hS X.2.2 q h) (fun r u t H1 locs1 ht hvm hw hB hz1 hk1 hS1 => ?_)
  have hP1 : PW D cl (gA g H.size) u t.heap := hB
  rw [ht] at hP1
  exact k r u hw H1 locs1 ls (hP1.weaken (fun q _ _ h => gA_in hP hS X.2.2 q h)) hS1 hl
theorem go_callL_V (X : Cx p s m args c D cl A nL cc own gtb tys) {y : MethodName} {bytes : ByteArray} {nM n index : Nat} {ret : Option FieldType} {rm : Room} {b ci : Nat} {r0 : vw_C} {fs : List Value} {As st0 : List Value} {post : Int64 → (Nat → Option va_E) → Prop} (hM : CtL l D cl tys y bytes nM ret rm (.ref b :: As) g post) (hml : Cond.methodLink own index y ∈ gtb) (hw : CwV r0.1 y bytes nM ret n) (hR : rm.frames + 1 ≤ R.frames ∧ 8 + (nM + 11) + rm.locals ≤ R.locals) (hc : cl[ci]? = some r0) (hb : g b = some (.inr (ci, fs))) (hn : As.length = n) (hst : st0 = As.reverse ++ .ref b :: rest) (hW : (rest.map fun v => v.category).sum ≤ 8) (hdg : decode cc pc = .ok (.invokevirtual index, 3)) (hf : cells + rm.cells ≤ R.cells ∧ slots + rm.slots ≤ R.slots) (k : ∀ (r : Int64) (g' : Nat → Option va_E), post r g' → Go p l e R s m args below meth c D cl A nL Q g' (cells + rm.cells) (slots + rm.slots) (pc + 3) lv (.long r :: rest)) : Go p l e R s m args below meth c D cl A nL Q g cells slots pc lv st0 := by
  intro H locs ls hP hS hl
  refine va_calll (va_runV (rest := rest) X.1 (hM H.size) (cwV n X.1.2.2.2.2 (gd_V hml hw) rfl rfl rfl hw.2.2.2.2 hR) (pw_preV X.2.1 hP hc hb) rfl hn hl.1 hst (lv_room hW) hdg hf) hS (fun q _ h => gA_in hP hS X.2.2 q h) (fun q h => gA_in hP hS X.2.2 q h) (fun r u t H1 locs1 ht hvm hw hB hz1 hk1 hS1 => ?_)
  have hP1 : PW D cl (gA g H.size) u t.heap := hB
  rw [ht] at hP1
  exact k r u hw H1 locs1 ls (hP1.weaken (fun q _ _ h => gA_in hP hS X.2.2 q h)) hS1 hl
theorem go_callL_S (X : Cx p s m args c D cl A nL cc own gtb tys) {y : MethodName} {bytes : ByteArray} {nM n index : Nat} {ret : Option FieldType} {rm : Room} {b ci : Nat} {r0 : vw_C} {fs : List Value} {As st0 : List Value} {post : Int64 → (Nat → Option va_E) → Prop} (hM : CtL l D cl tys y bytes nM ret rm As g post) (hml : Cond.methodLink own index y ∈ gtb) (hw : CwS own y bytes nM ret n) (hR : rm.frames + 1 ≤ R.frames ∧ 8 + (nM + 11) + rm.locals ≤ R.locals)  (hn : As.length = n) (hst : st0 = As.reverse ++ rest) (hW : (rest.map fun v => v.category).sum ≤ 8) (hdg : decode cc pc = .ok (.invokestatic index, 3)) (hf : cells + rm.cells ≤ R.cells ∧ slots + rm.slots ≤ R.slots) (k : ∀ (r : Int64) (g' : Nat → Option va_E), post r g' → Go p l e R s m args below meth c D cl A nL Q g' (cells + rm.cells) (slots + rm.slots) (pc + 3) lv (.long r :: rest)) : Go p l e R s m args below meth c D cl A nL Q g cells slots pc lv st0 := by
  intro H locs ls hP hS hl
  refine va_calll (va_runS (rest := rest) X.1 (hM H.size) (cwS n X.1.2.2.2.2 (gd_S hml hw) rfl rfl rfl hw.2.2.2 hR) (pw_preS X.2.1 hP) rfl hn hl.1 hst (lv_room hW) hdg hf) hS (fun q _ h => gA_in hP hS X.2.2 q h) (fun q h => gA_in hP hS X.2.2 q h) (fun r u t H1 locs1 ht hvm hw hB hz1 hk1 hS1 => ?_)
  have hP1 : PW D cl (gA g H.size) u t.heap := hB
  rw [ht] at hP1
  exact k r u hw H1 locs1 ls (hP1.weaken (fun q _ _ h => gA_in hP hS X.2.2 q h)) hS1 hl
theorem go_callV_V (X : Cx p s m args c D cl A nL cc own gtb tys) {y : MethodName} {bytes : ByteArray} {nM n index : Nat} {ret : Option FieldType} {rm : Room} {b ci : Nat} {r0 : vw_C} {fs : List Value} {As st0 : List Value} {post : (Nat → Option va_E) → Prop} (hM : CtV l D cl tys y bytes nM ret rm (.ref b :: As) g post) (hml : Cond.methodLink own index y ∈ gtb) (hw : CwV r0.1 y bytes nM ret n) (hR : rm.frames + 1 ≤ R.frames ∧ 8 + (nM + 11) + rm.locals ≤ R.locals) (hc : cl[ci]? = some r0) (hb : g b = some (.inr (ci, fs))) (hn : As.length = n) (hst : st0 = As.reverse ++ .ref b :: rest) (hW : (rest.map fun v => v.category).sum ≤ 8) (hdg : decode cc pc = .ok (.invokevirtual index, 3)) (hf : cells + rm.cells ≤ R.cells ∧ slots + rm.slots ≤ R.slots) (k : ∀ (g' : Nat → Option va_E), post g' → Go p l e R s m args below meth c D cl A nL Q g' (cells + rm.cells) (slots + rm.slots) (pc + 3) lv (rest)) : Go p l e R s m args below meth c D cl A nL Q g cells slots pc lv st0 := by
  intro H locs ls hP hS hl
  refine va_callv (va_runV (rest := rest) X.1 (hM H.size) (cwV n X.1.2.2.2.2 (gd_V hml hw) rfl rfl rfl hw.2.2.2.2 hR) (pw_preV X.2.1 hP hc hb) rfl hn hl.1 hst (lv_room hW) hdg hf) hS (fun q _ h => gA_in hP hS X.2.2 q h) (fun q h => gA_in hP hS X.2.2 q h) (fun u t H1 locs1 ht hvm hw hB hz1 hk1 hS1 => ?_)
  have hP1 : PW D cl (gA g H.size) u t.heap := hB
  rw [ht] at hP1
  exact k u hw H1 locs1 ls (hP1.weaken (fun q _ _ h => gA_in hP hS X.2.2 q h)) hS1 hl
theorem go_callV_S (X : Cx p s m args c D cl A nL cc own gtb tys) {y : MethodName} {bytes : ByteArray} {nM n index : Nat} {ret : Option FieldType} {rm : Room} {b ci : Nat} {r0 : vw_C} {fs : List Value} {As st0 : List Value} {post : (Nat → Option va_E) → Prop} (hM : CtV l D cl tys y bytes nM ret rm As g post) (hml : Cond.methodLink own index y ∈ gtb) (hw : CwS own y bytes nM ret n) (hR : rm.frames + 1 ≤ R.frames ∧ 8 + (nM + 11) + rm.locals ≤ R.locals)  (hn : As.length = n) (hst : st0 = As.reverse ++ rest) (hW : (rest.map fun v => v.category).sum ≤ 8) (hdg : decode cc pc = .ok (.invokestatic index, 3)) (hf : cells + rm.cells ≤ R.cells ∧ slots + rm.slots ≤ R.slots) (k : ∀ (g' : Nat → Option va_E), post g' → Go p l e R s m args below meth c D cl A nL Q g' (cells + rm.cells) (slots + rm.slots) (pc + 3) lv (rest)) : Go p l e R s m args below meth c D cl A nL Q g cells slots pc lv st0 := by
  intro H locs ls hP hS hl
  refine va_callv (va_runS (rest := rest) X.1 (hM H.size) (cwS n X.1.2.2.2.2 (gd_S hml hw) rfl rfl rfl hw.2.2.2 hR) (pw_preS X.2.1 hP) rfl hn hl.1 hst (lv_room hW) hdg hf) hS (fun q _ h => gA_in hP hS X.2.2 q h) (fun q h => gA_in hP hS X.2.2 q h) (fun u t H1 locs1 ht hvm hw hB hz1 hk1 hS1 => ?_)
  have hP1 : PW D cl (gA g H.size) u t.heap := hB
  rw [ht] at hP1
  exact k u hw H1 locs1 ls (hP1.weaken (fun q _ _ h => gA_in hP hS X.2.2 q h)) hS1 hl
theorem go_callV_I (X : Cx p s m args c D cl A nL cc own gtb tys) {y : MethodName} {bytes : ByteArray} {nM n index : Nat} {ret : Option FieldType} {rm : Room} {b ci : Nat} {r0 : vw_C} {fs : List Value} {As st0 : List Value} {post : (Nat → Option va_E) → Prop} (hM : CtV l D cl tys y bytes nM none rm (.ref b :: As) g post) (hml : Cond.methodLink own index y ∈ gtb) (hw : CwI y bytes nM n) (hR : rm.frames + 1 ≤ R.frames ∧ 8 + (nM + 11) + rm.locals ≤ R.locals)  (hn : As.length = n) (hst : st0 = As.reverse ++ .ref b :: rest) (hW : (rest.map fun v => v.category).sum ≤ 8) (hdg : decode cc pc = .ok (.invokespecial index, 3)) (hf : cells + rm.cells ≤ R.cells ∧ slots + rm.slots ≤ R.slots) (k : ∀ (g' : Nat → Option va_E), post g' → Go p l e R s m args below meth c D cl A nL Q g' (cells + rm.cells) (slots + rm.slots) (pc + 3) lv (rest)) : Go p l e R s m args below meth c D cl A nL Q g cells slots pc lv st0 := by
  intro H locs ls hP hS hl
  refine va_callv (va_runI (rest := rest) X.1 (hM H.size) (cwI n X.1.2.2.2.2 (gd_code hw.2.2.1) rfl rfl rfl (X.1.2.2.2.2 _ hw.2.1) (X.1.2.2.2.2 _ hml) (X.1.2.2.2.2 _ hw.1) hw.2.2.2.1 hw.2.2.2.2 hR) (pw_preS X.2.1 hP) rfl hn hl.1 hst (lv_room hW) hdg hf) hS (fun q _ h => gA_in hP hS X.2.2 q h) (fun q h => gA_in hP hS X.2.2 q h) (fun u t H1 locs1 ht hvm hw hB hz1 hk1 hS1 => ?_)
  have hP1 : PW D cl (gA g H.size) u t.heap := hB
  rw [ht] at hP1
  exact k u hw H1 locs1 ls (hP1.weaken (fun q _ _ h => gA_in hP hS X.2.2 q h)) hS1 hl
theorem go_callV_IN (X : Cx p s m args c D cl A nL cc own gtb tys) {y : MethodName} {bytes : ByteArray} {nM n index : Nat} {ret : Option FieldType} {rm : Room} {b ci : Nat} {r0 : vw_C} {fs : List Value} {As st0 : List Value} {post : (Nat → Option va_E) → Prop} (hM : CtV l D cl tys y bytes nM none rm (.ref b :: As) g post) {host : String} (hml : va_Nw (.methodLinkNest own index y host) s) (hw : CwI y bytes nM n) (hR : rm.frames + 1 ≤ R.frames ∧ 8 + (nM + 11) + rm.locals ≤ R.locals)  (hn : As.length = n) (hst : st0 = As.reverse ++ .ref b :: rest) (hW : (rest.map fun v => v.category).sum ≤ 8) (hdg : decode cc pc = .ok (.invokespecial index, 3)) (hf : cells + rm.cells ≤ R.cells ∧ slots + rm.slots ≤ R.slots) (k : ∀ (g' : Nat → Option va_E), post g' → Go p l e R s m args below meth c D cl A nL Q g' (cells + rm.cells) (slots + rm.slots) (pc + 3) lv (rest)) : Go p l e R s m args below meth c D cl A nL Q g cells slots pc lv st0 := by
  intro H locs ls hP hS hl
  refine va_callv (va_runIN (rest := rest) X.1 (hM H.size) (⟨va_cnB n X.1.2.2.2.2 (gd_code hw.2.2.1) rfl rfl rfl hml (X.1.2.2.2.2 _ hw.2.1) hw.2.2.2.2 hR, hw.2.2.2.1, X.1.2.2.2.2 _ hw.1⟩) (pw_preS X.2.1 hP) rfl hn hl.1 hst (lv_room hW) hdg hf) hS (fun q _ h => gA_in hP hS X.2.2 q h) (fun q h => gA_in hP hS X.2.2 q h) (fun u t H1 locs1 ht hvm hw hB hz1 hk1 hS1 => ?_)
  have hP1 : PW D cl (gA g H.size) u t.heap := hB
  rw [ht] at hP1
  exact k u hw H1 locs1 ls (hP1.weaken (fun q _ _ h => gA_in hP hS X.2.2 q h)) hS1 hl
theorem go_callR_V (X : Cx p s m args c D cl A nL cc own gtb tys) {y : MethodName} {bytes : ByteArray} {nM n index : Nat} {ret : Option FieldType} {rm : Room} {b ci : Nat} {r0 : vw_C} {fs : List Value} {As st0 : List Value} {post : Option Nat → (Nat → Option va_E) → Prop} (hM : CtR l D cl tys y bytes nM ret rm (.ref b :: As) g post) (hml : Cond.methodLink own index y ∈ gtb) (hw : CwV r0.1 y bytes nM ret n) (hR : rm.frames + 1 ≤ R.frames ∧ 8 + (nM + 11) + rm.locals ≤ R.locals) (hc : cl[ci]? = some r0) (hb : g b = some (.inr (ci, fs))) (hn : As.length = n) (hst : st0 = As.reverse ++ .ref b :: rest) (hW : (rest.map fun v => v.category).sum ≤ 8) (hdg : decode cc pc = .ok (.invokevirtual index, 3)) (hf : cells + rm.cells ≤ R.cells ∧ slots + rm.slots ≤ R.slots) (k : ∀ (r : Option Nat) (g' : Nat → Option va_E), post r g' → Go p l e R s m args below meth c D cl A nL Q g' (cells + rm.cells) (slots + rm.slots) (pc + 3) lv (va_rf r :: rest)) : Go p l e R s m args below meth c D cl A nL Q g cells slots pc lv st0 := by
  intro H locs ls hP hS hl
  refine va_callq (va_runV (rest := rest) X.1 (hM H.size) (cwV n X.1.2.2.2.2 (gd_V hml hw) rfl rfl rfl hw.2.2.2.2 hR) (pw_preV X.2.1 hP hc hb) rfl hn hl.1 hst (lv_room hW) hdg hf) hS (fun q _ h => gA_in hP hS X.2.2 q h) (fun q h => gA_in hP hS X.2.2 q h) (fun r u t H1 locs1 ht hvm hw hB hz1 hk1 hS1 => ?_)
  have hP1 : PW D cl (gA g H.size) u t.heap := hB
  rw [ht] at hP1
  exact k r u hw H1 locs1 ls (hP1.weaken (fun q _ _ h => gA_in hP hS X.2.2 q h)) hS1 hl
theorem go_callR_S (X : Cx p s m args c D cl A nL cc own gtb tys) {y : MethodName} {bytes : ByteArray} {nM n index : Nat} {ret : Option FieldType} {rm : Room} {b ci : Nat} {r0 : vw_C} {fs : List Value} {As st0 : List Value} {post : Option Nat → (Nat → Option va_E) → Prop} (hM : CtR l D cl tys y bytes nM ret rm As g post) (hml : Cond.methodLink own index y ∈ gtb) (hw : CwS own y bytes nM ret n) (hR : rm.frames + 1 ≤ R.frames ∧ 8 + (nM + 11) + rm.locals ≤ R.locals)  (hn : As.length = n) (hst : st0 = As.reverse ++ rest) (hW : (rest.map fun v => v.category).sum ≤ 8) (hdg : decode cc pc = .ok (.invokestatic index, 3)) (hf : cells + rm.cells ≤ R.cells ∧ slots + rm.slots ≤ R.slots) (k : ∀ (r : Option Nat) (g' : Nat → Option va_E), post r g' → Go p l e R s m args below meth c D cl A nL Q g' (cells + rm.cells) (slots + rm.slots) (pc + 3) lv (va_rf r :: rest)) : Go p l e R s m args below meth c D cl A nL Q g cells slots pc lv st0 := by
  intro H locs ls hP hS hl
  refine va_callq (va_runS (rest := rest) X.1 (hM H.size) (cwS n X.1.2.2.2.2 (gd_S hml hw) rfl rfl rfl hw.2.2.2 hR) (pw_preS X.2.1 hP) rfl hn hl.1 hst (lv_room hW) hdg hf) hS (fun q _ h => gA_in hP hS X.2.2 q h) (fun q h => gA_in hP hS X.2.2 q h) (fun r u t H1 locs1 ht hvm hw hB hz1 hk1 hS1 => ?_)
  have hP1 : PW D cl (gA g H.size) u t.heap := hB
  rw [ht] at hP1
  exact k r u hw H1 locs1 ls (hP1.weaken (fun q _ _ h => gA_in hP hS X.2.2 q h)) hS1 hl
theorem go_retI {g0 : Nat → Option va_E} (X : Cx p s m args c D cl (gA g0 s.heap.size) nL cc own Ts tys) {v : Int32} {post : Int32 → (Nat → Option va_E) → Prop} (hr : meth.sig.returnType = some .int) (hlocks : meth.locks = false) (hdg : decode cc pc = .ok (.ireturn, 1)) (hp : post v g) : Go p l e R s m args below meth c D cl (gA g0 s.heap.size) nL (MQ below (va_Qi post (fun (g' : Nat → Option va_E) (t : State) => PW D cl (gA g0 s.heap.size) g' t.heap) (gA g0 s.heap.size)) args s cells slots (gA g0 s.heap.size)) g cells slots pc lv [.int v] :=
  fun H locs ls hP hS hl => W.iret X.1.1 X.1.2.1 hr (fun t ht hW => ⟨⟨v, g, rfl, hp, by show PW _ _ _ _ t.heap; rw [ht]; exact hP⟩, hS.F ht⟩) hS.2.2 hdg hlocks
theorem go_retZ {g0 : Nat → Option va_E} (X : Cx p s m args c D cl (gA g0 s.heap.size) nL cc own Ts tys) {v : Int32} {ty : FieldType} {post : Int32 → (Nat → Option va_E) → Prop} (hr : meth.sig.returnType = some ty) (hn : narrow ty (.int v) = .int v) (hlocks : meth.locks = false) (hdg : decode cc pc = .ok (.ireturn, 1)) (hp : post v g) : Go p l e R s m args below meth c D cl (gA g0 s.heap.size) nL (MQ below (va_Qi post (fun (g' : Nat → Option va_E) (t : State) => PW D cl (gA g0 s.heap.size) g' t.heap) (gA g0 s.heap.size)) args s cells slots (gA g0 s.heap.size)) g cells slots pc lv [.int v] :=
  fun H locs ls hP hS hl => W.zret X.1.1 X.1.2.1 hr hn (fun t ht hW => ⟨⟨v, g, rfl, hp, by show PW _ _ _ _ t.heap; rw [ht]; exact hP⟩, hS.F ht⟩) hS.2.2 hdg hlocks
theorem go_retL {g0 : Nat → Option va_E} (X : Cx p s m args c D cl (gA g0 s.heap.size) nL cc own Ts tys) {v : Int64} {post : Int64 → (Nat → Option va_E) → Prop} (hr : meth.sig.returnType = some .long) (hlocks : meth.locks = false) (hdg : decode cc pc = .ok (.lreturn, 1)) (hp : post v g) : Go p l e R s m args below meth c D cl (gA g0 s.heap.size) nL (MQ below (va_Ql post (fun (g' : Nat → Option va_E) (t : State) => PW D cl (gA g0 s.heap.size) g' t.heap) (gA g0 s.heap.size)) args s cells slots (gA g0 s.heap.size)) g cells slots pc lv [.long v] :=
  fun H locs ls hP hS hl => W.lret X.1.1 X.1.2.1 hr (fun t ht hW => ⟨⟨v, g, rfl, hp, by show PW _ _ _ _ t.heap; rw [ht]; exact hP⟩, hS.F ht⟩) hS.2.2 hdg hlocks
theorem go_retV {g0 : Nat → Option va_E} (X : Cx p s m args c D cl (gA g0 s.heap.size) nL cc own Ts tys) {post : (Nat → Option va_E) → Prop} (hr : meth.sig.returnType = none) (hlocks : meth.locks = false) (hdg : decode cc pc = .ok (.return_, 1)) (hp : post g) : Go p l e R s m args below meth c D cl (gA g0 s.heap.size) nL (MQ below (va_Qv post (fun (g' : Nat → Option va_E) (t : State) => PW D cl (gA g0 s.heap.size) g' t.heap) (gA g0 s.heap.size)) args s cells slots (gA g0 s.heap.size)) g cells slots pc lv [] :=
  fun H locs ls hP hS hl => W.vret X.1.1 X.1.2.1 hr (fun t ht hW => ⟨⟨g, rfl, hp, by show PW _ _ _ _ t.heap; rw [ht]; exact hP⟩, hS.F ht⟩) hS.2.2 hdg hlocks
theorem go_retR {g0 : Nat → Option va_E} (X : Cx p s m args c D cl (gA g0 s.heap.size) nL cc own Ts tys) {v : Option Nat} {rc : String} {post : Option Nat → (Nat → Option va_E) → Prop} (hr : meth.sig.returnType = some (.object rc)) (hlocks : meth.locks = false) (hdg : decode cc pc = .ok (.areturn, 1)) (hp : post v g) : Go p l e R s m args below meth c D cl (gA g0 s.heap.size) nL (MQ below (va_Qq post (fun (g' : Nat → Option va_E) (t : State) => PW D cl (gA g0 s.heap.size) g' t.heap) (gA g0 s.heap.size)) args s cells slots (gA g0 s.heap.size)) g cells slots pc lv [va_rf v] :=
  fun H locs ls hP hS hl => W.aret X.1.1 X.1.2.1 hr (Or.inl ⟨rc, rfl⟩) (by cases v with | none => exact Or.inl rfl | some b => exact Or.inr ⟨b, rfl⟩) (fun t ht hW => ⟨⟨v, g, rfl, hp, by show PW _ _ _ _ t.heap; rw [ht]; exact hP⟩, hS.F ht⟩) hS.2.2 hdg hlocks
theorem CtI.of {l : Launch} {D : va_G} {cl : List vw_C} {tys : List (ClassId × FieldType)} {y : MethodName} {rm : Room} {av : List Value} {g : Nat → Option va_E} {post : Int32 → (Nat → Option va_E) → Prop} {cc : ByteArray} {nL : Nat} {ret : Option FieldType} (hy : plainName y.cls = true) (hlen : (lg_sl av).length ≤ nL)
    (body : ∀ (p : Program) (e : Env) (s : State) (m : MethodId) (below : List Frame) (meth : Method) (c : Code), Cx p s m av.toArray c D cl (gA g s.heap.size) nL cc y.cls gtb tys → meth.sig.returnType = ret → meth.locks = false → meth.name = y.name →
      Go p l e rm s m av.toArray below meth c D cl (gA g s.heap.size) nL (MQ below (va_Qi post (fun (g' : Nat → Option va_E) (t : State) => PW D cl (gA g s.heap.size) g' t.heap) (gA g s.heap.size)) av.toArray s rm.cells rm.slots (gA g s.heap.size)) g 0 0 0 (lv_args 0 av) []) : CtI l D cl tys y cc nL ret rm av g post := by
  intro sz
  refine Met.ofW (cc := cc) (maxL := nL) (ret := ret) hy rfl ?_
  intro p e s m args below meth c s₁ B hml hv
  obtain ⟨rfl, hsz, hP, hK⟩ := hv
  subst hsz
  have hts := atoms_spec (ws := Cond.code y cc nL ret :: gtb) B.pre
  have hown : s.vm.findClass y.cls = some m.cls := findClass_of_methodNamed B.named
  have hl := lv_entry av (n := nL) hlen
  rw [lg_entry_eq]
  exact body p e s m below meth c ⟨⟨B.exec, B.bytes, hml, hown, fun w h => hts w (List.mem_cons_of_mem _ h)⟩, hK, fun q h => Or.inr h⟩ B.returns B.notSynchronized (name_of_methodNamed B.named B.method).1 s.heap [] _ (hP.weaken (fun q e h _ => Or.inl ⟨e, h⟩)) va_S.rf hl
theorem CtL.of {l : Launch} {D : va_G} {cl : List vw_C} {tys : List (ClassId × FieldType)} {y : MethodName} {rm : Room} {av : List Value} {g : Nat → Option va_E} {post : Int64 → (Nat → Option va_E) → Prop} {cc : ByteArray} {nL : Nat} {ret : Option FieldType} (hy : plainName y.cls = true) (hlen : (lg_sl av).length ≤ nL)
    (body : ∀ (p : Program) (e : Env) (s : State) (m : MethodId) (below : List Frame) (meth : Method) (c : Code), Cx p s m av.toArray c D cl (gA g s.heap.size) nL cc y.cls gtb tys → meth.sig.returnType = ret → meth.locks = false → meth.name = y.name →
      Go p l e rm s m av.toArray below meth c D cl (gA g s.heap.size) nL (MQ below (va_Ql post (fun (g' : Nat → Option va_E) (t : State) => PW D cl (gA g s.heap.size) g' t.heap) (gA g s.heap.size)) av.toArray s rm.cells rm.slots (gA g s.heap.size)) g 0 0 0 (lv_args 0 av) []) : CtL l D cl tys y cc nL ret rm av g post := by
  intro sz
  refine Met.ofW (cc := cc) (maxL := nL) (ret := ret) hy rfl ?_
  intro p e s m args below meth c s₁ B hml hv
  obtain ⟨rfl, hsz, hP, hK⟩ := hv
  subst hsz
  have hts := atoms_spec (ws := Cond.code y cc nL ret :: gtb) B.pre
  have hown : s.vm.findClass y.cls = some m.cls := findClass_of_methodNamed B.named
  have hl := lv_entry av (n := nL) hlen
  rw [lg_entry_eq]
  exact body p e s m below meth c ⟨⟨B.exec, B.bytes, hml, hown, fun w h => hts w (List.mem_cons_of_mem _ h)⟩, hK, fun q h => Or.inr h⟩ B.returns B.notSynchronized (name_of_methodNamed B.named B.method).1 s.heap [] _ (hP.weaken (fun q e h _ => Or.inl ⟨e, h⟩)) va_S.rf hl
theorem CtV.of {l : Launch} {D : va_G} {cl : List vw_C} {tys : List (ClassId × FieldType)} {y : MethodName} {rm : Room} {av : List Value} {g : Nat → Option va_E} {post : (Nat → Option va_E) → Prop} {cc : ByteArray} {nL : Nat} {ret : Option FieldType} (hy : plainName y.cls = true) (hlen : (lg_sl av).length ≤ nL)
    (body : ∀ (p : Program) (e : Env) (s : State) (m : MethodId) (below : List Frame) (meth : Method) (c : Code), Cx p s m av.toArray c D cl (gA g s.heap.size) nL cc y.cls gtb tys → meth.sig.returnType = ret → meth.locks = false → meth.name = y.name →
      Go p l e rm s m av.toArray below meth c D cl (gA g s.heap.size) nL (MQ below (va_Qv post (fun (g' : Nat → Option va_E) (t : State) => PW D cl (gA g s.heap.size) g' t.heap) (gA g s.heap.size)) av.toArray s rm.cells rm.slots (gA g s.heap.size)) g 0 0 0 (lv_args 0 av) []) : CtV l D cl tys y cc nL ret rm av g post := by
  intro sz
  refine Met.ofW (cc := cc) (maxL := nL) (ret := ret) hy rfl ?_
  intro p e s m args below meth c s₁ B hml hv
  obtain ⟨rfl, hsz, hP, hK⟩ := hv
  subst hsz
  have hts := atoms_spec (ws := Cond.code y cc nL ret :: gtb) B.pre
  have hown : s.vm.findClass y.cls = some m.cls := findClass_of_methodNamed B.named
  have hl := lv_entry av (n := nL) hlen
  rw [lg_entry_eq]
  exact body p e s m below meth c ⟨⟨B.exec, B.bytes, hml, hown, fun w h => hts w (List.mem_cons_of_mem _ h)⟩, hK, fun q h => Or.inr h⟩ B.returns B.notSynchronized (name_of_methodNamed B.named B.method).1 s.heap [] _ (hP.weaken (fun q e h _ => Or.inl ⟨e, h⟩)) va_S.rf hl
theorem CtR.of {l : Launch} {D : va_G} {cl : List vw_C} {tys : List (ClassId × FieldType)} {y : MethodName} {rm : Room} {av : List Value} {g : Nat → Option va_E} {post : Option Nat → (Nat → Option va_E) → Prop} {cc : ByteArray} {nL : Nat} {ret : Option FieldType} (hy : plainName y.cls = true) (hlen : (lg_sl av).length ≤ nL)
    (body : ∀ (p : Program) (e : Env) (s : State) (m : MethodId) (below : List Frame) (meth : Method) (c : Code), Cx p s m av.toArray c D cl (gA g s.heap.size) nL cc y.cls gtb tys → meth.sig.returnType = ret → meth.locks = false → meth.name = y.name →
      Go p l e rm s m av.toArray below meth c D cl (gA g s.heap.size) nL (MQ below (va_Qq post (fun (g' : Nat → Option va_E) (t : State) => PW D cl (gA g s.heap.size) g' t.heap) (gA g s.heap.size)) av.toArray s rm.cells rm.slots (gA g s.heap.size)) g 0 0 0 (lv_args 0 av) []) : CtR l D cl tys y cc nL ret rm av g post := by
  intro sz
  refine Met.ofW (cc := cc) (maxL := nL) (ret := ret) hy rfl ?_
  intro p e s m args below meth c s₁ B hml hv
  obtain ⟨rfl, hsz, hP, hK⟩ := hv
  subst hsz
  have hts := atoms_spec (ws := Cond.code y cc nL ret :: gtb) B.pre
  have hown : s.vm.findClass y.cls = some m.cls := findClass_of_methodNamed B.named
  have hl := lv_entry av (n := nL) hlen
  rw [lg_entry_eq]
  exact body p e s m below meth c ⟨⟨B.exec, B.bytes, hml, hown, fun w h => hts w (List.mem_cons_of_mem _ h)⟩, hK, fun q h => Or.inr h⟩ B.returns B.notSynchronized (name_of_methodNamed B.named B.method).1 s.heap [] _ (hP.weaken (fun q e h _ => Or.inl ⟨e, h⟩)) va_S.rf hl
theorem go_topi {x : Int32} (k : ∀ y : Int32, y = x → Go p l e R s m args below meth c D cl A nL Q g cells slots pc lv (.int y :: rest)) : Go p l e R s m args below meth c D cl A nL Q g cells slots pc lv (.int x :: rest) := k x rfl
theorem go_topl {x : Int64} (k : ∀ y : Int64, y = x → Go p l e R s m args below meth c D cl A nL Q g cells slots pc lv (.long y :: rest)) : Go p l e R s m args below meth c D cl A nL Q g cells slots pc lv (.long x :: rest) := k x rfl
theorem go_gen {g1 : Nat → Option va_E} (k : ∀ g2 : Nat → Option va_E, g2 = g1 → Go p l e R s m args below meth c D cl A nL Q g2 cells slots pc lv rest) : Go p l e R s m args below meth c D cl A nL Q g1 cells slots pc lv rest := k g1 rfl
theorem go_mmin (X : Cx p s m args c D cl A nL cc own Ts tys) {index : Nat} {x y : Int32} (hlink : Cond.methodLink own index Lib.Math.min.name ∈ Ts) (hstat : Cond.static Lib.Math.min.name ∈ Ts) (hini : Cond.initialized "java/lang/Math" ∈ Ts) (hcode : Cond.code Lib.Math.min.name Lib.Math.min.code 2 (some .int) ∈ Ts) (hdg : decode cc pc = .ok (.invokestatic index, 3)) (hframes : 1 ≤ R.frames) (hlocals : (rest.map fun v => v.category).sum + 13 ≤ R.locals) (hc : cells ≤ R.cells) (hs : slots ≤ R.slots) (k : Go p l e R s m args below meth c D cl A nL Q g cells slots (pc + 3) lv (.int (if y < x then y else x) :: rest)) : Go p l e R s m args below meth c D cl A nL Q g cells slots pc lv (.int y :: .int x :: rest) := by
  intro H locs ls hP hS hl
  exact va_mmin X.1.1 X.1.2.1 (X.1.2.2.1.trans hl.1.symm) X.1.2.2.2.1 (X.1.2.2.2.2 _ hlink) (X.1.2.2.2.2 _ hstat) (X.1.2.2.2.2 _ hini) (X.1.2.2.2.2 _ hcode) hframes hlocals hc hs hdg (k H locs ls hP hS hl)
theorem go_mmax (X : Cx p s m args c D cl A nL cc own Ts tys) {index : Nat} {x y : Int32} (hlink : Cond.methodLink own index Lib.Math.max.name ∈ Ts) (hstat : Cond.static Lib.Math.max.name ∈ Ts) (hini : Cond.initialized "java/lang/Math" ∈ Ts) (hcode : Cond.code Lib.Math.max.name Lib.Math.max.code 2 (some .int) ∈ Ts) (hdg : decode cc pc = .ok (.invokestatic index, 3)) (hframes : 1 ≤ R.frames) (hlocals : (rest.map fun v => v.category).sum + 13 ≤ R.locals) (hc : cells ≤ R.cells) (hs : slots ≤ R.slots) (k : Go p l e R s m args below meth c D cl A nL Q g cells slots (pc + 3) lv (.int (if x < y then y else x) :: rest)) : Go p l e R s m args below meth c D cl A nL Q g cells slots pc lv (.int y :: .int x :: rest) := by
  intro H locs ls hP hS hl
  exact va_mmax X.1.1 X.1.2.1 (X.1.2.2.1.trans hl.1.symm) X.1.2.2.2.1 (X.1.2.2.2.2 _ hlink) (X.1.2.2.2.2 _ hstat) (X.1.2.2.2.2 _ hini) (X.1.2.2.2.2 _ hcode) hframes hlocals hc hs hdg (k H locs ls hP hS hl)
theorem go_mmin_long (X : Cx p s m args c D cl A nL cc own Ts tys) {index : Nat} {x y : Int64} (hlink : Cond.methodLink own index Lib.MathLoose.min_long.x ∈ Ts) (hstat : Cond.static Lib.MathLoose.min_long.x ∈ Ts) (hini : Cond.initialized "java/lang/Math" ∈ Ts) (hcode : Cond.code Lib.MathLoose.min_long.x Lib.MathLoose.min_long.code 4 (some .long) ∈ Ts) (hdg : decode cc pc = .ok (.invokestatic index, 3)) (hframes : 1 ≤ R.frames) (hlocals : (rest.map fun v => v.category).sum + 15 ≤ R.locals) (hc : cells ≤ R.cells) (hs : slots ≤ R.slots) (k : Go p l e R s m args below meth c D cl A nL Q g cells slots (pc + 3) lv (.long (if y < x then y else x) :: rest)) : Go p l e R s m args below meth c D cl A nL Q g cells slots pc lv (.long y :: .long x :: rest) := by
  intro H locs ls hP hS hl
  exact va_mmin_long X.1.1 X.1.2.1 (X.1.2.2.1.trans hl.1.symm) X.1.2.2.2.1 (X.1.2.2.2.2 _ hlink) (X.1.2.2.2.2 _ hstat) (X.1.2.2.2.2 _ hini) (X.1.2.2.2.2 _ hcode) hframes hlocals hc hs hdg (k H locs ls hP hS hl)
end GO
end
