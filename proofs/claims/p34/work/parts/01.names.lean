-- ===== PART A: goes FIRST, ahead of the names: the tables' words, and 'selects' of the private methods out of them =====
/-- a private method of a class that the tables say can be made, by its rows of tables_1 -/
def lw_okq (q : MethodName × Nat) : Prop := (q.1.cls ≠ "java/lang/invoke/MethodHandle" ∧ q.1.cls ≠ "java/lang/invoke/VarHandle") ∧ Cond.instantiable q.1.cls q.2 ∈ tables_1 ∧ Cond.privateMethod q.1 ∈ tables_1 ∧ Cond.instanceMethod q.1 ∈ tables_1
theorem lw_p0 : lw_okq (⟨"java/lang/Throwable", "fillInStackTrace", "(I)Ljava/lang/Throwable;"⟩, 6) := ⟨⟨by decide +kernel, by decide +kernel⟩, List.mem_of_getElem? (i := 334) (by decide +kernel), List.mem_of_getElem? (i := 332) (by decide +kernel), List.mem_of_getElem? (i := 333) (by decide +kernel)⟩
theorem lw_p1 : lw_okq (⟨"Lantern", "start", "()V"⟩, 13) := ⟨⟨by decide +kernel, by decide +kernel⟩, List.mem_of_getElem? (i := 19) (by decide +kernel), List.mem_of_getElem? (i := 376) (by decide +kernel), List.mem_of_getElem? (i := 377) (by decide +kernel)⟩
theorem lw_p2 : lw_okq (⟨"Lantern", "stopBy", "(II)V"⟩, 13) := ⟨⟨by decide +kernel, by decide +kernel⟩, List.mem_of_getElem? (i := 19) (by decide +kernel), List.mem_of_getElem? (i := 404) (by decide +kernel), List.mem_of_getElem? (i := 405) (by decide +kernel)⟩
theorem lw_p3 : lw_okq (⟨"Lantern", "runTill", "(II)I"⟩, 13) := ⟨⟨by decide +kernel, by decide +kernel⟩, List.mem_of_getElem? (i := 19) (by decide +kernel), List.mem_of_getElem? (i := 448) (by decide +kernel), List.mem_of_getElem? (i := 449) (by decide +kernel)⟩
theorem lw_p4 : lw_okq (⟨"Lantern", "doStep", "()Z"⟩, 13) := ⟨⟨by decide +kernel, by decide +kernel⟩, List.mem_of_getElem? (i := 19) (by decide +kernel), List.mem_of_getElem? (i := 452) (by decide +kernel), List.mem_of_getElem? (i := 453) (by decide +kernel)⟩
theorem lw_p5 : lw_okq (⟨"Lantern$State", "failureOf", "(LLantern$Program;)I"⟩, 8) := ⟨⟨by decide +kernel, by decide +kernel⟩, List.mem_of_getElem? (i := 62) (by decide +kernel), List.mem_of_getElem? (i := 460) (by decide +kernel), List.mem_of_getElem? (i := 461) (by decide +kernel)⟩
theorem lw_p6 : lw_okq (⟨"Lantern$State", "isTooFullFor", "(I)Z"⟩, 8) := ⟨⟨by decide +kernel, by decide +kernel⟩, List.mem_of_getElem? (i := 62) (by decide +kernel), List.mem_of_getElem? (i := 492) (by decide +kernel), List.mem_of_getElem? (i := 493) (by decide +kernel)⟩
theorem lw_p7 : lw_okq (⟨"Lantern$State", "swap", "()V"⟩, 8) := ⟨⟨by decide +kernel, by decide +kernel⟩, List.mem_of_getElem? (i := 62) (by decide +kernel), List.mem_of_getElem? (i := 527) (by decide +kernel), List.mem_of_getElem? (i := 528) (by decide +kernel)⟩
theorem lw_p8 : lw_okq (⟨"Lantern$State", "storeAt", "()V"⟩, 8) := ⟨⟨by decide +kernel, by decide +kernel⟩, List.mem_of_getElem? (i := 62) (by decide +kernel), List.mem_of_getElem? (i := 535) (by decide +kernel), List.mem_of_getElem? (i := 536) (by decide +kernel)⟩
theorem lw_p9 : lw_okq (⟨"Lantern$State", "readFrom", "(LLantern$Row;)I"⟩, 8) := ⟨⟨by decide +kernel, by decide +kernel⟩, List.mem_of_getElem? (i := 62) (by decide +kernel), List.mem_of_getElem? (i := 539) (by decide +kernel), List.mem_of_getElem? (i := 540) (by decide +kernel)⟩
theorem lw_p10 : lw_okq (⟨"Lantern$State", "reckon", "(I)V"⟩, 8) := ⟨⟨by decide +kernel, by decide +kernel⟩, List.mem_of_getElem? (i := 62) (by decide +kernel), List.mem_of_getElem? (i := 544) (by decide +kernel), List.mem_of_getElem? (i := 545) (by decide +kernel)⟩
theorem lw_p11 : lw_okq (⟨"Lantern", "stopsRun", "(I)Z"⟩, 13) := ⟨⟨by decide +kernel, by decide +kernel⟩, List.mem_of_getElem? (i := 19) (by decide +kernel), List.mem_of_getElem? (i := 551) (by decide +kernel), List.mem_of_getElem? (i := 552) (by decide +kernel)⟩
theorem lw_p12 : lw_okq (⟨"Lantern", "watchMet", "()I"⟩, 13) := ⟨⟨by decide +kernel, by decide +kernel⟩, List.mem_of_getElem? (i := 19) (by decide +kernel), List.mem_of_getElem? (i := 555) (by decide +kernel), List.mem_of_getElem? (i := 556) (by decide +kernel)⟩
theorem lw_p13 : lw_okq (⟨"Lantern", "watchNumbered", "(I)LLantern$Watch;"⟩, 13) := ⟨⟨by decide +kernel, by decide +kernel⟩, List.mem_of_getElem? (i := 19) (by decide +kernel), List.mem_of_getElem? (i := 563) (by decide +kernel), List.mem_of_getElem? (i := 564) (by decide +kernel)⟩
theorem lw_p14 : lw_okq (⟨"Lantern", "pointStopping", "()I"⟩, 13) := ⟨⟨by decide +kernel, by decide +kernel⟩, List.mem_of_getElem? (i := 19) (by decide +kernel), List.mem_of_getElem? (i := 575) (by decide +kernel), List.mem_of_getElem? (i := 576) (by decide +kernel)⟩
theorem lw_p15 : lw_okq (⟨"Lantern", "pointNumbered", "(I)LLantern$Point;"⟩, 13) := ⟨⟨by decide +kernel, by decide +kernel⟩, List.mem_of_getElem? (i := 19) (by decide +kernel), List.mem_of_getElem? (i := 579) (by decide +kernel), List.mem_of_getElem? (i := 580) (by decide +kernel)⟩
def lw_privs_1 : List (MethodName × Nat) := [(⟨"java/lang/Throwable", "fillInStackTrace", "(I)Ljava/lang/Throwable;"⟩, 6), (⟨"Lantern", "start", "()V"⟩, 13), (⟨"Lantern", "stopBy", "(II)V"⟩, 13), (⟨"Lantern", "runTill", "(II)I"⟩, 13), (⟨"Lantern", "doStep", "()Z"⟩, 13), (⟨"Lantern$State", "failureOf", "(LLantern$Program;)I"⟩, 8), (⟨"Lantern$State", "isTooFullFor", "(I)Z"⟩, 8), (⟨"Lantern$State", "swap", "()V"⟩, 8), (⟨"Lantern$State", "storeAt", "()V"⟩, 8), (⟨"Lantern$State", "readFrom", "(LLantern$Row;)I"⟩, 8), (⟨"Lantern$State", "reckon", "(I)V"⟩, 8), (⟨"Lantern", "stopsRun", "(I)Z"⟩, 13), (⟨"Lantern", "watchMet", "()I"⟩, 13), (⟨"Lantern", "watchNumbered", "(I)LLantern$Watch;"⟩, 13), (⟨"Lantern", "pointStopping", "()I"⟩, 13), (⟨"Lantern", "pointNumbered", "(I)LLantern$Point;"⟩, 13)]
theorem lw_r1 : ∀ q ∈ lw_privs_1, lw_okq q := List.forall_mem_cons.mpr ⟨lw_p0, List.forall_mem_cons.mpr ⟨lw_p1, List.forall_mem_cons.mpr ⟨lw_p2, List.forall_mem_cons.mpr ⟨lw_p3, List.forall_mem_cons.mpr ⟨lw_p4, List.forall_mem_cons.mpr ⟨lw_p5, List.forall_mem_cons.mpr ⟨lw_p6, List.forall_mem_cons.mpr ⟨lw_p7, List.forall_mem_cons.mpr ⟨lw_p8, List.forall_mem_cons.mpr ⟨lw_p9, List.forall_mem_cons.mpr ⟨lw_p10, List.forall_mem_cons.mpr ⟨lw_p11, List.forall_mem_cons.mpr ⟨lw_p12, List.forall_mem_cons.mpr ⟨lw_p13, List.forall_mem_cons.mpr ⟨lw_p14, List.forall_mem_cons.mpr ⟨lw_p15, fun _ h => absurd h List.not_mem_nil⟩⟩⟩⟩⟩⟩⟩⟩⟩⟩⟩⟩⟩⟩⟩⟩
theorem lw_p16 : lw_okq (⟨"Lantern$Point", "holds", "(I)Z"⟩, 7) := ⟨⟨by decide +kernel, by decide +kernel⟩, List.mem_of_getElem? (i := 179) (by decide +kernel), List.mem_of_getElem? (i := 588) (by decide +kernel), List.mem_of_getElem? (i := 589) (by decide +kernel)⟩
theorem lw_p17 : lw_okq (⟨"Lantern", "goBack", "()LLantern$Moment;"⟩, 13) := ⟨⟨by decide +kernel, by decide +kernel⟩, List.mem_of_getElem? (i := 19) (by decide +kernel), List.mem_of_getElem? (i := 601) (by decide +kernel), List.mem_of_getElem? (i := 602) (by decide +kernel)⟩
theorem lw_p18 : lw_okq (⟨"Lantern", "ofNow", "(I)I"⟩, 13) := ⟨⟨by decide +kernel, by decide +kernel⟩, List.mem_of_getElem? (i := 19) (by decide +kernel), List.mem_of_getElem? (i := 687) (by decide +kernel), List.mem_of_getElem? (i := 688) (by decide +kernel)⟩
theorem lw_p19 : lw_okq (⟨"Lantern", "tapeAt", "(I)LLantern$Tape;"⟩, 13) := ⟨⟨by decide +kernel, by decide +kernel⟩, List.mem_of_getElem? (i := 19) (by decide +kernel), List.mem_of_getElem? (i := 707) (by decide +kernel), List.mem_of_getElem? (i := 708) (by decide +kernel)⟩
theorem lw_p20 : lw_okq (⟨"Lantern", "beginsAtStart", "()Z"⟩, 13) := ⟨⟨by decide +kernel, by decide +kernel⟩, List.mem_of_getElem? (i := 19) (by decide +kernel), List.mem_of_getElem? (i := 712) (by decide +kernel), List.mem_of_getElem? (i := 713) (by decide +kernel)⟩
theorem lw_p21 : lw_okq (⟨"Lantern$Past", "stepAt", "(I)I"⟩, 3) := ⟨⟨by decide +kernel, by decide +kernel⟩, List.mem_of_getElem? (i := 110) (by decide +kernel), List.mem_of_getElem? (i := 730) (by decide +kernel), List.mem_of_getElem? (i := 731) (by decide +kernel)⟩
theorem lw_p22 : lw_okq (⟨"Lantern", "tryOut", "(ILLantern$Row;)I"⟩, 13) := ⟨⟨by decide +kernel, by decide +kernel⟩, List.mem_of_getElem? (i := 19) (by decide +kernel), List.mem_of_getElem? (i := 761) (by decide +kernel), List.mem_of_getElem? (i := 762) (by decide +kernel)⟩
theorem lw_p23 : lw_okq (⟨"Lantern", "mixedProgram", "(J)J"⟩, 13) := ⟨⟨by decide +kernel, by decide +kernel⟩, List.mem_of_getElem? (i := 19) (by decide +kernel), List.mem_of_getElem? (i := 797) (by decide +kernel), List.mem_of_getElem? (i := 798) (by decide +kernel)⟩
theorem lw_p24 : lw_okq (⟨"Lantern", "mixedPoints", "(J)J"⟩, 13) := ⟨⟨by decide +kernel, by decide +kernel⟩, List.mem_of_getElem? (i := 19) (by decide +kernel), List.mem_of_getElem? (i := 801) (by decide +kernel), List.mem_of_getElem? (i := 802) (by decide +kernel)⟩
theorem lw_p25 : lw_okq (⟨"Lantern", "mixedThen", "(JI)J"⟩, 13) := ⟨⟨by decide +kernel, by decide +kernel⟩, List.mem_of_getElem? (i := 19) (by decide +kernel), List.mem_of_getElem? (i := 805) (by decide +kernel), List.mem_of_getElem? (i := 806) (by decide +kernel)⟩
def lw_privs_2 : List (MethodName × Nat) := [(⟨"Lantern$Point", "holds", "(I)Z"⟩, 7), (⟨"Lantern", "goBack", "()LLantern$Moment;"⟩, 13), (⟨"Lantern", "ofNow", "(I)I"⟩, 13), (⟨"Lantern", "tapeAt", "(I)LLantern$Tape;"⟩, 13), (⟨"Lantern", "beginsAtStart", "()Z"⟩, 13), (⟨"Lantern$Past", "stepAt", "(I)I"⟩, 3), (⟨"Lantern", "tryOut", "(ILLantern$Row;)I"⟩, 13), (⟨"Lantern", "mixedProgram", "(J)J"⟩, 13), (⟨"Lantern", "mixedPoints", "(J)J"⟩, 13), (⟨"Lantern", "mixedThen", "(JI)J"⟩, 13)]
theorem lw_r2 : ∀ q ∈ lw_privs_2, lw_okq q := List.forall_mem_cons.mpr ⟨lw_p16, List.forall_mem_cons.mpr ⟨lw_p17, List.forall_mem_cons.mpr ⟨lw_p18, List.forall_mem_cons.mpr ⟨lw_p19, List.forall_mem_cons.mpr ⟨lw_p20, List.forall_mem_cons.mpr ⟨lw_p21, List.forall_mem_cons.mpr ⟨lw_p22, List.forall_mem_cons.mpr ⟨lw_p23, List.forall_mem_cons.mpr ⟨lw_p24, List.forall_mem_cons.mpr ⟨lw_p25, fun _ h => absurd h List.not_mem_nil⟩⟩⟩⟩⟩⟩⟩⟩⟩⟩
def lw_privs : List (MethodName × Nat) := lw_privs_1 ++ (lw_privs_2)
def lw_tbl : List Cond := k2_sels lw_privs ++ tables_1
theorem lw_privs_ok : ∀ q ∈ lw_privs, lw_okq q := by
  show ∀ q ∈ lw_privs_1 ++ (lw_privs_2), lw_okq q
  exact List.forall_mem_append.mpr ⟨lw_r1, lw_r2⟩
/-- the streams that the claim lets the run draw from -/
abbrev lw_cs : List Choice := [Jvm.Choice.named "NaN.bits"]
theorem lw_bits : nanBits ∈ lw_cs := by first | decide | exact List.mem_cons_self | simp [lw_cs, nanBits]
-- names (printed)
def RX0 : String := "Lantern$Moment"
def TX0 : u_T := fun k => match k with
  | 0 => ("Lantern$Moment", "at", "I", false)
  | 1 => ("Lantern$Moment", "stackSize", "I", false)
  | 2 => ("Lantern$Moment", "top", "I", false)
  | 3 => ("Lantern$Moment", "second", "I", false)
  | 4 => ("Lantern$Moment", "frameCount", "I", false)
  | 5 => ("Lantern$Moment", "wayBack", "I", false)
  | 6 => ("Lantern$Moment", "read", "I", false)
  | 7 => ("Lantern$Moment", "outputSize", "I", false)
  | 8 => ("Lantern$Moment", "cell", "I", false)
  | 9 => ("Lantern$Moment", "before", "I", false)
  | _ => ("Lantern$Moment", "after", "I", false)
def tyX0 : Nat → FieldType := fun k => match k with
  | 0 => .int
  | 1 => .int
  | 2 => .int
  | 3 => .int
  | 4 => .int
  | 5 => .int
  | 6 => .int
  | 7 => .int
  | 8 => .int
  | 9 => .int
  | _ => .int
abbrev wsX00 : List Cond := u_ws RX0 TX0 11
theorem nmX0 : ∀ a, a < 11 → ∀ b, b < 11 → a ≠ b → (TX0 a).2.1 ≠ (TX0 b).2.1 := by decide +kernel
theorem tyX0_ok : ∀ k, k < 11 → parseFieldDescriptor (TX0 k).2.2.1 = some (tyX0 k) := by decide +kernel
abbrev cX0_init : ByteArray := prog_2_method_1_code
def yX0_init : MethodName := ⟨RX0, "<init>", "()V"⟩
abbrev cX0_describeStore : ByteArray := prog_2_method_2_code
def yX0_describeStore : MethodName := ⟨RX0, "describeStore", "(III)V"⟩
abbrev cX0_changed : ByteArray := prog_2_method_3_code
def yX0_changed : MethodName := ⟨RX0, "changed", "(I)Z"⟩
abbrev cX0_tellOf : ByteArray := prog_2_method_4_code
def yX0_tellOf : MethodName := ⟨RX0, "tellOf", "(I)I"⟩
def RX1 : String := "Lantern$Past"
def TX1 : u_T := fun k => match k with
  | 0 => ("Lantern$Past", "moments", "[LLantern$Moment;", true)
  | 1 => ("Lantern$Past", "first", "I", false)
  | _ => ("Lantern$Past", "count", "I", false)
def tyX1 : Nat → FieldType := fun k => match k with
  | 0 => .array (.object "Lantern$Moment")
  | 1 => .int
  | _ => .int
abbrev wsX10 : List Cond := u_ws RX1 TX1 3
theorem nmX1 : ∀ a, a < 3 → ∀ b, b < 3 → a ≠ b → (TX1 a).2.1 ≠ (TX1 b).2.1 := by decide +kernel
theorem tyX1_ok : ∀ k, k < 3 → parseFieldDescriptor (TX1 k).2.2.1 = some (tyX1 k) := by decide +kernel
abbrev cX1_init : ByteArray := prog_3_method_1_code
def yX1_init : MethodName := ⟨RX1, "<init>", "()V"⟩
abbrev cX1_size : ByteArray := prog_3_method_2_code
def yX1_size : MethodName := ⟨RX1, "size", "()I"⟩
abbrev cX1_clear : ByteArray := prog_3_method_3_code
def yX1_clear : MethodName := ⟨RX1, "clear", "()V"⟩
abbrev cX1_newest : ByteArray := prog_3_method_4_code
def yX1_newest : MethodName := ⟨RX1, "newest", "()LLantern$Moment;"⟩
abbrev cX1_dropLatest : ByteArray := prog_3_method_5_code
def yX1_dropLatest : MethodName := ⟨RX1, "dropLatest", "()V"⟩
abbrev cX1_ago : ByteArray := prog_3_method_6_code
def yX1_ago : MethodName := ⟨RX1, "ago", "(I)LLantern$Moment;"⟩
abbrev cX1_stepAt : ByteArray := prog_3_method_7_code
def yX1_stepAt : MethodName := ⟨RX1, "stepAt", "(I)I"⟩
abbrev cX1_cellAgo : ByteArray := prog_3_method_8_code
def yX1_cellAgo : MethodName := ⟨RX1, "cellAgo", "(III)I"⟩
abbrev cX1_storedAgo : ByteArray := prog_3_method_9_code
def yX1_storedAgo : MethodName := ⟨RX1, "storedAgo", "(I)I"⟩
abbrev cX1_writeSteps : ByteArray := prog_3_method_10_code
def yX1_writeSteps : MethodName := ⟨RX1, "writeSteps", "(LLantern$Row;)V"⟩
abbrev cX1_firstOther : ByteArray := prog_3_method_11_code
def yX1_firstOther : MethodName := ⟨RX1, "firstOther", "(LLantern$Row;)I"⟩
def RX2 : String := "Lantern$Point"
def TX2 : u_T := fun k => match k with
  | 0 => ("Lantern$Point", "step", "I", false)
  | 1 => ("Lantern$Point", "pass", "I", false)
  | 2 => ("Lantern$Point", "isOn", "Z", false)
  | 3 => ("Lantern$Point", "how", "I", false)
  | 4 => ("Lantern$Point", "cell", "I", false)
  | 5 => ("Lantern$Point", "n", "I", false)
  | _ => ("Lantern$Point", "stops", "I", false)
def tyX2 : Nat → FieldType := fun k => match k with
  | 0 => .int
  | 1 => .int
  | 2 => .boolean
  | 3 => .int
  | 4 => .int
  | 5 => .int
  | _ => .int
abbrev wsX20 : List Cond := u_ws RX2 TX2 7
theorem nmX2 : ∀ a, a < 7 → ∀ b, b < 7 → a ≠ b → (TX2 a).2.1 ≠ (TX2 b).2.1 := by decide +kernel
theorem tyX2_ok : ∀ k, k < 7 → parseFieldDescriptor (TX2 k).2.2.1 = some (tyX2 k) := by decide +kernel
abbrev cX2_init : ByteArray := prog_4_method_1_code
def yX2_init : MethodName := ⟨RX2, "<init>", "()V"⟩
abbrev cX2_place : ByteArray := prog_4_method_2_code
def yX2_place : MethodName := ⟨RX2, "place", "(II)V"⟩
abbrev cX2_isHit : ByteArray := prog_4_method_3_code
def yX2_isHit : MethodName := ⟨RX2, "isHit", "(LLantern$State;)Z"⟩
abbrev cX2_holds : ByteArray := prog_4_method_4_code
def yX2_holds : MethodName := ⟨RX2, "holds", "(I)Z"⟩
abbrev cX2_letsPass : ByteArray := prog_4_method_5_code
def yX2_letsPass : MethodName := ⟨RX2, "letsPass", "()Z"⟩
def RX3 : String := "Lantern$Program"
def TX3 : u_T := fun k => match k with
  | 0 => ("Lantern$Program", "codes", "LLantern$Row;", true)
  | 1 => ("Lantern$Program", "numbers", "LLantern$Row;", true)
  | _ => ("Lantern$Program", "times", "LLantern$Row;", true)
def tyX3 : Nat → FieldType := fun k => match k with
  | 0 => .object "Lantern$Row"
  | 1 => .object "Lantern$Row"
  | _ => .object "Lantern$Row"
abbrev wsX30 : List Cond := u_ws RX3 TX3 3
theorem nmX3 : ∀ a, a < 3 → ∀ b, b < 3 → a ≠ b → (TX3 a).2.1 ≠ (TX3 b).2.1 := by decide +kernel
theorem tyX3_ok : ∀ k, k < 3 → parseFieldDescriptor (TX3 k).2.2.1 = some (tyX3 k) := by decide +kernel
abbrev cX3_init : ByteArray := prog_5_method_1_code
def yX3_init : MethodName := ⟨RX3, "<init>", "()V"⟩
abbrev cX3_allows : ByteArray := prog_5_method_2_code
def yX3_allows : MethodName := ⟨RX3, "allows", "(II)Z"⟩
abbrev cX3_size : ByteArray := prog_5_method_3_code
def yX3_size : MethodName := ⟨RX3, "size", "()I"⟩
abbrev cX3_isFull : ByteArray := prog_5_method_4_code
def yX3_isFull : MethodName := ⟨RX3, "isFull", "()Z"⟩
abbrev cX3_has : ByteArray := prog_5_method_5_code
def yX3_has : MethodName := ⟨RX3, "has", "(I)Z"⟩
abbrev cX3_codeAt : ByteArray := prog_5_method_6_code
def yX3_codeAt : MethodName := ⟨RX3, "codeAt", "(I)I"⟩
abbrev cX3_numberAt : ByteArray := prog_5_method_7_code
def yX3_numberAt : MethodName := ⟨RX3, "numberAt", "(I)I"⟩
abbrev cX3_timesAt : ByteArray := prog_5_method_8_code
def yX3_timesAt : MethodName := ⟨RX3, "timesAt", "(I)I"⟩
abbrev cX3_add : ByteArray := prog_5_method_9_code
def yX3_add : MethodName := ⟨RX3, "add", "(II)V"⟩
abbrev cX3_countTime : ByteArray := prog_5_method_11_code
def yX3_countTime : MethodName := ⟨RX3, "countTime", "(I)V"⟩
abbrev cX3_forgetTimes : ByteArray := prog_5_method_12_code
def yX3_forgetTimes : MethodName := ⟨RX3, "forgetTimes", "()V"⟩
def RX4 : String := "Lantern$Row"
def TX4 : u_T := fun k => match k with
  | 0 => ("Lantern$Row", "items", "[I", true)
  | _ => ("Lantern$Row", "count", "I", false)
def tyX4 : Nat → FieldType := fun k => match k with
  | 0 => .array .int
  | _ => .int
abbrev wsX40 : List Cond := u_ws RX4 TX4 2
theorem nmX4 : ∀ a, a < 2 → ∀ b, b < 2 → a ≠ b → (TX4 a).2.1 ≠ (TX4 b).2.1 := by decide +kernel
theorem tyX4_ok : ∀ k, k < 2 → parseFieldDescriptor (TX4 k).2.2.1 = some (tyX4 k) := by decide +kernel
abbrev cX4_init : ByteArray := prog_6_method_1_code
def yX4_init : MethodName := ⟨RX4, "<init>", "(I)V"⟩
abbrev cX4_size : ByteArray := prog_6_method_2_code
def yX4_size : MethodName := ⟨RX4, "size", "()I"⟩
abbrev cX4_isFull : ByteArray := prog_6_method_3_code
def yX4_isFull : MethodName := ⟨RX4, "isFull", "()Z"⟩
abbrev cX4_has : ByteArray := prog_6_method_4_code
def yX4_has : MethodName := ⟨RX4, "has", "(I)Z"⟩
abbrev cX4_get : ByteArray := prog_6_method_5_code
def yX4_get : MethodName := ⟨RX4, "get", "(I)I"⟩
abbrev cX4_fromTop : ByteArray := prog_6_method_6_code
def yX4_fromTop : MethodName := ⟨RX4, "fromTop", "(I)I"⟩
abbrev cX4_put : ByteArray := prog_6_method_7_code
def yX4_put : MethodName := ⟨RX4, "put", "(II)V"⟩
abbrev cX4_putFromTop : ByteArray := prog_6_method_8_code
def yX4_putFromTop : MethodName := ⟨RX4, "putFromTop", "(II)V"⟩
abbrev cX4_push : ByteArray := prog_6_method_9_code
def yX4_push : MethodName := ⟨RX4, "push", "(I)V"⟩
abbrev cX4_pop : ByteArray := prog_6_method_10_code
def yX4_pop : MethodName := ⟨RX4, "pop", "()I"⟩
abbrev cX4_resize : ByteArray := prog_6_method_11_code
def yX4_resize : MethodName := ⟨RX4, "resize", "(I)V"⟩
abbrev cX4_fillWithZeros : ByteArray := prog_6_method_12_code
def yX4_fillWithZeros : MethodName := ⟨RX4, "fillWithZeros", "()V"⟩
abbrev cX4_copyFrom : ByteArray := prog_6_method_13_code
def yX4_copyFrom : MethodName := ⟨RX4, "copyFrom", "(LLantern$Row;)V"⟩
abbrev cX4_mixedInto : ByteArray := prog_6_method_15_code
def yX4_mixedInto : MethodName := ⟨RX4, "mixedInto", "(J)J"⟩
abbrev cX4_mixedFromTopInto : ByteArray := prog_6_method_16_code
def yX4_mixedFromTopInto : MethodName := ⟨RX4, "mixedFromTopInto", "(J)J"⟩
def RX5 : String := "Lantern$State"
def TX5 : u_T := fun k => match k with
  | 0 => ("Lantern$State", "stack", "LLantern$Row;", true)
  | 1 => ("Lantern$State", "cells", "LLantern$Row;", true)
  | 2 => ("Lantern$State", "frames", "LLantern$Row;", true)
  | 3 => ("Lantern$State", "output", "LLantern$Row;", true)
  | 4 => ("Lantern$State", "at", "I", false)
  | 5 => ("Lantern$State", "status", "I", false)
  | 6 => ("Lantern$State", "read", "I", false)
  | _ => ("Lantern$State", "clock", "I", false)
def tyX5 : Nat → FieldType := fun k => match k with
  | 0 => .object "Lantern$Row"
  | 1 => .object "Lantern$Row"
  | 2 => .object "Lantern$Row"
  | 3 => .object "Lantern$Row"
  | 4 => .int
  | 5 => .int
  | 6 => .int
  | _ => .int
abbrev wsX50 : List Cond := u_ws RX5 TX5 8
theorem nmX5 : ∀ a, a < 8 → ∀ b, b < 8 → a ≠ b → (TX5 a).2.1 ≠ (TX5 b).2.1 := by decide +kernel
theorem tyX5_ok : ∀ k, k < 8 → parseFieldDescriptor (TX5 k).2.2.1 = some (tyX5 k) := by decide +kernel
abbrev cX5_init : ByteArray := prog_7_method_1_code
def yX5_init : MethodName := ⟨RX5, "<init>", "()V"⟩
abbrev cX5_clear : ByteArray := prog_7_method_2_code
def yX5_clear : MethodName := ⟨RX5, "clear", "()V"⟩
abbrev cX5_copyFrom : ByteArray := prog_7_method_3_code
def yX5_copyFrom : MethodName := ⟨RX5, "copyFrom", "(LLantern$State;)V"⟩
abbrev cX5_readies : ByteArray := prog_7_method_4_code
def yX5_readies : MethodName := ⟨RX5, "readies", "(LLantern$Program;)Z"⟩
abbrev cX5_failureOf : ByteArray := prog_7_method_5_code
def yX5_failureOf : MethodName := ⟨RX5, "failureOf", "(LLantern$Program;)I"⟩
abbrev cX5_needOnStack : ByteArray := prog_7_method_6_code
def yX5_needOnStack : MethodName := ⟨RX5, "needOnStack", "(I)I"⟩
abbrev cX5_isTooFullFor : ByteArray := prog_7_method_7_code
def yX5_isTooFullFor : MethodName := ⟨RX5, "isTooFullFor", "(I)Z"⟩
abbrev cX5_perform : ByteArray := prog_7_method_8_code
def yX5_perform : MethodName := ⟨RX5, "perform", "(LLantern$Program;LLantern$Row;)V"⟩
abbrev cX5_swap : ByteArray := prog_7_method_9_code
def yX5_swap : MethodName := ⟨RX5, "swap", "()V"⟩
abbrev cX5_storeAt : ByteArray := prog_7_method_10_code
def yX5_storeAt : MethodName := ⟨RX5, "storeAt", "()V"⟩
abbrev cX5_readFrom : ByteArray := prog_7_method_11_code
def yX5_readFrom : MethodName := ⟨RX5, "readFrom", "(LLantern$Row;)I"⟩
abbrev cX5_reckon : ByteArray := prog_7_method_12_code
def yX5_reckon : MethodName := ⟨RX5, "reckon", "(I)V"⟩
abbrev cX5_reckoned : ByteArray := prog_7_method_13_code
def yX5_reckoned : MethodName := ⟨RX5, "reckoned", "(III)I"⟩
abbrev cX5_describe : ByteArray := prog_7_method_14_code
def yX5_describe : MethodName := ⟨RX5, "describe", "(LLantern$Moment;LLantern$Program;)V"⟩
abbrev cX5_goBackTo : ByteArray := prog_7_method_15_code
def yX5_goBackTo : MethodName := ⟨RX5, "goBackTo", "(LLantern$Moment;)V"⟩
abbrev cX5_mixedInto : ByteArray := prog_7_method_16_code
def yX5_mixedInto : MethodName := ⟨RX5, "mixedInto", "(J)J"⟩
def RX6 : String := "Lantern$Tape"
def TX6 : u_T := fun k => match k with
  | 0 => ("Lantern$Tape", "steps", "LLantern$Row;", true)
  | 1 => ("Lantern$Tape", "input", "LLantern$Row;", true)
  | _ => ("Lantern$Tape", "isRecorded", "Z", false)
def tyX6 : Nat → FieldType := fun k => match k with
  | 0 => .object "Lantern$Row"
  | 1 => .object "Lantern$Row"
  | _ => .boolean
abbrev wsX60 : List Cond := u_ws RX6 TX6 3
theorem nmX6 : ∀ a, a < 3 → ∀ b, b < 3 → a ≠ b → (TX6 a).2.1 ≠ (TX6 b).2.1 := by decide +kernel
theorem tyX6_ok : ∀ k, k < 3 → parseFieldDescriptor (TX6 k).2.2.1 = some (tyX6 k) := by decide +kernel
abbrev cX6_init : ByteArray := prog_8_method_1_code
def yX6_init : MethodName := ⟨RX6, "<init>", "()V"⟩
def RX7 : String := "Lantern$Watch"
def TX7 : u_T := fun k => match k with
  | 0 => ("Lantern$Watch", "cell", "I", false)
  | 1 => ("Lantern$Watch", "kind", "I", false)
  | _ => ("Lantern$Watch", "n", "I", false)
def tyX7 : Nat → FieldType := fun k => match k with
  | 0 => .int
  | 1 => .int
  | _ => .int
abbrev wsX70 : List Cond := u_ws RX7 TX7 3
theorem nmX7 : ∀ a, a < 3 → ∀ b, b < 3 → a ≠ b → (TX7 a).2.1 ≠ (TX7 b).2.1 := by decide +kernel
theorem tyX7_ok : ∀ k, k < 3 → parseFieldDescriptor (TX7 k).2.2.1 = some (tyX7 k) := by decide +kernel
abbrev cX7_init : ByteArray := prog_9_method_1_code
def yX7_init : MethodName := ⟨RX7, "<init>", "()V"⟩
abbrev cX7_isMetBy : ByteArray := prog_9_method_3_code
def yX7_isMetBy : MethodName := ⟨RX7, "isMetBy", "(LLantern$Moment;)Z"⟩
def RX8 : String := "Lantern"
def TX8 : u_T := fun k => match k with
  | 0 => ("Lantern", "program", "LLantern$Program;", true)
  | 1 => ("Lantern", "input", "LLantern$Row;", true)
  | 2 => ("Lantern", "state", "LLantern$State;", true)
  | 3 => ("Lantern", "past", "LLantern$Past;", true)
  | 4 => ("Lantern", "points", "[LLantern$Point;", true)
  | 5 => ("Lantern", "pointCount", "I", false)
  | 6 => ("Lantern", "watches", "[LLantern$Watch;", true)
  | 7 => ("Lantern", "watchCount", "I", false)
  | 8 => ("Lantern", "tapes", "[LLantern$Tape;", true)
  | 9 => ("Lantern", "reason", "I", false)
  | 10 => ("Lantern", "cause", "I", false)
  | 11 => ("Lantern", "trial", "LLantern$State;", true)
  | _ => ("Lantern", "trialInput", "LLantern$Row;", true)
def tyX8 : Nat → FieldType := fun k => match k with
  | 0 => .object "Lantern$Program"
  | 1 => .object "Lantern$Row"
  | 2 => .object "Lantern$State"
  | 3 => .object "Lantern$Past"
  | 4 => .array (.object "Lantern$Point")
  | 5 => .int
  | 6 => .array (.object "Lantern$Watch")
  | 7 => .int
  | 8 => .array (.object "Lantern$Tape")
  | 9 => .int
  | 10 => .int
  | 11 => .object "Lantern$State"
  | _ => .object "Lantern$Row"
abbrev wsX80 : List Cond := u_ws RX8 TX8 13
theorem nmX8 : ∀ a, a < 13 → ∀ b, b < 13 → a ≠ b → (TX8 a).2.1 ≠ (TX8 b).2.1 := by decide +kernel
theorem tyX8_ok : ∀ k, k < 13 → parseFieldDescriptor (TX8 k).2.2.1 = some (tyX8 k) := by decide +kernel
abbrev cX8_init : ByteArray := prog_1_method_1_code
def yX8_init : MethodName := ⟨RX8, "<init>", "()V"⟩
abbrev cX8_step : ByteArray := prog_1_method_2_code
def yX8_step : MethodName := ⟨RX8, "step", "(II)I"⟩
abbrev cX8_give : ByteArray := prog_1_method_4_code
def yX8_give : MethodName := ⟨RX8, "give", "(I)I"⟩
abbrev cX8_restart : ByteArray := prog_1_method_5_code
def yX8_restart : MethodName := ⟨RX8, "restart", "()I"⟩
abbrev cX8_start : ByteArray := prog_1_method_6_code
def yX8_start : MethodName := ⟨RX8, "start", "()V"⟩
abbrev cX8_point : ByteArray := prog_1_method_7_code
def yX8_point : MethodName := ⟨RX8, "point", "(II)I"⟩
abbrev cX8_isCell : ByteArray := prog_1_method_12_code
def yX8_isCell : MethodName := ⟨RX8, "isCell", "(I)Z"⟩
abbrev cX8_isPass : ByteArray := prog_1_method_13_code
def yX8_isPass : MethodName := ⟨RX8, "isPass", "(I)Z"⟩
abbrev cX8_pointNumbered : ByteArray := prog_1_method_14_code
def yX8_pointNumbered : MethodName := ⟨RX8, "pointNumbered", "(I)LLantern$Point;"⟩
abbrev cX8_watchNumbered : ByteArray := prog_1_method_15_code
def yX8_watchNumbered : MethodName := ⟨RX8, "watchNumbered", "(I)LLantern$Watch;"⟩
abbrev cX8_run : ByteArray := prog_1_method_16_code
def yX8_run : MethodName := ⟨RX8, "run", "(I)I"⟩
abbrev cX8_back : ByteArray := prog_1_method_19_code
def yX8_back : MethodName := ⟨RX8, "back", "(I)I"⟩
abbrev cX8_isRunLength : ByteArray := prog_1_method_21_code
def yX8_isRunLength : MethodName := ⟨RX8, "isRunLength", "(I)Z"⟩
abbrev cX8_stopBy : ByteArray := prog_1_method_22_code
def yX8_stopBy : MethodName := ⟨RX8, "stopBy", "(II)V"⟩
abbrev cX8_runTill : ByteArray := prog_1_method_23_code
def yX8_runTill : MethodName := ⟨RX8, "runTill", "(II)I"⟩
abbrev cX8_doStep : ByteArray := prog_1_method_24_code
def yX8_doStep : MethodName := ⟨RX8, "doStep", "()Z"⟩
abbrev cX8_stopsRun : ByteArray := prog_1_method_25_code
def yX8_stopsRun : MethodName := ⟨RX8, "stopsRun", "(I)Z"⟩
abbrev cX8_watchMet : ByteArray := prog_1_method_26_code
def yX8_watchMet : MethodName := ⟨RX8, "watchMet", "()I"⟩
abbrev cX8_pointStopping : ByteArray := prog_1_method_27_code
def yX8_pointStopping : MethodName := ⟨RX8, "pointStopping", "()I"⟩
abbrev cX8_goBack : ByteArray := prog_1_method_28_code
def yX8_goBack : MethodName := ⟨RX8, "goBack", "()LLantern$Moment;"⟩
abbrev cX8_told : ByteArray := prog_1_method_30_code
def yX8_told : MethodName := ⟨RX8, "told", "(I)I"⟩
abbrev cX8_stack : ByteArray := prog_1_method_31_code
def yX8_stack : MethodName := ⟨RX8, "stack", "(I)I"⟩
abbrev cX8_cell : ByteArray := prog_1_method_32_code
def yX8_cell : MethodName := ⟨RX8, "cell", "(I)I"⟩
abbrev cX8_frame : ByteArray := prog_1_method_33_code
def yX8_frame : MethodName := ⟨RX8, "frame", "(I)I"⟩
abbrev cX8_output : ByteArray := prog_1_method_34_code
def yX8_output : MethodName := ⟨RX8, "output", "(I)I"⟩
abbrev cX8_ofStep : ByteArray := prog_1_method_35_code
def yX8_ofStep : MethodName := ⟨RX8, "ofStep", "(II)I"⟩
abbrev cX8_ofPoint : ByteArray := prog_1_method_36_code
def yX8_ofPoint : MethodName := ⟨RX8, "ofPoint", "(II)I"⟩
abbrev cX8_then : ByteArray := prog_1_method_37_code
def yX8_then : MethodName := ⟨RX8, "then", "(II)I"⟩
abbrev cX8_wroteAgo : ByteArray := prog_1_method_38_code
def yX8_wroteAgo : MethodName := ⟨RX8, "wroteAgo", "(I)I"⟩
abbrev cX8_ofNow : ByteArray := prog_1_method_39_code
def yX8_ofNow : MethodName := ⟨RX8, "ofNow", "(I)I"⟩
abbrev cX8_truth : ByteArray := prog_1_method_40_code
def yX8_truth : MethodName := ⟨RX8, "truth", "(Z)I"⟩
abbrev cX8_record : ByteArray := prog_1_method_41_code
def yX8_record : MethodName := ⟨RX8, "record", "(I)I"⟩
abbrev cX8_replay : ByteArray := prog_1_method_42_code
def yX8_replay : MethodName := ⟨RX8, "replay", "(I)I"⟩
abbrev cX8_parts : ByteArray := prog_1_method_43_code
def yX8_parts : MethodName := ⟨RX8, "parts", "(I)I"⟩
abbrev cX8_tapeAt : ByteArray := prog_1_method_44_code
def yX8_tapeAt : MethodName := ⟨RX8, "tapeAt", "(I)LLantern$Tape;"⟩
abbrev cX8_beginsAtStart : ByteArray := prog_1_method_45_code
def yX8_beginsAtStart : MethodName := ⟨RX8, "beginsAtStart", "()Z"⟩
abbrev cX8_endsIn : ByteArray := prog_1_method_46_code
def yX8_endsIn : MethodName := ⟨RX8, "endsIn", "(I)I"⟩
abbrev cX8_cellIn : ByteArray := prog_1_method_47_code
def yX8_cellIn : MethodName := ⟨RX8, "cellIn", "(II)I"⟩
abbrev cX8_heat : ByteArray := prog_1_method_49_code
def yX8_heat : MethodName := ⟨RX8, "heat", "()D"⟩
abbrev cX8_digest : ByteArray := prog_1_method_50_code
def yX8_digest : MethodName := ⟨RX8, "digest", "()J"⟩
abbrev cX8_tryOut : ByteArray := prog_1_method_51_code
def yX8_tryOut : MethodName := ⟨RX8, "tryOut", "(ILLantern$Row;)I"⟩
abbrev cX8_mixed : ByteArray := prog_1_method_52_code
def yX8_mixed : MethodName := ⟨RX8, "mixed", "(JI)J"⟩
abbrev cX8_mixedProgram : ByteArray := prog_1_method_53_code
def yX8_mixedProgram : MethodName := ⟨RX8, "mixedProgram", "(J)J"⟩
abbrev cX8_mixedPoints : ByteArray := prog_1_method_54_code
def yX8_mixedPoints : MethodName := ⟨RX8, "mixedPoints", "(J)J"⟩
abbrev cX8_mixedThen : ByteArray := prog_1_method_55_code
def yX8_mixedThen : MethodName := ⟨RX8, "mixedThen", "(JI)J"⟩
def RX9 : String := "LanternModel$Point"
def TX9 : u_T := fun k => match k with
  | _ => ("", "", "", false)
def tyX9 : Nat → FieldType := fun k => match k with
  | _ => .int
abbrev wsX90 : List Cond := u_ws RX9 TX9 0
theorem nmX9 : ∀ a, a < 0 → ∀ b, b < 0 → a ≠ b → (TX9 a).2.1 ≠ (TX9 b).2.1 := by decide +kernel
theorem tyX9_ok : ∀ k, k < 0 → parseFieldDescriptor (TX9 k).2.2.1 = some (tyX9 k) := by decide +kernel
def RX10 : String := "LanternModel$Recorded"
def TX10 : u_T := fun k => match k with
  | _ => ("", "", "", false)
def tyX10 : Nat → FieldType := fun k => match k with
  | _ => .int
abbrev wsX100 : List Cond := u_ws RX10 TX10 0
theorem nmX10 : ∀ a, a < 0 → ∀ b, b < 0 → a ≠ b → (TX10 a).2.1 ≠ (TX10 b).2.1 := by decide +kernel
theorem tyX10_ok : ∀ k, k < 0 → parseFieldDescriptor (TX10 k).2.2.1 = some (tyX10 k) := by decide +kernel
def RX11 : String := "LanternModel$State"
def TX11 : u_T := fun k => match k with
  | _ => ("", "", "", false)
def tyX11 : Nat → FieldType := fun k => match k with
  | _ => .int
abbrev wsX110 : List Cond := u_ws RX11 TX11 0
theorem nmX11 : ∀ a, a < 0 → ∀ b, b < 0 → a ≠ b → (TX11 a).2.1 ≠ (TX11 b).2.1 := by decide +kernel
theorem tyX11_ok : ∀ k, k < 0 → parseFieldDescriptor (TX11 k).2.2.1 = some (tyX11 k) := by decide +kernel
def RX12 : String := "LanternModel"
def TX12 : u_T := fun k => match k with
  | _ => ("", "", "", false)
def tyX12 : Nat → FieldType := fun k => match k with
  | _ => .int
abbrev wsX120 : List Cond := u_ws RX12 TX12 0
theorem nmX12 : ∀ a, a < 0 → ∀ b, b < 0 → a ≠ b → (TX12 a).2.1 ≠ (TX12 b).2.1 := by decide +kernel
theorem tyX12_ok : ∀ k, k < 0 → parseFieldDescriptor (TX12 k).2.2.1 = some (tyX12 k) := by decide +kernel
def RL : String := "LanternLaw"
abbrev cL_below : ByteArray := method_2_code
def yL_below : MethodName := ⟨RL, "below", "(II)I"⟩
abbrev cL_cell : ByteArray := method_3_code
def yL_cell : MethodName := ⟨RL, "cell", "([II)I"⟩
abbrev cL_program : ByteArray := method_4_code
def yL_program : MethodName := ⟨RL, "program", "(LLantern;[II)[[I"⟩
abbrev cL_state : ByteArray := method_5_code
def yL_state : MethodName := ⟨RL, "state", "(LLantern;)J"⟩
abbrev cL_law : ByteArray := code
def yL_law : MethodName := ⟨RL, "law", "([I)Z"⟩
abbrev vwCl : List vw_C := [(RX0, TX0, 11), (RX1, TX1, 3), (RX2, TX2, 7), (RX3, TX3, 3), (RX4, TX4, 2), (RX5, TX5, 8), (RX6, TX6, 3), (RX7, TX7, 3), (RX8, TX8, 13)]
