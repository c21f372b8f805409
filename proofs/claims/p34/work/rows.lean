section
-- ===== PART A: goes FIRST, ahead of the names: the tables' words, and 'selects' of the private methods out of them =====
/-- a private method of a class that the tables say can be made, by its rows of tables_1 -/
def lw_okq (q : MethodName × Nat) : Prop := (q.1.cls ≠ "java/lang/invoke/MethodHandle" ∧ q.1.cls ≠ "java/lang/invoke/VarHandle") ∧ Cond.instantiable q.1.cls q.2 ∈ tables_1 ∧ Cond.privateMethod q.1 ∈ tables_1 ∧ Cond.instanceMethod q.1 ∈ tables_1
theorem lw_p0 : lw_okq (⟨"java/lang/Throwable", "fillInStackTrace", "(I)Ljava/lang/Throwable;"⟩, 6) := ⟨⟨by decide +kernel, by decide +kernel⟩, List.mem_of_getElem? (i := 334) (by decide +kernel), List.mem_of_getElem? (i := 332) (by decide +kernel), List.mem_of_getElem? (i := 333) (by decide +kernel)⟩
theorem lw_p1 : lw_okq (⟨"Lantern", "start", "()V"⟩, 13) := ⟨⟨by decide +kernel, by decide +kernel⟩, List.mem_of_getElem? (i := 19) (by decide +kernel), List.mem_of_getElem? (i := 376) (by decide +kernel), List.mem_of_getElem? (i := 377) (by decide +kernel)⟩
theorem lw_p2 : lw_okq (⟨"Lantern", "stopBy", "(II)V"⟩, 13) := ⟨⟨by decide +kernel, by decide +kernel⟩, List.mem_of_getElem? (i := 19) (by decide +kernel), List.mem_of_getElem? (i := 404) (by decide +kernel), List.mem_of_getElem? (i := 405) (by decide +kernel)⟩
theorem lw_p3 : lw_okq (⟨"Lantern", "runTill", "(II)I"⟩, 13) := ⟨⟨by decide +kernel, by decide +kernel⟩, List.mem_of_getElem? (i := 19) (by decide +kernel), List.mem_of_getElem? (i := 448) (by decide +kernel), List.mem_of_getElem? (i := 449) (by decide +kernel)⟩
theorem lw_p4 : lw_okq (⟨"Lantern", "doStep", "()Z"⟩, 13) := ⟨⟨by decide +kernel, by decide +kernel⟩, List.mem_of_getElem? (i := 19) (by decide +kernel), List.mem_of_getElem? (i := 452) (by decide +kernel), List.mem_of_getElem? (i := 453) (by decide +kernel)⟩
theorem lw_p5 : lw_okq (⟨"Lantern$State", "failureOf", "(LLantern$Program;)I"⟩, 8) := ⟨⟨by decide +kernel, by decide +kernel⟩, List.mem_of_getElem? (i := 62) (by decide +kernel), List.mem_of_getElem? (i := 460) (by decide +kernel), List.mem_of_getElem? (i := 461) (by decide +kernel)⟩
theorem lw_p6 : lw_okq (⟨"Lantern$State", "isTooFullFor", "(I)Z"⟩, 8) := ⟨⟨by decide +kernel, by decide +kernel⟩, List.mem_of_getElem? (i := 62) (by decide +kernel), List.mem_of_getElem? (i := 492) (by decide +kernel), List.mem_of_getElem? (i := 493) (by decide +kernel)⟩
theorem lw_p7 : lw_okq (⟨"Lantern$State", "swap", "()V"⟩, 8) := ⟨⟨by decide +kernel, by decide +kernel⟩, List.mem_of_getElem? (i := 62) (by decide +kernel), List.mem_of_getElem? (i := 527) (by decide +kernel), List.mem_of_getElem? (i := 528) (by decide +kernel)⟩
theorem lw_p8 : lw_okq (⟨"Lantern$State", "storeAt", "()V"⟩, 8) := ⟨⟨by decide +kernel, by decide +kernel⟩, List.mem_of_getElem? (i := 62) (by decide +kernel), List.mem_of_getElem? (i := 535) (by decide +kernel), List.mem_of_getElem? (i := 536) (by decide +kernel)⟩
theorem lw_p9 : lw_okq (⟨"Lantern$State", "readFrom", "(LLantern$Row;)I"⟩, 8) := ⟨⟨by decide +kernel, by decide +kernel⟩, List.mem_of_getElem? (i := 62) (by decide +kernel), List.mem_of_getElem? (i := 539) (by decide +kernel), List.mem_of_getElem? (i := 540) (by decide +kernel)⟩
theorem lw_p10 : lw_okq (⟨"Lantern$State", "reckon", "(I)V"⟩, 8) := ⟨⟨by decide +kernel, by decide +kernel⟩, List.mem_of_getElem? (i := 62) (by decide +kernel), List.mem_of_getElem? (i := 544) (by decide +kernel), List.mem_of_getElem? (i := 545) (by decide +kernel)⟩
theorem lw_p11 : lw_okq (⟨"Lantern", "stopsRun", "(I)Z"⟩, 13) := ⟨⟨by decide +kernel, by decide +kernel⟩, List.mem_of_getElem? (i := 19) (by decide +kernel), List.mem_of_getElem? (i := 551) (by decide +kernel), List.mem_of_getElem? (i := 552) (by decide +kernel)⟩
theorem lw_p12 : lw_okq (⟨"Lantern", "watchMet", "()I"⟩, 13) := ⟨⟨by decide +kernel, by decide +kernel⟩, List.mem_of_getElem? (i := 19) (by decide +kernel), List.mem_of_getElem? (i := 555) (by decide +kernel), List.mem_of_getElem? (i := 556) (by decide +kernel)⟩
theorem lw_p13 : lw_okq (⟨"Lantern", "watchNumbered", "(I)LLantern$Watch;"⟩, 13) := ⟨⟨by decide +kernel, by decide +kernel⟩, List.mem_of_getElem? (i := 19) (by decide +kernel), List.mem_of_getElem? (i := 563) (by decide +kernel), List.mem_of_getElem? (i := 564) (by decide +kernel)⟩
theorem lw_p14 : lw_okq (⟨"Lantern", "pointStopping", "()I"⟩, 13) := ⟨⟨by decide +kernel, by decide +kernel⟩, List.mem_of_getElem? (i := 19) (by decide +kernel), List.mem_of_getElem? (i := 575) (by decide +kernel), List.mem_of_getElem? (i := 576) (by decide +kernel)⟩
theorem lw_p15 : lw_okq (⟨"Lantern", "pointNumbered", "(I)LLantern$Point;"⟩, 13) := ⟨⟨by decide +kernel, by decide +kernel⟩, List.mem_of_getElem? (i := 19) (by decide +kernel), List.mem_of_getElem? (i := 579) (by decide +kernel), List.mem_of_getElem? (i := 580) (by decide +kernel)⟩
def lw_privs_1 : List (MethodName × Nat) := [(⟨"java/lang/Throwable", "fillInStackTrace", "(I)Ljava/lang/Throwable;"⟩, 6), (⟨"Lantern", "start", "()V"⟩, 13), (⟨"Lantern", "stopBy", "(II)V"⟩, 13), (⟨"Lantern", "runTill", "(II)I"⟩, 13), (⟨"Lantern", "doStep", "()Z"⟩, 13), (⟨"Lantern$State", "failureOf", "(LLantern$Program;)I"⟩, 8), (⟨"Lantern$State", "isTooFullFor", "(I)Z"⟩, 8), (⟨"Lantern$State", "swap", "()V"⟩, 8), (⟨"Lantern$State", "storeAt", "()V"⟩, 8), (⟨"Lantern$State", "readFrom", "(LLantern$Row;)I"⟩, 8), (⟨"Lantern$State", "reckon", "(I)V"⟩, 8), (⟨"Lantern", "stopsRun", "(I)Z"⟩, 13), (⟨"Lantern", "watchMet", "()I"⟩, 13), (⟨"Lantern", "watchNumbered", "(I)LLantern$Watch;"⟩, 13), (⟨"Lantern", "pointStopping", "()I"⟩, 13), (⟨"Lantern", "pointNumbered", "(I)LLantern$Point;"⟩, 13)]
theorem lw_r1 : ∀ q ∈ lw_privs_1, lw_okq q := List.forall_mem_cons.mpr ⟨lw_p0, List.forall_mem_cons.mpr ⟨lw_p1, List.forall_mem_cons.mpr ⟨lw_p2, List.forall_mem_cons.mpr ⟨lw_p3, List.forall_mem_cons.mpr ⟨lw_p4, List.forall_mem_cons.mpr ⟨lw_p5, List.forall_mem_cons.mpr ⟨lw_p6, List.forall_mem_cons.mpr ⟨lw_p7, List.forall_mem_cons.mpr ⟨lw_p8, List.forall_mem_cons.mpr ⟨lw_p9, List.forall_mem_cons.mpr ⟨lw_p10, List.forall_mem_cons.mpr ⟨lw_p11, List.forall_mem_cons.mpr ⟨lw_p12, List.forall_mem_cons.mpr ⟨lw_p13, List.forall_mem_cons.mpr ⟨lw_p14, List.forall_mem_cons.mpr ⟨lw_p15, fun _ h => absurd h List.not_mem_nil⟩⟩⟩⟩⟩⟩⟩⟩⟩⟩⟩⟩⟩⟩⟩⟩
theorem lw_p16 : lw_okq (⟨"Lantern$Point", "holds", "(I)Z"⟩, 7) := ⟨⟨by decide +kernel, by decide +kernel⟩, List.mem_of_getElem? (i := 179) (by decide +kernel), List.mem_of_getElem? (i := 588) (by decide +kernel), List.mem_of_getElem? (i := 589) (by decide +kernel)⟩
theorem lw_p17 : lw_okq (⟨"Lantern", "goBack", "()LLantern$Moment;"⟩, 13) := ⟨⟨by decide +kernel, by decide +kernel⟩, List.mem_of_getElem? (i := 19) (by decide +kernel), List.mem_of_getElem? (i := 601) (by decide +kernel), List.mem_of_getElem? (i := 602) (by decide +kernel)⟩
theorem lw_p18 : lw_okq (⟨"Lantern", "ofNow", "(I)I"⟩, 13) := ⟨⟨by decide +kernel, by decide +kernel⟩, List.mem_of_getElem? (i := 19) (by decide +kernel), List.mem_of_getElem? (i := 687) (by decide +kernel), List.mem_of_getElem? (i := 688) (by decide +kernel)⟩
theorem lw_p19 : lw_okq (⟨"Lantern", "tapeAt", "(I)LLantern$Tape;"⟩, 13) := ⟨⟨by decide +kernel, by decide +kernel⟩, List.mem_of_getElem? (i := 19) (by decide +kernel), List.mem_of_getElem? (i := 707) (by decide +kernel), List.mem_of_getElem? (i := 708) (by decide +kernel)⟩
theorem lw_p20 : lw_okq (⟨"Lantern", "beginsAtStart", "()Z"⟩, 13) := ⟨⟨by decide +kernel, by decide +kernel⟩, List.mem_of_getElem? (i := 19) (by decide +kernel), List.mem_of_getElem? (i := 712) (by decide +kernel), List.mem_of_getElem? (i := 713) (by decide +kernel)⟩
theorem lw_p21 : lw_okq (⟨"Lantern$Past", "stepAt", "(I)I"⟩, 3) := ⟨⟨by decide +kernel, by decide +kernel⟩, List.mem_of_getElem? (i := 110) (by decide +kernel), List.mem_of_getElem? (i := 730) (by decide +kernel), List.mem_of_getElem? (i := 731) (by decide +kernel)⟩
theorem lw_p22 : lw_okq (⟨"Lantern", "tryOut", "(ILLantern$Row;)I"⟩, 13) := ⟨⟨by decide +kernel, by decide +kernel⟩, List.mem_of_getElem? (i := 19) (by decide +kernel), List.mem_of_getElem? (i := 761) (by decide +kernel), List.mem_of_getElem? (i := 762) (by decide +kernel)⟩
theorem lw_p23 : lw_okq (⟨"Lantern", "mixedProgram", "(J)J"⟩, 13) := ⟨⟨by decide +kernel, by decide +kernel⟩, List.mem_of_getElem? (i := 19) (by decide +kernel), List.mem_of_getElem? (i := 797) (by decide +kernel), List.mem_of_getElem? (i := 798) (by decide +kernel)⟩
theorem lw_p24 : lw_okq (⟨"Lantern", "mixedPoints", "(J)J"⟩, 13) := ⟨⟨by decide +kernel, by decide +kernel⟩, List.mem_of_getElem? (i := 19) (by decide +kernel), List.mem_of_getElem? (i := 801) (by decide +kernel), List.mem_of_getElem? (i := 802) (by decide +kernel)⟩
theorem lw_p25 : lw_okq (⟨"Lantern", "mixedThen", "(JI)J"⟩, 13) := ⟨⟨by decide +kernel, by decide +kernel⟩, List.mem_of_getElem? (i := 19) (by decide +kernel), List.mem_of_getElem? (i := 805) (by decide +kernel), List.mem_of_getElem? (i := 806) (by decide +kernel)⟩
def lw_privs_2 : List (MethodName × Nat) := [(⟨"Lantern$Point", "holds", "(I)Z"⟩, 7), (⟨"Lantern", "goBack", "()LLantern$Moment;"⟩, 13), (⟨"Lantern", "ofNow", "(I)I"⟩, 13), (⟨"Lantern", "tapeAt", "(I)LLantern$Tape;"⟩, 13), (⟨"Lantern", "beginsAtStart", "()Z"⟩, 13), (⟨"Lantern$Past", "stepAt", "(I)I"⟩, 3), (⟨"Lantern", "tryOut", "(ILLantern$Row;)I"⟩, 13), (⟨"Lantern", "mixedProgram", "(J)J"⟩, 13), (⟨"Lantern", "mixedPoints", "(J)J"⟩, 13), (⟨"Lantern", "mixedThen", "(JI)J"⟩, 13)]
theorem lw_r2 : ∀ q ∈ lw_privs_2, lw_okq q := List.forall_mem_cons.mpr ⟨lw_p16, List.forall_mem_cons.mpr ⟨lw_p17, List.forall_mem_cons.mpr ⟨lw_p18, List.forall_mem_cons.mpr ⟨lw_p19, List.forall_mem_cons.mpr ⟨lw_p20, List.forall_mem_cons.mpr ⟨lw_p21, List.forall_mem_cons.mpr ⟨lw_p22, List.forall_mem_cons.mpr ⟨lw_p23, List.forall_mem_cons.mpr ⟨lw_p24, List.forall_mem_cons.mpr ⟨lw_p25, fun _ h => absurd h List.not_mem_nil⟩⟩⟩⟩⟩⟩⟩⟩⟩⟩
def lw_privs : List (MethodName × Nat) := lw_privs_1 ++ (lw_privs_2)
def lw_tbl : List Cond := k2_sels lw_privs ++ tables_1
theorem lw_privs_ok : ∀ q ∈ lw_privs, lw_okq q := by
  show ∀ q ∈ lw_privs_1 ++ (lw_privs_2), lw_okq q
  exact List.forall_mem_append.mpr ⟨lw_r1, lw_r2⟩
/-- the streams that the claim lets the run draw from -/
abbrev lw_cs : List Choice := [Jvm.Choice.named "NaN.bits"]
theorem lw_bits : nanBits ∈ lw_cs := by first | decide | exact List.mem_cons_self | simp [lw_cs, nanBits]
-- names (printed)
def RX0 : String := "Lantern$Moment"
def TX0 : u_T := fun k => match k with
  | 0 => ("Lantern$Moment", "at", "I", false)
  | 1 => ("Lantern$Moment", "stackSize", "I", false)
  | 2 => ("Lantern$Moment", "top", "I", false)
  | 3 => ("Lantern$Moment", "second", "I", false)
  | 4 => ("Lantern$Moment", "frameCount", "I", false)
  | 5 => ("Lantern$Moment", "wayBack", "I", false)
  | 6 => ("Lantern$Moment", "read", "I", false)
  | 7 => ("Lantern$Moment", "outputSize", "I", false)
  | 8 => ("Lantern$Moment", "cell", "I", false)
  | 9 => ("Lantern$Moment", "before", "I", false)
  | _ => ("Lantern$Moment", "after", "I", false)
def tyX0 : Nat → FieldType := fun k => match k with
  | 0 => .int
  | 1 => .int
  | 2 => .int
  | 3 => .int
  | 4 => .int
  | 5 => .int
  | 6 => .int
  | 7 => .int
  | 8 => .int
  | 9 => .int
  | _ => .int
abbrev wsX00 : List Cond := u_ws RX0 TX0 11
theorem nmX0 : ∀ a, a < 11 → ∀ b, b < 11 → a ≠ b → (TX0 a).2.1 ≠ (TX0 b).2.1 := by decide +kernel
theorem tyX0_ok : ∀ k, k < 11 → parseFieldDescriptor (TX0 k).2.2.1 = some (tyX0 k) := by decide +kernel
abbrev cX0_init : ByteArray := prog_2_method_1_code
def yX0_init : MethodName := ⟨RX0, "<init>", "()V"⟩
abbrev cX0_describeStore : ByteArray := prog_2_method_2_code
def yX0_describeStore : MethodName := ⟨RX0, "describeStore", "(III)V"⟩
abbrev cX0_changed : ByteArray := prog_2_method_3_code
def yX0_changed : MethodName := ⟨RX0, "changed", "(I)Z"⟩
abbrev cX0_tellOf : ByteArray := prog_2_method_4_code
def yX0_tellOf : MethodName := ⟨RX0, "tellOf", "(I)I"⟩
def RX1 : String := "Lantern$Past"
def TX1 : u_T := fun k => match k with
  | 0 => ("Lantern$Past", "moments", "[LLantern$Moment;", true)
  | 1 => ("Lantern$Past", "first", "I", false)
  | _ => ("Lantern$Past", "count", "I", false)
def tyX1 : Nat → FieldType := fun k => match k with
  | 0 => .array (.object "Lantern$Moment")
  | 1 => .int
  | _ => .int
abbrev wsX10 : List Cond := u_ws RX1 TX1 3
theorem nmX1 : ∀ a, a < 3 → ∀ b, b < 3 → a ≠ b → (TX1 a).2.1 ≠ (TX1 b).2.1 := by decide +kernel
theorem tyX1_ok : ∀ k, k < 3 → parseFieldDescriptor (TX1 k).2.2.1 = some (tyX1 k) := by decide +kernel
abbrev cX1_init : ByteArray := prog_3_method_1_code
def yX1_init : MethodName := ⟨RX1, "<init>", "()V"⟩
abbrev cX1_size : ByteArray := prog_3_method_2_code
def yX1_size : MethodName := ⟨RX1, "size", "()I"⟩
abbrev cX1_clear : ByteArray := prog_3_method_3_code
def yX1_clear : MethodName := ⟨RX1, "clear", "()V"⟩
abbrev cX1_newest : ByteArray := prog_3_method_4_code
def yX1_newest : MethodName := ⟨RX1, "newest", "()LLantern$Moment;"⟩
abbrev cX1_dropLatest : ByteArray := prog_3_method_5_code
def yX1_dropLatest : MethodName := ⟨RX1, "dropLatest", "()V"⟩
abbrev cX1_ago : ByteArray := prog_3_method_6_code
def yX1_ago : MethodName := ⟨RX1, "ago", "(I)LLantern$Moment;"⟩
abbrev cX1_stepAt : ByteArray := prog_3_method_7_code
def yX1_stepAt : MethodName := ⟨RX1, "stepAt", "(I)I"⟩
abbrev cX1_cellAgo : ByteArray := prog_3_method_8_code
def yX1_cellAgo : MethodName := ⟨RX1, "cellAgo", "(III)I"⟩
abbrev cX1_storedAgo : ByteArray := prog_3_method_9_code
def yX1_storedAgo : MethodName := ⟨RX1, "storedAgo", "(I)I"⟩
abbrev cX1_writeSteps : ByteArray := prog_3_method_10_code
def yX1_writeSteps : MethodName := ⟨RX1, "writeSteps", "(LLantern$Row;)V"⟩
abbrev cX1_firstOther : ByteArray := prog_3_method_11_code
def yX1_firstOther : MethodName := ⟨RX1, "firstOther", "(LLantern$Row;)I"⟩
def RX2 : String := "Lantern$Point"
def TX2 : u_T := fun k => match k with
  | 0 => ("Lantern$Point", "step", "I", false)
  | 1 => ("Lantern$Point", "pass", "I", false)
  | 2 => ("Lantern$Point", "isOn", "Z", false)
  | 3 => ("Lantern$Point", "how", "I", false)
  | 4 => ("Lantern$Point", "cell", "I", false)
  | 5 => ("Lantern$Point", "n", "I", false)
  | _ => ("Lantern$Point", "stops", "I", false)
def tyX2 : Nat → FieldType := fun k => match k with
  | 0 => .int
  | 1 => .int
  | 2 => .boolean
  | 3 => .int
  | 4 => .int
  | 5 => .int
  | _ => .int
abbrev wsX20 : List Cond := u_ws RX2 TX2 7
theorem nmX2 : ∀ a, a < 7 → ∀ b, b < 7 → a ≠ b → (TX2 a).2.1 ≠ (TX2 b).2.1 := by decide +kernel
theorem tyX2_ok : ∀ k, k < 7 → parseFieldDescriptor (TX2 k).2.2.1 = some (tyX2 k) := by decide +kernel
abbrev cX2_init : ByteArray := prog_4_method_1_code
def yX2_init : MethodName := ⟨RX2, "<init>", "()V"⟩
abbrev cX2_place : ByteArray := prog_4_method_2_code
def yX2_place : MethodName := ⟨RX2, "place", "(II)V"⟩
abbrev cX2_isHit : ByteArray := prog_4_method_3_code
def yX2_isHit : MethodName := ⟨RX2, "isHit", "(LLantern$State;)Z"⟩
abbrev cX2_holds : ByteArray := prog_4_method_4_code
def yX2_holds : MethodName := ⟨RX2, "holds", "(I)Z"⟩
abbrev cX2_letsPass : ByteArray := prog_4_method_5_code
def yX2_letsPass : MethodName := ⟨RX2, "letsPass", "()Z"⟩
def RX3 : String := "Lantern$Program"
def TX3 : u_T := fun k => match k with
  | 0 => ("Lantern$Program", "codes", "LLantern$Row;", true)
  | 1 => ("Lantern$Program", "numbers", "LLantern$Row;", true)
  | _ => ("Lantern$Program", "times", "LLantern$Row;", true)
def tyX3 : Nat → FieldType := fun k => match k with
  | 0 => .object "Lantern$Row"
  | 1 => .object "Lantern$Row"
  | _ => .object "Lantern$Row"
abbrev wsX30 : List Cond := u_ws RX3 TX3 3
theorem nmX3 : ∀ a, a < 3 → ∀ b, b < 3 → a ≠ b → (TX3 a).2.1 ≠ (TX3 b).2.1 := by decide +kernel
theorem tyX3_ok : ∀ k, k < 3 → parseFieldDescriptor (TX3 k).2.2.1 = some (tyX3 k) := by decide +kernel
abbrev cX3_init : ByteArray := prog_5_method_1_code
def yX3_init : MethodName := ⟨RX3, "<init>", "()V"⟩
abbrev cX3_allows : ByteArray := prog_5_method_2_code
def yX3_allows : MethodName := ⟨RX3, "allows", "(II)Z"⟩
abbrev cX3_size : ByteArray := prog_5_method_3_code
def yX3_size : MethodName := ⟨RX3, "size", "()I"⟩
abbrev cX3_isFull : ByteArray := prog_5_method_4_code
def yX3_isFull : MethodName := ⟨RX3, "isFull", "()Z"⟩
abbrev cX3_has : ByteArray := prog_5_method_5_code
def yX3_has : MethodName := ⟨RX3, "has", "(I)Z"⟩
abbrev cX3_codeAt : ByteArray := prog_5_method_6_code
def yX3_codeAt : MethodName := ⟨RX3, "codeAt", "(I)I"⟩
abbrev cX3_numberAt : ByteArray := prog_5_method_7_code
def yX3_numberAt : MethodName := ⟨RX3, "numberAt", "(I)I"⟩
abbrev cX3_timesAt : ByteArray := prog_5_method_8_code
def yX3_timesAt : MethodName := ⟨RX3, "timesAt", "(I)I"⟩
abbrev cX3_add : ByteArray := prog_5_method_9_code
def yX3_add : MethodName := ⟨RX3, "add", "(II)V"⟩
abbrev cX3_countTime : ByteArray := prog_5_method_11_code
def yX3_countTime : MethodName := ⟨RX3, "countTime", "(I)V"⟩
abbrev cX3_forgetTimes : ByteArray := prog_5_method_12_code
def yX3_forgetTimes : MethodName := ⟨RX3, "forgetTimes", "()V"⟩
def RX4 : String := "Lantern$Row"
def TX4 : u_T := fun k => match k with
  | 0 => ("Lantern$Row", "items", "[I", true)
  | _ => ("Lantern$Row", "count", "I", false)
def tyX4 : Nat → FieldType := fun k => match k with
  | 0 => .array .int
  | _ => .int
abbrev wsX40 : List Cond := u_ws RX4 TX4 2
theorem nmX4 : ∀ a, a < 2 → ∀ b, b < 2 → a ≠ b → (TX4 a).2.1 ≠ (TX4 b).2.1 := by decide +kernel
theorem tyX4_ok : ∀ k, k < 2 → parseFieldDescriptor (TX4 k).2.2.1 = some (tyX4 k) := by decide +kernel
abbrev cX4_init : ByteArray := prog_6_method_1_code
def yX4_init : MethodName := ⟨RX4, "<init>", "(I)V"⟩
abbrev cX4_size : ByteArray := prog_6_method_2_code
def yX4_size : MethodName := ⟨RX4, "size", "()I"⟩
abbrev cX4_isFull : ByteArray := prog_6_method_3_code
def yX4_isFull : MethodName := ⟨RX4, "isFull", "()Z"⟩
abbrev cX4_has : ByteArray := prog_6_method_4_code
def yX4_has : MethodName := ⟨RX4, "has", "(I)Z"⟩
abbrev cX4_get : ByteArray := prog_6_method_5_code
def yX4_get : MethodName := ⟨RX4, "get", "(I)I"⟩
abbrev cX4_fromTop : ByteArray := prog_6_method_6_code
def yX4_fromTop : MethodName := ⟨RX4, "fromTop", "(I)I"⟩
abbrev cX4_put : ByteArray := prog_6_method_7_code
def yX4_put : MethodName := ⟨RX4, "put", "(II)V"⟩
abbrev cX4_putFromTop : ByteArray := prog_6_method_8_code
def yX4_putFromTop : MethodName := ⟨RX4, "putFromTop", "(II)V"⟩
abbrev cX4_push : ByteArray := prog_6_method_9_code
def yX4_push : MethodName := ⟨RX4, "push", "(I)V"⟩
abbrev cX4_pop : ByteArray := prog_6_method_10_code
def yX4_pop : MethodName := ⟨RX4, "pop", "()I"⟩
abbrev cX4_resize : ByteArray := prog_6_method_11_code
def yX4_resize : MethodName := ⟨RX4, "resize", "(I)V"⟩
abbrev cX4_fillWithZeros : ByteArray := prog_6_method_12_code
def yX4_fillWithZeros : MethodName := ⟨RX4, "fillWithZeros", "()V"⟩
abbrev cX4_copyFrom : ByteArray := prog_6_method_13_code
def yX4_copyFrom : MethodName := ⟨RX4, "copyFrom", "(LLantern$Row;)V"⟩
abbrev cX4_mixedInto : ByteArray := prog_6_method_15_code
def yX4_mixedInto : MethodName := ⟨RX4, "mixedInto", "(J)J"⟩
abbrev cX4_mixedFromTopInto : ByteArray := prog_6_method_16_code
def yX4_mixedFromTopInto : MethodName := ⟨RX4, "mixedFromTopInto", "(J)J"⟩
def RX5 : String := "Lantern$State"
def TX5 : u_T := fun k => match k with
  | 0 => ("Lantern$State", "stack", "LLantern$Row;", true)
  | 1 => ("Lantern$State", "cells", "LLantern$Row;", true)
  | 2 => ("Lantern$State", "frames", "LLantern$Row;", true)
  | 3 => ("Lantern$State", "output", "LLantern$Row;", true)
  | 4 => ("Lantern$State", "at", "I", false)
  | 5 => ("Lantern$State", "status", "I", false)
  | 6 => ("Lantern$State", "read", "I", false)
  | _ => ("Lantern$State", "clock", "I", false)
def tyX5 : Nat → FieldType := fun k => match k with
  | 0 => .object "Lantern$Row"
  | 1 => .object "Lantern$Row"
  | 2 => .object "Lantern$Row"
  | 3 => .object "Lantern$Row"
  | 4 => .int
  | 5 => .int
  | 6 => .int
  | _ => .int
abbrev wsX50 : List Cond := u_ws RX5 TX5 8
theorem nmX5 : ∀ a, a < 8 → ∀ b, b < 8 → a ≠ b → (TX5 a).2.1 ≠ (TX5 b).2.1 := by decide +kernel
theorem tyX5_ok : ∀ k, k < 8 → parseFieldDescriptor (TX5 k).2.2.1 = some (tyX5 k) := by decide +kernel
abbrev cX5_init : ByteArray := prog_7_method_1_code
def yX5_init : MethodName := ⟨RX5, "<init>", "()V"⟩
abbrev cX5_clear : ByteArray := prog_7_method_2_code
def yX5_clear : MethodName := ⟨RX5, "clear", "()V"⟩
abbrev cX5_copyFrom : ByteArray := prog_7_method_3_code
def yX5_copyFrom : MethodName := ⟨RX5, "copyFrom", "(LLantern$State;)V"⟩
abbrev cX5_readies : ByteArray := prog_7_method_4_code
def yX5_readies : MethodName := ⟨RX5, "readies", "(LLantern$Program;)Z"⟩
abbrev cX5_failureOf : ByteArray := prog_7_method_5_code
def yX5_failureOf : MethodName := ⟨RX5, "failureOf", "(LLantern$Program;)I"⟩
abbrev cX5_needOnStack : ByteArray := prog_7_method_6_code
def yX5_needOnStack : MethodName := ⟨RX5, "needOnStack", "(I)I"⟩
abbrev cX5_isTooFullFor : ByteArray := prog_7_method_7_code
def yX5_isTooFullFor : MethodName := ⟨RX5, "isTooFullFor", "(I)Z"⟩
abbrev cX5_perform : ByteArray := prog_7_method_8_code
def yX5_perform : MethodName := ⟨RX5, "perform", "(LLantern$Program;LLantern$Row;)V"⟩
abbrev cX5_swap : ByteArray := prog_7_method_9_code
def yX5_swap : MethodName := ⟨RX5, "swap", "()V"⟩
abbrev cX5_storeAt : ByteArray := prog_7_method_10_code
def yX5_storeAt : MethodName := ⟨RX5, "storeAt", "()V"⟩
abbrev cX5_readFrom : ByteArray := prog_7_method_11_code
def yX5_readFrom : MethodName := ⟨RX5, "readFrom", "(LLantern$Row;)I"⟩
abbrev cX5_reckon : ByteArray := prog_7_method_12_code
def yX5_reckon : MethodName := ⟨RX5, "reckon", "(I)V"⟩
abbrev cX5_reckoned : ByteArray := prog_7_method_13_code
def yX5_reckoned : MethodName := ⟨RX5, "reckoned", "(III)I"⟩
abbrev cX5_describe : ByteArray := prog_7_method_14_code
def yX5_describe : MethodName := ⟨RX5, "describe", "(LLantern$Moment;LLantern$Program;)V"⟩
abbrev cX5_goBackTo : ByteArray := prog_7_method_15_code
def yX5_goBackTo : MethodName := ⟨RX5, "goBackTo", "(LLantern$Moment;)V"⟩
abbrev cX5_mixedInto : ByteArray := prog_7_method_16_code
def yX5_mixedInto : MethodName := ⟨RX5, "mixedInto", "(J)J"⟩
def RX6 : String := "Lantern$Tape"
def TX6 : u_T := fun k => match k with
  | 0 => ("Lantern$Tape", "steps", "LLantern$Row;", true)
  | 1 => ("Lantern$Tape", "input", "LLantern$Row;", true)
  | _ => ("Lantern$Tape", "isRecorded", "Z", false)
def tyX6 : Nat → FieldType := fun k => match k with
  | 0 => .object "Lantern$Row"
  | 1 => .object "Lantern$Row"
  | _ => .boolean
abbrev wsX60 : List Cond := u_ws RX6 TX6 3
theorem nmX6 : ∀ a, a < 3 → ∀ b, b < 3 → a ≠ b → (TX6 a).2.1 ≠ (TX6 b).2.1 := by decide +kernel
theorem tyX6_ok : ∀ k, k < 3 → parseFieldDescriptor (TX6 k).2.2.1 = some (tyX6 k) := by decide +kernel
abbrev cX6_init : ByteArray := prog_8_method_1_code
def yX6_init : MethodName := ⟨RX6, "<init>", "()V"⟩
def RX7 : String := "Lantern$Watch"
def TX7 : u_T := fun k => match k with
  | 0 => ("Lantern$Watch", "cell", "I", false)
  | 1 => ("Lantern$Watch", "kind", "I", false)
  | _ => ("Lantern$Watch", "n", "I", false)
def tyX7 : Nat → FieldType := fun k => match k with
  | 0 => .int
  | 1 => .int
  | _ => .int
abbrev wsX70 : List Cond := u_ws RX7 TX7 3
theorem nmX7 : ∀ a, a < 3 → ∀ b, b < 3 → a ≠ b → (TX7 a).2.1 ≠ (TX7 b).2.1 := by decide +kernel
theorem tyX7_ok : ∀ k, k < 3 → parseFieldDescriptor (TX7 k).2.2.1 = some (tyX7 k) := by decide +kernel
abbrev cX7_init : ByteArray := prog_9_method_1_code
def yX7_init : MethodName := ⟨RX7, "<init>", "()V"⟩
abbrev cX7_isMetBy : ByteArray := prog_9_method_3_code
def yX7_isMetBy : MethodName := ⟨RX7, "isMetBy", "(LLantern$Moment;)Z"⟩
def RX8 : String := "Lantern"
def TX8 : u_T := fun k => match k with
  | 0 => ("Lantern", "program", "LLantern$Program;", true)
  | 1 => ("Lantern", "input", "LLantern$Row;", true)
  | 2 => ("Lantern", "state", "LLantern$State;", true)
  | 3 => ("Lantern", "past", "LLantern$Past;", true)
  | 4 => ("Lantern", "points", "[LLantern$Point;", true)
  | 5 => ("Lantern", "pointCount", "I", false)
  | 6 => ("Lantern", "watches", "[LLantern$Watch;", true)
  | 7 => ("Lantern", "watchCount", "I", false)
  | 8 => ("Lantern", "tapes", "[LLantern$Tape;", true)
  | 9 => ("Lantern", "reason", "I", false)
  | 10 => ("Lantern", "cause", "I", false)
  | 11 => ("Lantern", "trial", "LLantern$State;", true)
  | _ => ("Lantern", "trialInput", "LLantern$Row;", true)
def tyX8 : Nat → FieldType := fun k => match k with
  | 0 => .object "Lantern$Program"
  | 1 => .object "Lantern$Row"
  | 2 => .object "Lantern$State"
  | 3 => .object "Lantern$Past"
  | 4 => .array (.object "Lantern$Point")
  | 5 => .int
  | 6 => .array (.object "Lantern$Watch")
  | 7 => .int
  | 8 => .array (.object "Lantern$Tape")
  | 9 => .int
  | 10 => .int
  | 11 => .object "Lantern$State"
  | _ => .object "Lantern$Row"
abbrev wsX80 : List Cond := u_ws RX8 TX8 13
theorem nmX8 : ∀ a, a < 13 → ∀ b, b < 13 → a ≠ b → (TX8 a).2.1 ≠ (TX8 b).2.1 := by decide +kernel
theorem tyX8_ok : ∀ k, k < 13 → parseFieldDescriptor (TX8 k).2.2.1 = some (tyX8 k) := by decide +kernel
abbrev cX8_init : ByteArray := prog_1_method_1_code
def yX8_init : MethodName := ⟨RX8, "<init>", "()V"⟩
abbrev cX8_step : ByteArray := prog_1_method_2_code
def yX8_step : MethodName := ⟨RX8, "step", "(II)I"⟩
abbrev cX8_give : ByteArray := prog_1_method_4_code
def yX8_give : MethodName := ⟨RX8, "give", "(I)I"⟩
abbrev cX8_restart : ByteArray := prog_1_method_5_code
def yX8_restart : MethodName := ⟨RX8, "restart", "()I"⟩
abbrev cX8_start : ByteArray := prog_1_method_6_code
def yX8_start : MethodName := ⟨RX8, "start", "()V"⟩
abbrev cX8_point : ByteArray := prog_1_method_7_code
def yX8_point : MethodName := ⟨RX8, "point", "(II)I"⟩
abbrev cX8_isCell : ByteArray := prog_1_method_12_code
def yX8_isCell : MethodName := ⟨RX8, "isCell", "(I)Z"⟩
abbrev cX8_isPass : ByteArray := prog_1_method_13_code
def yX8_isPass : MethodName := ⟨RX8, "isPass", "(I)Z"⟩
abbrev cX8_pointNumbered : ByteArray := prog_1_method_14_code
def yX8_pointNumbered : MethodName := ⟨RX8, "pointNumbered", "(I)LLantern$Point;"⟩
abbrev cX8_watchNumbered : ByteArray := prog_1_method_15_code
def yX8_watchNumbered : MethodName := ⟨RX8, "watchNumbered", "(I)LLantern$Watch;"⟩
abbrev cX8_run : ByteArray := prog_1_method_16_code
def yX8_run : MethodName := ⟨RX8, "run", "(I)I"⟩
abbrev cX8_back : ByteArray := prog_1_method_19_code
def yX8_back : MethodName := ⟨RX8, "back", "(I)I"⟩
abbrev cX8_isRunLength : ByteArray := prog_1_method_21_code
def yX8_isRunLength : MethodName := ⟨RX8, "isRunLength", "(I)Z"⟩
abbrev cX8_stopBy : ByteArray := prog_1_method_22_code
def yX8_stopBy : MethodName := ⟨RX8, "stopBy", "(II)V"⟩
abbrev cX8_runTill : ByteArray := prog_1_method_23_code
def yX8_runTill : MethodName := ⟨RX8, "runTill", "(II)I"⟩
abbrev cX8_doStep : ByteArray := prog_1_method_24_code
def yX8_doStep : MethodName := ⟨RX8, "doStep", "()Z"⟩
abbrev cX8_stopsRun : ByteArray := prog_1_method_25_code
def yX8_stopsRun : MethodName := ⟨RX8, "stopsRun", "(I)Z"⟩
abbrev cX8_watchMet : ByteArray := prog_1_method_26_code
def yX8_watchMet : MethodName := ⟨RX8, "watchMet", "()I"⟩
abbrev cX8_pointStopping : ByteArray := prog_1_method_27_code
def yX8_pointStopping : MethodName := ⟨RX8, "pointStopping", "()I"⟩
abbrev cX8_goBack : ByteArray := prog_1_method_28_code
def yX8_goBack : MethodName := ⟨RX8, "goBack", "()LLantern$Moment;"⟩
abbrev cX8_told : ByteArray := prog_1_method_30_code
def yX8_told : MethodName := ⟨RX8, "told", "(I)I"⟩
abbrev cX8_stack : ByteArray := prog_1_method_31_code
def yX8_stack : MethodName := ⟨RX8, "stack", "(I)I"⟩
abbrev cX8_cell : ByteArray := prog_1_method_32_code
def yX8_cell : MethodName := ⟨RX8, "cell", "(I)I"⟩
abbrev cX8_frame : ByteArray := prog_1_method_33_code
def yX8_frame : MethodName := ⟨RX8, "frame", "(I)I"⟩
abbrev cX8_output : ByteArray := prog_1_method_34_code
def yX8_output : MethodName := ⟨RX8, "output", "(I)I"⟩
abbrev cX8_ofStep : ByteArray := prog_1_method_35_code
def yX8_ofStep : MethodName := ⟨RX8, "ofStep", "(II)I"⟩
abbrev cX8_ofPoint : ByteArray := prog_1_method_36_code
def yX8_ofPoint : MethodName := ⟨RX8, "ofPoint", "(II)I"⟩
abbrev cX8_then : ByteArray := prog_1_method_37_code
def yX8_then : MethodName := ⟨RX8, "then", "(II)I"⟩
abbrev cX8_wroteAgo : ByteArray := prog_1_method_38_code
def yX8_wroteAgo : MethodName := ⟨RX8, "wroteAgo", "(I)I"⟩
abbrev cX8_ofNow : ByteArray := prog_1_method_39_code
def yX8_ofNow : MethodName := ⟨RX8, "ofNow", "(I)I"⟩
abbrev cX8_truth : ByteArray := prog_1_method_40_code
def yX8_truth : MethodName := ⟨RX8, "truth", "(Z)I"⟩
abbrev cX8_record : ByteArray := prog_1_method_41_code
def yX8_record : MethodName := ⟨RX8, "record", "(I)I"⟩
abbrev cX8_replay : ByteArray := prog_1_method_42_code
def yX8_replay : MethodName := ⟨RX8, "replay", "(I)I"⟩
abbrev cX8_parts : ByteArray := prog_1_method_43_code
def yX8_parts : MethodName := ⟨RX8, "parts", "(I)I"⟩
abbrev cX8_tapeAt : ByteArray := prog_1_method_44_code
def yX8_tapeAt : MethodName := ⟨RX8, "tapeAt", "(I)LLantern$Tape;"⟩
abbrev cX8_beginsAtStart : ByteArray := prog_1_method_45_code
def yX8_beginsAtStart : MethodName := ⟨RX8, "beginsAtStart", "()Z"⟩
abbrev cX8_endsIn : ByteArray := prog_1_method_46_code
def yX8_endsIn : MethodName := ⟨RX8, "endsIn", "(I)I"⟩
abbrev cX8_cellIn : ByteArray := prog_1_method_47_code
def yX8_cellIn : MethodName := ⟨RX8, "cellIn", "(II)I"⟩
abbrev cX8_heat : ByteArray := prog_1_method_49_code
def yX8_heat : MethodName := ⟨RX8, "heat", "()D"⟩
abbrev cX8_digest : ByteArray := prog_1_method_50_code
def yX8_digest : MethodName := ⟨RX8, "digest", "()J"⟩
abbrev cX8_tryOut : ByteArray := prog_1_method_51_code
def yX8_tryOut : MethodName := ⟨RX8, "tryOut", "(ILLantern$Row;)I"⟩
abbrev cX8_mixed : ByteArray := prog_1_method_52_code
def yX8_mixed : MethodName := ⟨RX8, "mixed", "(JI)J"⟩
abbrev cX8_mixedProgram : ByteArray := prog_1_method_53_code
def yX8_mixedProgram : MethodName := ⟨RX8, "mixedProgram", "(J)J"⟩
abbrev cX8_mixedPoints : ByteArray := prog_1_method_54_code
def yX8_mixedPoints : MethodName := ⟨RX8, "mixedPoints", "(J)J"⟩
abbrev cX8_mixedThen : ByteArray := prog_1_method_55_code
def yX8_mixedThen : MethodName := ⟨RX8, "mixedThen", "(JI)J"⟩
def RX9 : String := "LanternModel$Point"
def TX9 : u_T := fun k => match k with
  | _ => ("", "", "", false)
def tyX9 : Nat → FieldType := fun k => match k with
  | _ => .int
abbrev wsX90 : List Cond := u_ws RX9 TX9 0
theorem nmX9 : ∀ a, a < 0 → ∀ b, b < 0 → a ≠ b → (TX9 a).2.1 ≠ (TX9 b).2.1 := by decide +kernel
theorem tyX9_ok : ∀ k, k < 0 → parseFieldDescriptor (TX9 k).2.2.1 = some (tyX9 k) := by decide +kernel
def RX10 : String := "LanternModel$Recorded"
def TX10 : u_T := fun k => match k with
  | _ => ("", "", "", false)
def tyX10 : Nat → FieldType := fun k => match k with
  | _ => .int
abbrev wsX100 : List Cond := u_ws RX10 TX10 0
theorem nmX10 : ∀ a, a < 0 → ∀ b, b < 0 → a ≠ b → (TX10 a).2.1 ≠ (TX10 b).2.1 := by decide +kernel
theorem tyX10_ok : ∀ k, k < 0 → parseFieldDescriptor (TX10 k).2.2.1 = some (tyX10 k) := by decide +kernel
def RX11 : String := "LanternModel$State"
def TX11 : u_T := fun k => match k with
  | _ => ("", "", "", false)
def tyX11 : Nat → FieldType := fun k => match k with
  | _ => .int
abbrev wsX110 : List Cond := u_ws RX11 TX11 0
theorem nmX11 : ∀ a, a < 0 → ∀ b, b < 0 → a ≠ b → (TX11 a).2.1 ≠ (TX11 b).2.1 := by decide +kernel
theorem tyX11_ok : ∀ k, k < 0 → parseFieldDescriptor (TX11 k).2.2.1 = some (tyX11 k) := by decide +kernel
def RX12 : String := "LanternModel"
def TX12 : u_T := fun k => match k with
  | _ => ("", "", "", false)
def tyX12 : Nat → FieldType := fun k => match k with
  | _ => .int
abbrev wsX120 : List Cond := u_ws RX12 TX12 0
theorem nmX12 : ∀ a, a < 0 → ∀ b, b < 0 → a ≠ b → (TX12 a).2.1 ≠ (TX12 b).2.1 := by decide +kernel
theorem tyX12_ok : ∀ k, k < 0 → parseFieldDescriptor (TX12 k).2.2.1 = some (tyX12 k) := by decide +kernel
def RL : String := "LanternLaw"
abbrev cL_below : ByteArray := method_2_code
def yL_below : MethodName := ⟨RL, "below", "(II)I"⟩
abbrev cL_cell : ByteArray := method_3_code
def yL_cell : MethodName := ⟨RL, "cell", "([II)I"⟩
abbrev cL_program : ByteArray := method_4_code
def yL_program : MethodName := ⟨RL, "program", "(LLantern;[II)[[I"⟩
abbrev cL_state : ByteArray := method_5_code
def yL_state : MethodName := ⟨RL, "state", "(LLantern;)J"⟩
abbrev cL_law : ByteArray := code
def yL_law : MethodName := ⟨RL, "law", "([I)Z"⟩
abbrev vwCl : List vw_C := [(RX0, TX0, 11), (RX1, TX1, 3), (RX2, TX2, 7), (RX3, TX3, 3), (RX4, TX4, 2), (RX5, TX5, 8), (RX6, TX6, 3), (RX7, TX7, 3), (RX8, TX8, 13)]
end
section
/-! my words: those of the tables that hold on at every later state -/
def okW : Cond → Bool
  | .fieldLinkNest .. => true
  | .methodLinkNest .. => true
  | .arrayOver (.object _) => true
  | .arrayOver _ => false
  | w => goodWord w
def bw : List Cond := lw_tbl.filter okW
theorem bw_tbl {w : Cond} (h : w ∈ bw) : w ∈ lw_tbl := (List.mem_filter.mp h).1
theorem mw {w : Cond} (i : Nat) (h : lw_tbl[i]? = some w) (ho : okW w = true) : w ∈ bw := List.mem_filter.mpr ⟨List.mem_of_getElem? h, ho⟩
theorem okW_warm {s U : State} {args a' : Array Value} (hW : s.WarmedH U.vm) {w : Cond} (ho : okW w = true) (h : w.before args s = true) : w.before a' U = true := by
  have good : goodWord w = true → w.before a' U = true := fun hg => word_at hW (good_of_word hg) h
  cases w with
  | fieldLinkNest a i b n d hh => exact (va_Nw.warmF hW (va_Nw.of rfl h)).use rfl
  | methodLinkNest a i x hh => exact (va_Nw.warmM hW (va_Nw.of rfl h)).use rfl
  | arrayOver ty =>
    cases ty with
    | object C => exact (va_AO.of (A := a') (va_AO.moved hW.alike h))
    | _ => cases ho
  | _ => exact good ho
theorem bw_warm {s U : State} {args : Array Value} (hW : s.WarmedH U.vm) (h : ∀ w ∈ bw, w.before args s = true) : ∀ w ∈ bw, ∀ a' : Array Value, w.before a' U = true := fun w hw a' => okW_warm hW (List.mem_filter.mp hw).2 (h w hw)
/-! the words by their places: m_<place in tables_1>, s_<number of the private method> -/
theorem m_0 : (Jvm.Cond.initialized "LanternLaw") ∈ bw := mw 26 (by decide +kernel) (by decide +kernel)
theorem m_1 : (Jvm.Cond.initialized "Lantern") ∈ bw := mw 27 (by decide +kernel) (by decide +kernel)
theorem m_2 : (Jvm.Cond.initialized "Lantern$Program") ∈ bw := mw 28 (by decide +kernel) (by decide +kernel)
theorem m_3 : (Jvm.Cond.initialized "Lantern$Row") ∈ bw := mw 29 (by decide +kernel) (by decide +kernel)
theorem m_4 : (Jvm.Cond.initialized "java/lang/Math") ∈ bw := mw 30 (by decide +kernel) (by decide +kernel)
theorem m_5 : (Jvm.Cond.initialized "Lantern$State") ∈ bw := mw 31 (by decide +kernel) (by decide +kernel)
theorem m_6 : (Jvm.Cond.initialized "Lantern$Past") ∈ bw := mw 32 (by decide +kernel) (by decide +kernel)
theorem m_7 : (Jvm.Cond.initialized "Lantern$Moment") ∈ bw := mw 33 (by decide +kernel) (by decide +kernel)
theorem m_8 : (Jvm.Cond.initialized "Lantern$Point") ∈ bw := mw 34 (by decide +kernel) (by decide +kernel)
theorem m_9 : (Jvm.Cond.initialized "Lantern$Watch") ∈ bw := mw 35 (by decide +kernel) (by decide +kernel)
theorem m_10 : (Jvm.Cond.initialized "Lantern$Tape") ∈ bw := mw 36 (by decide +kernel) (by decide +kernel)
theorem m_16 : (Jvm.Cond.initialized "java/lang/System") ∈ bw := mw 42 (by decide +kernel) (by decide +kernel)
theorem m_18 : (Jvm.Cond.classLink "LanternLaw" (22 : Nat) "Lantern") ∈ bw := mw 44 (by decide +kernel) (by decide +kernel)
theorem m_19 : (Jvm.Cond.instantiable "Lantern" (13 : Nat)) ∈ bw := mw 45 (by decide +kernel) (by decide +kernel)
theorem m_20 : (Jvm.Cond.methodLink "LanternLaw" (48 : Nat) ({ cls := "Lantern", name := "<init>", desc := "()V" } : Jvm.MethodName)) ∈ bw := mw 46 (by decide +kernel) (by decide +kernel)
theorem m_21 : (Jvm.Cond.instanceMethod ({ cls := "Lantern", name := "<init>", desc := "()V" } : Jvm.MethodName)) ∈ bw := mw 47 (by decide +kernel) (by decide +kernel)
theorem m_22 : (Jvm.Cond.code ({ cls := "Lantern", name := "<init>", desc := "()V" } : Jvm.MethodName) prog_1_method_1_code (2 : Nat) (Option.none : Option Jvm.ClassFile.FieldType)) ∈ bw := mw 48 (by decide +kernel) (by decide +kernel)
theorem m_23 : (Jvm.Cond.methodLink "Lantern" (1 : Nat) ({ cls := "java/lang/Object", name := "<init>", desc := "()V" } : Jvm.MethodName)) ∈ bw := mw 49 (by decide +kernel) (by decide +kernel)
theorem m_24 : (Jvm.Cond.instanceMethod ({ cls := "java/lang/Object", name := "<init>", desc := "()V" } : Jvm.MethodName)) ∈ bw := mw 50 (by decide +kernel) (by decide +kernel)
theorem m_25 : (Jvm.Cond.code ({ cls := "java/lang/Object", name := "<init>", desc := "()V" } : Jvm.MethodName) object_method_1_code (1 : Nat) (Option.none : Option Jvm.ClassFile.FieldType)) ∈ bw := mw 51 (by decide +kernel) (by decide +kernel)
theorem m_26 : (Jvm.Cond.classLink "Lantern" (7 : Nat) "Lantern$Program") ∈ bw := mw 52 (by decide +kernel) (by decide +kernel)
theorem m_27 : (Jvm.Cond.instantiable "Lantern$Program" (3 : Nat)) ∈ bw := mw 53 (by decide +kernel) (by decide +kernel)
theorem m_28 : (Jvm.Cond.methodLinkNest "Lantern" (9 : Nat) ({ cls := "Lantern$Program", name := "<init>", desc := "()V" } : Jvm.MethodName) "Lantern") ∈ bw := mw 54 (by decide +kernel) (by decide +kernel)
theorem m_29 : (Jvm.Cond.instanceMethod ({ cls := "Lantern$Program", name := "<init>", desc := "()V" } : Jvm.MethodName)) ∈ bw := mw 55 (by decide +kernel) (by decide +kernel)
theorem m_30 : (Jvm.Cond.code ({ cls := "Lantern$Program", name := "<init>", desc := "()V" } : Jvm.MethodName) prog_5_method_1_code (1 : Nat) (Option.none : Option Jvm.ClassFile.FieldType)) ∈ bw := mw 56 (by decide +kernel) (by decide +kernel)
theorem m_31 : (Jvm.Cond.methodLink "Lantern$Program" (3 : Nat) ({ cls := "java/lang/Object", name := "<init>", desc := "()V" } : Jvm.MethodName)) ∈ bw := mw 57 (by decide +kernel) (by decide +kernel)
theorem m_32 : (Jvm.Cond.classLink "Lantern$Program" (9 : Nat) "Lantern$Row") ∈ bw := mw 58 (by decide +kernel) (by decide +kernel)
theorem m_33 : (Jvm.Cond.instantiable "Lantern$Row" (2 : Nat)) ∈ bw := mw 59 (by decide +kernel) (by decide +kernel)
theorem m_34 : (Jvm.Cond.methodLink "Lantern$Program" (11 : Nat) ({ cls := "Lantern$Row", name := "<init>", desc := "(I)V" } : Jvm.MethodName)) ∈ bw := mw 60 (by decide +kernel) (by decide +kernel)
theorem m_35 : (Jvm.Cond.instanceMethod ({ cls := "Lantern$Row", name := "<init>", desc := "(I)V" } : Jvm.MethodName)) ∈ bw := mw 61 (by decide +kernel) (by decide +kernel)
theorem m_36 : (Jvm.Cond.code ({ cls := "Lantern$Row", name := "<init>", desc := "(I)V" } : Jvm.MethodName) prog_6_method_1_code (2 : Nat) (Option.none : Option Jvm.ClassFile.FieldType)) ∈ bw := mw 62 (by decide +kernel) (by decide +kernel)
theorem m_37 : (Jvm.Cond.methodLink "Lantern$Row" (1 : Nat) ({ cls := "java/lang/Object", name := "<init>", desc := "()V" } : Jvm.MethodName)) ∈ bw := mw 63 (by decide +kernel) (by decide +kernel)
theorem m_38 : (Jvm.Cond.methodLink "Lantern$Row" (7 : Nat) ({ cls := "java/lang/Math", name := "max", desc := "(II)I" } : Jvm.MethodName)) ∈ bw := mw 64 (by decide +kernel) (by decide +kernel)
theorem m_39 : (Jvm.Cond.static ({ cls := "java/lang/Math", name := "max", desc := "(II)I" } : Jvm.MethodName)) ∈ bw := mw 65 (by decide +kernel) (by decide +kernel)
theorem m_40 : (Jvm.Cond.code ({ cls := "java/lang/Math", name := "max", desc := "(II)I" } : Jvm.MethodName) prog_19_method_65_code (2 : Nat) (Option.some Jvm.ClassFile.FieldType.int)) ∈ bw := mw 66 (by decide +kernel) (by decide +kernel)
theorem m_41 : (Jvm.Cond.fieldLink "Lantern$Row" (13 : Nat) "Lantern$Row" "items" "[I") ∈ bw := mw 67 (by decide +kernel) (by decide +kernel)
theorem m_42 : (Jvm.Cond.fieldLink "Lantern$Row" (19 : Nat) "Lantern$Row" "count" "I") ∈ bw := mw 68 (by decide +kernel) (by decide +kernel)
theorem m_48 : (Jvm.Cond.arrayClass Jvm.ClassFile.FieldType.int) ∈ bw := mw 74 (by decide +kernel) (by decide +kernel)
theorem m_49 : (Jvm.Cond.fieldLink "Lantern$Program" (14 : Nat) "Lantern$Program" "codes" "LLantern$Row;") ∈ bw := mw 75 (by decide +kernel) (by decide +kernel)
theorem m_50 : (Jvm.Cond.fieldLink "Lantern$Program" (20 : Nat) "Lantern$Program" "numbers" "LLantern$Row;") ∈ bw := mw 76 (by decide +kernel) (by decide +kernel)
theorem m_51 : (Jvm.Cond.fieldLink "Lantern$Program" (23 : Nat) "Lantern$Program" "times" "LLantern$Row;") ∈ bw := mw 77 (by decide +kernel) (by decide +kernel)
theorem m_59 : (Jvm.Cond.classLink "Lantern" (16 : Nat) "Lantern$Row") ∈ bw := mw 85 (by decide +kernel) (by decide +kernel)
theorem m_60 : (Jvm.Cond.methodLink "Lantern" (18 : Nat) ({ cls := "Lantern$Row", name := "<init>", desc := "(I)V" } : Jvm.MethodName)) ∈ bw := mw 86 (by decide +kernel) (by decide +kernel)
theorem m_61 : (Jvm.Cond.classLink "Lantern" (25 : Nat) "Lantern$State") ∈ bw := mw 87 (by decide +kernel) (by decide +kernel)
theorem m_62 : (Jvm.Cond.instantiable "Lantern$State" (8 : Nat)) ∈ bw := mw 88 (by decide +kernel) (by decide +kernel)
theorem m_63 : (Jvm.Cond.methodLink "Lantern" (27 : Nat) ({ cls := "Lantern$State", name := "<init>", desc := "()V" } : Jvm.MethodName)) ∈ bw := mw 89 (by decide +kernel) (by decide +kernel)
theorem m_64 : (Jvm.Cond.instanceMethod ({ cls := "Lantern$State", name := "<init>", desc := "()V" } : Jvm.MethodName)) ∈ bw := mw 90 (by decide +kernel) (by decide +kernel)
theorem m_65 : (Jvm.Cond.code ({ cls := "Lantern$State", name := "<init>", desc := "()V" } : Jvm.MethodName) prog_7_method_1_code (1 : Nat) (Option.none : Option Jvm.ClassFile.FieldType)) ∈ bw := mw 91 (by decide +kernel) (by decide +kernel)
theorem m_66 : (Jvm.Cond.methodLink "Lantern$State" (3 : Nat) ({ cls := "java/lang/Object", name := "<init>", desc := "()V" } : Jvm.MethodName)) ∈ bw := mw 92 (by decide +kernel) (by decide +kernel)
theorem m_67 : (Jvm.Cond.classLink "Lantern$State" (9 : Nat) "Lantern$Row") ∈ bw := mw 93 (by decide +kernel) (by decide +kernel)
theorem m_68 : (Jvm.Cond.methodLink "Lantern$State" (11 : Nat) ({ cls := "Lantern$Row", name := "<init>", desc := "(I)V" } : Jvm.MethodName)) ∈ bw := mw 94 (by decide +kernel) (by decide +kernel)
theorem m_69 : (Jvm.Cond.methodLink "Lantern$State" (29 : Nat) ({ cls := "Lantern$Row", name := "fillWithZeros", desc := "()V" } : Jvm.MethodName)) ∈ bw := mw 95 (by decide +kernel) (by decide +kernel)
theorem m_70 : (Jvm.Cond.instanceMethod ({ cls := "Lantern$Row", name := "fillWithZeros", desc := "()V" } : Jvm.MethodName)) ∈ bw := mw 96 (by decide +kernel) (by decide +kernel)
theorem m_71 : (Jvm.Cond.selects "Lantern$Row" ({ cls := "Lantern$Row", name := "fillWithZeros", desc := "()V" } : Jvm.MethodName) ({ cls := "Lantern$Row", name := "fillWithZeros", desc := "()V" } : Jvm.MethodName)) ∈ bw := mw 97 (by decide +kernel) (by decide +kernel)
theorem m_72 : (Jvm.Cond.code ({ cls := "Lantern$Row", name := "fillWithZeros", desc := "()V" } : Jvm.MethodName) prog_6_method_12_code (2 : Nat) (Option.none : Option Jvm.ClassFile.FieldType)) ∈ bw := mw 98 (by decide +kernel) (by decide +kernel)
theorem m_73 : (Jvm.Cond.fieldLink "Lantern$State" (14 : Nat) "Lantern$State" "stack" "LLantern$Row;") ∈ bw := mw 99 (by decide +kernel) (by decide +kernel)
theorem m_74 : (Jvm.Cond.fieldLinkNest "Lantern" (286 : Nat) "Lantern$State" "stack" "LLantern$Row;" "Lantern") ∈ bw := mw 100 (by decide +kernel) (by decide +kernel)
theorem m_75 : (Jvm.Cond.fieldLink "Lantern$State" (20 : Nat) "Lantern$State" "cells" "LLantern$Row;") ∈ bw := mw 101 (by decide +kernel) (by decide +kernel)
theorem m_76 : (Jvm.Cond.fieldLinkNest "Lantern$Point" (30 : Nat) "Lantern$State" "cells" "LLantern$Row;" "Lantern") ∈ bw := mw 102 (by decide +kernel) (by decide +kernel)
theorem m_77 : (Jvm.Cond.fieldLinkNest "Lantern" (306 : Nat) "Lantern$State" "cells" "LLantern$Row;" "Lantern") ∈ bw := mw 103 (by decide +kernel) (by decide +kernel)
theorem m_78 : (Jvm.Cond.fieldLink "Lantern$State" (23 : Nat) "Lantern$State" "frames" "LLantern$Row;") ∈ bw := mw 104 (by decide +kernel) (by decide +kernel)
theorem m_79 : (Jvm.Cond.fieldLinkNest "Lantern" (198 : Nat) "Lantern$State" "frames" "LLantern$Row;" "Lantern") ∈ bw := mw 105 (by decide +kernel) (by decide +kernel)
theorem m_80 : (Jvm.Cond.fieldLink "Lantern$State" (26 : Nat) "Lantern$State" "output" "LLantern$Row;") ∈ bw := mw 106 (by decide +kernel) (by decide +kernel)
theorem m_81 : (Jvm.Cond.fieldLinkNest "Lantern" (292 : Nat) "Lantern$State" "output" "LLantern$Row;" "Lantern") ∈ bw := mw 107 (by decide +kernel) (by decide +kernel)
theorem m_82 : (Jvm.Cond.fieldLink "Lantern$State" (35 : Nat) "Lantern$State" "at" "I") ∈ bw := mw 108 (by decide +kernel) (by decide +kernel)
theorem m_83 : (Jvm.Cond.fieldLinkNest "Lantern$Point" (22 : Nat) "Lantern$State" "at" "I" "Lantern") ∈ bw := mw 109 (by decide +kernel) (by decide +kernel)
theorem m_84 : (Jvm.Cond.fieldLinkNest "Lantern" (226 : Nat) "Lantern$State" "at" "I" "Lantern") ∈ bw := mw 110 (by decide +kernel) (by decide +kernel)
theorem m_85 : (Jvm.Cond.fieldLink "Lantern$State" (39 : Nat) "Lantern$State" "status" "I") ∈ bw := mw 111 (by decide +kernel) (by decide +kernel)
theorem m_86 : (Jvm.Cond.fieldLinkNest "Lantern$Point" (27 : Nat) "Lantern$State" "status" "I" "Lantern") ∈ bw := mw 112 (by decide +kernel) (by decide +kernel)
theorem m_87 : (Jvm.Cond.fieldLinkNest "Lantern" (216 : Nat) "Lantern$State" "status" "I" "Lantern") ∈ bw := mw 113 (by decide +kernel) (by decide +kernel)
theorem m_88 : (Jvm.Cond.fieldLink "Lantern$State" (42 : Nat) "Lantern$State" "read" "I") ∈ bw := mw 114 (by decide +kernel) (by decide +kernel)
theorem m_89 : (Jvm.Cond.fieldLinkNest "Lantern" (289 : Nat) "Lantern$State" "read" "I" "Lantern") ∈ bw := mw 115 (by decide +kernel) (by decide +kernel)
theorem m_90 : (Jvm.Cond.fieldLink "Lantern$State" (45 : Nat) "Lantern$State" "clock" "I") ∈ bw := mw 116 (by decide +kernel) (by decide +kernel)
theorem m_91 : (Jvm.Cond.fieldLinkNest "Lantern" (283 : Nat) "Lantern$State" "clock" "I" "Lantern") ∈ bw := mw 117 (by decide +kernel) (by decide +kernel)
theorem m_109 : (Jvm.Cond.classLink "Lantern" (32 : Nat) "Lantern$Past") ∈ bw := mw 135 (by decide +kernel) (by decide +kernel)
theorem m_110 : (Jvm.Cond.instantiable "Lantern$Past" (3 : Nat)) ∈ bw := mw 136 (by decide +kernel) (by decide +kernel)
theorem m_111 : (Jvm.Cond.methodLink "Lantern" (34 : Nat) ({ cls := "Lantern$Past", name := "<init>", desc := "()V" } : Jvm.MethodName)) ∈ bw := mw 137 (by decide +kernel) (by decide +kernel)
theorem m_112 : (Jvm.Cond.instanceMethod ({ cls := "Lantern$Past", name := "<init>", desc := "()V" } : Jvm.MethodName)) ∈ bw := mw 138 (by decide +kernel) (by decide +kernel)
theorem m_113 : (Jvm.Cond.code ({ cls := "Lantern$Past", name := "<init>", desc := "()V" } : Jvm.MethodName) prog_3_method_1_code (2 : Nat) (Option.none : Option Jvm.ClassFile.FieldType)) ∈ bw := mw 139 (by decide +kernel) (by decide +kernel)
theorem m_114 : (Jvm.Cond.methodLink "Lantern$Past" (3 : Nat) ({ cls := "java/lang/Object", name := "<init>", desc := "()V" } : Jvm.MethodName)) ∈ bw := mw 140 (by decide +kernel) (by decide +kernel)
theorem m_115 : (Jvm.Cond.classLink "Lantern$Past" (9 : Nat) "Lantern$Moment") ∈ bw := mw 141 (by decide +kernel) (by decide +kernel)
theorem m_116 : (Jvm.Cond.arrayOver (Jvm.ClassFile.FieldType.object "Lantern$Moment")) ∈ bw := mw 142 (by decide +kernel) (by decide +kernel)
theorem m_117 : (Jvm.Cond.instantiable "Lantern$Moment" (11 : Nat)) ∈ bw := mw 143 (by decide +kernel) (by decide +kernel)
theorem m_118 : (Jvm.Cond.methodLinkNest "Lantern$Past" (17 : Nat) ({ cls := "Lantern$Moment", name := "<init>", desc := "()V" } : Jvm.MethodName) "Lantern") ∈ bw := mw 144 (by decide +kernel) (by decide +kernel)
theorem m_119 : (Jvm.Cond.instanceMethod ({ cls := "Lantern$Moment", name := "<init>", desc := "()V" } : Jvm.MethodName)) ∈ bw := mw 145 (by decide +kernel) (by decide +kernel)
theorem m_120 : (Jvm.Cond.code ({ cls := "Lantern$Moment", name := "<init>", desc := "()V" } : Jvm.MethodName) prog_2_method_1_code (1 : Nat) (Option.none : Option Jvm.ClassFile.FieldType)) ∈ bw := mw 146 (by decide +kernel) (by decide +kernel)
theorem m_121 : (Jvm.Cond.methodLink "Lantern$Moment" (1 : Nat) ({ cls := "java/lang/Object", name := "<init>", desc := "()V" } : Jvm.MethodName)) ∈ bw := mw 147 (by decide +kernel) (by decide +kernel)
theorem m_122 : (Jvm.Cond.fieldLink "Lantern$Moment" (19 : Nat) "Lantern$Moment" "at" "I") ∈ bw := mw 148 (by decide +kernel) (by decide +kernel)
theorem m_123 : (Jvm.Cond.fieldLinkNest "Lantern$Past" (29 : Nat) "Lantern$Moment" "at" "I" "Lantern") ∈ bw := mw 149 (by decide +kernel) (by decide +kernel)
theorem m_124 : (Jvm.Cond.fieldLinkNest "Lantern$State" (124 : Nat) "Lantern$Moment" "at" "I" "Lantern") ∈ bw := mw 150 (by decide +kernel) (by decide +kernel)
theorem m_125 : (Jvm.Cond.fieldLink "Lantern$Moment" (22 : Nat) "Lantern$Moment" "stackSize" "I") ∈ bw := mw 151 (by decide +kernel) (by decide +kernel)
theorem m_126 : (Jvm.Cond.fieldLinkNest "Lantern$State" (127 : Nat) "Lantern$Moment" "stackSize" "I" "Lantern") ∈ bw := mw 152 (by decide +kernel) (by decide +kernel)
theorem m_127 : (Jvm.Cond.fieldLink "Lantern$Moment" (25 : Nat) "Lantern$Moment" "top" "I") ∈ bw := mw 153 (by decide +kernel) (by decide +kernel)
theorem m_128 : (Jvm.Cond.fieldLinkNest "Lantern$State" (130 : Nat) "Lantern$Moment" "top" "I" "Lantern") ∈ bw := mw 154 (by decide +kernel) (by decide +kernel)
theorem m_129 : (Jvm.Cond.fieldLinkNest "Lantern$State" (133 : Nat) "Lantern$Moment" "second" "I" "Lantern") ∈ bw := mw 155 (by decide +kernel) (by decide +kernel)
theorem m_130 : (Jvm.Cond.fieldLink "Lantern$Moment" (28 : Nat) "Lantern$Moment" "frameCount" "I") ∈ bw := mw 156 (by decide +kernel) (by decide +kernel)
theorem m_131 : (Jvm.Cond.fieldLinkNest "Lantern$State" (136 : Nat) "Lantern$Moment" "frameCount" "I" "Lantern") ∈ bw := mw 157 (by decide +kernel) (by decide +kernel)
theorem m_132 : (Jvm.Cond.fieldLinkNest "Lantern$State" (139 : Nat) "Lantern$Moment" "wayBack" "I" "Lantern") ∈ bw := mw 158 (by decide +kernel) (by decide +kernel)
theorem m_133 : (Jvm.Cond.fieldLinkNest "Lantern$State" (142 : Nat) "Lantern$Moment" "read" "I" "Lantern") ∈ bw := mw 159 (by decide +kernel) (by decide +kernel)
theorem m_134 : (Jvm.Cond.fieldLinkNest "Lantern$State" (143 : Nat) "Lantern$Moment" "outputSize" "I" "Lantern") ∈ bw := mw 160 (by decide +kernel) (by decide +kernel)
theorem m_135 : (Jvm.Cond.fieldLink "Lantern$Moment" (7 : Nat) "Lantern$Moment" "cell" "I") ∈ bw := mw 161 (by decide +kernel) (by decide +kernel)
theorem m_136 : (Jvm.Cond.fieldLinkNest "Lantern$Watch" (27 : Nat) "Lantern$Moment" "cell" "I" "Lantern") ∈ bw := mw 162 (by decide +kernel) (by decide +kernel)
theorem m_137 : (Jvm.Cond.fieldLinkNest "Lantern$Past" (32 : Nat) "Lantern$Moment" "cell" "I" "Lantern") ∈ bw := mw 163 (by decide +kernel) (by decide +kernel)
theorem m_138 : (Jvm.Cond.fieldLinkNest "Lantern$State" (146 : Nat) "Lantern$Moment" "cell" "I" "Lantern") ∈ bw := mw 164 (by decide +kernel) (by decide +kernel)
theorem m_139 : (Jvm.Cond.fieldLink "Lantern$Moment" (13 : Nat) "Lantern$Moment" "before" "I") ∈ bw := mw 165 (by decide +kernel) (by decide +kernel)
theorem m_140 : (Jvm.Cond.fieldLinkNest "Lantern$Past" (35 : Nat) "Lantern$Moment" "before" "I" "Lantern") ∈ bw := mw 166 (by decide +kernel) (by decide +kernel)
theorem m_141 : (Jvm.Cond.fieldLinkNest "Lantern$State" (156 : Nat) "Lantern$Moment" "before" "I" "Lantern") ∈ bw := mw 167 (by decide +kernel) (by decide +kernel)
theorem m_142 : (Jvm.Cond.fieldLink "Lantern$Moment" (16 : Nat) "Lantern$Moment" "after" "I") ∈ bw := mw 168 (by decide +kernel) (by decide +kernel)
theorem m_143 : (Jvm.Cond.fieldLinkNest "Lantern$Watch" (28 : Nat) "Lantern$Moment" "after" "I" "Lantern") ∈ bw := mw 169 (by decide +kernel) (by decide +kernel)
theorem m_167 : (Jvm.Cond.fieldLink "Lantern$Past" (11 : Nat) "Lantern$Past" "moments" "[LLantern$Moment;") ∈ bw := mw 193 (by decide +kernel) (by decide +kernel)
theorem m_168 : (Jvm.Cond.fieldLink "Lantern$Past" (22 : Nat) "Lantern$Past" "first" "I") ∈ bw := mw 194 (by decide +kernel) (by decide +kernel)
theorem m_169 : (Jvm.Cond.fieldLink "Lantern$Past" (18 : Nat) "Lantern$Past" "count" "I") ∈ bw := mw 195 (by decide +kernel) (by decide +kernel)
theorem m_177 : (Jvm.Cond.classLink "Lantern" (39 : Nat) "Lantern$Point") ∈ bw := mw 203 (by decide +kernel) (by decide +kernel)
theorem m_178 : (Jvm.Cond.arrayOver (Jvm.ClassFile.FieldType.object "Lantern$Point")) ∈ bw := mw 204 (by decide +kernel) (by decide +kernel)
theorem m_179 : (Jvm.Cond.instantiable "Lantern$Point" (7 : Nat)) ∈ bw := mw 205 (by decide +kernel) (by decide +kernel)
theorem m_180 : (Jvm.Cond.methodLinkNest "Lantern" (45 : Nat) ({ cls := "Lantern$Point", name := "<init>", desc := "()V" } : Jvm.MethodName) "Lantern") ∈ bw := mw 206 (by decide +kernel) (by decide +kernel)
theorem m_181 : (Jvm.Cond.instanceMethod ({ cls := "Lantern$Point", name := "<init>", desc := "()V" } : Jvm.MethodName)) ∈ bw := mw 207 (by decide +kernel) (by decide +kernel)
theorem m_182 : (Jvm.Cond.code ({ cls := "Lantern$Point", name := "<init>", desc := "()V" } : Jvm.MethodName) prog_4_method_1_code (1 : Nat) (Option.none : Option Jvm.ClassFile.FieldType)) ∈ bw := mw 208 (by decide +kernel) (by decide +kernel)
theorem m_183 : (Jvm.Cond.methodLink "Lantern$Point" (3 : Nat) ({ cls := "java/lang/Object", name := "<init>", desc := "()V" } : Jvm.MethodName)) ∈ bw := mw 209 (by decide +kernel) (by decide +kernel)
theorem m_184 : (Jvm.Cond.fieldLink "Lantern$Point" (9 : Nat) "Lantern$Point" "step" "I") ∈ bw := mw 210 (by decide +kernel) (by decide +kernel)
theorem m_185 : (Jvm.Cond.fieldLinkNest "Lantern" (324 : Nat) "Lantern$Point" "step" "I" "Lantern") ∈ bw := mw 211 (by decide +kernel) (by decide +kernel)
theorem m_186 : (Jvm.Cond.fieldLink "Lantern$Point" (15 : Nat) "Lantern$Point" "pass" "I") ∈ bw := mw 212 (by decide +kernel) (by decide +kernel)
theorem m_187 : (Jvm.Cond.fieldLinkNest "Lantern" (173 : Nat) "Lantern$Point" "pass" "I" "Lantern") ∈ bw := mw 213 (by decide +kernel) (by decide +kernel)
theorem m_188 : (Jvm.Cond.fieldLink "Lantern$Point" (18 : Nat) "Lantern$Point" "isOn" "Z") ∈ bw := mw 214 (by decide +kernel) (by decide +kernel)
theorem m_189 : (Jvm.Cond.fieldLinkNest "Lantern" (176 : Nat) "Lantern$Point" "isOn" "Z" "Lantern") ∈ bw := mw 215 (by decide +kernel) (by decide +kernel)
theorem m_190 : (Jvm.Cond.fieldLink "Lantern$Point" (47 : Nat) "Lantern$Point" "how" "I") ∈ bw := mw 216 (by decide +kernel) (by decide +kernel)
theorem m_191 : (Jvm.Cond.fieldLink "Lantern$Point" (34 : Nat) "Lantern$Point" "cell" "I") ∈ bw := mw 217 (by decide +kernel) (by decide +kernel)
theorem m_192 : (Jvm.Cond.fieldLink "Lantern$Point" (50 : Nat) "Lantern$Point" "n" "I") ∈ bw := mw 218 (by decide +kernel) (by decide +kernel)
theorem m_193 : (Jvm.Cond.fieldLinkNest "Lantern" (249 : Nat) "Lantern$Point" "stops" "I" "Lantern") ∈ bw := mw 219 (by decide +kernel) (by decide +kernel)
theorem m_209 : (Jvm.Cond.classLink "Lantern" (46 : Nat) "Lantern$Watch") ∈ bw := mw 235 (by decide +kernel) (by decide +kernel)
theorem m_210 : (Jvm.Cond.arrayOver (Jvm.ClassFile.FieldType.object "Lantern$Watch")) ∈ bw := mw 236 (by decide +kernel) (by decide +kernel)
theorem m_211 : (Jvm.Cond.instantiable "Lantern$Watch" (3 : Nat)) ∈ bw := mw 237 (by decide +kernel) (by decide +kernel)
theorem m_212 : (Jvm.Cond.methodLinkNest "Lantern" (52 : Nat) ({ cls := "Lantern$Watch", name := "<init>", desc := "()V" } : Jvm.MethodName) "Lantern") ∈ bw := mw 238 (by decide +kernel) (by decide +kernel)
theorem m_213 : (Jvm.Cond.instanceMethod ({ cls := "Lantern$Watch", name := "<init>", desc := "()V" } : Jvm.MethodName)) ∈ bw := mw 239 (by decide +kernel) (by decide +kernel)
theorem m_214 : (Jvm.Cond.code ({ cls := "Lantern$Watch", name := "<init>", desc := "()V" } : Jvm.MethodName) prog_9_method_1_code (1 : Nat) (Option.none : Option Jvm.ClassFile.FieldType)) ∈ bw := mw 240 (by decide +kernel) (by decide +kernel)
theorem m_215 : (Jvm.Cond.methodLink "Lantern$Watch" (3 : Nat) ({ cls := "java/lang/Object", name := "<init>", desc := "()V" } : Jvm.MethodName)) ∈ bw := mw 241 (by decide +kernel) (by decide +kernel)
theorem m_216 : (Jvm.Cond.fieldLink "Lantern$Watch" (9 : Nat) "Lantern$Watch" "cell" "I") ∈ bw := mw 242 (by decide +kernel) (by decide +kernel)
theorem m_217 : (Jvm.Cond.fieldLink "Lantern$Watch" (15 : Nat) "Lantern$Watch" "kind" "I") ∈ bw := mw 243 (by decide +kernel) (by decide +kernel)
theorem m_218 : (Jvm.Cond.fieldLink "Lantern$Watch" (18 : Nat) "Lantern$Watch" "n" "I") ∈ bw := mw 244 (by decide +kernel) (by decide +kernel)
theorem m_226 : (Jvm.Cond.classLink "Lantern" (53 : Nat) "Lantern$Tape") ∈ bw := mw 252 (by decide +kernel) (by decide +kernel)
theorem m_227 : (Jvm.Cond.arrayOver (Jvm.ClassFile.FieldType.object "Lantern$Tape")) ∈ bw := mw 253 (by decide +kernel) (by decide +kernel)
theorem m_228 : (Jvm.Cond.instantiable "Lantern$Tape" (3 : Nat)) ∈ bw := mw 254 (by decide +kernel) (by decide +kernel)
theorem m_229 : (Jvm.Cond.methodLinkNest "Lantern" (59 : Nat) ({ cls := "Lantern$Tape", name := "<init>", desc := "()V" } : Jvm.MethodName) "Lantern") ∈ bw := mw 255 (by decide +kernel) (by decide +kernel)
theorem m_230 : (Jvm.Cond.instanceMethod ({ cls := "Lantern$Tape", name := "<init>", desc := "()V" } : Jvm.MethodName)) ∈ bw := mw 256 (by decide +kernel) (by decide +kernel)
theorem m_231 : (Jvm.Cond.code ({ cls := "Lantern$Tape", name := "<init>", desc := "()V" } : Jvm.MethodName) prog_8_method_1_code (1 : Nat) (Option.none : Option Jvm.ClassFile.FieldType)) ∈ bw := mw 257 (by decide +kernel) (by decide +kernel)
theorem m_232 : (Jvm.Cond.methodLink "Lantern$Tape" (3 : Nat) ({ cls := "java/lang/Object", name := "<init>", desc := "()V" } : Jvm.MethodName)) ∈ bw := mw 258 (by decide +kernel) (by decide +kernel)
theorem m_233 : (Jvm.Cond.classLink "Lantern$Tape" (9 : Nat) "Lantern$Row") ∈ bw := mw 259 (by decide +kernel) (by decide +kernel)
theorem m_234 : (Jvm.Cond.methodLink "Lantern$Tape" (11 : Nat) ({ cls := "Lantern$Row", name := "<init>", desc := "(I)V" } : Jvm.MethodName)) ∈ bw := mw 260 (by decide +kernel) (by decide +kernel)
theorem m_235 : (Jvm.Cond.fieldLink "Lantern$Tape" (14 : Nat) "Lantern$Tape" "steps" "LLantern$Row;") ∈ bw := mw 261 (by decide +kernel) (by decide +kernel)
theorem m_236 : (Jvm.Cond.fieldLinkNest "Lantern" (369 : Nat) "Lantern$Tape" "steps" "LLantern$Row;" "Lantern") ∈ bw := mw 262 (by decide +kernel) (by decide +kernel)
theorem m_237 : (Jvm.Cond.fieldLink "Lantern$Tape" (20 : Nat) "Lantern$Tape" "input" "LLantern$Row;") ∈ bw := mw 263 (by decide +kernel) (by decide +kernel)
theorem m_238 : (Jvm.Cond.fieldLinkNest "Lantern" (364 : Nat) "Lantern$Tape" "input" "LLantern$Row;" "Lantern") ∈ bw := mw 264 (by decide +kernel) (by decide +kernel)
theorem m_239 : (Jvm.Cond.fieldLinkNest "Lantern" (361 : Nat) "Lantern$Tape" "isRecorded" "Z" "Lantern") ∈ bw := mw 265 (by decide +kernel) (by decide +kernel)
theorem m_247 : (Jvm.Cond.fieldLink "Lantern" (10 : Nat) "Lantern" "program" "LLantern$Program;") ∈ bw := mw 273 (by decide +kernel) (by decide +kernel)
theorem m_248 : (Jvm.Cond.fieldLink "Lantern" (21 : Nat) "Lantern" "input" "LLantern$Row;") ∈ bw := mw 274 (by decide +kernel) (by decide +kernel)
theorem m_249 : (Jvm.Cond.fieldLink "Lantern" (28 : Nat) "Lantern" "state" "LLantern$State;") ∈ bw := mw 275 (by decide +kernel) (by decide +kernel)
theorem m_250 : (Jvm.Cond.fieldLink "Lantern" (35 : Nat) "Lantern" "past" "LLantern$Past;") ∈ bw := mw 276 (by decide +kernel) (by decide +kernel)
theorem m_251 : (Jvm.Cond.fieldLink "Lantern" (41 : Nat) "Lantern" "points" "[LLantern$Point;") ∈ bw := mw 277 (by decide +kernel) (by decide +kernel)
theorem m_252 : (Jvm.Cond.fieldLink "Lantern" (143 : Nat) "Lantern" "pointCount" "I") ∈ bw := mw 278 (by decide +kernel) (by decide +kernel)
theorem m_253 : (Jvm.Cond.fieldLink "Lantern" (48 : Nat) "Lantern" "watches" "[LLantern$Watch;") ∈ bw := mw 279 (by decide +kernel) (by decide +kernel)
theorem m_254 : (Jvm.Cond.fieldLink "Lantern" (182 : Nat) "Lantern" "watchCount" "I") ∈ bw := mw 280 (by decide +kernel) (by decide +kernel)
theorem m_255 : (Jvm.Cond.fieldLink "Lantern" (55 : Nat) "Lantern" "tapes" "[LLantern$Tape;") ∈ bw := mw 281 (by decide +kernel) (by decide +kernel)
theorem m_256 : (Jvm.Cond.fieldLink "Lantern" (60 : Nat) "Lantern" "reason" "I") ∈ bw := mw 282 (by decide +kernel) (by decide +kernel)
theorem m_257 : (Jvm.Cond.fieldLink "Lantern" (64 : Nat) "Lantern" "cause" "I") ∈ bw := mw 283 (by decide +kernel) (by decide +kernel)
theorem m_258 : (Jvm.Cond.fieldLink "Lantern" (67 : Nat) "Lantern" "trial" "LLantern$State;") ∈ bw := mw 284 (by decide +kernel) (by decide +kernel)
theorem m_259 : (Jvm.Cond.fieldLink "Lantern" (70 : Nat) "Lantern" "trialInput" "LLantern$Row;") ∈ bw := mw 285 (by decide +kernel) (by decide +kernel)
theorem m_287 : (Jvm.Cond.methodLink "LanternLaw" (53 : Nat) ({ cls := "Lantern", name := "give", desc := "(I)I" } : Jvm.MethodName)) ∈ bw := mw 313 (by decide +kernel) (by decide +kernel)
theorem m_288 : (Jvm.Cond.instanceMethod ({ cls := "Lantern", name := "give", desc := "(I)I" } : Jvm.MethodName)) ∈ bw := mw 314 (by decide +kernel) (by decide +kernel)
theorem m_289 : (Jvm.Cond.selects "Lantern" ({ cls := "Lantern", name := "give", desc := "(I)I" } : Jvm.MethodName) ({ cls := "Lantern", name := "give", desc := "(I)I" } : Jvm.MethodName)) ∈ bw := mw 315 (by decide +kernel) (by decide +kernel)
theorem m_290 : (Jvm.Cond.code ({ cls := "Lantern", name := "give", desc := "(I)I" } : Jvm.MethodName) prog_1_method_4_code (2 : Nat) (Option.some Jvm.ClassFile.FieldType.int)) ∈ bw := mw 316 (by decide +kernel) (by decide +kernel)
theorem m_291 : (Jvm.Cond.methodLink "Lantern" (118 : Nat) ({ cls := "Lantern$Row", name := "isFull", desc := "()Z" } : Jvm.MethodName)) ∈ bw := mw 317 (by decide +kernel) (by decide +kernel)
theorem m_292 : (Jvm.Cond.instanceMethod ({ cls := "Lantern$Row", name := "isFull", desc := "()Z" } : Jvm.MethodName)) ∈ bw := mw 318 (by decide +kernel) (by decide +kernel)
theorem m_293 : (Jvm.Cond.selects "Lantern$Row" ({ cls := "Lantern$Row", name := "isFull", desc := "()Z" } : Jvm.MethodName) ({ cls := "Lantern$Row", name := "isFull", desc := "()Z" } : Jvm.MethodName)) ∈ bw := mw 319 (by decide +kernel) (by decide +kernel)
theorem m_294 : (Jvm.Cond.code ({ cls := "Lantern$Row", name := "isFull", desc := "()Z" } : Jvm.MethodName) prog_6_method_3_code (1 : Nat) (Option.some Jvm.ClassFile.FieldType.boolean)) ∈ bw := mw 320 (by decide +kernel) (by decide +kernel)
theorem m_362 : (Jvm.Cond.arrayClass Jvm.ClassFile.FieldType.byte) ∈ bw := mw 388 (by decide +kernel) (by decide +kernel)
theorem m_363 : (Jvm.Cond.methodLink "Lantern" (121 : Nat) ({ cls := "Lantern$Row", name := "push", desc := "(I)V" } : Jvm.MethodName)) ∈ bw := mw 389 (by decide +kernel) (by decide +kernel)
theorem m_364 : (Jvm.Cond.instanceMethod ({ cls := "Lantern$Row", name := "push", desc := "(I)V" } : Jvm.MethodName)) ∈ bw := mw 390 (by decide +kernel) (by decide +kernel)
theorem m_365 : (Jvm.Cond.selects "Lantern$Row" ({ cls := "Lantern$Row", name := "push", desc := "(I)V" } : Jvm.MethodName) ({ cls := "Lantern$Row", name := "push", desc := "(I)V" } : Jvm.MethodName)) ∈ bw := mw 391 (by decide +kernel) (by decide +kernel)
theorem m_366 : (Jvm.Cond.code ({ cls := "Lantern$Row", name := "push", desc := "(I)V" } : Jvm.MethodName) prog_6_method_9_code (2 : Nat) (Option.none : Option Jvm.ClassFile.FieldType)) ∈ bw := mw 392 (by decide +kernel) (by decide +kernel)
theorem m_367 : (Jvm.Cond.methodLink "Lantern" (124 : Nat) ({ cls := "Lantern$Row", name := "size", desc := "()I" } : Jvm.MethodName)) ∈ bw := mw 393 (by decide +kernel) (by decide +kernel)
theorem m_368 : (Jvm.Cond.instanceMethod ({ cls := "Lantern$Row", name := "size", desc := "()I" } : Jvm.MethodName)) ∈ bw := mw 394 (by decide +kernel) (by decide +kernel)
theorem m_369 : (Jvm.Cond.selects "Lantern$Row" ({ cls := "Lantern$Row", name := "size", desc := "()I" } : Jvm.MethodName) ({ cls := "Lantern$Row", name := "size", desc := "()I" } : Jvm.MethodName)) ∈ bw := mw 395 (by decide +kernel) (by decide +kernel)
theorem m_370 : (Jvm.Cond.code ({ cls := "Lantern$Row", name := "size", desc := "()I" } : Jvm.MethodName) prog_6_method_2_code (1 : Nat) (Option.some Jvm.ClassFile.FieldType.int)) ∈ bw := mw 396 (by decide +kernel) (by decide +kernel)
theorem m_371 : (Jvm.Cond.methodLink "LanternLaw" (103 : Nat) ({ cls := "Lantern", name := "restart", desc := "()I" } : Jvm.MethodName)) ∈ bw := mw 397 (by decide +kernel) (by decide +kernel)
theorem m_372 : (Jvm.Cond.instanceMethod ({ cls := "Lantern", name := "restart", desc := "()I" } : Jvm.MethodName)) ∈ bw := mw 398 (by decide +kernel) (by decide +kernel)
theorem m_373 : (Jvm.Cond.selects "Lantern" ({ cls := "Lantern", name := "restart", desc := "()I" } : Jvm.MethodName) ({ cls := "Lantern", name := "restart", desc := "()I" } : Jvm.MethodName)) ∈ bw := mw 399 (by decide +kernel) (by decide +kernel)
theorem m_374 : (Jvm.Cond.code ({ cls := "Lantern", name := "restart", desc := "()I" } : Jvm.MethodName) prog_1_method_5_code (1 : Nat) (Option.some Jvm.ClassFile.FieldType.int)) ∈ bw := mw 400 (by decide +kernel) (by decide +kernel)
theorem m_375 : (Jvm.Cond.methodLink "Lantern" (125 : Nat) ({ cls := "Lantern", name := "start", desc := "()V" } : Jvm.MethodName)) ∈ bw := mw 401 (by decide +kernel) (by decide +kernel)
theorem m_377 : (Jvm.Cond.instanceMethod ({ cls := "Lantern", name := "start", desc := "()V" } : Jvm.MethodName)) ∈ bw := mw 403 (by decide +kernel) (by decide +kernel)
theorem m_378 : (Jvm.Cond.code ({ cls := "Lantern", name := "start", desc := "()V" } : Jvm.MethodName) prog_1_method_6_code (1 : Nat) (Option.none : Option Jvm.ClassFile.FieldType)) ∈ bw := mw 404 (by decide +kernel) (by decide +kernel)
theorem m_379 : (Jvm.Cond.methodLink "Lantern" (128 : Nat) ({ cls := "Lantern$State", name := "clear", desc := "()V" } : Jvm.MethodName)) ∈ bw := mw 405 (by decide +kernel) (by decide +kernel)
theorem m_380 : (Jvm.Cond.instanceMethod ({ cls := "Lantern$State", name := "clear", desc := "()V" } : Jvm.MethodName)) ∈ bw := mw 406 (by decide +kernel) (by decide +kernel)
theorem m_381 : (Jvm.Cond.selects "Lantern$State" ({ cls := "Lantern$State", name := "clear", desc := "()V" } : Jvm.MethodName) ({ cls := "Lantern$State", name := "clear", desc := "()V" } : Jvm.MethodName)) ∈ bw := mw 407 (by decide +kernel) (by decide +kernel)
theorem m_382 : (Jvm.Cond.code ({ cls := "Lantern$State", name := "clear", desc := "()V" } : Jvm.MethodName) prog_7_method_2_code (1 : Nat) (Option.none : Option Jvm.ClassFile.FieldType)) ∈ bw := mw 408 (by decide +kernel) (by decide +kernel)
theorem m_383 : (Jvm.Cond.methodLink "Lantern$State" (32 : Nat) ({ cls := "Lantern$Row", name := "resize", desc := "(I)V" } : Jvm.MethodName)) ∈ bw := mw 409 (by decide +kernel) (by decide +kernel)
theorem m_384 : (Jvm.Cond.instanceMethod ({ cls := "Lantern$Row", name := "resize", desc := "(I)V" } : Jvm.MethodName)) ∈ bw := mw 410 (by decide +kernel) (by decide +kernel)
theorem m_385 : (Jvm.Cond.selects "Lantern$Row" ({ cls := "Lantern$Row", name := "resize", desc := "(I)V" } : Jvm.MethodName) ({ cls := "Lantern$Row", name := "resize", desc := "(I)V" } : Jvm.MethodName)) ∈ bw := mw 411 (by decide +kernel) (by decide +kernel)
theorem m_386 : (Jvm.Cond.code ({ cls := "Lantern$Row", name := "resize", desc := "(I)V" } : Jvm.MethodName) prog_6_method_11_code (2 : Nat) (Option.none : Option Jvm.ClassFile.FieldType)) ∈ bw := mw 412 (by decide +kernel) (by decide +kernel)
theorem m_387 : (Jvm.Cond.methodLink "Lantern$Row" (31 : Nat) ({ cls := "java/lang/Math", name := "min", desc := "(II)I" } : Jvm.MethodName)) ∈ bw := mw 413 (by decide +kernel) (by decide +kernel)
theorem m_388 : (Jvm.Cond.static ({ cls := "java/lang/Math", name := "min", desc := "(II)I" } : Jvm.MethodName)) ∈ bw := mw 414 (by decide +kernel) (by decide +kernel)
theorem m_389 : (Jvm.Cond.code ({ cls := "java/lang/Math", name := "min", desc := "(II)I" } : Jvm.MethodName) prog_19_method_69_code (2 : Nat) (Option.some Jvm.ClassFile.FieldType.int)) ∈ bw := mw 415 (by decide +kernel) (by decide +kernel)
theorem m_390 : (Jvm.Cond.methodLink "Lantern" (131 : Nat) ({ cls := "Lantern$Past", name := "clear", desc := "()V" } : Jvm.MethodName)) ∈ bw := mw 416 (by decide +kernel) (by decide +kernel)
theorem m_391 : (Jvm.Cond.instanceMethod ({ cls := "Lantern$Past", name := "clear", desc := "()V" } : Jvm.MethodName)) ∈ bw := mw 417 (by decide +kernel) (by decide +kernel)
theorem m_392 : (Jvm.Cond.selects "Lantern$Past" ({ cls := "Lantern$Past", name := "clear", desc := "()V" } : Jvm.MethodName) ({ cls := "Lantern$Past", name := "clear", desc := "()V" } : Jvm.MethodName)) ∈ bw := mw 418 (by decide +kernel) (by decide +kernel)
theorem m_393 : (Jvm.Cond.code ({ cls := "Lantern$Past", name := "clear", desc := "()V" } : Jvm.MethodName) prog_3_method_3_code (1 : Nat) (Option.none : Option Jvm.ClassFile.FieldType)) ∈ bw := mw 419 (by decide +kernel) (by decide +kernel)
theorem m_394 : (Jvm.Cond.methodLink "Lantern" (132 : Nat) ({ cls := "Lantern$Program", name := "forgetTimes", desc := "()V" } : Jvm.MethodName)) ∈ bw := mw 420 (by decide +kernel) (by decide +kernel)
theorem m_395 : (Jvm.Cond.instanceMethod ({ cls := "Lantern$Program", name := "forgetTimes", desc := "()V" } : Jvm.MethodName)) ∈ bw := mw 421 (by decide +kernel) (by decide +kernel)
theorem m_396 : (Jvm.Cond.selects "Lantern$Program" ({ cls := "Lantern$Program", name := "forgetTimes", desc := "()V" } : Jvm.MethodName) ({ cls := "Lantern$Program", name := "forgetTimes", desc := "()V" } : Jvm.MethodName)) ∈ bw := mw 422 (by decide +kernel) (by decide +kernel)
theorem m_397 : (Jvm.Cond.code ({ cls := "Lantern$Program", name := "forgetTimes", desc := "()V" } : Jvm.MethodName) prog_5_method_12_code (2 : Nat) (Option.none : Option Jvm.ClassFile.FieldType)) ∈ bw := mw 423 (by decide +kernel) (by decide +kernel)
theorem m_398 : (Jvm.Cond.methodLink "Lantern$Program" (30 : Nat) ({ cls := "Lantern$Row", name := "size", desc := "()I" } : Jvm.MethodName)) ∈ bw := mw 424 (by decide +kernel) (by decide +kernel)
theorem m_399 : (Jvm.Cond.methodLink "Lantern$Program" (48 : Nat) ({ cls := "Lantern$Row", name := "put", desc := "(II)V" } : Jvm.MethodName)) ∈ bw := mw 425 (by decide +kernel) (by decide +kernel)
theorem m_400 : (Jvm.Cond.instanceMethod ({ cls := "Lantern$Row", name := "put", desc := "(II)V" } : Jvm.MethodName)) ∈ bw := mw 426 (by decide +kernel) (by decide +kernel)
theorem m_401 : (Jvm.Cond.selects "Lantern$Row" ({ cls := "Lantern$Row", name := "put", desc := "(II)V" } : Jvm.MethodName) ({ cls := "Lantern$Row", name := "put", desc := "(II)V" } : Jvm.MethodName)) ∈ bw := mw 427 (by decide +kernel) (by decide +kernel)
theorem m_402 : (Jvm.Cond.code ({ cls := "Lantern$Row", name := "put", desc := "(II)V" } : Jvm.MethodName) prog_6_method_7_code (3 : Nat) (Option.none : Option Jvm.ClassFile.FieldType)) ∈ bw := mw 428 (by decide +kernel) (by decide +kernel)
theorem m_403 : (Jvm.Cond.methodLink "Lantern" (135 : Nat) ({ cls := "Lantern", name := "stopBy", desc := "(II)V" } : Jvm.MethodName)) ∈ bw := mw 429 (by decide +kernel) (by decide +kernel)
theorem m_405 : (Jvm.Cond.instanceMethod ({ cls := "Lantern", name := "stopBy", desc := "(II)V" } : Jvm.MethodName)) ∈ bw := mw 431 (by decide +kernel) (by decide +kernel)
theorem m_406 : (Jvm.Cond.code ({ cls := "Lantern", name := "stopBy", desc := "(II)V" } : Jvm.MethodName) prog_1_method_22_code (3 : Nat) (Option.none : Option Jvm.ClassFile.FieldType)) ∈ bw := mw 432 (by decide +kernel) (by decide +kernel)
theorem m_407 : (Jvm.Cond.methodLink "Lantern" (97 : Nat) ({ cls := "Lantern$Program", name := "size", desc := "()I" } : Jvm.MethodName)) ∈ bw := mw 433 (by decide +kernel) (by decide +kernel)
theorem m_408 : (Jvm.Cond.instanceMethod ({ cls := "Lantern$Program", name := "size", desc := "()I" } : Jvm.MethodName)) ∈ bw := mw 434 (by decide +kernel) (by decide +kernel)
theorem m_409 : (Jvm.Cond.selects "Lantern$Program" ({ cls := "Lantern$Program", name := "size", desc := "()I" } : Jvm.MethodName) ({ cls := "Lantern$Program", name := "size", desc := "()I" } : Jvm.MethodName)) ∈ bw := mw 435 (by decide +kernel) (by decide +kernel)
theorem m_410 : (Jvm.Cond.code ({ cls := "Lantern$Program", name := "size", desc := "()I" } : Jvm.MethodName) prog_5_method_3_code (1 : Nat) (Option.some Jvm.ClassFile.FieldType.int)) ∈ bw := mw 436 (by decide +kernel) (by decide +kernel)
theorem m_411 : (Jvm.Cond.methodLink "LanternLaw" (100 : Nat) ({ cls := "Lantern", name := "point", desc := "(II)I" } : Jvm.MethodName)) ∈ bw := mw 437 (by decide +kernel) (by decide +kernel)
theorem m_412 : (Jvm.Cond.instanceMethod ({ cls := "Lantern", name := "point", desc := "(II)I" } : Jvm.MethodName)) ∈ bw := mw 438 (by decide +kernel) (by decide +kernel)
theorem m_413 : (Jvm.Cond.selects "Lantern" ({ cls := "Lantern", name := "point", desc := "(II)I" } : Jvm.MethodName) ({ cls := "Lantern", name := "point", desc := "(II)I" } : Jvm.MethodName)) ∈ bw := mw 439 (by decide +kernel) (by decide +kernel)
theorem m_414 : (Jvm.Cond.code ({ cls := "Lantern", name := "point", desc := "(II)I" } : Jvm.MethodName) prog_1_method_7_code (3 : Nat) (Option.some Jvm.ClassFile.FieldType.int)) ∈ bw := mw 440 (by decide +kernel) (by decide +kernel)
theorem m_415 : (Jvm.Cond.methodLink "Lantern" (138 : Nat) ({ cls := "Lantern", name := "isPass", desc := "(I)Z" } : Jvm.MethodName)) ∈ bw := mw 441 (by decide +kernel) (by decide +kernel)
theorem m_416 : (Jvm.Cond.static ({ cls := "Lantern", name := "isPass", desc := "(I)Z" } : Jvm.MethodName)) ∈ bw := mw 442 (by decide +kernel) (by decide +kernel)
theorem m_417 : (Jvm.Cond.code ({ cls := "Lantern", name := "isPass", desc := "(I)Z" } : Jvm.MethodName) prog_1_method_13_code (1 : Nat) (Option.some Jvm.ClassFile.FieldType.boolean)) ∈ bw := mw 443 (by decide +kernel) (by decide +kernel)
theorem m_435 : (Jvm.Cond.methodLink "Lantern" (148 : Nat) ({ cls := "Lantern$Point", name := "place", desc := "(II)V" } : Jvm.MethodName)) ∈ bw := mw 461 (by decide +kernel) (by decide +kernel)
theorem m_436 : (Jvm.Cond.instanceMethod ({ cls := "Lantern$Point", name := "place", desc := "(II)V" } : Jvm.MethodName)) ∈ bw := mw 462 (by decide +kernel) (by decide +kernel)
theorem m_437 : (Jvm.Cond.selects "Lantern$Point" ({ cls := "Lantern$Point", name := "place", desc := "(II)V" } : Jvm.MethodName) ({ cls := "Lantern$Point", name := "place", desc := "(II)V" } : Jvm.MethodName)) ∈ bw := mw 463 (by decide +kernel) (by decide +kernel)
theorem m_438 : (Jvm.Cond.code ({ cls := "Lantern$Point", name := "place", desc := "(II)V" } : Jvm.MethodName) prog_4_method_2_code (3 : Nat) (Option.none : Option Jvm.ClassFile.FieldType)) ∈ bw := mw 464 (by decide +kernel) (by decide +kernel)
theorem m_439 : (Jvm.Cond.methodLink "LanternLaw" (62 : Nat) ({ cls := "Lantern", name := "run", desc := "(I)I" } : Jvm.MethodName)) ∈ bw := mw 465 (by decide +kernel) (by decide +kernel)
theorem m_440 : (Jvm.Cond.instanceMethod ({ cls := "Lantern", name := "run", desc := "(I)I" } : Jvm.MethodName)) ∈ bw := mw 466 (by decide +kernel) (by decide +kernel)
theorem m_441 : (Jvm.Cond.selects "Lantern" ({ cls := "Lantern", name := "run", desc := "(I)I" } : Jvm.MethodName) ({ cls := "Lantern", name := "run", desc := "(I)I" } : Jvm.MethodName)) ∈ bw := mw 467 (by decide +kernel) (by decide +kernel)
theorem m_442 : (Jvm.Cond.code ({ cls := "Lantern", name := "run", desc := "(I)I" } : Jvm.MethodName) prog_1_method_16_code (2 : Nat) (Option.some Jvm.ClassFile.FieldType.int)) ∈ bw := mw 468 (by decide +kernel) (by decide +kernel)
theorem m_443 : (Jvm.Cond.methodLink "Lantern" (189 : Nat) ({ cls := "Lantern", name := "isRunLength", desc := "(I)Z" } : Jvm.MethodName)) ∈ bw := mw 469 (by decide +kernel) (by decide +kernel)
theorem m_444 : (Jvm.Cond.static ({ cls := "Lantern", name := "isRunLength", desc := "(I)Z" } : Jvm.MethodName)) ∈ bw := mw 470 (by decide +kernel) (by decide +kernel)
theorem m_445 : (Jvm.Cond.code ({ cls := "Lantern", name := "isRunLength", desc := "(I)Z" } : Jvm.MethodName) prog_1_method_21_code (1 : Nat) (Option.some Jvm.ClassFile.FieldType.boolean)) ∈ bw := mw 471 (by decide +kernel) (by decide +kernel)
theorem m_447 : (Jvm.Cond.methodLink "Lantern" (194 : Nat) ({ cls := "Lantern", name := "runTill", desc := "(II)I" } : Jvm.MethodName)) ∈ bw := mw 473 (by decide +kernel) (by decide +kernel)
theorem m_449 : (Jvm.Cond.instanceMethod ({ cls := "Lantern", name := "runTill", desc := "(II)I" } : Jvm.MethodName)) ∈ bw := mw 475 (by decide +kernel) (by decide +kernel)
theorem m_450 : (Jvm.Cond.code ({ cls := "Lantern", name := "runTill", desc := "(II)I" } : Jvm.MethodName) prog_1_method_23_code (4 : Nat) (Option.some Jvm.ClassFile.FieldType.int)) ∈ bw := mw 476 (by decide +kernel) (by decide +kernel)
theorem m_451 : (Jvm.Cond.methodLink "Lantern" (213 : Nat) ({ cls := "Lantern", name := "doStep", desc := "()Z" } : Jvm.MethodName)) ∈ bw := mw 477 (by decide +kernel) (by decide +kernel)
theorem m_453 : (Jvm.Cond.instanceMethod ({ cls := "Lantern", name := "doStep", desc := "()Z" } : Jvm.MethodName)) ∈ bw := mw 479 (by decide +kernel) (by decide +kernel)
theorem m_454 : (Jvm.Cond.code ({ cls := "Lantern", name := "doStep", desc := "()Z" } : Jvm.MethodName) prog_1_method_24_code (1 : Nat) (Option.some Jvm.ClassFile.FieldType.boolean)) ∈ bw := mw 480 (by decide +kernel) (by decide +kernel)
theorem m_455 : (Jvm.Cond.methodLink "Lantern" (222 : Nat) ({ cls := "Lantern$State", name := "readies", desc := "(LLantern$Program;)Z" } : Jvm.MethodName)) ∈ bw := mw 481 (by decide +kernel) (by decide +kernel)
theorem m_456 : (Jvm.Cond.instanceMethod ({ cls := "Lantern$State", name := "readies", desc := "(LLantern$Program;)Z" } : Jvm.MethodName)) ∈ bw := mw 482 (by decide +kernel) (by decide +kernel)
theorem m_457 : (Jvm.Cond.selects "Lantern$State" ({ cls := "Lantern$State", name := "readies", desc := "(LLantern$Program;)Z" } : Jvm.MethodName) ({ cls := "Lantern$State", name := "readies", desc := "(LLantern$Program;)Z" } : Jvm.MethodName)) ∈ bw := mw 483 (by decide +kernel) (by decide +kernel)
theorem m_458 : (Jvm.Cond.code ({ cls := "Lantern$State", name := "readies", desc := "(LLantern$Program;)Z" } : Jvm.MethodName) prog_7_method_4_code (2 : Nat) (Option.some Jvm.ClassFile.FieldType.boolean)) ∈ bw := mw 484 (by decide +kernel) (by decide +kernel)
theorem m_459 : (Jvm.Cond.methodLink "Lantern$State" (52 : Nat) ({ cls := "Lantern$State", name := "failureOf", desc := "(LLantern$Program;)I" } : Jvm.MethodName)) ∈ bw := mw 485 (by decide +kernel) (by decide +kernel)
theorem m_461 : (Jvm.Cond.instanceMethod ({ cls := "Lantern$State", name := "failureOf", desc := "(LLantern$Program;)I" } : Jvm.MethodName)) ∈ bw := mw 487 (by decide +kernel) (by decide +kernel)
theorem m_462 : (Jvm.Cond.code ({ cls := "Lantern$State", name := "failureOf", desc := "(LLantern$Program;)I" } : Jvm.MethodName) prog_7_method_5_code (3 : Nat) (Option.some Jvm.ClassFile.FieldType.int)) ∈ bw := mw 488 (by decide +kernel) (by decide +kernel)
theorem m_463 : (Jvm.Cond.methodLink "Lantern$State" (56 : Nat) ({ cls := "Lantern$Program", name := "has", desc := "(I)Z" } : Jvm.MethodName)) ∈ bw := mw 489 (by decide +kernel) (by decide +kernel)
theorem m_464 : (Jvm.Cond.instanceMethod ({ cls := "Lantern$Program", name := "has", desc := "(I)Z" } : Jvm.MethodName)) ∈ bw := mw 490 (by decide +kernel) (by decide +kernel)
theorem m_465 : (Jvm.Cond.selects "Lantern$Program" ({ cls := "Lantern$Program", name := "has", desc := "(I)Z" } : Jvm.MethodName) ({ cls := "Lantern$Program", name := "has", desc := "(I)Z" } : Jvm.MethodName)) ∈ bw := mw 491 (by decide +kernel) (by decide +kernel)
theorem m_466 : (Jvm.Cond.code ({ cls := "Lantern$Program", name := "has", desc := "(I)Z" } : Jvm.MethodName) prog_5_method_5_code (2 : Nat) (Option.some Jvm.ClassFile.FieldType.boolean)) ∈ bw := mw 492 (by decide +kernel) (by decide +kernel)
theorem m_467 : (Jvm.Cond.methodLink "Lantern$Program" (38 : Nat) ({ cls := "Lantern$Row", name := "has", desc := "(I)Z" } : Jvm.MethodName)) ∈ bw := mw 493 (by decide +kernel) (by decide +kernel)
theorem m_468 : (Jvm.Cond.instanceMethod ({ cls := "Lantern$Row", name := "has", desc := "(I)Z" } : Jvm.MethodName)) ∈ bw := mw 494 (by decide +kernel) (by decide +kernel)
theorem m_469 : (Jvm.Cond.selects "Lantern$Row" ({ cls := "Lantern$Row", name := "has", desc := "(I)Z" } : Jvm.MethodName) ({ cls := "Lantern$Row", name := "has", desc := "(I)Z" } : Jvm.MethodName)) ∈ bw := mw 495 (by decide +kernel) (by decide +kernel)
theorem m_470 : (Jvm.Cond.code ({ cls := "Lantern$Row", name := "has", desc := "(I)Z" } : Jvm.MethodName) prog_6_method_4_code (2 : Nat) (Option.some Jvm.ClassFile.FieldType.boolean)) ∈ bw := mw 496 (by decide +kernel) (by decide +kernel)
theorem m_471 : (Jvm.Cond.methodLink "Lantern$State" (62 : Nat) ({ cls := "Lantern$Program", name := "codeAt", desc := "(I)I" } : Jvm.MethodName)) ∈ bw := mw 497 (by decide +kernel) (by decide +kernel)
theorem m_472 : (Jvm.Cond.instanceMethod ({ cls := "Lantern$Program", name := "codeAt", desc := "(I)I" } : Jvm.MethodName)) ∈ bw := mw 498 (by decide +kernel) (by decide +kernel)
theorem m_473 : (Jvm.Cond.selects "Lantern$Program" ({ cls := "Lantern$Program", name := "codeAt", desc := "(I)I" } : Jvm.MethodName) ({ cls := "Lantern$Program", name := "codeAt", desc := "(I)I" } : Jvm.MethodName)) ∈ bw := mw 499 (by decide +kernel) (by decide +kernel)
theorem m_474 : (Jvm.Cond.code ({ cls := "Lantern$Program", name := "codeAt", desc := "(I)I" } : Jvm.MethodName) prog_5_method_6_code (2 : Nat) (Option.some Jvm.ClassFile.FieldType.int)) ∈ bw := mw 500 (by decide +kernel) (by decide +kernel)
theorem m_475 : (Jvm.Cond.methodLink "Lantern$Program" (41 : Nat) ({ cls := "Lantern$Row", name := "get", desc := "(I)I" } : Jvm.MethodName)) ∈ bw := mw 501 (by decide +kernel) (by decide +kernel)
theorem m_476 : (Jvm.Cond.instanceMethod ({ cls := "Lantern$Row", name := "get", desc := "(I)I" } : Jvm.MethodName)) ∈ bw := mw 502 (by decide +kernel) (by decide +kernel)
theorem m_477 : (Jvm.Cond.selects "Lantern$Row" ({ cls := "Lantern$Row", name := "get", desc := "(I)I" } : Jvm.MethodName) ({ cls := "Lantern$Row", name := "get", desc := "(I)I" } : Jvm.MethodName)) ∈ bw := mw 503 (by decide +kernel) (by decide +kernel)
theorem m_478 : (Jvm.Cond.code ({ cls := "Lantern$Row", name := "get", desc := "(I)I" } : Jvm.MethodName) prog_6_method_5_code (2 : Nat) (Option.some Jvm.ClassFile.FieldType.int)) ∈ bw := mw 504 (by decide +kernel) (by decide +kernel)
theorem m_479 : (Jvm.Cond.methodLink "Lantern$State" (66 : Nat) ({ cls := "Lantern$Row", name := "size", desc := "()I" } : Jvm.MethodName)) ∈ bw := mw 505 (by decide +kernel) (by decide +kernel)
theorem m_480 : (Jvm.Cond.methodLink "Lantern$State" (70 : Nat) ({ cls := "Lantern$State", name := "needOnStack", desc := "(I)I" } : Jvm.MethodName)) ∈ bw := mw 506 (by decide +kernel) (by decide +kernel)
theorem m_481 : (Jvm.Cond.static ({ cls := "Lantern$State", name := "needOnStack", desc := "(I)I" } : Jvm.MethodName)) ∈ bw := mw 507 (by decide +kernel) (by decide +kernel)
theorem m_482 : (Jvm.Cond.code ({ cls := "Lantern$State", name := "needOnStack", desc := "(I)I" } : Jvm.MethodName) prog_7_method_6_code (1 : Nat) (Option.some Jvm.ClassFile.FieldType.int)) ∈ bw := mw 508 (by decide +kernel) (by decide +kernel)
theorem m_483 : (Jvm.Cond.methodLink "Lantern$State" (73 : Nat) ({ cls := "Lantern$Row", name := "fromTop", desc := "(I)I" } : Jvm.MethodName)) ∈ bw := mw 509 (by decide +kernel) (by decide +kernel)
theorem m_484 : (Jvm.Cond.instanceMethod ({ cls := "Lantern$Row", name := "fromTop", desc := "(I)I" } : Jvm.MethodName)) ∈ bw := mw 510 (by decide +kernel) (by decide +kernel)
theorem m_485 : (Jvm.Cond.selects "Lantern$Row" ({ cls := "Lantern$Row", name := "fromTop", desc := "(I)I" } : Jvm.MethodName) ({ cls := "Lantern$Row", name := "fromTop", desc := "(I)I" } : Jvm.MethodName)) ∈ bw := mw 511 (by decide +kernel) (by decide +kernel)
theorem m_486 : (Jvm.Cond.code ({ cls := "Lantern$Row", name := "fromTop", desc := "(I)I" } : Jvm.MethodName) prog_6_method_6_code (2 : Nat) (Option.some Jvm.ClassFile.FieldType.int)) ∈ bw := mw 512 (by decide +kernel) (by decide +kernel)
theorem m_487 : (Jvm.Cond.methodLink "Lantern$Row" (23 : Nat) ({ cls := "Lantern$Row", name := "get", desc := "(I)I" } : Jvm.MethodName)) ∈ bw := mw 513 (by decide +kernel) (by decide +kernel)
theorem m_488 : (Jvm.Cond.methodLinkNest "Lantern$State" (76 : Nat) ({ cls := "Lantern", name := "isCell", desc := "(I)Z" } : Jvm.MethodName) "Lantern") ∈ bw := mw 514 (by decide +kernel) (by decide +kernel)
theorem m_489 : (Jvm.Cond.static ({ cls := "Lantern", name := "isCell", desc := "(I)Z" } : Jvm.MethodName)) ∈ bw := mw 515 (by decide +kernel) (by decide +kernel)
theorem m_490 : (Jvm.Cond.code ({ cls := "Lantern", name := "isCell", desc := "(I)Z" } : Jvm.MethodName) prog_1_method_12_code (1 : Nat) (Option.some Jvm.ClassFile.FieldType.boolean)) ∈ bw := mw 516 (by decide +kernel) (by decide +kernel)
theorem m_491 : (Jvm.Cond.methodLink "Lantern$State" (79 : Nat) ({ cls := "Lantern$State", name := "isTooFullFor", desc := "(I)Z" } : Jvm.MethodName)) ∈ bw := mw 517 (by decide +kernel) (by decide +kernel)
theorem m_493 : (Jvm.Cond.instanceMethod ({ cls := "Lantern$State", name := "isTooFullFor", desc := "(I)Z" } : Jvm.MethodName)) ∈ bw := mw 519 (by decide +kernel) (by decide +kernel)
theorem m_494 : (Jvm.Cond.code ({ cls := "Lantern$State", name := "isTooFullFor", desc := "(I)Z" } : Jvm.MethodName) prog_7_method_7_code (2 : Nat) (Option.some Jvm.ClassFile.FieldType.boolean)) ∈ bw := mw 520 (by decide +kernel) (by decide +kernel)
theorem m_495 : (Jvm.Cond.methodLink "Lantern$State" (82 : Nat) ({ cls := "Lantern$Row", name := "isFull", desc := "()Z" } : Jvm.MethodName)) ∈ bw := mw 521 (by decide +kernel) (by decide +kernel)
theorem m_496 : (Jvm.Cond.methodLink "Lantern" (229 : Nat) ({ cls := "Lantern$Program", name := "countTime", desc := "(I)V" } : Jvm.MethodName)) ∈ bw := mw 522 (by decide +kernel) (by decide +kernel)
theorem m_497 : (Jvm.Cond.instanceMethod ({ cls := "Lantern$Program", name := "countTime", desc := "(I)V" } : Jvm.MethodName)) ∈ bw := mw 523 (by decide +kernel) (by decide +kernel)
theorem m_498 : (Jvm.Cond.selects "Lantern$Program" ({ cls := "Lantern$Program", name := "countTime", desc := "(I)V" } : Jvm.MethodName) ({ cls := "Lantern$Program", name := "countTime", desc := "(I)V" } : Jvm.MethodName)) ∈ bw := mw 524 (by decide +kernel) (by decide +kernel)
theorem m_499 : (Jvm.Cond.code ({ cls := "Lantern$Program", name := "countTime", desc := "(I)V" } : Jvm.MethodName) prog_5_method_11_code (2 : Nat) (Option.none : Option Jvm.ClassFile.FieldType)) ∈ bw := mw 525 (by decide +kernel) (by decide +kernel)
theorem m_500 : (Jvm.Cond.methodLink "Lantern" (232 : Nat) ({ cls := "Lantern$Past", name := "newest", desc := "()LLantern$Moment;" } : Jvm.MethodName)) ∈ bw := mw 526 (by decide +kernel) (by decide +kernel)
theorem m_501 : (Jvm.Cond.instanceMethod ({ cls := "Lantern$Past", name := "newest", desc := "()LLantern$Moment;" } : Jvm.MethodName)) ∈ bw := mw 527 (by decide +kernel) (by decide +kernel)
theorem m_502 : (Jvm.Cond.selects "Lantern$Past" ({ cls := "Lantern$Past", name := "newest", desc := "()LLantern$Moment;" } : Jvm.MethodName) ({ cls := "Lantern$Past", name := "newest", desc := "()LLantern$Moment;" } : Jvm.MethodName)) ∈ bw := mw 528 (by decide +kernel) (by decide +kernel)
theorem m_503 : (Jvm.Cond.code ({ cls := "Lantern$Past", name := "newest", desc := "()LLantern$Moment;" } : Jvm.MethodName) prog_3_method_4_code (1 : Nat) (Option.some (Jvm.ClassFile.FieldType.object "Lantern$Moment"))) ∈ bw := mw 529 (by decide +kernel) (by decide +kernel)
theorem m_504 : (Jvm.Cond.methodLink "Lantern" (235 : Nat) ({ cls := "Lantern$State", name := "describe", desc := "(LLantern$Moment;LLantern$Program;)V" } : Jvm.MethodName)) ∈ bw := mw 530 (by decide +kernel) (by decide +kernel)
theorem m_505 : (Jvm.Cond.instanceMethod ({ cls := "Lantern$State", name := "describe", desc := "(LLantern$Moment;LLantern$Program;)V" } : Jvm.MethodName)) ∈ bw := mw 531 (by decide +kernel) (by decide +kernel)
theorem m_506 : (Jvm.Cond.selects "Lantern$State" ({ cls := "Lantern$State", name := "describe", desc := "(LLantern$Moment;LLantern$Program;)V" } : Jvm.MethodName) ({ cls := "Lantern$State", name := "describe", desc := "(LLantern$Moment;LLantern$Program;)V" } : Jvm.MethodName)) ∈ bw := mw 532 (by decide +kernel) (by decide +kernel)
theorem m_507 : (Jvm.Cond.code ({ cls := "Lantern$State", name := "describe", desc := "(LLantern$Moment;LLantern$Program;)V" } : Jvm.MethodName) prog_7_method_14_code (4 : Nat) (Option.none : Option Jvm.ClassFile.FieldType)) ∈ bw := mw 533 (by decide +kernel) (by decide +kernel)
theorem m_508 : (Jvm.Cond.methodLink "Lantern$State" (86 : Nat) ({ cls := "Lantern$Program", name := "numberAt", desc := "(I)I" } : Jvm.MethodName)) ∈ bw := mw 534 (by decide +kernel) (by decide +kernel)
theorem m_509 : (Jvm.Cond.instanceMethod ({ cls := "Lantern$Program", name := "numberAt", desc := "(I)I" } : Jvm.MethodName)) ∈ bw := mw 535 (by decide +kernel) (by decide +kernel)
theorem m_510 : (Jvm.Cond.selects "Lantern$Program" ({ cls := "Lantern$Program", name := "numberAt", desc := "(I)I" } : Jvm.MethodName) ({ cls := "Lantern$Program", name := "numberAt", desc := "(I)I" } : Jvm.MethodName)) ∈ bw := mw 536 (by decide +kernel) (by decide +kernel)
theorem m_511 : (Jvm.Cond.code ({ cls := "Lantern$Program", name := "numberAt", desc := "(I)I" } : Jvm.MethodName) prog_5_method_7_code (2 : Nat) (Option.some Jvm.ClassFile.FieldType.int)) ∈ bw := mw 537 (by decide +kernel) (by decide +kernel)
theorem m_512 : (Jvm.Cond.methodLink "Lantern$State" (102 : Nat) ({ cls := "Lantern$Row", name := "get", desc := "(I)I" } : Jvm.MethodName)) ∈ bw := mw 538 (by decide +kernel) (by decide +kernel)
theorem m_513 : (Jvm.Cond.methodLink "Lantern$State" (149 : Nat) ({ cls := "Lantern$Moment", name := "describeStore", desc := "(III)V" } : Jvm.MethodName)) ∈ bw := mw 539 (by decide +kernel) (by decide +kernel)
theorem m_514 : (Jvm.Cond.instanceMethod ({ cls := "Lantern$Moment", name := "describeStore", desc := "(III)V" } : Jvm.MethodName)) ∈ bw := mw 540 (by decide +kernel) (by decide +kernel)
theorem m_515 : (Jvm.Cond.selects "Lantern$Moment" ({ cls := "Lantern$Moment", name := "describeStore", desc := "(III)V" } : Jvm.MethodName) ({ cls := "Lantern$Moment", name := "describeStore", desc := "(III)V" } : Jvm.MethodName)) ∈ bw := mw 541 (by decide +kernel) (by decide +kernel)
theorem m_516 : (Jvm.Cond.code ({ cls := "Lantern$Moment", name := "describeStore", desc := "(III)V" } : Jvm.MethodName) prog_2_method_2_code (4 : Nat) (Option.none : Option Jvm.ClassFile.FieldType)) ∈ bw := mw 542 (by decide +kernel) (by decide +kernel)
theorem m_517 : (Jvm.Cond.methodLink "Lantern" (239 : Nat) ({ cls := "Lantern$State", name := "perform", desc := "(LLantern$Program;LLantern$Row;)V" } : Jvm.MethodName)) ∈ bw := mw 543 (by decide +kernel) (by decide +kernel)
theorem m_518 : (Jvm.Cond.instanceMethod ({ cls := "Lantern$State", name := "perform", desc := "(LLantern$Program;LLantern$Row;)V" } : Jvm.MethodName)) ∈ bw := mw 544 (by decide +kernel) (by decide +kernel)
theorem m_519 : (Jvm.Cond.selects "Lantern$State" ({ cls := "Lantern$State", name := "perform", desc := "(LLantern$Program;LLantern$Row;)V" } : Jvm.MethodName) ({ cls := "Lantern$State", name := "perform", desc := "(LLantern$Program;LLantern$Row;)V" } : Jvm.MethodName)) ∈ bw := mw 545 (by decide +kernel) (by decide +kernel)
theorem m_520 : (Jvm.Cond.code ({ cls := "Lantern$State", name := "perform", desc := "(LLantern$Program;LLantern$Row;)V" } : Jvm.MethodName) prog_7_method_8_code (6 : Nat) (Option.none : Option Jvm.ClassFile.FieldType)) ∈ bw := mw 546 (by decide +kernel) (by decide +kernel)
theorem m_521 : (Jvm.Cond.methodLink "Lantern$State" (89 : Nat) ({ cls := "Lantern$Row", name := "push", desc := "(I)V" } : Jvm.MethodName)) ∈ bw := mw 547 (by decide +kernel) (by decide +kernel)
theorem m_522 : (Jvm.Cond.methodLink "Lantern$State" (92 : Nat) ({ cls := "Lantern$Row", name := "pop", desc := "()I" } : Jvm.MethodName)) ∈ bw := mw 548 (by decide +kernel) (by decide +kernel)
theorem m_523 : (Jvm.Cond.instanceMethod ({ cls := "Lantern$Row", name := "pop", desc := "()I" } : Jvm.MethodName)) ∈ bw := mw 549 (by decide +kernel) (by decide +kernel)
theorem m_524 : (Jvm.Cond.selects "Lantern$Row" ({ cls := "Lantern$Row", name := "pop", desc := "()I" } : Jvm.MethodName) ({ cls := "Lantern$Row", name := "pop", desc := "()I" } : Jvm.MethodName)) ∈ bw := mw 550 (by decide +kernel) (by decide +kernel)
theorem m_525 : (Jvm.Cond.code ({ cls := "Lantern$Row", name := "pop", desc := "()I" } : Jvm.MethodName) prog_6_method_10_code (1 : Nat) (Option.some Jvm.ClassFile.FieldType.int)) ∈ bw := mw 551 (by decide +kernel) (by decide +kernel)
theorem m_526 : (Jvm.Cond.methodLink "Lantern$State" (95 : Nat) ({ cls := "Lantern$State", name := "swap", desc := "()V" } : Jvm.MethodName)) ∈ bw := mw 552 (by decide +kernel) (by decide +kernel)
theorem m_528 : (Jvm.Cond.instanceMethod ({ cls := "Lantern$State", name := "swap", desc := "()V" } : Jvm.MethodName)) ∈ bw := mw 554 (by decide +kernel) (by decide +kernel)
theorem m_529 : (Jvm.Cond.code ({ cls := "Lantern$State", name := "swap", desc := "()V" } : Jvm.MethodName) prog_7_method_9_code (3 : Nat) (Option.none : Option Jvm.ClassFile.FieldType)) ∈ bw := mw 555 (by decide +kernel) (by decide +kernel)
theorem m_530 : (Jvm.Cond.methodLinkNest "Lantern$State" (98 : Nat) ({ cls := "Lantern", name := "truth", desc := "(Z)I" } : Jvm.MethodName) "Lantern") ∈ bw := mw 556 (by decide +kernel) (by decide +kernel)
theorem m_531 : (Jvm.Cond.static ({ cls := "Lantern", name := "truth", desc := "(Z)I" } : Jvm.MethodName)) ∈ bw := mw 557 (by decide +kernel) (by decide +kernel)
theorem m_532 : (Jvm.Cond.code ({ cls := "Lantern", name := "truth", desc := "(Z)I" } : Jvm.MethodName) prog_1_method_40_code (1 : Nat) (Option.some Jvm.ClassFile.FieldType.int)) ∈ bw := mw 558 (by decide +kernel) (by decide +kernel)
theorem m_533 : (Jvm.Cond.methodLink "Lantern$State" (105 : Nat) ({ cls := "Lantern$Row", name := "put", desc := "(II)V" } : Jvm.MethodName)) ∈ bw := mw 559 (by decide +kernel) (by decide +kernel)
theorem m_534 : (Jvm.Cond.methodLink "Lantern$State" (109 : Nat) ({ cls := "Lantern$State", name := "storeAt", desc := "()V" } : Jvm.MethodName)) ∈ bw := mw 560 (by decide +kernel) (by decide +kernel)
theorem m_536 : (Jvm.Cond.instanceMethod ({ cls := "Lantern$State", name := "storeAt", desc := "()V" } : Jvm.MethodName)) ∈ bw := mw 562 (by decide +kernel) (by decide +kernel)
theorem m_537 : (Jvm.Cond.code ({ cls := "Lantern$State", name := "storeAt", desc := "()V" } : Jvm.MethodName) prog_7_method_10_code (2 : Nat) (Option.none : Option Jvm.ClassFile.FieldType)) ∈ bw := mw 563 (by decide +kernel) (by decide +kernel)
theorem m_538 : (Jvm.Cond.methodLink "Lantern$State" (112 : Nat) ({ cls := "Lantern$State", name := "readFrom", desc := "(LLantern$Row;)I" } : Jvm.MethodName)) ∈ bw := mw 564 (by decide +kernel) (by decide +kernel)
theorem m_540 : (Jvm.Cond.instanceMethod ({ cls := "Lantern$State", name := "readFrom", desc := "(LLantern$Row;)I" } : Jvm.MethodName)) ∈ bw := mw 566 (by decide +kernel) (by decide +kernel)
theorem m_541 : (Jvm.Cond.code ({ cls := "Lantern$State", name := "readFrom", desc := "(LLantern$Row;)I" } : Jvm.MethodName) prog_7_method_11_code (2 : Nat) (Option.some Jvm.ClassFile.FieldType.int)) ∈ bw := mw 567 (by decide +kernel) (by decide +kernel)
theorem m_542 : (Jvm.Cond.methodLink "Lantern$State" (119 : Nat) ({ cls := "Lantern$Row", name := "has", desc := "(I)Z" } : Jvm.MethodName)) ∈ bw := mw 568 (by decide +kernel) (by decide +kernel)
theorem m_543 : (Jvm.Cond.methodLink "Lantern$State" (116 : Nat) ({ cls := "Lantern$State", name := "reckon", desc := "(I)V" } : Jvm.MethodName)) ∈ bw := mw 569 (by decide +kernel) (by decide +kernel)
theorem m_545 : (Jvm.Cond.instanceMethod ({ cls := "Lantern$State", name := "reckon", desc := "(I)V" } : Jvm.MethodName)) ∈ bw := mw 571 (by decide +kernel) (by decide +kernel)
theorem m_546 : (Jvm.Cond.code ({ cls := "Lantern$State", name := "reckon", desc := "(I)V" } : Jvm.MethodName) prog_7_method_12_code (4 : Nat) (Option.none : Option Jvm.ClassFile.FieldType)) ∈ bw := mw 572 (by decide +kernel) (by decide +kernel)
theorem m_547 : (Jvm.Cond.methodLink "Lantern$State" (120 : Nat) ({ cls := "Lantern$State", name := "reckoned", desc := "(III)I" } : Jvm.MethodName)) ∈ bw := mw 573 (by decide +kernel) (by decide +kernel)
theorem m_548 : (Jvm.Cond.static ({ cls := "Lantern$State", name := "reckoned", desc := "(III)I" } : Jvm.MethodName)) ∈ bw := mw 574 (by decide +kernel) (by decide +kernel)
theorem m_549 : (Jvm.Cond.code ({ cls := "Lantern$State", name := "reckoned", desc := "(III)I" } : Jvm.MethodName) prog_7_method_13_code (3 : Nat) (Option.some Jvm.ClassFile.FieldType.int)) ∈ bw := mw 575 (by decide +kernel) (by decide +kernel)
theorem m_550 : (Jvm.Cond.methodLink "Lantern" (219 : Nat) ({ cls := "Lantern", name := "stopsRun", desc := "(I)Z" } : Jvm.MethodName)) ∈ bw := mw 576 (by decide +kernel) (by decide +kernel)
theorem m_552 : (Jvm.Cond.instanceMethod ({ cls := "Lantern", name := "stopsRun", desc := "(I)Z" } : Jvm.MethodName)) ∈ bw := mw 578 (by decide +kernel) (by decide +kernel)
theorem m_553 : (Jvm.Cond.code ({ cls := "Lantern", name := "stopsRun", desc := "(I)Z" } : Jvm.MethodName) prog_1_method_25_code (5 : Nat) (Option.some Jvm.ClassFile.FieldType.boolean)) ∈ bw := mw 579 (by decide +kernel) (by decide +kernel)
theorem m_554 : (Jvm.Cond.methodLink "Lantern" (243 : Nat) ({ cls := "Lantern", name := "watchMet", desc := "()I" } : Jvm.MethodName)) ∈ bw := mw 580 (by decide +kernel) (by decide +kernel)
theorem m_556 : (Jvm.Cond.instanceMethod ({ cls := "Lantern", name := "watchMet", desc := "()I" } : Jvm.MethodName)) ∈ bw := mw 582 (by decide +kernel) (by decide +kernel)
theorem m_557 : (Jvm.Cond.code ({ cls := "Lantern", name := "watchMet", desc := "()I" } : Jvm.MethodName) prog_1_method_26_code (4 : Nat) (Option.some Jvm.ClassFile.FieldType.int)) ∈ bw := mw 583 (by decide +kernel) (by decide +kernel)
theorem m_558 : (Jvm.Cond.methodLink "Lantern" (252 : Nat) ({ cls := "Lantern$Past", name := "ago", desc := "(I)LLantern$Moment;" } : Jvm.MethodName)) ∈ bw := mw 584 (by decide +kernel) (by decide +kernel)
theorem m_559 : (Jvm.Cond.instanceMethod ({ cls := "Lantern$Past", name := "ago", desc := "(I)LLantern$Moment;" } : Jvm.MethodName)) ∈ bw := mw 585 (by decide +kernel) (by decide +kernel)
theorem m_560 : (Jvm.Cond.selects "Lantern$Past" ({ cls := "Lantern$Past", name := "ago", desc := "(I)LLantern$Moment;" } : Jvm.MethodName) ({ cls := "Lantern$Past", name := "ago", desc := "(I)LLantern$Moment;" } : Jvm.MethodName)) ∈ bw := mw 586 (by decide +kernel) (by decide +kernel)
theorem m_561 : (Jvm.Cond.code ({ cls := "Lantern$Past", name := "ago", desc := "(I)LLantern$Moment;" } : Jvm.MethodName) prog_3_method_6_code (2 : Nat) (Option.some (Jvm.ClassFile.FieldType.object "Lantern$Moment"))) ∈ bw := mw 587 (by decide +kernel) (by decide +kernel)
theorem m_562 : (Jvm.Cond.methodLink "Lantern" (256 : Nat) ({ cls := "Lantern", name := "watchNumbered", desc := "(I)LLantern$Watch;" } : Jvm.MethodName)) ∈ bw := mw 588 (by decide +kernel) (by decide +kernel)
theorem m_564 : (Jvm.Cond.instanceMethod ({ cls := "Lantern", name := "watchNumbered", desc := "(I)LLantern$Watch;" } : Jvm.MethodName)) ∈ bw := mw 590 (by decide +kernel) (by decide +kernel)
theorem m_565 : (Jvm.Cond.code ({ cls := "Lantern", name := "watchNumbered", desc := "(I)LLantern$Watch;" } : Jvm.MethodName) prog_1_method_15_code (2 : Nat) (Option.some (Jvm.ClassFile.FieldType.object "Lantern$Watch"))) ∈ bw := mw 591 (by decide +kernel) (by decide +kernel)
theorem m_566 : (Jvm.Cond.methodLink "Lantern" (260 : Nat) ({ cls := "Lantern$Watch", name := "isMetBy", desc := "(LLantern$Moment;)Z" } : Jvm.MethodName)) ∈ bw := mw 592 (by decide +kernel) (by decide +kernel)
theorem m_567 : (Jvm.Cond.instanceMethod ({ cls := "Lantern$Watch", name := "isMetBy", desc := "(LLantern$Moment;)Z" } : Jvm.MethodName)) ∈ bw := mw 593 (by decide +kernel) (by decide +kernel)
theorem m_568 : (Jvm.Cond.selects "Lantern$Watch" ({ cls := "Lantern$Watch", name := "isMetBy", desc := "(LLantern$Moment;)Z" } : Jvm.MethodName) ({ cls := "Lantern$Watch", name := "isMetBy", desc := "(LLantern$Moment;)Z" } : Jvm.MethodName)) ∈ bw := mw 594 (by decide +kernel) (by decide +kernel)
theorem m_569 : (Jvm.Cond.code ({ cls := "Lantern$Watch", name := "isMetBy", desc := "(LLantern$Moment;)Z" } : Jvm.MethodName) prog_9_method_3_code (2 : Nat) (Option.some Jvm.ClassFile.FieldType.boolean)) ∈ bw := mw 595 (by decide +kernel) (by decide +kernel)
theorem m_570 : (Jvm.Cond.methodLink "Lantern$Watch" (21 : Nat) ({ cls := "Lantern$Moment", name := "changed", desc := "(I)Z" } : Jvm.MethodName)) ∈ bw := mw 596 (by decide +kernel) (by decide +kernel)
theorem m_571 : (Jvm.Cond.instanceMethod ({ cls := "Lantern$Moment", name := "changed", desc := "(I)Z" } : Jvm.MethodName)) ∈ bw := mw 597 (by decide +kernel) (by decide +kernel)
theorem m_572 : (Jvm.Cond.selects "Lantern$Moment" ({ cls := "Lantern$Moment", name := "changed", desc := "(I)Z" } : Jvm.MethodName) ({ cls := "Lantern$Moment", name := "changed", desc := "(I)Z" } : Jvm.MethodName)) ∈ bw := mw 598 (by decide +kernel) (by decide +kernel)
theorem m_573 : (Jvm.Cond.code ({ cls := "Lantern$Moment", name := "changed", desc := "(I)Z" } : Jvm.MethodName) prog_2_method_3_code (2 : Nat) (Option.some Jvm.ClassFile.FieldType.boolean)) ∈ bw := mw 599 (by decide +kernel) (by decide +kernel)
theorem m_574 : (Jvm.Cond.methodLink "Lantern" (246 : Nat) ({ cls := "Lantern", name := "pointStopping", desc := "()I" } : Jvm.MethodName)) ∈ bw := mw 600 (by decide +kernel) (by decide +kernel)
theorem m_576 : (Jvm.Cond.instanceMethod ({ cls := "Lantern", name := "pointStopping", desc := "()I" } : Jvm.MethodName)) ∈ bw := mw 602 (by decide +kernel) (by decide +kernel)
theorem m_577 : (Jvm.Cond.code ({ cls := "Lantern", name := "pointStopping", desc := "()I" } : Jvm.MethodName) prog_1_method_27_code (4 : Nat) (Option.some Jvm.ClassFile.FieldType.int)) ∈ bw := mw 603 (by decide +kernel) (by decide +kernel)
theorem m_578 : (Jvm.Cond.methodLink "Lantern" (151 : Nat) ({ cls := "Lantern", name := "pointNumbered", desc := "(I)LLantern$Point;" } : Jvm.MethodName)) ∈ bw := mw 604 (by decide +kernel) (by decide +kernel)
theorem m_580 : (Jvm.Cond.instanceMethod ({ cls := "Lantern", name := "pointNumbered", desc := "(I)LLantern$Point;" } : Jvm.MethodName)) ∈ bw := mw 606 (by decide +kernel) (by decide +kernel)
theorem m_581 : (Jvm.Cond.code ({ cls := "Lantern", name := "pointNumbered", desc := "(I)LLantern$Point;" } : Jvm.MethodName) prog_1_method_14_code (2 : Nat) (Option.some (Jvm.ClassFile.FieldType.object "Lantern$Point"))) ∈ bw := mw 607 (by decide +kernel) (by decide +kernel)
theorem m_582 : (Jvm.Cond.methodLink "Lantern" (263 : Nat) ({ cls := "Lantern$Point", name := "isHit", desc := "(LLantern$State;)Z" } : Jvm.MethodName)) ∈ bw := mw 608 (by decide +kernel) (by decide +kernel)
theorem m_583 : (Jvm.Cond.instanceMethod ({ cls := "Lantern$Point", name := "isHit", desc := "(LLantern$State;)Z" } : Jvm.MethodName)) ∈ bw := mw 609 (by decide +kernel) (by decide +kernel)
theorem m_584 : (Jvm.Cond.selects "Lantern$Point" ({ cls := "Lantern$Point", name := "isHit", desc := "(LLantern$State;)Z" } : Jvm.MethodName) ({ cls := "Lantern$Point", name := "isHit", desc := "(LLantern$State;)Z" } : Jvm.MethodName)) ∈ bw := mw 610 (by decide +kernel) (by decide +kernel)
theorem m_585 : (Jvm.Cond.code ({ cls := "Lantern$Point", name := "isHit", desc := "(LLantern$State;)Z" } : Jvm.MethodName) prog_4_method_3_code (2 : Nat) (Option.some Jvm.ClassFile.FieldType.boolean)) ∈ bw := mw 611 (by decide +kernel) (by decide +kernel)
theorem m_586 : (Jvm.Cond.methodLink "Lantern$Point" (37 : Nat) ({ cls := "Lantern$Row", name := "get", desc := "(I)I" } : Jvm.MethodName)) ∈ bw := mw 612 (by decide +kernel) (by decide +kernel)
theorem m_587 : (Jvm.Cond.methodLink "Lantern$Point" (43 : Nat) ({ cls := "Lantern$Point", name := "holds", desc := "(I)Z" } : Jvm.MethodName)) ∈ bw := mw 613 (by decide +kernel) (by decide +kernel)
theorem m_589 : (Jvm.Cond.instanceMethod ({ cls := "Lantern$Point", name := "holds", desc := "(I)Z" } : Jvm.MethodName)) ∈ bw := mw 615 (by decide +kernel) (by decide +kernel)
theorem m_590 : (Jvm.Cond.code ({ cls := "Lantern$Point", name := "holds", desc := "(I)Z" } : Jvm.MethodName) prog_4_method_4_code (2 : Nat) (Option.some Jvm.ClassFile.FieldType.boolean)) ∈ bw := mw 616 (by decide +kernel) (by decide +kernel)
theorem m_591 : (Jvm.Cond.methodLink "Lantern" (267 : Nat) ({ cls := "Lantern$Point", name := "letsPass", desc := "()Z" } : Jvm.MethodName)) ∈ bw := mw 617 (by decide +kernel) (by decide +kernel)
theorem m_592 : (Jvm.Cond.instanceMethod ({ cls := "Lantern$Point", name := "letsPass", desc := "()Z" } : Jvm.MethodName)) ∈ bw := mw 618 (by decide +kernel) (by decide +kernel)
theorem m_593 : (Jvm.Cond.selects "Lantern$Point" ({ cls := "Lantern$Point", name := "letsPass", desc := "()Z" } : Jvm.MethodName) ({ cls := "Lantern$Point", name := "letsPass", desc := "()Z" } : Jvm.MethodName)) ∈ bw := mw 619 (by decide +kernel) (by decide +kernel)
theorem m_594 : (Jvm.Cond.code ({ cls := "Lantern$Point", name := "letsPass", desc := "()Z" } : Jvm.MethodName) prog_4_method_5_code (1 : Nat) (Option.some Jvm.ClassFile.FieldType.boolean)) ∈ bw := mw 620 (by decide +kernel) (by decide +kernel)
theorem m_595 : (Jvm.Cond.methodLink "LanternLaw" (74 : Nat) ({ cls := "Lantern", name := "back", desc := "(I)I" } : Jvm.MethodName)) ∈ bw := mw 621 (by decide +kernel) (by decide +kernel)
theorem m_596 : (Jvm.Cond.instanceMethod ({ cls := "Lantern", name := "back", desc := "(I)I" } : Jvm.MethodName)) ∈ bw := mw 622 (by decide +kernel) (by decide +kernel)
theorem m_597 : (Jvm.Cond.selects "Lantern" ({ cls := "Lantern", name := "back", desc := "(I)I" } : Jvm.MethodName) ({ cls := "Lantern", name := "back", desc := "(I)I" } : Jvm.MethodName)) ∈ bw := mw 623 (by decide +kernel) (by decide +kernel)
theorem m_598 : (Jvm.Cond.code ({ cls := "Lantern", name := "back", desc := "(I)I" } : Jvm.MethodName) prog_1_method_19_code (3 : Nat) (Option.some Jvm.ClassFile.FieldType.int)) ∈ bw := mw 624 (by decide +kernel) (by decide +kernel)
theorem m_600 : (Jvm.Cond.methodLink "Lantern" (205 : Nat) ({ cls := "Lantern", name := "goBack", desc := "()LLantern$Moment;" } : Jvm.MethodName)) ∈ bw := mw 626 (by decide +kernel) (by decide +kernel)
theorem m_602 : (Jvm.Cond.instanceMethod ({ cls := "Lantern", name := "goBack", desc := "()LLantern$Moment;" } : Jvm.MethodName)) ∈ bw := mw 628 (by decide +kernel) (by decide +kernel)
theorem m_603 : (Jvm.Cond.code ({ cls := "Lantern", name := "goBack", desc := "()LLantern$Moment;" } : Jvm.MethodName) prog_1_method_28_code (2 : Nat) (Option.some (Jvm.ClassFile.FieldType.object "Lantern$Moment"))) ∈ bw := mw 629 (by decide +kernel) (by decide +kernel)
theorem m_604 : (Jvm.Cond.methodLink "Lantern" (270 : Nat) ({ cls := "Lantern$State", name := "goBackTo", desc := "(LLantern$Moment;)V" } : Jvm.MethodName)) ∈ bw := mw 630 (by decide +kernel) (by decide +kernel)
theorem m_605 : (Jvm.Cond.instanceMethod ({ cls := "Lantern$State", name := "goBackTo", desc := "(LLantern$Moment;)V" } : Jvm.MethodName)) ∈ bw := mw 631 (by decide +kernel) (by decide +kernel)
theorem m_606 : (Jvm.Cond.selects "Lantern$State" ({ cls := "Lantern$State", name := "goBackTo", desc := "(LLantern$Moment;)V" } : Jvm.MethodName) ({ cls := "Lantern$State", name := "goBackTo", desc := "(LLantern$Moment;)V" } : Jvm.MethodName)) ∈ bw := mw 632 (by decide +kernel) (by decide +kernel)
theorem m_607 : (Jvm.Cond.code ({ cls := "Lantern$State", name := "goBackTo", desc := "(LLantern$Moment;)V" } : Jvm.MethodName) prog_7_method_15_code (2 : Nat) (Option.none : Option Jvm.ClassFile.FieldType)) ∈ bw := mw 633 (by decide +kernel) (by decide +kernel)
theorem m_608 : (Jvm.Cond.methodLink "Lantern$State" (153 : Nat) ({ cls := "Lantern$Row", name := "putFromTop", desc := "(II)V" } : Jvm.MethodName)) ∈ bw := mw 634 (by decide +kernel) (by decide +kernel)
theorem m_609 : (Jvm.Cond.instanceMethod ({ cls := "Lantern$Row", name := "putFromTop", desc := "(II)V" } : Jvm.MethodName)) ∈ bw := mw 635 (by decide +kernel) (by decide +kernel)
theorem m_610 : (Jvm.Cond.selects "Lantern$Row" ({ cls := "Lantern$Row", name := "putFromTop", desc := "(II)V" } : Jvm.MethodName) ({ cls := "Lantern$Row", name := "putFromTop", desc := "(II)V" } : Jvm.MethodName)) ∈ bw := mw 636 (by decide +kernel) (by decide +kernel)
theorem m_611 : (Jvm.Cond.code ({ cls := "Lantern$Row", name := "putFromTop", desc := "(II)V" } : Jvm.MethodName) prog_6_method_8_code (3 : Nat) (Option.none : Option Jvm.ClassFile.FieldType)) ∈ bw := mw 637 (by decide +kernel) (by decide +kernel)
theorem m_612 : (Jvm.Cond.methodLink "Lantern$Row" (27 : Nat) ({ cls := "Lantern$Row", name := "put", desc := "(II)V" } : Jvm.MethodName)) ∈ bw := mw 638 (by decide +kernel) (by decide +kernel)
theorem m_613 : (Jvm.Cond.methodLink "Lantern" (274 : Nat) ({ cls := "Lantern$Past", name := "dropLatest", desc := "()V" } : Jvm.MethodName)) ∈ bw := mw 639 (by decide +kernel) (by decide +kernel)
theorem m_614 : (Jvm.Cond.instanceMethod ({ cls := "Lantern$Past", name := "dropLatest", desc := "()V" } : Jvm.MethodName)) ∈ bw := mw 640 (by decide +kernel) (by decide +kernel)
theorem m_615 : (Jvm.Cond.selects "Lantern$Past" ({ cls := "Lantern$Past", name := "dropLatest", desc := "()V" } : Jvm.MethodName) ({ cls := "Lantern$Past", name := "dropLatest", desc := "()V" } : Jvm.MethodName)) ∈ bw := mw 641 (by decide +kernel) (by decide +kernel)
theorem m_616 : (Jvm.Cond.code ({ cls := "Lantern$Past", name := "dropLatest", desc := "()V" } : Jvm.MethodName) prog_3_method_5_code (1 : Nat) (Option.none : Option Jvm.ClassFile.FieldType)) ∈ bw := mw 642 (by decide +kernel) (by decide +kernel)
theorem m_617 : (Jvm.Cond.methodLink "LanternLaw" (30 : Nat) ({ cls := "Lantern", name := "told", desc := "(I)I" } : Jvm.MethodName)) ∈ bw := mw 643 (by decide +kernel) (by decide +kernel)
theorem m_618 : (Jvm.Cond.instanceMethod ({ cls := "Lantern", name := "told", desc := "(I)I" } : Jvm.MethodName)) ∈ bw := mw 644 (by decide +kernel) (by decide +kernel)
theorem m_619 : (Jvm.Cond.selects "Lantern" ({ cls := "Lantern", name := "told", desc := "(I)I" } : Jvm.MethodName) ({ cls := "Lantern", name := "told", desc := "(I)I" } : Jvm.MethodName)) ∈ bw := mw 645 (by decide +kernel) (by decide +kernel)
theorem m_620 : (Jvm.Cond.code ({ cls := "Lantern", name := "told", desc := "(I)I" } : Jvm.MethodName) prog_1_method_30_code (2 : Nat) (Option.some Jvm.ClassFile.FieldType.int)) ∈ bw := mw 646 (by decide +kernel) (by decide +kernel)
theorem m_621 : (Jvm.Cond.methodLink "Lantern" (295 : Nat) ({ cls := "Lantern$Past", name := "size", desc := "()I" } : Jvm.MethodName)) ∈ bw := mw 647 (by decide +kernel) (by decide +kernel)
theorem m_622 : (Jvm.Cond.instanceMethod ({ cls := "Lantern$Past", name := "size", desc := "()I" } : Jvm.MethodName)) ∈ bw := mw 648 (by decide +kernel) (by decide +kernel)
theorem m_623 : (Jvm.Cond.selects "Lantern$Past" ({ cls := "Lantern$Past", name := "size", desc := "()I" } : Jvm.MethodName) ({ cls := "Lantern$Past", name := "size", desc := "()I" } : Jvm.MethodName)) ∈ bw := mw 649 (by decide +kernel) (by decide +kernel)
theorem m_624 : (Jvm.Cond.code ({ cls := "Lantern$Past", name := "size", desc := "()I" } : Jvm.MethodName) prog_3_method_2_code (1 : Nat) (Option.some Jvm.ClassFile.FieldType.int)) ∈ bw := mw 650 (by decide +kernel) (by decide +kernel)
theorem m_626 : (Jvm.Cond.methodLink "LanternLaw" (34 : Nat) ({ cls := "Lantern", name := "stack", desc := "(I)I" } : Jvm.MethodName)) ∈ bw := mw 652 (by decide +kernel) (by decide +kernel)
theorem m_627 : (Jvm.Cond.instanceMethod ({ cls := "Lantern", name := "stack", desc := "(I)I" } : Jvm.MethodName)) ∈ bw := mw 653 (by decide +kernel) (by decide +kernel)
theorem m_628 : (Jvm.Cond.selects "Lantern" ({ cls := "Lantern", name := "stack", desc := "(I)I" } : Jvm.MethodName) ({ cls := "Lantern", name := "stack", desc := "(I)I" } : Jvm.MethodName)) ∈ bw := mw 654 (by decide +kernel) (by decide +kernel)
theorem m_629 : (Jvm.Cond.code ({ cls := "Lantern", name := "stack", desc := "(I)I" } : Jvm.MethodName) prog_1_method_31_code (2 : Nat) (Option.some Jvm.ClassFile.FieldType.int)) ∈ bw := mw 655 (by decide +kernel) (by decide +kernel)
theorem m_630 : (Jvm.Cond.methodLink "Lantern" (298 : Nat) ({ cls := "Lantern$Row", name := "has", desc := "(I)Z" } : Jvm.MethodName)) ∈ bw := mw 656 (by decide +kernel) (by decide +kernel)
theorem m_647 : (Jvm.Cond.methodLink "Lantern" (301 : Nat) ({ cls := "Lantern$Row", name := "fromTop", desc := "(I)I" } : Jvm.MethodName)) ∈ bw := mw 673 (by decide +kernel) (by decide +kernel)
theorem m_648 : (Jvm.Cond.methodLink "LanternLaw" (37 : Nat) ({ cls := "Lantern", name := "cell", desc := "(I)I" } : Jvm.MethodName)) ∈ bw := mw 674 (by decide +kernel) (by decide +kernel)
theorem m_649 : (Jvm.Cond.instanceMethod ({ cls := "Lantern", name := "cell", desc := "(I)I" } : Jvm.MethodName)) ∈ bw := mw 675 (by decide +kernel) (by decide +kernel)
theorem m_650 : (Jvm.Cond.selects "Lantern" ({ cls := "Lantern", name := "cell", desc := "(I)I" } : Jvm.MethodName) ({ cls := "Lantern", name := "cell", desc := "(I)I" } : Jvm.MethodName)) ∈ bw := mw 676 (by decide +kernel) (by decide +kernel)
theorem m_651 : (Jvm.Cond.code ({ cls := "Lantern", name := "cell", desc := "(I)I" } : Jvm.MethodName) prog_1_method_32_code (2 : Nat) (Option.some Jvm.ClassFile.FieldType.int)) ∈ bw := mw 677 (by decide +kernel) (by decide +kernel)
theorem m_652 : (Jvm.Cond.methodLink "Lantern" (157 : Nat) ({ cls := "Lantern", name := "isCell", desc := "(I)Z" } : Jvm.MethodName)) ∈ bw := mw 678 (by decide +kernel) (by decide +kernel)
theorem m_654 : (Jvm.Cond.methodLink "Lantern" (309 : Nat) ({ cls := "Lantern$Row", name := "get", desc := "(I)I" } : Jvm.MethodName)) ∈ bw := mw 680 (by decide +kernel) (by decide +kernel)
theorem m_655 : (Jvm.Cond.methodLink "LanternLaw" (84 : Nat) ({ cls := "Lantern", name := "ofStep", desc := "(II)I" } : Jvm.MethodName)) ∈ bw := mw 681 (by decide +kernel) (by decide +kernel)
theorem m_656 : (Jvm.Cond.instanceMethod ({ cls := "Lantern", name := "ofStep", desc := "(II)I" } : Jvm.MethodName)) ∈ bw := mw 682 (by decide +kernel) (by decide +kernel)
theorem m_657 : (Jvm.Cond.selects "Lantern" ({ cls := "Lantern", name := "ofStep", desc := "(II)I" } : Jvm.MethodName) ({ cls := "Lantern", name := "ofStep", desc := "(II)I" } : Jvm.MethodName)) ∈ bw := mw 683 (by decide +kernel) (by decide +kernel)
theorem m_658 : (Jvm.Cond.code ({ cls := "Lantern", name := "ofStep", desc := "(II)I" } : Jvm.MethodName) prog_1_method_35_code (3 : Nat) (Option.some Jvm.ClassFile.FieldType.int)) ∈ bw := mw 684 (by decide +kernel) (by decide +kernel)
theorem m_659 : (Jvm.Cond.methodLink "Lantern" (101 : Nat) ({ cls := "Lantern$Program", name := "has", desc := "(I)Z" } : Jvm.MethodName)) ∈ bw := mw 685 (by decide +kernel) (by decide +kernel)
theorem m_661 : (Jvm.Cond.methodLink "Lantern" (110 : Nat) ({ cls := "Lantern$Program", name := "codeAt", desc := "(I)I" } : Jvm.MethodName)) ∈ bw := mw 687 (by decide +kernel) (by decide +kernel)
theorem m_662 : (Jvm.Cond.methodLink "Lantern" (316 : Nat) ({ cls := "Lantern$Program", name := "numberAt", desc := "(I)I" } : Jvm.MethodName)) ∈ bw := mw 688 (by decide +kernel) (by decide +kernel)
theorem m_663 : (Jvm.Cond.methodLink "Lantern" (319 : Nat) ({ cls := "Lantern$Program", name := "timesAt", desc := "(I)I" } : Jvm.MethodName)) ∈ bw := mw 689 (by decide +kernel) (by decide +kernel)
theorem m_664 : (Jvm.Cond.instanceMethod ({ cls := "Lantern$Program", name := "timesAt", desc := "(I)I" } : Jvm.MethodName)) ∈ bw := mw 690 (by decide +kernel) (by decide +kernel)
theorem m_665 : (Jvm.Cond.selects "Lantern$Program" ({ cls := "Lantern$Program", name := "timesAt", desc := "(I)I" } : Jvm.MethodName) ({ cls := "Lantern$Program", name := "timesAt", desc := "(I)I" } : Jvm.MethodName)) ∈ bw := mw 691 (by decide +kernel) (by decide +kernel)
theorem m_666 : (Jvm.Cond.code ({ cls := "Lantern$Program", name := "timesAt", desc := "(I)I" } : Jvm.MethodName) prog_5_method_8_code (2 : Nat) (Option.some Jvm.ClassFile.FieldType.int)) ∈ bw := mw 692 (by decide +kernel) (by decide +kernel)
theorem m_668 : (Jvm.Cond.methodLink "LanternLaw" (107 : Nat) ({ cls := "Lantern", name := "ofPoint", desc := "(II)I" } : Jvm.MethodName)) ∈ bw := mw 694 (by decide +kernel) (by decide +kernel)
theorem m_669 : (Jvm.Cond.instanceMethod ({ cls := "Lantern", name := "ofPoint", desc := "(II)I" } : Jvm.MethodName)) ∈ bw := mw 695 (by decide +kernel) (by decide +kernel)
theorem m_670 : (Jvm.Cond.selects "Lantern" ({ cls := "Lantern", name := "ofPoint", desc := "(II)I" } : Jvm.MethodName) ({ cls := "Lantern", name := "ofPoint", desc := "(II)I" } : Jvm.MethodName)) ∈ bw := mw 696 (by decide +kernel) (by decide +kernel)
theorem m_671 : (Jvm.Cond.code ({ cls := "Lantern", name := "ofPoint", desc := "(II)I" } : Jvm.MethodName) prog_1_method_36_code (4 : Nat) (Option.some Jvm.ClassFile.FieldType.int)) ∈ bw := mw 697 (by decide +kernel) (by decide +kernel)
theorem m_673 : (Jvm.Cond.methodLink "Lantern" (327 : Nat) ({ cls := "Lantern", name := "truth", desc := "(Z)I" } : Jvm.MethodName)) ∈ bw := mw 699 (by decide +kernel) (by decide +kernel)
theorem m_675 : (Jvm.Cond.methodLink "LanternLaw" (81 : Nat) ({ cls := "Lantern", name := "then", desc := "(II)I" } : Jvm.MethodName)) ∈ bw := mw 701 (by decide +kernel) (by decide +kernel)
theorem m_676 : (Jvm.Cond.instanceMethod ({ cls := "Lantern", name := "then", desc := "(II)I" } : Jvm.MethodName)) ∈ bw := mw 702 (by decide +kernel) (by decide +kernel)
theorem m_677 : (Jvm.Cond.selects "Lantern" ({ cls := "Lantern", name := "then", desc := "(II)I" } : Jvm.MethodName) ({ cls := "Lantern", name := "then", desc := "(II)I" } : Jvm.MethodName)) ∈ bw := mw 703 (by decide +kernel) (by decide +kernel)
theorem m_678 : (Jvm.Cond.code ({ cls := "Lantern", name := "then", desc := "(II)I" } : Jvm.MethodName) prog_1_method_37_code (4 : Nat) (Option.some Jvm.ClassFile.FieldType.int)) ∈ bw := mw 704 (by decide +kernel) (by decide +kernel)
theorem m_681 : (Jvm.Cond.methodLink "Lantern" (337 : Nat) ({ cls := "Lantern$Past", name := "cellAgo", desc := "(III)I" } : Jvm.MethodName)) ∈ bw := mw 707 (by decide +kernel) (by decide +kernel)
theorem m_682 : (Jvm.Cond.instanceMethod ({ cls := "Lantern$Past", name := "cellAgo", desc := "(III)I" } : Jvm.MethodName)) ∈ bw := mw 708 (by decide +kernel) (by decide +kernel)
theorem m_683 : (Jvm.Cond.selects "Lantern$Past" ({ cls := "Lantern$Past", name := "cellAgo", desc := "(III)I" } : Jvm.MethodName) ({ cls := "Lantern$Past", name := "cellAgo", desc := "(III)I" } : Jvm.MethodName)) ∈ bw := mw 709 (by decide +kernel) (by decide +kernel)
theorem m_684 : (Jvm.Cond.code ({ cls := "Lantern$Past", name := "cellAgo", desc := "(III)I" } : Jvm.MethodName) prog_3_method_8_code (7 : Nat) (Option.some Jvm.ClassFile.FieldType.int)) ∈ bw := mw 710 (by decide +kernel) (by decide +kernel)
theorem m_685 : (Jvm.Cond.methodLink "Lantern$Past" (25 : Nat) ({ cls := "Lantern$Past", name := "ago", desc := "(I)LLantern$Moment;" } : Jvm.MethodName)) ∈ bw := mw 711 (by decide +kernel) (by decide +kernel)
theorem m_686 : (Jvm.Cond.methodLink "Lantern" (341 : Nat) ({ cls := "Lantern", name := "ofNow", desc := "(I)I" } : Jvm.MethodName)) ∈ bw := mw 712 (by decide +kernel) (by decide +kernel)
theorem m_688 : (Jvm.Cond.instanceMethod ({ cls := "Lantern", name := "ofNow", desc := "(I)I" } : Jvm.MethodName)) ∈ bw := mw 714 (by decide +kernel) (by decide +kernel)
theorem m_689 : (Jvm.Cond.code ({ cls := "Lantern", name := "ofNow", desc := "(I)I" } : Jvm.MethodName) prog_1_method_39_code (2 : Nat) (Option.some Jvm.ClassFile.FieldType.int)) ∈ bw := mw 715 (by decide +kernel) (by decide +kernel)
theorem m_690 : (Jvm.Cond.methodLink "Lantern" (344 : Nat) ({ cls := "Lantern$Moment", name := "tellOf", desc := "(I)I" } : Jvm.MethodName)) ∈ bw := mw 716 (by decide +kernel) (by decide +kernel)
theorem m_691 : (Jvm.Cond.instanceMethod ({ cls := "Lantern$Moment", name := "tellOf", desc := "(I)I" } : Jvm.MethodName)) ∈ bw := mw 717 (by decide +kernel) (by decide +kernel)
theorem m_692 : (Jvm.Cond.selects "Lantern$Moment" ({ cls := "Lantern$Moment", name := "tellOf", desc := "(I)I" } : Jvm.MethodName) ({ cls := "Lantern$Moment", name := "tellOf", desc := "(I)I" } : Jvm.MethodName)) ∈ bw := mw 718 (by decide +kernel) (by decide +kernel)
theorem m_693 : (Jvm.Cond.code ({ cls := "Lantern$Moment", name := "tellOf", desc := "(I)I" } : Jvm.MethodName) prog_2_method_4_code (2 : Nat) (Option.some Jvm.ClassFile.FieldType.int)) ∈ bw := mw 719 (by decide +kernel) (by decide +kernel)
theorem m_694 : (Jvm.Cond.methodLink "LanternLaw" (39 : Nat) ({ cls := "Lantern", name := "wroteAgo", desc := "(I)I" } : Jvm.MethodName)) ∈ bw := mw 720 (by decide +kernel) (by decide +kernel)
theorem m_695 : (Jvm.Cond.instanceMethod ({ cls := "Lantern", name := "wroteAgo", desc := "(I)I" } : Jvm.MethodName)) ∈ bw := mw 721 (by decide +kernel) (by decide +kernel)
theorem m_696 : (Jvm.Cond.selects "Lantern" ({ cls := "Lantern", name := "wroteAgo", desc := "(I)I" } : Jvm.MethodName) ({ cls := "Lantern", name := "wroteAgo", desc := "(I)I" } : Jvm.MethodName)) ∈ bw := mw 722 (by decide +kernel) (by decide +kernel)
theorem m_697 : (Jvm.Cond.code ({ cls := "Lantern", name := "wroteAgo", desc := "(I)I" } : Jvm.MethodName) prog_1_method_38_code (2 : Nat) (Option.some Jvm.ClassFile.FieldType.int)) ∈ bw := mw 723 (by decide +kernel) (by decide +kernel)
theorem m_698 : (Jvm.Cond.methodLink "Lantern" (347 : Nat) ({ cls := "Lantern$Past", name := "storedAgo", desc := "(I)I" } : Jvm.MethodName)) ∈ bw := mw 724 (by decide +kernel) (by decide +kernel)
theorem m_699 : (Jvm.Cond.instanceMethod ({ cls := "Lantern$Past", name := "storedAgo", desc := "(I)I" } : Jvm.MethodName)) ∈ bw := mw 725 (by decide +kernel) (by decide +kernel)
theorem m_700 : (Jvm.Cond.selects "Lantern$Past" ({ cls := "Lantern$Past", name := "storedAgo", desc := "(I)I" } : Jvm.MethodName) ({ cls := "Lantern$Past", name := "storedAgo", desc := "(I)I" } : Jvm.MethodName)) ∈ bw := mw 726 (by decide +kernel) (by decide +kernel)
theorem m_701 : (Jvm.Cond.code ({ cls := "Lantern$Past", name := "storedAgo", desc := "(I)I" } : Jvm.MethodName) prog_3_method_9_code (4 : Nat) (Option.some Jvm.ClassFile.FieldType.int)) ∈ bw := mw 727 (by decide +kernel) (by decide +kernel)
theorem m_702 : (Jvm.Cond.methodLink "LanternLaw" (91 : Nat) ({ cls := "Lantern", name := "record", desc := "(I)I" } : Jvm.MethodName)) ∈ bw := mw 728 (by decide +kernel) (by decide +kernel)
theorem m_703 : (Jvm.Cond.instanceMethod ({ cls := "Lantern", name := "record", desc := "(I)I" } : Jvm.MethodName)) ∈ bw := mw 729 (by decide +kernel) (by decide +kernel)
theorem m_704 : (Jvm.Cond.selects "Lantern" ({ cls := "Lantern", name := "record", desc := "(I)I" } : Jvm.MethodName) ({ cls := "Lantern", name := "record", desc := "(I)I" } : Jvm.MethodName)) ∈ bw := mw 730 (by decide +kernel) (by decide +kernel)
theorem m_705 : (Jvm.Cond.code ({ cls := "Lantern", name := "record", desc := "(I)I" } : Jvm.MethodName) prog_1_method_41_code (3 : Nat) (Option.some Jvm.ClassFile.FieldType.int)) ∈ bw := mw 731 (by decide +kernel) (by decide +kernel)
theorem m_706 : (Jvm.Cond.methodLink "Lantern" (350 : Nat) ({ cls := "Lantern", name := "tapeAt", desc := "(I)LLantern$Tape;" } : Jvm.MethodName)) ∈ bw := mw 732 (by decide +kernel) (by decide +kernel)
theorem m_708 : (Jvm.Cond.instanceMethod ({ cls := "Lantern", name := "tapeAt", desc := "(I)LLantern$Tape;" } : Jvm.MethodName)) ∈ bw := mw 734 (by decide +kernel) (by decide +kernel)
theorem m_709 : (Jvm.Cond.code ({ cls := "Lantern", name := "tapeAt", desc := "(I)LLantern$Tape;" } : Jvm.MethodName) prog_1_method_44_code (2 : Nat) (Option.some (Jvm.ClassFile.FieldType.object "Lantern$Tape"))) ∈ bw := mw 735 (by decide +kernel) (by decide +kernel)
theorem m_711 : (Jvm.Cond.methodLink "Lantern" (356 : Nat) ({ cls := "Lantern", name := "beginsAtStart", desc := "()Z" } : Jvm.MethodName)) ∈ bw := mw 737 (by decide +kernel) (by decide +kernel)
theorem m_713 : (Jvm.Cond.instanceMethod ({ cls := "Lantern", name := "beginsAtStart", desc := "()Z" } : Jvm.MethodName)) ∈ bw := mw 739 (by decide +kernel) (by decide +kernel)
theorem m_714 : (Jvm.Cond.code ({ cls := "Lantern", name := "beginsAtStart", desc := "()Z" } : Jvm.MethodName) prog_1_method_45_code (1 : Nat) (Option.some Jvm.ClassFile.FieldType.boolean)) ∈ bw := mw 740 (by decide +kernel) (by decide +kernel)
theorem m_716 : (Jvm.Cond.methodLink "Lantern" (365 : Nat) ({ cls := "Lantern$Row", name := "copyFrom", desc := "(LLantern$Row;)V" } : Jvm.MethodName)) ∈ bw := mw 742 (by decide +kernel) (by decide +kernel)
theorem m_717 : (Jvm.Cond.instanceMethod ({ cls := "Lantern$Row", name := "copyFrom", desc := "(LLantern$Row;)V" } : Jvm.MethodName)) ∈ bw := mw 743 (by decide +kernel) (by decide +kernel)
theorem m_718 : (Jvm.Cond.selects "Lantern$Row" ({ cls := "Lantern$Row", name := "copyFrom", desc := "(LLantern$Row;)V" } : Jvm.MethodName) ({ cls := "Lantern$Row", name := "copyFrom", desc := "(LLantern$Row;)V" } : Jvm.MethodName)) ∈ bw := mw 744 (by decide +kernel) (by decide +kernel)
theorem m_719 : (Jvm.Cond.code ({ cls := "Lantern$Row", name := "copyFrom", desc := "(LLantern$Row;)V" } : Jvm.MethodName) prog_6_method_13_code (2 : Nat) (Option.none : Option Jvm.ClassFile.FieldType)) ∈ bw := mw 745 (by decide +kernel) (by decide +kernel)
theorem m_720 : (Jvm.Cond.methodLink "Lantern$Row" (34 : Nat) ({ cls := "Lantern$Row", name := "resize", desc := "(I)V" } : Jvm.MethodName)) ∈ bw := mw 746 (by decide +kernel) (by decide +kernel)
theorem m_721 : (Jvm.Cond.methodLink "Lantern$Row" (38 : Nat) ({ cls := "java/lang/System", name := "arraycopy", desc := "(Ljava/lang/Object;ILjava/lang/Object;II)V" } : Jvm.MethodName)) ∈ bw := mw 747 (by decide +kernel) (by decide +kernel)
theorem m_722 : (Jvm.Cond.static ({ cls := "java/lang/System", name := "arraycopy", desc := "(Ljava/lang/Object;ILjava/lang/Object;II)V" } : Jvm.MethodName)) ∈ bw := mw 748 (by decide +kernel) (by decide +kernel)
theorem m_723 : (Jvm.Cond.native ({ cls := "java/lang/System", name := "arraycopy", desc := "(Ljava/lang/Object;ILjava/lang/Object;II)V" } : Jvm.MethodName)) ∈ bw := mw 749 (by decide +kernel) (by decide +kernel)
theorem m_724 : (Jvm.Cond.methodLink "Lantern" (372 : Nat) ({ cls := "Lantern$Past", name := "writeSteps", desc := "(LLantern$Row;)V" } : Jvm.MethodName)) ∈ bw := mw 750 (by decide +kernel) (by decide +kernel)
theorem m_725 : (Jvm.Cond.instanceMethod ({ cls := "Lantern$Past", name := "writeSteps", desc := "(LLantern$Row;)V" } : Jvm.MethodName)) ∈ bw := mw 751 (by decide +kernel) (by decide +kernel)
theorem m_726 : (Jvm.Cond.selects "Lantern$Past" ({ cls := "Lantern$Past", name := "writeSteps", desc := "(LLantern$Row;)V" } : Jvm.MethodName) ({ cls := "Lantern$Past", name := "writeSteps", desc := "(LLantern$Row;)V" } : Jvm.MethodName)) ∈ bw := mw 752 (by decide +kernel) (by decide +kernel)
theorem m_727 : (Jvm.Cond.code ({ cls := "Lantern$Past", name := "writeSteps", desc := "(LLantern$Row;)V" } : Jvm.MethodName) prog_3_method_10_code (3 : Nat) (Option.none : Option Jvm.ClassFile.FieldType)) ∈ bw := mw 753 (by decide +kernel) (by decide +kernel)
theorem m_728 : (Jvm.Cond.methodLink "Lantern$Past" (38 : Nat) ({ cls := "Lantern$Row", name := "resize", desc := "(I)V" } : Jvm.MethodName)) ∈ bw := mw 754 (by decide +kernel) (by decide +kernel)
theorem m_729 : (Jvm.Cond.methodLink "Lantern$Past" (44 : Nat) ({ cls := "Lantern$Past", name := "stepAt", desc := "(I)I" } : Jvm.MethodName)) ∈ bw := mw 755 (by decide +kernel) (by decide +kernel)
theorem m_731 : (Jvm.Cond.instanceMethod ({ cls := "Lantern$Past", name := "stepAt", desc := "(I)I" } : Jvm.MethodName)) ∈ bw := mw 757 (by decide +kernel) (by decide +kernel)
theorem m_732 : (Jvm.Cond.code ({ cls := "Lantern$Past", name := "stepAt", desc := "(I)I" } : Jvm.MethodName) prog_3_method_7_code (3 : Nat) (Option.some Jvm.ClassFile.FieldType.int)) ∈ bw := mw 758 (by decide +kernel) (by decide +kernel)
theorem m_733 : (Jvm.Cond.methodLink "Lantern$Past" (48 : Nat) ({ cls := "Lantern$Row", name := "push", desc := "(I)V" } : Jvm.MethodName)) ∈ bw := mw 759 (by decide +kernel) (by decide +kernel)
theorem m_734 : (Jvm.Cond.methodLink "LanternLaw" (97 : Nat) ({ cls := "Lantern", name := "replay", desc := "(I)I" } : Jvm.MethodName)) ∈ bw := mw 760 (by decide +kernel) (by decide +kernel)
theorem m_735 : (Jvm.Cond.instanceMethod ({ cls := "Lantern", name := "replay", desc := "(I)I" } : Jvm.MethodName)) ∈ bw := mw 761 (by decide +kernel) (by decide +kernel)
theorem m_736 : (Jvm.Cond.selects "Lantern" ({ cls := "Lantern", name := "replay", desc := "(I)I" } : Jvm.MethodName) ({ cls := "Lantern", name := "replay", desc := "(I)I" } : Jvm.MethodName)) ∈ bw := mw 762 (by decide +kernel) (by decide +kernel)
theorem m_737 : (Jvm.Cond.code ({ cls := "Lantern", name := "replay", desc := "(I)I" } : Jvm.MethodName) prog_1_method_42_code (4 : Nat) (Option.some Jvm.ClassFile.FieldType.int)) ∈ bw := mw 763 (by decide +kernel) (by decide +kernel)
theorem m_739 : (Jvm.Cond.methodLink "LanternLaw" (94 : Nat) ({ cls := "Lantern", name := "parts", desc := "(I)I" } : Jvm.MethodName)) ∈ bw := mw 765 (by decide +kernel) (by decide +kernel)
theorem m_740 : (Jvm.Cond.instanceMethod ({ cls := "Lantern", name := "parts", desc := "(I)I" } : Jvm.MethodName)) ∈ bw := mw 766 (by decide +kernel) (by decide +kernel)
theorem m_741 : (Jvm.Cond.selects "Lantern" ({ cls := "Lantern", name := "parts", desc := "(I)I" } : Jvm.MethodName) ({ cls := "Lantern", name := "parts", desc := "(I)I" } : Jvm.MethodName)) ∈ bw := mw 767 (by decide +kernel) (by decide +kernel)
theorem m_742 : (Jvm.Cond.code ({ cls := "Lantern", name := "parts", desc := "(I)I" } : Jvm.MethodName) prog_1_method_43_code (3 : Nat) (Option.some Jvm.ClassFile.FieldType.int)) ∈ bw := mw 768 (by decide +kernel) (by decide +kernel)
theorem m_744 : (Jvm.Cond.methodLink "Lantern" (379 : Nat) ({ cls := "Lantern$Past", name := "firstOther", desc := "(LLantern$Row;)I" } : Jvm.MethodName)) ∈ bw := mw 770 (by decide +kernel) (by decide +kernel)
theorem m_745 : (Jvm.Cond.instanceMethod ({ cls := "Lantern$Past", name := "firstOther", desc := "(LLantern$Row;)I" } : Jvm.MethodName)) ∈ bw := mw 771 (by decide +kernel) (by decide +kernel)
theorem m_746 : (Jvm.Cond.selects "Lantern$Past" ({ cls := "Lantern$Past", name := "firstOther", desc := "(LLantern$Row;)I" } : Jvm.MethodName) ({ cls := "Lantern$Past", name := "firstOther", desc := "(LLantern$Row;)I" } : Jvm.MethodName)) ∈ bw := mw 772 (by decide +kernel) (by decide +kernel)
theorem m_747 : (Jvm.Cond.code ({ cls := "Lantern$Past", name := "firstOther", desc := "(LLantern$Row;)I" } : Jvm.MethodName) prog_3_method_11_code (4 : Nat) (Option.some Jvm.ClassFile.FieldType.int)) ∈ bw := mw 773 (by decide +kernel) (by decide +kernel)
theorem m_748 : (Jvm.Cond.methodLink "Lantern$Past" (51 : Nat) ({ cls := "Lantern$Row", name := "size", desc := "()I" } : Jvm.MethodName)) ∈ bw := mw 774 (by decide +kernel) (by decide +kernel)
theorem m_749 : (Jvm.Cond.methodLink "Lantern$Past" (55 : Nat) ({ cls := "java/lang/Math", name := "min", desc := "(II)I" } : Jvm.MethodName)) ∈ bw := mw 775 (by decide +kernel) (by decide +kernel)
theorem m_750 : (Jvm.Cond.methodLink "Lantern$Past" (61 : Nat) ({ cls := "Lantern$Row", name := "get", desc := "(I)I" } : Jvm.MethodName)) ∈ bw := mw 776 (by decide +kernel) (by decide +kernel)
theorem m_751 : (Jvm.Cond.methodLink "LanternLaw" (56 : Nat) ({ cls := "Lantern", name := "endsIn", desc := "(I)I" } : Jvm.MethodName)) ∈ bw := mw 777 (by decide +kernel) (by decide +kernel)
theorem m_752 : (Jvm.Cond.instanceMethod ({ cls := "Lantern", name := "endsIn", desc := "(I)I" } : Jvm.MethodName)) ∈ bw := mw 778 (by decide +kernel) (by decide +kernel)
theorem m_753 : (Jvm.Cond.selects "Lantern" ({ cls := "Lantern", name := "endsIn", desc := "(I)I" } : Jvm.MethodName) ({ cls := "Lantern", name := "endsIn", desc := "(I)I" } : Jvm.MethodName)) ∈ bw := mw 779 (by decide +kernel) (by decide +kernel)
theorem m_754 : (Jvm.Cond.code ({ cls := "Lantern", name := "endsIn", desc := "(I)I" } : Jvm.MethodName) prog_1_method_46_code (3 : Nat) (Option.some Jvm.ClassFile.FieldType.int)) ∈ bw := mw 780 (by decide +kernel) (by decide +kernel)
theorem m_755 : (Jvm.Cond.methodLink "Lantern" (383 : Nat) ({ cls := "Lantern$State", name := "copyFrom", desc := "(LLantern$State;)V" } : Jvm.MethodName)) ∈ bw := mw 781 (by decide +kernel) (by decide +kernel)
theorem m_756 : (Jvm.Cond.instanceMethod ({ cls := "Lantern$State", name := "copyFrom", desc := "(LLantern$State;)V" } : Jvm.MethodName)) ∈ bw := mw 782 (by decide +kernel) (by decide +kernel)
theorem m_757 : (Jvm.Cond.selects "Lantern$State" ({ cls := "Lantern$State", name := "copyFrom", desc := "(LLantern$State;)V" } : Jvm.MethodName) ({ cls := "Lantern$State", name := "copyFrom", desc := "(LLantern$State;)V" } : Jvm.MethodName)) ∈ bw := mw 783 (by decide +kernel) (by decide +kernel)
theorem m_758 : (Jvm.Cond.code ({ cls := "Lantern$State", name := "copyFrom", desc := "(LLantern$State;)V" } : Jvm.MethodName) prog_7_method_3_code (2 : Nat) (Option.none : Option Jvm.ClassFile.FieldType)) ∈ bw := mw 784 (by decide +kernel) (by decide +kernel)
theorem m_759 : (Jvm.Cond.methodLink "Lantern$State" (48 : Nat) ({ cls := "Lantern$Row", name := "copyFrom", desc := "(LLantern$Row;)V" } : Jvm.MethodName)) ∈ bw := mw 785 (by decide +kernel) (by decide +kernel)
theorem m_760 : (Jvm.Cond.methodLink "Lantern" (386 : Nat) ({ cls := "Lantern", name := "tryOut", desc := "(ILLantern$Row;)I" } : Jvm.MethodName)) ∈ bw := mw 786 (by decide +kernel) (by decide +kernel)
theorem m_762 : (Jvm.Cond.instanceMethod ({ cls := "Lantern", name := "tryOut", desc := "(ILLantern$Row;)I" } : Jvm.MethodName)) ∈ bw := mw 788 (by decide +kernel) (by decide +kernel)
theorem m_763 : (Jvm.Cond.code ({ cls := "Lantern", name := "tryOut", desc := "(ILLantern$Row;)I" } : Jvm.MethodName) prog_1_method_51_code (4 : Nat) (Option.some Jvm.ClassFile.FieldType.int)) ∈ bw := mw 789 (by decide +kernel) (by decide +kernel)
theorem m_764 : (Jvm.Cond.methodLink "LanternLaw" (59 : Nat) ({ cls := "Lantern", name := "cellIn", desc := "(II)I" } : Jvm.MethodName)) ∈ bw := mw 790 (by decide +kernel) (by decide +kernel)
theorem m_765 : (Jvm.Cond.instanceMethod ({ cls := "Lantern", name := "cellIn", desc := "(II)I" } : Jvm.MethodName)) ∈ bw := mw 791 (by decide +kernel) (by decide +kernel)
theorem m_766 : (Jvm.Cond.selects "Lantern" ({ cls := "Lantern", name := "cellIn", desc := "(II)I" } : Jvm.MethodName) ({ cls := "Lantern", name := "cellIn", desc := "(II)I" } : Jvm.MethodName)) ∈ bw := mw 792 (by decide +kernel) (by decide +kernel)
theorem m_767 : (Jvm.Cond.code ({ cls := "Lantern", name := "cellIn", desc := "(II)I" } : Jvm.MethodName) prog_1_method_47_code (3 : Nat) (Option.some Jvm.ClassFile.FieldType.int)) ∈ bw := mw 793 (by decide +kernel) (by decide +kernel)
theorem m_768 : (Jvm.Cond.methodLink "LanternLaw" (87 : Nat) ({ cls := "Lantern", name := "heat", desc := "()D" } : Jvm.MethodName)) ∈ bw := mw 794 (by decide +kernel) (by decide +kernel)
theorem m_769 : (Jvm.Cond.instanceMethod ({ cls := "Lantern", name := "heat", desc := "()D" } : Jvm.MethodName)) ∈ bw := mw 795 (by decide +kernel) (by decide +kernel)
theorem m_770 : (Jvm.Cond.selects "Lantern" ({ cls := "Lantern", name := "heat", desc := "()D" } : Jvm.MethodName) ({ cls := "Lantern", name := "heat", desc := "()D" } : Jvm.MethodName)) ∈ bw := mw 796 (by decide +kernel) (by decide +kernel)
theorem m_771 : (Jvm.Cond.code ({ cls := "Lantern", name := "heat", desc := "()D" } : Jvm.MethodName) prog_1_method_49_code (4 : Nat) (Option.some Jvm.ClassFile.FieldType.double)) ∈ bw := mw 797 (by decide +kernel) (by decide +kernel)
theorem m_772 : (Jvm.Cond.methodLink "LanternLaw" (77 : Nat) ({ cls := "Lantern", name := "digest", desc := "()J" } : Jvm.MethodName)) ∈ bw := mw 798 (by decide +kernel) (by decide +kernel)
theorem m_773 : (Jvm.Cond.instanceMethod ({ cls := "Lantern", name := "digest", desc := "()J" } : Jvm.MethodName)) ∈ bw := mw 799 (by decide +kernel) (by decide +kernel)
theorem m_774 : (Jvm.Cond.selects "Lantern" ({ cls := "Lantern", name := "digest", desc := "()J" } : Jvm.MethodName) ({ cls := "Lantern", name := "digest", desc := "()J" } : Jvm.MethodName)) ∈ bw := mw 800 (by decide +kernel) (by decide +kernel)
theorem m_775 : (Jvm.Cond.code ({ cls := "Lantern", name := "digest", desc := "()J" } : Jvm.MethodName) prog_1_method_50_code (4 : Nat) (Option.some Jvm.ClassFile.FieldType.long)) ∈ bw := mw 801 (by decide +kernel) (by decide +kernel)
theorem m_776 : (Jvm.Cond.constantLong "Lantern" (398 : Nat) (58068 : Int64)) ∈ bw := mw 802 (by decide +kernel) (by decide +kernel)
theorem m_777 : (Jvm.Cond.methodLink "Lantern" (400 : Nat) ({ cls := "Lantern", name := "told", desc := "(I)I" } : Jvm.MethodName)) ∈ bw := mw 803 (by decide +kernel) (by decide +kernel)
theorem m_778 : (Jvm.Cond.methodLink "Lantern" (403 : Nat) ({ cls := "Lantern", name := "mixed", desc := "(JI)J" } : Jvm.MethodName)) ∈ bw := mw 804 (by decide +kernel) (by decide +kernel)
theorem m_779 : (Jvm.Cond.static ({ cls := "Lantern", name := "mixed", desc := "(JI)J" } : Jvm.MethodName)) ∈ bw := mw 805 (by decide +kernel) (by decide +kernel)
theorem m_780 : (Jvm.Cond.code ({ cls := "Lantern", name := "mixed", desc := "(JI)J" } : Jvm.MethodName) prog_1_method_52_code (3 : Nat) (Option.some Jvm.ClassFile.FieldType.long)) ∈ bw := mw 806 (by decide +kernel) (by decide +kernel)
theorem m_781 : (Jvm.Cond.constantLong "Lantern" (423 : Nat) (31 : Int64)) ∈ bw := mw 807 (by decide +kernel) (by decide +kernel)
theorem m_782 : (Jvm.Cond.methodLink "Lantern" (407 : Nat) ({ cls := "Lantern$State", name := "mixedInto", desc := "(J)J" } : Jvm.MethodName)) ∈ bw := mw 808 (by decide +kernel) (by decide +kernel)
theorem m_783 : (Jvm.Cond.instanceMethod ({ cls := "Lantern$State", name := "mixedInto", desc := "(J)J" } : Jvm.MethodName)) ∈ bw := mw 809 (by decide +kernel) (by decide +kernel)
theorem m_784 : (Jvm.Cond.selects "Lantern$State" ({ cls := "Lantern$State", name := "mixedInto", desc := "(J)J" } : Jvm.MethodName) ({ cls := "Lantern$State", name := "mixedInto", desc := "(J)J" } : Jvm.MethodName)) ∈ bw := mw 810 (by decide +kernel) (by decide +kernel)
theorem m_785 : (Jvm.Cond.code ({ cls := "Lantern$State", name := "mixedInto", desc := "(J)J" } : Jvm.MethodName) prog_7_method_16_code (5 : Nat) (Option.some Jvm.ClassFile.FieldType.long)) ∈ bw := mw 811 (by decide +kernel) (by decide +kernel)
theorem m_786 : (Jvm.Cond.methodLink "Lantern$State" (159 : Nat) ({ cls := "Lantern$Row", name := "mixedFromTopInto", desc := "(J)J" } : Jvm.MethodName)) ∈ bw := mw 812 (by decide +kernel) (by decide +kernel)
theorem m_787 : (Jvm.Cond.instanceMethod ({ cls := "Lantern$Row", name := "mixedFromTopInto", desc := "(J)J" } : Jvm.MethodName)) ∈ bw := mw 813 (by decide +kernel) (by decide +kernel)
theorem m_788 : (Jvm.Cond.selects "Lantern$Row" ({ cls := "Lantern$Row", name := "mixedFromTopInto", desc := "(J)J" } : Jvm.MethodName) ({ cls := "Lantern$Row", name := "mixedFromTopInto", desc := "(J)J" } : Jvm.MethodName)) ∈ bw := mw 814 (by decide +kernel) (by decide +kernel)
theorem m_789 : (Jvm.Cond.code ({ cls := "Lantern$Row", name := "mixedFromTopInto", desc := "(J)J" } : Jvm.MethodName) prog_6_method_16_code (6 : Nat) (Option.some Jvm.ClassFile.FieldType.long)) ∈ bw := mw 815 (by decide +kernel) (by decide +kernel)
theorem m_790 : (Jvm.Cond.methodLink "Lantern$Row" (50 : Nat) ({ cls := "Lantern$Row", name := "fromTop", desc := "(I)I" } : Jvm.MethodName)) ∈ bw := mw 816 (by decide +kernel) (by decide +kernel)
theorem m_791 : (Jvm.Cond.methodLinkNest "Lantern$Row" (44 : Nat) ({ cls := "Lantern", name := "mixed", desc := "(JI)J" } : Jvm.MethodName) "Lantern") ∈ bw := mw 817 (by decide +kernel) (by decide +kernel)
theorem m_792 : (Jvm.Cond.methodLink "Lantern$State" (163 : Nat) ({ cls := "Lantern$Row", name := "mixedInto", desc := "(J)J" } : Jvm.MethodName)) ∈ bw := mw 818 (by decide +kernel) (by decide +kernel)
theorem m_793 : (Jvm.Cond.instanceMethod ({ cls := "Lantern$Row", name := "mixedInto", desc := "(J)J" } : Jvm.MethodName)) ∈ bw := mw 819 (by decide +kernel) (by decide +kernel)
theorem m_794 : (Jvm.Cond.selects "Lantern$Row" ({ cls := "Lantern$Row", name := "mixedInto", desc := "(J)J" } : Jvm.MethodName) ({ cls := "Lantern$Row", name := "mixedInto", desc := "(J)J" } : Jvm.MethodName)) ∈ bw := mw 820 (by decide +kernel) (by decide +kernel)
theorem m_795 : (Jvm.Cond.code ({ cls := "Lantern$Row", name := "mixedInto", desc := "(J)J" } : Jvm.MethodName) prog_6_method_15_code (6 : Nat) (Option.some Jvm.ClassFile.FieldType.long)) ∈ bw := mw 821 (by decide +kernel) (by decide +kernel)
theorem m_796 : (Jvm.Cond.methodLink "Lantern" (411 : Nat) ({ cls := "Lantern", name := "mixedProgram", desc := "(J)J" } : Jvm.MethodName)) ∈ bw := mw 822 (by decide +kernel) (by decide +kernel)
theorem m_798 : (Jvm.Cond.instanceMethod ({ cls := "Lantern", name := "mixedProgram", desc := "(J)J" } : Jvm.MethodName)) ∈ bw := mw 824 (by decide +kernel) (by decide +kernel)
theorem m_799 : (Jvm.Cond.code ({ cls := "Lantern", name := "mixedProgram", desc := "(J)J" } : Jvm.MethodName) prog_1_method_53_code (6 : Nat) (Option.some Jvm.ClassFile.FieldType.long)) ∈ bw := mw 825 (by decide +kernel) (by decide +kernel)
theorem m_800 : (Jvm.Cond.methodLink "Lantern" (414 : Nat) ({ cls := "Lantern", name := "mixedPoints", desc := "(J)J" } : Jvm.MethodName)) ∈ bw := mw 826 (by decide +kernel) (by decide +kernel)
theorem m_802 : (Jvm.Cond.instanceMethod ({ cls := "Lantern", name := "mixedPoints", desc := "(J)J" } : Jvm.MethodName)) ∈ bw := mw 828 (by decide +kernel) (by decide +kernel)
theorem m_803 : (Jvm.Cond.code ({ cls := "Lantern", name := "mixedPoints", desc := "(J)J" } : Jvm.MethodName) prog_1_method_54_code (7 : Nat) (Option.some Jvm.ClassFile.FieldType.long)) ∈ bw := mw 829 (by decide +kernel) (by decide +kernel)
theorem m_804 : (Jvm.Cond.methodLink "Lantern" (417 : Nat) ({ cls := "Lantern", name := "mixedThen", desc := "(JI)J" } : Jvm.MethodName)) ∈ bw := mw 830 (by decide +kernel) (by decide +kernel)
theorem m_806 : (Jvm.Cond.instanceMethod ({ cls := "Lantern", name := "mixedThen", desc := "(JI)J" } : Jvm.MethodName)) ∈ bw := mw 832 (by decide +kernel) (by decide +kernel)
theorem m_807 : (Jvm.Cond.code ({ cls := "Lantern", name := "mixedThen", desc := "(JI)J" } : Jvm.MethodName) prog_1_method_55_code (7 : Nat) (Option.some Jvm.ClassFile.FieldType.long)) ∈ bw := mw 833 (by decide +kernel) (by decide +kernel)
theorem m_808 : (Jvm.Cond.methodLink "Lantern" (425 : Nat) ({ cls := "Lantern", name := "then", desc := "(II)I" } : Jvm.MethodName)) ∈ bw := mw 834 (by decide +kernel) (by decide +kernel)
theorem m_809 : (Jvm.Cond.methodLink "Lantern" (420 : Nat) ({ cls := "Lantern", name := "endsIn", desc := "(I)I" } : Jvm.MethodName)) ∈ bw := mw 835 (by decide +kernel) (by decide +kernel)
theorem m_810 : (Jvm.Cond.methodLink "LanternLaw" (17 : Nat) ({ cls := "LanternLaw", name := "below", desc := "(II)I" } : Jvm.MethodName)) ∈ bw := mw 836 (by decide +kernel) (by decide +kernel)
theorem m_811 : (Jvm.Cond.static ({ cls := "LanternLaw", name := "below", desc := "(II)I" } : Jvm.MethodName)) ∈ bw := mw 837 (by decide +kernel) (by decide +kernel)
theorem m_812 : (Jvm.Cond.code ({ cls := "LanternLaw", name := "below", desc := "(II)I" } : Jvm.MethodName) method_2_code (2 : Nat) (Option.some Jvm.ClassFile.FieldType.int)) ∈ bw := mw 838 (by decide +kernel) (by decide +kernel)
theorem m_813 : (Jvm.Cond.constant "LanternLaw" (7 : Nat) (2147483647 : Int32)) ∈ bw := mw 839 (by decide +kernel) (by decide +kernel)
theorem m_814 : (Jvm.Cond.methodLink "LanternLaw" (11 : Nat) ({ cls := "LanternLaw", name := "cell", desc := "([II)I" } : Jvm.MethodName)) ∈ bw := mw 840 (by decide +kernel) (by decide +kernel)
theorem m_815 : (Jvm.Cond.static ({ cls := "LanternLaw", name := "cell", desc := "([II)I" } : Jvm.MethodName)) ∈ bw := mw 841 (by decide +kernel) (by decide +kernel)
theorem m_816 : (Jvm.Cond.code ({ cls := "LanternLaw", name := "cell", desc := "([II)I" } : Jvm.MethodName) method_3_code (2 : Nat) (Option.some Jvm.ClassFile.FieldType.int)) ∈ bw := mw 842 (by decide +kernel) (by decide +kernel)
theorem m_817 : (Jvm.Cond.constant "LanternLaw" (8 : Nat) (790386105 : Int32)) ∈ bw := mw 843 (by decide +kernel) (by decide +kernel)
theorem m_818 : (Jvm.Cond.methodLink "LanternLaw" (49 : Nat) ({ cls := "LanternLaw", name := "program", desc := "(LLantern;[II)[[I" } : Jvm.MethodName)) ∈ bw := mw 844 (by decide +kernel) (by decide +kernel)
theorem m_819 : (Jvm.Cond.static ({ cls := "LanternLaw", name := "program", desc := "(LLantern;[II)[[I" } : Jvm.MethodName)) ∈ bw := mw 845 (by decide +kernel) (by decide +kernel)
theorem m_820 : (Jvm.Cond.code ({ cls := "LanternLaw", name := "program", desc := "(LLantern;[II)[[I" } : Jvm.MethodName) method_4_code (9 : Nat) (Option.some (Jvm.ClassFile.FieldType.array (Jvm.ClassFile.FieldType.array Jvm.ClassFile.FieldType.int)))) ∈ bw := mw 846 (by decide +kernel) (by decide +kernel)
theorem m_821 : (Jvm.Cond.classLink "LanternLaw" (9 : Nat) "[I") ∈ bw := mw 847 (by decide +kernel) (by decide +kernel)
theorem m_823 : (Jvm.Cond.methodLink "LanternLaw" (21 : Nat) ({ cls := "Lantern", name := "step", desc := "(II)I" } : Jvm.MethodName)) ∈ bw := mw 849 (by decide +kernel) (by decide +kernel)
theorem m_824 : (Jvm.Cond.instanceMethod ({ cls := "Lantern", name := "step", desc := "(II)I" } : Jvm.MethodName)) ∈ bw := mw 850 (by decide +kernel) (by decide +kernel)
theorem m_825 : (Jvm.Cond.selects "Lantern" ({ cls := "Lantern", name := "step", desc := "(II)I" } : Jvm.MethodName) ({ cls := "Lantern", name := "step", desc := "(II)I" } : Jvm.MethodName)) ∈ bw := mw 851 (by decide +kernel) (by decide +kernel)
theorem m_826 : (Jvm.Cond.code ({ cls := "Lantern", name := "step", desc := "(II)I" } : Jvm.MethodName) prog_1_method_2_code (3 : Nat) (Option.some Jvm.ClassFile.FieldType.int)) ∈ bw := mw 852 (by decide +kernel) (by decide +kernel)
theorem m_827 : (Jvm.Cond.methodLink "Lantern" (73 : Nat) ({ cls := "Lantern$Program", name := "allows", desc := "(II)Z" } : Jvm.MethodName)) ∈ bw := mw 853 (by decide +kernel) (by decide +kernel)
theorem m_828 : (Jvm.Cond.static ({ cls := "Lantern$Program", name := "allows", desc := "(II)Z" } : Jvm.MethodName)) ∈ bw := mw 854 (by decide +kernel) (by decide +kernel)
theorem m_829 : (Jvm.Cond.code ({ cls := "Lantern$Program", name := "allows", desc := "(II)Z" } : Jvm.MethodName) prog_5_method_2_code (2 : Nat) (Option.some Jvm.ClassFile.FieldType.boolean)) ∈ bw := mw 855 (by decide +kernel) (by decide +kernel)
theorem m_830 : (Jvm.Cond.methodLinkNest "Lantern$Program" (26 : Nat) ({ cls := "Lantern", name := "isCell", desc := "(I)Z" } : Jvm.MethodName) "Lantern") ∈ bw := mw 856 (by decide +kernel) (by decide +kernel)
theorem m_832 : (Jvm.Cond.methodLink "Lantern" (84 : Nat) ({ cls := "Lantern$Program", name := "isFull", desc := "()Z" } : Jvm.MethodName)) ∈ bw := mw 858 (by decide +kernel) (by decide +kernel)
theorem m_833 : (Jvm.Cond.instanceMethod ({ cls := "Lantern$Program", name := "isFull", desc := "()Z" } : Jvm.MethodName)) ∈ bw := mw 859 (by decide +kernel) (by decide +kernel)
theorem m_834 : (Jvm.Cond.selects "Lantern$Program" ({ cls := "Lantern$Program", name := "isFull", desc := "()Z" } : Jvm.MethodName) ({ cls := "Lantern$Program", name := "isFull", desc := "()Z" } : Jvm.MethodName)) ∈ bw := mw 860 (by decide +kernel) (by decide +kernel)
theorem m_835 : (Jvm.Cond.code ({ cls := "Lantern$Program", name := "isFull", desc := "()Z" } : Jvm.MethodName) prog_5_method_4_code (1 : Nat) (Option.some Jvm.ClassFile.FieldType.boolean)) ∈ bw := mw 861 (by decide +kernel) (by decide +kernel)
theorem m_836 : (Jvm.Cond.methodLink "Lantern$Program" (34 : Nat) ({ cls := "Lantern$Row", name := "isFull", desc := "()Z" } : Jvm.MethodName)) ∈ bw := mw 862 (by decide +kernel) (by decide +kernel)
theorem m_838 : (Jvm.Cond.methodLink "Lantern" (93 : Nat) ({ cls := "Lantern$Program", name := "add", desc := "(II)V" } : Jvm.MethodName)) ∈ bw := mw 864 (by decide +kernel) (by decide +kernel)
theorem m_839 : (Jvm.Cond.instanceMethod ({ cls := "Lantern$Program", name := "add", desc := "(II)V" } : Jvm.MethodName)) ∈ bw := mw 865 (by decide +kernel) (by decide +kernel)
theorem m_840 : (Jvm.Cond.selects "Lantern$Program" ({ cls := "Lantern$Program", name := "add", desc := "(II)V" } : Jvm.MethodName) ({ cls := "Lantern$Program", name := "add", desc := "(II)V" } : Jvm.MethodName)) ∈ bw := mw 866 (by decide +kernel) (by decide +kernel)
theorem m_841 : (Jvm.Cond.code ({ cls := "Lantern$Program", name := "add", desc := "(II)V" } : Jvm.MethodName) prog_5_method_9_code (3 : Nat) (Option.none : Option Jvm.ClassFile.FieldType)) ∈ bw := mw 867 (by decide +kernel) (by decide +kernel)
theorem m_842 : (Jvm.Cond.methodLink "Lantern$Program" (45 : Nat) ({ cls := "Lantern$Row", name := "push", desc := "(I)V" } : Jvm.MethodName)) ∈ bw := mw 868 (by decide +kernel) (by decide +kernel)
theorem m_843 : (Jvm.Cond.methodLink "LanternLaw" (70 : Nat) ({ cls := "LanternLaw", name := "state", desc := "(LLantern;)J" } : Jvm.MethodName)) ∈ bw := mw 869 (by decide +kernel) (by decide +kernel)
theorem m_844 : (Jvm.Cond.static ({ cls := "LanternLaw", name := "state", desc := "(LLantern;)J" } : Jvm.MethodName)) ∈ bw := mw 870 (by decide +kernel) (by decide +kernel)
theorem m_845 : (Jvm.Cond.code ({ cls := "LanternLaw", name := "state", desc := "(LLantern;)J" } : Jvm.MethodName) method_5_code (4 : Nat) (Option.some Jvm.ClassFile.FieldType.long)) ∈ bw := mw 871 (by decide +kernel) (by decide +kernel)
theorem m_846 : (Jvm.Cond.constantLong "LanternLaw" (26 : Nat) (7 : Int64)) ∈ bw := mw 872 (by decide +kernel) (by decide +kernel)
theorem m_847 : (Jvm.Cond.constantLong "LanternLaw" (28 : Nat) (31 : Int64)) ∈ bw := mw 873 (by decide +kernel) (by decide +kernel)
theorem m_848 : (Jvm.Cond.methodLink "LanternLaw" (42 : Nat) ({ cls := "Lantern", name := "frame", desc := "(I)I" } : Jvm.MethodName)) ∈ bw := mw 874 (by decide +kernel) (by decide +kernel)
theorem m_849 : (Jvm.Cond.instanceMethod ({ cls := "Lantern", name := "frame", desc := "(I)I" } : Jvm.MethodName)) ∈ bw := mw 875 (by decide +kernel) (by decide +kernel)
theorem m_850 : (Jvm.Cond.selects "Lantern" ({ cls := "Lantern", name := "frame", desc := "(I)I" } : Jvm.MethodName) ({ cls := "Lantern", name := "frame", desc := "(I)I" } : Jvm.MethodName)) ∈ bw := mw 876 (by decide +kernel) (by decide +kernel)
theorem m_851 : (Jvm.Cond.code ({ cls := "Lantern", name := "frame", desc := "(I)I" } : Jvm.MethodName) prog_1_method_33_code (2 : Nat) (Option.some Jvm.ClassFile.FieldType.int)) ∈ bw := mw 877 (by decide +kernel) (by decide +kernel)
theorem m_853 : (Jvm.Cond.methodLink "LanternLaw" (45 : Nat) ({ cls := "Lantern", name := "output", desc := "(I)I" } : Jvm.MethodName)) ∈ bw := mw 879 (by decide +kernel) (by decide +kernel)
theorem m_854 : (Jvm.Cond.instanceMethod ({ cls := "Lantern", name := "output", desc := "(I)I" } : Jvm.MethodName)) ∈ bw := mw 880 (by decide +kernel) (by decide +kernel)
theorem m_855 : (Jvm.Cond.selects "Lantern" ({ cls := "Lantern", name := "output", desc := "(I)I" } : Jvm.MethodName) ({ cls := "Lantern", name := "output", desc := "(I)I" } : Jvm.MethodName)) ∈ bw := mw 881 (by decide +kernel) (by decide +kernel)
theorem m_856 : (Jvm.Cond.code ({ cls := "Lantern", name := "output", desc := "(I)I" } : Jvm.MethodName) prog_1_method_34_code (2 : Nat) (Option.some Jvm.ClassFile.FieldType.int)) ∈ bw := mw 882 (by decide +kernel) (by decide +kernel)
theorem m_858 : (Jvm.Cond.methodLink "LanternLaw" (65 : Nat) ({ cls := "java/lang/Math", name := "min", desc := "(II)I" } : Jvm.MethodName)) ∈ bw := mw 884 (by decide +kernel) (by decide +kernel)
theorem s_1 : (Jvm.Cond.selects "Lantern" ({ cls := "Lantern", name := "start", desc := "()V" } : Jvm.MethodName) ({ cls := "Lantern", name := "start", desc := "()V" } : Jvm.MethodName)) ∈ bw := mw 1 (by decide +kernel) (by decide +kernel)
theorem s_2 : (Jvm.Cond.selects "Lantern" ({ cls := "Lantern", name := "stopBy", desc := "(II)V" } : Jvm.MethodName) ({ cls := "Lantern", name := "stopBy", desc := "(II)V" } : Jvm.MethodName)) ∈ bw := mw 2 (by decide +kernel) (by decide +kernel)
theorem s_3 : (Jvm.Cond.selects "Lantern" ({ cls := "Lantern", name := "runTill", desc := "(II)I" } : Jvm.MethodName) ({ cls := "Lantern", name := "runTill", desc := "(II)I" } : Jvm.MethodName)) ∈ bw := mw 3 (by decide +kernel) (by decide +kernel)
theorem s_4 : (Jvm.Cond.selects "Lantern" ({ cls := "Lantern", name := "doStep", desc := "()Z" } : Jvm.MethodName) ({ cls := "Lantern", name := "doStep", desc := "()Z" } : Jvm.MethodName)) ∈ bw := mw 4 (by decide +kernel) (by decide +kernel)
theorem s_5 : (Jvm.Cond.selects "Lantern$State" ({ cls := "Lantern$State", name := "failureOf", desc := "(LLantern$Program;)I" } : Jvm.MethodName) ({ cls := "Lantern$State", name := "failureOf", desc := "(LLantern$Program;)I" } : Jvm.MethodName)) ∈ bw := mw 5 (by decide +kernel) (by decide +kernel)
theorem s_6 : (Jvm.Cond.selects "Lantern$State" ({ cls := "Lantern$State", name := "isTooFullFor", desc := "(I)Z" } : Jvm.MethodName) ({ cls := "Lantern$State", name := "isTooFullFor", desc := "(I)Z" } : Jvm.MethodName)) ∈ bw := mw 6 (by decide +kernel) (by decide +kernel)
theorem s_7 : (Jvm.Cond.selects "Lantern$State" ({ cls := "Lantern$State", name := "swap", desc := "()V" } : Jvm.MethodName) ({ cls := "Lantern$State", name := "swap", desc := "()V" } : Jvm.MethodName)) ∈ bw := mw 7 (by decide +kernel) (by decide +kernel)
theorem s_8 : (Jvm.Cond.selects "Lantern$State" ({ cls := "Lantern$State", name := "storeAt", desc := "()V" } : Jvm.MethodName) ({ cls := "Lantern$State", name := "storeAt", desc := "()V" } : Jvm.MethodName)) ∈ bw := mw 8 (by decide +kernel) (by decide +kernel)
theorem s_9 : (Jvm.Cond.selects "Lantern$State" ({ cls := "Lantern$State", name := "readFrom", desc := "(LLantern$Row;)I" } : Jvm.MethodName) ({ cls := "Lantern$State", name := "readFrom", desc := "(LLantern$Row;)I" } : Jvm.MethodName)) ∈ bw := mw 9 (by decide +kernel) (by decide +kernel)
theorem s_10 : (Jvm.Cond.selects "Lantern$State" ({ cls := "Lantern$State", name := "reckon", desc := "(I)V" } : Jvm.MethodName) ({ cls := "Lantern$State", name := "reckon", desc := "(I)V" } : Jvm.MethodName)) ∈ bw := mw 10 (by decide +kernel) (by decide +kernel)
theorem s_11 : (Jvm.Cond.selects "Lantern" ({ cls := "Lantern", name := "stopsRun", desc := "(I)Z" } : Jvm.MethodName) ({ cls := "Lantern", name := "stopsRun", desc := "(I)Z" } : Jvm.MethodName)) ∈ bw := mw 11 (by decide +kernel) (by decide +kernel)
theorem s_12 : (Jvm.Cond.selects "Lantern" ({ cls := "Lantern", name := "watchMet", desc := "()I" } : Jvm.MethodName) ({ cls := "Lantern", name := "watchMet", desc := "()I" } : Jvm.MethodName)) ∈ bw := mw 12 (by decide +kernel) (by decide +kernel)
theorem s_13 : (Jvm.Cond.selects "Lantern" ({ cls := "Lantern", name := "watchNumbered", desc := "(I)LLantern$Watch;" } : Jvm.MethodName) ({ cls := "Lantern", name := "watchNumbered", desc := "(I)LLantern$Watch;" } : Jvm.MethodName)) ∈ bw := mw 13 (by decide +kernel) (by decide +kernel)
theorem s_14 : (Jvm.Cond.selects "Lantern" ({ cls := "Lantern", name := "pointStopping", desc := "()I" } : Jvm.MethodName) ({ cls := "Lantern", name := "pointStopping", desc := "()I" } : Jvm.MethodName)) ∈ bw := mw 14 (by decide +kernel) (by decide +kernel)
theorem s_15 : (Jvm.Cond.selects "Lantern" ({ cls := "Lantern", name := "pointNumbered", desc := "(I)LLantern$Point;" } : Jvm.MethodName) ({ cls := "Lantern", name := "pointNumbered", desc := "(I)LLantern$Point;" } : Jvm.MethodName)) ∈ bw := mw 15 (by decide +kernel) (by decide +kernel)
theorem s_16 : (Jvm.Cond.selects "Lantern$Point" ({ cls := "Lantern$Point", name := "holds", desc := "(I)Z" } : Jvm.MethodName) ({ cls := "Lantern$Point", name := "holds", desc := "(I)Z" } : Jvm.MethodName)) ∈ bw := mw 16 (by decide +kernel) (by decide +kernel)
theorem s_17 : (Jvm.Cond.selects "Lantern" ({ cls := "Lantern", name := "goBack", desc := "()LLantern$Moment;" } : Jvm.MethodName) ({ cls := "Lantern", name := "goBack", desc := "()LLantern$Moment;" } : Jvm.MethodName)) ∈ bw := mw 17 (by decide +kernel) (by decide +kernel)
theorem s_18 : (Jvm.Cond.selects "Lantern" ({ cls := "Lantern", name := "ofNow", desc := "(I)I" } : Jvm.MethodName) ({ cls := "Lantern", name := "ofNow", desc := "(I)I" } : Jvm.MethodName)) ∈ bw := mw 18 (by decide +kernel) (by decide +kernel)
theorem s_19 : (Jvm.Cond.selects "Lantern" ({ cls := "Lantern", name := "tapeAt", desc := "(I)LLantern$Tape;" } : Jvm.MethodName) ({ cls := "Lantern", name := "tapeAt", desc := "(I)LLantern$Tape;" } : Jvm.MethodName)) ∈ bw := mw 19 (by decide +kernel) (by decide +kernel)
theorem s_20 : (Jvm.Cond.selects "Lantern" ({ cls := "Lantern", name := "beginsAtStart", desc := "()Z" } : Jvm.MethodName) ({ cls := "Lantern", name := "beginsAtStart", desc := "()Z" } : Jvm.MethodName)) ∈ bw := mw 20 (by decide +kernel) (by decide +kernel)
theorem s_21 : (Jvm.Cond.selects "Lantern$Past" ({ cls := "Lantern$Past", name := "stepAt", desc := "(I)I" } : Jvm.MethodName) ({ cls := "Lantern$Past", name := "stepAt", desc := "(I)I" } : Jvm.MethodName)) ∈ bw := mw 21 (by decide +kernel) (by decide +kernel)
theorem s_22 : (Jvm.Cond.selects "Lantern" ({ cls := "Lantern", name := "tryOut", desc := "(ILLantern$Row;)I" } : Jvm.MethodName) ({ cls := "Lantern", name := "tryOut", desc := "(ILLantern$Row;)I" } : Jvm.MethodName)) ∈ bw := mw 22 (by decide +kernel) (by decide +kernel)
theorem s_23 : (Jvm.Cond.selects "Lantern" ({ cls := "Lantern", name := "mixedProgram", desc := "(J)J" } : Jvm.MethodName) ({ cls := "Lantern", name := "mixedProgram", desc := "(J)J" } : Jvm.MethodName)) ∈ bw := mw 23 (by decide +kernel) (by decide +kernel)
theorem s_24 : (Jvm.Cond.selects "Lantern" ({ cls := "Lantern", name := "mixedPoints", desc := "(J)J" } : Jvm.MethodName) ({ cls := "Lantern", name := "mixedPoints", desc := "(J)J" } : Jvm.MethodName)) ∈ bw := mw 24 (by decide +kernel) (by decide +kernel)
theorem s_25 : (Jvm.Cond.selects "Lantern" ({ cls := "Lantern", name := "mixedThen", desc := "(JI)J" } : Jvm.MethodName) ({ cls := "Lantern", name := "mixedThen", desc := "(JI)J" } : Jvm.MethodName)) ∈ bw := mw 25 (by decide +kernel) (by decide +kernel)
end
section
/-! MY KIT: a walk whose goal holds the world (as a list of groups of cells), the locals by their places, and the operand stack -/
section GK1
/-! worlds as lists, up to their order -/
theorem wP_iff {D : va_G} {cl : List vw_C} {ws : va_W} {H : Heap} : va_P D cl ws H ↔ ∀ q ∈ ws, va_at D cl q H :=
  ⟨fun h q hq => by obtain ⟨k, hk⟩ := List.getElem?_of_mem hq; exact h k q hk, fun h k q hk => h q (List.mem_of_getElem? hk)⟩
theorem wD_iff {A : Nat → Prop} {ws : va_W} : va_D A ws ↔ ws.Pairwise (fun p q => p.1 ≠ q.1) ∧ ∀ q ∈ ws, A q.1 := by
  refine ⟨fun h => ⟨?_, fun q hq => by obtain ⟨k, hk⟩ := List.getElem?_of_mem hq; exact h.2 k q hk⟩, fun h => ⟨?_, fun k q hk => h.2 q (List.mem_of_getElem? hk)⟩⟩
  · rw [List.pairwise_iff_getElem]
    intro i j hi hj hij e
    have := h.1 i j ws[i] ws[j] (List.getElem?_eq_getElem hi) (List.getElem?_eq_getElem hj) e
    omega
  · have h1 := List.pairwise_iff_getElem.mp h.1
    intro i j p q hp hq e
    obtain ⟨hi, rfl⟩ := List.getElem?_eq_some_iff.mp hp
    obtain ⟨hj, rfl⟩ := List.getElem?_eq_some_iff.mp hq
    rcases Nat.lt_trichotomy i j with z | z | z
    · exact absurd e (h1 i j hi hj z)
    · exact z
    · exact absurd e.symm (h1 j i hj hi z)
theorem wP_perm {D : va_G} {cl : List vw_C} {w1 w2 : va_W} {H : Heap} (e : w1.Perm w2) (h : va_P D cl w1 H) : va_P D cl w2 H := wP_iff.mpr fun q hq => wP_iff.mp h q (e.mem_iff.mpr hq)
theorem wD_perm {A : Nat → Prop} {w1 w2 : va_W} (e : w1.Perm w2) (h : va_D A w1) : va_D A w2 := by
  obtain ⟨h1, h2⟩ := wD_iff.mp h
  exact wD_iff.mpr ⟨(e.pairwise_iff (fun {a b} z => fun y => z y.symm)).mp h1, fun q hq => h2 q (e.mem_iff.mpr hq)⟩
theorem wP_left {D : va_G} {cl : List vw_C} {w1 w2 : va_W} {H : Heap} (h : va_P D cl (w1 ++ w2) H) : va_P D cl w1 H := wP_iff.mpr fun q hq => wP_iff.mp h q (List.mem_append_left _ hq)
theorem wP_right {D : va_G} {cl : List vw_C} {w1 w2 : va_W} {H : Heap} (h : va_P D cl (w1 ++ w2) H) : va_P D cl w2 H := wP_iff.mpr fun q hq => wP_iff.mp h q (List.mem_append_right _ hq)
theorem wD_left {A : Nat → Prop} {w1 w2 : va_W} (h : va_D A (w1 ++ w2)) : va_D A w1 := by
  obtain ⟨h1, h2⟩ := wD_iff.mp h
  exact wD_iff.mpr ⟨(List.pairwise_append.mp h1).1, fun q hq => h2 q (List.mem_append_left _ hq)⟩
theorem wD_right {A : Nat → Prop} {w1 w2 : va_W} (h : va_D A (w1 ++ w2)) : va_D A w2 := by
  obtain ⟨h1, h2⟩ := wD_iff.mp h
  exact wD_iff.mpr ⟨(List.pairwise_append.mp h1).2.1, fun q hq => h2 q (List.mem_append_right _ hq)⟩
theorem wD_cross {A : Nat → Prop} {w1 w2 : va_W} (h : va_D A (w1 ++ w2)) {p q : Nat × va_E} (hp : p ∈ w1) (hq : q ∈ w2) : p.1 ≠ q.1 := (List.pairwise_append.mp (wD_iff.mp h).1).2.2 p hp q hq
theorem va_A_mem {ws : va_W} {sz : Nat} {q : Nat} : va_A ws sz q ↔ (∃ e, (q, e) ∈ ws) ∨ sz ≤ q := by
  unfold va_A
  constructor
  · rintro (⟨k, e, h⟩ | h)
    · exact Or.inl ⟨e, List.mem_of_getElem? h⟩
    · exact Or.inr h
  · rintro (⟨e, h⟩ | h)
    · obtain ⟨k, hk⟩ := List.getElem?_of_mem h; exact Or.inl ⟨k, e, hk⟩
    · exact Or.inr h
/-- behind a call: what the callee had (w), what it left (w'), and the rest -/
theorem w_join {D : va_G} {cl : List vw_C} {A : Nat → Prop} {w wr w' : va_W} {H H1 : Heap} (hP : va_P D cl (w ++ wr) H) (hD : va_D A (w ++ wr)) (hk : ∀ q : Nat, q < H.size → ¬ va_A w H.size q → H1[q]? = H[q]?) (hF : ∀ q, va_A w H.size q → A q) (hP1 : va_P D cl w' H1) (hD1 : va_D (va_A w H.size) w') : va_P D cl (w' ++ wr) H1 ∧ va_D A (w' ++ wr) := by
  have hout : ∀ q ∈ wr, q.1 < H.size ∧ ¬ va_A w H.size q.1 := by
    intro q hq
    have hlt : q.1 < H.size := (wP_iff.mp hP q (List.mem_append_right _ hq)).lt
    refine ⟨hlt, fun h => ?_⟩
    rcases va_A_mem.mp h with ⟨e, h⟩ | h
    · exact wD_cross hD h hq rfl
    · omega
  constructor
  · refine wP_iff.mpr fun q hq => ?_
    rcases List.mem_append.mp hq with h | h
    · exact wP_iff.mp hP1 q h
    · obtain ⟨a, b⟩ := hout q h
      exact (wP_iff.mp hP q (List.mem_append_right _ h)).kept (hk q.1 a b)
  · obtain ⟨d1, d2⟩ := wD_iff.mp hD
    obtain ⟨e1, e2⟩ := wD_iff.mp hD1
    refine wD_iff.mpr ⟨List.pairwise_append.mpr ⟨e1, (List.pairwise_append.mp d1).2.1, fun p hp q hq e => ?_⟩, fun q hq => ?_⟩
    · exact (hout q hq).2 (by rw [← e]; exact e2 p hp)
    · rcases List.mem_append.mp hq with h | h
      · exact hF _ (e2 q h)
      · exact d2 q (List.mem_append_right _ h)
/-! groups -/
def gputA : List Nat → List va_W → List va_W → List va_W
  | [], gs, ex => gs ++ ex
  | i :: ps, gs, ex => match ex with
    | [] => gs
    | g :: gs' => gputA ps (gs.set i g) gs'
def gput (gs : List va_W) (ps : List Nat) (ex : List va_W) : List va_W := gputA ps gs ex
def gerase : List va_W → List Nat → List va_W
  | gs, [] => gs
  | gs, i :: ps => gerase (gs.set i []) ps
theorem set_perm : ∀ (gs : List va_W) (i : Nat) (g : va_W), i < gs.length → (gs.set i g).flatten.Perm (g ++ (gs.set i []).flatten)
  | [], i, g, h => absurd h (Nat.not_lt_zero _)
  | x :: gs, 0, g, _ => by simp
  | x :: gs, i + 1, g, h => by
    have ih := set_perm gs i g (by simpa using h)
    simp only [List.set_cons_succ, List.flatten_cons]
    refine (List.Perm.append_left x ih).trans ?_
    rw [← List.append_assoc, ← List.append_assoc]
    exact List.Perm.append_right _ List.perm_append_comm
theorem gerase_set : ∀ (ps : List Nat) (gs : List va_W) (i : Nat) (g : va_W), i ∉ ps → gerase (gs.set i g) ps = (gerase gs ps).set i g
  | [], gs, i, g, _ => rfl
  | j :: ps, gs, i, g, h => by
    have hij : i ≠ j := fun e => h (by rw [e]; exact List.mem_cons_self)
    have hps : i ∉ ps := fun e => h (List.mem_cons_of_mem _ e)
    show gerase ((gs.set i g).set j []) ps = (gerase (gs.set j []) ps).set i g
    rw [← gerase_set ps (gs.set j []) i g hps, List.set_comm _ _ hij]
theorem gerase_len : ∀ (ps : List Nat) (gs : List va_W), (gerase gs ps).length = gs.length
  | [], gs => rfl
  | i :: ps, gs => by
    show (gerase (gs.set i []) ps).length = _
    rw [gerase_len ps, List.length_set]
theorem gput_perm : ∀ (ps : List Nat) (gs gs' : List va_W), ps.length ≤ gs'.length → va_nd ps = true → (∀ i ∈ ps, i < gs.length) → (gput gs ps gs').flatten.Perm (gs'.flatten ++ (gerase gs ps).flatten)
  | [], gs, gs', _, _, _ => by
    show (gs ++ gs').flatten.Perm (gs'.flatten ++ gs.flatten)
    rw [List.flatten_append]
    exact List.perm_append_comm
  | i :: ps, gs, [], h, _, _ => absurd h (by simp)
  | i :: ps, gs, g :: gs', h, hn, hi => by
    simp only [va_nd, Bool.and_eq_true, decide_eq_true_eq] at hn
    have hl : i < gs.length := hi i List.mem_cons_self
    have ih := gput_perm ps (gs.set i g) gs' (by simpa using h) hn.2 (fun j hj => by rw [List.length_set]; exact hi j (List.mem_cons_of_mem _ hj))
    show (gput (gs.set i g) ps gs').flatten.Perm ((g :: gs').flatten ++ (gerase (gs.set i []) ps).flatten)
    refine ih.trans ?_
    rw [gerase_set ps gs i g hn.1, gerase_set ps gs i [] hn.1, List.flatten_cons]
    have h2 := set_perm (gerase gs ps) i g (by rw [gerase_len]; exact hl)
    refine (List.Perm.append_left _ h2).trans ?_
    rw [← List.append_assoc]
    exact List.Perm.append_right _ List.perm_append_comm
theorem set_same {gs : List va_W} {i : Nat} {g : va_W} (h : gs[i]? = some g) : gs.set i g = gs := by
  obtain ⟨hl, rfl⟩ := List.getElem?_eq_some_iff.mp h
  exact List.set_getElem_self hl
theorem gput_same : ∀ (ps : List Nat) (gs gsC : List va_W), ps.map (fun i => gs[i]?) = gsC.map some → gput gs ps gsC = gs
  | [], gs, [], _ => by show gs ++ [] = gs; simp
  | [], gs, _ :: _, h => by simp at h
  | _ :: _, gs, [], h => by simp at h
  | i :: ps, gs, g :: gsC, h => by
    simp only [List.map_cons, List.cons.injEq] at h
    show gput (gs.set i g) ps gsC = gs
    rw [set_same h.1]
    exact gput_same ps gs gsC h.2
theorem ps_lt {ps : List Nat} {gs gsC : List va_W} (h : ps.map (fun i => gs[i]?) = gsC.map some) : ∀ i ∈ ps, i < gs.length := by
  intro i hi
  have h1 : gs[i]? ∈ ps.map (fun i => gs[i]?) := List.mem_map.mpr ⟨i, hi, rfl⟩
  rw [h] at h1
  obtain ⟨g, -, hg⟩ := List.mem_map.mp h1
  exact (List.getElem?_eq_some_iff.mp hg.symm).1
theorem ps_len {ps : List Nat} {gs gsC : List va_W} (h : ps.map (fun i => gs[i]?) = gsC.map some) : ps.length = gsC.length := by
  have := congrArg List.length h
  simpa using this
theorem gs_perm {ps : List Nat} {gs gsC : List va_W} (h : ps.map (fun i => gs[i]?) = gsC.map some) (hn : va_nd ps = true) : gs.flatten.Perm (gsC.flatten ++ (gerase gs ps).flatten) := by
  have h1 := gput_perm ps gs gsC (Nat.le_of_eq (ps_len h)) hn (ps_lt h)
  rwa [gput_same ps gs gsC h] at h1
/-- a group's head has a place in the world, and is set there -/
theorem head_at : ∀ (gs : List va_W) (k : Nat) (x : Nat × va_E) (t : va_W), gs[k]? = some (x :: t) → ∃ q0, gs.flatten[q0]? = some x ∧ ∀ y, gs.flatten.set q0 y = (gs.set k (y :: t)).flatten
  | [], k, x, t, h => by simp at h
  | g :: gs, 0, x, t, h => by
    simp only [List.getElem?_cons_zero, Option.some.injEq] at h
    subst h
    exact ⟨0, by simp, fun y => by simp⟩
  | g :: gs, k + 1, x, t, h => by
    obtain ⟨q0, h1, h2⟩ := head_at gs k x t (by simpa using h)
    refine ⟨g.length + q0, ?_, fun y => ?_⟩
    · rw [List.flatten_cons, List.getElem?_append_right (by omega)]
      simpa using h1
    · simp only [List.flatten_cons, List.set_cons_succ]
      rw [List.set_append_right _ _ (by omega)]
      simp [h2 y]
end GK1
section GK2
/-! locals by their places -/
def hasP (ls : Array Slot) (nL : Nat) (lv : List (Option Value)) : Prop := (ls.size = nL ∧ lv.length = nL) ∧ lv_wf ls ∧ ∀ (i : Nat) (v : Value), lv[i]? = some (some v) → ls[i]? = some (.val v)
def prs (lv : List (Option Value)) : List (Nat × Value) := (List.range lv.length).filterMap (fun i => match lv[i]? with | some (some v) => some (i, v) | _ => none)
theorem mem_prs {lv : List (Option Value)} {i : Nat} {v : Value} : (i, v) ∈ prs lv ↔ lv[i]? = some (some v) := by
  unfold prs
  rw [List.mem_filterMap]
  constructor
  · rintro ⟨j, -, h⟩
    split at h
    · rename_i w hw; cases h; exact hw
    · cases h
  · intro h
    refine ⟨i, List.mem_range.mpr (List.getElem?_eq_some_iff.mp h).1, ?_⟩
    rw [h]
theorem hasP_has {ls : Array Slot} {nL : Nat} {lv : List (Option Value)} (h : hasP ls nL lv) : lv_has ls nL (prs lv) := ⟨h.1.1, h.2.1, fun q hq => h.2.2 q.1 q.2 (mem_prs.mp hq)⟩
def okst (lv : List (Option Value)) : Nat → Bool
  | 0 => true
  | j + 1 => match lv[j]? with
    | some (some w) => !(w.category == 2)
    | _ => true
theorem okst_of {lv : List (Option Value)} {i j : Nat} {w : Value} (h : okst lv i = true) (hj : lv[j]? = some (some w)) (e : j + 1 = i) : (w.category == 2) = false := by
  subst e
  simp only [okst, hj] at h
  simpa using h
theorem hasP_set {ls' : Array Slot} {nL i : Nat} {x : Value} {lv : List (Option Value)} (hn : lv.length = nL) (ho : okst lv i = true) (h : lv_has ls' nL ((i, x) :: (prs lv).filter (fun q => !(q.1 == i) && !(q.1 + 1 == i && q.2.category == 2)))) : hasP ls' nL (lv.set i (some x)) := by
  refine ⟨⟨h.1, by rw [List.length_set]; exact hn⟩, h.2.1, fun j w hj => ?_⟩
  by_cases e : j = i
  · subst e
    have hl : j < lv.length := by
      have := (List.getElem?_eq_some_iff.mp hj).1
      simpa using this
    rw [List.getElem?_set_self hl] at hj
    cases hj
    exact h.2.2 (j, x) List.mem_cons_self
  · rw [List.getElem?_set_ne (Ne.symm e)] at hj
    refine h.2.2 (j, w) (List.mem_cons_of_mem _ (List.mem_filter.mpr ⟨mem_prs.mpr hj, ?_⟩))
    by_cases e1 : j + 1 = i
    · simp [e, okst_of ho hj e1]
    · simp [e, e1]
theorem hasP_set2 {ls' : Array Slot} {nL i : Nat} {x : Value} {lv : List (Option Value)} (hn : lv.length = nL) (ho : okst lv i = true) (h : lv_has ls' nL ((i, x) :: (prs lv).filter (fun q => !(q.1 == i) && (!(q.1 == i + 1) && !(q.1 + 1 == i && q.2.category == 2))))) : hasP ls' nL ((lv.set i (some x)).set (i + 1) none) := by
  refine ⟨⟨h.1, by rw [List.length_set, List.length_set]; exact hn⟩, h.2.1, fun j w hj => ?_⟩
  by_cases e2 : j = i + 1
  · subst e2
    by_cases hl : i + 1 < (lv.set i (some x)).length
    · rw [List.getElem?_set_self hl] at hj; cases hj
    · rw [List.getElem?_eq_none (by simp only [List.length_set] at hl ⊢; omega)] at hj; cases hj
  · rw [List.getElem?_set_ne (Ne.symm e2)] at hj
    by_cases e : j = i
    · subst e
      have hl : j < lv.length := by
        have := (List.getElem?_eq_some_iff.mp hj).1
        simpa using this
      rw [List.getElem?_set_self hl] at hj
      cases hj
      exact h.2.2 (j, x) List.mem_cons_self
    · rw [List.getElem?_set_ne (Ne.symm e)] at hj
      refine h.2.2 (j, w) (List.mem_cons_of_mem _ (List.mem_filter.mpr ⟨mem_prs.mpr hj, ?_⟩))
      by_cases e1 : j + 1 = i
      · simp [e, e2, okst_of ho hj e1]
      · simp [e, e1, e2]
def lv0 : List Value → List (Option Value)
  | [] => []
  | v :: vs => (if v.category = 2 then [some v, none] else [some v]) ++ lv0 vs
theorem lv0_len : ∀ vs : List Value, (lg_sl vs).length = (lv0 vs).length
  | [] => rfl
  | v :: vs => by
    have ih := lv0_len vs
    unfold lg_sl at ih ⊢
    rw [List.flatMap_cons, List.length_append, ih]
    by_cases h : v.category = 2
    · simp [lv0, h]; omega
    · simp [lv0, h]; omega
theorem lv0_in : ∀ (vs : List Value) (b i : Nat) (v : Value), (lv0 vs)[i]? = some (some v) → (b + i, v) ∈ lv_args b vs
  | [], b, i, v, h => by simp [lv0] at h
  | w :: vs, b, i, v, h => by
    by_cases hc : w.category = 2
    · simp only [lv0, hc, if_true] at h
      match i, h with
      | 0, h =>
        simp at h
        subst h
        simp [lv_args]
      | 1, h => simp at h
      | j + 2, h =>
        have ih := lv0_in vs (b + 2) j v (by simpa using h)
        simp only [lv_args, hc, if_true]
        rw [show b + (j + 2) = b + 2 + j by omega]
        exact List.mem_cons_of_mem _ ih
    · simp only [lv0, hc, if_false] at h
      match i, h with
      | 0, h =>
        simp at h
        subst h
        simp [lv_args]
      | j + 1, h =>
        have ih := lv0_in vs (b + 1) j v (by simpa using h)
        simp only [lv_args, hc, if_false]
        rw [show b + (j + 1) = b + 1 + j by omega]
        exact List.mem_cons_of_mem _ ih
theorem lv0_pad {vs : List Value} {n i : Nat} {v : Value} (h : (lv0 vs ++ List.replicate n none)[i]? = some (some v)) : (i, v) ∈ lv_args 0 vs := by
  have key : (lv0 vs)[i]? = some (some v) := by
    rcases Nat.lt_or_ge i (lv0 vs).length with z | z
    · rwa [List.getElem?_append_left z] at h
    · rw [List.getElem?_append_right z, List.getElem?_replicate] at h
      split at h
      · cases h
      · cases h
  have := lv0_in vs 0 i v key
  rwa [Nat.zero_add] at this
end GK2
end
section
/-! MY KIT, second: the judgement and its rows -/
section GK3
abbrev Env3 : Type := Launch × va_G × (Nat → ClassId)
abbrev Ro : Type := Option (Nat × Nat × (Nat → Int32))
abbrev Fix : Type := Env3 × Program × Env × Room × State × MethodId × Array Value × List Frame × Method × Code × (Nat → Prop) × Nat × Ro × (State → Prop)
/-- the arrays' classes -/
def tyL (cy : Nat → ClassId) : List (ClassId × FieldType) := [(cy 0, .int), (cy 1, .object "Lantern$Moment"), (cy 2, .object "Lantern$Point"), (cy 3, .object "Lantern$Watch"), (cy 4, .object "Lantern$Tape"), (cy 5, .array .int)]
/-- the script, that is read alone -/
def roX (X : Ro) (U : State) (H : Heap) (A : Nat → Prop) : Prop := match X with
  | none => True
  | some (b, L, xs) => va_X b L xs U H ∧ b < H.size ∧ ¬ A b
def G (F : Fix) (k n : Nat) (gs : List va_W) (pc : Nat) (lv : List (Option Value)) (st : List Value) : Prop := match F with
  | ((l, D, _), p, e, R, s, m, args, below, meth, c, A, nL, _, Q) => ∀ (H : Heap) (locs : List Loc) (ls : Array Slot), va_P D vwCl gs.flatten H → va_D A gs.flatten → va_S A s.heap H locs → hasP ls nL lv → W p l e R s m args below meth c H locs k n Q (F0 m pc ls st)
def Ok (F : Fix) (cc : ByteArray) (own : String) (d kM nM : Nat) : Prop := match F with
  | ((_, D, cy), p, _, R, s, m, args, _, _, c, A, nL, X, _) => p.tables.exec = Jvm.exec ∧ c.code = cc ∧ c.maxLocals = nL ∧ s.vm.findClass own = some m.cls ∧ (∀ w ∈ bw, w.before args s = true) ∧ va_K D vwCl (tyL cy) s ∧ (∀ q : Nat, s.heap.size ≤ q → A q) ∧ d ≤ R.frames ∧ 30 * d ≤ R.locals ∧ kM ≤ R.cells ∧ nM ≤ R.slots ∧ roX X s s.heap A
def PostC (D : va_G) (sz : Nat) (gs : List va_W) (Po : Option Value → List va_W → Prop) : State → Outcome → State → Prop := fun st oc t => (∃ (r : Option Value) (gs' : List va_W), oc = .returned r ∧ Po r gs' ∧ va_P D vwCl gs'.flatten t.heap ∧ va_D (va_A gs.flatten sz) gs'.flatten) ∧ va_F (va_A gs.flatten sz) st t
def OkR (F : Fix) (gs : List va_W) (Po : Option Value → List va_W → Prop) (mc ms : Nat) (ret : Option FieldType) : Prop := match F with
  | ((_, D, _), _, _, _, s, _, args, below, meth, _, A, _, _, Q) => meth.sig.returnType = ret ∧ meth.locks = false ∧ A = va_A gs.flatten s.heap.size ∧ Q = MQ below (fun _ => PostC D s.heap.size gs Po) args s mc ms A
def OkN (F : Fix) (nm : String) : Prop := match F with
  | (_, _, _, _, _, _, _, _, meth, _, _, _, _, _) => meth.name = nm
/-- a contract: called with av in a world of the groups gs, it returns r and leaves gs' with Po r gs'; d: how deep its calls go; mc, ms: the cells and slots that it makes -/
def Ct (E : Env3) (X : Ro) (d mc ms : Nat) (y : MethodName) (bytes : ByteArray) (maxL : Nat) (ret : Option FieldType) (av : List Value) (gs : List va_W) (Po : Option Value → List va_W → Prop) : Prop :=
  ∀ sz : Nat, Met E.1 y (.code y bytes maxL ret :: bw) ({ frames := d, cells := mc, slots := ms, locals := 30 * d }) (va_Pc av (fun U => U.heap.size = sz ∧ va_P E.2.1 vwCl gs.flatten U.heap ∧ va_K E.2.1 vwCl (tyL E.2.2) U ∧ va_D (fun _ => True) gs.flatten ∧ roX X U U.heap (va_A gs.flatten sz))) (fun _ => PostC E.2.1 sz gs Po) mc ms (va_A gs.flatten sz)
/-- .. that answers r and leaves gs', and makes nothing -/
def Cd (E : Env3) (X : Ro) (d : Nat) (y : MethodName) (bytes : ByteArray) (maxL : Nat) (ret : Option FieldType) (av : List Value) (gs : List va_W) (r0 : Option Value) (g0 : List va_W) : Prop := Ct E X d 0 0 y bytes maxL ret av gs (fun r g => r = r0 ∧ g = g0)
theorem roX.kept {X : Ro} {s : State} {A : Nat → Prop} {H : Heap} {locs : List Loc} (h : roX X s s.heap A) (hS : va_S A s.heap H locs) {B : Nat → Prop} (hB : ∀ q, B q → A q) {U : State} (hU : U.heap = H) (hW : s.WarmedH U.vm) : roX X U U.heap B := by
  obtain _ | ⟨b, L, xs⟩ := X
  · trivial
  · obtain ⟨h1, h2, h3⟩ := h
    refine ⟨?_, ?_, fun z => h3 (hB b z)⟩
    · rw [hU]
      exact (h1.kept (hS.2.1 b h2 h3)).moved hW.alike
    · rw [hU]
      exact Nat.lt_of_lt_of_le h2 hS.1
theorem roX.blind {X : Ro} {U : State} {A : Nat → Prop} (g : JFrame) (mk : MethodId) (a : Array Value) (h : roX X U U.heap A) : roX X (U.calling g mk a) (U.calling g mk a).heap A := by
  obtain _ | ⟨b, L, xs⟩ := X
  · trivial
  · obtain ⟨h1, h2, h3⟩ := h
    exact ⟨h1.moved (U := U.calling g mk a) (Vm.Alike.refl U.vm), h2, h3⟩
theorem Ct.of {E : Env3} {X : Ro} {d mc ms : Nat} {y : MethodName} {bytes : ByteArray} {maxL : Nat} {ret : Option FieldType} {av : List Value} {gs : List va_W} {Po : Option Value → List va_W → Prop} (lv : List (Option Value)) (hy : plainName y.cls = true) (hlv : lv0 av ++ List.replicate (maxL - (lv0 av).length) none = lv) (hsl : (lv0 av).length ≤ maxL)
    (body : ∀ F : Fix, F.1 = E → Ok F bytes y.cls d mc ms → OkR F gs Po mc ms ret → OkN F y.name → G F 0 0 gs 0 lv []) : Ct E X d mc ms y bytes maxL ret av gs Po := by
  obtain ⟨l, D, cy⟩ := E
  intro sz
  refine Met.ofW (cc := bytes) (maxL := maxL) (ret := ret) hy rfl ?_
  intro p e s m args below meth c s₁ B hml hv
  obtain ⟨rfl, hsz, hP, hK, hD0, hX⟩ := hv
  subst hsz
  have hts := atoms_spec (ws := .code y bytes maxL ret :: bw) B.pre
  have hown : s.vm.findClass y.cls = some m.cls := findClass_of_methodNamed B.named
  have hD := hD0.self (sz := s.heap.size)
  have hl := lv_entry av (n := maxL) (by rw [lv0_len]; exact hsl)
  rw [lg_entry_eq]
  generalize hls : (lg_sl av ++ List.replicate (maxL - (lg_sl av).length) Slot.unset).toArray = ls at hl ⊢
  have hp : hasP ls maxL lv := by
    refine ⟨⟨hl.1, ?_⟩, hl.2.1, fun i v h => ?_⟩
    · rw [← hlv, List.length_append, List.length_replicate]; omega
    · rw [← hlv] at h
      exact hl.2.2 _ (lv0_pad h)
  exact body ((l, D, cy), p, e, (headSpec (.code y bytes maxL ret :: bw) { frames := d, cells := mc, slots := ms, locals := 30 * d }).room, s, m, av.toArray, below, meth, c, va_A gs.flatten s.heap.size, maxL, X, MQ below (fun _ => PostC D s.heap.size gs Po) av.toArray s mc ms (va_A gs.flatten s.heap.size)) rfl
    ⟨B.exec, B.bytes, hml, hown, fun w hw => hts w (List.mem_cons_of_mem _ hw), hK, fun q h => Or.inr h, Nat.le_refl _, Nat.le_refl _, Nat.le_refl _, Nat.le_refl _, hX⟩ ⟨B.returns, B.notSynchronized, rfl, rfl⟩ (name_of_methodNamed B.named B.method).1 s.heap [] ls hP hD va_S.rf hp
end GK3

section GK4
variable {F : Fix} {cc : ByteArray} {own : String} {dd kM nM k n pc : Nat} {gs : List va_W} {lv : List (Option Value)} {st : List Value}
theorem g_iconst {i : Int} {v : Int32} (hF : Ok F cc own dd kM nM) (d : decode cc pc = .ok (.iconst i, 1)) (hv : Int32.ofInt i = v) (kk : G F k n gs (pc + 1) lv (.int v :: st)) : G F k n gs pc lv st := by
  obtain ⟨⟨l, D, cy⟩, p, e, R, s, m, args, below, meth, c, A, nL, X, Q⟩ := F
  obtain ⟨hx, hb, hml, hown, hts, hK, hA, hd1, hd2, hk1, hk2, hX⟩ := hF
  intro H locs ls hP hD hS hl
  exact lv_iconst hx hb d hv (kk H locs ls hP hD hS hl)
theorem g_bipush {i : Int} {v : Int32} (hF : Ok F cc own dd kM nM) (d : decode cc pc = .ok (.bipush i, 2)) (hv : (Int8.ofInt i).toInt32 = v) (kk : G F k n gs (pc + 2) lv (.int v :: st)) : G F k n gs pc lv st := by
  obtain ⟨⟨l, D, cy⟩, p, e, R, s, m, args, below, meth, c, A, nL, X, Q⟩ := F
  obtain ⟨hx, hb, hml, hown, hts, hK, hA, hd1, hd2, hk1, hk2, hX⟩ := hF
  intro H locs ls hP hD hS hl
  exact lv_bipush hx hb d hv (kk H locs ls hP hD hS hl)
theorem g_sipush {i : Int} {v : Int32} (hF : Ok F cc own dd kM nM) (d : decode cc pc = .ok (.sipush i, 3)) (hv : (Int16.ofInt i).toInt32 = v) (kk : G F k n gs (pc + 3) lv (.int v :: st)) : G F k n gs pc lv st := by
  obtain ⟨⟨l, D, cy⟩, p, e, R, s, m, args, below, meth, c, A, nL, X, Q⟩ := F
  obtain ⟨hx, hb, hml, hown, hts, hK, hA, hd1, hd2, hk1, hk2, hX⟩ := hF
  intro H locs ls hP hD hS hl
  exact lv_sipush hx hb d hv (kk H locs ls hP hD hS hl)
theorem g_lconst {i : Fin 2} {v : Int64} (hF : Ok F cc own dd kM nM) (d : decode cc pc = .ok (.lconst i, 1)) (hv : Int64.ofNat (i : Nat) = v) (kk : G F k n gs (pc + 1) lv (.long v :: st)) : G F k n gs pc lv st := by
  obtain ⟨⟨l, D, cy⟩, p, e, R, s, m, args, below, meth, c, A, nL, X, Q⟩ := F
  obtain ⟨hx, hb, hml, hown, hts, hK, hA, hd1, hd2, hk1, hk2, hX⟩ := hF
  intro H locs ls hP hD hS hl
  exact lv_lconst hx hb d hv (kk H locs ls hP hD hS hl)
theorem g_ldc {i : Nat} {v : Int32} (hF : Ok F cc own dd kM nM) (hm : Cond.constant own i v ∈ bw) (d : decode cc pc = .ok (.ldc i, 2)) (kk : G F k n gs (pc + 2) lv (.int v :: st)) : G F k n gs pc lv st := by
  obtain ⟨⟨l, D, cy⟩, p, e, R, s, m, args, below, meth, c, A, nL, X, Q⟩ := F
  obtain ⟨hx, hb, hml, hown, hts, hK, hA, hd1, hd2, hk1, hk2, hX⟩ := hF
  intro H locs ls hP hD hS hl
  exact lv_ldc hx hb hown (hts _ hm) d (kk H locs ls hP hD hS hl)
theorem g_ldc2 {i : Nat} {v : Int64} (hF : Ok F cc own dd kM nM) (hm : Cond.constantLong own i v ∈ bw) (d : decode cc pc = .ok (.ldc2_w i, 3)) (kk : G F k n gs (pc + 3) lv (.long v :: st)) : G F k n gs pc lv st := by
  obtain ⟨⟨l, D, cy⟩, p, e, R, s, m, args, below, meth, c, A, nL, X, Q⟩ := F
  obtain ⟨hx, hb, hml, hown, hts, hK, hA, hd1, hd2, hk1, hk2, hX⟩ := hF
  intro H locs ls hP hD hS hl
  exact lv_ldc2 hx hb hown (hts _ hm) d (kk H locs ls hP hD hS hl)
theorem g_dconst0  (hF : Ok F cc own dd kM nM) (d : decode cc pc = .ok (.dconst 0, 1)) (kk : G F k n gs (pc + 1) lv (.double 0 :: st)) : G F k n gs pc lv st := by
  obtain ⟨⟨l, D, cy⟩, p, e, R, s, m, args, below, meth, c, A, nL, X, Q⟩ := F
  obtain ⟨hx, hb, hml, hown, hts, hK, hA, hd1, hd2, hk1, hk2, hX⟩ := hF
  intro H locs ls hP hD hS hl
  exact lv_dconst0 hx hb d (kk H locs ls hP hD hS hl)
theorem g_null  (hF : Ok F cc own dd kM nM) (d : decode cc pc = .ok (.aconst_null, 1)) (kk : G F k n gs (pc + 1) lv (.null :: st)) : G F k n gs pc lv st := by
  obtain ⟨⟨l, D, cy⟩, p, e, R, s, m, args, below, meth, c, A, nL, X, Q⟩ := F
  obtain ⟨hx, hb, hml, hown, hts, hK, hA, hd1, hd2, hk1, hk2, hX⟩ := hF
  intro H locs ls hP hD hS hl
  exact lv_null hx hb d (kk H locs ls hP hD hS hl)
theorem g_iload_n {j : Fin 4} {x : Int32} (hF : Ok F cc own dd kM nM) (d : decode cc pc = .ok (.iload_n j, 1)) (h : lv[(j : Nat)]? = some (some (.int x))) (kk : G F k n gs (pc + 1) lv (.int x :: st)) : G F k n gs pc lv st := by
  obtain ⟨⟨l, D, cy⟩, p, e, R, s, m, args, below, meth, c, A, nL, X, Q⟩ := F
  obtain ⟨hx, hb, hml, hown, hts, hK, hA, hd1, hd2, hk1, hk2, hX⟩ := hF
  intro H locs ls hP hD hS hl
  exact lv_iload_n hx hb d rfl (hl.2.2 _ _ h) (kk H locs ls hP hD hS hl)
theorem g_iload {i : Nat} {x : Int32} (hF : Ok F cc own dd kM nM) (d : decode cc pc = .ok (.iload i, 2)) (h : lv[i]? = some (some (.int x))) (kk : G F k n gs (pc + 2) lv (.int x :: st)) : G F k n gs pc lv st := by
  obtain ⟨⟨l, D, cy⟩, p, e, R, s, m, args, below, meth, c, A, nL, X, Q⟩ := F
  obtain ⟨hx, hb, hml, hown, hts, hK, hA, hd1, hd2, hk1, hk2, hX⟩ := hF
  intro H locs ls hP hD hS hl
  exact lv_iload hx hb d (hl.2.2 _ _ h) (kk H locs ls hP hD hS hl)
theorem g_lload_n {j : Fin 4} {x : Int64} (hF : Ok F cc own dd kM nM) (d : decode cc pc = .ok (.lload_n j, 1)) (h : lv[(j : Nat)]? = some (some (.long x))) (kk : G F k n gs (pc + 1) lv (.long x :: st)) : G F k n gs pc lv st := by
  obtain ⟨⟨l, D, cy⟩, p, e, R, s, m, args, below, meth, c, A, nL, X, Q⟩ := F
  obtain ⟨hx, hb, hml, hown, hts, hK, hA, hd1, hd2, hk1, hk2, hX⟩ := hF
  intro H locs ls hP hD hS hl
  exact lv_lload_n hx hb d rfl (hl.2.2 _ _ h) (kk H locs ls hP hD hS hl)
theorem g_lload {i : Nat} {x : Int64} (hF : Ok F cc own dd kM nM) (d : decode cc pc = .ok (.lload i, 2)) (h : lv[i]? = some (some (.long x))) (kk : G F k n gs (pc + 2) lv (.long x :: st)) : G F k n gs pc lv st := by
  obtain ⟨⟨l, D, cy⟩, p, e, R, s, m, args, below, meth, c, A, nL, X, Q⟩ := F
  obtain ⟨hx, hb, hml, hown, hts, hK, hA, hd1, hd2, hk1, hk2, hX⟩ := hF
  intro H locs ls hP hD hS hl
  exact lv_lload hx hb d (hl.2.2 _ _ h) (kk H locs ls hP hD hS hl)
theorem g_aload_n {j : Fin 4} {x : Nat} (hF : Ok F cc own dd kM nM) (d : decode cc pc = .ok (.aload_n j, 1)) (h : lv[(j : Nat)]? = some (some (.ref x))) (kk : G F k n gs (pc + 1) lv (.ref x :: st)) : G F k n gs pc lv st := by
  obtain ⟨⟨l, D, cy⟩, p, e, R, s, m, args, below, meth, c, A, nL, X, Q⟩ := F
  obtain ⟨hx, hb, hml, hown, hts, hK, hA, hd1, hd2, hk1, hk2, hX⟩ := hF
  intro H locs ls hP hD hS hl
  exact lv_aload_n hx hb d rfl (hl.2.2 _ _ h) (kk H locs ls hP hD hS hl)
theorem g_aload {i : Nat} {x : Nat} (hF : Ok F cc own dd kM nM) (d : decode cc pc = .ok (.aload i, 2)) (h : lv[i]? = some (some (.ref x))) (kk : G F k n gs (pc + 2) lv (.ref x :: st)) : G F k n gs pc lv st := by
  obtain ⟨⟨l, D, cy⟩, p, e, R, s, m, args, below, meth, c, A, nL, X, Q⟩ := F
  obtain ⟨hx, hb, hml, hown, hts, hK, hA, hd1, hd2, hk1, hk2, hX⟩ := hF
  intro H locs ls hP hD hS hl
  exact lv_aload hx hb d (hl.2.2 _ _ h) (kk H locs ls hP hD hS hl)
theorem g_aload_nN {j : Fin 4} (hF : Ok F cc own dd kM nM) (d : decode cc pc = .ok (.aload_n j, 1)) (h : lv[(j : Nat)]? = some (some .null)) (kk : G F k n gs (pc + 1) lv (.null :: st)) : G F k n gs pc lv st := by
  obtain ⟨⟨l, D, cy⟩, p, e, R, s, m, args, below, meth, c, A, nL, X, Q⟩ := F
  obtain ⟨hx, hb, hml, hown, hts, hK, hA, hd1, hd2, hk1, hk2, hX⟩ := hF
  intro H locs ls hP hD hS hl
  exact lv_aload_nN hx hb d rfl (hl.2.2 _ _ h) (kk H locs ls hP hD hS hl)
theorem g_aloadN {i : Nat} (hF : Ok F cc own dd kM nM) (d : decode cc pc = .ok (.aload i, 2)) (h : lv[i]? = some (some .null)) (kk : G F k n gs (pc + 2) lv (.null :: st)) : G F k n gs pc lv st := by
  obtain ⟨⟨l, D, cy⟩, p, e, R, s, m, args, below, meth, c, A, nL, X, Q⟩ := F
  obtain ⟨hx, hb, hml, hown, hts, hK, hA, hd1, hd2, hk1, hk2, hX⟩ := hF
  intro H locs ls hP hD hS hl
  exact lv_aloadN hx hb d (hl.2.2 _ _ h) (kk H locs ls hP hD hS hl)
theorem g_istore_n {j : Fin 4} {x : Int32} (hF : Ok F cc own dd kM nM) (d : decode cc pc = .ok (.istore_n j, 1)) (hi : (j : Nat) < lv.length) (ho : okst lv (j : Nat) = true) (kk : G F k n gs (pc + 1) (lv.set (j : Nat) (some (.int x))) st) : G F k n gs pc lv ((.int x) :: st) := by
  obtain ⟨⟨l, D, cy⟩, p, e, R, s, m, args, below, meth, c, A, nL, X, Q⟩ := F
  obtain ⟨hx, hb, hml, hown, hts, hK, hA, hd1, hd2, hk1, hk2, hX⟩ := hF
  intro H locs ls hP hD hS hl
  exact lv_istore_n hx hb d rfl (hasP_has hl) (by rw [← hl.1.2]; exact hi) rfl (fun ls1 hl1 => kk H locs ls1 hP hD hS (hasP_set hl.1.2 ho hl1))
theorem g_istore {i : Nat} {x : Int32} (hF : Ok F cc own dd kM nM) (d : decode cc pc = .ok (.istore i, 2)) (hi : i < lv.length) (ho : okst lv i = true) (kk : G F k n gs (pc + 2) (lv.set i (some (.int x))) st) : G F k n gs pc lv ((.int x) :: st) := by
  obtain ⟨⟨l, D, cy⟩, p, e, R, s, m, args, below, meth, c, A, nL, X, Q⟩ := F
  obtain ⟨hx, hb, hml, hown, hts, hK, hA, hd1, hd2, hk1, hk2, hX⟩ := hF
  intro H locs ls hP hD hS hl
  exact lv_istore hx hb d (hasP_has hl) (by rw [← hl.1.2]; exact hi) rfl (fun ls1 hl1 => kk H locs ls1 hP hD hS (hasP_set hl.1.2 ho hl1))
theorem g_astore_n {j : Fin 4} {x : Nat} (hF : Ok F cc own dd kM nM) (d : decode cc pc = .ok (.astore_n j, 1)) (hi : (j : Nat) < lv.length) (ho : okst lv (j : Nat) = true) (kk : G F k n gs (pc + 1) (lv.set (j : Nat) (some (.ref x))) st) : G F k n gs pc lv ((.ref x) :: st) := by
  obtain ⟨⟨l, D, cy⟩, p, e, R, s, m, args, below, meth, c, A, nL, X, Q⟩ := F
  obtain ⟨hx, hb, hml, hown, hts, hK, hA, hd1, hd2, hk1, hk2, hX⟩ := hF
  intro H locs ls hP hD hS hl
  exact lv_astore_n hx hb d rfl (hasP_has hl) (by rw [← hl.1.2]; exact hi) rfl (fun ls1 hl1 => kk H locs ls1 hP hD hS (hasP_set hl.1.2 ho hl1))
theorem g_astore {i : Nat} {x : Nat} (hF : Ok F cc own dd kM nM) (d : decode cc pc = .ok (.astore i, 2)) (hi : i < lv.length) (ho : okst lv i = true) (kk : G F k n gs (pc + 2) (lv.set i (some (.ref x))) st) : G F k n gs pc lv ((.ref x) :: st) := by
  obtain ⟨⟨l, D, cy⟩, p, e, R, s, m, args, below, meth, c, A, nL, X, Q⟩ := F
  obtain ⟨hx, hb, hml, hown, hts, hK, hA, hd1, hd2, hk1, hk2, hX⟩ := hF
  intro H locs ls hP hD hS hl
  exact lv_astore hx hb d (hasP_has hl) (by rw [← hl.1.2]; exact hi) rfl (fun ls1 hl1 => kk H locs ls1 hP hD hS (hasP_set hl.1.2 ho hl1))
theorem g_astore_nN {j : Fin 4}  (hF : Ok F cc own dd kM nM) (d : decode cc pc = .ok (.astore_n j, 1)) (hi : (j : Nat) < lv.length) (ho : okst lv (j : Nat) = true) (kk : G F k n gs (pc + 1) (lv.set (j : Nat) (some .null)) st) : G F k n gs pc lv (.null :: st) := by
  obtain ⟨⟨l, D, cy⟩, p, e, R, s, m, args, below, meth, c, A, nL, X, Q⟩ := F
  obtain ⟨hx, hb, hml, hown, hts, hK, hA, hd1, hd2, hk1, hk2, hX⟩ := hF
  intro H locs ls hP hD hS hl
  exact lv_astore_nN hx hb d rfl (hasP_has hl) (by rw [← hl.1.2]; exact hi) rfl (fun ls1 hl1 => kk H locs ls1 hP hD hS (hasP_set hl.1.2 ho hl1))
theorem g_astoreN {i : Nat}  (hF : Ok F cc own dd kM nM) (d : decode cc pc = .ok (.astore i, 2)) (hi : i < lv.length) (ho : okst lv i = true) (kk : G F k n gs (pc + 2) (lv.set i (some .null)) st) : G F k n gs pc lv (.null :: st) := by
  obtain ⟨⟨l, D, cy⟩, p, e, R, s, m, args, below, meth, c, A, nL, X, Q⟩ := F
  obtain ⟨hx, hb, hml, hown, hts, hK, hA, hd1, hd2, hk1, hk2, hX⟩ := hF
  intro H locs ls hP hD hS hl
  exact lv_astoreN hx hb d (hasP_has hl) (by rw [← hl.1.2]; exact hi) rfl (fun ls1 hl1 => kk H locs ls1 hP hD hS (hasP_set hl.1.2 ho hl1))
theorem g_lstore_n {j : Fin 4} {x : Int64} (hF : Ok F cc own dd kM nM) (d : decode cc pc = .ok (.lstore_n j, 1)) (hi : (j : Nat) + 1 < lv.length) (ho : okst lv (j : Nat) = true) (kk : G F k n gs (pc + 1) ((lv.set (j : Nat) (some (.long x))).set ((j : Nat) + 1) none) st) : G F k n gs pc lv (.long x :: st) := by
  obtain ⟨⟨l, D, cy⟩, p, e, R, s, m, args, below, meth, c, A, nL, X, Q⟩ := F
  obtain ⟨hx, hb, hml, hown, hts, hK, hA, hd1, hd2, hk1, hk2, hX⟩ := hF
  intro H locs ls hP hD hS hl
  exact lv_lstore_n hx hb d rfl (hasP_has hl) (by rw [← hl.1.2]; exact hi) rfl (fun ls1 hl1 => kk H locs ls1 hP hD hS (hasP_set2 hl.1.2 ho hl1))
theorem g_lstore {i : Nat} {x : Int64} (hF : Ok F cc own dd kM nM) (d : decode cc pc = .ok (.lstore i, 2)) (hi : i + 1 < lv.length) (ho : okst lv i = true) (kk : G F k n gs (pc + 2) ((lv.set i (some (.long x))).set (i + 1) none) st) : G F k n gs pc lv (.long x :: st) := by
  obtain ⟨⟨l, D, cy⟩, p, e, R, s, m, args, below, meth, c, A, nL, X, Q⟩ := F
  obtain ⟨hx, hb, hml, hown, hts, hK, hA, hd1, hd2, hk1, hk2, hX⟩ := hF
  intro H locs ls hP hD hS hl
  exact lv_lstore hx hb d (hasP_has hl) (by rw [← hl.1.2]; exact hi) rfl (fun ls1 hl1 => kk H locs ls1 hP hD hS (hasP_set2 hl.1.2 ho hl1))
theorem g_iinc {i : Nat} {z : Int} {x v : Int32} (hF : Ok F cc own dd kM nM) (d : decode cc pc = .ok (.iinc i z, 3)) (h : lv[i]? = some (some (.int x))) (hv : x + Int32.ofInt z = v) (ho : okst lv i = true) (kk : G F k n gs (pc + 3) (lv.set i (some (.int v))) st) : G F k n gs pc lv st := by
  obtain ⟨⟨l, D, cy⟩, p, e, R, s, m, args, below, meth, c, A, nL, X, Q⟩ := F
  obtain ⟨hx, hb, hml, hown, hts, hK, hA, hd1, hd2, hk1, hk2, hX⟩ := hF
  intro H locs ls hP hD hS hl
  obtain ⟨j, hj⟩ := List.getElem?_of_mem (mem_prs.mpr h)
  exact lv_iinc hx hb d (hasP_has hl) hj hv (by rw [← hl.1.2]; exact (List.getElem?_eq_some_iff.mp h).1) rfl (fun ls1 hl1 => kk H locs ls1 hP hD hS (hasP_set hl.1.2 ho hl1))
theorem g_iadd {x y : Int32} (hF : Ok F cc own dd kM nM) (d : decode cc pc = .ok (.iadd, 1)) (kk : G F k n gs (pc + 1) lv (.int (x + y) :: st)) : G F k n gs pc lv (.int y :: .int x :: st) := by
  obtain ⟨⟨l, D, cy⟩, p, e, R, s, m, args, below, meth, c, A, nL, X, Q⟩ := F
  obtain ⟨hx, hb, hml, hown, hts, hK, hA, hd1, hd2, hk1, hk2, hX⟩ := hF
  intro H locs ls hP hD hS hl
  exact lv_iadd hx hb d (kk H locs ls hP hD hS hl)
theorem g_isub {x y : Int32} (hF : Ok F cc own dd kM nM) (d : decode cc pc = .ok (.isub, 1)) (kk : G F k n gs (pc + 1) lv (.int (x - y) :: st)) : G F k n gs pc lv (.int y :: .int x :: st) := by
  obtain ⟨⟨l, D, cy⟩, p, e, R, s, m, args, below, meth, c, A, nL, X, Q⟩ := F
  obtain ⟨hx, hb, hml, hown, hts, hK, hA, hd1, hd2, hk1, hk2, hX⟩ := hF
  intro H locs ls hP hD hS hl
  exact lv_isub hx hb d (kk H locs ls hP hD hS hl)
theorem g_imul {x y : Int32} (hF : Ok F cc own dd kM nM) (d : decode cc pc = .ok (.imul, 1)) (kk : G F k n gs (pc + 1) lv (.int (x * y) :: st)) : G F k n gs pc lv (.int y :: .int x :: st) := by
  obtain ⟨⟨l, D, cy⟩, p, e, R, s, m, args, below, meth, c, A, nL, X, Q⟩ := F
  obtain ⟨hx, hb, hml, hown, hts, hK, hA, hd1, hd2, hk1, hk2, hX⟩ := hF
  intro H locs ls hP hD hS hl
  exact lv_imul hx hb d (kk H locs ls hP hD hS hl)
theorem g_iand {x y : Int32} (hF : Ok F cc own dd kM nM) (d : decode cc pc = .ok (.iand, 1)) (kk : G F k n gs (pc + 1) lv (.int (x &&& y) :: st)) : G F k n gs pc lv (.int y :: .int x :: st) := by
  obtain ⟨⟨l, D, cy⟩, p, e, R, s, m, args, below, meth, c, A, nL, X, Q⟩ := F
  obtain ⟨hx, hb, hml, hown, hts, hK, hA, hd1, hd2, hk1, hk2, hX⟩ := hF
  intro H locs ls hP hD hS hl
  exact lv_iand hx hb d (kk H locs ls hP hD hS hl)
theorem g_ishr {x y : Int32} (hF : Ok F cc own dd kM nM) (d : decode cc pc = .ok (.ishr, 1)) (kk : G F k n gs (pc + 1) lv (.int (x >>> (y &&& 31)) :: st)) : G F k n gs pc lv (.int y :: .int x :: st) := by
  obtain ⟨⟨l, D, cy⟩, p, e, R, s, m, args, below, meth, c, A, nL, X, Q⟩ := F
  obtain ⟨hx, hb, hml, hown, hts, hK, hA, hd1, hd2, hk1, hk2, hX⟩ := hF
  intro H locs ls hP hD hS hl
  exact lv_ishr hx hb d (kk H locs ls hP hD hS hl)
theorem g_idiv {x y : Int32} (hF : Ok F cc own dd kM nM) (d : decode cc pc = .ok (.idiv, 1)) (hne : ¬ y = 0) (kk : G F k n gs (pc + 1) lv (.int (x / y) :: st)) : G F k n gs pc lv (.int y :: .int x :: st) := by
  obtain ⟨⟨l, D, cy⟩, p, e, R, s, m, args, below, meth, c, A, nL, X, Q⟩ := F
  obtain ⟨hx, hb, hml, hown, hts, hK, hA, hd1, hd2, hk1, hk2, hX⟩ := hF
  intro H locs ls hP hD hS hl
  exact lv_idiv hx hb d hne (kk H locs ls hP hD hS hl)
theorem g_irem {x y : Int32} (hF : Ok F cc own dd kM nM) (d : decode cc pc = .ok (.irem, 1)) (hne : ¬ y = 0) (kk : G F k n gs (pc + 1) lv (.int (x - x / y * y) :: st)) : G F k n gs pc lv (.int y :: .int x :: st) := by
  obtain ⟨⟨l, D, cy⟩, p, e, R, s, m, args, below, meth, c, A, nL, X, Q⟩ := F
  obtain ⟨hx, hb, hml, hown, hts, hK, hA, hd1, hd2, hk1, hk2, hX⟩ := hF
  intro H locs ls hP hD hS hl
  exact lv_irem hx hb d hne (kk H locs ls hP hD hS hl)
theorem g_ladd {x y : Int64} (hF : Ok F cc own dd kM nM) (d : decode cc pc = .ok (.ladd, 1)) (kk : G F k n gs (pc + 1) lv (.long (x + y) :: st)) : G F k n gs pc lv (.long y :: .long x :: st) := by
  obtain ⟨⟨l, D, cy⟩, p, e, R, s, m, args, below, meth, c, A, nL, X, Q⟩ := F
  obtain ⟨hx, hb, hml, hown, hts, hK, hA, hd1, hd2, hk1, hk2, hX⟩ := hF
  intro H locs ls hP hD hS hl
  exact lv_ladd hx hb d (kk H locs ls hP hD hS hl)
theorem g_lmul {x y : Int64} (hF : Ok F cc own dd kM nM) (d : decode cc pc = .ok (.lmul, 1)) (kk : G F k n gs (pc + 1) lv (.long (x * y) :: st)) : G F k n gs pc lv (.long y :: .long x :: st) := by
  obtain ⟨⟨l, D, cy⟩, p, e, R, s, m, args, below, meth, c, A, nL, X, Q⟩ := F
  obtain ⟨hx, hb, hml, hown, hts, hK, hA, hd1, hd2, hk1, hk2, hX⟩ := hF
  intro H locs ls hP hD hS hl
  exact lv_lmul hx hb d (kk H locs ls hP hD hS hl)
theorem g_i2l {x : Int32} (hF : Ok F cc own dd kM nM) (d : decode cc pc = .ok (.i2l, 1)) (kk : G F k n gs (pc + 1) lv (.long x.toInt64 :: st)) : G F k n gs pc lv (.int x :: st) := by
  obtain ⟨⟨l, D, cy⟩, p, e, R, s, m, args, below, meth, c, A, nL, X, Q⟩ := F
  obtain ⟨hx, hb, hml, hown, hts, hK, hA, hd1, hd2, hk1, hk2, hX⟩ := hF
  intro H locs ls hP hD hS hl
  exact lv_i2l hx hb d rfl (kk H locs ls hP hD hS hl)
theorem g_i2d {x : Int32} (hF : Ok F cc own dd kM nM) (d : decode cc pc = .ok (.i2d, 1)) (kk : G F k n gs (pc + 1) lv (.double (FP.i2d x) :: st)) : G F k n gs pc lv (.int x :: st) := by
  obtain ⟨⟨l, D, cy⟩, p, e, R, s, m, args, below, meth, c, A, nL, X, Q⟩ := F
  obtain ⟨hx, hb, hml, hown, hts, hK, hA, hd1, hd2, hk1, hk2, hX⟩ := hF
  intro H locs ls hP hD hS hl
  exact lv_i2d hx hb d (kk H locs ls hP hD hS hl)
theorem g_ddiv {x y : UInt64} (hF : Ok F cc own dd kM nM) (d : decode cc pc = .ok (.ddiv, 1)) (hne : vf_n64 (FP.ddiv x y)) (kk : G F k n gs (pc + 1) lv (.double (FP.ddiv x y) :: st)) : G F k n gs pc lv (.double y :: .double x :: st) := by
  obtain ⟨⟨l, D, cy⟩, p, e, R, s, m, args, below, meth, c, A, nL, X, Q⟩ := F
  obtain ⟨hx, hb, hml, hown, hts, hK, hA, hd1, hd2, hk1, hk2, hX⟩ := hF
  intro H locs ls hP hD hS hl
  exact lv_ddiv hx hb d hne (kk H locs ls hP hD hS hl)
theorem g_dcmp {x y : UInt64} {op : CmpOp} (hF : Ok F cc own dd kM nM) (d : decode cc pc = .ok (.dcmp op, 1)) (kk : G F k n gs (pc + 1) lv (.int (Op.cmpValue (FP.dcmp x y) op) :: st)) : G F k n gs pc lv (.double y :: .double x :: st) := by
  obtain ⟨⟨l, D, cy⟩, p, e, R, s, m, args, below, meth, c, A, nL, X, Q⟩ := F
  obtain ⟨hx, hb, hml, hown, hts, hK, hA, hd1, hd2, hk1, hk2, hX⟩ := hF
  intro H locs ls hP hD hS hl
  exact lv_dcmp hx hb d (kk H locs ls hP hD hS hl)
theorem g_lcmp {x y : Int64} (hF : Ok F cc own dd kM nM) (d : decode cc pc = .ok (.lcmp, 1)) (kk : G F k n gs (pc + 1) lv (.int (lg_cmp x y) :: st)) : G F k n gs pc lv (.long y :: .long x :: st) := by
  obtain ⟨⟨l, D, cy⟩, p, e, R, s, m, args, below, meth, c, A, nL, X, Q⟩ := F
  obtain ⟨hx, hb, hml, hown, hts, hK, hA, hd1, hd2, hk1, hk2, hX⟩ := hF
  intro H locs ls hP hD hS hl
  exact W.lcmp hx hb d (kk H locs ls hP hD hS hl)
theorem g_dup {v : Value} (hF : Ok F cc own dd kM nM) (d : decode cc pc = .ok (.dup, 1)) (hv : v.category = 1) (kk : G F k n gs (pc + 1) lv (v :: v :: st)) : G F k n gs pc lv (v :: st) := by
  obtain ⟨⟨l, D, cy⟩, p, e, R, s, m, args, below, meth, c, A, nL, X, Q⟩ := F
  obtain ⟨hx, hb, hml, hown, hts, hK, hA, hd1, hd2, hk1, hk2, hX⟩ := hF
  intro H locs ls hP hD hS hl
  exact lv_dup hx hb d hv (kk H locs ls hP hD hS hl)
theorem g_dup_x1 {v w : Value} (hF : Ok F cc own dd kM nM) (d : decode cc pc = .ok (.dup_x1, 1)) (hv : v.category = 1) (hw : w.category = 1) (kk : G F k n gs (pc + 1) lv (v :: w :: v :: st)) : G F k n gs pc lv (v :: w :: st) := by
  obtain ⟨⟨l, D, cy⟩, p, e, R, s, m, args, below, meth, c, A, nL, X, Q⟩ := F
  obtain ⟨hx, hb, hml, hown, hts, hK, hA, hd1, hd2, hk1, hk2, hX⟩ := hF
  intro H locs ls hP hD hS hl
  exact lv_dup_x1 hx hb d hv hw (kk H locs ls hP hD hS hl)
theorem g_pop {v : Value} (hF : Ok F cc own dd kM nM) (d : decode cc pc = .ok (.pop, 1)) (hv : v.category = 1) (kk : G F k n gs (pc + 1) lv st) : G F k n gs pc lv (v :: st) := by
  obtain ⟨⟨l, D, cy⟩, p, e, R, s, m, args, below, meth, c, A, nL, X, Q⟩ := F
  obtain ⟨hx, hb, hml, hown, hts, hK, hA, hd1, hd2, hk1, hk2, hX⟩ := hF
  intro H locs ls hP hD hS hl
  exact lv_pop hx hb d hv (kk H locs ls hP hD hS hl)
theorem g_if_eq {x : Int32} (hF : Ok F cc own dd kM nM) {off : Int} {tgt : Nat} (d : decode cc pc = .ok (.ifCond .eq off, 3)) (ht : (pc : Int) + off = (tgt : Int)) (kt : x = 0 → G F k n gs tgt lv st) (kf : ¬ x = 0 → G F k n gs (pc + 3) lv st) : G F k n gs pc lv (.int x :: st) := by
  obtain ⟨⟨l, D, cy⟩, p, e, R, s, m, args, below, meth, c, A, nL, X, Q⟩ := F
  obtain ⟨hx, hb, hml, hown, hts, hK, hA, hd1, hd2, hk1, hk2, hX⟩ := hF
  intro H locs ls hP hD hS hl
  exact lv_if_eq hx hb d ht (fun q => kt q H locs ls hP hD hS hl) (fun q => kf q H locs ls hP hD hS hl)
theorem g_if_ne {x : Int32} (hF : Ok F cc own dd kM nM) {off : Int} {tgt : Nat} (d : decode cc pc = .ok (.ifCond .ne off, 3)) (ht : (pc : Int) + off = (tgt : Int)) (kt : ¬ x = 0 → G F k n gs tgt lv st) (kf : x = 0 → G F k n gs (pc + 3) lv st) : G F k n gs pc lv (.int x :: st) := by
  obtain ⟨⟨l, D, cy⟩, p, e, R, s, m, args, below, meth, c, A, nL, X, Q⟩ := F
  obtain ⟨hx, hb, hml, hown, hts, hK, hA, hd1, hd2, hk1, hk2, hX⟩ := hF
  intro H locs ls hP hD hS hl
  exact lv_if_ne hx hb d ht (fun q => kt q H locs ls hP hD hS hl) (fun q => kf q H locs ls hP hD hS hl)
theorem g_if_lt {x : Int32} (hF : Ok F cc own dd kM nM) {off : Int} {tgt : Nat} (d : decode cc pc = .ok (.ifCond .lt off, 3)) (ht : (pc : Int) + off = (tgt : Int)) (kt : x < 0 → G F k n gs tgt lv st) (kf : ¬ x < 0 → G F k n gs (pc + 3) lv st) : G F k n gs pc lv (.int x :: st) := by
  obtain ⟨⟨l, D, cy⟩, p, e, R, s, m, args, below, meth, c, A, nL, X, Q⟩ := F
  obtain ⟨hx, hb, hml, hown, hts, hK, hA, hd1, hd2, hk1, hk2, hX⟩ := hF
  intro H locs ls hP hD hS hl
  exact lv_if_lt hx hb d ht (fun q => kt q H locs ls hP hD hS hl) (fun q => kf q H locs ls hP hD hS hl)
theorem g_if_ge {x : Int32} (hF : Ok F cc own dd kM nM) {off : Int} {tgt : Nat} (d : decode cc pc = .ok (.ifCond .ge off, 3)) (ht : (pc : Int) + off = (tgt : Int)) (kt : 0 ≤ x → G F k n gs tgt lv st) (kf : ¬ 0 ≤ x → G F k n gs (pc + 3) lv st) : G F k n gs pc lv (.int x :: st) := by
  obtain ⟨⟨l, D, cy⟩, p, e, R, s, m, args, below, meth, c, A, nL, X, Q⟩ := F
  obtain ⟨hx, hb, hml, hown, hts, hK, hA, hd1, hd2, hk1, hk2, hX⟩ := hF
  intro H locs ls hP hD hS hl
  exact lv_if_ge hx hb d ht (fun q => kt q H locs ls hP hD hS hl) (fun q => kf q H locs ls hP hD hS hl)
theorem g_if_gt {x : Int32} (hF : Ok F cc own dd kM nM) {off : Int} {tgt : Nat} (d : decode cc pc = .ok (.ifCond .gt off, 3)) (ht : (pc : Int) + off = (tgt : Int)) (kt : 0 < x → G F k n gs tgt lv st) (kf : ¬ 0 < x → G F k n gs (pc + 3) lv st) : G F k n gs pc lv (.int x :: st) := by
  obtain ⟨⟨l, D, cy⟩, p, e, R, s, m, args, below, meth, c, A, nL, X, Q⟩ := F
  obtain ⟨hx, hb, hml, hown, hts, hK, hA, hd1, hd2, hk1, hk2, hX⟩ := hF
  intro H locs ls hP hD hS hl
  exact lv_if_gt hx hb d ht (fun q => kt q H locs ls hP hD hS hl) (fun q => kf q H locs ls hP hD hS hl)
theorem g_if_le {x : Int32} (hF : Ok F cc own dd kM nM) {off : Int} {tgt : Nat} (d : decode cc pc = .ok (.ifCond .le off, 3)) (ht : (pc : Int) + off = (tgt : Int)) (kt : x ≤ 0 → G F k n gs tgt lv st) (kf : ¬ x ≤ 0 → G F k n gs (pc + 3) lv st) : G F k n gs pc lv (.int x :: st) := by
  obtain ⟨⟨l, D, cy⟩, p, e, R, s, m, args, below, meth, c, A, nL, X, Q⟩ := F
  obtain ⟨hx, hb, hml, hown, hts, hK, hA, hd1, hd2, hk1, hk2, hX⟩ := hF
  intro H locs ls hP hD hS hl
  exact lv_if_le hx hb d ht (fun q => kt q H locs ls hP hD hS hl) (fun q => kf q H locs ls hP hD hS hl)
theorem g_icmp_eq {x y : Int32} (hF : Ok F cc own dd kM nM) {off : Int} {tgt : Nat} (d : decode cc pc = .ok (.if_icmp .eq off, 3)) (ht : (pc : Int) + off = (tgt : Int)) (kt : x = y → G F k n gs tgt lv st) (kf : ¬ x = y → G F k n gs (pc + 3) lv st) : G F k n gs pc lv (.int y :: .int x :: st) := by
  obtain ⟨⟨l, D, cy⟩, p, e, R, s, m, args, below, meth, c, A, nL, X, Q⟩ := F
  obtain ⟨hx, hb, hml, hown, hts, hK, hA, hd1, hd2, hk1, hk2, hX⟩ := hF
  intro H locs ls hP hD hS hl
  exact lv_icmp_eq hx hb d ht (fun q => kt q H locs ls hP hD hS hl) (fun q => kf q H locs ls hP hD hS hl)
theorem g_icmp_ne {x y : Int32} (hF : Ok F cc own dd kM nM) {off : Int} {tgt : Nat} (d : decode cc pc = .ok (.if_icmp .ne off, 3)) (ht : (pc : Int) + off = (tgt : Int)) (kt : ¬ x = y → G F k n gs tgt lv st) (kf : x = y → G F k n gs (pc + 3) lv st) : G F k n gs pc lv (.int y :: .int x :: st) := by
  obtain ⟨⟨l, D, cy⟩, p, e, R, s, m, args, below, meth, c, A, nL, X, Q⟩ := F
  obtain ⟨hx, hb, hml, hown, hts, hK, hA, hd1, hd2, hk1, hk2, hX⟩ := hF
  intro H locs ls hP hD hS hl
  exact lv_icmp_ne hx hb d ht (fun q => kt q H locs ls hP hD hS hl) (fun q => kf q H locs ls hP hD hS hl)
theorem g_icmp_lt {x y : Int32} (hF : Ok F cc own dd kM nM) {off : Int} {tgt : Nat} (d : decode cc pc = .ok (.if_icmp .lt off, 3)) (ht : (pc : Int) + off = (tgt : Int)) (kt : x < y → G F k n gs tgt lv st) (kf : ¬ x < y → G F k n gs (pc + 3) lv st) : G F k n gs pc lv (.int y :: .int x :: st) := by
  obtain ⟨⟨l, D, cy⟩, p, e, R, s, m, args, below, meth, c, A, nL, X, Q⟩ := F
  obtain ⟨hx, hb, hml, hown, hts, hK, hA, hd1, hd2, hk1, hk2, hX⟩ := hF
  intro H locs ls hP hD hS hl
  exact lv_icmp_lt hx hb d ht (fun q => kt q H locs ls hP hD hS hl) (fun q => kf q H locs ls hP hD hS hl)
theorem g_icmp_ge {x y : Int32} (hF : Ok F cc own dd kM nM) {off : Int} {tgt : Nat} (d : decode cc pc = .ok (.if_icmp .ge off, 3)) (ht : (pc : Int) + off = (tgt : Int)) (kt : y ≤ x → G F k n gs tgt lv st) (kf : ¬ y ≤ x → G F k n gs (pc + 3) lv st) : G F k n gs pc lv (.int y :: .int x :: st) := by
  obtain ⟨⟨l, D, cy⟩, p, e, R, s, m, args, below, meth, c, A, nL, X, Q⟩ := F
  obtain ⟨hx, hb, hml, hown, hts, hK, hA, hd1, hd2, hk1, hk2, hX⟩ := hF
  intro H locs ls hP hD hS hl
  exact lv_icmp_ge hx hb d ht (fun q => kt q H locs ls hP hD hS hl) (fun q => kf q H locs ls hP hD hS hl)
theorem g_icmp_gt {x y : Int32} (hF : Ok F cc own dd kM nM) {off : Int} {tgt : Nat} (d : decode cc pc = .ok (.if_icmp .gt off, 3)) (ht : (pc : Int) + off = (tgt : Int)) (kt : y < x → G F k n gs tgt lv st) (kf : ¬ y < x → G F k n gs (pc + 3) lv st) : G F k n gs pc lv (.int y :: .int x :: st) := by
  obtain ⟨⟨l, D, cy⟩, p, e, R, s, m, args, below, meth, c, A, nL, X, Q⟩ := F
  obtain ⟨hx, hb, hml, hown, hts, hK, hA, hd1, hd2, hk1, hk2, hX⟩ := hF
  intro H locs ls hP hD hS hl
  exact lv_icmp_gt hx hb d ht (fun q => kt q H locs ls hP hD hS hl) (fun q => kf q H locs ls hP hD hS hl)
theorem g_icmp_le {x y : Int32} (hF : Ok F cc own dd kM nM) {off : Int} {tgt : Nat} (d : decode cc pc = .ok (.if_icmp .le off, 3)) (ht : (pc : Int) + off = (tgt : Int)) (kt : x ≤ y → G F k n gs tgt lv st) (kf : ¬ x ≤ y → G F k n gs (pc + 3) lv st) : G F k n gs pc lv (.int y :: .int x :: st) := by
  obtain ⟨⟨l, D, cy⟩, p, e, R, s, m, args, below, meth, c, A, nL, X, Q⟩ := F
  obtain ⟨hx, hb, hml, hown, hts, hK, hA, hd1, hd2, hk1, hk2, hX⟩ := hF
  intro H locs ls hP hD hS hl
  exact lv_icmp_le hx hb d ht (fun q => kt q H locs ls hP hD hS hl) (fun q => kf q H locs ls hP hD hS hl)
theorem g_goto (hF : Ok F cc own dd kM nM) {off : Int} {tgt : Nat} (d : decode cc pc = .ok (.goto off, 3)) (ht : (pc : Int) + off = (tgt : Int)) (kk : G F k n gs tgt lv st) : G F k n gs pc lv st := by
  obtain ⟨⟨l, D, cy⟩, p, e, R, s, m, args, below, meth, c, A, nL, X, Q⟩ := F
  obtain ⟨hx, hb, hml, hown, hts, hK, hA, hd1, hd2, hk1, hk2, hX⟩ := hF
  intro H locs ls hP hD hS hl
  exact lv_goto hx hb d ht (kk H locs ls hP hD hS hl)
theorem g_ifnonnull {x : Nat} (hF : Ok F cc own dd kM nM) {off : Int} {tgt : Nat} (d : decode cc pc = .ok (.ifnonnull off, 3)) (ht : (pc : Int) + off = (tgt : Int)) (kk : G F k n gs tgt lv st) : G F k n gs pc lv (.ref x :: st) := by
  obtain ⟨⟨l, D, cy⟩, p, e, R, s, m, args, below, meth, c, A, nL, X, Q⟩ := F
  obtain ⟨hx, hb, hml, hown, hts, hK, hA, hd1, hd2, hk1, hk2, hX⟩ := hF
  intro H locs ls hP hD hS hl
  exact lv_ifnonnull hx hb d ht (kk H locs ls hP hD hS hl)
theorem g_ifnull {x : Nat} (hF : Ok F cc own dd kM nM) {off : Int} (d : decode cc pc = .ok (.ifnull off, 3)) (kk : G F k n gs (pc + 3) lv st) : G F k n gs pc lv (.ref x :: st) := by
  obtain ⟨⟨l, D, cy⟩, p, e, R, s, m, args, below, meth, c, A, nL, X, Q⟩ := F
  obtain ⟨hx, hb, hml, hown, hts, hK, hA, hd1, hd2, hk1, hk2, hX⟩ := hF
  intro H locs ls hP hD hS hl
  exact lv_ifnull hx hb d (kk H locs ls hP hD hS hl)
theorem g_ifnullN  (hF : Ok F cc own dd kM nM) {off : Int} {tgt : Nat} (d : decode cc pc = .ok (.ifnull off, 3)) (ht : (pc : Int) + off = (tgt : Int)) (kk : G F k n gs tgt lv st) : G F k n gs pc lv (.null :: st) := by
  obtain ⟨⟨l, D, cy⟩, p, e, R, s, m, args, below, meth, c, A, nL, X, Q⟩ := F
  obtain ⟨hx, hb, hml, hown, hts, hK, hA, hd1, hd2, hk1, hk2, hX⟩ := hF
  intro H locs ls hP hD hS hl
  exact lv_ifnullN hx hb d ht (kk H locs ls hP hD hS hl)
theorem g_ifnonnullN  (hF : Ok F cc own dd kM nM) {off : Int} (d : decode cc pc = .ok (.ifnonnull off, 3)) (kk : G F k n gs (pc + 3) lv st) : G F k n gs pc lv (.null :: st) := by
  obtain ⟨⟨l, D, cy⟩, p, e, R, s, m, args, below, meth, c, A, nL, X, Q⟩ := F
  obtain ⟨hx, hb, hml, hown, hts, hK, hA, hd1, hd2, hk1, hk2, hX⟩ := hF
  intro H locs ls hP hD hS hl
  exact lv_ifnonnullN hx hb d (kk H locs ls hP hD hS hl)
theorem g_tableOut (hF : Ok F cc own dd kM nM) {x : Int32} {dflt lo hi : Int} {offs : Array Int} {len tgt : Nat} (d : decode cc pc = .ok (.tableswitch dflt lo hi offs, len)) (h : x.toInt < lo ∨ hi < x.toInt) (ht : (pc : Int) + dflt = (tgt : Int)) (kk : G F k n gs tgt lv st) : G F k n gs pc lv (.int x :: st) := by
  obtain ⟨⟨l, D, cy⟩, p, e, R, s, m, args, below, meth, c, A, nL, X, Q⟩ := F
  obtain ⟨hx, hb, hml, hown, hts, hK, hA, hd1, hd2, hk1, hk2, hX⟩ := hF
  intro H locs ls hP hD hS hl
  exact lv_tableOut hx hb d h ht (kk H locs ls hP hD hS hl)
theorem g_tableIn (hF : Ok F cc own dd kM nM) {x : Int32} {dflt lo hi : Int} {offs : Array Int} {len tgt : Nat} {off : Int} (d : decode cc pc = .ok (.tableswitch dflt lo hi offs, len)) (h1 : ¬ x.toInt < lo) (h2 : ¬ hi < x.toInt) (ho : offs[(x.toInt - lo).toNat]? = some off) (ht : (pc : Int) + off = (tgt : Int)) (kk : G F k n gs tgt lv st) : G F k n gs pc lv (.int x :: st) := by
  obtain ⟨⟨l, D, cy⟩, p, e, R, s, m, args, below, meth, c, A, nL, X, Q⟩ := F
  obtain ⟨hx, hb, hml, hown, hts, hK, hA, hd1, hd2, hk1, hk2, hX⟩ := hF
  intro H locs ls hP hD hS hl
  exact lv_tableIn hx hb d h1 h2 ho ht (kk H locs ls hP hD hS hl)
theorem g_lookup (hF : Ok F cc own dd kM nM) {x : Int32} {dflt : Int} {ps : Array (Int × Int)} {len tgt : Nat} {off : Int} (d : decode cc pc = .ok (.lookupswitch dflt ps, len)) (hp : (ps.toList.zip (ps.toList.drop 1)).all (fun (a, next) => a.1 < next.1) = true) (ho : Op.lookupswitch.offset ps.toList dflt x.toInt = off) (ht : (pc : Int) + off = (tgt : Int)) (kk : G F k n gs tgt lv st) : G F k n gs pc lv (.int x :: st) := by
  obtain ⟨⟨l, D, cy⟩, p, e, R, s, m, args, below, meth, c, A, nL, X, Q⟩ := F
  obtain ⟨hx, hb, hml, hown, hts, hK, hA, hd1, hd2, hk1, hk2, hX⟩ := hF
  intro H locs ls hP hD hS hl
  exact lv_lookup hx hb d hp ho ht (kk H locs ls hP hD hS hl)
theorem g_regroup {gs' : List va_W} (h : gs.flatten = gs'.flatten) (kk : G F k n gs' pc lv st) : G F k n gs pc lv st := by
  obtain ⟨⟨l, D, cy⟩, p, e, R, s, m, args, below, meth, c, A, nL, X, Q⟩ := F
  intro H locs ls hP hD hS hl
  exact kk H locs ls (by rw [← h]; exact hP) (by rw [← h]; exact hD) hS hl
theorem g_widen {k' n' : Nat} (hk : k ≤ k') (hn : n ≤ n') (kk : G F k' n' gs pc lv st) : G F k n gs pc lv st := by
  obtain ⟨⟨l, D, cy⟩, p, e, R, s, m, args, below, meth, c, A, nL, X, Q⟩ := F
  intro H locs ls hP hD hS hl
  exact W.widen hk hn (kk H locs ls hP hD hS hl)
/-- locals forgotten -/
theorem g_forget {lv' : List (Option Value)} (hlen : lv'.length = lv.length) (h : ∀ (i : Nat) (v : Value), lv'[i]? = some (some v) → lv[i]? = some (some v)) (kk : G F k n gs pc lv' st) : G F k n gs pc lv st := by
  obtain ⟨⟨l, D, cy⟩, p, e, R, s, m, args, below, meth, c, A, nL, X, Q⟩ := F
  intro H locs ls hP hD hS hl
  exact kk H locs ls hP hD hS ⟨⟨hl.1.1, hlen.trans hl.1.2⟩, hl.2.1, fun i v q => hl.2.2 i v (h i v q)⟩
/-- groups forgotten -/
theorem g_drop {gs' : List va_W} (x : va_W) (h : gs.flatten.Perm (gs'.flatten ++ x)) (kk : G F k n gs' pc lv st) : G F k n gs pc lv st := by
  obtain ⟨⟨l, D, cy⟩, p, e, R, s, m, args, below, meth, c, A, nL, X, Q⟩ := F
  intro H locs ls hP hD hS hl
  exact kk H locs ls (wP_left (wP_perm h hP)) (wD_left (wD_perm h hD)) hS hl
end GK4
section GK5
variable {F : Fix} {cc : ByteArray} {own : String} {dd kM nM k n pc : Nat} {gs : List va_W} {lv : List (Option Value)} {st : List Value}
variable {gs0 : List va_W} {Po : Option Value → List va_W → Prop} {mc ms : Nat}
theorem g_vret (hF : Ok F cc own dd kM nM) (hR : OkR F gs0 Po mc ms none) (d : decode cc pc = .ok (.return_, 1)) (hp : Po none gs) : G F mc ms gs pc lv [] := by
  obtain ⟨⟨l, D, cy⟩, p, e, R, s, m, args, below, meth, c, A, nL, X, Q⟩ := F
  obtain ⟨hx, hb, hml, hown, hts, hK, hA, hd1, hd2, hk1, hk2, hX⟩ := hF
  obtain ⟨hr, hlocks, rfl, rfl⟩ := hR
  intro H locs ls hP hD hS hl
  exact W.vret hx hb hr (fun t ht hW => ⟨⟨_, gs, rfl, hp, by rw [ht]; exact hP, hD⟩, hS.F ht⟩) hS.2.2 d hlocks
theorem g_iret (hF : Ok F cc own dd kM nM) (hR : OkR F gs0 Po mc ms (some .int)) {v : Int32} (d : decode cc pc = .ok (.ireturn, 1)) (hp : Po (some (.int v)) gs) : G F mc ms gs pc lv [.int v] := by
  obtain ⟨⟨l, D, cy⟩, p, e, R, s, m, args, below, meth, c, A, nL, X, Q⟩ := F
  obtain ⟨hx, hb, hml, hown, hts, hK, hA, hd1, hd2, hk1, hk2, hX⟩ := hF
  obtain ⟨hr, hlocks, rfl, rfl⟩ := hR
  intro H locs ls hP hD hS hl
  exact W.iret hx hb hr (fun t ht hW => ⟨⟨_, gs, rfl, hp, by rw [ht]; exact hP, hD⟩, hS.F ht⟩) hS.2.2 d hlocks
theorem g_zret {v : Int32} (hF : Ok F cc own dd kM nM) (hR : OkR F gs0 Po mc ms (some .boolean)) (d : decode cc pc = .ok (.ireturn, 1)) (hn : narrow .boolean (.int v) = .int v) (hp : Po (some (.int v)) gs) : G F mc ms gs pc lv [.int v] := by
  obtain ⟨⟨l, D, cy⟩, p, e, R, s, m, args, below, meth, c, A, nL, X, Q⟩ := F
  obtain ⟨hx, hb, hml, hown, hts, hK, hA, hd1, hd2, hk1, hk2, hX⟩ := hF
  obtain ⟨hr, hlocks, rfl, rfl⟩ := hR
  intro H locs ls hP hD hS hl
  exact W.zret hx hb hr hn (fun t ht hW => ⟨⟨_, gs, rfl, hp, by rw [ht]; exact hP, hD⟩, hS.F ht⟩) hS.2.2 d hlocks
theorem g_lret {v : Int64} (hF : Ok F cc own dd kM nM) (hR : OkR F gs0 Po mc ms (some .long)) (d : decode cc pc = .ok (.lreturn, 1)) (hp : Po (some (.long v)) gs) : G F mc ms gs pc lv [.long v] := by
  obtain ⟨⟨l, D, cy⟩, p, e, R, s, m, args, below, meth, c, A, nL, X, Q⟩ := F
  obtain ⟨hx, hb, hml, hown, hts, hK, hA, hd1, hd2, hk1, hk2, hX⟩ := hF
  obtain ⟨hr, hlocks, rfl, rfl⟩ := hR
  intro H locs ls hP hD hS hl
  exact W.lret hx hb hr (fun t ht hW => ⟨⟨_, gs, rfl, hp, by rw [ht]; exact hP, hD⟩, hS.F ht⟩) hS.2.2 d hlocks
theorem g_dret {v : UInt64} (hF : Ok F cc own dd kM nM) (hR : OkR F gs0 Po mc ms (some .double)) (d : decode cc pc = .ok (.dreturn, 1)) (hp : Po (some (.double v)) gs) : G F mc ms gs pc lv [.double v] := by
  obtain ⟨⟨l, D, cy⟩, p, e, R, s, m, args, below, meth, c, A, nL, X, Q⟩ := F
  obtain ⟨hx, hb, hml, hown, hts, hK, hA, hd1, hd2, hk1, hk2, hX⟩ := hF
  obtain ⟨hr, hlocks, rfl, rfl⟩ := hR
  intro H locs ls hP hD hS hl
  exact W.dret hx hb hr (fun t ht hW => ⟨⟨_, gs, rfl, hp, by rw [ht]; exact hP, hD⟩, hS.F ht⟩) hS.2.2 d hlocks
theorem g_aret {v : Value} {rt : FieldType} (hF : Ok F cc own dd kM nM) (hR : OkR F gs0 Po mc ms (some rt)) (hrt : (∃ n, rt = .object n) ∨ ∃ t, rt = .array t) (hv : v = .null ∨ ∃ a, v = .ref a) (d : decode cc pc = .ok (.areturn, 1)) (hp : Po (some v) gs) : G F mc ms gs pc lv [v] := by
  obtain ⟨⟨l, D, cy⟩, p, e, R, s, m, args, below, meth, c, A, nL, X, Q⟩ := F
  obtain ⟨hx, hb, hml, hown, hts, hK, hA, hd1, hd2, hk1, hk2, hX⟩ := hF
  obtain ⟨hr, hlocks, rfl, rfl⟩ := hR
  intro H locs ls hP hD hS hl
  exact W.aret hx hb hr hrt hv (fun t ht hW => ⟨⟨_, gs, rfl, hp, by rw [ht]; exact hP, hD⟩, hS.F ht⟩) hS.2.2 d hlocks
end GK5
end
section
/-! MY KIT, third: fields, arrays, making -/
section GK6
theorem cls_ok {ci : Nat} {C : String} {T : u_T} {N : Nat} (hc : vwCl[ci]? = some (C, T, N)) : (∀ w ∈ u_ws C T N, w ∈ bw) ∧ (∃ ty : Nat → FieldType, ∀ k, k < N → parseFieldDescriptor (T k).2.2.1 = some (ty k)) ∧ (∀ a, a < N → ∀ b, b < N → a ≠ b → (T a).2.1 ≠ (T b).2.1) := by
  match ci, hc with
  | 0, hc => cases hc; exact ⟨by decide +kernel, ⟨_, tyX0_ok⟩, nmX0⟩
  | 1, hc => cases hc; exact ⟨by decide +kernel, ⟨_, tyX1_ok⟩, nmX1⟩
  | 2, hc => cases hc; exact ⟨by decide +kernel, ⟨_, tyX2_ok⟩, nmX2⟩
  | 3, hc => cases hc; exact ⟨by decide +kernel, ⟨_, tyX3_ok⟩, nmX3⟩
  | 4, hc => cases hc; exact ⟨by decide +kernel, ⟨_, tyX4_ok⟩, nmX4⟩
  | 5, hc => cases hc; exact ⟨by decide +kernel, ⟨_, tyX5_ok⟩, nmX5⟩
  | 6, hc => cases hc; exact ⟨by decide +kernel, ⟨_, tyX6_ok⟩, nmX6⟩
  | 7, hc => cases hc; exact ⟨by decide +kernel, ⟨_, tyX7_ok⟩, nmX7⟩
  | 8, hc => cases hc; exact ⟨by decide +kernel, ⟨_, tyX8_ok⟩, nmX8⟩
  | _ + 9, hc => simp at hc
variable {F : Fix} {cc : ByteArray} {own : String} {dd kM nM k n pc : Nat} {gs : List va_W} {lv : List (Option Value)} {st : List Value}
theorem g_get (hF : Ok F cc own dd kM nM) (kg : Nat) {a ci N j idx : Nat} {C : String} {T : u_T} {fs : List Value} {t : va_W} {v : Value} (hg : gs[kg]? = some ((a, .inr (ci, fs)) :: t)) (hc : vwCl[ci]? = some (C, T, N)) (hj : j < N) (hdc : (T j).1 = C) (hm : Cond.fieldLink own idx C (T j).2.1 (T j).2.2.1 ∈ bw) (hv : fs[j]? = some v) (d : decode cc pc = .ok (.getfield idx, 3)) (kk : G F k n gs (pc + 3) lv (v :: st)) : G F k n gs pc lv (.ref a :: st) := by
  obtain ⟨⟨l, D, cy⟩, p, e, R, s, m, args, below, meth, c, A, nL, X, Q⟩ := F
  obtain ⟨hx, hb, hml, hown, hts, hK, hA, hd1, hd2, hk1, hk2, hX⟩ := hF
  intro H locs ls hP hD hS hl
  obtain ⟨q0, h1, -⟩ := head_at gs kg _ t hg
  exact va_get hx hb hts (cls_ok hc).1 hown hK hP q0 h1 hc j hj (hts _ hm) (fun x h => by rw [← hdc]; exact h) hv d (kk H locs ls hP hD hS hl)
theorem g_getN (hF : Ok F cc own dd kM nM) (kg : Nat) {a ci N j idx : Nat} {C host : String} {T : u_T} {fs : List Value} {t : va_W} {v : Value} (hg : gs[kg]? = some ((a, .inr (ci, fs)) :: t)) (hc : vwCl[ci]? = some (C, T, N)) (hj : j < N) (hdc : (T j).1 = C) (hm : Cond.fieldLinkNest own idx C (T j).2.1 (T j).2.2.1 host ∈ bw) (hv : fs[j]? = some v) (d : decode cc pc = .ok (.getfield idx, 3)) (kk : G F k n gs (pc + 3) lv (v :: st)) : G F k n gs pc lv (.ref a :: st) := by
  obtain ⟨⟨l, D, cy⟩, p, e, R, s, m, args, below, meth, c, A, nL, X, Q⟩ := F
  obtain ⟨hx, hb, hml, hown, hts, hK, hA, hd1, hd2, hk1, hk2, hX⟩ := hF
  intro H locs ls hP hD hS hl
  obtain ⟨q0, h1, -⟩ := head_at gs kg _ t hg
  exact va_getN hx hb hts (cls_ok hc).1 hown hK hP q0 h1 hc j hj (hts _ hm) (fun x h => by rw [← hdc]; exact h) hv d (kk H locs ls hP hD hS hl)
theorem g_put (hF : Ok F cc own dd kM nM) (kg : Nat) {a ci N j idx : Nat} {C : String} {T : u_T} {fs : List Value} {t : va_W} {v : Value} {ty : FieldType} (hg : gs[kg]? = some ((a, .inr (ci, fs)) :: t)) (hc : vwCl[ci]? = some (C, T, N)) (hj : j < N) (hdc : (T j).1 = C) (hm : Cond.fieldLink own idx C (T j).2.1 (T j).2.2.1 ∈ bw) (hfin : (T j).2.2.2 = false) (hty : parseFieldDescriptor (T j).2.2.1 = some ty) (hn : narrow ty v = v) (hfit : fits ty v = true) (hlen : j < fs.length) (d : decode cc pc = .ok (.putfield idx, 3)) (kk : G F k n (gs.set kg ((a, .inr (ci, fs.set j v)) :: t)) (pc + 3) lv st) : G F k n gs pc lv (v :: .ref a :: st) := by
  obtain ⟨⟨l, D, cy⟩, p, e, R, s, m, args, below, meth, c, A, nL, X, Q⟩ := F
  obtain ⟨hx, hb, hml, hown, hts, hK, hA, hd1, hd2, hk1, hk2, hX⟩ := hF
  intro H locs ls hP hD hS hl
  obtain ⟨q0, h1, h2⟩ := head_at gs kg _ t hg
  obtain ⟨hin, ⟨ty0, hty0⟩, hnm⟩ := cls_ok hc
  exact va_put hx hb hts hin ty0 hty0 hnm hown hK hP hD hS q0 h1 hc j hj (hts _ hm) (fun x h => by rw [← hdc]; exact h) hfin hty hn hfit hlen d (fun H1 locs1 hP1 hD1 hS1 => kk H1 locs1 ls (by rw [← h2]; exact hP1) (by rw [← h2]; exact hD1) hS1 hl)
theorem g_putN (hF : Ok F cc own dd kM nM) (kg : Nat) {a ci N j idx : Nat} {C host : String} {T : u_T} {fs : List Value} {t : va_W} {v : Value} {ty : FieldType} (hg : gs[kg]? = some ((a, .inr (ci, fs)) :: t)) (hc : vwCl[ci]? = some (C, T, N)) (hj : j < N) (hdc : (T j).1 = C) (hm : Cond.fieldLinkNest own idx C (T j).2.1 (T j).2.2.1 host ∈ bw) (hfin : (T j).2.2.2 = false) (hty : parseFieldDescriptor (T j).2.2.1 = some ty) (hn : narrow ty v = v) (hfit : fits ty v = true) (hlen : j < fs.length) (d : decode cc pc = .ok (.putfield idx, 3)) (kk : G F k n (gs.set kg ((a, .inr (ci, fs.set j v)) :: t)) (pc + 3) lv st) : G F k n gs pc lv (v :: .ref a :: st) := by
  obtain ⟨⟨l, D, cy⟩, p, e, R, s, m, args, below, meth, c, A, nL, X, Q⟩ := F
  obtain ⟨hx, hb, hml, hown, hts, hK, hA, hd1, hd2, hk1, hk2, hX⟩ := hF
  intro H locs ls hP hD hS hl
  obtain ⟨q0, h1, h2⟩ := head_at gs kg _ t hg
  obtain ⟨hin, ⟨ty0, hty0⟩, hnm⟩ := cls_ok hc
  exact va_putN hx hb hts hin ty0 hty0 hnm hown hK hP hD hS q0 h1 hc j hj (hts _ hm) (fun x h => by rw [← hdc]; exact h) hfin hty hn hfit hlen d (fun H1 locs1 hP1 hD1 hS1 => kk H1 locs1 ls (by rw [← h2]; exact hP1) (by rw [← h2]; exact hD1) hS1 hl)
/-- a final field, in a constructor -/
theorem g_putF (hF : Ok F cc own dd kM nM) (hN : OkN F "<init>") (kg : Nat) {a ci N j idx : Nat} {T : u_T} {fs : List Value} {t : va_W} {v : Value} {ty : FieldType} (hg : gs[kg]? = some ((a, .inr (ci, fs)) :: t)) (hc : vwCl[ci]? = some (own, T, N)) (hj : j < N) (hdc : (T j).1 = own) (hm : Cond.fieldLink own idx own (T j).2.1 (T j).2.2.1 ∈ bw) (hfin : (T j).2.2.2 = true) (hty : parseFieldDescriptor (T j).2.2.1 = some ty) (hn : narrow ty v = v) (hfit : fits ty v = true) (hlen : j < fs.length) (d : decode cc pc = .ok (.putfield idx, 3)) (kk : G F k n (gs.set kg ((a, .inr (ci, fs.set j v)) :: t)) (pc + 3) lv st) : G F k n gs pc lv (v :: .ref a :: st) := by
  obtain ⟨⟨l, D, cy⟩, p, e, R, s, m, args, below, meth, c, A, nL, X, Q⟩ := F
  obtain ⟨hx, hb, hml, hown, hts, hK, hA, hd1, hd2, hk1, hk2, hX⟩ := hF
  intro H locs ls hP hD hS hl
  obtain ⟨q0, h1, h2⟩ := head_at gs kg _ t hg
  obtain ⟨hin, ⟨ty0, hty0⟩, hnm⟩ := cls_ok hc
  exact va_putF hx hb hts hin ty0 hty0 hnm hown hK hP hD hS q0 h1 hc j hj (hts _ hm) (fun x h => by rw [← hdc]; exact h) hfin hN hdc hty hn hfit hlen d (fun H1 locs1 hP1 hD1 hS1 => kk H1 locs1 ls (by rw [← h2]; exact hP1) (by rw [← h2]; exact hD1) hS1 hl)
theorem g_iald {cy : Nat → ClassId} (hF : Ok F cc own dd kM nM) (hcy : F.1.2.2 = cy) (kg : Nat) {a N : Nat} {f : Nat → Int32} {t : va_W} {i v : Int32} (hg : gs[kg]? = some ((a, .inl (cy 0, N, .inl f)) :: t)) (hin : vp_in i N) (hv : f i.toNatClampNeg = v) (d : decode cc pc = .ok (.iaload, 1)) (kk : G F k n gs (pc + 1) lv (.int v :: st)) : G F k n gs pc lv (.int i :: .ref a :: st) := by
  obtain ⟨⟨l, D, cy'⟩, p, e, R, s, m, args, below, meth, c, A, nL, X, Q⟩ := F
  obtain ⟨hx, hb, hml, hown, hts, hK, hA, hd1, hd2, hk1, hk2, hX⟩ := hF
  subst hcy
  subst hv
  intro H locs ls hP hD hS hl
  obtain ⟨q0, h1, h2⟩ := head_at gs kg _ t hg
  exact va_iald hx hb hK hP q0 0 h1 rfl hin d (kk H locs ls hP hD hS hl)
theorem g_iast {cy : Nat → ClassId} (hF : Ok F cc own dd kM nM) (hcy : F.1.2.2 = cy) (kg : Nat) {a N : Nat} {f : Nat → Int32} {t : va_W} {i x : Int32} (j : Nat) (hg : gs[kg]? = some ((a, .inl (cy 0, N, .inl f)) :: t)) (hin : vp_in i N) (hj : i.toNatClampNeg = j) (d : decode cc pc = .ok (.iastore, 1)) (kk : G F k n (gs.set kg ((a, .inl (cy 0, N, .inl (upd f j x))) :: t)) (pc + 1) lv st) : G F k n gs pc lv (.int x :: .int i :: .ref a :: st) := by
  obtain ⟨⟨l, D, cy'⟩, p, e, R, s, m, args, below, meth, c, A, nL, X, Q⟩ := F
  obtain ⟨hx, hb, hml, hown, hts, hK, hA, hd1, hd2, hk1, hk2, hX⟩ := hF
  subst hcy
  subst hj
  intro H locs ls hP hD hS hl
  obtain ⟨q0, h1, h2⟩ := head_at gs kg _ t hg
  exact va_iast hx hb hK hP hD hS q0 0 h1 rfl hin d (fun H1 locs1 hP1 hD1 hS1 => kk H1 locs1 ls (by rw [← h2]; exact hP1) (by rw [← h2]; exact hD1) hS1 hl)
theorem g_alen {cy : Nat → ClassId} (hF : Ok F cc own dd kM nM) (hcy : F.1.2.2 = cy) (kg tk : Nat) {a : Nat} {x : vp_A} {t : va_W} {ty : FieldType} {v : Int32} (hg : gs[kg]? = some ((a, .inl (cy tk, x)) :: t)) (ht : (tyL cy)[tk]? = some (cy tk, ty)) (hv : Int32.ofNat x.1 = v) (d : decode cc pc = .ok (.arraylength, 1)) (kk : G F k n gs (pc + 1) lv (.int v :: st)) : G F k n gs pc lv (.ref a :: st) := by
  obtain ⟨⟨l, D, cy'⟩, p, e, R, s, m, args, below, meth, c, A, nL, X, Q⟩ := F
  obtain ⟨hx, hb, hml, hown, hts, hK, hA, hd1, hd2, hk1, hk2, hX⟩ := hF
  subst hcy
  intro H locs ls hP hD hS hl
  obtain ⟨q0, h1, h2⟩ := head_at gs kg _ t hg
  exact va_alen hx hb hK hP q0 tk h1 ht hv d (kk H locs ls hP hD hS hl)
theorem g_aald {cy : Nat → ClassId} (hF : Ok F cc own dd kM nM) (hcy : F.1.2.2 = cy) (kg tk : Nat) {a N : Nat} {C : String} {f : Nat → Option Nat} {t : va_W} {i : Int32} {v : Nat} (hg : gs[kg]? = some ((a, .inl (cy tk, N, .inr (.inr (.inr (.inr f))))) :: t)) (ht : (tyL cy)[tk]? = some (cy tk, .object C)) (hin : vp_in i N) (hv : f i.toNatClampNeg = some v) (d : decode cc pc = .ok (.aaload, 1)) (kk : G F k n gs (pc + 1) lv (.ref v :: st)) : G F k n gs pc lv (.int i :: .ref a :: st) := by
  obtain ⟨⟨l, D, cy'⟩, p, e, R, s, m, args, below, meth, c, A, nL, X, Q⟩ := F
  obtain ⟨hx, hb, hml, hown, hts, hK, hA, hd1, hd2, hk1, hk2, hX⟩ := hF
  subst hcy
  intro H locs ls hP hD hS hl
  obtain ⟨q0, h1, h2⟩ := head_at gs kg _ t hg
  exact va_aldq hx hb hK hP q0 tk h1 ht hin d (by rw [hv]; exact kk H locs ls hP hD hS hl)
theorem g_aast {cy : Nat → ClassId} (hF : Ok F cc own dd kM nM) (hcy : F.1.2.2 = cy) (kg tk kv : Nat) {a N v ci : Nat} {r : vw_C} {f : Nat → Option Nat} {t tv : va_W} {vs : List Value} {i : Int32} (j : Nat) (hg : gs[kg]? = some ((a, .inl (cy tk, N, .inr (.inr (.inr (.inr f))))) :: t)) (ht : (tyL cy)[tk]? = some (cy tk, .object r.1)) (hv : gs[kv]? = some ((v, .inr (ci, vs)) :: tv)) (hc : vwCl[ci]? = some r) (hin : vp_in i N) (hj : i.toNatClampNeg = j) (d : decode cc pc = .ok (.aastore, 1)) (kk : G F k n (gs.set kg ((a, .inl (cy tk, N, .inr (.inr (.inr (.inr (va_up f j (some v))))))) :: t)) (pc + 1) lv st) : G F k n gs pc lv (.ref v :: .int i :: .ref a :: st) := by
  obtain ⟨⟨l, D, cy'⟩, p, e, R, s, m, args, below, meth, c, A, nL, X, Q⟩ := F
  obtain ⟨hx, hb, hml, hown, hts, hK, hA, hd1, hd2, hk1, hk2, hX⟩ := hF
  subst hcy
  subst hj
  intro H locs ls hP hD hS hl
  obtain ⟨q0, h1, h2⟩ := head_at gs kg _ t hg
  obtain ⟨q1, h3, -⟩ := head_at gs kv _ tv hv
  exact va_astq hx hb hK hP hD hS q0 tk q1 ci h1 ht h3 hc hin d (fun H1 locs1 hP1 hD1 hS1 => kk H1 locs1 ls (by rw [← h2]; exact hP1) (by rw [← h2]; exact hD1) hS1 hl)
/-- the class of an array by its name is one -/
theorem K_uniq {D : va_G} {cl : List vw_C} {tys : List (ClassId × FieldType)} {s : State} {cA cB : ClassId} {ty : FieldType} (hK : va_K D cl (tys ++ [(cA, ty)]) s) (tk : Nat) (hB : tys[tk]? = some (cB, ty)) : cA = cB := by
  have h1 := (hK.2 tys.length (cA, ty) (by simp)).2
  have h2 := (hK.2 tk (cB, ty) (by rw [List.getElem?_append_left (List.getElem?_eq_some_iff.mp hB).1]; exact hB)).2
  cases ty with
  | object C =>
    obtain ⟨_, _, _, _, _, e1⟩ := h1
    obtain ⟨_, _, _, _, _, e2⟩ := h2
    exact Option.some.inj (e1.symm.trans e2)
  | _ => exact Option.some.inj (Eq.trans (Eq.symm h1) h2)
theorem g_newi {cy : Nat → ClassId} (hF : Ok F cc own dd kM nM) (hcy : F.1.2.2 = cy) {i : Int32} {N : Nat} (hm : Cond.arrayClass .int ∈ bw) (hn : ¬ i < 0) (hN : i.toNatClampNeg = N) (hbytes : N ≤ 134217728) (hk : k + 1 ≤ kM) (hn2 : n + N ≤ nM) (d : decode cc pc = .ok (.newarray .int, 2)) (kk : ∀ q : Nat, G F (k + 1) (n + N) (gs ++ [[(q, .inl (cy 0, N, .inl (fun _ => 0)))]]) (pc + 2) lv (.ref q :: st)) : G F k n gs pc lv (.int i :: st) := by
  obtain ⟨⟨l, D, cy'⟩, p, e, R, s, m, args, below, meth, c, A, nL, X, Q⟩ := F
  obtain ⟨hx, hb, hml, hown, hts, hK, hA, hd1, hd2, hk1, hk2, hX⟩ := hF
  subst hcy
  intro H locs ls hP hD hS hl
  refine va_newa (atype := .int) (ty := .int) (N' := N) (a0 := (N, .inl (fun _ => 0))) hx hb (hts _ hm) rfl hK hP hD hS hA (fun cA => rfl) hn hN ?_ (Nat.le_trans hk hk1) (Nat.le_trans hn2 hk2) d (fun q cA H1 hK1 hP1 hD1 hS1 => ?_)
  · show N * 4 ≤ _
    omega
  · have e := K_uniq hK1 0 rfl
    subst e
    exact kk q H1 locs ls (by rw [List.flatten_append]; simpa using hP1) (by rw [List.flatten_append]; simpa using hD1) hS1 hl
theorem g_newq {cy : Nat → ClassId} (hF : Ok F cc own dd kM nM) (hcy : F.1.2.2 = cy) (tk : Nat) {i : Int32} {N idx : Nat} {C : String} (ht : (tyL cy)[tk]? = some (cy tk, .object C)) (hm : Cond.classLink own idx C ∈ bw) (hm2 : Cond.arrayOver (.object C) ∈ bw) (hn : ¬ i < 0) (hN : i.toNatClampNeg = N) (hbytes : N ≤ 134217728) (hk : k + 1 ≤ kM) (hn2 : n + N ≤ nM) (d : decode cc pc = .ok (.anewarray idx, 3)) (kk : ∀ q : Nat, G F (k + 1) (n + N) (gs ++ [[(q, .inl (cy tk, N, .inr (.inr (.inr (.inr (fun _ => none))))))]]) (pc + 3) lv (.ref q :: st)) : G F k n gs pc lv (.int i :: st) := by
  obtain ⟨⟨l, D, cy'⟩, p, e, R, s, m, args, below, meth, c, A, nL, X, Q⟩ := F
  obtain ⟨hx, hb, hml, hown, hts, hK, hA, hd1, hd2, hk1, hk2, hX⟩ := hF
  subst hcy
  intro H locs ls hP hD hS hl
  refine va_newq (N' := N) hx hb hown (hts _ hm) (va_AO.of (hts _ hm2)) hK hP hD hS hA hn hN (by omega) (Nat.le_trans hk hk1) (Nat.le_trans hn2 hk2) d (fun q cA H1 hK1 hP1 hD1 hS1 => ?_)
  have e := K_uniq hK1 tk ht
  subst e
  exact kk q H1 locs ls (by rw [List.flatten_append]; simpa using hP1) (by rw [List.flatten_append]; simpa using hD1) hS1 hl
theorem g_new (hF : Ok F cc own dd kM nM) {ci N idx : Nat} {C : String} {T : u_T} {fs : List Value} (hc : vwCl[ci]? = some (C, T, N)) (ty : Nat → FieldType) (hty : ∀ k, k < N → parseFieldDescriptor (T k).2.2.1 = some (ty k)) (hm1 : Cond.classLink own idx C ∈ bw) (hm2 : Cond.instantiable C N ∈ bw) (hm3 : Cond.initialized C ∈ bw) (hfs : ∀ j, j < N → defaultValue (ty j) = vp_V fs j) (hk : k + 1 ≤ kM) (hn2 : n + N ≤ nM) (d : decode cc pc = .ok (.new idx, 3)) (kk : ∀ q : Nat, G F (k + 1) (n + N) (gs ++ [[(q, .inr (ci, fs))]]) (pc + 3) lv (.ref q :: st)) : G F k n gs pc lv st := by
  obtain ⟨⟨l, D, cy'⟩, p, e, R, s, m, args, below, meth, c, A, nL, X, Q⟩ := F
  obtain ⟨hx, hb, hml, hown, hts, hK, hA, hd1, hd2, hk1, hk2, hX⟩ := hF
  intro H locs ls hP hD hS hl
  refine va_new hx hb hts (cls_ok hc).1 ty hty hown (hts _ hm1) (hts _ hm2) (hts _ hm3) hK hP hD hS hA hc hfs (Nat.le_trans hk hk1) (Nat.le_trans hn2 hk2) d (fun q H1 hP1 hD1 hS1 => ?_)
  exact kk q H1 locs ls (by rw [List.flatten_append]; simpa using hP1) (by rw [List.flatten_append]; simpa using hD1) hS1 hl
theorem g_objInit (hF : Ok F cc own dd kM nM) {idx a : Nat} (hm1 : Cond.methodLink own idx objectInit ∈ bw) (hm2 : Cond.instanceMethod objectInit ∈ bw) (hm3 : Cond.code objectInit ⟨#[0xb1]⟩ 1 none ∈ bw) (hdd : 1 ≤ dd) (hst : (st.map fun v => v.category).sum ≤ 8) (d : decode cc pc = .ok (.invokespecial idx, 3)) (kk : G F k n gs (pc + 3) lv st) : G F k n gs pc lv (.ref a :: st) := by
  obtain ⟨⟨l, D, cy'⟩, p, e, R, s, m, args, below, meth, c, A, nL, X, Q⟩ := F
  obtain ⟨hx, hb, hml, hown, hts, hK, hA, hd1, hd2, hk1, hk2, hX⟩ := hF
  intro H locs ls hP hD hS hl
  exact W.objInit hx hb hown (hts _ hm1) (hts _ hm2) (hts _ hm3) (g := F0 m pc ls (.ref a :: st)) rfl (by rw [hml]; exact hl.1.1) rfl d (Nat.le_trans hdd hd1) (by show 2 * 0 + _ + 12 ≤ _; omega) (kk H locs ls hP hD hS hl)
/-- the script, read alone -/
theorem g_sld {b L : Nat} {xs : Nat → Int32} (hF : Ok F cc own dd kM nM) (hXF : F.2.2.2.2.2.2.2.2.2.2.2.2.1 = some (b, L, xs)) {i v : Int32} (hin : vp_in i L) (hv : xs i.toNatClampNeg = v) (d : decode cc pc = .ok (.iaload, 1)) (kk : G F k n gs (pc + 1) lv (.int v :: st)) : G F k n gs pc lv (.int i :: .ref b :: st) := by
  obtain ⟨⟨l, D, cy'⟩, p, e, R, s, m, args, below, meth, c, A, nL, X, Q⟩ := F
  obtain ⟨hx, hb, hml, hown, hts, hK, hA, hd1, hd2, hk1, hk2, hX⟩ := hF
  subst hXF
  subst hv
  obtain ⟨hX1, hX2, hX3⟩ := hX
  intro H locs ls hP hD hS hl
  exact va_sld hx hb hX1 hX2 hX3 hS hin d (kk H locs ls hP hD hS hl)
theorem g_slen {b L : Nat} {xs : Nat → Int32} (hF : Ok F cc own dd kM nM) (hXF : F.2.2.2.2.2.2.2.2.2.2.2.2.1 = some (b, L, xs)) (d : decode cc pc = .ok (.arraylength, 1)) (kk : G F k n gs (pc + 1) lv (.int (Int32.ofNat L) :: st)) : G F k n gs pc lv (.ref b :: st) := by
  obtain ⟨⟨l, D, cy'⟩, p, e, R, s, m, args, below, meth, c, A, nL, X, Q⟩ := F
  obtain ⟨hx, hb, hml, hown, hts, hK, hA, hd1, hd2, hk1, hk2, hX⟩ := hF
  subst hXF
  obtain ⟨hX1, hX2, hX3⟩ := hX
  intro H locs ls hP hD hS hl
  exact va_slen hx hb hX1 hX2 hX3 hS d (kk H locs ls hP hD hS hl)
end GK6
end
section
/-! MY KIT, fourth: calls -/
section GK7
/-- what the tables say of a callee: found by its receiver's class, its bytes, how many arguments -/
def CalV (y : MethodName) (bytes : ByteArray) (maxL : Nat) (ret : Option FieldType) (na : Nat) : Prop := Cond.instanceMethod y ∈ bw ∧ Cond.selects y.cls y y ∈ bw ∧ Cond.initialized y.cls ∈ bw ∧ Cond.code y bytes maxL ret ∈ bw ∧ (y.cls ≠ "java/lang/invoke/MethodHandle" ∧ y.cls ≠ "java/lang/invoke/VarHandle") ∧ (parseMethodDescriptor y.desc).map (fun d => d.parameters.length) = some na ∧ maxL ≤ 11
def CalS (y : MethodName) (bytes : ByteArray) (maxL : Nat) (ret : Option FieldType) (na : Nat) : Prop := Cond.static y ∈ bw ∧ Cond.initialized y.cls ∈ bw ∧ Cond.code y bytes maxL ret ∈ bw ∧ (y.cls ≠ "java/lang/invoke/MethodHandle" ∧ y.cls ≠ "java/lang/invoke/VarHandle") ∧ (parseMethodDescriptor y.desc).map (fun d => d.parameters.length) = some na ∧ maxL ≤ 11
def CalI (y : MethodName) (bytes : ByteArray) (maxL : Nat) (na : Nat) : Prop := Cond.instanceMethod y ∈ bw ∧ y.name = "<init>" ∧ Cond.initialized y.cls ∈ bw ∧ Cond.code y bytes maxL none ∈ bw ∧ (y.cls ≠ "java/lang/invoke/MethodHandle" ∧ y.cls ≠ "java/lang/invoke/VarHandle") ∧ (parseMethodDescriptor y.desc).map (fun d => d.parameters.length) = some na ∧ maxL ≤ 11
theorem cal_len {y : MethodName} {na : Nat} (h : (parseMethodDescriptor y.desc).map (fun d => d.parameters.length) = some na) : ∀ sig, parseMethodDescriptor y.desc = some sig → na = sig.parameters.length := by
  intro sig hs
  rw [hs] at h
  exact (Option.some.inj h).symm
theorem cal_ws {s : State} {args : Array Value} {y : MethodName} {bytes : ByteArray} {maxL : Nat} {ret : Option FieldType} (hts : ∀ w ∈ bw, w.before args s = true) (hc : Cond.code y bytes maxL ret ∈ bw) : ∀ w ∈ (Cond.code y bytes maxL ret :: bw), ∀ (a' : Array Value) (U : State), s.WarmedH U.vm → w.before a' U = true := by
  intro w hw a' U hW
  rcases List.mem_cons.mp hw with h | h
  · rw [h]; exact bw_warm hW hts _ hc a'
  · exact bw_warm hW hts _ h a'
theorem pc_blind {E : Env3} {X : Ro} {sz : Nat} {av : List Value} {gs : List va_W} : FrameBlind (va_Pc av (fun U => U.heap.size = sz ∧ va_P E.2.1 vwCl gs.flatten U.heap ∧ va_K E.2.1 vwCl (tyL E.2.2) U ∧ va_D (fun _ => True) gs.flatten ∧ roX X U U.heap (va_A gs.flatten sz))) := by
  intro a U g mk q
  obtain ⟨q0, q1, qP, qK, qD, qX⟩ := q
  exact ⟨q0, q1, qP, va_K.moved (u := U) (U := U.calling g mk a) (Vm.Alike.refl U.vm) qK, qD, qX.blind g mk a⟩
variable {F : Fix} {cc : ByteArray} {own : String} {dd kM nM k n pc : Nat} {gs : List va_W} {lv : List (Option Value)} {st : List Value}
/-- behind a call -/
theorem call_tail {p : Program} {l : Launch} {e : Env} {R : Room} {s : State} {m : MethodId} {args : Array Value} {below : List Frame} {meth : Method} {c : Code} {H : Heap} {locs : List Loc} {Q : State → Prop} {D : va_G} {A : Nat → Prop} {nL mc ms : Nat} {ls : Array Slot} {st0 rest : List Value} {gsC : List va_W} {Po : Option Value → List va_W → Prop} {ps : List Nat} {cy : Nat → ClassId} {X : Ro}
    (hr : va_Run p l e R s m args below meth c H locs k n mc ms (F0 m pc ls st0) rest (PostC D H.size gsC Po) (va_A gsC.flatten H.size))
    (hA : ∀ q : Nat, s.heap.size ≤ q → A q) (hP : va_P D vwCl gs.flatten H) (hD : va_D A gs.flatten) (hS : va_S A s.heap H locs) (hl : hasP ls nL lv) (hps : ps.map (fun i => gs[i]?) = gsC.map some) (hnd : va_nd ps = true)
    (kk : ∀ (r : Option Value) (gs' : List va_W), Po r gs' → gsC.length ≤ gs'.length ∧ G ((l, D, cy), p, e, R, s, m, args, below, meth, c, A, nL, X, Q) (k + mc) (n + ms) (gput gs ps gs') (pc + 3) lv (r.toList ++ rest)) : W p l e R s m args below meth c H locs k n Q (F0 m pc ls st0) := by
  have pm := gs_perm hps hnd
  have hP1 := wP_perm pm hP
  have hD1 := wD_perm pm hD
  have hDc := wD_left hD1
  have hFc : ∀ q, va_A gsC.flatten H.size q → A q := fun q h => (va_A_mem.mp h).elim (fun ⟨e, h⟩ => (wD_iff.mp hDc).2 (q, e) h) (fun h => hA q (Nat.le_trans hS.1 h))
  intro T hT X1
  obtain ⟨v, st₀, t, T', L, h0, X', hL, e1, e2, ⟨⟨r, gs', hv, hp, hPn, hDn⟩, hz, hkp⟩, hst⟩ := hr T hT X1
  cases hv
  rw [h0] at hz hkp
  have joined := w_join (H1 := t.heap) hP1 hD1 hkp hFc hPn hDn
  obtain ⟨hlen, hG⟩ := kk v gs' hp
  have pm2 := gput_perm ps gs gs' (by rw [ps_len hps]; exact hlen) hnd (ps_lt hps)
  obtain ⟨t2, a1, b1⟩ := hG T'.heap (locs ++ L) ls (by rw [e1]; exact wP_perm pm2.symm joined.1) (wD_perm pm2.symm joined.2)
    ⟨Nat.le_trans hS.1 (by rw [e1]; exact hz), fun q h1 h2 => by rw [e1, hkp q (Nat.lt_of_lt_of_le h1 hS.1) (fun z => h2 (hFc q z))]; exact hS.2.1 q h1 h2, fun q hq => by
      rcases List.mem_append.mp hq with h | h
      · exact hS.2.2 q h
      · exact hFc _ (hL q h)⟩ hl T' rfl X'
  exact ⟨t2, hst t2 a1, b1⟩
/-- what a callee owes is there -/
theorem call_pre {s : State} {H : Heap} {locs : List Loc} {D : va_G} {cy : Nat → ClassId} {l : Launch} {A : Nat → Prop} {X X' : Ro} {gsC : List va_W} {ps : List Nat} {av : List Value} (hX : roX X s s.heap A) (hXX : X' = none ∨ X' = X) (hK : va_K D vwCl (tyL cy) s) (hA : ∀ q : Nat, s.heap.size ≤ q → A q) (hP : va_P D vwCl gs.flatten H) (hD : va_D A gs.flatten) (hS : va_S A s.heap H locs) (hps : ps.map (fun i => gs[i]?) = gsC.map some) (hnd : va_nd ps = true) :
    ∀ U : State, U.heap = H → s.WarmedH U.vm → va_Pc av (fun U => U.heap.size = H.size ∧ va_P D vwCl gsC.flatten U.heap ∧ va_K D vwCl (tyL cy) U ∧ va_D (fun _ => True) gsC.flatten ∧ roX X' U U.heap (va_A gsC.flatten H.size)) av.toArray U := by
  intro U hU hW
  have pm := gs_perm hps hnd
  have hPc := wP_left (wP_perm pm hP)
  have hDc := wD_left (wD_perm pm hD)
  have hFc : ∀ q, va_A gsC.flatten H.size q → A q := fun q h => (va_A_mem.mp h).elim (fun ⟨e, h⟩ => (wD_iff.mp hDc).2 (q, e) h) (fun h => hA q (Nat.le_trans hS.1 h))
  refine ⟨rfl, by rw [hU], by rw [hU]; exact hPc, va_K.moved hW.alike hK, hDc.weaken (fun _ _ _ _ => trivial), ?_⟩
  rcases hXX with rfl | rfl
  · trivial
  · exact hX.kept hS hFc hU hW
theorem g_callV (hF : Ok F cc own dd kM nM) {X' : Ro} {d mc ms na : Nat} {y : MethodName} {bytes : ByteArray} {maxL : Nat} {ret : Option FieldType} {b : Nat} {As rest : List Value} {gsC : List va_W} {Po : Option Value → List va_W → Prop} (hC : Ct F.1 X' d mc ms y bytes maxL ret (.ref b :: As) gsC Po) (hcal : CalV y bytes maxL ret na) (hna : As.length = na) {idx : Nat} (hl0 : Cond.methodLink own idx y ∈ bw) (hdd : d < dd) (hXX : X' = none ∨ X' = F.2.2.2.2.2.2.2.2.2.2.2.2.1) (hk : k + mc ≤ kM) (hn : n + ms ≤ nM)
    (kg : Nat) {ci N : Nat} {T : u_T} {fs : List Value} {t : va_W} (hg : gs[kg]? = some ((b, .inr (ci, fs)) :: t)) (hc : vwCl[ci]? = some (y.cls, T, N)) (ps : List Nat) (hps : ps.map (fun i => gs[i]?) = gsC.map some) (hnd : va_nd ps = true) (hst : st = As.reverse ++ .ref b :: rest) (hr8 : (rest.map fun v => v.category).sum ≤ 8) (dg : decode cc pc = .ok (.invokevirtual idx, 3))
    (kk : ∀ (r : Option Value) (gs' : List va_W), Po r gs' → gsC.length ≤ gs'.length ∧ G F (k + mc) (n + ms) (gput gs ps gs') (pc + 3) lv (r.toList ++ rest)) : G F k n gs pc lv st := by
  obtain ⟨⟨l, D, cy⟩, p, e, R, s, m, args, below, meth, c, A, nL, X, Q⟩ := F
  obtain ⟨hx, hb, hml, hown, hts, hK, hA, hd1, hd2, hk1, hk2, hX⟩ := hF
  obtain ⟨c1, c2, c3, c4, c5, c6, c7⟩ := hcal
  intro H locs ls hP hD hS hl
  obtain ⟨q0, h1, -⟩ := head_at gs kg _ t hg
  refine call_tail (cy := cy) (X := X) (va_runV (As := As) (rest := rest) (n := na) (own := own) (C := y.cls) (index := idx) (b := b) (g := F0 m pc ls st) (Ts := bw) ⟨hx, hb, hml, hown, hts⟩ (hC H.size) ⟨⟨rfl, rfl, ?_, ?_, cal_ws hts c4, List.mem_cons_self, hts _ c4, hts _ c3, c5, cal_len c6, hts _ hl0⟩, hts _ c1, hts _ c2⟩ ⟨pc_blind, va_recv hK hP hc h1, call_pre (l := l) hX hXX hK hA hP hD hS hps hnd⟩ rfl hna hl.1.1 hst (lv_room hr8) dg ⟨Nat.le_trans hk hk1, Nat.le_trans hn hk2⟩) hA hP hD hS hl hps hnd kk
  · show d + 1 ≤ R.frames
    omega
  · show 8 + (maxL + 11) + 30 * d ≤ R.locals
    omega
theorem g_callS (hF : Ok F cc own dd kM nM) {X' : Ro} {d mc ms na : Nat} {y : MethodName} {bytes : ByteArray} {maxL : Nat} {ret : Option FieldType} {As rest : List Value} {gsC : List va_W} {Po : Option Value → List va_W → Prop} (hC : Ct F.1 X' d mc ms y bytes maxL ret As gsC Po) (hcal : CalS y bytes maxL ret na) (hna : As.length = na) {idx : Nat} (hl0 : Cond.methodLink own idx y ∈ bw) (hdd : d < dd) (hXX : X' = none ∨ X' = F.2.2.2.2.2.2.2.2.2.2.2.2.1) (hk : k + mc ≤ kM) (hn : n + ms ≤ nM)
    (ps : List Nat) (hps : ps.map (fun i => gs[i]?) = gsC.map some) (hnd : va_nd ps = true) (hst : st = As.reverse ++ rest) (hr8 : (rest.map fun v => v.category).sum ≤ 8) (dg : decode cc pc = .ok (.invokestatic idx, 3))
    (kk : ∀ (r : Option Value) (gs' : List va_W), Po r gs' → gsC.length ≤ gs'.length ∧ G F (k + mc) (n + ms) (gput gs ps gs') (pc + 3) lv (r.toList ++ rest)) : G F k n gs pc lv st := by
  obtain ⟨⟨l, D, cy⟩, p, e, R, s, m, args, below, meth, c, A, nL, X, Q⟩ := F
  obtain ⟨hx, hb, hml, hown, hts, hK, hA, hd1, hd2, hk1, hk2, hX⟩ := hF
  obtain ⟨c1, c3, c4, c5, c6, c7⟩ := hcal
  intro H locs ls hP hD hS hl
  refine call_tail (cy := cy) (X := X) (va_runS (As := As) (rest := rest) (n := na) (own := own) (index := idx) (g := F0 m pc ls st) (Ts := bw) ⟨hx, hb, hml, hown, hts⟩ (hC H.size) ⟨⟨rfl, rfl, ?_, ?_, cal_ws hts c4, List.mem_cons_self, hts _ c4, hts _ c3, c5, cal_len c6, hts _ hl0⟩, hts _ c1⟩ ⟨pc_blind, call_pre (l := l) hX hXX hK hA hP hD hS hps hnd⟩ rfl hna hl.1.1 hst (lv_room hr8) dg ⟨Nat.le_trans hk hk1, Nat.le_trans hn hk2⟩) hA hP hD hS hl hps hnd kk
  · show d + 1 ≤ R.frames
    omega
  · show 8 + (maxL + 11) + 30 * d ≤ R.locals
    omega
theorem g_callSN (hF : Ok F cc own dd kM nM) {X' : Ro} {d mc ms na : Nat} {y : MethodName} {bytes : ByteArray} {maxL : Nat} {ret : Option FieldType} {As rest : List Value} {gsC : List va_W} {Po : Option Value → List va_W → Prop} (hC : Ct F.1 X' d mc ms y bytes maxL ret As gsC Po) (hcal : CalS y bytes maxL ret na) (hna : As.length = na) {idx : Nat} {host : String} (hl0 : Cond.methodLinkNest own idx y host ∈ bw) (hdd : d < dd) (hXX : X' = none ∨ X' = F.2.2.2.2.2.2.2.2.2.2.2.2.1) (hk : k + mc ≤ kM) (hn : n + ms ≤ nM)
    (ps : List Nat) (hps : ps.map (fun i => gs[i]?) = gsC.map some) (hnd : va_nd ps = true) (hst : st = As.reverse ++ rest) (hr8 : (rest.map fun v => v.category).sum ≤ 8) (dg : decode cc pc = .ok (.invokestatic idx, 3))
    (kk : ∀ (r : Option Value) (gs' : List va_W), Po r gs' → gsC.length ≤ gs'.length ∧ G F (k + mc) (n + ms) (gput gs ps gs') (pc + 3) lv (r.toList ++ rest)) : G F k n gs pc lv st := by
  obtain ⟨⟨l, D, cy⟩, p, e, R, s, m, args, below, meth, c, A, nL, X, Q⟩ := F
  obtain ⟨hx, hb, hml, hown, hts, hK, hA, hd1, hd2, hk1, hk2, hX⟩ := hF
  obtain ⟨c1, c3, c4, c5, c6, c7⟩ := hcal
  intro H locs ls hP hD hS hl
  refine call_tail (cy := cy) (X := X) (va_runSN (As := As) (rest := rest) (n := na) (own := own) (index := idx) (host := host) (g := F0 m pc ls st) (Ts := bw) ⟨hx, hb, hml, hown, hts⟩ (hC H.size) ⟨⟨⟨rfl, rfl, ?_, ?_, cal_ws hts c4, List.mem_cons_self⟩, hts _ c4, hts _ c3, c5, cal_len c6, hts _ hl0⟩, hts _ c1, trivial⟩ ⟨pc_blind, call_pre (l := l) hX hXX hK hA hP hD hS hps hnd⟩ rfl hna hl.1.1 hst (lv_room hr8) dg ⟨Nat.le_trans hk hk1, Nat.le_trans hn hk2⟩) hA hP hD hS hl hps hnd kk
  · show d + 1 ≤ R.frames
    omega
  · show 8 + (maxL + 11) + 30 * d ≤ R.locals
    omega
theorem g_callI (hF : Ok F cc own dd kM nM) {X' : Ro} {d mc ms na : Nat} {y : MethodName} {bytes : ByteArray} {maxL : Nat} {b : Nat} {As rest : List Value} {gsC : List va_W} {Po : Option Value → List va_W → Prop} (hC : Ct F.1 X' d mc ms y bytes maxL none (.ref b :: As) gsC Po) (hcal : CalI y bytes maxL na) (hna : As.length = na) {idx : Nat} (hl0 : Cond.methodLink own idx y ∈ bw) (hdd : d < dd) (hXX : X' = none ∨ X' = F.2.2.2.2.2.2.2.2.2.2.2.2.1) (hk : k + mc ≤ kM) (hn : n + ms ≤ nM)
    (ps : List Nat) (hps : ps.map (fun i => gs[i]?) = gsC.map some) (hnd : va_nd ps = true) (hst : st = As.reverse ++ .ref b :: rest) (hr8 : (rest.map fun v => v.category).sum ≤ 8) (dg : decode cc pc = .ok (.invokespecial idx, 3))
    (kk : ∀ (r : Option Value) (gs' : List va_W), Po r gs' → gsC.length ≤ gs'.length ∧ G F (k + mc) (n + ms) (gput gs ps gs') (pc + 3) lv (r.toList ++ rest)) : G F k n gs pc lv st := by
  obtain ⟨⟨l, D, cy⟩, p, e, R, s, m, args, below, meth, c, A, nL, X, Q⟩ := F
  obtain ⟨hx, hb, hml, hown, hts, hK, hA, hd1, hd2, hk1, hk2, hX⟩ := hF
  obtain ⟨c1, c2, c3, c4, c5, c6, c7⟩ := hcal
  intro H locs ls hP hD hS hl
  refine call_tail (cy := cy) (X := X) (va_runI (As := As) (rest := rest) (n := na) (own := own) (index := idx) (b := b) (g := F0 m pc ls st) (Ts := bw) ⟨hx, hb, hml, hown, hts⟩ (hC H.size) ⟨⟨rfl, rfl, ?_, ?_, cal_ws hts c4, List.mem_cons_self, hts _ c4, hts _ c3, c5, cal_len c6, hts _ hl0⟩, c2, hts _ c1⟩ ⟨pc_blind, call_pre (l := l) hX hXX hK hA hP hD hS hps hnd⟩ rfl hna hl.1.1 hst (lv_room hr8) dg ⟨Nat.le_trans hk hk1, Nat.le_trans hn hk2⟩) hA hP hD hS hl hps hnd kk
  · show d + 1 ≤ R.frames
    omega
  · show 8 + (maxL + 11) + 30 * d ≤ R.locals
    omega
theorem g_callIN (hF : Ok F cc own dd kM nM) {X' : Ro} {d mc ms na : Nat} {y : MethodName} {bytes : ByteArray} {maxL : Nat} {b : Nat} {As rest : List Value} {gsC : List va_W} {Po : Option Value → List va_W → Prop} (hC : Ct F.1 X' d mc ms y bytes maxL none (.ref b :: As) gsC Po) (hcal : CalI y bytes maxL na) (hna : As.length = na) {idx : Nat} {host : String} (hl0 : Cond.methodLinkNest own idx y host ∈ bw) (hdd : d < dd) (hXX : X' = none ∨ X' = F.2.2.2.2.2.2.2.2.2.2.2.2.1) (hk : k + mc ≤ kM) (hn : n + ms ≤ nM)
    (ps : List Nat) (hps : ps.map (fun i => gs[i]?) = gsC.map some) (hnd : va_nd ps = true) (hst : st = As.reverse ++ .ref b :: rest) (hr8 : (rest.map fun v => v.category).sum ≤ 8) (dg : decode cc pc = .ok (.invokespecial idx, 3))
    (kk : ∀ (r : Option Value) (gs' : List va_W), Po r gs' → gsC.length ≤ gs'.length ∧ G F (k + mc) (n + ms) (gput gs ps gs') (pc + 3) lv (r.toList ++ rest)) : G F k n gs pc lv st := by
  obtain ⟨⟨l, D, cy⟩, p, e, R, s, m, args, below, meth, c, A, nL, X, Q⟩ := F
  obtain ⟨hx, hb, hml, hown, hts, hK, hA, hd1, hd2, hk1, hk2, hX⟩ := hF
  obtain ⟨c1, c2, c3, c4, c5, c6, c7⟩ := hcal
  intro H locs ls hP hD hS hl
  refine call_tail (cy := cy) (X := X) (va_runIN (As := As) (rest := rest) (n := na) (own := own) (index := idx) (host := host) (b := b) (g := F0 m pc ls st) (Ts := bw) ⟨hx, hb, hml, hown, hts⟩ (hC H.size) ⟨⟨⟨rfl, rfl, ?_, ?_, cal_ws hts c4, List.mem_cons_self⟩, hts _ c4, hts _ c3, c5, cal_len c6, hts _ hl0⟩, c2, hts _ c1⟩ ⟨pc_blind, call_pre (l := l) hX hXX hK hA hP hD hS hps hnd⟩ rfl hna hl.1.1 hst (lv_room hr8) dg ⟨Nat.le_trans hk hk1, Nat.le_trans hn hk2⟩) hA hP hD hS hl hps hnd kk
  · show d + 1 ≤ R.frames
    omega
  · show 8 + (maxL + 11) + 30 * d ≤ R.locals
    omega
/-! the same for callees that answer r0, leave g0, and make nothing -/
theorem g_callVd (hF : Ok F cc own dd kM nM) {X' : Ro} {d na : Nat} {y : MethodName} {bytes : ByteArray} {maxL : Nat} {ret : Option FieldType} {b : Nat} {As rest : List Value} {gsC g0 : List va_W} {r0 : Option Value} (hC : Cd F.1 X' d y bytes maxL ret (.ref b :: As) gsC r0 g0) (hcal : CalV y bytes maxL ret na) (hna : As.length = na) {idx : Nat} (hl0 : Cond.methodLink own idx y ∈ bw) (hdd : d < dd) (hXX : X' = none ∨ X' = F.2.2.2.2.2.2.2.2.2.2.2.2.1) (hk : k ≤ kM) (hn : n ≤ nM)
    (kg : Nat) {ci N : Nat} {T : u_T} {fs : List Value} {t : va_W} (hg : gs[kg]? = some ((b, .inr (ci, fs)) :: t)) (hc : vwCl[ci]? = some (y.cls, T, N)) (ps : List Nat) (hps : ps.map (fun i => gs[i]?) = gsC.map some) (hnd : va_nd ps = true) (hlen : gsC.length ≤ g0.length) (hst : st = As.reverse ++ .ref b :: rest) (hr8 : (rest.map fun v => v.category).sum ≤ 8) (dg : decode cc pc = .ok (.invokevirtual idx, 3))
    (kk : G F k n (gput gs ps g0) (pc + 3) lv (r0.toList ++ rest)) : G F k n gs pc lv st :=
  g_callV hF hC hcal hna hl0 hdd hXX hk hn kg hg hc ps hps hnd hst hr8 dg (fun r gs' h => by obtain ⟨rfl, rfl⟩ := h; exact ⟨hlen, kk⟩)
theorem g_callSd (hF : Ok F cc own dd kM nM) {X' : Ro} {d na : Nat} {y : MethodName} {bytes : ByteArray} {maxL : Nat} {ret : Option FieldType} {As rest : List Value} {gsC g0 : List va_W} {r0 : Option Value} (hC : Cd F.1 X' d y bytes maxL ret As gsC r0 g0) (hcal : CalS y bytes maxL ret na) (hna : As.length = na) {idx : Nat} (hl0 : Cond.methodLink own idx y ∈ bw) (hdd : d < dd) (hXX : X' = none ∨ X' = F.2.2.2.2.2.2.2.2.2.2.2.2.1) (hk : k ≤ kM) (hn : n ≤ nM)
    (ps : List Nat) (hps : ps.map (fun i => gs[i]?) = gsC.map some) (hnd : va_nd ps = true) (hlen : gsC.length ≤ g0.length) (hst : st = As.reverse ++ rest) (hr8 : (rest.map fun v => v.category).sum ≤ 8) (dg : decode cc pc = .ok (.invokestatic idx, 3))
    (kk : G F k n (gput gs ps g0) (pc + 3) lv (r0.toList ++ rest)) : G F k n gs pc lv st :=
  g_callS hF hC hcal hna hl0 hdd hXX hk hn ps hps hnd hst hr8 dg (fun r gs' h => by obtain ⟨rfl, rfl⟩ := h; exact ⟨hlen, kk⟩)
theorem g_callSNd (hF : Ok F cc own dd kM nM) {X' : Ro} {d na : Nat} {y : MethodName} {bytes : ByteArray} {maxL : Nat} {ret : Option FieldType} {As rest : List Value} {gsC g0 : List va_W} {r0 : Option Value} (hC : Cd F.1 X' d y bytes maxL ret As gsC r0 g0) (hcal : CalS y bytes maxL ret na) (hna : As.length = na) {idx : Nat} {host : String} (hl0 : Cond.methodLinkNest own idx y host ∈ bw) (hdd : d < dd) (hXX : X' = none ∨ X' = F.2.2.2.2.2.2.2.2.2.2.2.2.1) (hk : k ≤ kM) (hn : n ≤ nM)
    (ps : List Nat) (hps : ps.map (fun i => gs[i]?) = gsC.map some) (hnd : va_nd ps = true) (hlen : gsC.length ≤ g0.length) (hst : st = As.reverse ++ rest) (hr8 : (rest.map fun v => v.category).sum ≤ 8) (dg : decode cc pc = .ok (.invokestatic idx, 3))
    (kk : G F k n (gput gs ps g0) (pc + 3) lv (r0.toList ++ rest)) : G F k n gs pc lv st :=
  g_callSN hF hC hcal hna hl0 hdd hXX hk hn ps hps hnd hst hr8 dg (fun r gs' h => by obtain ⟨rfl, rfl⟩ := h; exact ⟨hlen, kk⟩)
theorem g_max (hF : Ok F cc own dd kM nM) {idx : Nat} {x y : Int32} (hm1 : Cond.methodLink own idx Lib.Math.max.name ∈ bw) (hm2 : Cond.static Lib.Math.max.name ∈ bw) (hm3 : Cond.initialized "java/lang/Math" ∈ bw) (hm4 : Cond.code Lib.Math.max.name Lib.Math.max.code 2 (some .int) ∈ bw) (hdd : 1 ≤ dd) (hk : k ≤ kM) (hn : n ≤ nM) (hr8 : (st.map fun v => v.category).sum ≤ 8) (d : decode cc pc = .ok (.invokestatic idx, 3)) (kk : G F k n gs (pc + 3) lv (.int (if x < y then y else x) :: st)) : G F k n gs pc lv (.int y :: .int x :: st) := by
  obtain ⟨⟨l, D, cy'⟩, p, e, R, s, m, args, below, meth, c, A, nL, X, Q⟩ := F
  obtain ⟨hx, hb, hml, hown, hts, hK, hA, hd1, hd2, hk1, hk2, hX⟩ := hF
  intro H locs ls hP hD hS hl
  exact va_mmax hx hb (by rw [hml]; exact hl.1.1.symm) hown (hts _ hm1) (hts _ hm2) (hts _ hm3) (hts _ hm4) (Nat.le_trans hdd hd1) (by omega) (Nat.le_trans hk hk1) (Nat.le_trans hn hk2) d (kk H locs ls hP hD hS hl)
theorem g_min (hF : Ok F cc own dd kM nM) {idx : Nat} {x y : Int32} (hm1 : Cond.methodLink own idx Lib.Math.min.name ∈ bw) (hm2 : Cond.static Lib.Math.min.name ∈ bw) (hm3 : Cond.initialized "java/lang/Math" ∈ bw) (hm4 : Cond.code Lib.Math.min.name Lib.Math.min.code 2 (some .int) ∈ bw) (hdd : 1 ≤ dd) (hk : k ≤ kM) (hn : n ≤ nM) (hr8 : (st.map fun v => v.category).sum ≤ 8) (d : decode cc pc = .ok (.invokestatic idx, 3)) (kk : G F k n gs (pc + 3) lv (.int (if y < x then y else x) :: st)) : G F k n gs pc lv (.int y :: .int x :: st) := by
  obtain ⟨⟨l, D, cy'⟩, p, e, R, s, m, args, below, meth, c, A, nL, X, Q⟩ := F
  obtain ⟨hx, hb, hml, hown, hts, hK, hA, hd1, hd2, hk1, hk2, hX⟩ := hF
  intro H locs ls hP hD hS hl
  exact va_mmin hx hb (by rw [hml]; exact hl.1.1.symm) hown (hts _ hm1) (hts _ hm2) (hts _ hm3) (hts _ hm4) (Nat.le_trans hdd hd1) (by omega) (Nat.le_trans hk hk1) (Nat.le_trans hn hk2) d (kk H locs ls hP hD hS hl)
theorem g_copy {cy : Nat → ClassId} (hF : Ok F cc own dd kM nM) (hcy : F.1.2.2 = cy) (kg0 kg1 : Nat) {idx a0 a1 N0 N1 : Nat} {f g : Nat → Int32} {t0 t1 : va_W} {sp dp z : Int32} (sn dn zn : Nat) (hm1 : Cond.methodLink own idx arraycopyName ∈ bw) (hm2 : Cond.native arraycopyName ∈ bw) (hm3 : Cond.static arraycopyName ∈ bw) (hm4 : Cond.initialized "java/lang/System" ∈ bw) (hdd : 1 ≤ dd) (hg0 : gs[kg0]? = some ((a0, .inl (cy 0, N0, .inl f)) :: t0)) (hg1 : gs[kg1]? = some ((a1, .inl (cy 0, N1, .inl g)) :: t1)) (h1 : ¬ sp < 0) (h2 : ¬ dp < 0) (h3 : ¬ z < 0) (e1 : sp.toNatClampNeg = sn) (e2 : dp.toNatClampNeg = dn) (e3 : z.toNatClampNeg = zn) (h4 : sn + zn ≤ N0) (h5 : dn + zn ≤ N1) (hr8 : (st.map fun v => v.category).sum ≤ 8) (d : decode cc pc = .ok (.invokestatic idx, 3)) (kk : G F k n (gs.set kg1 ((a1, .inl (cy 0, N1, .inl (va_cpy f g sn dn zn))) :: t1)) (pc + 3) lv st) : G F k n gs pc lv (.int z :: .int dp :: .ref a1 :: .int sp :: .ref a0 :: st) := by
  obtain ⟨⟨l, D, cy'⟩, p, e, R, s, m, args, below, meth, c, A, nL, X, Q⟩ := F
  obtain ⟨hx, hb, hml, hown, hts, hK, hA, hd1, hd2, hk1, hk2, hX⟩ := hF
  subst hcy
  subst e1
  subst e2
  subst e3
  intro H locs ls hP hD hS hl
  obtain ⟨q0, g1, -⟩ := head_at gs kg0 _ t0 hg0
  obtain ⟨q1, g2, g3⟩ := head_at gs kg1 _ t1 hg1
  exact va_copyi hx hb (by rw [hml]; exact hl.1.1.symm) hown (hts _ hm1) (hts _ hm2) (hts _ hm3) (hts _ hm4) hK hP hD hS q0 q1 0 0 g1 g2 rfl rfl rfl h1 h2 h3 h4 h5 (fun _ _ => rfl) (Nat.le_trans hdd hd1) (by rw [show nativeFrameWords "java/lang/System" "arraycopy" 5 = 7 by decide +kernel]; omega) d (fun H1 locs1 hP1 hD1 hS1 => kk H1 locs1 ls (by rw [← g3]; exact hP1) (by rw [← g3]; exact hD1) hS1 hl)
end GK7
end
